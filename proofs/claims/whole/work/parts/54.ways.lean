theorem lk_X3_found_f35 : Cond.fieldLink RX3 35 "LieBridges$Ways" "length" "I" ∈ wsX3_found := List.mem_of_getElem? (i := 1) rfl
theorem hin_X3_found_X3 : ∀ w ∈ u_ws RX3 TX3 7, w ∈ wsX3_found := fun _ h => List.mem_cons_of_mem _ (List.mem_append_right _ h)
set_option maxHeartbeats 400000 in
set_option maxRecDepth 4000 in
theorem c_X3_found (G : Gx) (wy wt td bs : Nat) (lk : Bool) (go : Nat) (s : Ws) (hs : okWs s) : Ct G yX3_found wsX3_found { frames := 0, cells := 0, slots := 0, locals := 0 } [.ref wy] [(wy, cO 3 [.ref wt, .ref td, .ref bs, .int (bI lk), .int (nI go), .int (lnI (wL s)), .long (lI (wV s))])] (fun r wa => r = some (.int (bI (wL s).isSome)) ∧ wa = [(wy, cO 3 [.ref wt, .ref td, .ref bs, .int (bI lk), .int (nI go), .int (lnI (wL s)), .long (lI (wV s))])]) := by
  refine CtN.of [(0, .ref wy)] (by decide +kernel) rfl rfl rfl rfl ?_
  intro x Ox Rt
  refine k_aload_n Ox dX3_found_0 rfl 0 rfl ?_
  refine k_get Ox 0 rfl rfl hin_X3_found_X3 5 rfl lk_X3_found_f35 rfl rfl dX3_found_1 ?_
  refine k_bipush Ox (v := -6) dX3_found_4 (by decide) ?_
  refine k_icmp_eq Ox 13 dX3_found_6 rfl (fun c_6 => ?_) (fun c_6 => ?_)
  · refine k_iconst Ox (v := nI 0) dX3_found_13 rfl ?_
    refine k_zret0 Ox Rt dX3_found_14 (by first | exact bI_nar _ | decide) (Nat.le_of_ble_eq_true rfl) (Nat.le_of_ble_eq_true rfl) rfl ?_
    cases hw : wL s with
    | none => first | exact ⟨⟨rfl, rfl⟩, rfl⟩ | exact absurd ((lnI_none hs.2).mpr hw) c_6
    | some l => first | exact ⟨⟨rfl, rfl⟩, rfl⟩ | exact absurd ((lnI_none hs.2).mp c_6) (by rw [hw]; exact fun z => by cases z)
  · refine k_iconst Ox (v := nI 1) dX3_found_9 rfl ?_
    refine k_goto Ox 14 dX3_found_10 rfl ?_
    refine k_zret0 Ox Rt dX3_found_14 (by first | exact bI_nar _ | decide) (Nat.le_of_ble_eq_true rfl) (Nat.le_of_ble_eq_true rfl) rfl ?_
    cases hw : wL s with
    | none => first | exact ⟨⟨rfl, rfl⟩, rfl⟩ | exact absurd ((lnI_none hs.2).mpr hw) c_6
    | some l => first | exact ⟨⟨rfl, rfl⟩, rfl⟩ | exact absurd ((lnI_none hs.2).mp c_6) (by rw [hw]; exact fun z => by cases z)
theorem lk_X3_keepIfBetter_f35 : Cond.fieldLink RX3 35 "LieBridges$Ways" "length" "I" ∈ wsX3_keepIfBetter := List.mem_of_getElem? (i := 2) rfl
theorem hin_X3_keepIfBetter_X3 : ∀ w ∈ u_ws RX3 TX3 7, w ∈ wsX3_keepIfBetter := fun _ h => List.mem_cons_of_mem _ (List.mem_append_right _ h)
theorem lk_X3_keepIfBetter_f46 : Cond.fieldLink RX3 46 "LieBridges$Ways" "worth" "J" ∈ wsX3_keepIfBetter := List.mem_of_getElem? (i := 1) rfl
theorem lk_X3_keepIfBetter_f15 : Cond.fieldLink RX3 15 "LieBridges$Ways" "trodden" "[I" ∈ wsX3_keepIfBetter := List.mem_of_getElem? (i := 3) rfl
theorem lk_X3_keepIfBetter_f18 : Cond.fieldLink RX3 18 "LieBridges$Ways" "best" "[I" ∈ wsX3_keepIfBetter := List.mem_of_getElem? (i := 4) rfl
theorem lk_X3_keepIfBetter_sX4_copy : Cond.static yX4_copy ∈ wsX3_keepIfBetter := List.mem_of_getElem? (i := 10) rfl
theorem lk_X3_keepIfBetter_tX4 : Cond.initialized RX4 ∈ wsX3_keepIfBetter := List.mem_of_getElem? (i := 11) rfl
set_option maxHeartbeats 400000 in
set_option maxRecDepth 4000 in
theorem c_X3_keepIfBetter (G : Gx) (wy wt td bs : Nat) (lk : Bool) (go : Nat) (s : Ws) (d : Nat) (v : Int) (hs : okWs s) (hd : d ≤ 5) (hv : -1000 ≤ v ∧ v ≤ 1000000) : Ct G yX3_keepIfBetter wsX3_keepIfBetter { frames := 2, cells := 0, slots := 0, locals := 43 } [.ref wy, .int (nI d), .long (lI v)] [(wy, cO 3 [.ref wt, .ref td, .ref bs, .int (bI lk), .int (nI go), .int (lnI (wL s)), .long (lI (wV s))]), (td, cI G 6 (rN (wT s))), (bs, cI G 6 (rN (wB s)))] (fun r wa => r = none ∧ wa = [(wy, cO 3 [.ref wt, .ref td, .ref bs, .int (bI lk), .int (nI go), .int (lnI (wL (kib d v s))), .long (lI (wV (kib d v s)))]), (td, cI G 6 (rN (wT (kib d v s)))), (bs, cI G 6 (rN (wB (kib d v s))))]) := by
  refine CtN.of [(0, .ref wy), (1, .int (nI d)), (2, .long (lI v))] (by decide +kernel) rfl rfl rfl rfl ?_
  intro x Ox Rt
  refine k_aload_n Ox dX3_keepIfBetter_0 rfl 0 rfl ?_
  refine k_callV Ox [0] (c_X3_found G _ _ _ _ _ _ _ (hs)) 0 rfl rfl rfl ⟨rfl, rfl⟩ rfl rfl gX3_keepIfBetter_X3_found rfl 0 rfl ⟨rfl, (by decide +kernel), (by decide +kernel), (by decide +kernel)⟩ rfl dX3_keepIfBetter_1 (Nat.le_of_ble_eq_true rfl) rfl ⟨Nat.le_of_ble_eq_true rfl, Nat.le_of_ble_eq_true rfl⟩ (fun r wa wb hp => ?_)
  obtain ⟨⟨rfl, rfl⟩, rfl⟩ := hp
  show V x G _ _ _ _ _ (.int _ :: _) [_, _, _]
  refine k_if_eqB Ox 34 dX3_keepIfBetter_4 rfl (fun c_4 => ?_) (fun c_4 => ?_)
  · have hk := kib_new (d := d) (v := v) (isSome_no c_4)
    refine k_aload_n Ox dX3_keepIfBetter_34 rfl 0 rfl ?_
    refine k_iload_n Ox dX3_keepIfBetter_35 rfl 1 rfl ?_
    refine k_put Ox 0 rfl rfl hin_X3_keepIfBetter_X3 5 rfl lk_X3_keepIfBetter_f35 rfl tyX3 tyX3_ok nmX3 rfl  rfl rfl rfl [_, _, _, _, _, _, _] rfl [_, _, _] rfl dX3_keepIfBetter_36 ?_
    refine k_aload_n Ox dX3_keepIfBetter_39 rfl 0 rfl ?_
    refine k_lload_n Ox dX3_keepIfBetter_40 rfl 2 rfl ?_
    refine k_put Ox 0 rfl rfl hin_X3_keepIfBetter_X3 6 rfl lk_X3_keepIfBetter_f46 rfl tyX3 tyX3_ok nmX3 rfl  rfl rfl rfl [_, _, _, _, _, _, _] rfl [_, _, _] rfl dX3_keepIfBetter_41 ?_
    refine k_aload_n Ox dX3_keepIfBetter_44 rfl 0 rfl ?_
    refine k_get Ox 0 rfl rfl hin_X3_keepIfBetter_X3 1 rfl lk_X3_keepIfBetter_f15 rfl rfl dX3_keepIfBetter_45 ?_
    refine k_aload_n Ox dX3_keepIfBetter_48 rfl 0 rfl ?_
    refine k_get Ox 0 rfl rfl hin_X3_keepIfBetter_X3 2 rfl lk_X3_keepIfBetter_f18 rfl rfl dX3_keepIfBetter_49 ?_
    refine k_callSN Ox [1, 2] (c_X4_copy G _ _ _ _ _ (by decide)) 2 rfl rfl rfl ⟨rfl, rfl⟩ rfl rfl gX3_keepIfBetter_X4_copy_n74 (by decide +kernel) lk_X3_keepIfBetter_sX4_copy lk_X3_keepIfBetter_tX4 ⟨(by decide +kernel), (by decide +kernel), (by decide +kernel)⟩ rfl dX3_keepIfBetter_52 (Nat.le_of_ble_eq_true rfl) rfl ⟨Nat.le_of_ble_eq_true rfl, Nat.le_of_ble_eq_true rfl⟩ (fun r wa wb hp => ?_)
    obtain ⟨⟨rfl, rfl⟩, rfl⟩ := hp
    show V x G _ _ _ _ _ _ [_, _, _]
    refine k_vret0 Ox Rt dX3_keepIfBetter_55 (Nat.le_of_ble_eq_true rfl) (Nat.le_of_ble_eq_true rfl) rfl ?_
    exact ⟨⟨rfl, by rw [hk]; rfl⟩, rfl⟩
  · obtain ⟨l, hl⟩ := isSome_of c_4
    have hl5 := hs.2 l hl
    have hln : lnI (wL s) = nI l := by rw [hl]; rfl
    have hc1 := lI_lt (a := v) (b := wV s) (by omega) (by have := hs.1; omega)
    have hc2 := lI_eq (a := v) (b := wV s) (by omega) (by have := hs.1; omega)
    refine k_lload_n Ox dX3_keepIfBetter_7 rfl 2 rfl ?_
    refine k_aload_n Ox dX3_keepIfBetter_8 rfl 0 rfl ?_
    refine k_get Ox 0 rfl rfl hin_X3_keepIfBetter_X3 6 rfl lk_X3_keepIfBetter_f46 rfl rfl dX3_keepIfBetter_9 ?_
    refine k_lcmp Ox dX3_keepIfBetter_12 ?_
    refine k_if_lt Ox 33 dX3_keepIfBetter_13 rfl (fun c_13 => ?_) (fun c_13 => ?_)
    · have hk := kib_keep (d := d) hl (Or.inl (hc1.mp c_13))
      refine k_vret0 Ox Rt dX3_keepIfBetter_33 (Nat.le_of_ble_eq_true rfl) (Nat.le_of_ble_eq_true rfl) rfl ?_
      exact ⟨⟨rfl, by rw [hk]⟩, rfl⟩
    · refine k_lload_n Ox dX3_keepIfBetter_16 rfl 2 rfl ?_
      refine k_aload_n Ox dX3_keepIfBetter_17 rfl 0 rfl ?_
      refine k_get Ox 0 rfl rfl hin_X3_keepIfBetter_X3 6 rfl lk_X3_keepIfBetter_f46 rfl rfl dX3_keepIfBetter_18 ?_
      refine k_lcmp Ox dX3_keepIfBetter_21 ?_
      refine k_if_ne Ox 34 dX3_keepIfBetter_22 rfl (fun c_22 => ?_) (fun c_22 => ?_)
      · have hk := kib_put (d := d) hl (by intro z; rcases z with z | z; have h1 := hc1.mpr z; omega; exact c_22 (hc2.mpr z.1))
        refine k_aload_n Ox dX3_keepIfBetter_34 rfl 0 rfl ?_
        refine k_iload_n Ox dX3_keepIfBetter_35 rfl 1 rfl ?_
        refine k_put Ox 0 rfl rfl hin_X3_keepIfBetter_X3 5 rfl lk_X3_keepIfBetter_f35 rfl tyX3 tyX3_ok nmX3 rfl  rfl rfl rfl [_, _, _, _, _, _, _] rfl [_, _, _] rfl dX3_keepIfBetter_36 ?_
        refine k_aload_n Ox dX3_keepIfBetter_39 rfl 0 rfl ?_
        refine k_lload_n Ox dX3_keepIfBetter_40 rfl 2 rfl ?_
        refine k_put Ox 0 rfl rfl hin_X3_keepIfBetter_X3 6 rfl lk_X3_keepIfBetter_f46 rfl tyX3 tyX3_ok nmX3 rfl  rfl rfl rfl [_, _, _, _, _, _, _] rfl [_, _, _] rfl dX3_keepIfBetter_41 ?_
        refine k_aload_n Ox dX3_keepIfBetter_44 rfl 0 rfl ?_
        refine k_get Ox 0 rfl rfl hin_X3_keepIfBetter_X3 1 rfl lk_X3_keepIfBetter_f15 rfl rfl dX3_keepIfBetter_45 ?_
        refine k_aload_n Ox dX3_keepIfBetter_48 rfl 0 rfl ?_
        refine k_get Ox 0 rfl rfl hin_X3_keepIfBetter_X3 2 rfl lk_X3_keepIfBetter_f18 rfl rfl dX3_keepIfBetter_49 ?_
        refine k_callSN Ox [1, 2] (c_X4_copy G _ _ _ _ _ (by decide)) 2 rfl rfl rfl ⟨rfl, rfl⟩ rfl rfl gX3_keepIfBetter_X4_copy_n74 (by decide +kernel) lk_X3_keepIfBetter_sX4_copy lk_X3_keepIfBetter_tX4 ⟨(by decide +kernel), (by decide +kernel), (by decide +kernel)⟩ rfl dX3_keepIfBetter_52 (Nat.le_of_ble_eq_true rfl) rfl ⟨Nat.le_of_ble_eq_true rfl, Nat.le_of_ble_eq_true rfl⟩ (fun r wa wb hp => ?_)
        obtain ⟨⟨rfl, rfl⟩, rfl⟩ := hp
        show V x G _ _ _ _ _ _ [_, _, _]
        refine k_vret0 Ox Rt dX3_keepIfBetter_55 (Nat.le_of_ble_eq_true rfl) (Nat.le_of_ble_eq_true rfl) rfl ?_
        exact ⟨⟨rfl, by rw [hk]; rfl⟩, rfl⟩
      · refine k_iload_n Ox dX3_keepIfBetter_25 rfl 1 rfl ?_
        refine k_aload_n Ox dX3_keepIfBetter_26 rfl 0 rfl ?_
        refine k_get Ox 0 rfl rfl hin_X3_keepIfBetter_X3 5 rfl lk_X3_keepIfBetter_f35 rfl rfl dX3_keepIfBetter_27 ?_
        refine k_icmp_lt Ox 34 dX3_keepIfBetter_30 rfl (fun c_30 => ?_) (fun c_30 => ?_)
        · rw [hln, nI_tI (by omega), nI_tI (by omega)] at c_30
          have hk := kib_put (d := d) hl (by intro z; rcases z with z | z; have h1 := hc1.mpr z; omega; omega)
          refine k_aload_n Ox dX3_keepIfBetter_34 rfl 0 rfl ?_
          refine k_iload_n Ox dX3_keepIfBetter_35 rfl 1 rfl ?_
          refine k_put Ox 0 rfl rfl hin_X3_keepIfBetter_X3 5 rfl lk_X3_keepIfBetter_f35 rfl tyX3 tyX3_ok nmX3 rfl  rfl rfl rfl [_, _, _, _, _, _, _] rfl [_, _, _] rfl dX3_keepIfBetter_36 ?_
          refine k_aload_n Ox dX3_keepIfBetter_39 rfl 0 rfl ?_
          refine k_lload_n Ox dX3_keepIfBetter_40 rfl 2 rfl ?_
          refine k_put Ox 0 rfl rfl hin_X3_keepIfBetter_X3 6 rfl lk_X3_keepIfBetter_f46 rfl tyX3 tyX3_ok nmX3 rfl  rfl rfl rfl [_, _, _, _, _, _, _] rfl [_, _, _] rfl dX3_keepIfBetter_41 ?_
          refine k_aload_n Ox dX3_keepIfBetter_44 rfl 0 rfl ?_
          refine k_get Ox 0 rfl rfl hin_X3_keepIfBetter_X3 1 rfl lk_X3_keepIfBetter_f15 rfl rfl dX3_keepIfBetter_45 ?_
          refine k_aload_n Ox dX3_keepIfBetter_48 rfl 0 rfl ?_
          refine k_get Ox 0 rfl rfl hin_X3_keepIfBetter_X3 2 rfl lk_X3_keepIfBetter_f18 rfl rfl dX3_keepIfBetter_49 ?_
          refine k_callSN Ox [1, 2] (c_X4_copy G _ _ _ _ _ (by decide)) 2 rfl rfl rfl ⟨rfl, rfl⟩ rfl rfl gX3_keepIfBetter_X4_copy_n74 (by decide +kernel) lk_X3_keepIfBetter_sX4_copy lk_X3_keepIfBetter_tX4 ⟨(by decide +kernel), (by decide +kernel), (by decide +kernel)⟩ rfl dX3_keepIfBetter_52 (Nat.le_of_ble_eq_true rfl) rfl ⟨Nat.le_of_ble_eq_true rfl, Nat.le_of_ble_eq_true rfl⟩ (fun r wa wb hp => ?_)
          obtain ⟨⟨rfl, rfl⟩, rfl⟩ := hp
          show V x G _ _ _ _ _ _ [_, _, _]
          refine k_vret0 Ox Rt dX3_keepIfBetter_55 (Nat.le_of_ble_eq_true rfl) (Nat.le_of_ble_eq_true rfl) rfl ?_
          exact ⟨⟨rfl, by rw [hk]; rfl⟩, rfl⟩
        · rw [hln, nI_tI (by omega), nI_tI (by omega)] at c_30
          have hk := kib_keep (d := d) hl (Or.inr ⟨hc2.mp c_22, by omega⟩)
          refine k_vret0 Ox Rt dX3_keepIfBetter_33 (Nat.le_of_ble_eq_true rfl) (Nat.le_of_ble_eq_true rfl) rfl ?_
          exact ⟨⟨rfl, by rw [hk]⟩, rfl⟩
theorem lk_X3_walk_f43 : Cond.fieldLink RX3 43 "LieBridges$Ways" "goal" "I" ∈ wsX3_walk := List.mem_of_getElem? (i := 1) rfl
theorem hin_X3_walk_X3 : ∀ w ∈ u_ws RX3 TX3 7, w ∈ wsX3_walk := fun _ h => List.mem_cons_of_mem _ (List.mem_append_left _ (List.mem_append_right _ h))
set_option maxHeartbeats 400000 in
set_option maxRecDepth 4000 in
theorem c_X3_walk_0 (G : Gx) (wy wt td bs : Nat) (lk : Bool) (go : Nat) (s : Ws) (d ls gs ly hh tr kn sp sl be : Nat) (fd sg : Nat) (L Gr : Nat → Nat) (W : Nat → Option Nat) (is sn : Nat) (v : Int) (hL : okP L) (hG : okP Gr) (hW : okWt W) (hs : okWs s) (his : is < 6) (hsn : sn < 64) (hgo : go < 6) (hv : vOK lk 5 v) : Ct G yX3_walk wsX3_walk { frames := 3, cells := 0, slots := 0, locals := 66 } [.ref wy, .ref d, .int (nI is), .int (nI 5), .int (nI sn), .long (lI v)] [(wy, cO 3 [.ref wt, .ref td, .ref bs, .int (bI lk), .int (nI go), .int (lnI (wL s)), .long (lI (wV s))]), (wt, cI G 6 (rW W)), (td, cI G 6 (rN (wT s))), (bs, cI G 6 (rN (wB s))), (d, cO 1 [.ref ls, .ref gs, .ref ly, .ref hh, .ref tr, .ref kn, .ref sp, .ref sl, .ref be, .int (nI fd), .int (nI sg)]), (ls, cI G 6 (rN L)), (gs, cI G 6 (rN Gr))] (fun r wa => r = none ∧ wa = [(wy, cO 3 [.ref wt, .ref td, .ref bs, .int (bI lk), .int (nI go), .int (lnI (wL (wkF L Gr W lk go 0 is sn v s))), .long (lI (wV (wkF L Gr W lk go 0 is sn v s)))]), (wt, cI G 6 (rW W)), (td, cI G 6 (rN (wT (wkF L Gr W lk go 0 is sn v s)))), (bs, cI G 6 (rN (wB (wkF L Gr W lk go 0 is sn v s)))), (d, cO 1 [.ref ls, .ref gs, .ref ly, .ref hh, .ref tr, .ref kn, .ref sp, .ref sl, .ref be, .int (nI fd), .int (nI sg)]), (ls, cI G 6 (rN L)), (gs, cI G 6 (rN Gr))]) := by
  refine CtN.of [(0, .ref wy), (1, .ref d), (2, .int (nI is)), (3, .int (nI 5)), (4, .int (nI sn)), (5, .long (lI v))] (by decide +kernel) rfl rfl rfl rfl ?_
  intro x Ox Rt
  refine k_iload_n Ox dX3_walk_0 rfl 2 rfl ?_
  refine k_aload_n Ox dX3_walk_1 rfl 0 rfl ?_
  refine k_get Ox 0 rfl rfl hin_X3_walk_X3 4 rfl lk_X3_walk_f43 rfl rfl dX3_walk_2 ?_
  refine k_icmp_neN Ox 16 dX3_walk_5 rfl (by omega) (by omega) (fun c_5 => ?_) (fun c_5 => ?_)
  · refine k_iload_n Ox dX3_walk_16 rfl 3 rfl ?_
    refine k_iconst Ox (v := nI 5) dX3_walk_17 rfl ?_
    refine k_icmp_ltN Ox 22 dX3_walk_18 rfl (by decide) (by decide) (fun h => absurd h (by decide)) (fun _ => ?_)
    refine k_vret0 Ox Rt dX3_walk_21 (Nat.le_of_ble_eq_true rfl) (Nat.le_of_ble_eq_true rfl) rfl ?_
    exact ⟨⟨rfl, by rw [show (wkF L Gr W lk go 0 is sn v s) = s by simp only [wkF]; rw [if_neg c_5]]⟩, rfl⟩
  · refine k_aload_n Ox dX3_walk_8 rfl 0 rfl ?_
    refine k_iload_n Ox dX3_walk_9 rfl 3 rfl ?_
    refine k_lload Ox dX3_walk_10 5 rfl ?_
    refine k_callV Ox [0, 2, 3] (c_X3_keepIfBetter G _ _ _ _ _ _ _ _ _ (hs) (by decide) (vOK_b (by decide) hv)) 2 rfl rfl rfl ⟨rfl, rfl⟩ rfl rfl gX3_walk_X3_keepIfBetter rfl 0 rfl ⟨rfl, (by decide +kernel), (by decide +kernel), (by decide +kernel)⟩ rfl dX3_walk_12 (Nat.le_of_ble_eq_true rfl) rfl ⟨Nat.le_of_ble_eq_true rfl, Nat.le_of_ble_eq_true rfl⟩ (fun r wa wb hp => ?_)
    obtain ⟨⟨rfl, rfl⟩, rfl⟩ := hp
    show V x G _ _ _ _ _ _ [_, _, _, _, _, _, _]
    refine k_vret0 Ox Rt dX3_walk_15 (Nat.le_of_ble_eq_true rfl) (Nat.le_of_ble_eq_true rfl) rfl ?_
    exact ⟨⟨rfl, by rw [show (wkF L Gr W lk go 0 is sn v s) = kib 5 v s by simp only [wkF]; rw [if_pos c_5]]⟩, rfl⟩
theorem lk_X3_tread_f9 : Cond.fieldLink RX3 9 "LieBridges$Ways" "weights" "[I" ∈ wsX3_tread := List.mem_of_getElem? (i := 1) rfl
theorem hin_X3_tread_X3 : ∀ w ∈ u_ws RX3 TX3 7, w ∈ wsX3_tread := fun _ h => List.mem_cons_of_mem _ (List.mem_append_left _ (List.mem_append_right _ h))
theorem lk_X3_tread_sX4_at : Cond.static yX4_at ∈ wsX3_tread := List.mem_of_getElem? (i := 15) rfl
theorem lk_X3_tread_tX4 : Cond.initialized RX4 ∈ wsX3_tread := List.mem_of_getElem? (i := 13) rfl
theorem lk_X3_tread_f15 : Cond.fieldLink RX3 15 "LieBridges$Ways" "trodden" "[I" ∈ wsX3_tread := List.mem_of_getElem? (i := 2) rfl
theorem lk_X3_tread_sX4_put : Cond.static yX4_put ∈ wsX3_tread := List.mem_of_getElem? (i := 17) rfl
theorem lk_X3_tread_f25 : Cond.fieldLink RX3 25 "LieBridges$Ways" "likeliest" "Z" ∈ wsX3_tread := List.mem_of_getElem? (i := 3) rfl
theorem lk_X3_tread_k68 : Cond.constantLong RX3 68 (10) ∈ wsX3_tread := List.mem_of_getElem? (i := 4) rfl
set_option maxHeartbeats 2000000 in
set_option maxRecDepth 4000 in
theorem c_X3_tread_1 (G : Gx) (wy wt td bs : Nat) (lk : Bool) (go : Nat) (s : Ws) (d ls gs ly hh tr kn sp sl be : Nat) (fd sg : Nat) (L Gr : Nat → Nat) (W : Nat → Option Nat) (p is sn : Nat) (v : Int) (hL : okP L) (hG : okP Gr) (hW : okWt W) (hs : okWs s) (hp : p < 6) (his : is < 6) (hsn : sn < 64) (hgo : go < 6) (hv : vOK lk 4 v) : Ct G yX3_tread wsX3_tread { frames := 4, cells := 0, slots := 0, locals := 93 } [.ref wy, .ref d, .int (nI p), .int (nI is), .int (nI 4), .int (nI sn), .long (lI v)] [(wy, cO 3 [.ref wt, .ref td, .ref bs, .int (bI lk), .int (nI go), .int (lnI (wL s)), .long (lI (wV s))]), (wt, cI G 6 (rW W)), (td, cI G 6 (rN (wT s))), (bs, cI G 6 (rN (wB s))), (d, cO 1 [.ref ls, .ref gs, .ref ly, .ref hh, .ref tr, .ref kn, .ref sp, .ref sl, .ref be, .int (nI fd), .int (nI sg)]), (ls, cI G 6 (rN L)), (gs, cI G 6 (rN Gr))] (fun r wa => r = none ∧ wa = [(wy, cO 3 [.ref wt, .ref td, .ref bs, .int (bI lk), .int (nI go), .int (lnI (wL (trS L Gr W lk 0 is sn v (wkF L Gr W lk go 0) p s))), .long (lI (wV (trS L Gr W lk 0 is sn v (wkF L Gr W lk go 0) p s)))]), (wt, cI G 6 (rW W)), (td, cI G 6 (rN (wT (trS L Gr W lk 0 is sn v (wkF L Gr W lk go 0) p s)))), (bs, cI G 6 (rN (wB (trS L Gr W lk 0 is sn v (wkF L Gr W lk go 0) p s)))), (d, cO 1 [.ref ls, .ref gs, .ref ly, .ref hh, .ref tr, .ref kn, .ref sp, .ref sl, .ref be, .int (nI fd), .int (nI sg)]), (ls, cI G 6 (rN L)), (gs, cI G 6 (rN Gr))]) := by
  refine CtN.of [(0, .ref wy), (1, .ref d), (2, .int (nI p)), (3, .int (nI is)), (4, .int (nI 4)), (5, .int (nI sn)), (6, .long (lI v))] (by decide +kernel) rfl rfl rfl rfl ?_
  intro x Ox Rt
  refine k_aload_n Ox dX3_tread_0 rfl 1 rfl ?_
  refine k_iload_n Ox dX3_tread_1 rfl 2 rfl ?_
  refine k_iload_n Ox dX3_tread_2 rfl 3 rfl ?_
  refine k_callV Ox [4, 5, 6] (c_X1_across G _ _ _ _ _ _ _ _ _ _ _ _ _ _ _ _ (hL) (hG) (by omega) (his)) 2 rfl rfl rfl ⟨rfl, rfl⟩ rfl rfl gX3_tread_X1_across rfl 4 rfl ⟨rfl, (by decide +kernel), (by decide +kernel), (by decide +kernel)⟩ rfl dX3_tread_3 (Nat.le_of_ble_eq_true rfl) rfl ⟨Nat.le_of_ble_eq_true rfl, Nat.le_of_ble_eq_true rfl⟩ (fun r wa wb hp => ?_)
  obtain ⟨⟨rfl, rfl⟩, rfl⟩ := hp
  show V x G _ _ _ _ _ (.int _ :: _) [_, _, _, _, _, _, _]
  refine k_istore Ox [(8, _), (0, _), (1, _), (2, _), (3, _), (4, _), (5, _), (6, _)] dX3_tread_6 (by decide) rfl ?_
  refine k_aload_n Ox dX3_tread_8 rfl 1 rfl ?_
  refine k_get Ox 0 rfl rfl hin_X3_tread_X3 0 rfl lk_X3_tread_f9 rfl rfl dX3_tread_9 ?_
  refine k_iload_n Ox dX3_tread_12 rfl 3 rfl ?_
  refine k_callSN Ox [1] (c_X4_at G _ _ _ _ (by omega) (by decide)) 2 rfl rfl rfl ⟨rfl, rfl⟩ rfl rfl gX3_tread_X4_at_n39 (by decide +kernel) lk_X3_tread_sX4_at lk_X3_tread_tX4 ⟨(by decide +kernel), (by decide +kernel), (by decide +kernel)⟩ rfl dX3_tread_13 (Nat.le_of_ble_eq_true rfl) rfl ⟨Nat.le_of_ble_eq_true rfl, Nat.le_of_ble_eq_true rfl⟩ (fun r wa wb hp => ?_)
  obtain ⟨⟨rfl, rfl⟩, rfl⟩ := hp
  show V x G _ _ _ _ _ (.int _ :: _) [_, _, _, _, _, _, _]
  refine k_istore Ox [(9, _), (8, _), (0, _), (1, _), (2, _), (3, _), (4, _), (5, _), (6, _)] dX3_tread_16 (by decide) rfl ?_
  refine k_iload Ox dX3_tread_18 1 rfl ?_
  refine k_iconst Ox (v := -1) dX3_tread_20 (by decide) ?_
  refine k_icmp_eq Ox 41 dX3_tread_21 rfl (fun c_21 => ?_) (fun c_21 => ?_)
  · have hk : (trS L Gr W lk 0 is sn v (wkF L Gr W lk go 0) p s) = s := trS_none1 (acr_none hL hG c_21 hp)
    refine k_vret0 Ox Rt dX3_tread_41 (Nat.le_of_ble_eq_true rfl) (Nat.le_of_ble_eq_true rfl) rfl ?_
    exact ⟨⟨rfl, by rw [hk]⟩, rfl⟩
  · obtain ⟨j, hj, -, e1, hn⟩ := acr_some hL hG c_21
    rw [e1]
    refine k_iload Ox dX3_tread_24 0 rfl ?_
    refine k_iconst Ox (v := -1) dX3_tread_26 (by decide) ?_
    refine k_icmp_eq Ox 41 dX3_tread_27 rfl (fun c_27 => ?_) (fun c_27 => ?_)
    · have hk : (trS L Gr W lk 0 is sn v (wkF L Gr W lk go 0) p s) = s := trS_none2 ((wI_none (fun w => hW p w hp)).mp c_27)
      refine k_vret0 Ox Rt dX3_tread_41 (Nat.le_of_ble_eq_true rfl) (Nat.le_of_ble_eq_true rfl) rfl ?_
      exact ⟨⟨rfl, by rw [hk]⟩, rfl⟩
    · obtain ⟨w, hw⟩ : ∃ w, W p = some w := by
        cases h : W p with
        | none => exact absurd (by show wI (W p) = -1; rw [h]; rfl) c_27
        | some w => exact ⟨w, rfl⟩
      have hw10 := hW p w hp hw
      have hrw : rW W p = nI w := by show wI (W p) = nI w; rw [hw]; rfl
      rw [hrw]
      refine k_iload Ox dX3_tread_30 7 rfl ?_
      refine k_iload Ox dX3_tread_32 1 rfl ?_
      refine k_ishr Ox dX3_tread_34 ?_
      refine k_iconst Ox (v := nI 1) dX3_tread_35 rfl ?_
      refine k_iand Ox dX3_tread_36 ?_
      refine k_top _ (hasb _ hsn _ hj) ?_
      refine k_iconst Ox (v := nI 1) dX3_tread_37 rfl ?_
      refine k_icmp_ne Ox 42 dX3_tread_38 rfl (fun c_38 => ?_) (fun c_38 => ?_)
      · have hk := trS_go (lk := lk) (k := 0) (v := v) (wk := wkF L Gr W lk go 0) (s := s) hn hw (bit_ne c_38)
        have hvb := vOK_b (by omega) hv
        refine k_aload_n Ox dX3_tread_42 rfl 2 rfl ?_
        refine k_get Ox 0 rfl rfl hin_X3_tread_X3 1 rfl lk_X3_tread_f15 rfl rfl dX3_tread_43 ?_
        refine k_iload Ox dX3_tread_46 6 rfl ?_
        refine k_iload_n Ox dX3_tread_48 rfl 4 rfl ?_
        refine k_callSN Ox [2] (c_X4_put G _ _ _ _ _ (by omega) (by decide)) 3 rfl rfl rfl ⟨rfl, rfl⟩ rfl rfl gX3_tread_X4_put_n21 (by decide +kernel) lk_X3_tread_sX4_put lk_X3_tread_tX4 ⟨(by decide +kernel), (by decide +kernel), (by decide +kernel)⟩ rfl dX3_tread_49 (Nat.le_of_ble_eq_true rfl) rfl ⟨Nat.le_of_ble_eq_true rfl, Nat.le_of_ble_eq_true rfl⟩ (fun r wa wb hp => ?_)
        obtain ⟨⟨rfl, rfl⟩, rfl⟩ := hp
        show V x G _ _ _ _ _ _ [_, _, _, _, _, _, _]
        rw [rN_upd]
        refine k_aload_n Ox dX3_tread_52 rfl 2 rfl ?_
        refine k_get Ox 0 rfl rfl hin_X3_tread_X3 3 rfl lk_X3_tread_f25 rfl rfl dX3_tread_53 ?_
        refine k_if_eqB Ox 72 dX3_tread_56 rfl (fun c_56 => ?_) (fun c_56 => ?_)
        · refine k_lload Ox dX3_tread_72 8 rfl ?_
          refine k_iload Ox dX3_tread_74 0 rfl ?_
          refine k_i2l Ox dX3_tread_76 rfl ?_
          refine k_lsub Ox dX3_tread_77 ?_
          first | (rw [show lI v * (nI w).toInt64 / 10 = lI (fur lk v w) from fur_t hv c_56 hw10]) | (rw [show lI v - (nI w).toInt64 = lI (fur lk v w) from fur_f c_56 hw10])
          refine k_lstore Ox [(10, _), (9, _), (8, _), (0, _), (1, _), (2, _), (3, _), (4, _), (5, _), (6, _)] dX3_tread_78 (by decide) rfl ?_
          refine k_aload_n Ox dX3_tread_80 rfl 3 rfl ?_
          refine k_aload_n Ox dX3_tread_81 rfl 4 rfl ?_
          refine k_iload Ox dX3_tread_82 2 rfl ?_
          refine k_iload Ox dX3_tread_84 7 rfl ?_
          refine k_iconst Ox (v := nI 1) dX3_tread_86 rfl ?_
          refine k_iaddN Ox dX3_tread_87 ?_
          refine k_iload Ox dX3_tread_88 8 rfl ?_
          refine k_iconst Ox (v := nI 1) dX3_tread_90 rfl ?_
          refine k_iload Ox dX3_tread_91 2 rfl ?_
          refine k_ishl Ox dX3_tread_93 ?_
          refine k_top _ (shl1 j hj) ?_
          refine k_ior Ox dX3_tread_94 ?_
          refine k_top _ (orb1 _ hsn _ hj) ?_
          refine k_lload Ox dX3_tread_95 0 rfl ?_
          refine k_callV Ox [0, 1, 2, 3, 4, 5, 6] (c_X3_walk_0 G _ _ _ _ _ _ _ _ _ _ _ _ _ _ _ _ _ _ _ _ _ _ _ _ _ (hL) (hG) (hW) (putT_ok hs) (hj) (setb_lt _ hsn _ hj true) (hgo) (by have := vOK_step hv (hW p w hp hw); exact this)) 5 rfl rfl rfl ⟨rfl, rfl⟩ rfl rfl gX3_tread_X3_walk rfl 0 rfl ⟨rfl, (by decide +kernel), (by decide +kernel), (by decide +kernel)⟩ rfl dX3_tread_97 (Nat.le_of_ble_eq_true rfl) rfl ⟨Nat.le_of_ble_eq_true rfl, Nat.le_of_ble_eq_true rfl⟩ (fun r wa wb hp => ?_)
          obtain ⟨⟨rfl, rfl⟩, rfl⟩ := hp
          show V x G _ _ _ _ _ _ [_, _, _, _, _, _, _]
          refine k_vret0 Ox Rt dX3_tread_100 (Nat.le_of_ble_eq_true rfl) (Nat.le_of_ble_eq_true rfl) rfl ?_
          exact ⟨⟨rfl, by rw [hk]⟩, rfl⟩
        · refine k_lload Ox dX3_tread_59 8 rfl ?_
          refine k_iload Ox dX3_tread_61 0 rfl ?_
          refine k_i2l Ox dX3_tread_63 rfl ?_
          refine k_lmul Ox dX3_tread_64 ?_
          refine k_ldc2 Ox (10) dX3_tread_65 lk_X3_tread_k68 ?_
          refine k_ldiv Ox dX3_tread_68 (by decide) ?_
          refine k_goto Ox 78 dX3_tread_69 rfl ?_
          first | (rw [show lI v * (nI w).toInt64 / 10 = lI (fur lk v w) from fur_t hv c_56 hw10]) | (rw [show lI v - (nI w).toInt64 = lI (fur lk v w) from fur_f c_56 hw10])
          refine k_lstore Ox [(10, _), (9, _), (8, _), (0, _), (1, _), (2, _), (3, _), (4, _), (5, _), (6, _)] dX3_tread_78 (by decide) rfl ?_
          refine k_aload_n Ox dX3_tread_80 rfl 3 rfl ?_
          refine k_aload_n Ox dX3_tread_81 rfl 4 rfl ?_
          refine k_iload Ox dX3_tread_82 2 rfl ?_
          refine k_iload Ox dX3_tread_84 7 rfl ?_
          refine k_iconst Ox (v := nI 1) dX3_tread_86 rfl ?_
          refine k_iaddN Ox dX3_tread_87 ?_
          refine k_iload Ox dX3_tread_88 8 rfl ?_
          refine k_iconst Ox (v := nI 1) dX3_tread_90 rfl ?_
          refine k_iload Ox dX3_tread_91 2 rfl ?_
          refine k_ishl Ox dX3_tread_93 ?_
          refine k_top _ (shl1 j hj) ?_
          refine k_ior Ox dX3_tread_94 ?_
          refine k_top _ (orb1 _ hsn _ hj) ?_
          refine k_lload Ox dX3_tread_95 0 rfl ?_
          refine k_callV Ox [0, 1, 2, 3, 4, 5, 6] (c_X3_walk_0 G _ _ _ _ _ _ _ _ _ _ _ _ _ _ _ _ _ _ _ _ _ _ _ _ _ (hL) (hG) (hW) (putT_ok hs) (hj) (setb_lt _ hsn _ hj true) (hgo) (by have := vOK_step hv (hW p w hp hw); exact this)) 5 rfl rfl rfl ⟨rfl, rfl⟩ rfl rfl gX3_tread_X3_walk rfl 0 rfl ⟨rfl, (by decide +kernel), (by decide +kernel), (by decide +kernel)⟩ rfl dX3_tread_97 (Nat.le_of_ble_eq_true rfl) rfl ⟨Nat.le_of_ble_eq_true rfl, Nat.le_of_ble_eq_true rfl⟩ (fun r wa wb hp => ?_)
          obtain ⟨⟨rfl, rfl⟩, rfl⟩ := hp
          show V x G _ _ _ _ _ _ [_, _, _, _, _, _, _]
          refine k_vret0 Ox Rt dX3_tread_100 (Nat.le_of_ble_eq_true rfl) (Nat.le_of_ble_eq_true rfl) rfl ?_
          exact ⟨⟨rfl, by rw [hk]⟩, rfl⟩
      · have hk : (trS L Gr W lk 0 is sn v (wkF L Gr W lk go 0) p s) = s := trS_seen hn hw (bit_eq c_38)
        refine k_vret0 Ox Rt dX3_tread_41 (Nat.le_of_ble_eq_true rfl) (Nat.le_of_ble_eq_true rfl) rfl ?_
        exact ⟨⟨rfl, by rw [hk]⟩, rfl⟩
set_option maxHeartbeats 400000 in
set_option maxRecDepth 4000 in
theorem c_X3_walk_1 (G : Gx) (wy wt td bs : Nat) (lk : Bool) (go : Nat) (s : Ws) (d ls gs ly hh tr kn sp sl be : Nat) (fd sg : Nat) (L Gr : Nat → Nat) (W : Nat → Option Nat) (is sn : Nat) (v : Int) (hL : okP L) (hG : okP Gr) (hW : okWt W) (hs : okWs s) (his : is < 6) (hsn : sn < 64) (hgo : go < 6) (hv : vOK lk 4 v) : Ct G yX3_walk wsX3_walk { frames := 5, cells := 0, slots := 0, locals := 124 } [.ref wy, .ref d, .int (nI is), .int (nI 4), .int (nI sn), .long (lI v)] [(wy, cO 3 [.ref wt, .ref td, .ref bs, .int (bI lk), .int (nI go), .int (lnI (wL s)), .long (lI (wV s))]), (wt, cI G 6 (rW W)), (td, cI G 6 (rN (wT s))), (bs, cI G 6 (rN (wB s))), (d, cO 1 [.ref ls, .ref gs, .ref ly, .ref hh, .ref tr, .ref kn, .ref sp, .ref sl, .ref be, .int (nI fd), .int (nI sg)]), (ls, cI G 6 (rN L)), (gs, cI G 6 (rN Gr))] (fun r wa => r = none ∧ wa = [(wy, cO 3 [.ref wt, .ref td, .ref bs, .int (bI lk), .int (nI go), .int (lnI (wL (wkF L Gr W lk go 1 is sn v s))), .long (lI (wV (wkF L Gr W lk go 1 is sn v s)))]), (wt, cI G 6 (rW W)), (td, cI G 6 (rN (wT (wkF L Gr W lk go 1 is sn v s)))), (bs, cI G 6 (rN (wB (wkF L Gr W lk go 1 is sn v s)))), (d, cO 1 [.ref ls, .ref gs, .ref ly, .ref hh, .ref tr, .ref kn, .ref sp, .ref sl, .ref be, .int (nI fd), .int (nI sg)]), (ls, cI G 6 (rN L)), (gs, cI G 6 (rN Gr))]) := by
  refine CtN.of [(0, .ref wy), (1, .ref d), (2, .int (nI is)), (3, .int (nI 4)), (4, .int (nI sn)), (5, .long (lI v))] (by decide +kernel) rfl rfl rfl rfl ?_
  intro x Ox Rt
  refine k_iload_n Ox dX3_walk_0 rfl 2 rfl ?_
  refine k_aload_n Ox dX3_walk_1 rfl 0 rfl ?_
  refine k_get Ox 0 rfl rfl hin_X3_walk_X3 4 rfl lk_X3_walk_f43 rfl rfl dX3_walk_2 ?_
  refine k_icmp_neN Ox 16 dX3_walk_5 rfl (by omega) (by omega) (fun c_5 => ?_) (fun c_5 => ?_)
  · refine k_iload_n Ox dX3_walk_16 rfl 3 rfl ?_
    refine k_iconst Ox (v := nI 5) dX3_walk_17 rfl ?_
    refine k_icmp_ltN Ox 22 dX3_walk_18 rfl (by decide) (by decide) (fun _ => ?_) (fun h => absurd h (by decide))
    refine k_iconst Ox (v := nI 0) dX3_walk_22 rfl ?_
    refine k_istore Ox [(7, _), (0, _), (1, _), (2, _), (3, _), (4, _), (5, _)] dX3_walk_23 (by decide) rfl ?_
    have L25 : ∀ (fuel : Nat) (i : Nat), i ≤ 6 → 7 ≤ i + fuel → V x G 8 0 0 25 [(0, .ref wy), (1, .ref d), (2, .int (nI is)), (3, .int (nI 4)), (4, .int (nI sn)), (5, .long (lI v)), (7, .int (nI i))] [] [(wy, cO 3 [.ref wt, .ref td, .ref bs, .int (bI lk), .int (nI go), .int (lnI (wL (foldT (trS L Gr W lk 0 is sn v (wkF L Gr W lk go 0)) i s))), .long (lI (wV (foldT (trS L Gr W lk 0 is sn v (wkF L Gr W lk go 0)) i s)))]), (wt, cI G 6 (rW W)), (td, cI G 6 (rN (wT (foldT (trS L Gr W lk 0 is sn v (wkF L Gr W lk go 0)) i s)))), (bs, cI G 6 (rN (wB (foldT (trS L Gr W lk 0 is sn v (wkF L Gr W lk go 0)) i s)))), (d, cO 1 [.ref ls, .ref gs, .ref ly, .ref hh, .ref tr, .ref kn, .ref sp, .ref sl, .ref be, .int (nI fd), .int (nI sg)]), (ls, cI G 6 (rN L)), (gs, cI G 6 (rN Gr))] := by
      intro fuel
      induction fuel with
      | zero => intro i hi hfuel; exact absurd hi (by omega)
      | succ fuel ih =>
        intro i hi hfuel
        refine k_iload Ox dX3_walk_25 6 rfl ?_
        refine k_bipush Ox (v := nI 6) dX3_walk_27 rfl ?_
        refine k_icmp_geN Ox 51 dX3_walk_29 rfl (by omega) (by omega) (fun c_29 => ?_) (fun c_29 => ?_)
        · obtain rfl : i = 6 := by omega
          refine k_vret0 Ox Rt dX3_walk_51 (Nat.le_of_ble_eq_true rfl) (Nat.le_of_ble_eq_true rfl) rfl ?_
          exact ⟨⟨rfl, by rw [show (wkF L Gr W lk go 1 is sn v s) = foldT (trS L Gr W lk 0 is sn v (wkF L Gr W lk go 0)) 6 s by simp only [wkF]; rw [if_neg c_5]]⟩, rfl⟩
        · refine k_aload_n Ox dX3_walk_32 rfl 0 rfl ?_
          refine k_aload_n Ox dX3_walk_33 rfl 1 rfl ?_
          refine k_iload Ox dX3_walk_34 6 rfl ?_
          refine k_iload_n Ox dX3_walk_36 rfl 2 rfl ?_
          refine k_iload_n Ox dX3_walk_37 rfl 3 rfl ?_
          refine k_iload Ox dX3_walk_38 4 rfl ?_
          refine k_lload Ox dX3_walk_40 5 rfl ?_
          refine k_callV Ox [0, 1, 2, 3, 4, 5, 6] (c_X3_tread_1 G _ _ _ _ _ _ _ _ _ _ _ _ _ _ _ _ _ _ _ _ _ _ _ _ _ _ (hL) (hG) (hW) (foldT_ok (fun p s hp hs => trS_ok hW (by decide) hv hp hs) i (by omega) s hs) (by omega) (his) (hsn) (hgo) (hv)) 6 rfl rfl rfl ⟨rfl, rfl⟩ rfl rfl gX3_walk_X3_tread rfl 0 rfl ⟨rfl, (by decide +kernel), (by decide +kernel), (by decide +kernel)⟩ rfl dX3_walk_42 (Nat.le_of_ble_eq_true rfl) rfl ⟨Nat.le_of_ble_eq_true rfl, Nat.le_of_ble_eq_true rfl⟩ (fun r wa wb hp => ?_)
          obtain ⟨⟨rfl, rfl⟩, rfl⟩ := hp
          show V x G _ _ _ _ _ _ [_, _, _, _, _, _, _]
          refine k_iincN Ox (k := 6) (m := 1) [(7, _), (0, _), (1, _), (2, _), (3, _), (4, _), (5, _)] dX3_walk_45 rfl rfl (by decide) rfl ?_
          refine k_goto Ox 25 dX3_walk_48 rfl ?_
          refine k_sub [1, 2, 3, 4, 5, 6, 0] [(0, _), (1, _), (2, _), (3, _), (4, _), (5, _), (7, _)] rfl ?_
          exact ih (i + 1) (by omega) (by omega)
    refine k_sub [1, 2, 3, 4, 5, 6, 0] [(0, _), (1, _), (2, _), (3, _), (4, _), (5, _), (7, _)] rfl ?_
    exact L25 7 0 (by omega) (by omega)
  · refine k_aload_n Ox dX3_walk_8 rfl 0 rfl ?_
    refine k_iload_n Ox dX3_walk_9 rfl 3 rfl ?_
    refine k_lload Ox dX3_walk_10 5 rfl ?_
    refine k_callV Ox [0, 2, 3] (c_X3_keepIfBetter G _ _ _ _ _ _ _ _ _ (hs) (by decide) (vOK_b (by decide) hv)) 2 rfl rfl rfl ⟨rfl, rfl⟩ rfl rfl gX3_walk_X3_keepIfBetter rfl 0 rfl ⟨rfl, (by decide +kernel), (by decide +kernel), (by decide +kernel)⟩ rfl dX3_walk_12 (Nat.le_of_ble_eq_true rfl) rfl ⟨Nat.le_of_ble_eq_true rfl, Nat.le_of_ble_eq_true rfl⟩ (fun r wa wb hp => ?_)
    obtain ⟨⟨rfl, rfl⟩, rfl⟩ := hp
    show V x G _ _ _ _ _ _ [_, _, _, _, _, _, _]
    refine k_vret0 Ox Rt dX3_walk_15 (Nat.le_of_ble_eq_true rfl) (Nat.le_of_ble_eq_true rfl) rfl ?_
    exact ⟨⟨rfl, by rw [show (wkF L Gr W lk go 1 is sn v s) = kib 4 v s by simp only [wkF]; rw [if_pos c_5]]⟩, rfl⟩
set_option maxHeartbeats 2000000 in
set_option maxRecDepth 4000 in
theorem c_X3_tread_2 (G : Gx) (wy wt td bs : Nat) (lk : Bool) (go : Nat) (s : Ws) (d ls gs ly hh tr kn sp sl be : Nat) (fd sg : Nat) (L Gr : Nat → Nat) (W : Nat → Option Nat) (p is sn : Nat) (v : Int) (hL : okP L) (hG : okP Gr) (hW : okWt W) (hs : okWs s) (hp : p < 6) (his : is < 6) (hsn : sn < 64) (hgo : go < 6) (hv : vOK lk 3 v) : Ct G yX3_tread wsX3_tread { frames := 6, cells := 0, slots := 0, locals := 151 } [.ref wy, .ref d, .int (nI p), .int (nI is), .int (nI 3), .int (nI sn), .long (lI v)] [(wy, cO 3 [.ref wt, .ref td, .ref bs, .int (bI lk), .int (nI go), .int (lnI (wL s)), .long (lI (wV s))]), (wt, cI G 6 (rW W)), (td, cI G 6 (rN (wT s))), (bs, cI G 6 (rN (wB s))), (d, cO 1 [.ref ls, .ref gs, .ref ly, .ref hh, .ref tr, .ref kn, .ref sp, .ref sl, .ref be, .int (nI fd), .int (nI sg)]), (ls, cI G 6 (rN L)), (gs, cI G 6 (rN Gr))] (fun r wa => r = none ∧ wa = [(wy, cO 3 [.ref wt, .ref td, .ref bs, .int (bI lk), .int (nI go), .int (lnI (wL (trS L Gr W lk 1 is sn v (wkF L Gr W lk go 1) p s))), .long (lI (wV (trS L Gr W lk 1 is sn v (wkF L Gr W lk go 1) p s)))]), (wt, cI G 6 (rW W)), (td, cI G 6 (rN (wT (trS L Gr W lk 1 is sn v (wkF L Gr W lk go 1) p s)))), (bs, cI G 6 (rN (wB (trS L Gr W lk 1 is sn v (wkF L Gr W lk go 1) p s)))), (d, cO 1 [.ref ls, .ref gs, .ref ly, .ref hh, .ref tr, .ref kn, .ref sp, .ref sl, .ref be, .int (nI fd), .int (nI sg)]), (ls, cI G 6 (rN L)), (gs, cI G 6 (rN Gr))]) := by
  refine CtN.of [(0, .ref wy), (1, .ref d), (2, .int (nI p)), (3, .int (nI is)), (4, .int (nI 3)), (5, .int (nI sn)), (6, .long (lI v))] (by decide +kernel) rfl rfl rfl rfl ?_
  intro x Ox Rt
  refine k_aload_n Ox dX3_tread_0 rfl 1 rfl ?_
  refine k_iload_n Ox dX3_tread_1 rfl 2 rfl ?_
  refine k_iload_n Ox dX3_tread_2 rfl 3 rfl ?_
  refine k_callV Ox [4, 5, 6] (c_X1_across G _ _ _ _ _ _ _ _ _ _ _ _ _ _ _ _ (hL) (hG) (by omega) (his)) 2 rfl rfl rfl ⟨rfl, rfl⟩ rfl rfl gX3_tread_X1_across rfl 4 rfl ⟨rfl, (by decide +kernel), (by decide +kernel), (by decide +kernel)⟩ rfl dX3_tread_3 (Nat.le_of_ble_eq_true rfl) rfl ⟨Nat.le_of_ble_eq_true rfl, Nat.le_of_ble_eq_true rfl⟩ (fun r wa wb hp => ?_)
  obtain ⟨⟨rfl, rfl⟩, rfl⟩ := hp
  show V x G _ _ _ _ _ (.int _ :: _) [_, _, _, _, _, _, _]
  refine k_istore Ox [(8, _), (0, _), (1, _), (2, _), (3, _), (4, _), (5, _), (6, _)] dX3_tread_6 (by decide) rfl ?_
  refine k_aload_n Ox dX3_tread_8 rfl 1 rfl ?_
  refine k_get Ox 0 rfl rfl hin_X3_tread_X3 0 rfl lk_X3_tread_f9 rfl rfl dX3_tread_9 ?_
  refine k_iload_n Ox dX3_tread_12 rfl 3 rfl ?_
  refine k_callSN Ox [1] (c_X4_at G _ _ _ _ (by omega) (by decide)) 2 rfl rfl rfl ⟨rfl, rfl⟩ rfl rfl gX3_tread_X4_at_n39 (by decide +kernel) lk_X3_tread_sX4_at lk_X3_tread_tX4 ⟨(by decide +kernel), (by decide +kernel), (by decide +kernel)⟩ rfl dX3_tread_13 (Nat.le_of_ble_eq_true rfl) rfl ⟨Nat.le_of_ble_eq_true rfl, Nat.le_of_ble_eq_true rfl⟩ (fun r wa wb hp => ?_)
  obtain ⟨⟨rfl, rfl⟩, rfl⟩ := hp
  show V x G _ _ _ _ _ (.int _ :: _) [_, _, _, _, _, _, _]
  refine k_istore Ox [(9, _), (8, _), (0, _), (1, _), (2, _), (3, _), (4, _), (5, _), (6, _)] dX3_tread_16 (by decide) rfl ?_
  refine k_iload Ox dX3_tread_18 1 rfl ?_
  refine k_iconst Ox (v := -1) dX3_tread_20 (by decide) ?_
  refine k_icmp_eq Ox 41 dX3_tread_21 rfl (fun c_21 => ?_) (fun c_21 => ?_)
  · have hk : (trS L Gr W lk 1 is sn v (wkF L Gr W lk go 1) p s) = s := trS_none1 (acr_none hL hG c_21 hp)
    refine k_vret0 Ox Rt dX3_tread_41 (Nat.le_of_ble_eq_true rfl) (Nat.le_of_ble_eq_true rfl) rfl ?_
    exact ⟨⟨rfl, by rw [hk]⟩, rfl⟩
  · obtain ⟨j, hj, -, e1, hn⟩ := acr_some hL hG c_21
    rw [e1]
    refine k_iload Ox dX3_tread_24 0 rfl ?_
    refine k_iconst Ox (v := -1) dX3_tread_26 (by decide) ?_
    refine k_icmp_eq Ox 41 dX3_tread_27 rfl (fun c_27 => ?_) (fun c_27 => ?_)
    · have hk : (trS L Gr W lk 1 is sn v (wkF L Gr W lk go 1) p s) = s := trS_none2 ((wI_none (fun w => hW p w hp)).mp c_27)
      refine k_vret0 Ox Rt dX3_tread_41 (Nat.le_of_ble_eq_true rfl) (Nat.le_of_ble_eq_true rfl) rfl ?_
      exact ⟨⟨rfl, by rw [hk]⟩, rfl⟩
    · obtain ⟨w, hw⟩ : ∃ w, W p = some w := by
        cases h : W p with
        | none => exact absurd (by show wI (W p) = -1; rw [h]; rfl) c_27
        | some w => exact ⟨w, rfl⟩
      have hw10 := hW p w hp hw
      have hrw : rW W p = nI w := by show wI (W p) = nI w; rw [hw]; rfl
      rw [hrw]
      refine k_iload Ox dX3_tread_30 7 rfl ?_
      refine k_iload Ox dX3_tread_32 1 rfl ?_
      refine k_ishr Ox dX3_tread_34 ?_
      refine k_iconst Ox (v := nI 1) dX3_tread_35 rfl ?_
      refine k_iand Ox dX3_tread_36 ?_
      refine k_top _ (hasb _ hsn _ hj) ?_
      refine k_iconst Ox (v := nI 1) dX3_tread_37 rfl ?_
      refine k_icmp_ne Ox 42 dX3_tread_38 rfl (fun c_38 => ?_) (fun c_38 => ?_)
      · have hk := trS_go (lk := lk) (k := 1) (v := v) (wk := wkF L Gr W lk go 1) (s := s) hn hw (bit_ne c_38)
        have hvb := vOK_b (by omega) hv
        refine k_aload_n Ox dX3_tread_42 rfl 2 rfl ?_
        refine k_get Ox 0 rfl rfl hin_X3_tread_X3 1 rfl lk_X3_tread_f15 rfl rfl dX3_tread_43 ?_
        refine k_iload Ox dX3_tread_46 6 rfl ?_
        refine k_iload_n Ox dX3_tread_48 rfl 4 rfl ?_
        refine k_callSN Ox [2] (c_X4_put G _ _ _ _ _ (by omega) (by decide)) 3 rfl rfl rfl ⟨rfl, rfl⟩ rfl rfl gX3_tread_X4_put_n21 (by decide +kernel) lk_X3_tread_sX4_put lk_X3_tread_tX4 ⟨(by decide +kernel), (by decide +kernel), (by decide +kernel)⟩ rfl dX3_tread_49 (Nat.le_of_ble_eq_true rfl) rfl ⟨Nat.le_of_ble_eq_true rfl, Nat.le_of_ble_eq_true rfl⟩ (fun r wa wb hp => ?_)
        obtain ⟨⟨rfl, rfl⟩, rfl⟩ := hp
        show V x G _ _ _ _ _ _ [_, _, _, _, _, _, _]
        rw [rN_upd]
        refine k_aload_n Ox dX3_tread_52 rfl 2 rfl ?_
        refine k_get Ox 0 rfl rfl hin_X3_tread_X3 3 rfl lk_X3_tread_f25 rfl rfl dX3_tread_53 ?_
        refine k_if_eqB Ox 72 dX3_tread_56 rfl (fun c_56 => ?_) (fun c_56 => ?_)
        · refine k_lload Ox dX3_tread_72 8 rfl ?_
          refine k_iload Ox dX3_tread_74 0 rfl ?_
          refine k_i2l Ox dX3_tread_76 rfl ?_
          refine k_lsub Ox dX3_tread_77 ?_
          first | (rw [show lI v * (nI w).toInt64 / 10 = lI (fur lk v w) from fur_t hv c_56 hw10]) | (rw [show lI v - (nI w).toInt64 = lI (fur lk v w) from fur_f c_56 hw10])
          refine k_lstore Ox [(10, _), (9, _), (8, _), (0, _), (1, _), (2, _), (3, _), (4, _), (5, _), (6, _)] dX3_tread_78 (by decide) rfl ?_
          refine k_aload_n Ox dX3_tread_80 rfl 3 rfl ?_
          refine k_aload_n Ox dX3_tread_81 rfl 4 rfl ?_
          refine k_iload Ox dX3_tread_82 2 rfl ?_
          refine k_iload Ox dX3_tread_84 7 rfl ?_
          refine k_iconst Ox (v := nI 1) dX3_tread_86 rfl ?_
          refine k_iaddN Ox dX3_tread_87 ?_
          refine k_iload Ox dX3_tread_88 8 rfl ?_
          refine k_iconst Ox (v := nI 1) dX3_tread_90 rfl ?_
          refine k_iload Ox dX3_tread_91 2 rfl ?_
          refine k_ishl Ox dX3_tread_93 ?_
          refine k_top _ (shl1 j hj) ?_
          refine k_ior Ox dX3_tread_94 ?_
          refine k_top _ (orb1 _ hsn _ hj) ?_
          refine k_lload Ox dX3_tread_95 0 rfl ?_
          refine k_callV Ox [0, 1, 2, 3, 4, 5, 6] (c_X3_walk_1 G _ _ _ _ _ _ _ _ _ _ _ _ _ _ _ _ _ _ _ _ _ _ _ _ _ (hL) (hG) (hW) (putT_ok hs) (hj) (setb_lt _ hsn _ hj true) (hgo) (by have := vOK_step hv (hW p w hp hw); exact this)) 5 rfl rfl rfl ⟨rfl, rfl⟩ rfl rfl gX3_tread_X3_walk rfl 0 rfl ⟨rfl, (by decide +kernel), (by decide +kernel), (by decide +kernel)⟩ rfl dX3_tread_97 (Nat.le_of_ble_eq_true rfl) rfl ⟨Nat.le_of_ble_eq_true rfl, Nat.le_of_ble_eq_true rfl⟩ (fun r wa wb hp => ?_)
          obtain ⟨⟨rfl, rfl⟩, rfl⟩ := hp
          show V x G _ _ _ _ _ _ [_, _, _, _, _, _, _]
          refine k_vret0 Ox Rt dX3_tread_100 (Nat.le_of_ble_eq_true rfl) (Nat.le_of_ble_eq_true rfl) rfl ?_
          exact ⟨⟨rfl, by rw [hk]⟩, rfl⟩
        · refine k_lload Ox dX3_tread_59 8 rfl ?_
          refine k_iload Ox dX3_tread_61 0 rfl ?_
          refine k_i2l Ox dX3_tread_63 rfl ?_
          refine k_lmul Ox dX3_tread_64 ?_
          refine k_ldc2 Ox (10) dX3_tread_65 lk_X3_tread_k68 ?_
          refine k_ldiv Ox dX3_tread_68 (by decide) ?_
          refine k_goto Ox 78 dX3_tread_69 rfl ?_
          first | (rw [show lI v * (nI w).toInt64 / 10 = lI (fur lk v w) from fur_t hv c_56 hw10]) | (rw [show lI v - (nI w).toInt64 = lI (fur lk v w) from fur_f c_56 hw10])
          refine k_lstore Ox [(10, _), (9, _), (8, _), (0, _), (1, _), (2, _), (3, _), (4, _), (5, _), (6, _)] dX3_tread_78 (by decide) rfl ?_
          refine k_aload_n Ox dX3_tread_80 rfl 3 rfl ?_
          refine k_aload_n Ox dX3_tread_81 rfl 4 rfl ?_
          refine k_iload Ox dX3_tread_82 2 rfl ?_
          refine k_iload Ox dX3_tread_84 7 rfl ?_
          refine k_iconst Ox (v := nI 1) dX3_tread_86 rfl ?_
          refine k_iaddN Ox dX3_tread_87 ?_
          refine k_iload Ox dX3_tread_88 8 rfl ?_
          refine k_iconst Ox (v := nI 1) dX3_tread_90 rfl ?_
          refine k_iload Ox dX3_tread_91 2 rfl ?_
          refine k_ishl Ox dX3_tread_93 ?_
          refine k_top _ (shl1 j hj) ?_
          refine k_ior Ox dX3_tread_94 ?_
          refine k_top _ (orb1 _ hsn _ hj) ?_
          refine k_lload Ox dX3_tread_95 0 rfl ?_
          refine k_callV Ox [0, 1, 2, 3, 4, 5, 6] (c_X3_walk_1 G _ _ _ _ _ _ _ _ _ _ _ _ _ _ _ _ _ _ _ _ _ _ _ _ _ (hL) (hG) (hW) (putT_ok hs) (hj) (setb_lt _ hsn _ hj true) (hgo) (by have := vOK_step hv (hW p w hp hw); exact this)) 5 rfl rfl rfl ⟨rfl, rfl⟩ rfl rfl gX3_tread_X3_walk rfl 0 rfl ⟨rfl, (by decide +kernel), (by decide +kernel), (by decide +kernel)⟩ rfl dX3_tread_97 (Nat.le_of_ble_eq_true rfl) rfl ⟨Nat.le_of_ble_eq_true rfl, Nat.le_of_ble_eq_true rfl⟩ (fun r wa wb hp => ?_)
          obtain ⟨⟨rfl, rfl⟩, rfl⟩ := hp
          show V x G _ _ _ _ _ _ [_, _, _, _, _, _, _]
          refine k_vret0 Ox Rt dX3_tread_100 (Nat.le_of_ble_eq_true rfl) (Nat.le_of_ble_eq_true rfl) rfl ?_
          exact ⟨⟨rfl, by rw [hk]⟩, rfl⟩
      · have hk : (trS L Gr W lk 1 is sn v (wkF L Gr W lk go 1) p s) = s := trS_seen hn hw (bit_eq c_38)
        refine k_vret0 Ox Rt dX3_tread_41 (Nat.le_of_ble_eq_true rfl) (Nat.le_of_ble_eq_true rfl) rfl ?_
        exact ⟨⟨rfl, by rw [hk]⟩, rfl⟩
set_option maxHeartbeats 400000 in
set_option maxRecDepth 4000 in
theorem c_X3_walk_2 (G : Gx) (wy wt td bs : Nat) (lk : Bool) (go : Nat) (s : Ws) (d ls gs ly hh tr kn sp sl be : Nat) (fd sg : Nat) (L Gr : Nat → Nat) (W : Nat → Option Nat) (is sn : Nat) (v : Int) (hL : okP L) (hG : okP Gr) (hW : okWt W) (hs : okWs s) (his : is < 6) (hsn : sn < 64) (hgo : go < 6) (hv : vOK lk 3 v) : Ct G yX3_walk wsX3_walk { frames := 7, cells := 0, slots := 0, locals := 182 } [.ref wy, .ref d, .int (nI is), .int (nI 3), .int (nI sn), .long (lI v)] [(wy, cO 3 [.ref wt, .ref td, .ref bs, .int (bI lk), .int (nI go), .int (lnI (wL s)), .long (lI (wV s))]), (wt, cI G 6 (rW W)), (td, cI G 6 (rN (wT s))), (bs, cI G 6 (rN (wB s))), (d, cO 1 [.ref ls, .ref gs, .ref ly, .ref hh, .ref tr, .ref kn, .ref sp, .ref sl, .ref be, .int (nI fd), .int (nI sg)]), (ls, cI G 6 (rN L)), (gs, cI G 6 (rN Gr))] (fun r wa => r = none ∧ wa = [(wy, cO 3 [.ref wt, .ref td, .ref bs, .int (bI lk), .int (nI go), .int (lnI (wL (wkF L Gr W lk go 2 is sn v s))), .long (lI (wV (wkF L Gr W lk go 2 is sn v s)))]), (wt, cI G 6 (rW W)), (td, cI G 6 (rN (wT (wkF L Gr W lk go 2 is sn v s)))), (bs, cI G 6 (rN (wB (wkF L Gr W lk go 2 is sn v s)))), (d, cO 1 [.ref ls, .ref gs, .ref ly, .ref hh, .ref tr, .ref kn, .ref sp, .ref sl, .ref be, .int (nI fd), .int (nI sg)]), (ls, cI G 6 (rN L)), (gs, cI G 6 (rN Gr))]) := by
  refine CtN.of [(0, .ref wy), (1, .ref d), (2, .int (nI is)), (3, .int (nI 3)), (4, .int (nI sn)), (5, .long (lI v))] (by decide +kernel) rfl rfl rfl rfl ?_
  intro x Ox Rt
  refine k_iload_n Ox dX3_walk_0 rfl 2 rfl ?_
  refine k_aload_n Ox dX3_walk_1 rfl 0 rfl ?_
  refine k_get Ox 0 rfl rfl hin_X3_walk_X3 4 rfl lk_X3_walk_f43 rfl rfl dX3_walk_2 ?_
  refine k_icmp_neN Ox 16 dX3_walk_5 rfl (by omega) (by omega) (fun c_5 => ?_) (fun c_5 => ?_)
  · refine k_iload_n Ox dX3_walk_16 rfl 3 rfl ?_
    refine k_iconst Ox (v := nI 5) dX3_walk_17 rfl ?_
    refine k_icmp_ltN Ox 22 dX3_walk_18 rfl (by decide) (by decide) (fun _ => ?_) (fun h => absurd h (by decide))
    refine k_iconst Ox (v := nI 0) dX3_walk_22 rfl ?_
    refine k_istore Ox [(7, _), (0, _), (1, _), (2, _), (3, _), (4, _), (5, _)] dX3_walk_23 (by decide) rfl ?_
    have L25 : ∀ (fuel : Nat) (i : Nat), i ≤ 6 → 7 ≤ i + fuel → V x G 8 0 0 25 [(0, .ref wy), (1, .ref d), (2, .int (nI is)), (3, .int (nI 3)), (4, .int (nI sn)), (5, .long (lI v)), (7, .int (nI i))] [] [(wy, cO 3 [.ref wt, .ref td, .ref bs, .int (bI lk), .int (nI go), .int (lnI (wL (foldT (trS L Gr W lk 1 is sn v (wkF L Gr W lk go 1)) i s))), .long (lI (wV (foldT (trS L Gr W lk 1 is sn v (wkF L Gr W lk go 1)) i s)))]), (wt, cI G 6 (rW W)), (td, cI G 6 (rN (wT (foldT (trS L Gr W lk 1 is sn v (wkF L Gr W lk go 1)) i s)))), (bs, cI G 6 (rN (wB (foldT (trS L Gr W lk 1 is sn v (wkF L Gr W lk go 1)) i s)))), (d, cO 1 [.ref ls, .ref gs, .ref ly, .ref hh, .ref tr, .ref kn, .ref sp, .ref sl, .ref be, .int (nI fd), .int (nI sg)]), (ls, cI G 6 (rN L)), (gs, cI G 6 (rN Gr))] := by
      intro fuel
      induction fuel with
      | zero => intro i hi hfuel; exact absurd hi (by omega)
      | succ fuel ih =>
        intro i hi hfuel
        refine k_iload Ox dX3_walk_25 6 rfl ?_
        refine k_bipush Ox (v := nI 6) dX3_walk_27 rfl ?_
        refine k_icmp_geN Ox 51 dX3_walk_29 rfl (by omega) (by omega) (fun c_29 => ?_) (fun c_29 => ?_)
        · obtain rfl : i = 6 := by omega
          refine k_vret0 Ox Rt dX3_walk_51 (Nat.le_of_ble_eq_true rfl) (Nat.le_of_ble_eq_true rfl) rfl ?_
          exact ⟨⟨rfl, by rw [show (wkF L Gr W lk go 2 is sn v s) = foldT (trS L Gr W lk 1 is sn v (wkF L Gr W lk go 1)) 6 s by simp only [wkF]; rw [if_neg c_5]]⟩, rfl⟩
        · refine k_aload_n Ox dX3_walk_32 rfl 0 rfl ?_
          refine k_aload_n Ox dX3_walk_33 rfl 1 rfl ?_
          refine k_iload Ox dX3_walk_34 6 rfl ?_
          refine k_iload_n Ox dX3_walk_36 rfl 2 rfl ?_
          refine k_iload_n Ox dX3_walk_37 rfl 3 rfl ?_
          refine k_iload Ox dX3_walk_38 4 rfl ?_
          refine k_lload Ox dX3_walk_40 5 rfl ?_
          refine k_callV Ox [0, 1, 2, 3, 4, 5, 6] (c_X3_tread_2 G _ _ _ _ _ _ _ _ _ _ _ _ _ _ _ _ _ _ _ _ _ _ _ _ _ _ (hL) (hG) (hW) (foldT_ok (fun p s hp hs => trS_ok hW (by decide) hv hp hs) i (by omega) s hs) (by omega) (his) (hsn) (hgo) (hv)) 6 rfl rfl rfl ⟨rfl, rfl⟩ rfl rfl gX3_walk_X3_tread rfl 0 rfl ⟨rfl, (by decide +kernel), (by decide +kernel), (by decide +kernel)⟩ rfl dX3_walk_42 (Nat.le_of_ble_eq_true rfl) rfl ⟨Nat.le_of_ble_eq_true rfl, Nat.le_of_ble_eq_true rfl⟩ (fun r wa wb hp => ?_)
          obtain ⟨⟨rfl, rfl⟩, rfl⟩ := hp
          show V x G _ _ _ _ _ _ [_, _, _, _, _, _, _]
          refine k_iincN Ox (k := 6) (m := 1) [(7, _), (0, _), (1, _), (2, _), (3, _), (4, _), (5, _)] dX3_walk_45 rfl rfl (by decide) rfl ?_
          refine k_goto Ox 25 dX3_walk_48 rfl ?_
          refine k_sub [1, 2, 3, 4, 5, 6, 0] [(0, _), (1, _), (2, _), (3, _), (4, _), (5, _), (7, _)] rfl ?_
          exact ih (i + 1) (by omega) (by omega)
    refine k_sub [1, 2, 3, 4, 5, 6, 0] [(0, _), (1, _), (2, _), (3, _), (4, _), (5, _), (7, _)] rfl ?_
    exact L25 7 0 (by omega) (by omega)
  · refine k_aload_n Ox dX3_walk_8 rfl 0 rfl ?_
    refine k_iload_n Ox dX3_walk_9 rfl 3 rfl ?_
    refine k_lload Ox dX3_walk_10 5 rfl ?_
    refine k_callV Ox [0, 2, 3] (c_X3_keepIfBetter G _ _ _ _ _ _ _ _ _ (hs) (by decide) (vOK_b (by decide) hv)) 2 rfl rfl rfl ⟨rfl, rfl⟩ rfl rfl gX3_walk_X3_keepIfBetter rfl 0 rfl ⟨rfl, (by decide +kernel), (by decide +kernel), (by decide +kernel)⟩ rfl dX3_walk_12 (Nat.le_of_ble_eq_true rfl) rfl ⟨Nat.le_of_ble_eq_true rfl, Nat.le_of_ble_eq_true rfl⟩ (fun r wa wb hp => ?_)
    obtain ⟨⟨rfl, rfl⟩, rfl⟩ := hp
    show V x G _ _ _ _ _ _ [_, _, _, _, _, _, _]
    refine k_vret0 Ox Rt dX3_walk_15 (Nat.le_of_ble_eq_true rfl) (Nat.le_of_ble_eq_true rfl) rfl ?_
    exact ⟨⟨rfl, by rw [show (wkF L Gr W lk go 2 is sn v s) = kib 3 v s by simp only [wkF]; rw [if_pos c_5]]⟩, rfl⟩
set_option maxHeartbeats 2000000 in
set_option maxRecDepth 4000 in
theorem c_X3_tread_3 (G : Gx) (wy wt td bs : Nat) (lk : Bool) (go : Nat) (s : Ws) (d ls gs ly hh tr kn sp sl be : Nat) (fd sg : Nat) (L Gr : Nat → Nat) (W : Nat → Option Nat) (p is sn : Nat) (v : Int) (hL : okP L) (hG : okP Gr) (hW : okWt W) (hs : okWs s) (hp : p < 6) (his : is < 6) (hsn : sn < 64) (hgo : go < 6) (hv : vOK lk 2 v) : Ct G yX3_tread wsX3_tread { frames := 8, cells := 0, slots := 0, locals := 209 } [.ref wy, .ref d, .int (nI p), .int (nI is), .int (nI 2), .int (nI sn), .long (lI v)] [(wy, cO 3 [.ref wt, .ref td, .ref bs, .int (bI lk), .int (nI go), .int (lnI (wL s)), .long (lI (wV s))]), (wt, cI G 6 (rW W)), (td, cI G 6 (rN (wT s))), (bs, cI G 6 (rN (wB s))), (d, cO 1 [.ref ls, .ref gs, .ref ly, .ref hh, .ref tr, .ref kn, .ref sp, .ref sl, .ref be, .int (nI fd), .int (nI sg)]), (ls, cI G 6 (rN L)), (gs, cI G 6 (rN Gr))] (fun r wa => r = none ∧ wa = [(wy, cO 3 [.ref wt, .ref td, .ref bs, .int (bI lk), .int (nI go), .int (lnI (wL (trS L Gr W lk 2 is sn v (wkF L Gr W lk go 2) p s))), .long (lI (wV (trS L Gr W lk 2 is sn v (wkF L Gr W lk go 2) p s)))]), (wt, cI G 6 (rW W)), (td, cI G 6 (rN (wT (trS L Gr W lk 2 is sn v (wkF L Gr W lk go 2) p s)))), (bs, cI G 6 (rN (wB (trS L Gr W lk 2 is sn v (wkF L Gr W lk go 2) p s)))), (d, cO 1 [.ref ls, .ref gs, .ref ly, .ref hh, .ref tr, .ref kn, .ref sp, .ref sl, .ref be, .int (nI fd), .int (nI sg)]), (ls, cI G 6 (rN L)), (gs, cI G 6 (rN Gr))]) := by
  refine CtN.of [(0, .ref wy), (1, .ref d), (2, .int (nI p)), (3, .int (nI is)), (4, .int (nI 2)), (5, .int (nI sn)), (6, .long (lI v))] (by decide +kernel) rfl rfl rfl rfl ?_
  intro x Ox Rt
  refine k_aload_n Ox dX3_tread_0 rfl 1 rfl ?_
  refine k_iload_n Ox dX3_tread_1 rfl 2 rfl ?_
  refine k_iload_n Ox dX3_tread_2 rfl 3 rfl ?_
  refine k_callV Ox [4, 5, 6] (c_X1_across G _ _ _ _ _ _ _ _ _ _ _ _ _ _ _ _ (hL) (hG) (by omega) (his)) 2 rfl rfl rfl ⟨rfl, rfl⟩ rfl rfl gX3_tread_X1_across rfl 4 rfl ⟨rfl, (by decide +kernel), (by decide +kernel), (by decide +kernel)⟩ rfl dX3_tread_3 (Nat.le_of_ble_eq_true rfl) rfl ⟨Nat.le_of_ble_eq_true rfl, Nat.le_of_ble_eq_true rfl⟩ (fun r wa wb hp => ?_)
  obtain ⟨⟨rfl, rfl⟩, rfl⟩ := hp
  show V x G _ _ _ _ _ (.int _ :: _) [_, _, _, _, _, _, _]
  refine k_istore Ox [(8, _), (0, _), (1, _), (2, _), (3, _), (4, _), (5, _), (6, _)] dX3_tread_6 (by decide) rfl ?_
  refine k_aload_n Ox dX3_tread_8 rfl 1 rfl ?_
  refine k_get Ox 0 rfl rfl hin_X3_tread_X3 0 rfl lk_X3_tread_f9 rfl rfl dX3_tread_9 ?_
  refine k_iload_n Ox dX3_tread_12 rfl 3 rfl ?_
  refine k_callSN Ox [1] (c_X4_at G _ _ _ _ (by omega) (by decide)) 2 rfl rfl rfl ⟨rfl, rfl⟩ rfl rfl gX3_tread_X4_at_n39 (by decide +kernel) lk_X3_tread_sX4_at lk_X3_tread_tX4 ⟨(by decide +kernel), (by decide +kernel), (by decide +kernel)⟩ rfl dX3_tread_13 (Nat.le_of_ble_eq_true rfl) rfl ⟨Nat.le_of_ble_eq_true rfl, Nat.le_of_ble_eq_true rfl⟩ (fun r wa wb hp => ?_)
  obtain ⟨⟨rfl, rfl⟩, rfl⟩ := hp
  show V x G _ _ _ _ _ (.int _ :: _) [_, _, _, _, _, _, _]
  refine k_istore Ox [(9, _), (8, _), (0, _), (1, _), (2, _), (3, _), (4, _), (5, _), (6, _)] dX3_tread_16 (by decide) rfl ?_
  refine k_iload Ox dX3_tread_18 1 rfl ?_
  refine k_iconst Ox (v := -1) dX3_tread_20 (by decide) ?_
  refine k_icmp_eq Ox 41 dX3_tread_21 rfl (fun c_21 => ?_) (fun c_21 => ?_)
  · have hk : (trS L Gr W lk 2 is sn v (wkF L Gr W lk go 2) p s) = s := trS_none1 (acr_none hL hG c_21 hp)
    refine k_vret0 Ox Rt dX3_tread_41 (Nat.le_of_ble_eq_true rfl) (Nat.le_of_ble_eq_true rfl) rfl ?_
    exact ⟨⟨rfl, by rw [hk]⟩, rfl⟩
  · obtain ⟨j, hj, -, e1, hn⟩ := acr_some hL hG c_21
    rw [e1]
    refine k_iload Ox dX3_tread_24 0 rfl ?_
    refine k_iconst Ox (v := -1) dX3_tread_26 (by decide) ?_
    refine k_icmp_eq Ox 41 dX3_tread_27 rfl (fun c_27 => ?_) (fun c_27 => ?_)
    · have hk : (trS L Gr W lk 2 is sn v (wkF L Gr W lk go 2) p s) = s := trS_none2 ((wI_none (fun w => hW p w hp)).mp c_27)
      refine k_vret0 Ox Rt dX3_tread_41 (Nat.le_of_ble_eq_true rfl) (Nat.le_of_ble_eq_true rfl) rfl ?_
      exact ⟨⟨rfl, by rw [hk]⟩, rfl⟩
    · obtain ⟨w, hw⟩ : ∃ w, W p = some w := by
        cases h : W p with
        | none => exact absurd (by show wI (W p) = -1; rw [h]; rfl) c_27
        | some w => exact ⟨w, rfl⟩
      have hw10 := hW p w hp hw
      have hrw : rW W p = nI w := by show wI (W p) = nI w; rw [hw]; rfl
      rw [hrw]
      refine k_iload Ox dX3_tread_30 7 rfl ?_
      refine k_iload Ox dX3_tread_32 1 rfl ?_
      refine k_ishr Ox dX3_tread_34 ?_
      refine k_iconst Ox (v := nI 1) dX3_tread_35 rfl ?_
      refine k_iand Ox dX3_tread_36 ?_
      refine k_top _ (hasb _ hsn _ hj) ?_
      refine k_iconst Ox (v := nI 1) dX3_tread_37 rfl ?_
      refine k_icmp_ne Ox 42 dX3_tread_38 rfl (fun c_38 => ?_) (fun c_38 => ?_)
      · have hk := trS_go (lk := lk) (k := 2) (v := v) (wk := wkF L Gr W lk go 2) (s := s) hn hw (bit_ne c_38)
        have hvb := vOK_b (by omega) hv
        refine k_aload_n Ox dX3_tread_42 rfl 2 rfl ?_
        refine k_get Ox 0 rfl rfl hin_X3_tread_X3 1 rfl lk_X3_tread_f15 rfl rfl dX3_tread_43 ?_
        refine k_iload Ox dX3_tread_46 6 rfl ?_
        refine k_iload_n Ox dX3_tread_48 rfl 4 rfl ?_
        refine k_callSN Ox [2] (c_X4_put G _ _ _ _ _ (by omega) (by decide)) 3 rfl rfl rfl ⟨rfl, rfl⟩ rfl rfl gX3_tread_X4_put_n21 (by decide +kernel) lk_X3_tread_sX4_put lk_X3_tread_tX4 ⟨(by decide +kernel), (by decide +kernel), (by decide +kernel)⟩ rfl dX3_tread_49 (Nat.le_of_ble_eq_true rfl) rfl ⟨Nat.le_of_ble_eq_true rfl, Nat.le_of_ble_eq_true rfl⟩ (fun r wa wb hp => ?_)
        obtain ⟨⟨rfl, rfl⟩, rfl⟩ := hp
        show V x G _ _ _ _ _ _ [_, _, _, _, _, _, _]
        rw [rN_upd]
        refine k_aload_n Ox dX3_tread_52 rfl 2 rfl ?_
        refine k_get Ox 0 rfl rfl hin_X3_tread_X3 3 rfl lk_X3_tread_f25 rfl rfl dX3_tread_53 ?_
        refine k_if_eqB Ox 72 dX3_tread_56 rfl (fun c_56 => ?_) (fun c_56 => ?_)
        · refine k_lload Ox dX3_tread_72 8 rfl ?_
          refine k_iload Ox dX3_tread_74 0 rfl ?_
          refine k_i2l Ox dX3_tread_76 rfl ?_
          refine k_lsub Ox dX3_tread_77 ?_
          first | (rw [show lI v * (nI w).toInt64 / 10 = lI (fur lk v w) from fur_t hv c_56 hw10]) | (rw [show lI v - (nI w).toInt64 = lI (fur lk v w) from fur_f c_56 hw10])
          refine k_lstore Ox [(10, _), (9, _), (8, _), (0, _), (1, _), (2, _), (3, _), (4, _), (5, _), (6, _)] dX3_tread_78 (by decide) rfl ?_
          refine k_aload_n Ox dX3_tread_80 rfl 3 rfl ?_
          refine k_aload_n Ox dX3_tread_81 rfl 4 rfl ?_
          refine k_iload Ox dX3_tread_82 2 rfl ?_
          refine k_iload Ox dX3_tread_84 7 rfl ?_
          refine k_iconst Ox (v := nI 1) dX3_tread_86 rfl ?_
          refine k_iaddN Ox dX3_tread_87 ?_
          refine k_iload Ox dX3_tread_88 8 rfl ?_
          refine k_iconst Ox (v := nI 1) dX3_tread_90 rfl ?_
          refine k_iload Ox dX3_tread_91 2 rfl ?_
          refine k_ishl Ox dX3_tread_93 ?_
          refine k_top _ (shl1 j hj) ?_
          refine k_ior Ox dX3_tread_94 ?_
          refine k_top _ (orb1 _ hsn _ hj) ?_
          refine k_lload Ox dX3_tread_95 0 rfl ?_
          refine k_callV Ox [0, 1, 2, 3, 4, 5, 6] (c_X3_walk_2 G _ _ _ _ _ _ _ _ _ _ _ _ _ _ _ _ _ _ _ _ _ _ _ _ _ (hL) (hG) (hW) (putT_ok hs) (hj) (setb_lt _ hsn _ hj true) (hgo) (by have := vOK_step hv (hW p w hp hw); exact this)) 5 rfl rfl rfl ⟨rfl, rfl⟩ rfl rfl gX3_tread_X3_walk rfl 0 rfl ⟨rfl, (by decide +kernel), (by decide +kernel), (by decide +kernel)⟩ rfl dX3_tread_97 (Nat.le_of_ble_eq_true rfl) rfl ⟨Nat.le_of_ble_eq_true rfl, Nat.le_of_ble_eq_true rfl⟩ (fun r wa wb hp => ?_)
          obtain ⟨⟨rfl, rfl⟩, rfl⟩ := hp
          show V x G _ _ _ _ _ _ [_, _, _, _, _, _, _]
          refine k_vret0 Ox Rt dX3_tread_100 (Nat.le_of_ble_eq_true rfl) (Nat.le_of_ble_eq_true rfl) rfl ?_
          exact ⟨⟨rfl, by rw [hk]⟩, rfl⟩
        · refine k_lload Ox dX3_tread_59 8 rfl ?_
          refine k_iload Ox dX3_tread_61 0 rfl ?_
          refine k_i2l Ox dX3_tread_63 rfl ?_
          refine k_lmul Ox dX3_tread_64 ?_
          refine k_ldc2 Ox (10) dX3_tread_65 lk_X3_tread_k68 ?_
          refine k_ldiv Ox dX3_tread_68 (by decide) ?_
          refine k_goto Ox 78 dX3_tread_69 rfl ?_
          first | (rw [show lI v * (nI w).toInt64 / 10 = lI (fur lk v w) from fur_t hv c_56 hw10]) | (rw [show lI v - (nI w).toInt64 = lI (fur lk v w) from fur_f c_56 hw10])
          refine k_lstore Ox [(10, _), (9, _), (8, _), (0, _), (1, _), (2, _), (3, _), (4, _), (5, _), (6, _)] dX3_tread_78 (by decide) rfl ?_
          refine k_aload_n Ox dX3_tread_80 rfl 3 rfl ?_
          refine k_aload_n Ox dX3_tread_81 rfl 4 rfl ?_
          refine k_iload Ox dX3_tread_82 2 rfl ?_
          refine k_iload Ox dX3_tread_84 7 rfl ?_
          refine k_iconst Ox (v := nI 1) dX3_tread_86 rfl ?_
          refine k_iaddN Ox dX3_tread_87 ?_
          refine k_iload Ox dX3_tread_88 8 rfl ?_
          refine k_iconst Ox (v := nI 1) dX3_tread_90 rfl ?_
          refine k_iload Ox dX3_tread_91 2 rfl ?_
          refine k_ishl Ox dX3_tread_93 ?_
          refine k_top _ (shl1 j hj) ?_
          refine k_ior Ox dX3_tread_94 ?_
          refine k_top _ (orb1 _ hsn _ hj) ?_
          refine k_lload Ox dX3_tread_95 0 rfl ?_
          refine k_callV Ox [0, 1, 2, 3, 4, 5, 6] (c_X3_walk_2 G _ _ _ _ _ _ _ _ _ _ _ _ _ _ _ _ _ _ _ _ _ _ _ _ _ (hL) (hG) (hW) (putT_ok hs) (hj) (setb_lt _ hsn _ hj true) (hgo) (by have := vOK_step hv (hW p w hp hw); exact this)) 5 rfl rfl rfl ⟨rfl, rfl⟩ rfl rfl gX3_tread_X3_walk rfl 0 rfl ⟨rfl, (by decide +kernel), (by decide +kernel), (by decide +kernel)⟩ rfl dX3_tread_97 (Nat.le_of_ble_eq_true rfl) rfl ⟨Nat.le_of_ble_eq_true rfl, Nat.le_of_ble_eq_true rfl⟩ (fun r wa wb hp => ?_)
          obtain ⟨⟨rfl, rfl⟩, rfl⟩ := hp
          show V x G _ _ _ _ _ _ [_, _, _, _, _, _, _]
          refine k_vret0 Ox Rt dX3_tread_100 (Nat.le_of_ble_eq_true rfl) (Nat.le_of_ble_eq_true rfl) rfl ?_
          exact ⟨⟨rfl, by rw [hk]⟩, rfl⟩
      · have hk : (trS L Gr W lk 2 is sn v (wkF L Gr W lk go 2) p s) = s := trS_seen hn hw (bit_eq c_38)
        refine k_vret0 Ox Rt dX3_tread_41 (Nat.le_of_ble_eq_true rfl) (Nat.le_of_ble_eq_true rfl) rfl ?_
        exact ⟨⟨rfl, by rw [hk]⟩, rfl⟩
set_option maxHeartbeats 400000 in
set_option maxRecDepth 4000 in
theorem c_X3_walk_3 (G : Gx) (wy wt td bs : Nat) (lk : Bool) (go : Nat) (s : Ws) (d ls gs ly hh tr kn sp sl be : Nat) (fd sg : Nat) (L Gr : Nat → Nat) (W : Nat → Option Nat) (is sn : Nat) (v : Int) (hL : okP L) (hG : okP Gr) (hW : okWt W) (hs : okWs s) (his : is < 6) (hsn : sn < 64) (hgo : go < 6) (hv : vOK lk 2 v) : Ct G yX3_walk wsX3_walk { frames := 9, cells := 0, slots := 0, locals := 240 } [.ref wy, .ref d, .int (nI is), .int (nI 2), .int (nI sn), .long (lI v)] [(wy, cO 3 [.ref wt, .ref td, .ref bs, .int (bI lk), .int (nI go), .int (lnI (wL s)), .long (lI (wV s))]), (wt, cI G 6 (rW W)), (td, cI G 6 (rN (wT s))), (bs, cI G 6 (rN (wB s))), (d, cO 1 [.ref ls, .ref gs, .ref ly, .ref hh, .ref tr, .ref kn, .ref sp, .ref sl, .ref be, .int (nI fd), .int (nI sg)]), (ls, cI G 6 (rN L)), (gs, cI G 6 (rN Gr))] (fun r wa => r = none ∧ wa = [(wy, cO 3 [.ref wt, .ref td, .ref bs, .int (bI lk), .int (nI go), .int (lnI (wL (wkF L Gr W lk go 3 is sn v s))), .long (lI (wV (wkF L Gr W lk go 3 is sn v s)))]), (wt, cI G 6 (rW W)), (td, cI G 6 (rN (wT (wkF L Gr W lk go 3 is sn v s)))), (bs, cI G 6 (rN (wB (wkF L Gr W lk go 3 is sn v s)))), (d, cO 1 [.ref ls, .ref gs, .ref ly, .ref hh, .ref tr, .ref kn, .ref sp, .ref sl, .ref be, .int (nI fd), .int (nI sg)]), (ls, cI G 6 (rN L)), (gs, cI G 6 (rN Gr))]) := by
  refine CtN.of [(0, .ref wy), (1, .ref d), (2, .int (nI is)), (3, .int (nI 2)), (4, .int (nI sn)), (5, .long (lI v))] (by decide +kernel) rfl rfl rfl rfl ?_
  intro x Ox Rt
  refine k_iload_n Ox dX3_walk_0 rfl 2 rfl ?_
  refine k_aload_n Ox dX3_walk_1 rfl 0 rfl ?_
  refine k_get Ox 0 rfl rfl hin_X3_walk_X3 4 rfl lk_X3_walk_f43 rfl rfl dX3_walk_2 ?_
  refine k_icmp_neN Ox 16 dX3_walk_5 rfl (by omega) (by omega) (fun c_5 => ?_) (fun c_5 => ?_)
  · refine k_iload_n Ox dX3_walk_16 rfl 3 rfl ?_
    refine k_iconst Ox (v := nI 5) dX3_walk_17 rfl ?_
    refine k_icmp_ltN Ox 22 dX3_walk_18 rfl (by decide) (by decide) (fun _ => ?_) (fun h => absurd h (by decide))
    refine k_iconst Ox (v := nI 0) dX3_walk_22 rfl ?_
    refine k_istore Ox [(7, _), (0, _), (1, _), (2, _), (3, _), (4, _), (5, _)] dX3_walk_23 (by decide) rfl ?_
    have L25 : ∀ (fuel : Nat) (i : Nat), i ≤ 6 → 7 ≤ i + fuel → V x G 8 0 0 25 [(0, .ref wy), (1, .ref d), (2, .int (nI is)), (3, .int (nI 2)), (4, .int (nI sn)), (5, .long (lI v)), (7, .int (nI i))] [] [(wy, cO 3 [.ref wt, .ref td, .ref bs, .int (bI lk), .int (nI go), .int (lnI (wL (foldT (trS L Gr W lk 2 is sn v (wkF L Gr W lk go 2)) i s))), .long (lI (wV (foldT (trS L Gr W lk 2 is sn v (wkF L Gr W lk go 2)) i s)))]), (wt, cI G 6 (rW W)), (td, cI G 6 (rN (wT (foldT (trS L Gr W lk 2 is sn v (wkF L Gr W lk go 2)) i s)))), (bs, cI G 6 (rN (wB (foldT (trS L Gr W lk 2 is sn v (wkF L Gr W lk go 2)) i s)))), (d, cO 1 [.ref ls, .ref gs, .ref ly, .ref hh, .ref tr, .ref kn, .ref sp, .ref sl, .ref be, .int (nI fd), .int (nI sg)]), (ls, cI G 6 (rN L)), (gs, cI G 6 (rN Gr))] := by
      intro fuel
      induction fuel with
      | zero => intro i hi hfuel; exact absurd hi (by omega)
      | succ fuel ih =>
        intro i hi hfuel
        refine k_iload Ox dX3_walk_25 6 rfl ?_
        refine k_bipush Ox (v := nI 6) dX3_walk_27 rfl ?_
        refine k_icmp_geN Ox 51 dX3_walk_29 rfl (by omega) (by omega) (fun c_29 => ?_) (fun c_29 => ?_)
        · obtain rfl : i = 6 := by omega
          refine k_vret0 Ox Rt dX3_walk_51 (Nat.le_of_ble_eq_true rfl) (Nat.le_of_ble_eq_true rfl) rfl ?_
          exact ⟨⟨rfl, by rw [show (wkF L Gr W lk go 3 is sn v s) = foldT (trS L Gr W lk 2 is sn v (wkF L Gr W lk go 2)) 6 s by simp only [wkF]; rw [if_neg c_5]]⟩, rfl⟩
        · refine k_aload_n Ox dX3_walk_32 rfl 0 rfl ?_
          refine k_aload_n Ox dX3_walk_33 rfl 1 rfl ?_
          refine k_iload Ox dX3_walk_34 6 rfl ?_
          refine k_iload_n Ox dX3_walk_36 rfl 2 rfl ?_
          refine k_iload_n Ox dX3_walk_37 rfl 3 rfl ?_
          refine k_iload Ox dX3_walk_38 4 rfl ?_
          refine k_lload Ox dX3_walk_40 5 rfl ?_
          refine k_callV Ox [0, 1, 2, 3, 4, 5, 6] (c_X3_tread_3 G _ _ _ _ _ _ _ _ _ _ _ _ _ _ _ _ _ _ _ _ _ _ _ _ _ _ (hL) (hG) (hW) (foldT_ok (fun p s hp hs => trS_ok hW (by decide) hv hp hs) i (by omega) s hs) (by omega) (his) (hsn) (hgo) (hv)) 6 rfl rfl rfl ⟨rfl, rfl⟩ rfl rfl gX3_walk_X3_tread rfl 0 rfl ⟨rfl, (by decide +kernel), (by decide +kernel), (by decide +kernel)⟩ rfl dX3_walk_42 (Nat.le_of_ble_eq_true rfl) rfl ⟨Nat.le_of_ble_eq_true rfl, Nat.le_of_ble_eq_true rfl⟩ (fun r wa wb hp => ?_)
          obtain ⟨⟨rfl, rfl⟩, rfl⟩ := hp
          show V x G _ _ _ _ _ _ [_, _, _, _, _, _, _]
          refine k_iincN Ox (k := 6) (m := 1) [(7, _), (0, _), (1, _), (2, _), (3, _), (4, _), (5, _)] dX3_walk_45 rfl rfl (by decide) rfl ?_
          refine k_goto Ox 25 dX3_walk_48 rfl ?_
          refine k_sub [1, 2, 3, 4, 5, 6, 0] [(0, _), (1, _), (2, _), (3, _), (4, _), (5, _), (7, _)] rfl ?_
          exact ih (i + 1) (by omega) (by omega)
    refine k_sub [1, 2, 3, 4, 5, 6, 0] [(0, _), (1, _), (2, _), (3, _), (4, _), (5, _), (7, _)] rfl ?_
    exact L25 7 0 (by omega) (by omega)
  · refine k_aload_n Ox dX3_walk_8 rfl 0 rfl ?_
    refine k_iload_n Ox dX3_walk_9 rfl 3 rfl ?_
    refine k_lload Ox dX3_walk_10 5 rfl ?_
    refine k_callV Ox [0, 2, 3] (c_X3_keepIfBetter G _ _ _ _ _ _ _ _ _ (hs) (by decide) (vOK_b (by decide) hv)) 2 rfl rfl rfl ⟨rfl, rfl⟩ rfl rfl gX3_walk_X3_keepIfBetter rfl 0 rfl ⟨rfl, (by decide +kernel), (by decide +kernel), (by decide +kernel)⟩ rfl dX3_walk_12 (Nat.le_of_ble_eq_true rfl) rfl ⟨Nat.le_of_ble_eq_true rfl, Nat.le_of_ble_eq_true rfl⟩ (fun r wa wb hp => ?_)
    obtain ⟨⟨rfl, rfl⟩, rfl⟩ := hp
    show V x G _ _ _ _ _ _ [_, _, _, _, _, _, _]
    refine k_vret0 Ox Rt dX3_walk_15 (Nat.le_of_ble_eq_true rfl) (Nat.le_of_ble_eq_true rfl) rfl ?_
    exact ⟨⟨rfl, by rw [show (wkF L Gr W lk go 3 is sn v s) = kib 2 v s by simp only [wkF]; rw [if_pos c_5]]⟩, rfl⟩
set_option maxHeartbeats 2000000 in
set_option maxRecDepth 4000 in
theorem c_X3_tread_4 (G : Gx) (wy wt td bs : Nat) (lk : Bool) (go : Nat) (s : Ws) (d ls gs ly hh tr kn sp sl be : Nat) (fd sg : Nat) (L Gr : Nat → Nat) (W : Nat → Option Nat) (p is sn : Nat) (v : Int) (hL : okP L) (hG : okP Gr) (hW : okWt W) (hs : okWs s) (hp : p < 6) (his : is < 6) (hsn : sn < 64) (hgo : go < 6) (hv : vOK lk 1 v) : Ct G yX3_tread wsX3_tread { frames := 10, cells := 0, slots := 0, locals := 267 } [.ref wy, .ref d, .int (nI p), .int (nI is), .int (nI 1), .int (nI sn), .long (lI v)] [(wy, cO 3 [.ref wt, .ref td, .ref bs, .int (bI lk), .int (nI go), .int (lnI (wL s)), .long (lI (wV s))]), (wt, cI G 6 (rW W)), (td, cI G 6 (rN (wT s))), (bs, cI G 6 (rN (wB s))), (d, cO 1 [.ref ls, .ref gs, .ref ly, .ref hh, .ref tr, .ref kn, .ref sp, .ref sl, .ref be, .int (nI fd), .int (nI sg)]), (ls, cI G 6 (rN L)), (gs, cI G 6 (rN Gr))] (fun r wa => r = none ∧ wa = [(wy, cO 3 [.ref wt, .ref td, .ref bs, .int (bI lk), .int (nI go), .int (lnI (wL (trS L Gr W lk 3 is sn v (wkF L Gr W lk go 3) p s))), .long (lI (wV (trS L Gr W lk 3 is sn v (wkF L Gr W lk go 3) p s)))]), (wt, cI G 6 (rW W)), (td, cI G 6 (rN (wT (trS L Gr W lk 3 is sn v (wkF L Gr W lk go 3) p s)))), (bs, cI G 6 (rN (wB (trS L Gr W lk 3 is sn v (wkF L Gr W lk go 3) p s)))), (d, cO 1 [.ref ls, .ref gs, .ref ly, .ref hh, .ref tr, .ref kn, .ref sp, .ref sl, .ref be, .int (nI fd), .int (nI sg)]), (ls, cI G 6 (rN L)), (gs, cI G 6 (rN Gr))]) := by
  refine CtN.of [(0, .ref wy), (1, .ref d), (2, .int (nI p)), (3, .int (nI is)), (4, .int (nI 1)), (5, .int (nI sn)), (6, .long (lI v))] (by decide +kernel) rfl rfl rfl rfl ?_
  intro x Ox Rt
  refine k_aload_n Ox dX3_tread_0 rfl 1 rfl ?_
  refine k_iload_n Ox dX3_tread_1 rfl 2 rfl ?_
  refine k_iload_n Ox dX3_tread_2 rfl 3 rfl ?_
  refine k_callV Ox [4, 5, 6] (c_X1_across G _ _ _ _ _ _ _ _ _ _ _ _ _ _ _ _ (hL) (hG) (by omega) (his)) 2 rfl rfl rfl ⟨rfl, rfl⟩ rfl rfl gX3_tread_X1_across rfl 4 rfl ⟨rfl, (by decide +kernel), (by decide +kernel), (by decide +kernel)⟩ rfl dX3_tread_3 (Nat.le_of_ble_eq_true rfl) rfl ⟨Nat.le_of_ble_eq_true rfl, Nat.le_of_ble_eq_true rfl⟩ (fun r wa wb hp => ?_)
  obtain ⟨⟨rfl, rfl⟩, rfl⟩ := hp
  show V x G _ _ _ _ _ (.int _ :: _) [_, _, _, _, _, _, _]
  refine k_istore Ox [(8, _), (0, _), (1, _), (2, _), (3, _), (4, _), (5, _), (6, _)] dX3_tread_6 (by decide) rfl ?_
  refine k_aload_n Ox dX3_tread_8 rfl 1 rfl ?_
  refine k_get Ox 0 rfl rfl hin_X3_tread_X3 0 rfl lk_X3_tread_f9 rfl rfl dX3_tread_9 ?_
  refine k_iload_n Ox dX3_tread_12 rfl 3 rfl ?_
  refine k_callSN Ox [1] (c_X4_at G _ _ _ _ (by omega) (by decide)) 2 rfl rfl rfl ⟨rfl, rfl⟩ rfl rfl gX3_tread_X4_at_n39 (by decide +kernel) lk_X3_tread_sX4_at lk_X3_tread_tX4 ⟨(by decide +kernel), (by decide +kernel), (by decide +kernel)⟩ rfl dX3_tread_13 (Nat.le_of_ble_eq_true rfl) rfl ⟨Nat.le_of_ble_eq_true rfl, Nat.le_of_ble_eq_true rfl⟩ (fun r wa wb hp => ?_)
  obtain ⟨⟨rfl, rfl⟩, rfl⟩ := hp
  show V x G _ _ _ _ _ (.int _ :: _) [_, _, _, _, _, _, _]
  refine k_istore Ox [(9, _), (8, _), (0, _), (1, _), (2, _), (3, _), (4, _), (5, _), (6, _)] dX3_tread_16 (by decide) rfl ?_
  refine k_iload Ox dX3_tread_18 1 rfl ?_
  refine k_iconst Ox (v := -1) dX3_tread_20 (by decide) ?_
  refine k_icmp_eq Ox 41 dX3_tread_21 rfl (fun c_21 => ?_) (fun c_21 => ?_)
  · have hk : (trS L Gr W lk 3 is sn v (wkF L Gr W lk go 3) p s) = s := trS_none1 (acr_none hL hG c_21 hp)
    refine k_vret0 Ox Rt dX3_tread_41 (Nat.le_of_ble_eq_true rfl) (Nat.le_of_ble_eq_true rfl) rfl ?_
    exact ⟨⟨rfl, by rw [hk]⟩, rfl⟩
  · obtain ⟨j, hj, -, e1, hn⟩ := acr_some hL hG c_21
    rw [e1]
    refine k_iload Ox dX3_tread_24 0 rfl ?_
    refine k_iconst Ox (v := -1) dX3_tread_26 (by decide) ?_
    refine k_icmp_eq Ox 41 dX3_tread_27 rfl (fun c_27 => ?_) (fun c_27 => ?_)
    · have hk : (trS L Gr W lk 3 is sn v (wkF L Gr W lk go 3) p s) = s := trS_none2 ((wI_none (fun w => hW p w hp)).mp c_27)
      refine k_vret0 Ox Rt dX3_tread_41 (Nat.le_of_ble_eq_true rfl) (Nat.le_of_ble_eq_true rfl) rfl ?_
      exact ⟨⟨rfl, by rw [hk]⟩, rfl⟩
    · obtain ⟨w, hw⟩ : ∃ w, W p = some w := by
        cases h : W p with
        | none => exact absurd (by show wI (W p) = -1; rw [h]; rfl) c_27
        | some w => exact ⟨w, rfl⟩
      have hw10 := hW p w hp hw
      have hrw : rW W p = nI w := by show wI (W p) = nI w; rw [hw]; rfl
      rw [hrw]
      refine k_iload Ox dX3_tread_30 7 rfl ?_
      refine k_iload Ox dX3_tread_32 1 rfl ?_
      refine k_ishr Ox dX3_tread_34 ?_
      refine k_iconst Ox (v := nI 1) dX3_tread_35 rfl ?_
      refine k_iand Ox dX3_tread_36 ?_
      refine k_top _ (hasb _ hsn _ hj) ?_
      refine k_iconst Ox (v := nI 1) dX3_tread_37 rfl ?_
      refine k_icmp_ne Ox 42 dX3_tread_38 rfl (fun c_38 => ?_) (fun c_38 => ?_)
      · have hk := trS_go (lk := lk) (k := 3) (v := v) (wk := wkF L Gr W lk go 3) (s := s) hn hw (bit_ne c_38)
        have hvb := vOK_b (by omega) hv
        refine k_aload_n Ox dX3_tread_42 rfl 2 rfl ?_
        refine k_get Ox 0 rfl rfl hin_X3_tread_X3 1 rfl lk_X3_tread_f15 rfl rfl dX3_tread_43 ?_
        refine k_iload Ox dX3_tread_46 6 rfl ?_
        refine k_iload_n Ox dX3_tread_48 rfl 4 rfl ?_
        refine k_callSN Ox [2] (c_X4_put G _ _ _ _ _ (by omega) (by decide)) 3 rfl rfl rfl ⟨rfl, rfl⟩ rfl rfl gX3_tread_X4_put_n21 (by decide +kernel) lk_X3_tread_sX4_put lk_X3_tread_tX4 ⟨(by decide +kernel), (by decide +kernel), (by decide +kernel)⟩ rfl dX3_tread_49 (Nat.le_of_ble_eq_true rfl) rfl ⟨Nat.le_of_ble_eq_true rfl, Nat.le_of_ble_eq_true rfl⟩ (fun r wa wb hp => ?_)
        obtain ⟨⟨rfl, rfl⟩, rfl⟩ := hp
        show V x G _ _ _ _ _ _ [_, _, _, _, _, _, _]
        rw [rN_upd]
        refine k_aload_n Ox dX3_tread_52 rfl 2 rfl ?_
        refine k_get Ox 0 rfl rfl hin_X3_tread_X3 3 rfl lk_X3_tread_f25 rfl rfl dX3_tread_53 ?_
        refine k_if_eqB Ox 72 dX3_tread_56 rfl (fun c_56 => ?_) (fun c_56 => ?_)
        · refine k_lload Ox dX3_tread_72 8 rfl ?_
          refine k_iload Ox dX3_tread_74 0 rfl ?_
          refine k_i2l Ox dX3_tread_76 rfl ?_
          refine k_lsub Ox dX3_tread_77 ?_
          first | (rw [show lI v * (nI w).toInt64 / 10 = lI (fur lk v w) from fur_t hv c_56 hw10]) | (rw [show lI v - (nI w).toInt64 = lI (fur lk v w) from fur_f c_56 hw10])
          refine k_lstore Ox [(10, _), (9, _), (8, _), (0, _), (1, _), (2, _), (3, _), (4, _), (5, _), (6, _)] dX3_tread_78 (by decide) rfl ?_
          refine k_aload_n Ox dX3_tread_80 rfl 3 rfl ?_
          refine k_aload_n Ox dX3_tread_81 rfl 4 rfl ?_
          refine k_iload Ox dX3_tread_82 2 rfl ?_
          refine k_iload Ox dX3_tread_84 7 rfl ?_
          refine k_iconst Ox (v := nI 1) dX3_tread_86 rfl ?_
          refine k_iaddN Ox dX3_tread_87 ?_
          refine k_iload Ox dX3_tread_88 8 rfl ?_
          refine k_iconst Ox (v := nI 1) dX3_tread_90 rfl ?_
          refine k_iload Ox dX3_tread_91 2 rfl ?_
          refine k_ishl Ox dX3_tread_93 ?_
          refine k_top _ (shl1 j hj) ?_
          refine k_ior Ox dX3_tread_94 ?_
          refine k_top _ (orb1 _ hsn _ hj) ?_
          refine k_lload Ox dX3_tread_95 0 rfl ?_
          refine k_callV Ox [0, 1, 2, 3, 4, 5, 6] (c_X3_walk_3 G _ _ _ _ _ _ _ _ _ _ _ _ _ _ _ _ _ _ _ _ _ _ _ _ _ (hL) (hG) (hW) (putT_ok hs) (hj) (setb_lt _ hsn _ hj true) (hgo) (by have := vOK_step hv (hW p w hp hw); exact this)) 5 rfl rfl rfl ⟨rfl, rfl⟩ rfl rfl gX3_tread_X3_walk rfl 0 rfl ⟨rfl, (by decide +kernel), (by decide +kernel), (by decide +kernel)⟩ rfl dX3_tread_97 (Nat.le_of_ble_eq_true rfl) rfl ⟨Nat.le_of_ble_eq_true rfl, Nat.le_of_ble_eq_true rfl⟩ (fun r wa wb hp => ?_)
          obtain ⟨⟨rfl, rfl⟩, rfl⟩ := hp
          show V x G _ _ _ _ _ _ [_, _, _, _, _, _, _]
          refine k_vret0 Ox Rt dX3_tread_100 (Nat.le_of_ble_eq_true rfl) (Nat.le_of_ble_eq_true rfl) rfl ?_
          exact ⟨⟨rfl, by rw [hk]⟩, rfl⟩
        · refine k_lload Ox dX3_tread_59 8 rfl ?_
          refine k_iload Ox dX3_tread_61 0 rfl ?_
          refine k_i2l Ox dX3_tread_63 rfl ?_
          refine k_lmul Ox dX3_tread_64 ?_
          refine k_ldc2 Ox (10) dX3_tread_65 lk_X3_tread_k68 ?_
          refine k_ldiv Ox dX3_tread_68 (by decide) ?_
          refine k_goto Ox 78 dX3_tread_69 rfl ?_
          first | (rw [show lI v * (nI w).toInt64 / 10 = lI (fur lk v w) from fur_t hv c_56 hw10]) | (rw [show lI v - (nI w).toInt64 = lI (fur lk v w) from fur_f c_56 hw10])
          refine k_lstore Ox [(10, _), (9, _), (8, _), (0, _), (1, _), (2, _), (3, _), (4, _), (5, _), (6, _)] dX3_tread_78 (by decide) rfl ?_
          refine k_aload_n Ox dX3_tread_80 rfl 3 rfl ?_
          refine k_aload_n Ox dX3_tread_81 rfl 4 rfl ?_
          refine k_iload Ox dX3_tread_82 2 rfl ?_
          refine k_iload Ox dX3_tread_84 7 rfl ?_
          refine k_iconst Ox (v := nI 1) dX3_tread_86 rfl ?_
          refine k_iaddN Ox dX3_tread_87 ?_
          refine k_iload Ox dX3_tread_88 8 rfl ?_
          refine k_iconst Ox (v := nI 1) dX3_tread_90 rfl ?_
          refine k_iload Ox dX3_tread_91 2 rfl ?_
          refine k_ishl Ox dX3_tread_93 ?_
          refine k_top _ (shl1 j hj) ?_
          refine k_ior Ox dX3_tread_94 ?_
          refine k_top _ (orb1 _ hsn _ hj) ?_
          refine k_lload Ox dX3_tread_95 0 rfl ?_
          refine k_callV Ox [0, 1, 2, 3, 4, 5, 6] (c_X3_walk_3 G _ _ _ _ _ _ _ _ _ _ _ _ _ _ _ _ _ _ _ _ _ _ _ _ _ (hL) (hG) (hW) (putT_ok hs) (hj) (setb_lt _ hsn _ hj true) (hgo) (by have := vOK_step hv (hW p w hp hw); exact this)) 5 rfl rfl rfl ⟨rfl, rfl⟩ rfl rfl gX3_tread_X3_walk rfl 0 rfl ⟨rfl, (by decide +kernel), (by decide +kernel), (by decide +kernel)⟩ rfl dX3_tread_97 (Nat.le_of_ble_eq_true rfl) rfl ⟨Nat.le_of_ble_eq_true rfl, Nat.le_of_ble_eq_true rfl⟩ (fun r wa wb hp => ?_)
          obtain ⟨⟨rfl, rfl⟩, rfl⟩ := hp
          show V x G _ _ _ _ _ _ [_, _, _, _, _, _, _]
          refine k_vret0 Ox Rt dX3_tread_100 (Nat.le_of_ble_eq_true rfl) (Nat.le_of_ble_eq_true rfl) rfl ?_
          exact ⟨⟨rfl, by rw [hk]⟩, rfl⟩
      · have hk : (trS L Gr W lk 3 is sn v (wkF L Gr W lk go 3) p s) = s := trS_seen hn hw (bit_eq c_38)
        refine k_vret0 Ox Rt dX3_tread_41 (Nat.le_of_ble_eq_true rfl) (Nat.le_of_ble_eq_true rfl) rfl ?_
        exact ⟨⟨rfl, by rw [hk]⟩, rfl⟩
set_option maxHeartbeats 400000 in
set_option maxRecDepth 4000 in
theorem c_X3_walk_4 (G : Gx) (wy wt td bs : Nat) (lk : Bool) (go : Nat) (s : Ws) (d ls gs ly hh tr kn sp sl be : Nat) (fd sg : Nat) (L Gr : Nat → Nat) (W : Nat → Option Nat) (is sn : Nat) (v : Int) (hL : okP L) (hG : okP Gr) (hW : okWt W) (hs : okWs s) (his : is < 6) (hsn : sn < 64) (hgo : go < 6) (hv : vOK lk 1 v) : Ct G yX3_walk wsX3_walk { frames := 11, cells := 0, slots := 0, locals := 298 } [.ref wy, .ref d, .int (nI is), .int (nI 1), .int (nI sn), .long (lI v)] [(wy, cO 3 [.ref wt, .ref td, .ref bs, .int (bI lk), .int (nI go), .int (lnI (wL s)), .long (lI (wV s))]), (wt, cI G 6 (rW W)), (td, cI G 6 (rN (wT s))), (bs, cI G 6 (rN (wB s))), (d, cO 1 [.ref ls, .ref gs, .ref ly, .ref hh, .ref tr, .ref kn, .ref sp, .ref sl, .ref be, .int (nI fd), .int (nI sg)]), (ls, cI G 6 (rN L)), (gs, cI G 6 (rN Gr))] (fun r wa => r = none ∧ wa = [(wy, cO 3 [.ref wt, .ref td, .ref bs, .int (bI lk), .int (nI go), .int (lnI (wL (wkF L Gr W lk go 4 is sn v s))), .long (lI (wV (wkF L Gr W lk go 4 is sn v s)))]), (wt, cI G 6 (rW W)), (td, cI G 6 (rN (wT (wkF L Gr W lk go 4 is sn v s)))), (bs, cI G 6 (rN (wB (wkF L Gr W lk go 4 is sn v s)))), (d, cO 1 [.ref ls, .ref gs, .ref ly, .ref hh, .ref tr, .ref kn, .ref sp, .ref sl, .ref be, .int (nI fd), .int (nI sg)]), (ls, cI G 6 (rN L)), (gs, cI G 6 (rN Gr))]) := by
  refine CtN.of [(0, .ref wy), (1, .ref d), (2, .int (nI is)), (3, .int (nI 1)), (4, .int (nI sn)), (5, .long (lI v))] (by decide +kernel) rfl rfl rfl rfl ?_
  intro x Ox Rt
  refine k_iload_n Ox dX3_walk_0 rfl 2 rfl ?_
  refine k_aload_n Ox dX3_walk_1 rfl 0 rfl ?_
  refine k_get Ox 0 rfl rfl hin_X3_walk_X3 4 rfl lk_X3_walk_f43 rfl rfl dX3_walk_2 ?_
  refine k_icmp_neN Ox 16 dX3_walk_5 rfl (by omega) (by omega) (fun c_5 => ?_) (fun c_5 => ?_)
  · refine k_iload_n Ox dX3_walk_16 rfl 3 rfl ?_
    refine k_iconst Ox (v := nI 5) dX3_walk_17 rfl ?_
    refine k_icmp_ltN Ox 22 dX3_walk_18 rfl (by decide) (by decide) (fun _ => ?_) (fun h => absurd h (by decide))
    refine k_iconst Ox (v := nI 0) dX3_walk_22 rfl ?_
    refine k_istore Ox [(7, _), (0, _), (1, _), (2, _), (3, _), (4, _), (5, _)] dX3_walk_23 (by decide) rfl ?_
    have L25 : ∀ (fuel : Nat) (i : Nat), i ≤ 6 → 7 ≤ i + fuel → V x G 8 0 0 25 [(0, .ref wy), (1, .ref d), (2, .int (nI is)), (3, .int (nI 1)), (4, .int (nI sn)), (5, .long (lI v)), (7, .int (nI i))] [] [(wy, cO 3 [.ref wt, .ref td, .ref bs, .int (bI lk), .int (nI go), .int (lnI (wL (foldT (trS L Gr W lk 3 is sn v (wkF L Gr W lk go 3)) i s))), .long (lI (wV (foldT (trS L Gr W lk 3 is sn v (wkF L Gr W lk go 3)) i s)))]), (wt, cI G 6 (rW W)), (td, cI G 6 (rN (wT (foldT (trS L Gr W lk 3 is sn v (wkF L Gr W lk go 3)) i s)))), (bs, cI G 6 (rN (wB (foldT (trS L Gr W lk 3 is sn v (wkF L Gr W lk go 3)) i s)))), (d, cO 1 [.ref ls, .ref gs, .ref ly, .ref hh, .ref tr, .ref kn, .ref sp, .ref sl, .ref be, .int (nI fd), .int (nI sg)]), (ls, cI G 6 (rN L)), (gs, cI G 6 (rN Gr))] := by
      intro fuel
      induction fuel with
      | zero => intro i hi hfuel; exact absurd hi (by omega)
      | succ fuel ih =>
        intro i hi hfuel
        refine k_iload Ox dX3_walk_25 6 rfl ?_
        refine k_bipush Ox (v := nI 6) dX3_walk_27 rfl ?_
        refine k_icmp_geN Ox 51 dX3_walk_29 rfl (by omega) (by omega) (fun c_29 => ?_) (fun c_29 => ?_)
        · obtain rfl : i = 6 := by omega
          refine k_vret0 Ox Rt dX3_walk_51 (Nat.le_of_ble_eq_true rfl) (Nat.le_of_ble_eq_true rfl) rfl ?_
          exact ⟨⟨rfl, by rw [show (wkF L Gr W lk go 4 is sn v s) = foldT (trS L Gr W lk 3 is sn v (wkF L Gr W lk go 3)) 6 s by simp only [wkF]; rw [if_neg c_5]]⟩, rfl⟩
        · refine k_aload_n Ox dX3_walk_32 rfl 0 rfl ?_
          refine k_aload_n Ox dX3_walk_33 rfl 1 rfl ?_
          refine k_iload Ox dX3_walk_34 6 rfl ?_
          refine k_iload_n Ox dX3_walk_36 rfl 2 rfl ?_
          refine k_iload_n Ox dX3_walk_37 rfl 3 rfl ?_
          refine k_iload Ox dX3_walk_38 4 rfl ?_
          refine k_lload Ox dX3_walk_40 5 rfl ?_
          refine k_callV Ox [0, 1, 2, 3, 4, 5, 6] (c_X3_tread_4 G _ _ _ _ _ _ _ _ _ _ _ _ _ _ _ _ _ _ _ _ _ _ _ _ _ _ (hL) (hG) (hW) (foldT_ok (fun p s hp hs => trS_ok hW (by decide) hv hp hs) i (by omega) s hs) (by omega) (his) (hsn) (hgo) (hv)) 6 rfl rfl rfl ⟨rfl, rfl⟩ rfl rfl gX3_walk_X3_tread rfl 0 rfl ⟨rfl, (by decide +kernel), (by decide +kernel), (by decide +kernel)⟩ rfl dX3_walk_42 (Nat.le_of_ble_eq_true rfl) rfl ⟨Nat.le_of_ble_eq_true rfl, Nat.le_of_ble_eq_true rfl⟩ (fun r wa wb hp => ?_)
          obtain ⟨⟨rfl, rfl⟩, rfl⟩ := hp
          show V x G _ _ _ _ _ _ [_, _, _, _, _, _, _]
          refine k_iincN Ox (k := 6) (m := 1) [(7, _), (0, _), (1, _), (2, _), (3, _), (4, _), (5, _)] dX3_walk_45 rfl rfl (by decide) rfl ?_
          refine k_goto Ox 25 dX3_walk_48 rfl ?_
          refine k_sub [1, 2, 3, 4, 5, 6, 0] [(0, _), (1, _), (2, _), (3, _), (4, _), (5, _), (7, _)] rfl ?_
          exact ih (i + 1) (by omega) (by omega)
    refine k_sub [1, 2, 3, 4, 5, 6, 0] [(0, _), (1, _), (2, _), (3, _), (4, _), (5, _), (7, _)] rfl ?_
    exact L25 7 0 (by omega) (by omega)
  · refine k_aload_n Ox dX3_walk_8 rfl 0 rfl ?_
    refine k_iload_n Ox dX3_walk_9 rfl 3 rfl ?_
    refine k_lload Ox dX3_walk_10 5 rfl ?_
    refine k_callV Ox [0, 2, 3] (c_X3_keepIfBetter G _ _ _ _ _ _ _ _ _ (hs) (by decide) (vOK_b (by decide) hv)) 2 rfl rfl rfl ⟨rfl, rfl⟩ rfl rfl gX3_walk_X3_keepIfBetter rfl 0 rfl ⟨rfl, (by decide +kernel), (by decide +kernel), (by decide +kernel)⟩ rfl dX3_walk_12 (Nat.le_of_ble_eq_true rfl) rfl ⟨Nat.le_of_ble_eq_true rfl, Nat.le_of_ble_eq_true rfl⟩ (fun r wa wb hp => ?_)
    obtain ⟨⟨rfl, rfl⟩, rfl⟩ := hp
    show V x G _ _ _ _ _ _ [_, _, _, _, _, _, _]
    refine k_vret0 Ox Rt dX3_walk_15 (Nat.le_of_ble_eq_true rfl) (Nat.le_of_ble_eq_true rfl) rfl ?_
    exact ⟨⟨rfl, by rw [show (wkF L Gr W lk go 4 is sn v s) = kib 1 v s by simp only [wkF]; rw [if_pos c_5]]⟩, rfl⟩
set_option maxHeartbeats 2000000 in
set_option maxRecDepth 4000 in
theorem c_X3_tread_5 (G : Gx) (wy wt td bs : Nat) (lk : Bool) (go : Nat) (s : Ws) (d ls gs ly hh tr kn sp sl be : Nat) (fd sg : Nat) (L Gr : Nat → Nat) (W : Nat → Option Nat) (p is sn : Nat) (v : Int) (hL : okP L) (hG : okP Gr) (hW : okWt W) (hs : okWs s) (hp : p < 6) (his : is < 6) (hsn : sn < 64) (hgo : go < 6) (hv : vOK lk 0 v) : Ct G yX3_tread wsX3_tread { frames := 12, cells := 0, slots := 0, locals := 325 } [.ref wy, .ref d, .int (nI p), .int (nI is), .int (nI 0), .int (nI sn), .long (lI v)] [(wy, cO 3 [.ref wt, .ref td, .ref bs, .int (bI lk), .int (nI go), .int (lnI (wL s)), .long (lI (wV s))]), (wt, cI G 6 (rW W)), (td, cI G 6 (rN (wT s))), (bs, cI G 6 (rN (wB s))), (d, cO 1 [.ref ls, .ref gs, .ref ly, .ref hh, .ref tr, .ref kn, .ref sp, .ref sl, .ref be, .int (nI fd), .int (nI sg)]), (ls, cI G 6 (rN L)), (gs, cI G 6 (rN Gr))] (fun r wa => r = none ∧ wa = [(wy, cO 3 [.ref wt, .ref td, .ref bs, .int (bI lk), .int (nI go), .int (lnI (wL (trS L Gr W lk 4 is sn v (wkF L Gr W lk go 4) p s))), .long (lI (wV (trS L Gr W lk 4 is sn v (wkF L Gr W lk go 4) p s)))]), (wt, cI G 6 (rW W)), (td, cI G 6 (rN (wT (trS L Gr W lk 4 is sn v (wkF L Gr W lk go 4) p s)))), (bs, cI G 6 (rN (wB (trS L Gr W lk 4 is sn v (wkF L Gr W lk go 4) p s)))), (d, cO 1 [.ref ls, .ref gs, .ref ly, .ref hh, .ref tr, .ref kn, .ref sp, .ref sl, .ref be, .int (nI fd), .int (nI sg)]), (ls, cI G 6 (rN L)), (gs, cI G 6 (rN Gr))]) := by
  refine CtN.of [(0, .ref wy), (1, .ref d), (2, .int (nI p)), (3, .int (nI is)), (4, .int (nI 0)), (5, .int (nI sn)), (6, .long (lI v))] (by decide +kernel) rfl rfl rfl rfl ?_
  intro x Ox Rt
  refine k_aload_n Ox dX3_tread_0 rfl 1 rfl ?_
  refine k_iload_n Ox dX3_tread_1 rfl 2 rfl ?_
  refine k_iload_n Ox dX3_tread_2 rfl 3 rfl ?_
  refine k_callV Ox [4, 5, 6] (c_X1_across G _ _ _ _ _ _ _ _ _ _ _ _ _ _ _ _ (hL) (hG) (by omega) (his)) 2 rfl rfl rfl ⟨rfl, rfl⟩ rfl rfl gX3_tread_X1_across rfl 4 rfl ⟨rfl, (by decide +kernel), (by decide +kernel), (by decide +kernel)⟩ rfl dX3_tread_3 (Nat.le_of_ble_eq_true rfl) rfl ⟨Nat.le_of_ble_eq_true rfl, Nat.le_of_ble_eq_true rfl⟩ (fun r wa wb hp => ?_)
  obtain ⟨⟨rfl, rfl⟩, rfl⟩ := hp
  show V x G _ _ _ _ _ (.int _ :: _) [_, _, _, _, _, _, _]
  refine k_istore Ox [(8, _), (0, _), (1, _), (2, _), (3, _), (4, _), (5, _), (6, _)] dX3_tread_6 (by decide) rfl ?_
  refine k_aload_n Ox dX3_tread_8 rfl 1 rfl ?_
  refine k_get Ox 0 rfl rfl hin_X3_tread_X3 0 rfl lk_X3_tread_f9 rfl rfl dX3_tread_9 ?_
  refine k_iload_n Ox dX3_tread_12 rfl 3 rfl ?_
  refine k_callSN Ox [1] (c_X4_at G _ _ _ _ (by omega) (by decide)) 2 rfl rfl rfl ⟨rfl, rfl⟩ rfl rfl gX3_tread_X4_at_n39 (by decide +kernel) lk_X3_tread_sX4_at lk_X3_tread_tX4 ⟨(by decide +kernel), (by decide +kernel), (by decide +kernel)⟩ rfl dX3_tread_13 (Nat.le_of_ble_eq_true rfl) rfl ⟨Nat.le_of_ble_eq_true rfl, Nat.le_of_ble_eq_true rfl⟩ (fun r wa wb hp => ?_)
  obtain ⟨⟨rfl, rfl⟩, rfl⟩ := hp
  show V x G _ _ _ _ _ (.int _ :: _) [_, _, _, _, _, _, _]
  refine k_istore Ox [(9, _), (8, _), (0, _), (1, _), (2, _), (3, _), (4, _), (5, _), (6, _)] dX3_tread_16 (by decide) rfl ?_
  refine k_iload Ox dX3_tread_18 1 rfl ?_
  refine k_iconst Ox (v := -1) dX3_tread_20 (by decide) ?_
  refine k_icmp_eq Ox 41 dX3_tread_21 rfl (fun c_21 => ?_) (fun c_21 => ?_)
  · have hk : (trS L Gr W lk 4 is sn v (wkF L Gr W lk go 4) p s) = s := trS_none1 (acr_none hL hG c_21 hp)
    refine k_vret0 Ox Rt dX3_tread_41 (Nat.le_of_ble_eq_true rfl) (Nat.le_of_ble_eq_true rfl) rfl ?_
    exact ⟨⟨rfl, by rw [hk]⟩, rfl⟩
  · obtain ⟨j, hj, -, e1, hn⟩ := acr_some hL hG c_21
    rw [e1]
    refine k_iload Ox dX3_tread_24 0 rfl ?_
    refine k_iconst Ox (v := -1) dX3_tread_26 (by decide) ?_
    refine k_icmp_eq Ox 41 dX3_tread_27 rfl (fun c_27 => ?_) (fun c_27 => ?_)
    · have hk : (trS L Gr W lk 4 is sn v (wkF L Gr W lk go 4) p s) = s := trS_none2 ((wI_none (fun w => hW p w hp)).mp c_27)
      refine k_vret0 Ox Rt dX3_tread_41 (Nat.le_of_ble_eq_true rfl) (Nat.le_of_ble_eq_true rfl) rfl ?_
      exact ⟨⟨rfl, by rw [hk]⟩, rfl⟩
    · obtain ⟨w, hw⟩ : ∃ w, W p = some w := by
        cases h : W p with
        | none => exact absurd (by show wI (W p) = -1; rw [h]; rfl) c_27
        | some w => exact ⟨w, rfl⟩
      have hw10 := hW p w hp hw
      have hrw : rW W p = nI w := by show wI (W p) = nI w; rw [hw]; rfl
      rw [hrw]
      refine k_iload Ox dX3_tread_30 7 rfl ?_
      refine k_iload Ox dX3_tread_32 1 rfl ?_
      refine k_ishr Ox dX3_tread_34 ?_
      refine k_iconst Ox (v := nI 1) dX3_tread_35 rfl ?_
      refine k_iand Ox dX3_tread_36 ?_
      refine k_top _ (hasb _ hsn _ hj) ?_
      refine k_iconst Ox (v := nI 1) dX3_tread_37 rfl ?_
      refine k_icmp_ne Ox 42 dX3_tread_38 rfl (fun c_38 => ?_) (fun c_38 => ?_)
      · have hk := trS_go (lk := lk) (k := 4) (v := v) (wk := wkF L Gr W lk go 4) (s := s) hn hw (bit_ne c_38)
        have hvb := vOK_b (by omega) hv
        refine k_aload_n Ox dX3_tread_42 rfl 2 rfl ?_
        refine k_get Ox 0 rfl rfl hin_X3_tread_X3 1 rfl lk_X3_tread_f15 rfl rfl dX3_tread_43 ?_
        refine k_iload Ox dX3_tread_46 6 rfl ?_
        refine k_iload_n Ox dX3_tread_48 rfl 4 rfl ?_
        refine k_callSN Ox [2] (c_X4_put G _ _ _ _ _ (by omega) (by decide)) 3 rfl rfl rfl ⟨rfl, rfl⟩ rfl rfl gX3_tread_X4_put_n21 (by decide +kernel) lk_X3_tread_sX4_put lk_X3_tread_tX4 ⟨(by decide +kernel), (by decide +kernel), (by decide +kernel)⟩ rfl dX3_tread_49 (Nat.le_of_ble_eq_true rfl) rfl ⟨Nat.le_of_ble_eq_true rfl, Nat.le_of_ble_eq_true rfl⟩ (fun r wa wb hp => ?_)
        obtain ⟨⟨rfl, rfl⟩, rfl⟩ := hp
        show V x G _ _ _ _ _ _ [_, _, _, _, _, _, _]
        rw [rN_upd]
        refine k_aload_n Ox dX3_tread_52 rfl 2 rfl ?_
        refine k_get Ox 0 rfl rfl hin_X3_tread_X3 3 rfl lk_X3_tread_f25 rfl rfl dX3_tread_53 ?_
        refine k_if_eqB Ox 72 dX3_tread_56 rfl (fun c_56 => ?_) (fun c_56 => ?_)
        · refine k_lload Ox dX3_tread_72 8 rfl ?_
          refine k_iload Ox dX3_tread_74 0 rfl ?_
          refine k_i2l Ox dX3_tread_76 rfl ?_
          refine k_lsub Ox dX3_tread_77 ?_
          first | (rw [show lI v * (nI w).toInt64 / 10 = lI (fur lk v w) from fur_t hv c_56 hw10]) | (rw [show lI v - (nI w).toInt64 = lI (fur lk v w) from fur_f c_56 hw10])
          refine k_lstore Ox [(10, _), (9, _), (8, _), (0, _), (1, _), (2, _), (3, _), (4, _), (5, _), (6, _)] dX3_tread_78 (by decide) rfl ?_
          refine k_aload_n Ox dX3_tread_80 rfl 3 rfl ?_
          refine k_aload_n Ox dX3_tread_81 rfl 4 rfl ?_
          refine k_iload Ox dX3_tread_82 2 rfl ?_
          refine k_iload Ox dX3_tread_84 7 rfl ?_
          refine k_iconst Ox (v := nI 1) dX3_tread_86 rfl ?_
          refine k_iaddN Ox dX3_tread_87 ?_
          refine k_iload Ox dX3_tread_88 8 rfl ?_
          refine k_iconst Ox (v := nI 1) dX3_tread_90 rfl ?_
          refine k_iload Ox dX3_tread_91 2 rfl ?_
          refine k_ishl Ox dX3_tread_93 ?_
          refine k_top _ (shl1 j hj) ?_
          refine k_ior Ox dX3_tread_94 ?_
          refine k_top _ (orb1 _ hsn _ hj) ?_
          refine k_lload Ox dX3_tread_95 0 rfl ?_
          refine k_callV Ox [0, 1, 2, 3, 4, 5, 6] (c_X3_walk_4 G _ _ _ _ _ _ _ _ _ _ _ _ _ _ _ _ _ _ _ _ _ _ _ _ _ (hL) (hG) (hW) (putT_ok hs) (hj) (setb_lt _ hsn _ hj true) (hgo) (by have := vOK_step hv (hW p w hp hw); exact this)) 5 rfl rfl rfl ⟨rfl, rfl⟩ rfl rfl gX3_tread_X3_walk rfl 0 rfl ⟨rfl, (by decide +kernel), (by decide +kernel), (by decide +kernel)⟩ rfl dX3_tread_97 (Nat.le_of_ble_eq_true rfl) rfl ⟨Nat.le_of_ble_eq_true rfl, Nat.le_of_ble_eq_true rfl⟩ (fun r wa wb hp => ?_)
          obtain ⟨⟨rfl, rfl⟩, rfl⟩ := hp
          show V x G _ _ _ _ _ _ [_, _, _, _, _, _, _]
          refine k_vret0 Ox Rt dX3_tread_100 (Nat.le_of_ble_eq_true rfl) (Nat.le_of_ble_eq_true rfl) rfl ?_
          exact ⟨⟨rfl, by rw [hk]⟩, rfl⟩
        · refine k_lload Ox dX3_tread_59 8 rfl ?_
          refine k_iload Ox dX3_tread_61 0 rfl ?_
          refine k_i2l Ox dX3_tread_63 rfl ?_
          refine k_lmul Ox dX3_tread_64 ?_
          refine k_ldc2 Ox (10) dX3_tread_65 lk_X3_tread_k68 ?_
          refine k_ldiv Ox dX3_tread_68 (by decide) ?_
          refine k_goto Ox 78 dX3_tread_69 rfl ?_
          first | (rw [show lI v * (nI w).toInt64 / 10 = lI (fur lk v w) from fur_t hv c_56 hw10]) | (rw [show lI v - (nI w).toInt64 = lI (fur lk v w) from fur_f c_56 hw10])
          refine k_lstore Ox [(10, _), (9, _), (8, _), (0, _), (1, _), (2, _), (3, _), (4, _), (5, _), (6, _)] dX3_tread_78 (by decide) rfl ?_
          refine k_aload_n Ox dX3_tread_80 rfl 3 rfl ?_
          refine k_aload_n Ox dX3_tread_81 rfl 4 rfl ?_
          refine k_iload Ox dX3_tread_82 2 rfl ?_
          refine k_iload Ox dX3_tread_84 7 rfl ?_
          refine k_iconst Ox (v := nI 1) dX3_tread_86 rfl ?_
          refine k_iaddN Ox dX3_tread_87 ?_
          refine k_iload Ox dX3_tread_88 8 rfl ?_
          refine k_iconst Ox (v := nI 1) dX3_tread_90 rfl ?_
          refine k_iload Ox dX3_tread_91 2 rfl ?_
          refine k_ishl Ox dX3_tread_93 ?_
          refine k_top _ (shl1 j hj) ?_
          refine k_ior Ox dX3_tread_94 ?_
          refine k_top _ (orb1 _ hsn _ hj) ?_
          refine k_lload Ox dX3_tread_95 0 rfl ?_
          refine k_callV Ox [0, 1, 2, 3, 4, 5, 6] (c_X3_walk_4 G _ _ _ _ _ _ _ _ _ _ _ _ _ _ _ _ _ _ _ _ _ _ _ _ _ (hL) (hG) (hW) (putT_ok hs) (hj) (setb_lt _ hsn _ hj true) (hgo) (by have := vOK_step hv (hW p w hp hw); exact this)) 5 rfl rfl rfl ⟨rfl, rfl⟩ rfl rfl gX3_tread_X3_walk rfl 0 rfl ⟨rfl, (by decide +kernel), (by decide +kernel), (by decide +kernel)⟩ rfl dX3_tread_97 (Nat.le_of_ble_eq_true rfl) rfl ⟨Nat.le_of_ble_eq_true rfl, Nat.le_of_ble_eq_true rfl⟩ (fun r wa wb hp => ?_)
          obtain ⟨⟨rfl, rfl⟩, rfl⟩ := hp
          show V x G _ _ _ _ _ _ [_, _, _, _, _, _, _]
          refine k_vret0 Ox Rt dX3_tread_100 (Nat.le_of_ble_eq_true rfl) (Nat.le_of_ble_eq_true rfl) rfl ?_
          exact ⟨⟨rfl, by rw [hk]⟩, rfl⟩
      · have hk : (trS L Gr W lk 4 is sn v (wkF L Gr W lk go 4) p s) = s := trS_seen hn hw (bit_eq c_38)
        refine k_vret0 Ox Rt dX3_tread_41 (Nat.le_of_ble_eq_true rfl) (Nat.le_of_ble_eq_true rfl) rfl ?_
        exact ⟨⟨rfl, by rw [hk]⟩, rfl⟩
set_option maxHeartbeats 400000 in
set_option maxRecDepth 4000 in
theorem c_X3_walk_5 (G : Gx) (wy wt td bs : Nat) (lk : Bool) (go : Nat) (s : Ws) (d ls gs ly hh tr kn sp sl be : Nat) (fd sg : Nat) (L Gr : Nat → Nat) (W : Nat → Option Nat) (is sn : Nat) (v : Int) (hL : okP L) (hG : okP Gr) (hW : okWt W) (hs : okWs s) (his : is < 6) (hsn : sn < 64) (hgo : go < 6) (hv : vOK lk 0 v) : Ct G yX3_walk wsX3_walk { frames := 13, cells := 0, slots := 0, locals := 356 } [.ref wy, .ref d, .int (nI is), .int (nI 0), .int (nI sn), .long (lI v)] [(wy, cO 3 [.ref wt, .ref td, .ref bs, .int (bI lk), .int (nI go), .int (lnI (wL s)), .long (lI (wV s))]), (wt, cI G 6 (rW W)), (td, cI G 6 (rN (wT s))), (bs, cI G 6 (rN (wB s))), (d, cO 1 [.ref ls, .ref gs, .ref ly, .ref hh, .ref tr, .ref kn, .ref sp, .ref sl, .ref be, .int (nI fd), .int (nI sg)]), (ls, cI G 6 (rN L)), (gs, cI G 6 (rN Gr))] (fun r wa => r = none ∧ wa = [(wy, cO 3 [.ref wt, .ref td, .ref bs, .int (bI lk), .int (nI go), .int (lnI (wL (wkF L Gr W lk go 5 is sn v s))), .long (lI (wV (wkF L Gr W lk go 5 is sn v s)))]), (wt, cI G 6 (rW W)), (td, cI G 6 (rN (wT (wkF L Gr W lk go 5 is sn v s)))), (bs, cI G 6 (rN (wB (wkF L Gr W lk go 5 is sn v s)))), (d, cO 1 [.ref ls, .ref gs, .ref ly, .ref hh, .ref tr, .ref kn, .ref sp, .ref sl, .ref be, .int (nI fd), .int (nI sg)]), (ls, cI G 6 (rN L)), (gs, cI G 6 (rN Gr))]) := by
  refine CtN.of [(0, .ref wy), (1, .ref d), (2, .int (nI is)), (3, .int (nI 0)), (4, .int (nI sn)), (5, .long (lI v))] (by decide +kernel) rfl rfl rfl rfl ?_
  intro x Ox Rt
  refine k_iload_n Ox dX3_walk_0 rfl 2 rfl ?_
  refine k_aload_n Ox dX3_walk_1 rfl 0 rfl ?_
  refine k_get Ox 0 rfl rfl hin_X3_walk_X3 4 rfl lk_X3_walk_f43 rfl rfl dX3_walk_2 ?_
  refine k_icmp_neN Ox 16 dX3_walk_5 rfl (by omega) (by omega) (fun c_5 => ?_) (fun c_5 => ?_)
  · refine k_iload_n Ox dX3_walk_16 rfl 3 rfl ?_
    refine k_iconst Ox (v := nI 5) dX3_walk_17 rfl ?_
    refine k_icmp_ltN Ox 22 dX3_walk_18 rfl (by decide) (by decide) (fun _ => ?_) (fun h => absurd h (by decide))
    refine k_iconst Ox (v := nI 0) dX3_walk_22 rfl ?_
    refine k_istore Ox [(7, _), (0, _), (1, _), (2, _), (3, _), (4, _), (5, _)] dX3_walk_23 (by decide) rfl ?_
    have L25 : ∀ (fuel : Nat) (i : Nat), i ≤ 6 → 7 ≤ i + fuel → V x G 8 0 0 25 [(0, .ref wy), (1, .ref d), (2, .int (nI is)), (3, .int (nI 0)), (4, .int (nI sn)), (5, .long (lI v)), (7, .int (nI i))] [] [(wy, cO 3 [.ref wt, .ref td, .ref bs, .int (bI lk), .int (nI go), .int (lnI (wL (foldT (trS L Gr W lk 4 is sn v (wkF L Gr W lk go 4)) i s))), .long (lI (wV (foldT (trS L Gr W lk 4 is sn v (wkF L Gr W lk go 4)) i s)))]), (wt, cI G 6 (rW W)), (td, cI G 6 (rN (wT (foldT (trS L Gr W lk 4 is sn v (wkF L Gr W lk go 4)) i s)))), (bs, cI G 6 (rN (wB (foldT (trS L Gr W lk 4 is sn v (wkF L Gr W lk go 4)) i s)))), (d, cO 1 [.ref ls, .ref gs, .ref ly, .ref hh, .ref tr, .ref kn, .ref sp, .ref sl, .ref be, .int (nI fd), .int (nI sg)]), (ls, cI G 6 (rN L)), (gs, cI G 6 (rN Gr))] := by
      intro fuel
      induction fuel with
      | zero => intro i hi hfuel; exact absurd hi (by omega)
      | succ fuel ih =>
        intro i hi hfuel
        refine k_iload Ox dX3_walk_25 6 rfl ?_
        refine k_bipush Ox (v := nI 6) dX3_walk_27 rfl ?_
        refine k_icmp_geN Ox 51 dX3_walk_29 rfl (by omega) (by omega) (fun c_29 => ?_) (fun c_29 => ?_)
        · obtain rfl : i = 6 := by omega
          refine k_vret0 Ox Rt dX3_walk_51 (Nat.le_of_ble_eq_true rfl) (Nat.le_of_ble_eq_true rfl) rfl ?_
          exact ⟨⟨rfl, by rw [show (wkF L Gr W lk go 5 is sn v s) = foldT (trS L Gr W lk 4 is sn v (wkF L Gr W lk go 4)) 6 s by simp only [wkF]; rw [if_neg c_5]]⟩, rfl⟩
        · refine k_aload_n Ox dX3_walk_32 rfl 0 rfl ?_
          refine k_aload_n Ox dX3_walk_33 rfl 1 rfl ?_
          refine k_iload Ox dX3_walk_34 6 rfl ?_
          refine k_iload_n Ox dX3_walk_36 rfl 2 rfl ?_
          refine k_iload_n Ox dX3_walk_37 rfl 3 rfl ?_
          refine k_iload Ox dX3_walk_38 4 rfl ?_
          refine k_lload Ox dX3_walk_40 5 rfl ?_
          refine k_callV Ox [0, 1, 2, 3, 4, 5, 6] (c_X3_tread_5 G _ _ _ _ _ _ _ _ _ _ _ _ _ _ _ _ _ _ _ _ _ _ _ _ _ _ (hL) (hG) (hW) (foldT_ok (fun p s hp hs => trS_ok hW (by decide) hv hp hs) i (by omega) s hs) (by omega) (his) (hsn) (hgo) (hv)) 6 rfl rfl rfl ⟨rfl, rfl⟩ rfl rfl gX3_walk_X3_tread rfl 0 rfl ⟨rfl, (by decide +kernel), (by decide +kernel), (by decide +kernel)⟩ rfl dX3_walk_42 (Nat.le_of_ble_eq_true rfl) rfl ⟨Nat.le_of_ble_eq_true rfl, Nat.le_of_ble_eq_true rfl⟩ (fun r wa wb hp => ?_)
          obtain ⟨⟨rfl, rfl⟩, rfl⟩ := hp
          show V x G _ _ _ _ _ _ [_, _, _, _, _, _, _]
          refine k_iincN Ox (k := 6) (m := 1) [(7, _), (0, _), (1, _), (2, _), (3, _), (4, _), (5, _)] dX3_walk_45 rfl rfl (by decide) rfl ?_
          refine k_goto Ox 25 dX3_walk_48 rfl ?_
          refine k_sub [1, 2, 3, 4, 5, 6, 0] [(0, _), (1, _), (2, _), (3, _), (4, _), (5, _), (7, _)] rfl ?_
          exact ih (i + 1) (by omega) (by omega)
    refine k_sub [1, 2, 3, 4, 5, 6, 0] [(0, _), (1, _), (2, _), (3, _), (4, _), (5, _), (7, _)] rfl ?_
    exact L25 7 0 (by omega) (by omega)
  · refine k_aload_n Ox dX3_walk_8 rfl 0 rfl ?_
    refine k_iload_n Ox dX3_walk_9 rfl 3 rfl ?_
    refine k_lload Ox dX3_walk_10 5 rfl ?_
    refine k_callV Ox [0, 2, 3] (c_X3_keepIfBetter G _ _ _ _ _ _ _ _ _ (hs) (by decide) (vOK_b (by decide) hv)) 2 rfl rfl rfl ⟨rfl, rfl⟩ rfl rfl gX3_walk_X3_keepIfBetter rfl 0 rfl ⟨rfl, (by decide +kernel), (by decide +kernel), (by decide +kernel)⟩ rfl dX3_walk_12 (Nat.le_of_ble_eq_true rfl) rfl ⟨Nat.le_of_ble_eq_true rfl, Nat.le_of_ble_eq_true rfl⟩ (fun r wa wb hp => ?_)
    obtain ⟨⟨rfl, rfl⟩, rfl⟩ := hp
    show V x G _ _ _ _ _ _ [_, _, _, _, _, _, _]
    refine k_vret0 Ox Rt dX3_walk_15 (Nat.le_of_ble_eq_true rfl) (Nat.le_of_ble_eq_true rfl) rfl ?_
    exact ⟨⟨rfl, by rw [show (wkF L Gr W lk go 5 is sn v s) = kib 0 v s by simp only [wkF]; rw [if_pos c_5]]⟩, rfl⟩
theorem lk_X3_find_f43 : Cond.fieldLink RX3 43 "LieBridges$Ways" "goal" "I" ∈ wsX3_find := List.mem_of_getElem? (i := 1) rfl
theorem hin_X3_find_X3 : ∀ w ∈ u_ws RX3 TX3 7, w ∈ wsX3_find := fun _ h => List.mem_cons_of_mem _ (List.mem_append_left _ (List.mem_append_right _ h))
theorem lk_X3_find_f35 : Cond.fieldLink RX3 35 "LieBridges$Ways" "length" "I" ∈ wsX3_find := List.mem_of_getElem? (i := 2) rfl
theorem lk_X3_find_f46 : Cond.fieldLink RX3 46 "LieBridges$Ways" "worth" "J" ∈ wsX3_find := List.mem_of_getElem? (i := 3) rfl
set_option maxHeartbeats 400000 in
set_option maxRecDepth 4000 in
theorem c_X3_find (G : Gx) (wy wt td bs : Nat) (s : Ws) (d ls gs ly hh tr kn sp sl be : Nat) (fd sg : Nat) (L Gr : Nat → Nat) (W : Nat → Option Nat) (lk : Bool) (z2 : Int32) (is tt : Nat) (v : Int) (hL : okP L) (hG : okP Gr) (hW : okWt W) (his : is < 6) (htt : tt < 6) (hv : vOK lk 0 v) : Ct G yX3_find wsX3_find { frames := 14, cells := 0, slots := 0, locals := 383 } [.ref wy, .ref d, .int (nI is), .int (nI tt), .long (lI v)] [(wy, cO 3 [.ref wt, .ref td, .ref bs, .int (bI lk), .int z2, .int (lnI (wL s)), .long (lI (wV s))]), (wt, cI G 6 (rW W)), (td, cI G 6 (rN (wT s))), (bs, cI G 6 (rN (wB s))), (d, cO 1 [.ref ls, .ref gs, .ref ly, .ref hh, .ref tr, .ref kn, .ref sp, .ref sl, .ref be, .int (nI fd), .int (nI sg)]), (ls, cI G 6 (rN L)), (gs, cI G 6 (rN Gr))] (fun r wa => r = none ∧ wa = [(wy, cO 3 [.ref wt, .ref td, .ref bs, .int (bI lk), .int (nI tt), .int (lnI (wL (wkF L Gr W lk tt 5 is (2 ^ is) v (wT s, wB s, none, 0)))), .long (lI (wV (wkF L Gr W lk tt 5 is (2 ^ is) v (wT s, wB s, none, 0))))]), (wt, cI G 6 (rW W)), (td, cI G 6 (rN (wT (wkF L Gr W lk tt 5 is (2 ^ is) v (wT s, wB s, none, 0))))), (bs, cI G 6 (rN (wB (wkF L Gr W lk tt 5 is (2 ^ is) v (wT s, wB s, none, 0))))), (d, cO 1 [.ref ls, .ref gs, .ref ly, .ref hh, .ref tr, .ref kn, .ref sp, .ref sl, .ref be, .int (nI fd), .int (nI sg)]), (ls, cI G 6 (rN L)), (gs, cI G 6 (rN Gr))]) := by
  refine CtN.of [(0, .ref wy), (1, .ref d), (2, .int (nI is)), (3, .int (nI tt)), (4, .long (lI v))] (by decide +kernel) rfl rfl rfl rfl ?_
  intro x Ox Rt
  refine k_aload_n Ox dX3_find_0 rfl 0 rfl ?_
  refine k_iload_n Ox dX3_find_1 rfl 3 rfl ?_
  refine k_put Ox 0 rfl rfl hin_X3_find_X3 4 rfl lk_X3_find_f43 rfl tyX3 tyX3_ok nmX3 rfl  rfl rfl rfl [_, _, _, _, _, _, _] rfl [_, _, _, _, _, _, _] rfl dX3_find_2 ?_
  refine k_aload_n Ox dX3_find_5 rfl 0 rfl ?_
  refine k_bipush Ox (v := -6) dX3_find_6 (by decide) ?_
  refine k_put Ox 0 rfl rfl hin_X3_find_X3 5 rfl lk_X3_find_f35 rfl tyX3 tyX3_ok nmX3 rfl  rfl rfl rfl [_, _, _, _, _, _, _] rfl [_, _, _, _, _, _, _] rfl dX3_find_8 ?_
  refine k_aload_n Ox dX3_find_11 rfl 0 rfl ?_
  refine k_lconst Ox (v := 0) dX3_find_12 rfl ?_
  refine k_put Ox 0 rfl rfl hin_X3_find_X3 6 rfl lk_X3_find_f46 rfl tyX3 tyX3_ok nmX3 rfl  rfl rfl rfl [_, _, _, _, _, _, _] rfl [_, _, _, _, _, _, _] rfl dX3_find_13 ?_
  refine k_aload_n Ox dX3_find_16 rfl 0 rfl ?_
  refine k_aload_n Ox dX3_find_17 rfl 1 rfl ?_
  refine k_iload_n Ox dX3_find_18 rfl 2 rfl ?_
  refine k_iconst Ox (v := nI 0) dX3_find_19 rfl ?_
  refine k_iconst Ox (v := nI 1) dX3_find_20 rfl ?_
  refine k_iload_n Ox dX3_find_21 rfl 2 rfl ?_
  refine k_ishl Ox dX3_find_22 ?_
  refine k_top _ (shl1 _ his) ?_
  refine k_lload Ox dX3_find_23 4 rfl ?_
  refine k_callV Ox [0, 1, 2, 3, 4, 5, 6] (c_X3_walk_5 G _ _ _ _ _ _ (wT s, wB s, none, 0) _ _ _ _ _ _ _ _ _ _ _ _ _ _ _ _ _ _ (hL) (hG) (hW) (⟨⟨by show (-1000 : Int) ≤ 0; omega, by show (0 : Int) ≤ 1000000; omega⟩, fun l hl => by cases hl⟩) (his) (pw_lt his) (htt) (hv)) 5 rfl rfl rfl ⟨rfl, rfl⟩ rfl rfl gX3_find_X3_walk rfl 0 rfl ⟨rfl, (by decide +kernel), (by decide +kernel), (by decide +kernel)⟩ rfl dX3_find_25 (Nat.le_of_ble_eq_true rfl) rfl ⟨Nat.le_of_ble_eq_true rfl, Nat.le_of_ble_eq_true rfl⟩ (fun r wa wb hp => ?_)
  obtain ⟨⟨rfl, rfl⟩, rfl⟩ := hp
  show V x G _ _ _ _ _ _ [_, _, _, _, _, _, _]
  refine k_vret0 Ox Rt dX3_find_28 (Nat.le_of_ble_eq_true rfl) (Nat.le_of_ble_eq_true rfl) rfl ?_
  exact ⟨⟨rfl, rfl⟩, rfl⟩
theorem lk_X3_findCheapest_f25 : Cond.fieldLink RX3 25 "LieBridges$Ways" "likeliest" "Z" ∈ wsX3_findCheapest := List.mem_of_getElem? (i := 1) rfl
theorem hin_X3_findCheapest_X3 : ∀ w ∈ u_ws RX3 TX3 7, w ∈ wsX3_findCheapest := fun _ h => List.mem_cons_of_mem _ (List.mem_append_left _ (List.mem_append_right _ h))
set_option maxHeartbeats 400000 in
set_option maxRecDepth 4000 in
theorem c_X3_findCheapest (G : Gx) (wy wt td bs : Nat) (s : Ws) (d ls gs ly hh tr kn sp sl be : Nat) (fd sg : Nat) (L Gr : Nat → Nat) (W : Nat → Option Nat) (z1 z2 : Int32) (is tt : Nat) (hL : okP L) (hG : okP Gr) (hW : okWt W) (his : is < 6) (htt : tt < 6) : Ct G yX3_findCheapest wsX3_findCheapest { frames := 15, cells := 0, slots := 0, locals := 408 } [.ref wy, .ref d, .int (nI is), .int (nI tt)] [(wy, cO 3 [.ref wt, .ref td, .ref bs, .int z1, .int z2, .int (lnI (wL s)), .long (lI (wV s))]), (wt, cI G 6 (rW W)), (td, cI G 6 (rN (wT s))), (bs, cI G 6 (rN (wB s))), (d, cO 1 [.ref ls, .ref gs, .ref ly, .ref hh, .ref tr, .ref kn, .ref sp, .ref sl, .ref be, .int (nI fd), .int (nI sg)]), (ls, cI G 6 (rN L)), (gs, cI G 6 (rN Gr))] (fun r wa => r = none ∧ wa = [(wy, cO 3 [.ref wt, .ref td, .ref bs, .int (bI false), .int (nI tt), .int (lnI (wL (wkF L Gr W false tt 5 is (2 ^ is) 0 (wT s, wB s, none, 0)))), .long (lI (wV (wkF L Gr W false tt 5 is (2 ^ is) 0 (wT s, wB s, none, 0))))]), (wt, cI G 6 (rW W)), (td, cI G 6 (rN (wT (wkF L Gr W false tt 5 is (2 ^ is) 0 (wT s, wB s, none, 0))))), (bs, cI G 6 (rN (wB (wkF L Gr W false tt 5 is (2 ^ is) 0 (wT s, wB s, none, 0))))), (d, cO 1 [.ref ls, .ref gs, .ref ly, .ref hh, .ref tr, .ref kn, .ref sp, .ref sl, .ref be, .int (nI fd), .int (nI sg)]), (ls, cI G 6 (rN L)), (gs, cI G 6 (rN Gr))]) := by
  refine CtN.of [(0, .ref wy), (1, .ref d), (2, .int (nI is)), (3, .int (nI tt))] (by decide +kernel) rfl rfl rfl rfl ?_
  intro x Ox Rt
  refine k_aload_n Ox dX3_findCheapest_0 rfl 0 rfl ?_
  refine k_iconst Ox (v := nI 0) dX3_findCheapest_1 rfl ?_
  refine k_put Ox 0 rfl rfl hin_X3_findCheapest_X3 3 rfl lk_X3_findCheapest_f25 rfl tyX3 tyX3_ok nmX3 rfl  (by first | exact bI_nar _ | decide) rfl rfl [_, _, _, _, _, _, _] rfl [_, _, _, _, _, _, _] rfl dX3_findCheapest_2 ?_
  refine k_aload_n Ox dX3_findCheapest_5 rfl 0 rfl ?_
  refine k_aload_n Ox dX3_findCheapest_6 rfl 1 rfl ?_
  refine k_iload_n Ox dX3_findCheapest_7 rfl 2 rfl ?_
  refine k_iload_n Ox dX3_findCheapest_8 rfl 3 rfl ?_
  refine k_lconst Ox (v := 0) dX3_findCheapest_9 rfl ?_
  refine k_callV Ox [0, 1, 2, 3, 4, 5, 6] (c_X3_find G _ _ _ _ _ _ _ _ _ _ _ _ _ _ _ _ _ _ _ _ false _ _ _ 0 (hL) (hG) (hW) (his) (htt) (vOK_f0)) 4 rfl rfl rfl ⟨rfl, rfl⟩ rfl rfl gX3_findCheapest_X3_find rfl 0 rfl ⟨rfl, (by decide +kernel), (by decide +kernel), (by decide +kernel)⟩ rfl dX3_findCheapest_10 (Nat.le_of_ble_eq_true rfl) rfl ⟨Nat.le_of_ble_eq_true rfl, Nat.le_of_ble_eq_true rfl⟩ (fun r wa wb hp => ?_)
  obtain ⟨⟨rfl, rfl⟩, rfl⟩ := hp
  show V x G _ _ _ _ _ _ [_, _, _, _, _, _, _]
  refine k_vret0 Ox Rt dX3_findCheapest_13 (Nat.le_of_ble_eq_true rfl) (Nat.le_of_ble_eq_true rfl) rfl ?_
  exact ⟨⟨rfl, rfl⟩, rfl⟩
theorem lk_X3_findLikeliest_f25 : Cond.fieldLink RX3 25 "LieBridges$Ways" "likeliest" "Z" ∈ wsX3_findLikeliest := List.mem_of_getElem? (i := 1) rfl
theorem hin_X3_findLikeliest_X3 : ∀ w ∈ u_ws RX3 TX3 7, w ∈ wsX3_findLikeliest := fun _ h => List.mem_cons_of_mem _ (List.mem_append_left _ (List.mem_append_right _ h))
theorem lk_X3_findLikeliest_k33 : Cond.constantLong RX3 33 (1000000) ∈ wsX3_findLikeliest := List.mem_of_getElem? (i := 2) rfl
set_option maxHeartbeats 400000 in
set_option maxRecDepth 4000 in
theorem c_X3_findLikeliest (G : Gx) (wy wt td bs : Nat) (s : Ws) (d ls gs ly hh tr kn sp sl be : Nat) (fd sg : Nat) (L Gr : Nat → Nat) (W : Nat → Option Nat) (z1 z2 : Int32) (is tt : Nat) (hL : okP L) (hG : okP Gr) (hW : okWt W) (his : is < 6) (htt : tt < 6) : Ct G yX3_findLikeliest wsX3_findLikeliest { frames := 15, cells := 0, slots := 0, locals := 408 } [.ref wy, .ref d, .int (nI is), .int (nI tt)] [(wy, cO 3 [.ref wt, .ref td, .ref bs, .int z1, .int z2, .int (lnI (wL s)), .long (lI (wV s))]), (wt, cI G 6 (rW W)), (td, cI G 6 (rN (wT s))), (bs, cI G 6 (rN (wB s))), (d, cO 1 [.ref ls, .ref gs, .ref ly, .ref hh, .ref tr, .ref kn, .ref sp, .ref sl, .ref be, .int (nI fd), .int (nI sg)]), (ls, cI G 6 (rN L)), (gs, cI G 6 (rN Gr))] (fun r wa => r = none ∧ wa = [(wy, cO 3 [.ref wt, .ref td, .ref bs, .int (bI true), .int (nI tt), .int (lnI (wL (wkF L Gr W true tt 5 is (2 ^ is) 1000000 (wT s, wB s, none, 0)))), .long (lI (wV (wkF L Gr W true tt 5 is (2 ^ is) 1000000 (wT s, wB s, none, 0))))]), (wt, cI G 6 (rW W)), (td, cI G 6 (rN (wT (wkF L Gr W true tt 5 is (2 ^ is) 1000000 (wT s, wB s, none, 0))))), (bs, cI G 6 (rN (wB (wkF L Gr W true tt 5 is (2 ^ is) 1000000 (wT s, wB s, none, 0))))), (d, cO 1 [.ref ls, .ref gs, .ref ly, .ref hh, .ref tr, .ref kn, .ref sp, .ref sl, .ref be, .int (nI fd), .int (nI sg)]), (ls, cI G 6 (rN L)), (gs, cI G 6 (rN Gr))]) := by
  refine CtN.of [(0, .ref wy), (1, .ref d), (2, .int (nI is)), (3, .int (nI tt))] (by decide +kernel) rfl rfl rfl rfl ?_
  intro x Ox Rt
  refine k_aload_n Ox dX3_findLikeliest_0 rfl 0 rfl ?_
  refine k_iconst Ox (v := nI 1) dX3_findLikeliest_1 rfl ?_
  refine k_put Ox 0 rfl rfl hin_X3_findLikeliest_X3 3 rfl lk_X3_findLikeliest_f25 rfl tyX3 tyX3_ok nmX3 rfl  (by first | exact bI_nar _ | decide) rfl rfl [_, _, _, _, _, _, _] rfl [_, _, _, _, _, _, _] rfl dX3_findLikeliest_2 ?_
  refine k_aload_n Ox dX3_findLikeliest_5 rfl 0 rfl ?_
  refine k_aload_n Ox dX3_findLikeliest_6 rfl 1 rfl ?_
  refine k_iload_n Ox dX3_findLikeliest_7 rfl 2 rfl ?_
  refine k_iload_n Ox dX3_findLikeliest_8 rfl 3 rfl ?_
  refine k_ldc2 Ox (1000000) dX3_findLikeliest_9 lk_X3_findLikeliest_k33 ?_
  refine k_callV Ox [0, 1, 2, 3, 4, 5, 6] (c_X3_find G _ _ _ _ _ _ _ _ _ _ _ _ _ _ _ _ _ _ _ _ true _ _ _ 1000000 (hL) (hG) (hW) (his) (htt) (vOK_t0)) 4 rfl rfl rfl ⟨rfl, rfl⟩ rfl rfl gX3_findLikeliest_X3_find rfl 0 rfl ⟨rfl, (by decide +kernel), (by decide +kernel), (by decide +kernel)⟩ rfl dX3_findLikeliest_12 (Nat.le_of_ble_eq_true rfl) rfl ⟨Nat.le_of_ble_eq_true rfl, Nat.le_of_ble_eq_true rfl⟩ (fun r wa wb hp => ?_)
  obtain ⟨⟨rfl, rfl⟩, rfl⟩ := hp
  show V x G _ _ _ _ _ _ [_, _, _, _, _, _, _]
  refine k_vret0 Ox Rt dX3_findLikeliest_15 (Nat.le_of_ble_eq_true rfl) (Nat.le_of_ble_eq_true rfl) rfl ?_
  exact ⟨⟨rfl, rfl⟩, rfl⟩
theorem lk_X3_weigh_f9 : Cond.fieldLink RX3 9 "LieBridges$Ways" "weights" "[I" ∈ wsX3_weigh := List.mem_of_getElem? (i := 1) rfl
theorem hin_X3_weigh_X3 : ∀ w ∈ u_ws RX3 TX3 7, w ∈ wsX3_weigh := fun _ h => List.mem_cons_of_mem _ (List.mem_append_right _ h)
theorem lk_X3_weigh_sX4_put : Cond.static yX4_put ∈ wsX3_weigh := List.mem_of_getElem? (i := 2) rfl
theorem lk_X3_weigh_tX4 : Cond.initialized RX4 ∈ wsX3_weigh := List.mem_of_getElem? (i := 3) rfl
set_option maxHeartbeats 400000 in
set_option maxRecDepth 4000 in
theorem c_X3_weigh (G : Gx) (wy wt td bs : Nat) (s : Ws) (z1 z2 : Int32) (W : Nat → Option Nat) (p : Nat) (v : Int32) (hp : p < 6) : Ct G yX3_weigh wsX3_weigh { frames := 1, cells := 0, slots := 0, locals := 22 } [.ref wy, .int (nI p), .int v] [(wy, cO 3 [.ref wt, .ref td, .ref bs, .int z1, .int z2, .int (lnI (wL s)), .long (lI (wV s))]), (wt, cI G 6 (rW W))] (fun r wa => r = none ∧ wa = [(wy, cO 3 [.ref wt, .ref td, .ref bs, .int z1, .int z2, .int (lnI (wL s)), .long (lI (wV s))]), (wt, cI G 6 (upd (rW W) p v))]) := by
  refine CtN.of [(0, .ref wy), (1, .int (nI p)), (2, .int v)] (by decide +kernel) rfl rfl rfl rfl ?_
  intro x Ox Rt
  refine k_aload_n Ox dX3_weigh_0 rfl 0 rfl ?_
  refine k_get Ox 0 rfl rfl hin_X3_weigh_X3 0 rfl lk_X3_weigh_f9 rfl rfl dX3_weigh_1 ?_
  refine k_iload_n Ox dX3_weigh_4 rfl 1 rfl ?_
  refine k_iload_n Ox dX3_weigh_5 rfl 2 rfl ?_
  refine k_callSN Ox [1] (c_X4_put G _ _ _ _ _ (by omega) (by decide)) 3 rfl rfl rfl ⟨rfl, rfl⟩ rfl rfl gX3_weigh_X4_put_n21 (by decide +kernel) lk_X3_weigh_sX4_put lk_X3_weigh_tX4 ⟨(by decide +kernel), (by decide +kernel), (by decide +kernel)⟩ rfl dX3_weigh_6 (Nat.le_of_ble_eq_true rfl) rfl ⟨Nat.le_of_ble_eq_true rfl, Nat.le_of_ble_eq_true rfl⟩ (fun r wa wb hp => ?_)
  obtain ⟨⟨rfl, rfl⟩, rfl⟩ := hp
  show V x G _ _ _ _ _ _ [_, _]
  refine k_vret0 Ox Rt dX3_weigh_9 (Nat.le_of_ble_eq_true rfl) (Nat.le_of_ble_eq_true rfl) rfl ?_
  exact ⟨⟨rfl, rfl⟩, rfl⟩
set_option maxHeartbeats 400000 in
set_option maxRecDepth 4000 in
theorem c_X3_foundR (G : Gx) (wy wt td bs : Nat) (s : Ws) (z1 z2 : Int32) (hs : okWs s) : Ct G yX3_found wsX3_found { frames := 0, cells := 0, slots := 0, locals := 0 } [.ref wy] [(wy, cO 3 [.ref wt, .ref td, .ref bs, .int z1, .int z2, .int (lnI (wL s)), .long (lI (wV s))])] (fun r wa => r = some (.int (bI (wL s).isSome)) ∧ wa = [(wy, cO 3 [.ref wt, .ref td, .ref bs, .int z1, .int z2, .int (lnI (wL s)), .long (lI (wV s))])]) := by
  refine CtN.of [(0, .ref wy)] (by decide +kernel) rfl rfl rfl rfl ?_
  intro x Ox Rt
  refine k_aload_n Ox dX3_found_0 rfl 0 rfl ?_
  refine k_get Ox 0 rfl rfl hin_X3_found_X3 5 rfl lk_X3_found_f35 rfl rfl dX3_found_1 ?_
  refine k_bipush Ox (v := -6) dX3_found_4 (by decide) ?_
  refine k_icmp_eq Ox 13 dX3_found_6 rfl (fun c_6 => ?_) (fun c_6 => ?_)
  · refine k_iconst Ox (v := nI 0) dX3_found_13 rfl ?_
    refine k_zret0 Ox Rt dX3_found_14 (by first | exact bI_nar _ | decide) (Nat.le_of_ble_eq_true rfl) (Nat.le_of_ble_eq_true rfl) rfl ?_
    cases hw : wL s with
    | none => first | exact ⟨⟨rfl, rfl⟩, rfl⟩ | exact absurd ((lnI_none hs.2).mpr hw) c_6
    | some l => first | exact ⟨⟨rfl, rfl⟩, rfl⟩ | exact absurd ((lnI_none hs.2).mp c_6) (by rw [hw]; exact fun z => by cases z)
  · refine k_iconst Ox (v := nI 1) dX3_found_9 rfl ?_
    refine k_goto Ox 14 dX3_found_10 rfl ?_
    refine k_zret0 Ox Rt dX3_found_14 (by first | exact bI_nar _ | decide) (Nat.le_of_ble_eq_true rfl) (Nat.le_of_ble_eq_true rfl) rfl ?_
    cases hw : wL s with
    | none => first | exact ⟨⟨rfl, rfl⟩, rfl⟩ | exact absurd ((lnI_none hs.2).mpr hw) c_6
    | some l => first | exact ⟨⟨rfl, rfl⟩, rfl⟩ | exact absurd ((lnI_none hs.2).mp c_6) (by rw [hw]; exact fun z => by cases z)
theorem lk_X3_step_f35 : Cond.fieldLink RX3 35 "LieBridges$Ways" "length" "I" ∈ wsX3_step := List.mem_of_getElem? (i := 1) rfl
theorem hin_X3_step_X3 : ∀ w ∈ u_ws RX3 TX3 7, w ∈ wsX3_step := fun _ h => List.mem_cons_of_mem _ (List.mem_append_right _ h)
theorem lk_X3_step_f18 : Cond.fieldLink RX3 18 "LieBridges$Ways" "best" "[I" ∈ wsX3_step := List.mem_of_getElem? (i := 2) rfl
theorem lk_X3_step_sX4_at : Cond.static yX4_at ∈ wsX3_step := List.mem_of_getElem? (i := 3) rfl
theorem lk_X3_step_tX4 : Cond.initialized RX4 ∈ wsX3_step := List.mem_of_getElem? (i := 4) rfl
set_option maxHeartbeats 400000 in
set_option maxRecDepth 4000 in
theorem c_X3_step (G : Gx) (wy wt td bs : Nat) (s : Ws) (z1 z2 : Int32) (x : Int32) (hs : okWs s) : Ct G yX3_step wsX3_step { frames := 1, cells := 0, slots := 0, locals := 21 } [.ref wy, .int x] [(wy, cO 3 [.ref wt, .ref td, .ref bs, .int z1, .int z2, .int (lnI (wL s)), .long (lI (wV s))]), (bs, cI G 6 (rN (wB s)))] (fun r wa => r = some (.int (stR s x)) ∧ wa = [(wy, cO 3 [.ref wt, .ref td, .ref bs, .int z1, .int z2, .int (lnI (wL s)), .long (lI (wV s))]), (bs, cI G 6 (rN (wB s)))]) := by
  refine CtN.of [(0, .ref wy), (1, .int x)] (by decide +kernel) rfl rfl rfl rfl ?_
  intro x Ox Rt
  refine k_iload_n Ox dX3_step_0 rfl 1 rfl ?_
  refine k_if_lt Ox 23 dX3_step_1 rfl (fun c_1 => ?_) (fun c_1 => ?_)
  · refine k_bipush Ox (v := -6) dX3_step_23 (by decide) ?_
    refine k_iret0 Ox Rt dX3_step_25 (Nat.le_of_ble_eq_true rfl) (Nat.le_of_ble_eq_true rfl) rfl ?_
    first | exact ⟨⟨by rw [st_lo c_1], rfl⟩, rfl⟩ | exact ⟨⟨by rw [st_hi hs c_9], rfl⟩, rfl⟩ | exact ⟨⟨by rw [st_at hl hj (by omega)], rfl⟩, rfl⟩
  · refine k_iload_n Ox dX3_step_4 rfl 1 rfl ?_
    refine k_aload_n Ox dX3_step_5 rfl 0 rfl ?_
    refine k_get Ox 0 rfl rfl hin_X3_step_X3 5 rfl lk_X3_step_f35 rfl rfl dX3_step_6 ?_
    refine k_icmp_ge Ox 23 dX3_step_9 rfl (fun c_9 => ?_) (fun c_9 => ?_)
    · refine k_bipush Ox (v := -6) dX3_step_23 (by decide) ?_
      refine k_iret0 Ox Rt dX3_step_25 (Nat.le_of_ble_eq_true rfl) (Nat.le_of_ble_eq_true rfl) rfl ?_
      first | exact ⟨⟨by rw [st_lo c_1], rfl⟩, rfl⟩ | exact ⟨⟨by rw [st_hi hs c_9], rfl⟩, rfl⟩ | exact ⟨⟨by rw [st_at hl hj (by omega)], rfl⟩, rfl⟩
    · obtain ⟨l, j, hl, hj, rfl⟩ := st_in hs c_1 c_9
      have hl5 := hs.2 l hl
      refine k_aload_n Ox dX3_step_12 rfl 0 rfl ?_
      refine k_get Ox 0 rfl rfl hin_X3_step_X3 2 rfl lk_X3_step_f18 rfl rfl dX3_step_13 ?_
      refine k_iload_n Ox dX3_step_16 rfl 1 rfl ?_
      refine k_callSN Ox [1] (c_X4_at G _ _ _ _ (by omega) (by decide)) 2 rfl rfl rfl ⟨rfl, rfl⟩ rfl rfl gX3_step_X4_at_n39 (by decide +kernel) lk_X3_step_sX4_at lk_X3_step_tX4 ⟨(by decide +kernel), (by decide +kernel), (by decide +kernel)⟩ rfl dX3_step_17 (Nat.le_of_ble_eq_true rfl) rfl ⟨Nat.le_of_ble_eq_true rfl, Nat.le_of_ble_eq_true rfl⟩ (fun r wa wb hp => ?_)
      obtain ⟨⟨rfl, rfl⟩, rfl⟩ := hp
      show V x G _ _ _ _ _ (.int _ :: _) [_, _]
      refine k_goto Ox 25 dX3_step_20 rfl ?_
      refine k_iret0 Ox Rt dX3_step_25 (Nat.le_of_ble_eq_true rfl) (Nat.le_of_ble_eq_true rfl) rfl ?_
      first | exact ⟨⟨by rw [st_lo c_1], rfl⟩, rfl⟩ | exact ⟨⟨by rw [st_hi hs c_9], rfl⟩, rfl⟩ | exact ⟨⟨by rw [st_at hl hj (by omega)], rfl⟩, rfl⟩
