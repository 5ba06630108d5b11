theorem lk_X4_takesEffect_f23 : Cond.fieldLink RX4 23 "LieBridges" "pad" "LLieBridges$Pad;" ∈ wsX4_takesEffect := List.mem_of_getElem? (i := 1) rfl
theorem hin_X4_takesEffect_X4 : ∀ w ∈ u_ws RX4 TX4 7, w ∈ wsX4_takesEffect := fun _ h => List.mem_cons_of_mem _ (List.mem_append_left _ (List.mem_append_left _ (List.mem_append_left _ (List.mem_append_right _ h))))
theorem lk_X4_takesEffect_f245 : Cond.fieldLink RX4 245 "LieBridges$Pad" "kinds" "[I" ∈ wsX4_takesEffect := List.mem_of_getElem? (i := 2) rfl
theorem hin_X4_takesEffect_X2 : ∀ w ∈ u_ws RX2 TX2 8, w ∈ wsX4_takesEffect := fun _ h => List.mem_cons_of_mem _ (List.mem_append_left _ (List.mem_append_left _ (List.mem_append_right _ h)))
theorem lk_X4_takesEffect_f248 : Cond.fieldLink RX4 248 "LieBridges$Pad" "speakers" "[I" ∈ wsX4_takesEffect := List.mem_of_getElem? (i := 3) rfl
theorem lk_X4_takesEffect_f251 : Cond.fieldLink RX4 251 "LieBridges$Pad" "hearers" "[I" ∈ wsX4_takesEffect := List.mem_of_getElem? (i := 5) rfl
theorem lk_X4_takesEffect_f254 : Cond.fieldLink RX4 254 "LieBridges$Pad" "planks" "[I" ∈ wsX4_takesEffect := List.mem_of_getElem? (i := 6) rfl
theorem lk_X4_takesEffect_f10 : Cond.fieldLink RX4 10 "LieBridges" "now" "LLieBridges$Delta;" ∈ wsX4_takesEffect := List.mem_of_getElem? (i := 7) rfl
theorem lk_X4_takesEffect_f41 : Cond.fieldLink RX4 41 "LieBridges" "guesses" "[I" ∈ wsX4_takesEffect := List.mem_of_getElem? (i := 4) rfl
set_option maxHeartbeats 400000 in
set_option maxRecDepth 4000 in
theorem c_X4_takesEffect (G : Gx) (h d im pd wy tb gu ro ls gs ly hs tr kn sp sl be s0 kd sk hr pk hb hbd : Nat) (O : Nat → Nat) (T : Nat → Nat) (K : Nat → Nat) (GU : Nat → Nat) (B : Nat → Nat → Nat) (P : Ps) (fd : Nat) (sg : Nat) (mn : Nat) (i : Nat) (hO : okP O) (hT : okM T) (hK : okM K) (hB : okB B) (hfd : fd < 10) (hpt : okPt GU P i) (hi : i < 60) : Ct G yX4_takesEffect wsX4_takesEffect { frames := 3, cells := 0, slots := 0, locals := 71 } [.ref h, .int (nI i), .ref hb] [(h, cO 4 [.ref d, .ref im, .ref pd, .ref wy, .ref tb, .ref gu, .ref ro]), (d, cO 1 [.ref ls, .ref gs, .ref ly, .ref hs, .ref tr, .ref kn, .ref sp, .ref sl, .ref be, .int (nI fd), .int (nI sg)]), (ly, cI G 6 (rN O)), (tr, cI G 6 (rN T)), (kn, cI G 6 (rN K)), (pd, cO 2 [.ref s0, .int (nI mn), .ref kd, .ref sk, .ref hr, .ref pk, .int (nI (pN P)), .int (nI (pA P))]), (kd, cI G 60 (rN (pK P))), (sk, cI G 60 (rN (pS P))), (hr, cI G 60 (rN (pH P))), (pk, cI G 60 (rN (pP P))), (gu, cI G 3 (rN GU)), (hb, cO 0 [.ref hbd]), (hbd, cI G 36 (rN (flC B)))] (fun r wa => r = some (.int (bI (efOK O T K GU P B i))) ∧ wa = [(h, cO 4 [.ref d, .ref im, .ref pd, .ref wy, .ref tb, .ref gu, .ref ro]), (d, cO 1 [.ref ls, .ref gs, .ref ly, .ref hs, .ref tr, .ref kn, .ref sp, .ref sl, .ref be, .int (nI fd), .int (nI sg)]), (ly, cI G 6 (rN O)), (tr, cI G 6 (rN T)), (kn, cI G 6 (rN K)), (pd, cO 2 [.ref s0, .int (nI mn), .ref kd, .ref sk, .ref hr, .ref pk, .int (nI (pN P)), .int (nI (pA P))]), (kd, cI G 60 (rN (pK P))), (sk, cI G 60 (rN (pS P))), (hr, cI G 60 (rN (pH P))), (pk, cI G 60 (rN (pP P))), (gu, cI G 3 (rN GU)), (hb, cO 0 [.ref hbd]), (hbd, cI G 36 (rN (flC (efB O T K fd GU P B i))))]) := by
  refine CtN.of [(0, .ref h), (1, .int (nI i)), (2, .ref hb)] (by decide +kernel) rfl rfl rfl rfl ?_
  intro x Ox Rt
  refine k_aload_n Ox dX4_takesEffect_0 rfl 0 rfl ?_
  refine k_get Ox 0 rfl rfl hin_X4_takesEffect_X4 2 rfl lk_X4_takesEffect_f23 rfl rfl dX4_takesEffect_1 ?_
  refine k_get Ox 5 rfl rfl hin_X4_takesEffect_X2 2 rfl lk_X4_takesEffect_f245 rfl rfl dX4_takesEffect_4 ?_
  refine k_iload_n Ox dX4_takesEffect_7 rfl 1 rfl ?_
  refine k_callS Ox [6] (c_X4_at G _ _ _ _ (by omega) (by decide)) 2 rfl rfl rfl ⟨rfl, rfl⟩ rfl rfl gX4_takesEffect_X4_at ⟨(by decide +kernel), (by decide +kernel), (by decide +kernel)⟩ rfl dX4_takesEffect_8 (Nat.le_of_ble_eq_true rfl) rfl ⟨Nat.le_of_ble_eq_true rfl, Nat.le_of_ble_eq_true rfl⟩ (fun r wa wb hp => ?_)
  obtain ⟨⟨rfl, rfl⟩, rfl⟩ := hp
  show V x G _ _ _ _ _ (.int _ :: _) [_, _, _, _, _, _, _, _, _, _, _, _, _]
  refine k_istore_n Ox [(3, _), (0, _), (1, _), (2, _)] dX4_takesEffect_11 rfl (by decide) rfl ?_
  have hk2 := okPt_k hpt
  refine k_iload_n Ox dX4_takesEffect_12 rfl 0 rfl ?_
  refine k_if_neN Ox 22 dX4_takesEffect_13 rfl (by omega) (fun c_13 => ?_) (fun c_13 => ?_)
  · obtain ⟨q1, q2, q3, q4, q5⟩ := okPt_r hpt c_13
    refine k_aload_n Ox dX4_takesEffect_22 rfl 1 rfl ?_
    refine k_get Ox 0 rfl rfl hin_X4_takesEffect_X4 2 rfl lk_X4_takesEffect_f23 rfl rfl dX4_takesEffect_23 ?_
    refine k_get Ox 5 rfl rfl hin_X4_takesEffect_X2 3 rfl lk_X4_takesEffect_f248 rfl rfl dX4_takesEffect_26 ?_
    refine k_iload_n Ox dX4_takesEffect_29 rfl 2 rfl ?_
    refine k_callS Ox [7] (c_X4_at G _ _ _ _ (by omega) (by decide)) 2 rfl rfl rfl ⟨rfl, rfl⟩ rfl rfl gX4_takesEffect_X4_at ⟨(by decide +kernel), (by decide +kernel), (by decide +kernel)⟩ rfl dX4_takesEffect_30 (Nat.le_of_ble_eq_true rfl) rfl ⟨Nat.le_of_ble_eq_true rfl, Nat.le_of_ble_eq_true rfl⟩ (fun r wa wb hp => ?_)
    obtain ⟨⟨rfl, rfl⟩, rfl⟩ := hp
    show V x G _ _ _ _ _ (.int _ :: _) [_, _, _, _, _, _, _, _, _, _, _, _, _]
    refine k_istore Ox [(4, _), (3, _), (0, _), (1, _), (2, _)] dX4_takesEffect_33 (by decide) rfl ?_
    refine k_iload Ox dX4_takesEffect_35 0 rfl ?_
    refine k_bipush Ox (v := nI 6) dX4_takesEffect_37 rfl ?_
    refine k_icmp_ltN Ox 56 dX4_takesEffect_39 rfl (by omega) (by omega) (fun c_39 => ?_) (fun c_39 => ?_)
    · rw [show rN (pS P) i = nI (spkr GU P i) from congrArg nI (spkr_lo c_39)]
      refine k_aload_n Ox dX4_takesEffect_56 rfl 2 rfl ?_
      refine k_get Ox 0 rfl rfl hin_X4_takesEffect_X4 2 rfl lk_X4_takesEffect_f23 rfl rfl dX4_takesEffect_57 ?_
      refine k_get Ox 5 rfl rfl hin_X4_takesEffect_X2 4 rfl lk_X4_takesEffect_f251 rfl rfl dX4_takesEffect_60 ?_
      refine k_iload_n Ox dX4_takesEffect_63 rfl 3 rfl ?_
      refine k_callS Ox [8] (c_X4_at G _ _ _ _ (by omega) (by decide)) 2 rfl rfl rfl ⟨rfl, rfl⟩ rfl rfl gX4_takesEffect_X4_at ⟨(by decide +kernel), (by decide +kernel), (by decide +kernel)⟩ rfl dX4_takesEffect_64 (Nat.le_of_ble_eq_true rfl) rfl ⟨Nat.le_of_ble_eq_true rfl, Nat.le_of_ble_eq_true rfl⟩ (fun r wa wb hp => ?_)
      obtain ⟨⟨rfl, rfl⟩, rfl⟩ := hp
      show V x G _ _ _ _ _ (.int _ :: _) [_, _, _, _, _, _, _, _, _, _, _, _, _]
      refine k_istore Ox [(5, _), (4, _), (3, _), (0, _), (1, _), (2, _)] dX4_takesEffect_67 (by decide) rfl ?_
      refine k_aload_n Ox dX4_takesEffect_69 rfl 3 rfl ?_
      refine k_get Ox 0 rfl rfl hin_X4_takesEffect_X4 2 rfl lk_X4_takesEffect_f23 rfl rfl dX4_takesEffect_70 ?_
      refine k_get Ox 5 rfl rfl hin_X4_takesEffect_X2 5 rfl lk_X4_takesEffect_f254 rfl rfl dX4_takesEffect_73 ?_
      refine k_iload_n Ox dX4_takesEffect_76 rfl 4 rfl ?_
      refine k_callS Ox [9] (c_X4_at G _ _ _ _ (by omega) (by decide)) 2 rfl rfl rfl ⟨rfl, rfl⟩ rfl rfl gX4_takesEffect_X4_at ⟨(by decide +kernel), (by decide +kernel), (by decide +kernel)⟩ rfl dX4_takesEffect_77 (Nat.le_of_ble_eq_true rfl) rfl ⟨Nat.le_of_ble_eq_true rfl, Nat.le_of_ble_eq_true rfl⟩ (fun r wa wb hp => ?_)
      obtain ⟨⟨rfl, rfl⟩, rfl⟩ := hp
      show V x G _ _ _ _ _ (.int _ :: _) [_, _, _, _, _, _, _, _, _, _, _, _, _]
      refine k_istore Ox [(6, _), (5, _), (4, _), (3, _), (0, _), (1, _), (2, _)] dX4_takesEffect_80 (by decide) rfl ?_
      refine k_iload_n Ox dX4_takesEffect_82 rfl 3 rfl ?_
      refine k_iconst Ox (v := nI 1) dX4_takesEffect_83 rfl ?_
      refine k_icmp_neN Ox 104 dX4_takesEffect_84 rfl (by omega) (by omega) (fun c_84 => ?_) (fun c_84 => ?_)
      · refine k_aload_n Ox dX4_takesEffect_104 rfl 4 rfl ?_
        refine k_get Ox 0 rfl rfl hin_X4_takesEffect_X4 0 rfl lk_X4_takesEffect_f10 rfl rfl dX4_takesEffect_105 ?_
        refine k_aload_n Ox dX4_takesEffect_108 rfl 6 rfl ?_
        refine k_iload Ox dX4_takesEffect_109 2 rfl ?_
        refine k_iload Ox dX4_takesEffect_111 1 rfl ?_
        refine k_iload Ox dX4_takesEffect_113 0 rfl ?_
        refine k_callV Ox [1, 3, 11, 12] (c_X1_deny G _ _ _ _ _ _ _ _ _ _ _ _ _ _ _ _ _ _ _ (hT) (hB) (q3) (q4) (q5)) 4 rfl rfl rfl ⟨rfl, rfl⟩ rfl rfl gX4_takesEffect_X1_deny rfl 1 rfl ⟨rfl, (by decide +kernel), (by decide +kernel), (by decide +kernel)⟩ rfl dX4_takesEffect_115 (Nat.le_of_ble_eq_true rfl) rfl ⟨Nat.le_of_ble_eq_true rfl, Nat.le_of_ble_eq_true rfl⟩ (fun r wa wb hp => ?_)
        obtain ⟨⟨rfl, rfl⟩, rfl⟩ := hp
        show V x G _ _ _ _ _ (.int _ :: _) [_, _, _, _, _, _, _, _, _, _, _, _, _]
        refine k_zret0 Ox Rt dX4_takesEffect_118 (by first | exact bI_nar _ | decide) (Nat.le_of_ble_eq_true rfl) (Nat.le_of_ble_eq_true rfl) rfl ?_
        first | exact ⟨⟨by rw [efOK, if_neg (by omega), if_pos c_84], by rw [efB, if_neg (by omega), if_pos c_84]⟩, rfl⟩ | exact ⟨⟨by rw [efOK, if_neg (by omega), if_neg c_84], by rw [efB, if_neg (by omega), if_neg c_84]⟩, rfl⟩
      · refine k_aload_n Ox dX4_takesEffect_87 rfl 4 rfl ?_
        refine k_get Ox 0 rfl rfl hin_X4_takesEffect_X4 0 rfl lk_X4_takesEffect_f10 rfl rfl dX4_takesEffect_88 ?_
        refine k_aload_n Ox dX4_takesEffect_91 rfl 6 rfl ?_
        refine k_iload Ox dX4_takesEffect_92 2 rfl ?_
        refine k_iload Ox dX4_takesEffect_94 1 rfl ?_
        refine k_iload Ox dX4_takesEffect_96 0 rfl ?_
        refine k_callV Ox [1, 2, 3, 4, 11, 12] (c_X1_tell G _ _ _ _ _ _ _ _ _ _ _ _ _ _ _ _ _ _ _ _ _ (hO) (hT) (hK) (hB) (hfd) (q3) (q4) (q5)) 4 rfl rfl rfl ⟨rfl, rfl⟩ rfl rfl gX4_takesEffect_X1_tell rfl 1 rfl ⟨rfl, (by decide +kernel), (by decide +kernel), (by decide +kernel)⟩ rfl dX4_takesEffect_98 (Nat.le_of_ble_eq_true rfl) rfl ⟨Nat.le_of_ble_eq_true rfl, Nat.le_of_ble_eq_true rfl⟩ (fun r wa wb hp => ?_)
        obtain ⟨⟨rfl, rfl⟩, rfl⟩ := hp
        show V x G _ _ _ _ _ (.int _ :: _) [_, _, _, _, _, _, _, _, _, _, _, _, _]
        refine k_goto Ox 118 dX4_takesEffect_101 rfl ?_
        refine k_zret0 Ox Rt dX4_takesEffect_118 (by first | exact bI_nar _ | decide) (Nat.le_of_ble_eq_true rfl) (Nat.le_of_ble_eq_true rfl) rfl ?_
        first | exact ⟨⟨by rw [efOK, if_neg (by omega), if_pos c_84], by rw [efB, if_neg (by omega), if_pos c_84]⟩, rfl⟩ | exact ⟨⟨by rw [efOK, if_neg (by omega), if_neg c_84], by rw [efB, if_neg (by omega), if_neg c_84]⟩, rfl⟩
    · refine k_aload_n Ox dX4_takesEffect_42 rfl 2 rfl ?_
      refine k_get Ox 0 rfl rfl hin_X4_takesEffect_X4 5 rfl lk_X4_takesEffect_f41 rfl rfl dX4_takesEffect_43 ?_
      refine k_iload Ox dX4_takesEffect_46 0 rfl ?_
      refine k_bipush Ox (v := nI 6) dX4_takesEffect_48 rfl ?_
      refine k_isubN Ox dX4_takesEffect_50 (by omega) ?_
      refine k_callS Ox [10] (c_X4_at G _ _ _ _ (by omega) (by decide)) 2 rfl rfl rfl ⟨rfl, rfl⟩ rfl rfl gX4_takesEffect_X4_at ⟨(by decide +kernel), (by decide +kernel), (by decide +kernel)⟩ rfl dX4_takesEffect_51 (Nat.le_of_ble_eq_true rfl) rfl ⟨Nat.le_of_ble_eq_true rfl, Nat.le_of_ble_eq_true rfl⟩ (fun r wa wb hp => ?_)
      obtain ⟨⟨rfl, rfl⟩, rfl⟩ := hp
      show V x G _ _ _ _ _ (.int _ :: _) [_, _, _, _, _, _, _, _, _, _, _, _, _]
      refine k_top (nI (spkr GU P i)) (spkr_hi c_39) ?_
      refine k_istore Ox [(4, _), (3, _), (0, _), (1, _), (2, _)] dX4_takesEffect_54 (by decide) rfl ?_
      refine k_aload_n Ox dX4_takesEffect_56 rfl 2 rfl ?_
      refine k_get Ox 0 rfl rfl hin_X4_takesEffect_X4 2 rfl lk_X4_takesEffect_f23 rfl rfl dX4_takesEffect_57 ?_
      refine k_get Ox 5 rfl rfl hin_X4_takesEffect_X2 4 rfl lk_X4_takesEffect_f251 rfl rfl dX4_takesEffect_60 ?_
      refine k_iload_n Ox dX4_takesEffect_63 rfl 3 rfl ?_
      refine k_callS Ox [8] (c_X4_at G _ _ _ _ (by omega) (by decide)) 2 rfl rfl rfl ⟨rfl, rfl⟩ rfl rfl gX4_takesEffect_X4_at ⟨(by decide +kernel), (by decide +kernel), (by decide +kernel)⟩ rfl dX4_takesEffect_64 (Nat.le_of_ble_eq_true rfl) rfl ⟨Nat.le_of_ble_eq_true rfl, Nat.le_of_ble_eq_true rfl⟩ (fun r wa wb hp => ?_)
      obtain ⟨⟨rfl, rfl⟩, rfl⟩ := hp
      show V x G _ _ _ _ _ (.int _ :: _) [_, _, _, _, _, _, _, _, _, _, _, _, _]
      refine k_istore Ox [(5, _), (4, _), (3, _), (0, _), (1, _), (2, _)] dX4_takesEffect_67 (by decide) rfl ?_
      refine k_aload_n Ox dX4_takesEffect_69 rfl 3 rfl ?_
      refine k_get Ox 0 rfl rfl hin_X4_takesEffect_X4 2 rfl lk_X4_takesEffect_f23 rfl rfl dX4_takesEffect_70 ?_
      refine k_get Ox 5 rfl rfl hin_X4_takesEffect_X2 5 rfl lk_X4_takesEffect_f254 rfl rfl dX4_takesEffect_73 ?_
      refine k_iload_n Ox dX4_takesEffect_76 rfl 4 rfl ?_
      refine k_callS Ox [9] (c_X4_at G _ _ _ _ (by omega) (by decide)) 2 rfl rfl rfl ⟨rfl, rfl⟩ rfl rfl gX4_takesEffect_X4_at ⟨(by decide +kernel), (by decide +kernel), (by decide +kernel)⟩ rfl dX4_takesEffect_77 (Nat.le_of_ble_eq_true rfl) rfl ⟨Nat.le_of_ble_eq_true rfl, Nat.le_of_ble_eq_true rfl⟩ (fun r wa wb hp => ?_)
      obtain ⟨⟨rfl, rfl⟩, rfl⟩ := hp
      show V x G _ _ _ _ _ (.int _ :: _) [_, _, _, _, _, _, _, _, _, _, _, _, _]
      refine k_istore Ox [(6, _), (5, _), (4, _), (3, _), (0, _), (1, _), (2, _)] dX4_takesEffect_80 (by decide) rfl ?_
      refine k_iload_n Ox dX4_takesEffect_82 rfl 3 rfl ?_
      refine k_iconst Ox (v := nI 1) dX4_takesEffect_83 rfl ?_
      refine k_icmp_neN Ox 104 dX4_takesEffect_84 rfl (by omega) (by omega) (fun c_84 => ?_) (fun c_84 => ?_)
      · refine k_aload_n Ox dX4_takesEffect_104 rfl 4 rfl ?_
        refine k_get Ox 0 rfl rfl hin_X4_takesEffect_X4 0 rfl lk_X4_takesEffect_f10 rfl rfl dX4_takesEffect_105 ?_
        refine k_aload_n Ox dX4_takesEffect_108 rfl 6 rfl ?_
        refine k_iload Ox dX4_takesEffect_109 2 rfl ?_
        refine k_iload Ox dX4_takesEffect_111 1 rfl ?_
        refine k_iload Ox dX4_takesEffect_113 0 rfl ?_
        refine k_callV Ox [1, 3, 11, 12] (c_X1_deny G _ _ _ _ _ _ _ _ _ _ _ _ _ _ _ _ _ _ _ (hT) (hB) (q3) (q4) (q5)) 4 rfl rfl rfl ⟨rfl, rfl⟩ rfl rfl gX4_takesEffect_X1_deny rfl 1 rfl ⟨rfl, (by decide +kernel), (by decide +kernel), (by decide +kernel)⟩ rfl dX4_takesEffect_115 (Nat.le_of_ble_eq_true rfl) rfl ⟨Nat.le_of_ble_eq_true rfl, Nat.le_of_ble_eq_true rfl⟩ (fun r wa wb hp => ?_)
        obtain ⟨⟨rfl, rfl⟩, rfl⟩ := hp
        show V x G _ _ _ _ _ (.int _ :: _) [_, _, _, _, _, _, _, _, _, _, _, _, _]
        refine k_zret0 Ox Rt dX4_takesEffect_118 (by first | exact bI_nar _ | decide) (Nat.le_of_ble_eq_true rfl) (Nat.le_of_ble_eq_true rfl) rfl ?_
        first | exact ⟨⟨by rw [efOK, if_neg (by omega), if_pos c_84], by rw [efB, if_neg (by omega), if_pos c_84]⟩, rfl⟩ | exact ⟨⟨by rw [efOK, if_neg (by omega), if_neg c_84], by rw [efB, if_neg (by omega), if_neg c_84]⟩, rfl⟩
      · refine k_aload_n Ox dX4_takesEffect_87 rfl 4 rfl ?_
        refine k_get Ox 0 rfl rfl hin_X4_takesEffect_X4 0 rfl lk_X4_takesEffect_f10 rfl rfl dX4_takesEffect_88 ?_
        refine k_aload_n Ox dX4_takesEffect_91 rfl 6 rfl ?_
        refine k_iload Ox dX4_takesEffect_92 2 rfl ?_
        refine k_iload Ox dX4_takesEffect_94 1 rfl ?_
        refine k_iload Ox dX4_takesEffect_96 0 rfl ?_
        refine k_callV Ox [1, 2, 3, 4, 11, 12] (c_X1_tell G _ _ _ _ _ _ _ _ _ _ _ _ _ _ _ _ _ _ _ _ _ (hO) (hT) (hK) (hB) (hfd) (q3) (q4) (q5)) 4 rfl rfl rfl ⟨rfl, rfl⟩ rfl rfl gX4_takesEffect_X1_tell rfl 1 rfl ⟨rfl, (by decide +kernel), (by decide +kernel), (by decide +kernel)⟩ rfl dX4_takesEffect_98 (Nat.le_of_ble_eq_true rfl) rfl ⟨Nat.le_of_ble_eq_true rfl, Nat.le_of_ble_eq_true rfl⟩ (fun r wa wb hp => ?_)
        obtain ⟨⟨rfl, rfl⟩, rfl⟩ := hp
        show V x G _ _ _ _ _ (.int _ :: _) [_, _, _, _, _, _, _, _, _, _, _, _, _]
        refine k_goto Ox 118 dX4_takesEffect_101 rfl ?_
        refine k_zret0 Ox Rt dX4_takesEffect_118 (by first | exact bI_nar _ | decide) (Nat.le_of_ble_eq_true rfl) (Nat.le_of_ble_eq_true rfl) rfl ?_
        first | exact ⟨⟨by rw [efOK, if_neg (by omega), if_pos c_84], by rw [efB, if_neg (by omega), if_pos c_84]⟩, rfl⟩ | exact ⟨⟨by rw [efOK, if_neg (by omega), if_neg c_84], by rw [efB, if_neg (by omega), if_neg c_84]⟩, rfl⟩
  · refine k_aload_n Ox dX4_takesEffect_16 rfl 3 rfl ?_
    refine k_callV Ox [11, 12] (c_X0_fadeADay G _ _ _ (by assumption)) 0 rfl rfl rfl ⟨rfl, rfl⟩ rfl rfl gX4_takesEffect_X0_fadeADay rfl 11 rfl ⟨rfl, (by decide +kernel), (by decide +kernel), (by decide +kernel)⟩ rfl dX4_takesEffect_17 (Nat.le_of_ble_eq_true rfl) rfl ⟨Nat.le_of_ble_eq_true rfl, Nat.le_of_ble_eq_true rfl⟩ (fun r wa wb hp => ?_)
    obtain ⟨⟨rfl, rfl⟩, rfl⟩ := hp
    show V x G _ _ _ _ _ _ [_, _, _, _, _, _, _, _, _, _, _, _, _]
    refine k_iconst Ox (v := nI 1) dX4_takesEffect_20 rfl ?_
    refine k_zret0 Ox Rt dX4_takesEffect_21 (by first | exact bI_nar _ | decide) (Nat.le_of_ble_eq_true rfl) (Nat.le_of_ble_eq_true rfl) rfl ?_
    exact ⟨⟨by rw [efOK, if_pos c_13]; rfl, by rw [efB, if_pos c_13]⟩, rfl⟩
theorem lk_X4_play_f23 : Cond.fieldLink RX4 23 "LieBridges" "pad" "LLieBridges$Pad;" ∈ wsX4_play := List.mem_of_getElem? (i := 1) rfl
theorem hin_X4_play_X4 : ∀ w ∈ u_ws RX4 TX4 7, w ∈ wsX4_play := fun _ h => List.mem_cons_of_mem _ (List.mem_append_left _ (List.mem_append_left _ (List.mem_append_left _ (List.mem_append_right _ h))))
theorem lk_X4_play_f107 : Cond.fieldLink RX4 107 "LieBridges$Pad" "parts" "I" ∈ wsX4_play := List.mem_of_getElem? (i := 2) rfl
theorem hin_X4_play_X2 : ∀ w ∈ u_ws RX2 TX2 8, w ∈ wsX4_play := fun _ h => List.mem_cons_of_mem _ (List.mem_append_left _ (List.mem_append_left _ (List.mem_append_right _ h)))
set_option maxHeartbeats 400000 in
set_option maxRecDepth 4000 in
theorem c_X4_play (G : Gx) (h d im pd wy tb gu ro ls gs ly hs tr kn sp sl be s0 kd sk hr pk hb hbd : Nat) (O : Nat → Nat) (T : Nat → Nat) (K : Nat → Nat) (GU : Nat → Nat) (B : Nat → Nat → Nat) (P : Ps) (fd : Nat) (sg : Nat) (mn : Nat) (hO : okP O) (hT : okM T) (hK : okM K) (hB : okB B) (hfd : fd < 10) (hpts : ∀ i, i < pN P → okPt GU P i) (hpn : pN P ≤ 60) : Ct G yX4_play wsX4_play { frames := 4, cells := 0, slots := 0, locals := 97 } [.ref h, .ref hb] [(h, cO 4 [.ref d, .ref im, .ref pd, .ref wy, .ref tb, .ref gu, .ref ro]), (d, cO 1 [.ref ls, .ref gs, .ref ly, .ref hs, .ref tr, .ref kn, .ref sp, .ref sl, .ref be, .int (nI fd), .int (nI sg)]), (ly, cI G 6 (rN O)), (tr, cI G 6 (rN T)), (kn, cI G 6 (rN K)), (pd, cO 2 [.ref s0, .int (nI mn), .ref kd, .ref sk, .ref hr, .ref pk, .int (nI (pN P)), .int (nI (pA P))]), (kd, cI G 60 (rN (pK P))), (sk, cI G 60 (rN (pS P))), (hr, cI G 60 (rN (pH P))), (pk, cI G 60 (rN (pP P))), (gu, cI G 3 (rN GU)), (hb, cO 0 [.ref hbd]), (hbd, cI G 36 (rN (flC B)))] (fun r wa => r = none ∧ wa = [(h, cO 4 [.ref d, .ref im, .ref pd, .ref wy, .ref tb, .ref gu, .ref ro]), (d, cO 1 [.ref ls, .ref gs, .ref ly, .ref hs, .ref tr, .ref kn, .ref sp, .ref sl, .ref be, .int (nI fd), .int (nI sg)]), (ly, cI G 6 (rN O)), (tr, cI G 6 (rN T)), (kn, cI G 6 (rN K)), (pd, cO 2 [.ref s0, .int (nI mn), .ref kd, .ref sk, .ref hr, .ref pk, .int (nI (pN P)), .int (nI (pA P))]), (kd, cI G 60 (rN (pK P))), (sk, cI G 60 (rN (pS P))), (hr, cI G 60 (rN (pH P))), (pk, cI G 60 (rN (pP P))), (gu, cI G 3 (rN GU)), (hb, cO 0 [.ref hbd]), (hbd, cI G 36 (rN (flC (plyB O T K fd GU P B (pN P)))))]) := by
  refine CtN.of [(0, .ref h), (1, .ref hb)] (by decide +kernel) rfl rfl rfl rfl ?_
  intro x Ox Rt
  refine k_iconst Ox (v := nI 0) dX4_play_0 rfl ?_
  refine k_istore_n Ox [(2, _), (0, _), (1, _)] dX4_play_1 rfl (by decide) rfl ?_
  have L2 : ∀ (fuel : Nat) (i : Nat), i ≤ pN P → pN P + 1 ≤ i + fuel → V x G 3 0 0 2 [(0, .ref h), (1, .ref hb), (2, .int (nI i))] [] [(h, cO 4 [.ref d, .ref im, .ref pd, .ref wy, .ref tb, .ref gu, .ref ro]), (d, cO 1 [.ref ls, .ref gs, .ref ly, .ref hs, .ref tr, .ref kn, .ref sp, .ref sl, .ref be, .int (nI fd), .int (nI sg)]), (ly, cI G 6 (rN O)), (tr, cI G 6 (rN T)), (kn, cI G 6 (rN K)), (pd, cO 2 [.ref s0, .int (nI mn), .ref kd, .ref sk, .ref hr, .ref pk, .int (nI (pN P)), .int (nI (pA P))]), (kd, cI G 60 (rN (pK P))), (sk, cI G 60 (rN (pS P))), (hr, cI G 60 (rN (pH P))), (pk, cI G 60 (rN (pP P))), (gu, cI G 3 (rN GU)), (hb, cO 0 [.ref hbd]), (hbd, cI G 36 (rN (flC (plyB O T K fd GU P B i))))] := by
    intro fuel
    induction fuel with
    | zero => intro i hi hfuel; exact absurd hi (by omega)
    | succ fuel ih =>
      intro i hi hfuel
      refine k_iload_n Ox dX4_play_2 rfl 2 rfl ?_
      refine k_aload_n Ox dX4_play_3 rfl 0 rfl ?_
      refine k_get Ox 0 rfl rfl hin_X4_play_X4 2 rfl lk_X4_play_f23 rfl rfl dX4_play_4 ?_
      refine k_get Ox 5 rfl rfl hin_X4_play_X2 6 rfl lk_X4_play_f107 rfl rfl dX4_play_7 ?_
      refine k_icmp_geN Ox 26 dX4_play_10 rfl (by omega) (by omega) (fun c_10 => ?_) (fun c_10 => ?_)
      · obtain hie : i = pN P := by omega
        subst hie
        refine k_vret0 Ox Rt dX4_play_26 (Nat.le_of_ble_eq_true rfl) (Nat.le_of_ble_eq_true rfl) rfl ?_
        exact ⟨⟨rfl, rfl⟩, rfl⟩
      · refine k_aload_n Ox dX4_play_13 rfl 0 rfl ?_
        refine k_iload_n Ox dX4_play_14 rfl 2 rfl ?_
        refine k_aload_n Ox dX4_play_15 rfl 1 rfl ?_
        refine k_callV Ox [0, 1, 2, 3, 4, 5, 6, 7, 8, 9, 10, 11, 12] (c_X4_takesEffect G _ _ _ _ _ _ _ _ _ _ _ _ _ _ _ _ _ _ _ _ _ _ _ _ _ _ _ _ _ _ _ _ _ _ (hO) (hT) (hK) (plyB_ok hB hfd i) (hfd) (hpts i c_10) (by omega)) 2 rfl rfl rfl ⟨rfl, rfl⟩ rfl rfl gX4_play_X4_takesEffect rfl 0 rfl ⟨rfl, (by decide +kernel), (by decide +kernel), (by decide +kernel)⟩ rfl dX4_play_16 (Nat.le_of_ble_eq_true rfl) rfl ⟨Nat.le_of_ble_eq_true rfl, Nat.le_of_ble_eq_true rfl⟩ (fun r wa wb hp => ?_)
        obtain ⟨⟨rfl, rfl⟩, rfl⟩ := hp
        show V x G _ _ _ _ _ (.int _ :: _) [_, _, _, _, _, _, _, _, _, _, _, _, _]
        refine k_pop Ox dX4_play_19 rfl ?_
        refine k_iincN Ox (k := 2) (m := 1) [(2, _), (0, _), (1, _)] dX4_play_20 rfl rfl (by decide) rfl ?_
        refine k_goto Ox 2 dX4_play_23 rfl ?_
        refine k_sub [1, 2, 0] [(0, _), (1, _), (2, _)] rfl ?_
        exact ih (i + 1) (by omega) (by omega)
  refine k_sub [1, 2, 0] [(0, _), (1, _), (2, _)] rfl ?_
  exact L2 (pN P + 1) 0 (by omega) (by omega)
theorem lk_X4_refusalOfText_f23 : Cond.fieldLink RX4 23 "LieBridges" "pad" "LLieBridges$Pad;" ∈ wsX4_refusalOfText := List.mem_of_getElem? (i := 1) rfl
theorem hin_X4_refusalOfText_X4 : ∀ w ∈ u_ws RX4 TX4 7, w ∈ wsX4_refusalOfText := fun _ h => List.mem_cons_of_mem _ (List.mem_append_left _ (List.mem_append_right _ h))
theorem lk_X4_refusalOfText_f215 : Cond.fieldLink RX4 215 "LieBridges$Pad" "asked" "I" ∈ wsX4_refusalOfText := List.mem_of_getElem? (i := 2) rfl
theorem hin_X4_refusalOfText_X2 : ∀ w ∈ u_ws RX2 TX2 8, w ∈ wsX4_refusalOfText := fun _ h => List.mem_cons_of_mem _ (List.mem_append_right _ h)
set_option maxHeartbeats 400000 in
set_option maxRecDepth 4000 in
theorem c_X4_refusalOfText (G : Gx) (h d im pd wy tb gu ro s0 kd sk hr pk : Nat) (PS : Nat → Nat) (P : Ps) (mn : Nat) (hmn : mn ≤ 60) (hPS : ∀ i, i < mn → PS i < 128) : Ct G yX4_refusalOfText wsX4_refusalOfText { frames := 5, cells := 0, slots := 0, locals := 108 } [.ref h] [(h, cO 4 [.ref d, .ref im, .ref pd, .ref wy, .ref tb, .ref gu, .ref ro]), (pd, cO 2 [.ref s0, .int (nI mn), .ref kd, .ref sk, .ref hr, .ref pk, .int (nI (pN P)), .int (nI (pA P))]), (s0, cI G 60 (rN PS)), (kd, cI G 60 (rN (pK P))), (sk, cI G 60 (rN (pS P))), (hr, cI G 60 (rN (pH P))), (pk, cI G 60 (rN (pP P)))] (fun r wa => r = some (.int (rfR PS P mn)) ∧ wa = [(h, cO 4 [.ref d, .ref im, .ref pd, .ref wy, .ref tb, .ref gu, .ref ro]), (pd, cO 2 [.ref s0, .int (nI mn), .ref kd, .ref sk, .ref hr, .ref pk, .int (nI (pN (rdp PS P mn))), .int (nI (pA (rdp PS P mn)))]), (s0, cI G 60 (rN PS)), (kd, cI G 60 (rN (pK (rdp PS P mn)))), (sk, cI G 60 (rN (pS (rdp PS P mn)))), (hr, cI G 60 (rN (pH (rdp PS P mn)))), (pk, cI G 60 (rN (pP (rdp PS P mn))))]) := by
  refine CtN.of [(0, .ref h)] (by decide +kernel) rfl rfl rfl rfl ?_
  intro x Ox Rt
  refine k_aload_n Ox dX4_refusalOfText_0 rfl 0 rfl ?_
  refine k_get Ox 0 rfl rfl hin_X4_refusalOfText_X4 2 rfl lk_X4_refusalOfText_f23 rfl rfl dX4_refusalOfText_1 ?_
  refine k_callV Ox [1, 2, 3, 4, 5, 6] (c_X2_read G _ _ _ _ _ _ _ _ _ (by omega) (by assumption)) 0 rfl rfl rfl ⟨rfl, rfl⟩ rfl rfl gX4_refusalOfText_X2_read rfl 1 rfl ⟨rfl, (by decide +kernel), (by decide +kernel), (by decide +kernel)⟩ rfl dX4_refusalOfText_4 (Nat.le_of_ble_eq_true rfl) rfl ⟨Nat.le_of_ble_eq_true rfl, Nat.le_of_ble_eq_true rfl⟩ (fun r wa wb hp => ?_)
  obtain ⟨⟨rfl, rfl⟩, rfl⟩ := hp
  show V x G _ _ _ _ _ (.int _ :: _) [_, _, _, _, _, _, _]
  refine k_bipush Ox (v := -6) dX4_refusalOfText_7 (by decide) ?_
  refine k_icmp_eq Ox 15 dX4_refusalOfText_9 rfl (fun c_9 => ?_) (fun c_9 => ?_)
  · refine k_aload_n Ox dX4_refusalOfText_15 rfl 0 rfl ?_
    have hpa := (rd_ok hmn c_9).2.2.2.2
    rw [← (rd_ok hmn c_9).1] at hpa
    refine k_get Ox 0 rfl rfl hin_X4_refusalOfText_X4 2 rfl lk_X4_refusalOfText_f23 rfl rfl dX4_refusalOfText_16 ?_
    refine k_get Ox 1 rfl rfl hin_X4_refusalOfText_X2 7 rfl lk_X4_refusalOfText_f215 rfl rfl dX4_refusalOfText_19 ?_
    refine k_if_leN Ox 30 dX4_refusalOfText_22 rfl (by omega) (fun c_22 => ?_) (fun c_22 => ?_)
    · refine k_iconst Ox (v := nI 0) dX4_refusalOfText_30 rfl ?_
      refine k_iret0 Ox Rt dX4_refusalOfText_31 (Nat.le_of_ble_eq_true rfl) (Nat.le_of_ble_eq_true rfl) rfl ?_
      first | exact ⟨⟨by rw [rfR, if_pos c_9, if_pos c_22], rfl⟩, rfl⟩ | exact ⟨⟨by rw [rfR, if_pos c_9, if_neg (by omega)], rfl⟩, rfl⟩
    · refine k_bipush Ox (v := -3) dX4_refusalOfText_25 (by decide) ?_
      refine k_goto Ox 31 dX4_refusalOfText_27 rfl ?_
      refine k_iret0 Ox Rt dX4_refusalOfText_31 (Nat.le_of_ble_eq_true rfl) (Nat.le_of_ble_eq_true rfl) rfl ?_
      first | exact ⟨⟨by rw [rfR, if_pos c_9, if_pos c_22], rfl⟩, rfl⟩ | exact ⟨⟨by rw [rfR, if_pos c_9, if_neg (by omega)], rfl⟩, rfl⟩
  · refine k_bipush Ox (v := -5) dX4_refusalOfText_12 (by decide) ?_
    refine k_iret0 Ox Rt dX4_refusalOfText_14 (Nat.le_of_ble_eq_true rfl) (Nat.le_of_ble_eq_true rfl) rfl ?_
    exact ⟨⟨by rw [rfR, if_neg c_9], rfl⟩, rfl⟩
theorem lk_X4_vain_f37 : Cond.fieldLink RX4 37 "LieBridges" "trial" "LLieBridges$Beliefs;" ∈ wsX4_vain := List.mem_of_getElem? (i := 1) rfl
theorem hin_X4_vain_X4 : ∀ w ∈ u_ws RX4 TX4 7, w ∈ wsX4_vain := fun _ h => List.mem_cons_of_mem _ (List.mem_append_left _ (List.mem_append_left _ (List.mem_append_left _ (List.mem_append_right _ h))))
theorem lk_X4_vain_f10 : Cond.fieldLink RX4 10 "LieBridges" "now" "LLieBridges$Delta;" ∈ wsX4_vain := List.mem_of_getElem? (i := 2) rfl
theorem lk_X4_vain_f72 : Cond.fieldLink RX4 72 "LieBridges$Delta" "beliefs" "LLieBridges$Beliefs;" ∈ wsX4_vain := List.mem_of_getElem? (i := 3) rfl
theorem hin_X4_vain_X1 : ∀ w ∈ u_ws RX1 TX1 11, w ∈ wsX4_vain := fun _ h => List.mem_cons_of_mem _ (List.mem_append_left _ (List.mem_append_left _ (List.mem_append_right _ h)))
theorem lk_X4_vain_f23 : Cond.fieldLink RX4 23 "LieBridges" "pad" "LLieBridges$Pad;" ∈ wsX4_vain := List.mem_of_getElem? (i := 4) rfl
theorem lk_X4_vain_f107 : Cond.fieldLink RX4 107 "LieBridges$Pad" "parts" "I" ∈ wsX4_vain := List.mem_of_getElem? (i := 5) rfl
theorem hin_X4_vain_X2 : ∀ w ∈ u_ws RX2 TX2 8, w ∈ wsX4_vain := fun _ h => List.mem_cons_of_mem _ (List.mem_append_left _ (List.mem_append_right _ h))
set_option maxHeartbeats 400000 in
set_option maxRecDepth 4000 in
theorem c_X4_vain (G : Gx) (h d im pd wy tb gu ro ls gs ly hs tr kn sp sl be bd s0 kd sk hr pk tbd : Nat) (O : Nat → Nat) (T : Nat → Nat) (K : Nat → Nat) (GU : Nat → Nat) (PS : Nat → Nat) (B : Nat → Nat → Nat) (P : Ps) (fd : Nat) (sg : Nat) (mn : Nat) (g : Nat → Int32) (x1 : Int32) (hO : okP O) (hT : okM T) (hK : okM K) (hB : okB B) (hfd : fd < 10) (hmn : mn ≤ 60) (hPS : ∀ i, i < mn → PS i < 128) : Ct G yX4_vain wsX4_vain { frames := 6, cells := 0, slots := 0, locals := 128 } [.ref h, .int x1] [(h, cO 4 [.ref d, .ref im, .ref pd, .ref wy, .ref tb, .ref gu, .ref ro]), (d, cO 1 [.ref ls, .ref gs, .ref ly, .ref hs, .ref tr, .ref kn, .ref sp, .ref sl, .ref be, .int (nI fd), .int (nI sg)]), (ly, cI G 6 (rN O)), (tr, cI G 6 (rN T)), (kn, cI G 6 (rN K)), (be, cO 0 [.ref bd]), (bd, cI G 36 (rN (flC B))), (pd, cO 2 [.ref s0, .int (nI mn), .ref kd, .ref sk, .ref hr, .ref pk, .int (nI (pN P)), .int (nI (pA P))]), (s0, cI G 60 (rN PS)), (kd, cI G 60 (rN (pK P))), (sk, cI G 60 (rN (pS P))), (hr, cI G 60 (rN (pH P))), (pk, cI G 60 (rN (pP P))), (gu, cI G 3 (rN GU)), (tb, cO 0 [.ref tbd]), (tbd, cI G 36 g)] (fun r wa => r = some (.int (vnR O T K fd GU PS P mn B x1)) ∧ ∃ g9 : Nat → Int32, wa = [(h, cO 4 [.ref d, .ref im, .ref pd, .ref wy, .ref tb, .ref gu, .ref ro]), (d, cO 1 [.ref ls, .ref gs, .ref ly, .ref hs, .ref tr, .ref kn, .ref sp, .ref sl, .ref be, .int (nI fd), .int (nI sg)]), (ly, cI G 6 (rN O)), (tr, cI G 6 (rN T)), (kn, cI G 6 (rN K)), (be, cO 0 [.ref bd]), (bd, cI G 36 (rN (flC B))), (pd, cO 2 [.ref s0, .int (nI mn), .ref kd, .ref sk, .ref hr, .ref pk, .int (nI (pN (rdp PS P mn))), .int (nI (pA (rdp PS P mn)))]), (s0, cI G 60 (rN PS)), (kd, cI G 60 (rN (pK (rdp PS P mn)))), (sk, cI G 60 (rN (pS (rdp PS P mn)))), (hr, cI G 60 (rN (pH (rdp PS P mn)))), (pk, cI G 60 (rN (pP (rdp PS P mn)))), (gu, cI G 3 (rN GU)), (tb, cO 0 [.ref tbd]), (tbd, cI G 36 g9)]) := by
  refine CtN.of [(0, .ref h), (1, .int x1)] (by decide +kernel) rfl rfl rfl rfl ?_
  intro x Ox Rt
  refine k_aload_n Ox dX4_vain_0 rfl 0 rfl ?_
  refine k_callV Ox [0, 7, 8, 9, 10, 11, 12] (c_X4_refusalOfText G _ _ _ _ _ _ _ _ _ _ _ _ _ _ _ _ (by assumption) (by assumption)) 0 rfl rfl rfl ⟨rfl, rfl⟩ rfl rfl gX4_vain_X4_refusalOfText rfl 0 rfl ⟨rfl, (by decide +kernel), (by decide +kernel), (by decide +kernel)⟩ rfl dX4_vain_1 (Nat.le_of_ble_eq_true rfl) rfl ⟨Nat.le_of_ble_eq_true rfl, Nat.le_of_ble_eq_true rfl⟩ (fun r wa wb hp => ?_)
  obtain ⟨⟨rfl, rfl⟩, rfl⟩ := hp
  show V x G _ _ _ _ _ (.int _ :: _) [_, _, _, _, _, _, _, _, _, _, _, _, _, _, _, _]
  refine k_istore_n Ox [(2, _), (0, _), (1, _)] dX4_vain_4 rfl (by decide) rfl ?_
  refine k_iload_n Ox dX4_vain_5 rfl 0 rfl ?_
  refine k_if_eq Ox 11 dX4_vain_6 rfl (fun c_6 => ?_) (fun c_6 => ?_)
  · have hr0 := rf_zero c_6
    obtain ⟨hpn, hpa, hpts⟩ := rd_pts (GU := GU) hmn (fun j hj => by omega) hr0.1
    refine k_aload_n Ox dX4_vain_11 rfl 1 rfl ?_
    refine k_get Ox 0 rfl rfl hin_X4_vain_X4 4 rfl lk_X4_vain_f37 rfl rfl dX4_vain_12 ?_
    refine k_aload_n Ox dX4_vain_15 rfl 1 rfl ?_
    refine k_get Ox 0 rfl rfl hin_X4_vain_X4 0 rfl lk_X4_vain_f10 rfl rfl dX4_vain_16 ?_
    refine k_get Ox 1 rfl rfl hin_X4_vain_X1 8 rfl lk_X4_vain_f72 rfl rfl dX4_vain_19 ?_
    refine k_callV Ox [14, 15, 5, 6] (c_X0_become G _ _ _ _ _ _ ) 1 rfl rfl rfl ⟨rfl, rfl⟩ rfl rfl gX4_vain_X0_become rfl 14 rfl ⟨rfl, (by decide +kernel), (by decide +kernel), (by decide +kernel)⟩ rfl dX4_vain_22 (Nat.le_of_ble_eq_true rfl) rfl ⟨Nat.le_of_ble_eq_true rfl, Nat.le_of_ble_eq_true rfl⟩ (fun r wa wb hp => ?_)
    obtain ⟨⟨rfl, rfl⟩, rfl⟩ := hp
    show V x G _ _ _ _ _ _ [_, _, _, _, _, _, _, _, _, _, _, _, _, _, _, _]
    refine k_iconst Ox (v := nI 0) dX4_vain_25 rfl ?_
    refine k_istore_n Ox [(3, _), (2, _), (0, _), (1, _)] dX4_vain_26 rfl (by decide) rfl ?_
    refine k_bipush Ox (v := -6) dX4_vain_27 (by decide) ?_
    refine k_istore Ox [(4, _), (3, _), (2, _), (0, _), (1, _)] dX4_vain_29 (by decide) rfl ?_
    refine k_iconst Ox (v := nI 0) dX4_vain_31 rfl ?_
    refine k_istore Ox [(5, _), (4, _), (3, _), (2, _), (0, _), (1, _)] dX4_vain_32 (by decide) rfl ?_
    have L34 : ∀ (fuel : Nat) (i : Nat), i ≤ pN (rdp PS P mn) → pN (rdp PS P mn) + 1 ≤ i + fuel → V x G 6 0 0 34 [(0, .ref h), (1, .int x1), (2, .int (rfR PS P mn)), (3, .int (nI (vnC O T K fd GU (rdp PS P mn) B i))), (4, .int (vnF O T K fd GU (rdp PS P mn) B x1 i)), (5, .int (nI i))] [] [(h, cO 4 [.ref d, .ref im, .ref pd, .ref wy, .ref tb, .ref gu, .ref ro]), (d, cO 1 [.ref ls, .ref gs, .ref ly, .ref hs, .ref tr, .ref kn, .ref sp, .ref sl, .ref be, .int (nI fd), .int (nI sg)]), (ly, cI G 6 (rN O)), (tr, cI G 6 (rN T)), (kn, cI G 6 (rN K)), (be, cO 0 [.ref bd]), (bd, cI G 36 (rN (flC B))), (pd, cO 2 [.ref s0, .int (nI mn), .ref kd, .ref sk, .ref hr, .ref pk, .int (nI (pN (rdp PS P mn))), .int (nI (pA (rdp PS P mn)))]), (s0, cI G 60 (rN PS)), (kd, cI G 60 (rN (pK (rdp PS P mn)))), (sk, cI G 60 (rN (pS (rdp PS P mn)))), (hr, cI G 60 (rN (pH (rdp PS P mn)))), (pk, cI G 60 (rN (pP (rdp PS P mn)))), (gu, cI G 3 (rN GU)), (tb, cO 0 [.ref tbd]), (tbd, cI G 36 (rN (flC (plyB O T K fd GU (rdp PS P mn) B i))))] := by
      intro fuel
      induction fuel with
      | zero => intro i hi hfuel; exact absurd hi (by omega)
      | succ fuel ih =>
        intro i hi hfuel
        refine k_iload Ox dX4_vain_34 5 rfl ?_
        refine k_aload_n Ox dX4_vain_36 rfl 0 rfl ?_
        refine k_get Ox 0 rfl rfl hin_X4_vain_X4 2 rfl lk_X4_vain_f23 rfl rfl dX4_vain_37 ?_
        refine k_get Ox 7 rfl rfl hin_X4_vain_X2 6 rfl lk_X4_vain_f107 rfl rfl dX4_vain_40 ?_
        refine k_icmp_geN Ox 82 dX4_vain_43 rfl (by omega) (by omega) (fun c_43 => ?_) (fun c_43 => ?_)
        · obtain hie : i = pN (rdp PS P mn) := by omega
          subst hie
          refine k_iload_n Ox dX4_vain_82 rfl 1 rfl ?_
          refine k_iconst Ox (v := -1) dX4_vain_83 (by decide) ?_
          refine k_icmp_ne Ox 91 dX4_vain_84 rfl (fun c_84 => ?_) (fun c_84 => ?_)
          · refine k_iload Ox dX4_vain_91 4 rfl ?_
            refine k_iret0 Ox Rt dX4_vain_93 (Nat.le_of_ble_eq_true rfl) (Nat.le_of_ble_eq_true rfl) rfl ?_
            first | exact ⟨⟨by rw [vnR, if_pos c_6, if_pos c_84], _, rfl⟩, rfl⟩ | exact ⟨⟨by rw [vnR, if_pos c_6, if_neg c_84], _, rfl⟩, rfl⟩
          · refine k_iload_n Ox dX4_vain_87 rfl 3 rfl ?_
            refine k_goto Ox 93 dX4_vain_88 rfl ?_
            refine k_iret0 Ox Rt dX4_vain_93 (Nat.le_of_ble_eq_true rfl) (Nat.le_of_ble_eq_true rfl) rfl ?_
            first | exact ⟨⟨by rw [vnR, if_pos c_6, if_pos c_84], _, rfl⟩, rfl⟩ | exact ⟨⟨by rw [vnR, if_pos c_6, if_neg c_84], _, rfl⟩, rfl⟩
        · have hvc := vnC_le O T K fd GU (rdp PS P mn) B i
          refine k_aload_n Ox dX4_vain_46 rfl 0 rfl ?_
          refine k_iload Ox dX4_vain_47 5 rfl ?_
          refine k_aload_n Ox dX4_vain_49 rfl 0 rfl ?_
          refine k_get Ox 0 rfl rfl hin_X4_vain_X4 4 rfl lk_X4_vain_f37 rfl rfl dX4_vain_50 ?_
          refine k_callV Ox [0, 1, 2, 3, 4, 7, 9, 10, 11, 12, 13, 14, 15] (c_X4_takesEffect G _ _ _ _ _ _ _ _ _ _ _ _ _ _ _ _ _ _ _ _ _ _ _ _ _ _ _ _ _ _ _ _ _ _ (hO) (hT) (hK) (plyB_ok hB hfd i) (hfd) (hpts i c_43) (by omega)) 2 rfl rfl rfl ⟨rfl, rfl⟩ rfl rfl gX4_vain_X4_takesEffect rfl 0 rfl ⟨rfl, (by decide +kernel), (by decide +kernel), (by decide +kernel)⟩ rfl dX4_vain_53 (Nat.le_of_ble_eq_true rfl) rfl ⟨Nat.le_of_ble_eq_true rfl, Nat.le_of_ble_eq_true rfl⟩ (fun r wa wb hp => ?_)
          obtain ⟨⟨rfl, rfl⟩, rfl⟩ := hp
          show V x G _ _ _ _ _ (.int _ :: _) [_, _, _, _, _, _, _, _, _, _, _, _, _, _, _, _]
          refine k_if_neB Ox 76 dX4_vain_56 rfl (fun c_56 => ?_) (fun c_56 => ?_)
          · refine k_iincN Ox (k := 5) (m := 1) [(5, _), (0, _), (1, _), (2, _), (3, _), (4, _)] dX4_vain_76 rfl rfl (by decide) rfl ?_
            refine k_goto Ox 34 dX4_vain_79 rfl ?_
            refine k_sub [1, 2, 3, 4, 5, 0] [(0, _), (1, _), (2, _), (3, _), (4, _), (5, _)] rfl ?_
            first | (have e := vn_t (x := x1) c_56; rw [e.1, e.2]; exact ih (i + 1) (by omega) (by omega)) | (have e := vn_f1 c_56 c_61; rw [e.1, e.2]; exact ih (i + 1) (by omega) (by omega)) | (have e := vn_f2 c_56 c_61; rw [e.1, e.2]; exact ih (i + 1) (by omega) (by omega))
          · refine k_iload_n Ox dX4_vain_59 rfl 3 rfl ?_
            refine k_iload_n Ox dX4_vain_60 rfl 1 rfl ?_
            refine k_icmp_ne Ox 69 dX4_vain_61 rfl (fun c_61 => ?_) (fun c_61 => ?_)
            · refine k_iload Ox dX4_vain_69 4 rfl ?_
              refine k_istore Ox [(4, _), (0, _), (1, _), (2, _), (3, _), (5, _)] dX4_vain_71 (by decide) rfl ?_
              refine k_iincN Ox (k := 4) (m := 1) [(3, _), (4, _), (0, _), (1, _), (2, _), (5, _)] dX4_vain_73 rfl rfl (by decide) rfl ?_
              refine k_iincN Ox (k := 5) (m := 1) [(5, _), (3, _), (4, _), (0, _), (1, _), (2, _)] dX4_vain_76 rfl rfl (by decide) rfl ?_
              refine k_goto Ox 34 dX4_vain_79 rfl ?_
              refine k_sub [3, 4, 5, 1, 2, 0] [(0, _), (1, _), (2, _), (3, _), (4, _), (5, _)] rfl ?_
              first | (have e := vn_t (x := x1) c_56; rw [e.1, e.2]; exact ih (i + 1) (by omega) (by omega)) | (have e := vn_f1 c_56 c_61; rw [e.1, e.2]; exact ih (i + 1) (by omega) (by omega)) | (have e := vn_f2 c_56 c_61; rw [e.1, e.2]; exact ih (i + 1) (by omega) (by omega))
            · refine k_iload Ox dX4_vain_64 5 rfl ?_
              refine k_goto Ox 71 dX4_vain_66 rfl ?_
              refine k_istore Ox [(4, _), (0, _), (1, _), (2, _), (3, _), (5, _)] dX4_vain_71 (by decide) rfl ?_
              refine k_iincN Ox (k := 4) (m := 1) [(3, _), (4, _), (0, _), (1, _), (2, _), (5, _)] dX4_vain_73 rfl rfl (by decide) rfl ?_
              refine k_iincN Ox (k := 5) (m := 1) [(5, _), (3, _), (4, _), (0, _), (1, _), (2, _)] dX4_vain_76 rfl rfl (by decide) rfl ?_
              refine k_goto Ox 34 dX4_vain_79 rfl ?_
              refine k_sub [3, 4, 5, 1, 2, 0] [(0, _), (1, _), (2, _), (3, _), (4, _), (5, _)] rfl ?_
              first | (have e := vn_t (x := x1) c_56; rw [e.1, e.2]; exact ih (i + 1) (by omega) (by omega)) | (have e := vn_f1 c_56 c_61; rw [e.1, e.2]; exact ih (i + 1) (by omega) (by omega)) | (have e := vn_f2 c_56 c_61; rw [e.1, e.2]; exact ih (i + 1) (by omega) (by omega))
    refine k_sub [4, 5, 3, 2, 1, 0] [(0, _), (1, _), (2, _), (3, _), (4, _), (5, _)] rfl ?_
    exact L34 (pN (rdp PS P mn) + 1) 0 (by omega) (by omega)
  · refine k_iload_n Ox dX4_vain_9 rfl 0 rfl ?_
    refine k_iret0 Ox Rt dX4_vain_10 (Nat.le_of_ble_eq_true rfl) (Nat.le_of_ble_eq_true rfl) rfl ?_
    exact ⟨⟨by rw [vnR, if_neg c_6], _, rfl⟩, rfl⟩
theorem lk_X4_done_f10 : Cond.fieldLink RX4 10 "LieBridges" "now" "LLieBridges$Delta;" ∈ wsX4_done := List.mem_of_getElem? (i := 1) rfl
theorem hin_X4_done_X4 : ∀ w ∈ u_ws RX4 TX4 7, w ∈ wsX4_done := fun _ h => List.mem_cons_of_mem _ (List.mem_append_left _ (List.mem_append_left _ (List.mem_append_left _ (List.mem_append_right _ h))))
theorem lk_X4_done_f72 : Cond.fieldLink RX4 72 "LieBridges$Delta" "beliefs" "LLieBridges$Beliefs;" ∈ wsX4_done := List.mem_of_getElem? (i := 2) rfl
theorem hin_X4_done_X1 : ∀ w ∈ u_ws RX1 TX1 11, w ∈ wsX4_done := fun _ h => List.mem_cons_of_mem _ (List.mem_append_left _ (List.mem_append_left _ (List.mem_append_right _ h)))
theorem lk_X4_done_f23 : Cond.fieldLink RX4 23 "LieBridges" "pad" "LLieBridges$Pad;" ∈ wsX4_done := List.mem_of_getElem? (i := 3) rfl
theorem lk_X4_done_f107 : Cond.fieldLink RX4 107 "LieBridges$Pad" "parts" "I" ∈ wsX4_done := List.mem_of_getElem? (i := 4) rfl
theorem hin_X4_done_X2 : ∀ w ∈ u_ws RX2 TX2 8, w ∈ wsX4_done := fun _ h => List.mem_cons_of_mem _ (List.mem_append_left _ (List.mem_append_right _ h))
set_option maxHeartbeats 400000 in
set_option maxRecDepth 4000 in
theorem c_X4_done (G : Gx) (h d im pd wy tb gu ro ls gs ly hs tr kn sp sl be bd s0 kd sk hr pk : Nat) (O : Nat → Nat) (T : Nat → Nat) (K : Nat → Nat) (GU : Nat → Nat) (PS : Nat → Nat) (B : Nat → Nat → Nat) (P : Ps) (fd : Nat) (sg : Nat) (mn : Nat) (hO : okP O) (hT : okM T) (hK : okM K) (hB : okB B) (hfd : fd < 10) (hmn : mn ≤ 60) (hPS : ∀ i, i < mn → PS i < 128) : Ct G yX4_done wsX4_done { frames := 6, cells := 0, slots := 0, locals := 128 } [.ref h] [(h, cO 4 [.ref d, .ref im, .ref pd, .ref wy, .ref tb, .ref gu, .ref ro]), (d, cO 1 [.ref ls, .ref gs, .ref ly, .ref hs, .ref tr, .ref kn, .ref sp, .ref sl, .ref be, .int (nI fd), .int (nI sg)]), (ly, cI G 6 (rN O)), (tr, cI G 6 (rN T)), (kn, cI G 6 (rN K)), (be, cO 0 [.ref bd]), (bd, cI G 36 (rN (flC B))), (pd, cO 2 [.ref s0, .int (nI mn), .ref kd, .ref sk, .ref hr, .ref pk, .int (nI (pN P)), .int (nI (pA P))]), (s0, cI G 60 (rN PS)), (kd, cI G 60 (rN (pK P))), (sk, cI G 60 (rN (pS P))), (hr, cI G 60 (rN (pH P))), (pk, cI G 60 (rN (pP P))), (gu, cI G 3 (rN GU))] (fun r wa => r = some (.int (dnR PS P mn)) ∧ wa = [(h, cO 4 [.ref d, .ref im, .ref pd, .ref wy, .ref tb, .ref gu, .ref ro]), (d, cO 1 [.ref ls, .ref gs, .ref ly, .ref hs, .ref tr, .ref kn, .ref sp, .ref sl, .ref be, .int (nI fd), .int (nI sg)]), (ly, cI G 6 (rN O)), (tr, cI G 6 (rN T)), (kn, cI G 6 (rN K)), (be, cO 0 [.ref bd]), (bd, cI G 36 (rN (flC (dnB O T K fd GU PS P mn B)))), (pd, cO 2 [.ref s0, .int (nI (if rfR PS P mn = 0 then 0 else mn)), .ref kd, .ref sk, .ref hr, .ref pk, .int (nI (pN (rdp PS P mn))), .int (nI (pA (rdp PS P mn)))]), (s0, cI G 60 (rN PS)), (kd, cI G 60 (rN (pK (rdp PS P mn)))), (sk, cI G 60 (rN (pS (rdp PS P mn)))), (hr, cI G 60 (rN (pH (rdp PS P mn)))), (pk, cI G 60 (rN (pP (rdp PS P mn)))), (gu, cI G 3 (rN GU))]) := by
  refine CtN.of [(0, .ref h)] (by decide +kernel) rfl rfl rfl rfl ?_
  intro x Ox Rt
  refine k_aload_n Ox dX4_done_0 rfl 0 rfl ?_
  refine k_callV Ox [0, 7, 8, 9, 10, 11, 12] (c_X4_refusalOfText G _ _ _ _ _ _ _ _ _ _ _ _ _ _ _ _ (by assumption) (by assumption)) 0 rfl rfl rfl ⟨rfl, rfl⟩ rfl rfl gX4_done_X4_refusalOfText rfl 0 rfl ⟨rfl, (by decide +kernel), (by decide +kernel), (by decide +kernel)⟩ rfl dX4_done_1 (Nat.le_of_ble_eq_true rfl) rfl ⟨Nat.le_of_ble_eq_true rfl, Nat.le_of_ble_eq_true rfl⟩ (fun r wa wb hp => ?_)
  obtain ⟨⟨rfl, rfl⟩, rfl⟩ := hp
  show V x G _ _ _ _ _ (.int _ :: _) [_, _, _, _, _, _, _, _, _, _, _, _, _, _]
  refine k_istore_n Ox [(1, _), (0, _)] dX4_done_4 rfl (by decide) rfl ?_
  refine k_iload_n Ox dX4_done_5 rfl 0 rfl ?_
  refine k_if_eq Ox 11 dX4_done_6 rfl (fun c_6 => ?_) (fun c_6 => ?_)
  · have hr0 := rf_zero c_6
    obtain ⟨hpn, hpa, hpts⟩ := rd_pts (GU := GU) hmn (fun j hj => by omega) hr0.1
    refine k_aload_n Ox dX4_done_11 rfl 1 rfl ?_
    refine k_aload_n Ox dX4_done_12 rfl 1 rfl ?_
    refine k_get Ox 0 rfl rfl hin_X4_done_X4 0 rfl lk_X4_done_f10 rfl rfl dX4_done_13 ?_
    refine k_get Ox 1 rfl rfl hin_X4_done_X1 8 rfl lk_X4_done_f72 rfl rfl dX4_done_16 ?_
    refine k_callV Ox [0, 1, 2, 3, 4, 7, 9, 10, 11, 12, 13, 5, 6] (c_X4_play G _ _ _ _ _ _ _ _ _ _ _ _ _ _ _ _ _ _ _ _ _ _ _ _ _ _ _ _ _ _ _ _ _ (hO) (hT) (hK) (hB) (hfd) (hpts) (hpn)) 1 rfl rfl rfl ⟨rfl, rfl⟩ rfl rfl gX4_done_X4_play rfl 0 rfl ⟨rfl, (by decide +kernel), (by decide +kernel), (by decide +kernel)⟩ rfl dX4_done_19 (Nat.le_of_ble_eq_true rfl) rfl ⟨Nat.le_of_ble_eq_true rfl, Nat.le_of_ble_eq_true rfl⟩ (fun r wa wb hp => ?_)
    obtain ⟨⟨rfl, rfl⟩, rfl⟩ := hp
    show V x G _ _ _ _ _ _ [_, _, _, _, _, _, _, _, _, _, _, _, _, _]
    refine k_aload_n Ox dX4_done_22 rfl 1 rfl ?_
    refine k_get Ox 0 rfl rfl hin_X4_done_X4 2 rfl lk_X4_done_f23 rfl rfl dX4_done_23 ?_
    refine k_get Ox 7 rfl rfl hin_X4_done_X2 6 rfl lk_X4_done_f107 rfl rfl dX4_done_26 ?_
    refine k_istore_n Ox [(2, _), (1, _), (0, _)] dX4_done_29 rfl (by decide) rfl ?_
    refine k_aload_n Ox dX4_done_30 rfl 2 rfl ?_
    refine k_get Ox 0 rfl rfl hin_X4_done_X4 2 rfl lk_X4_done_f23 rfl rfl dX4_done_31 ?_
    refine k_callV Ox [7] (c_X2_clear G _ _ _ _ _ _ _ _ ) 0 rfl rfl rfl ⟨rfl, rfl⟩ rfl rfl gX4_done_X2_clear rfl 7 rfl ⟨rfl, (by decide +kernel), (by decide +kernel), (by decide +kernel)⟩ rfl dX4_done_34 (Nat.le_of_ble_eq_true rfl) rfl ⟨Nat.le_of_ble_eq_true rfl, Nat.le_of_ble_eq_true rfl⟩ (fun r wa wb hp => ?_)
    obtain ⟨⟨rfl, rfl⟩, rfl⟩ := hp
    show V x G _ _ _ _ _ _ [_, _, _, _, _, _, _, _, _, _, _, _, _, _]
    refine k_iload_n Ox dX4_done_37 rfl 0 rfl ?_
    refine k_iret0 Ox Rt dX4_done_38 (Nat.le_of_ble_eq_true rfl) (Nat.le_of_ble_eq_true rfl) rfl ?_
    exact ⟨⟨by rw [dnR, if_pos c_6], by rw [dnB, if_pos c_6, if_pos c_6]⟩, rfl⟩
  · refine k_iload_n Ox dX4_done_9 rfl 0 rfl ?_
    refine k_iret0 Ox Rt dX4_done_10 (Nat.le_of_ble_eq_true rfl) (Nat.le_of_ble_eq_true rfl) rfl ?_
    exact ⟨⟨by rw [dnR, if_neg c_6], by rw [dnB, if_neg c_6, if_neg c_6]⟩, rfl⟩
theorem lk_X4_behind_f37 : Cond.fieldLink RX4 37 "LieBridges" "trial" "LLieBridges$Beliefs;" ∈ wsX4_behind := List.mem_of_getElem? (i := 1) rfl
theorem hin_X4_behind_X4 : ∀ w ∈ u_ws RX4 TX4 7, w ∈ wsX4_behind := fun _ h => List.mem_cons_of_mem _ (List.mem_append_left _ (List.mem_append_left _ (List.mem_append_left _ (List.mem_append_right _ h))))
theorem lk_X4_behind_f10 : Cond.fieldLink RX4 10 "LieBridges" "now" "LLieBridges$Delta;" ∈ wsX4_behind := List.mem_of_getElem? (i := 2) rfl
theorem lk_X4_behind_f72 : Cond.fieldLink RX4 72 "LieBridges$Delta" "beliefs" "LLieBridges$Beliefs;" ∈ wsX4_behind := List.mem_of_getElem? (i := 3) rfl
theorem hin_X4_behind_X1 : ∀ w ∈ u_ws RX1 TX1 11, w ∈ wsX4_behind := fun _ h => List.mem_cons_of_mem _ (List.mem_append_left _ (List.mem_append_left _ (List.mem_append_right _ h)))
set_option maxHeartbeats 400000 in
set_option maxRecDepth 4000 in
theorem c_X4_behind (G : Gx) (h d im pd wy tb gu ro ls gs ly hs tr kn sp sl be bd s0 kd sk hr pk tbd : Nat) (O : Nat → Nat) (T : Nat → Nat) (K : Nat → Nat) (GU : Nat → Nat) (PS : Nat → Nat) (B : Nat → Nat → Nat) (P : Ps) (fd : Nat) (sg : Nat) (mn : Nat) (g : Nat → Int32) (x1 x2 : Int32) (hO : okP O) (hT : okM T) (hK : okM K) (hB : okB B) (hfd : fd < 10) (hmn : mn ≤ 60) (hPS : ∀ i, i < mn → PS i < 128) : Ct G yX4_behind wsX4_behind { frames := 6, cells := 0, slots := 0, locals := 128 } [.ref h, .int x1, .int x2] [(h, cO 4 [.ref d, .ref im, .ref pd, .ref wy, .ref tb, .ref gu, .ref ro]), (d, cO 1 [.ref ls, .ref gs, .ref ly, .ref hs, .ref tr, .ref kn, .ref sp, .ref sl, .ref be, .int (nI fd), .int (nI sg)]), (ly, cI G 6 (rN O)), (tr, cI G 6 (rN T)), (kn, cI G 6 (rN K)), (be, cO 0 [.ref bd]), (bd, cI G 36 (rN (flC B))), (pd, cO 2 [.ref s0, .int (nI mn), .ref kd, .ref sk, .ref hr, .ref pk, .int (nI (pN P)), .int (nI (pA P))]), (s0, cI G 60 (rN PS)), (kd, cI G 60 (rN (pK P))), (sk, cI G 60 (rN (pS P))), (hr, cI G 60 (rN (pH P))), (pk, cI G 60 (rN (pP P))), (gu, cI G 3 (rN GU)), (tb, cO 0 [.ref tbd]), (tbd, cI G 36 g)] (fun r wa => r = some (.int (bhR O T K fd GU PS P mn B x1 x2)) ∧ ∃ P9 : Ps, ∃ g9 : Nat → Int32, wa = [(h, cO 4 [.ref d, .ref im, .ref pd, .ref wy, .ref tb, .ref gu, .ref ro]), (d, cO 1 [.ref ls, .ref gs, .ref ly, .ref hs, .ref tr, .ref kn, .ref sp, .ref sl, .ref be, .int (nI fd), .int (nI sg)]), (ly, cI G 6 (rN O)), (tr, cI G 6 (rN T)), (kn, cI G 6 (rN K)), (be, cO 0 [.ref bd]), (bd, cI G 36 (rN (flC B))), (pd, cO 2 [.ref s0, .int (nI mn), .ref kd, .ref sk, .ref hr, .ref pk, .int (nI (pN P9)), .int (nI (pA P9))]), (s0, cI G 60 (rN PS)), (kd, cI G 60 (rN (pK P9))), (sk, cI G 60 (rN (pS P9))), (hr, cI G 60 (rN (pH P9))), (pk, cI G 60 (rN (pP P9))), (gu, cI G 3 (rN GU)), (tb, cO 0 [.ref tbd]), (tbd, cI G 36 g9)]) := by
  refine CtN.of [(0, .ref h), (1, .int x1), (2, .int x2)] (by decide +kernel) rfl rfl rfl rfl ?_
  intro x Ox Rt
  refine k_iload_n Ox dX4_behind_0 rfl 1 rfl ?_
  refine k_callS Ox [] (c_X4_isPlank G _ ) 1 rfl rfl rfl ⟨rfl, rfl⟩ rfl rfl gX4_behind_X4_isPlank ⟨(by decide +kernel), (by decide +kernel), (by decide +kernel)⟩ rfl dX4_behind_1 (Nat.le_of_ble_eq_true rfl) rfl ⟨Nat.le_of_ble_eq_true rfl, Nat.le_of_ble_eq_true rfl⟩ (fun r wa wb hp => ?_)
  obtain ⟨⟨rfl, rfl⟩, rfl⟩ := hp
  show V x G _ _ _ _ _ (.int _ :: _) [_, _, _, _, _, _, _, _, _, _, _, _, _, _, _, _]
  refine k_if_eqB Ox 14 dX4_behind_4 rfl (fun c_4 => ?_) (fun c_4 => ?_)
  · have hf : (inR 0 5 x1 && isPA x2) = false := by simp [c_4]
    refine k_iconst Ox (v := -1) dX4_behind_14 (by decide) ?_
    refine k_iret0 Ox Rt dX4_behind_15 (Nat.le_of_ble_eq_true rfl) (Nat.le_of_ble_eq_true rfl) rfl ?_
    exact ⟨⟨by rw [bhR, pick_f hf], _, _, rfl⟩, rfl⟩
  · refine k_iload_n Ox dX4_behind_7 rfl 2 rfl ?_
    refine k_callS Ox [] (c_X4_isPersonOrAll G _ ) 1 rfl rfl rfl ⟨rfl, rfl⟩ rfl rfl gX4_behind_X4_isPersonOrAll ⟨(by decide +kernel), (by decide +kernel), (by decide +kernel)⟩ rfl dX4_behind_8 (Nat.le_of_ble_eq_true rfl) rfl ⟨Nat.le_of_ble_eq_true rfl, Nat.le_of_ble_eq_true rfl⟩ (fun r wa wb hp => ?_)
    obtain ⟨⟨rfl, rfl⟩, rfl⟩ := hp
    show V x G _ _ _ _ _ (.int _ :: _) [_, _, _, _, _, _, _, _, _, _, _, _, _, _, _, _]
    refine k_if_neB Ox 16 dX4_behind_11 rfl (fun c_11 => ?_) (fun c_11 => ?_)
    · have hok : (inR 0 5 x1 && isPA x2) = true := by rw [c_4]; exact c_11
      refine k_aload_n Ox dX4_behind_16 rfl 0 rfl ?_
      refine k_callV Ox [0, 7, 8, 9, 10, 11, 12] (c_X4_refusalOfText G _ _ _ _ _ _ _ _ _ _ _ _ _ _ _ _ (by assumption) (by assumption)) 0 rfl rfl rfl ⟨rfl, rfl⟩ rfl rfl gX4_behind_X4_refusalOfText rfl 0 rfl ⟨rfl, (by decide +kernel), (by decide +kernel), (by decide +kernel)⟩ rfl dX4_behind_17 (Nat.le_of_ble_eq_true rfl) rfl ⟨Nat.le_of_ble_eq_true rfl, Nat.le_of_ble_eq_true rfl⟩ (fun r wa wb hp => ?_)
      obtain ⟨⟨rfl, rfl⟩, rfl⟩ := hp
      show V x G _ _ _ _ _ (.int _ :: _) [_, _, _, _, _, _, _, _, _, _, _, _, _, _, _, _]
      refine k_istore_n Ox [(3, _), (0, _), (1, _), (2, _)] dX4_behind_20 rfl (by decide) rfl ?_
      refine k_iload_n Ox dX4_behind_21 rfl 0 rfl ?_
      refine k_if_eq Ox 27 dX4_behind_22 rfl (fun c_22 => ?_) (fun c_22 => ?_)
      · have hr0 := rf_zero c_22
        obtain ⟨hpn, hpa, hpts⟩ := rd_pts (GU := GU) hmn (fun j hj => by omega) hr0.1
        obtain ⟨j1, hj1, rfl⟩ := in6_of c_4
        refine k_aload_n Ox dX4_behind_27 rfl 1 rfl ?_
        refine k_get Ox 0 rfl rfl hin_X4_behind_X4 4 rfl lk_X4_behind_f37 rfl rfl dX4_behind_28 ?_
        refine k_aload_n Ox dX4_behind_31 rfl 1 rfl ?_
        refine k_get Ox 0 rfl rfl hin_X4_behind_X4 0 rfl lk_X4_behind_f10 rfl rfl dX4_behind_32 ?_
        refine k_get Ox 1 rfl rfl hin_X4_behind_X1 8 rfl lk_X4_behind_f72 rfl rfl dX4_behind_35 ?_
        refine k_callV Ox [14, 15, 5, 6] (c_X0_become G _ _ _ _ _ _ ) 1 rfl rfl rfl ⟨rfl, rfl⟩ rfl rfl gX4_behind_X0_become rfl 14 rfl ⟨rfl, (by decide +kernel), (by decide +kernel), (by decide +kernel)⟩ rfl dX4_behind_38 (Nat.le_of_ble_eq_true rfl) rfl ⟨Nat.le_of_ble_eq_true rfl, Nat.le_of_ble_eq_true rfl⟩ (fun r wa wb hp => ?_)
        obtain ⟨⟨rfl, rfl⟩, rfl⟩ := hp
        show V x G _ _ _ _ _ _ [_, _, _, _, _, _, _, _, _, _, _, _, _, _, _, _]
        refine k_aload_n Ox dX4_behind_41 rfl 1 rfl ?_
        refine k_aload_n Ox dX4_behind_42 rfl 1 rfl ?_
        refine k_get Ox 0 rfl rfl hin_X4_behind_X4 4 rfl lk_X4_behind_f37 rfl rfl dX4_behind_43 ?_
        refine k_callV Ox [0, 1, 2, 3, 4, 7, 9, 10, 11, 12, 13, 14, 15] (c_X4_play G _ _ _ _ _ _ _ _ _ _ _ _ _ _ _ _ _ _ _ _ _ _ _ _ _ _ _ _ _ _ _ _ _ (hO) (hT) (hK) (hB) (hfd) (hpts) (hpn)) 1 rfl rfl rfl ⟨rfl, rfl⟩ rfl rfl gX4_behind_X4_play rfl 0 rfl ⟨rfl, (by decide +kernel), (by decide +kernel), (by decide +kernel)⟩ rfl dX4_behind_46 (Nat.le_of_ble_eq_true rfl) rfl ⟨Nat.le_of_ble_eq_true rfl, Nat.le_of_ble_eq_true rfl⟩ (fun r wa wb hp => ?_)
        obtain ⟨⟨rfl, rfl⟩, rfl⟩ := hp
        show V x G _ _ _ _ _ _ [_, _, _, _, _, _, _, _, _, _, _, _, _, _, _, _]
        refine k_aload_n Ox dX4_behind_49 rfl 1 rfl ?_
        refine k_get Ox 0 rfl rfl hin_X4_behind_X4 4 rfl lk_X4_behind_f37 rfl rfl dX4_behind_50 ?_
        refine k_iload_n Ox dX4_behind_53 rfl 2 rfl ?_
        refine k_iload_n Ox dX4_behind_54 rfl 3 rfl ?_
        refine k_callS Ox [14, 15] (c_X4_beliefOrLoad G _ _ _ _ _ (plyB_ok hB hfd _) (hj1) (c_11)) 3 rfl rfl rfl ⟨rfl, rfl⟩ rfl rfl gX4_behind_X4_beliefOrLoad ⟨(by decide +kernel), (by decide +kernel), (by decide +kernel)⟩ rfl dX4_behind_55 (Nat.le_of_ble_eq_true rfl) rfl ⟨Nat.le_of_ble_eq_true rfl, Nat.le_of_ble_eq_true rfl⟩ (fun r wa wb hp => ?_)
        obtain ⟨⟨rfl, rfl⟩, rfl⟩ := hp
        show V x G _ _ _ _ _ (.int _ :: _) [_, _, _, _, _, _, _, _, _, _, _, _, _, _, _, _]
        refine k_iret0 Ox Rt dX4_behind_58 (Nat.le_of_ble_eq_true rfl) (Nat.le_of_ble_eq_true rfl) rfl ?_
        exact ⟨⟨by rw [bhR, pick_t hok, if_pos c_22, nn_nI (by omega)], _, _, rfl⟩, rfl⟩
      · refine k_iload_n Ox dX4_behind_25 rfl 0 rfl ?_
        refine k_iret0 Ox Rt dX4_behind_26 (Nat.le_of_ble_eq_true rfl) (Nat.le_of_ble_eq_true rfl) rfl ?_
        exact ⟨⟨by rw [bhR, pick_t hok, if_neg c_22], _, _, rfl⟩, rfl⟩
    · have hf : (inR 0 5 x1 && isPA x2) = false := by simp [isPA]; intro _; simpa using c_11
      refine k_iconst Ox (v := -1) dX4_behind_14 (by decide) ?_
      refine k_iret0 Ox Rt dX4_behind_15 (Nat.le_of_ble_eq_true rfl) (Nat.le_of_ble_eq_true rfl) rfl ?_
      exact ⟨⟨by rw [bhR, pick_f hf], _, _, rfl⟩, rfl⟩
