theorem lk_X4_year_f37 : Cond.fieldLink RX4 37 "LieBridges" "trial" "LLieBridges$Beliefs;" ∈ wsX4_year := List.mem_of_getElem? (i := 1) rfl
theorem hin_X4_year_X4 : ∀ w ∈ u_ws RX4 TX4 7, w ∈ wsX4_year := fun _ h => List.mem_cons_of_mem _ (List.mem_append_left _ (List.mem_append_left _ (List.mem_append_right _ h)))
theorem lk_X4_year_f10 : Cond.fieldLink RX4 10 "LieBridges" "now" "LLieBridges$Delta;" ∈ wsX4_year := List.mem_of_getElem? (i := 2) rfl
theorem lk_X4_year_f72 : Cond.fieldLink RX4 72 "LieBridges$Delta" "beliefs" "LLieBridges$Beliefs;" ∈ wsX4_year := List.mem_of_getElem? (i := 3) rfl
theorem hin_X4_year_X1 : ∀ w ∈ u_ws RX1 TX1 11, w ∈ wsX4_year := fun _ h => List.mem_cons_of_mem _ (List.mem_append_left _ (List.mem_append_right _ h))
theorem lk_X4_year_k225 : Cond.constant RX4 225 (65537) ∈ wsX4_year := List.mem_of_getElem? (i := 4) rfl
set_option maxHeartbeats 400000 in
set_option maxRecDepth 4000 in
theorem c_X4_year (G : Gx) (h d im pd wy tb gu ro ls gs ly hs tr kn sp sl be bd tbd : Nat) (O : Nat → Nat) (T : Nat → Nat) (K : Nat → Nat) (B : Nat → Nat → Nat) (fd : Nat) (sg : Nat) (g : Nat → Int32) (x1 x2 x3 : Int32) (hO : okP O) (hT : okM T) (hK : okM K) (hB : okB B) (hfd : fd < 10) : Ct G yX4_year wsX4_year { frames := 3, cells := 0, slots := 0, locals := 71 } [.ref h, .int x1, .int x2, .int x3] [(h, cO 4 [.ref d, .ref im, .ref pd, .ref wy, .ref tb, .ref gu, .ref ro]), (d, cO 1 [.ref ls, .ref gs, .ref ly, .ref hs, .ref tr, .ref kn, .ref sp, .ref sl, .ref be, .int (nI fd), .int (nI sg)]), (ly, cI G 6 (rN O)), (tr, cI G 6 (rN T)), (kn, cI G 6 (rN K)), (be, cO 0 [.ref bd]), (bd, cI G 36 (rN (flC B))), (tb, cO 0 [.ref tbd]), (tbd, cI G 36 g)] (fun r wa => r = some (.int (yrR O T K fd B x1 x2 x3)) ∧ ∃ g9 : Nat → Int32, wa = [(h, cO 4 [.ref d, .ref im, .ref pd, .ref wy, .ref tb, .ref gu, .ref ro]), (d, cO 1 [.ref ls, .ref gs, .ref ly, .ref hs, .ref tr, .ref kn, .ref sp, .ref sl, .ref be, .int (nI fd), .int (nI sg)]), (ly, cI G 6 (rN O)), (tr, cI G 6 (rN T)), (kn, cI G 6 (rN K)), (be, cO 0 [.ref bd]), (bd, cI G 36 (rN (flC B))), (tb, cO 0 [.ref tbd]), (tbd, cI G 36 g9)]) := by
  refine CtN.of [(0, .ref h), (1, .int x1), (2, .int x2), (3, .int x3)] (by decide +kernel) rfl rfl rfl rfl ?_
  intro x Ox Rt
  refine k_iload_n Ox dX4_year_0 rfl 3 rfl ?_
  refine k_iconst Ox (v := -1) dX4_year_1 (by decide) ?_
  refine k_icmp_eq Ox 14 dX4_year_2 rfl (fun c_2 => ?_) (fun c_2 => ?_)
  · have hpa : isPA x3 = true := by rw [isPA, decide_eq_true c_2]; rfl
    refine k_iload_n Ox dX4_year_14 rfl 1 rfl ?_
    refine k_iconst Ox (v := nI 0) dX4_year_15 rfl ?_
    refine k_sipush Ox (v := nI 9999) dX4_year_16 rfl ?_
    refine k_callS Ox [] (c_X4_within G _ _ _ ) 3 rfl rfl rfl ⟨rfl, rfl⟩ rfl rfl gX4_year_X4_within ⟨(by decide +kernel), (by decide +kernel), (by decide +kernel)⟩ rfl dX4_year_19 (Nat.le_of_ble_eq_true rfl) rfl ⟨Nat.le_of_ble_eq_true rfl, Nat.le_of_ble_eq_true rfl⟩ (fun r wa wb hp => ?_)
    obtain ⟨⟨rfl, rfl⟩, rfl⟩ := hp
    show V x G _ _ _ _ _ (.int _ :: _) [_, _, _, _, _, _, _, _, _]
    change V x G _ _ _ _ _ (.int (bI (inR (0) (9999) _)) :: _) _
    refine k_if_eqB Ox 35 dX4_year_22 rfl (fun c_22 => ?_) (fun c_22 => ?_)
    · refine k_bipush Ox (v := -2) dX4_year_35 (by decide) ?_
      refine k_iret0 Ox Rt dX4_year_37 (Nat.le_of_ble_eq_true rfl) (Nat.le_of_ble_eq_true rfl) rfl ?_
      exact ⟨⟨by first | rw [yrR, pick_t hpa, pick_f (and_f1 c_22)] | rw [yrR, pick_t hpa, pick_f (and_f2 c_32)], _, rfl⟩, rfl⟩
    · refine k_iload_n Ox dX4_year_25 rfl 2 rfl ?_
      refine k_iconst Ox (v := nI 1) dX4_year_26 rfl ?_
      refine k_bipush Ox (v := nI 99) dX4_year_27 rfl ?_
      refine k_callS Ox [] (c_X4_within G _ _ _ ) 3 rfl rfl rfl ⟨rfl, rfl⟩ rfl rfl gX4_year_X4_within ⟨(by decide +kernel), (by decide +kernel), (by decide +kernel)⟩ rfl dX4_year_29 (Nat.le_of_ble_eq_true rfl) rfl ⟨Nat.le_of_ble_eq_true rfl, Nat.le_of_ble_eq_true rfl⟩ (fun r wa wb hp => ?_)
      obtain ⟨⟨rfl, rfl⟩, rfl⟩ := hp
      show V x G _ _ _ _ _ (.int _ :: _) [_, _, _, _, _, _, _, _, _]
      change V x G _ _ _ _ _ (.int (bI (inR (1) (99) _)) :: _) _
      refine k_if_neB Ox 38 dX4_year_32 rfl (fun c_32 => ?_) (fun c_32 => ?_)
      · obtain ⟨s, hsd, rfl⟩ := inR_of (k := 9999) rfl (by decide) c_22
        obtain ⟨m, hm0, hm, rfl⟩ := inR_of' (lo := 1) (k := 99) rfl rfl (by decide) c_32
        refine k_aload_n Ox dX4_year_38 rfl 0 rfl ?_
        refine k_get Ox 0 rfl rfl hin_X4_year_X4 4 rfl lk_X4_year_f37 rfl rfl dX4_year_39 ?_
        refine k_aload_n Ox dX4_year_42 rfl 0 rfl ?_
        refine k_get Ox 0 rfl rfl hin_X4_year_X4 0 rfl lk_X4_year_f10 rfl rfl dX4_year_43 ?_
        refine k_get Ox 1 rfl rfl hin_X4_year_X1 8 rfl lk_X4_year_f72 rfl rfl dX4_year_46 ?_
        refine k_callV Ox [7, 8, 5, 6] (c_X0_become G _ _ _ _ _ _ ) 1 rfl rfl rfl ⟨rfl, rfl⟩ rfl rfl gX4_year_X0_become rfl 7 rfl ⟨rfl, (by decide +kernel), (by decide +kernel), (by decide +kernel)⟩ rfl dX4_year_49 (Nat.le_of_ble_eq_true rfl) rfl ⟨Nat.le_of_ble_eq_true rfl, Nat.le_of_ble_eq_true rfl⟩ (fun r wa wb hp => ?_)
        obtain ⟨⟨rfl, rfl⟩, rfl⟩ := hp
        show V x G _ _ _ _ _ _ [_, _, _, _, _, _, _, _, _]
        refine k_iload_n Ox dX4_year_52 rfl 1 rfl ?_
        refine k_istore Ox [(4, _), (0, _), (1, _), (2, _), (3, _)] dX4_year_53 (by decide) rfl ?_
        refine k_iconst Ox (v := nI 0) dX4_year_55 rfl ?_
        refine k_istore Ox [(5, _), (4, _), (0, _), (1, _), (2, _), (3, _)] dX4_year_56 (by decide) rfl ?_
        refine k_iconst Ox (v := nI 1) dX4_year_58 rfl ?_
        refine k_istore Ox [(6, _), (5, _), (4, _), (0, _), (1, _), (2, _), (3, _)] dX4_year_59 (by decide) rfl ?_
        have L61 : ∀ (fuel : Nat) (k : Nat), k ≤ m → m + 1 ≤ k + fuel → V x G 7 0 0 61 [(0, .ref h), (1, .int (nI s)), (2, .int (nI m)), (3, .int x3), (4, .int (nI (ys s k))), (5, .int (nI (yN O T K fd B s k))), (6, .int (nI (1 + k)))] [] [(h, cO 4 [.ref d, .ref im, .ref pd, .ref wy, .ref tb, .ref gu, .ref ro]), (d, cO 1 [.ref ls, .ref gs, .ref ly, .ref hs, .ref tr, .ref kn, .ref sp, .ref sl, .ref be, .int (nI fd), .int (nI sg)]), (ly, cI G 6 (rN O)), (tr, cI G 6 (rN T)), (kn, cI G 6 (rN K)), (be, cO 0 [.ref bd]), (bd, cI G 36 (rN (flC B))), (tb, cO 0 [.ref tbd]), (tbd, cI G 36 (rN (flC (yB O T K fd B s k))))] := by
          intro fuel
          induction fuel with
          | zero => intro k hk hfuel; exact absurd hk (by omega)
          | succ fuel ih =>
            intro k hk hfuel
            refine k_iload Ox dX4_year_61 6 rfl ?_
            refine k_iload_n Ox dX4_year_63 rfl 2 rfl ?_
            refine k_icmp_gtN Ox 139 dX4_year_64 rfl (by omega) (by omega) (fun c_64 => ?_) (fun c_64 => ?_)
            · obtain rfl : k = m := by omega
              have hyb := yB_ok (O := O) (T := T) (K := K) (s := s) hB hfd k
              refine k_iload_n Ox dX4_year_139 rfl 3 rfl ?_
              refine k_iconst Ox (v := -1) dX4_year_140 (by decide) ?_
              refine k_icmp_ne Ox 149 dX4_year_141 rfl (fun c_141 => ?_) (fun c_141 => ?_)
              · obtain ⟨j, hj, rfl⟩ := isPA_ne hpa c_141
                refine k_aload_n Ox dX4_year_149 rfl 0 rfl ?_
                refine k_get Ox 0 rfl rfl hin_X4_year_X4 4 rfl lk_X4_year_f37 rfl rfl dX4_year_150 ?_
                refine k_iload_n Ox dX4_year_153 rfl 3 rfl ?_
                refine k_iconst Ox (v := nI 0) dX4_year_154 rfl ?_
                refine k_callV Ox [7, 8] (c_X0_load G _ _ _ _ _ (hj) (by omega) (hyb)) 2 rfl rfl rfl ⟨rfl, rfl⟩ rfl rfl gX4_year_X0_load rfl 7 rfl ⟨rfl, (by decide +kernel), (by decide +kernel), (by decide +kernel)⟩ rfl dX4_year_155 (Nat.le_of_ble_eq_true rfl) rfl ⟨Nat.le_of_ble_eq_true rfl, Nat.le_of_ble_eq_true rfl⟩ (fun r wa wb hp => ?_)
                obtain ⟨⟨rfl, rfl⟩, rfl⟩ := hp
                show V x G _ _ _ _ _ (.int _ :: _) [_, _, _, _, _, _, _, _, _]
                refine k_iret0 Ox Rt dX4_year_158 (Nat.le_of_ble_eq_true rfl) (Nat.le_of_ble_eq_true rfl) rfl ?_
                first | exact ⟨⟨by rw [yrR, pick_t hpa, pick_t (by simp [c_22, c_32]), if_pos c_141, nn_nI (by omega), nn_nI (by omega)], _, rfl⟩, rfl⟩ | exact ⟨⟨by rw [yrR, pick_t hpa, pick_t (by simp [c_22, c_32]), if_neg c_141, nn_nI (by omega), nn_nI (by omega), nn_nI (by omega)], _, rfl⟩, rfl⟩
              · refine k_iload Ox dX4_year_144 5 rfl ?_
                refine k_goto Ox 158 dX4_year_146 rfl ?_
                refine k_iret0 Ox Rt dX4_year_158 (Nat.le_of_ble_eq_true rfl) (Nat.le_of_ble_eq_true rfl) rfl ?_
                first | exact ⟨⟨by rw [yrR, pick_t hpa, pick_t (by simp [c_22, c_32]), if_pos c_141, nn_nI (by omega), nn_nI (by omega)], _, rfl⟩, rfl⟩ | exact ⟨⟨by rw [yrR, pick_t hpa, pick_t (by simp [c_22, c_32]), if_neg c_141, nn_nI (by omega), nn_nI (by omega), nn_nI (by omega)], _, rfl⟩, rfl⟩
            · have hys := ys_lt s (by omega) k
              have hyb := yB_ok (O := O) (T := T) (K := K) (s := s) hB hfd k
              have hyn := yN_le O T K fd B s k
              refine k_bipush Ox (v := nI 75) dX4_year_67 rfl ?_
              refine k_iload Ox dX4_year_69 4 rfl ?_
              refine k_imulN Ox dX4_year_71 ?_
              refine k_bipush Ox (v := nI 74) dX4_year_72 rfl ?_
              refine k_iaddN Ox dX4_year_74 ?_
              refine k_ldc Ox (65537) dX4_year_75 lk_X4_year_k225 ?_
              refine k_top (nI 65537) rfl ?_
              refine k_iremN Ox dX4_year_77 (by omega) (by decide) (by decide) ?_
              refine k_top (nI (ys s (k + 1))) rfl ?_
              have hys2 := ys_lt s (by omega) (k + 1)
              refine k_istore Ox [(4, _), (0, _), (1, _), (2, _), (3, _), (5, _), (6, _)] dX4_year_78 (by decide) rfl ?_
              refine k_aload_n Ox dX4_year_80 rfl 1 rfl ?_
              refine k_get Ox 0 rfl rfl hin_X4_year_X4 0 rfl lk_X4_year_f10 rfl rfl dX4_year_81 ?_
              refine k_aload_n Ox dX4_year_84 rfl 1 rfl ?_
              refine k_get Ox 0 rfl rfl hin_X4_year_X4 4 rfl lk_X4_year_f37 rfl rfl dX4_year_85 ?_
              refine k_iload Ox dX4_year_88 0 rfl ?_
              refine k_bipush Ox (v := nI 6) dX4_year_90 rfl ?_
              refine k_iremN Ox dX4_year_92 (by omega) (by first | decide | omega) (by first | decide | omega) ?_
              refine k_iload Ox dX4_year_93 0 rfl ?_
              refine k_bipush Ox (v := nI 6) dX4_year_95 rfl ?_
              refine k_idivN Ox dX4_year_97 (by omega) (by first | decide | omega) (by first | decide | omega) ?_
              refine k_bipush Ox (v := nI 6) dX4_year_98 rfl ?_
              refine k_iremN Ox dX4_year_100 (by omega) (by first | decide | omega) (by first | decide | omega) ?_
              refine k_iload Ox dX4_year_101 0 rfl ?_
              refine k_bipush Ox (v := nI 36) dX4_year_103 rfl ?_
              refine k_idivN Ox dX4_year_105 (by omega) (by first | decide | omega) (by first | decide | omega) ?_
              refine k_bipush Ox (v := nI 6) dX4_year_106 rfl ?_
              refine k_iremN Ox dX4_year_108 (by omega) (by first | decide | omega) (by first | decide | omega) ?_
              refine k_callV Ox [1, 2, 3, 4, 7, 8] (c_X1_tell G _ _ _ _ _ _ _ _ _ _ _ _ _ _ _ _ _ _ _ _ _ (hO) (hT) (hK) (hyb) (hfd) (by omega) (by omega) (by omega)) 4 rfl rfl rfl ⟨rfl, rfl⟩ rfl rfl gX4_year_X1_tell rfl 1 rfl ⟨rfl, (by decide +kernel), (by decide +kernel), (by decide +kernel)⟩ rfl dX4_year_109 (Nat.le_of_ble_eq_true rfl) rfl ⟨Nat.le_of_ble_eq_true rfl, Nat.le_of_ble_eq_true rfl⟩ (fun r wa wb hp => ?_)
              obtain ⟨⟨rfl, rfl⟩, rfl⟩ := hp
              show V x G _ _ _ _ _ (.int _ :: _) [_, _, _, _, _, _, _, _, _]
              refine k_if_eqB Ox 118 dX4_year_112 rfl (fun c_112 => ?_) (fun c_112 => ?_)
              · refine k_iload Ox dX4_year_118 6 rfl ?_
                refine k_bipush Ox (v := nI 10) dX4_year_120 rfl ?_
                refine k_iremN Ox dX4_year_122 (by omega) (by first | decide | omega) (by first | decide | omega) ?_
                refine k_if_neN Ox 133 dX4_year_123 rfl (by omega) (fun c_123 => ?_) (fun c_123 => ?_)
                · refine k_iincN Ox (k := 6) (m := 1) [(6, _), (4, _), (0, _), (1, _), (2, _), (3, _), (5, _)] dX4_year_133 rfl rfl (by decide) rfl ?_
                  refine k_goto Ox 61 dX4_year_136 rfl ?_
                  refine k_sub [2, 3, 4, 5, 1, 6, 0] [(0, _), (1, _), (2, _), (3, _), (4, _), (5, _), (6, _)] rfl ?_
                  first | rw [yB_d c_123] | rw [yB_n c_123]
                  first | rw [yN_t c_112] | rw [yN_f c_112]
                  exact ih (k + 1) (by omega) (by omega)
                · refine k_aload_n Ox dX4_year_126 rfl 1 rfl ?_
                  refine k_get Ox 0 rfl rfl hin_X4_year_X4 4 rfl lk_X4_year_f37 rfl rfl dX4_year_127 ?_
                  refine k_callV Ox [7, 8] (c_X0_fadeADay G _ _ _ (tellB_ok hyb hfd)) 0 rfl rfl rfl ⟨rfl, rfl⟩ rfl rfl gX4_year_X0_fadeADay rfl 7 rfl ⟨rfl, (by decide +kernel), (by decide +kernel), (by decide +kernel)⟩ rfl dX4_year_130 (Nat.le_of_ble_eq_true rfl) rfl ⟨Nat.le_of_ble_eq_true rfl, Nat.le_of_ble_eq_true rfl⟩ (fun r wa wb hp => ?_)
                  obtain ⟨⟨rfl, rfl⟩, rfl⟩ := hp
                  show V x G _ _ _ _ _ _ [_, _, _, _, _, _, _, _, _]
                  refine k_iincN Ox (k := 6) (m := 1) [(6, _), (4, _), (0, _), (1, _), (2, _), (3, _), (5, _)] dX4_year_133 rfl rfl (by decide) rfl ?_
                  refine k_goto Ox 61 dX4_year_136 rfl ?_
                  refine k_sub [2, 3, 4, 5, 1, 6, 0] [(0, _), (1, _), (2, _), (3, _), (4, _), (5, _), (6, _)] rfl ?_
                  first | rw [yB_d c_123] | rw [yB_n c_123]
                  first | rw [yN_t c_112] | rw [yN_f c_112]
                  exact ih (k + 1) (by omega) (by omega)
              · refine k_iincN Ox (k := 5) (m := 1) [(5, _), (4, _), (0, _), (1, _), (2, _), (3, _), (6, _)] dX4_year_115 rfl rfl (by decide) rfl ?_
                refine k_iload Ox dX4_year_118 6 rfl ?_
                refine k_bipush Ox (v := nI 10) dX4_year_120 rfl ?_
                refine k_iremN Ox dX4_year_122 (by omega) (by first | decide | omega) (by first | decide | omega) ?_
                refine k_if_neN Ox 133 dX4_year_123 rfl (by omega) (fun c_123 => ?_) (fun c_123 => ?_)
                · refine k_iincN Ox (k := 6) (m := 1) [(6, _), (5, _), (4, _), (0, _), (1, _), (2, _), (3, _)] dX4_year_133 rfl rfl (by decide) rfl ?_
                  refine k_goto Ox 61 dX4_year_136 rfl ?_
                  refine k_sub [3, 4, 5, 6, 2, 1, 0] [(0, _), (1, _), (2, _), (3, _), (4, _), (5, _), (6, _)] rfl ?_
                  first | rw [yB_d c_123] | rw [yB_n c_123]
                  first | rw [yN_t c_112] | rw [yN_f c_112]
                  exact ih (k + 1) (by omega) (by omega)
                · refine k_aload_n Ox dX4_year_126 rfl 2 rfl ?_
                  refine k_get Ox 0 rfl rfl hin_X4_year_X4 4 rfl lk_X4_year_f37 rfl rfl dX4_year_127 ?_
                  refine k_callV Ox [7, 8] (c_X0_fadeADay G _ _ _ (tellB_ok hyb hfd)) 0 rfl rfl rfl ⟨rfl, rfl⟩ rfl rfl gX4_year_X0_fadeADay rfl 7 rfl ⟨rfl, (by decide +kernel), (by decide +kernel), (by decide +kernel)⟩ rfl dX4_year_130 (Nat.le_of_ble_eq_true rfl) rfl ⟨Nat.le_of_ble_eq_true rfl, Nat.le_of_ble_eq_true rfl⟩ (fun r wa wb hp => ?_)
                  obtain ⟨⟨rfl, rfl⟩, rfl⟩ := hp
                  show V x G _ _ _ _ _ _ [_, _, _, _, _, _, _, _, _]
                  refine k_iincN Ox (k := 6) (m := 1) [(6, _), (5, _), (4, _), (0, _), (1, _), (2, _), (3, _)] dX4_year_133 rfl rfl (by decide) rfl ?_
                  refine k_goto Ox 61 dX4_year_136 rfl ?_
                  refine k_sub [3, 4, 5, 6, 2, 1, 0] [(0, _), (1, _), (2, _), (3, _), (4, _), (5, _), (6, _)] rfl ?_
                  first | rw [yB_d c_123] | rw [yB_n c_123]
                  first | rw [yN_t c_112] | rw [yN_f c_112]
                  exact ih (k + 1) (by omega) (by omega)
        refine k_sub [3, 4, 5, 6, 2, 1, 0] [(0, _), (1, _), (2, _), (3, _), (4, _), (5, _), (6, _)] rfl ?_
        exact L61 (m + 1) 0 (by omega) (by omega)
      · refine k_bipush Ox (v := -2) dX4_year_35 (by decide) ?_
        refine k_iret0 Ox Rt dX4_year_37 (Nat.le_of_ble_eq_true rfl) (Nat.le_of_ble_eq_true rfl) rfl ?_
        exact ⟨⟨by first | rw [yrR, pick_t hpa, pick_f (and_f1 c_22)] | rw [yrR, pick_t hpa, pick_f (and_f2 c_32)], _, rfl⟩, rfl⟩
  · refine k_iload_n Ox dX4_year_5 rfl 3 rfl ?_
    refine k_callS Ox [] (c_X4_isPlank G _ ) 1 rfl rfl rfl ⟨rfl, rfl⟩ rfl rfl gX4_year_X4_isPlank ⟨(by decide +kernel), (by decide +kernel), (by decide +kernel)⟩ rfl dX4_year_6 (Nat.le_of_ble_eq_true rfl) rfl ⟨Nat.le_of_ble_eq_true rfl, Nat.le_of_ble_eq_true rfl⟩ (fun r wa wb hp => ?_)
    obtain ⟨⟨rfl, rfl⟩, rfl⟩ := hp
    show V x G _ _ _ _ _ (.int _ :: _) [_, _, _, _, _, _, _, _, _]
    refine k_if_neB Ox 14 dX4_year_9 rfl (fun c_9 => ?_) (fun c_9 => ?_)
    · have hpa : isPA x3 = true := by rw [isPA, c_9]; simp
      refine k_iload_n Ox dX4_year_14 rfl 1 rfl ?_
      refine k_iconst Ox (v := nI 0) dX4_year_15 rfl ?_
      refine k_sipush Ox (v := nI 9999) dX4_year_16 rfl ?_
      refine k_callS Ox [] (c_X4_within G _ _ _ ) 3 rfl rfl rfl ⟨rfl, rfl⟩ rfl rfl gX4_year_X4_within ⟨(by decide +kernel), (by decide +kernel), (by decide +kernel)⟩ rfl dX4_year_19 (Nat.le_of_ble_eq_true rfl) rfl ⟨Nat.le_of_ble_eq_true rfl, Nat.le_of_ble_eq_true rfl⟩ (fun r wa wb hp => ?_)
      obtain ⟨⟨rfl, rfl⟩, rfl⟩ := hp
      show V x G _ _ _ _ _ (.int _ :: _) [_, _, _, _, _, _, _, _, _]
      change V x G _ _ _ _ _ (.int (bI (inR (0) (9999) _)) :: _) _
      refine k_if_eqB Ox 35 dX4_year_22 rfl (fun c_22 => ?_) (fun c_22 => ?_)
      · refine k_bipush Ox (v := -2) dX4_year_35 (by decide) ?_
        refine k_iret0 Ox Rt dX4_year_37 (Nat.le_of_ble_eq_true rfl) (Nat.le_of_ble_eq_true rfl) rfl ?_
        exact ⟨⟨by first | rw [yrR, pick_t hpa, pick_f (and_f1 c_22)] | rw [yrR, pick_t hpa, pick_f (and_f2 c_32)], _, rfl⟩, rfl⟩
      · refine k_iload_n Ox dX4_year_25 rfl 2 rfl ?_
        refine k_iconst Ox (v := nI 1) dX4_year_26 rfl ?_
        refine k_bipush Ox (v := nI 99) dX4_year_27 rfl ?_
        refine k_callS Ox [] (c_X4_within G _ _ _ ) 3 rfl rfl rfl ⟨rfl, rfl⟩ rfl rfl gX4_year_X4_within ⟨(by decide +kernel), (by decide +kernel), (by decide +kernel)⟩ rfl dX4_year_29 (Nat.le_of_ble_eq_true rfl) rfl ⟨Nat.le_of_ble_eq_true rfl, Nat.le_of_ble_eq_true rfl⟩ (fun r wa wb hp => ?_)
        obtain ⟨⟨rfl, rfl⟩, rfl⟩ := hp
        show V x G _ _ _ _ _ (.int _ :: _) [_, _, _, _, _, _, _, _, _]
        change V x G _ _ _ _ _ (.int (bI (inR (1) (99) _)) :: _) _
        refine k_if_neB Ox 38 dX4_year_32 rfl (fun c_32 => ?_) (fun c_32 => ?_)
        · obtain ⟨s, hsd, rfl⟩ := inR_of (k := 9999) rfl (by decide) c_22
          obtain ⟨m, hm0, hm, rfl⟩ := inR_of' (lo := 1) (k := 99) rfl rfl (by decide) c_32
          refine k_aload_n Ox dX4_year_38 rfl 0 rfl ?_
          refine k_get Ox 0 rfl rfl hin_X4_year_X4 4 rfl lk_X4_year_f37 rfl rfl dX4_year_39 ?_
          refine k_aload_n Ox dX4_year_42 rfl 0 rfl ?_
          refine k_get Ox 0 rfl rfl hin_X4_year_X4 0 rfl lk_X4_year_f10 rfl rfl dX4_year_43 ?_
          refine k_get Ox 1 rfl rfl hin_X4_year_X1 8 rfl lk_X4_year_f72 rfl rfl dX4_year_46 ?_
          refine k_callV Ox [7, 8, 5, 6] (c_X0_become G _ _ _ _ _ _ ) 1 rfl rfl rfl ⟨rfl, rfl⟩ rfl rfl gX4_year_X0_become rfl 7 rfl ⟨rfl, (by decide +kernel), (by decide +kernel), (by decide +kernel)⟩ rfl dX4_year_49 (Nat.le_of_ble_eq_true rfl) rfl ⟨Nat.le_of_ble_eq_true rfl, Nat.le_of_ble_eq_true rfl⟩ (fun r wa wb hp => ?_)
          obtain ⟨⟨rfl, rfl⟩, rfl⟩ := hp
          show V x G _ _ _ _ _ _ [_, _, _, _, _, _, _, _, _]
          refine k_iload_n Ox dX4_year_52 rfl 1 rfl ?_
          refine k_istore Ox [(4, _), (0, _), (1, _), (2, _), (3, _)] dX4_year_53 (by decide) rfl ?_
          refine k_iconst Ox (v := nI 0) dX4_year_55 rfl ?_
          refine k_istore Ox [(5, _), (4, _), (0, _), (1, _), (2, _), (3, _)] dX4_year_56 (by decide) rfl ?_
          refine k_iconst Ox (v := nI 1) dX4_year_58 rfl ?_
          refine k_istore Ox [(6, _), (5, _), (4, _), (0, _), (1, _), (2, _), (3, _)] dX4_year_59 (by decide) rfl ?_
          have L61 : ∀ (fuel : Nat) (k : Nat), k ≤ m → m + 1 ≤ k + fuel → V x G 7 0 0 61 [(0, .ref h), (1, .int (nI s)), (2, .int (nI m)), (3, .int x3), (4, .int (nI (ys s k))), (5, .int (nI (yN O T K fd B s k))), (6, .int (nI (1 + k)))] [] [(h, cO 4 [.ref d, .ref im, .ref pd, .ref wy, .ref tb, .ref gu, .ref ro]), (d, cO 1 [.ref ls, .ref gs, .ref ly, .ref hs, .ref tr, .ref kn, .ref sp, .ref sl, .ref be, .int (nI fd), .int (nI sg)]), (ly, cI G 6 (rN O)), (tr, cI G 6 (rN T)), (kn, cI G 6 (rN K)), (be, cO 0 [.ref bd]), (bd, cI G 36 (rN (flC B))), (tb, cO 0 [.ref tbd]), (tbd, cI G 36 (rN (flC (yB O T K fd B s k))))] := by
            intro fuel
            induction fuel with
            | zero => intro k hk hfuel; exact absurd hk (by omega)
            | succ fuel ih =>
              intro k hk hfuel
              refine k_iload Ox dX4_year_61 6 rfl ?_
              refine k_iload_n Ox dX4_year_63 rfl 2 rfl ?_
              refine k_icmp_gtN Ox 139 dX4_year_64 rfl (by omega) (by omega) (fun c_64 => ?_) (fun c_64 => ?_)
              · obtain rfl : k = m := by omega
                have hyb := yB_ok (O := O) (T := T) (K := K) (s := s) hB hfd k
                refine k_iload_n Ox dX4_year_139 rfl 3 rfl ?_
                refine k_iconst Ox (v := -1) dX4_year_140 (by decide) ?_
                refine k_icmp_ne Ox 149 dX4_year_141 rfl (fun c_141 => ?_) (fun c_141 => ?_)
                · obtain ⟨j, hj, rfl⟩ := isPA_ne hpa c_141
                  refine k_aload_n Ox dX4_year_149 rfl 0 rfl ?_
                  refine k_get Ox 0 rfl rfl hin_X4_year_X4 4 rfl lk_X4_year_f37 rfl rfl dX4_year_150 ?_
                  refine k_iload_n Ox dX4_year_153 rfl 3 rfl ?_
                  refine k_iconst Ox (v := nI 0) dX4_year_154 rfl ?_
                  refine k_callV Ox [7, 8] (c_X0_load G _ _ _ _ _ (hj) (by omega) (hyb)) 2 rfl rfl rfl ⟨rfl, rfl⟩ rfl rfl gX4_year_X0_load rfl 7 rfl ⟨rfl, (by decide +kernel), (by decide +kernel), (by decide +kernel)⟩ rfl dX4_year_155 (Nat.le_of_ble_eq_true rfl) rfl ⟨Nat.le_of_ble_eq_true rfl, Nat.le_of_ble_eq_true rfl⟩ (fun r wa wb hp => ?_)
                  obtain ⟨⟨rfl, rfl⟩, rfl⟩ := hp
                  show V x G _ _ _ _ _ (.int _ :: _) [_, _, _, _, _, _, _, _, _]
                  refine k_iret0 Ox Rt dX4_year_158 (Nat.le_of_ble_eq_true rfl) (Nat.le_of_ble_eq_true rfl) rfl ?_
                  first | exact ⟨⟨by rw [yrR, pick_t hpa, pick_t (by simp [c_22, c_32]), if_pos c_141, nn_nI (by omega), nn_nI (by omega)], _, rfl⟩, rfl⟩ | exact ⟨⟨by rw [yrR, pick_t hpa, pick_t (by simp [c_22, c_32]), if_neg c_141, nn_nI (by omega), nn_nI (by omega), nn_nI (by omega)], _, rfl⟩, rfl⟩
                · refine k_iload Ox dX4_year_144 5 rfl ?_
                  refine k_goto Ox 158 dX4_year_146 rfl ?_
                  refine k_iret0 Ox Rt dX4_year_158 (Nat.le_of_ble_eq_true rfl) (Nat.le_of_ble_eq_true rfl) rfl ?_
                  first | exact ⟨⟨by rw [yrR, pick_t hpa, pick_t (by simp [c_22, c_32]), if_pos c_141, nn_nI (by omega), nn_nI (by omega)], _, rfl⟩, rfl⟩ | exact ⟨⟨by rw [yrR, pick_t hpa, pick_t (by simp [c_22, c_32]), if_neg c_141, nn_nI (by omega), nn_nI (by omega), nn_nI (by omega)], _, rfl⟩, rfl⟩
              · have hys := ys_lt s (by omega) k
                have hyb := yB_ok (O := O) (T := T) (K := K) (s := s) hB hfd k
                have hyn := yN_le O T K fd B s k
                refine k_bipush Ox (v := nI 75) dX4_year_67 rfl ?_
                refine k_iload Ox dX4_year_69 4 rfl ?_
                refine k_imulN Ox dX4_year_71 ?_
                refine k_bipush Ox (v := nI 74) dX4_year_72 rfl ?_
                refine k_iaddN Ox dX4_year_74 ?_
                refine k_ldc Ox (65537) dX4_year_75 lk_X4_year_k225 ?_
                refine k_top (nI 65537) rfl ?_
                refine k_iremN Ox dX4_year_77 (by omega) (by decide) (by decide) ?_
                refine k_top (nI (ys s (k + 1))) rfl ?_
                have hys2 := ys_lt s (by omega) (k + 1)
                refine k_istore Ox [(4, _), (0, _), (1, _), (2, _), (3, _), (5, _), (6, _)] dX4_year_78 (by decide) rfl ?_
                refine k_aload_n Ox dX4_year_80 rfl 1 rfl ?_
                refine k_get Ox 0 rfl rfl hin_X4_year_X4 0 rfl lk_X4_year_f10 rfl rfl dX4_year_81 ?_
                refine k_aload_n Ox dX4_year_84 rfl 1 rfl ?_
                refine k_get Ox 0 rfl rfl hin_X4_year_X4 4 rfl lk_X4_year_f37 rfl rfl dX4_year_85 ?_
                refine k_iload Ox dX4_year_88 0 rfl ?_
                refine k_bipush Ox (v := nI 6) dX4_year_90 rfl ?_
                refine k_iremN Ox dX4_year_92 (by omega) (by first | decide | omega) (by first | decide | omega) ?_
                refine k_iload Ox dX4_year_93 0 rfl ?_
                refine k_bipush Ox (v := nI 6) dX4_year_95 rfl ?_
                refine k_idivN Ox dX4_year_97 (by omega) (by first | decide | omega) (by first | decide | omega) ?_
                refine k_bipush Ox (v := nI 6) dX4_year_98 rfl ?_
                refine k_iremN Ox dX4_year_100 (by omega) (by first | decide | omega) (by first | decide | omega) ?_
                refine k_iload Ox dX4_year_101 0 rfl ?_
                refine k_bipush Ox (v := nI 36) dX4_year_103 rfl ?_
                refine k_idivN Ox dX4_year_105 (by omega) (by first | decide | omega) (by first | decide | omega) ?_
                refine k_bipush Ox (v := nI 6) dX4_year_106 rfl ?_
                refine k_iremN Ox dX4_year_108 (by omega) (by first | decide | omega) (by first | decide | omega) ?_
                refine k_callV Ox [1, 2, 3, 4, 7, 8] (c_X1_tell G _ _ _ _ _ _ _ _ _ _ _ _ _ _ _ _ _ _ _ _ _ (hO) (hT) (hK) (hyb) (hfd) (by omega) (by omega) (by omega)) 4 rfl rfl rfl ⟨rfl, rfl⟩ rfl rfl gX4_year_X1_tell rfl 1 rfl ⟨rfl, (by decide +kernel), (by decide +kernel), (by decide +kernel)⟩ rfl dX4_year_109 (Nat.le_of_ble_eq_true rfl) rfl ⟨Nat.le_of_ble_eq_true rfl, Nat.le_of_ble_eq_true rfl⟩ (fun r wa wb hp => ?_)
                obtain ⟨⟨rfl, rfl⟩, rfl⟩ := hp
                show V x G _ _ _ _ _ (.int _ :: _) [_, _, _, _, _, _, _, _, _]
                refine k_if_eqB Ox 118 dX4_year_112 rfl (fun c_112 => ?_) (fun c_112 => ?_)
                · refine k_iload Ox dX4_year_118 6 rfl ?_
                  refine k_bipush Ox (v := nI 10) dX4_year_120 rfl ?_
                  refine k_iremN Ox dX4_year_122 (by omega) (by first | decide | omega) (by first | decide | omega) ?_
                  refine k_if_neN Ox 133 dX4_year_123 rfl (by omega) (fun c_123 => ?_) (fun c_123 => ?_)
                  · refine k_iincN Ox (k := 6) (m := 1) [(6, _), (4, _), (0, _), (1, _), (2, _), (3, _), (5, _)] dX4_year_133 rfl rfl (by decide) rfl ?_
                    refine k_goto Ox 61 dX4_year_136 rfl ?_
                    refine k_sub [2, 3, 4, 5, 1, 6, 0] [(0, _), (1, _), (2, _), (3, _), (4, _), (5, _), (6, _)] rfl ?_
                    first | rw [yB_d c_123] | rw [yB_n c_123]
                    first | rw [yN_t c_112] | rw [yN_f c_112]
                    exact ih (k + 1) (by omega) (by omega)
                  · refine k_aload_n Ox dX4_year_126 rfl 1 rfl ?_
                    refine k_get Ox 0 rfl rfl hin_X4_year_X4 4 rfl lk_X4_year_f37 rfl rfl dX4_year_127 ?_
                    refine k_callV Ox [7, 8] (c_X0_fadeADay G _ _ _ (tellB_ok hyb hfd)) 0 rfl rfl rfl ⟨rfl, rfl⟩ rfl rfl gX4_year_X0_fadeADay rfl 7 rfl ⟨rfl, (by decide +kernel), (by decide +kernel), (by decide +kernel)⟩ rfl dX4_year_130 (Nat.le_of_ble_eq_true rfl) rfl ⟨Nat.le_of_ble_eq_true rfl, Nat.le_of_ble_eq_true rfl⟩ (fun r wa wb hp => ?_)
                    obtain ⟨⟨rfl, rfl⟩, rfl⟩ := hp
                    show V x G _ _ _ _ _ _ [_, _, _, _, _, _, _, _, _]
                    refine k_iincN Ox (k := 6) (m := 1) [(6, _), (4, _), (0, _), (1, _), (2, _), (3, _), (5, _)] dX4_year_133 rfl rfl (by decide) rfl ?_
                    refine k_goto Ox 61 dX4_year_136 rfl ?_
                    refine k_sub [2, 3, 4, 5, 1, 6, 0] [(0, _), (1, _), (2, _), (3, _), (4, _), (5, _), (6, _)] rfl ?_
                    first | rw [yB_d c_123] | rw [yB_n c_123]
                    first | rw [yN_t c_112] | rw [yN_f c_112]
                    exact ih (k + 1) (by omega) (by omega)
                · refine k_iincN Ox (k := 5) (m := 1) [(5, _), (4, _), (0, _), (1, _), (2, _), (3, _), (6, _)] dX4_year_115 rfl rfl (by decide) rfl ?_
                  refine k_iload Ox dX4_year_118 6 rfl ?_
                  refine k_bipush Ox (v := nI 10) dX4_year_120 rfl ?_
                  refine k_iremN Ox dX4_year_122 (by omega) (by first | decide | omega) (by first | decide | omega) ?_
                  refine k_if_neN Ox 133 dX4_year_123 rfl (by omega) (fun c_123 => ?_) (fun c_123 => ?_)
                  · refine k_iincN Ox (k := 6) (m := 1) [(6, _), (5, _), (4, _), (0, _), (1, _), (2, _), (3, _)] dX4_year_133 rfl rfl (by decide) rfl ?_
                    refine k_goto Ox 61 dX4_year_136 rfl ?_
                    refine k_sub [3, 4, 5, 6, 2, 1, 0] [(0, _), (1, _), (2, _), (3, _), (4, _), (5, _), (6, _)] rfl ?_
                    first | rw [yB_d c_123] | rw [yB_n c_123]
                    first | rw [yN_t c_112] | rw [yN_f c_112]
                    exact ih (k + 1) (by omega) (by omega)
                  · refine k_aload_n Ox dX4_year_126 rfl 2 rfl ?_
                    refine k_get Ox 0 rfl rfl hin_X4_year_X4 4 rfl lk_X4_year_f37 rfl rfl dX4_year_127 ?_
                    refine k_callV Ox [7, 8] (c_X0_fadeADay G _ _ _ (tellB_ok hyb hfd)) 0 rfl rfl rfl ⟨rfl, rfl⟩ rfl rfl gX4_year_X0_fadeADay rfl 7 rfl ⟨rfl, (by decide +kernel), (by decide +kernel), (by decide +kernel)⟩ rfl dX4_year_130 (Nat.le_of_ble_eq_true rfl) rfl ⟨Nat.le_of_ble_eq_true rfl, Nat.le_of_ble_eq_true rfl⟩ (fun r wa wb hp => ?_)
                    obtain ⟨⟨rfl, rfl⟩, rfl⟩ := hp
                    show V x G _ _ _ _ _ _ [_, _, _, _, _, _, _, _, _]
                    refine k_iincN Ox (k := 6) (m := 1) [(6, _), (5, _), (4, _), (0, _), (1, _), (2, _), (3, _)] dX4_year_133 rfl rfl (by decide) rfl ?_
                    refine k_goto Ox 61 dX4_year_136 rfl ?_
                    refine k_sub [3, 4, 5, 6, 2, 1, 0] [(0, _), (1, _), (2, _), (3, _), (4, _), (5, _), (6, _)] rfl ?_
                    first | rw [yB_d c_123] | rw [yB_n c_123]
                    first | rw [yN_t c_112] | rw [yN_f c_112]
                    exact ih (k + 1) (by omega) (by omega)
          refine k_sub [3, 4, 5, 6, 2, 1, 0] [(0, _), (1, _), (2, _), (3, _), (4, _), (5, _), (6, _)] rfl ?_
          exact L61 (m + 1) 0 (by omega) (by omega)
        · refine k_bipush Ox (v := -2) dX4_year_35 (by decide) ?_
          refine k_iret0 Ox Rt dX4_year_37 (Nat.le_of_ble_eq_true rfl) (Nat.le_of_ble_eq_true rfl) rfl ?_
          exact ⟨⟨by first | rw [yrR, pick_t hpa, pick_f (and_f1 c_22)] | rw [yrR, pick_t hpa, pick_f (and_f2 c_32)], _, rfl⟩, rfl⟩
    · have hpa : isPA x3 = false := by rw [isPA, decide_eq_false c_2, c_9]; rfl
      refine k_iconst Ox (v := -1) dX4_year_12 (by decide) ?_
      refine k_iret0 Ox Rt dX4_year_13 (Nat.le_of_ble_eq_true rfl) (Nat.le_of_ble_eq_true rfl) rfl ?_
      exact ⟨⟨by rw [yrR, pick_f hpa], _, rfl⟩, rfl⟩
theorem lk_X5_toAll_f79 : Cond.fieldLink RX5 79 "LieBridgesModel" "parts" "I" ∈ wsX5_toAll := List.mem_of_getElem? (i := 1) rfl
theorem hin_X5_toAll_X5 : ∀ w ∈ u_ws RX5 TX5 22, w ∈ wsX5_toAll := fun _ h => List.mem_cons_of_mem _ (List.mem_append_right _ h)
set_option maxHeartbeats 400000 in
set_option maxRecDepth 4000 in
theorem c_X5_toAll (G : Gx) (m a1 a2 a3 a4 a5 a6 a7 a8 a9 a10 a11 a12 a13 : Nat) (fd sg mn : Nat) (w1 w2 w3 w4 w5 w6 : Int32) (O T K : Nat → Nat) (B : Nat → Nat → Nat) (a p : Nat) (dn : Bool) (hO : okP O) (hT : okM T) (hK : okM K) (hN : noSelf T) (hB : okB B) (hfd : fd < 10) (ha : a < 6) (hp : p < 6) : Ct G yX5_toAll wsX5_toAll { frames := 2, cells := 0, slots := 0, locals := 45 } [.ref m, .int (nI a), .int (nI p), .int (bI dn)] [(m, cO 5 [.ref a1, .ref a2, .ref a3, .ref a4, .ref a5, .ref a6, .ref a7, .int (nI fd), .int (nI sg), .ref a8, .int (nI mn), .ref a9, .ref a10, .int w1, .int w2, .ref a11, .int w3, .int w4, .int w5, .int w6, .ref a12, .ref a13]), (a3, cI G 6 (rN O)), (a4, cI G 6 (rN T)), (a5, cI G 6 (rN K)), (a10, cI G 36 (rN (flM B)))] (fun r wa => r = none ∧ ∃ w9 : Int32, wa = [(m, cO 5 [.ref a1, .ref a2, .ref a3, .ref a4, .ref a5, .ref a6, .ref a7, .int (nI fd), .int (nI sg), .ref a8, .int (nI mn), .ref a9, .ref a10, .int w9, .int w2, .ref a11, .int w3, .int w4, .int w5, .int w6, .ref a12, .ref a13]), (a3, cI G 6 (rN O)), (a4, cI G 6 (rN T)), (a5, cI G 6 (rN K)), (a10, cI G 36 (rN (flM (toA O T K fd B a p dn 6))))]) := by
  refine CtN.of [(0, .ref m), (1, .int (nI a)), (2, .int (nI p)), (3, .int (bI dn))] (by decide +kernel) rfl rfl rfl rfl ?_
  intro x Ox Rt
  refine k_iconst Ox (v := nI 0) dX5_toAll_0 rfl ?_
  refine k_istore Ox [(4, _), (0, _), (1, _), (2, _), (3, _)] dX5_toAll_1 (by decide) rfl ?_
  have L3 : ∀ (fuel : Nat) (i : Nat) (w : Int32), i ≤ 6 → 7 ≤ i + fuel → V x G 6 0 0 3 [(0, .ref m), (1, .int (nI a)), (2, .int (nI p)), (3, .int (bI dn)), (4, .int (nI i))] [] [(m, cO 5 [.ref a1, .ref a2, .ref a3, .ref a4, .ref a5, .ref a6, .ref a7, .int (nI fd), .int (nI sg), .ref a8, .int (nI mn), .ref a9, .ref a10, .int w, .int w2, .ref a11, .int w3, .int w4, .int w5, .int w6, .ref a12, .ref a13]), (a3, cI G 6 (rN O)), (a4, cI G 6 (rN T)), (a5, cI G 6 (rN K)), (a10, cI G 36 (rN (flM (toA O T K fd B a p dn i))))] := by
    intro fuel
    induction fuel with
    | zero => intro i w hi hfuel; exact absurd hi (by omega)
    | succ fuel ih =>
      intro i w hi hfuel
      refine k_iload Ox dX5_toAll_3 4 rfl ?_
      refine k_bipush Ox (v := nI 6) dX5_toAll_5 rfl ?_
      refine k_icmp_geN Ox 59 dX5_toAll_7 rfl (by omega) (by omega) (fun c_7 => ?_) (fun c_7 => ?_)
      · obtain rfl : i = 6 := by omega
        refine k_vret0 Ox Rt dX5_toAll_59 (Nat.le_of_ble_eq_true rfl) (Nat.le_of_ble_eq_true rfl) rfl ?_
        exact ⟨⟨rfl, _, rfl⟩, rfl⟩
      · have hok := toA_ok (O := O) (T := T) (K := K) (a := a) (dn := dn) hB hfd hp i (by omega)
        refine k_iload_n Ox dX5_toAll_10 rfl 3 rfl ?_
        refine k_if_eqB Ox 25 dX5_toAll_11 rfl (fun c_11 => ?_) (fun c_11 => ?_)
        · refine k_aload_n Ox dX5_toAll_25 rfl 0 rfl ?_
          refine k_iload_n Ox dX5_toAll_26 rfl 1 rfl ?_
          refine k_iload Ox dX5_toAll_27 4 rfl ?_
          refine k_iload_n Ox dX5_toAll_29 rfl 2 rfl ?_
          refine k_callV Ox [0, 1, 2, 3, 4] (c_X5_tells G _ _ _ _ _ _ _ _ _ _ _ _ _ _ _ _ _ _ _ _ _ _ _ _ _ _ _ _ _ _ (hO) (hT) (hK) (hN) (hok) (ha) (by omega) (hp)) 3 rfl rfl rfl ⟨rfl, rfl⟩ rfl rfl gX5_toAll_X5_tells rfl 0 rfl ⟨rfl, (by decide +kernel), (by decide +kernel), (by decide +kernel)⟩ rfl dX5_toAll_30 (Nat.le_of_ble_eq_true rfl) rfl ⟨Nat.le_of_ble_eq_true rfl, Nat.le_of_ble_eq_true rfl⟩ (fun r wa wb hp => ?_)
          obtain ⟨⟨rfl, rfl⟩, rfl⟩ := hp
          show V x G _ _ _ _ _ (.int _ :: _) [_, _, _, _, _]
          refine k_istore Ox [(5, _), (0, _), (1, _), (2, _), (3, _), (4, _)] dX5_toAll_33 (by decide) rfl ?_
          refine k_aload_n Ox dX5_toAll_35 rfl 1 rfl ?_
          refine k_iload Ox dX5_toAll_36 0 rfl ?_
          refine k_if_eqB Ox 46 dX5_toAll_38 rfl (fun c_38 => ?_) (fun c_38 => ?_)
          · refine k_aload_n Ox dX5_toAll_46 rfl 1 rfl ?_
            refine k_get Ox 0 rfl rfl hin_X5_toAll_X5 13 rfl lk_X5_toAll_f79 rfl rfl dX5_toAll_47 ?_
            refine k_put Ox 0 rfl rfl hin_X5_toAll_X5 13 rfl lk_X5_toAll_f79 rfl tyX5 tyX5_ok nmX5 rfl  rfl rfl rfl [_, _, _, _, _, _, _, _, _, _, _, _, _, _, _, _, _, _, _, _, _, _] rfl [_, _, _, _, _] rfl dX5_toAll_50 ?_
            refine k_iincN Ox (k := 5) (m := 1) [(4, _), (5, _), (0, _), (1, _), (2, _), (3, _)] dX5_toAll_53 rfl rfl (by decide) rfl ?_
            refine k_goto Ox 3 dX5_toAll_56 rfl ?_
            refine k_sub [2, 3, 4, 5, 0] [(0, _), (1, _), (2, _), (3, _), (4, _)] rfl ?_
            first | rw [toA_t c_11] | rw [toA_f c_11]
            exact ih (i + 1) _ (by omega) (by omega)
          · refine k_iload Ox dX5_toAll_41 5 rfl ?_
            refine k_goto Ox 50 dX5_toAll_43 rfl ?_
            refine k_put Ox 0 rfl rfl hin_X5_toAll_X5 13 rfl lk_X5_toAll_f79 rfl tyX5 tyX5_ok nmX5 rfl  rfl rfl rfl [_, _, _, _, _, _, _, _, _, _, _, _, _, _, _, _, _, _, _, _, _, _] rfl [_, _, _, _, _] rfl dX5_toAll_50 ?_
            refine k_iincN Ox (k := 5) (m := 1) [(4, _), (5, _), (0, _), (1, _), (2, _), (3, _)] dX5_toAll_53 rfl rfl (by decide) rfl ?_
            refine k_goto Ox 3 dX5_toAll_56 rfl ?_
            refine k_sub [2, 3, 4, 5, 0] [(0, _), (1, _), (2, _), (3, _), (4, _)] rfl ?_
            first | rw [toA_t c_11] | rw [toA_f c_11]
            exact ih (i + 1) _ (by omega) (by omega)
        · refine k_aload_n Ox dX5_toAll_14 rfl 0 rfl ?_
          refine k_iload_n Ox dX5_toAll_15 rfl 1 rfl ?_
          refine k_iload Ox dX5_toAll_16 4 rfl ?_
          refine k_iload_n Ox dX5_toAll_18 rfl 2 rfl ?_
          refine k_callV Ox [0, 2, 4] (c_X5_denies G _ _ _ _ _ _ _ _ _ _ _ _ _ _ _ _ _ _ _ _ _ _ _ _ _ _ _ _ (hT) (hN) (hok) (ha) (by omega) (hp)) 3 rfl rfl rfl ⟨rfl, rfl⟩ rfl rfl gX5_toAll_X5_denies rfl 0 rfl ⟨rfl, (by decide +kernel), (by decide +kernel), (by decide +kernel)⟩ rfl dX5_toAll_19 (Nat.le_of_ble_eq_true rfl) rfl ⟨Nat.le_of_ble_eq_true rfl, Nat.le_of_ble_eq_true rfl⟩ (fun r wa wb hp => ?_)
          obtain ⟨⟨rfl, rfl⟩, rfl⟩ := hp
          show V x G _ _ _ _ _ (.int _ :: _) [_, _, _, _, _]
          refine k_goto Ox 33 dX5_toAll_22 rfl ?_
          refine k_istore Ox [(5, _), (0, _), (1, _), (2, _), (3, _), (4, _)] dX5_toAll_33 (by decide) rfl ?_
          refine k_aload_n Ox dX5_toAll_35 rfl 1 rfl ?_
          refine k_iload Ox dX5_toAll_36 0 rfl ?_
          refine k_if_eqB Ox 46 dX5_toAll_38 rfl (fun c_38 => ?_) (fun c_38 => ?_)
          · refine k_aload_n Ox dX5_toAll_46 rfl 1 rfl ?_
            refine k_get Ox 0 rfl rfl hin_X5_toAll_X5 13 rfl lk_X5_toAll_f79 rfl rfl dX5_toAll_47 ?_
            refine k_put Ox 0 rfl rfl hin_X5_toAll_X5 13 rfl lk_X5_toAll_f79 rfl tyX5 tyX5_ok nmX5 rfl  rfl rfl rfl [_, _, _, _, _, _, _, _, _, _, _, _, _, _, _, _, _, _, _, _, _, _] rfl [_, _, _, _, _] rfl dX5_toAll_50 ?_
            refine k_iincN Ox (k := 5) (m := 1) [(4, _), (5, _), (0, _), (1, _), (2, _), (3, _)] dX5_toAll_53 rfl rfl (by decide) rfl ?_
            refine k_goto Ox 3 dX5_toAll_56 rfl ?_
            refine k_sub [2, 3, 4, 5, 0] [(0, _), (1, _), (2, _), (3, _), (4, _)] rfl ?_
            first | rw [toA_t c_11] | rw [toA_f c_11]
            exact ih (i + 1) _ (by omega) (by omega)
          · refine k_iload Ox dX5_toAll_41 5 rfl ?_
            refine k_goto Ox 50 dX5_toAll_43 rfl ?_
            refine k_put Ox 0 rfl rfl hin_X5_toAll_X5 13 rfl lk_X5_toAll_f79 rfl tyX5 tyX5_ok nmX5 rfl  rfl rfl rfl [_, _, _, _, _, _, _, _, _, _, _, _, _, _, _, _, _, _, _, _, _, _] rfl [_, _, _, _, _] rfl dX5_toAll_50 ?_
            refine k_iincN Ox (k := 5) (m := 1) [(4, _), (5, _), (0, _), (1, _), (2, _), (3, _)] dX5_toAll_53 rfl rfl (by decide) rfl ?_
            refine k_goto Ox 3 dX5_toAll_56 rfl ?_
            refine k_sub [2, 3, 4, 5, 0] [(0, _), (1, _), (2, _), (3, _), (4, _)] rfl ?_
            first | rw [toA_t c_11] | rw [toA_f c_11]
            exact ih (i + 1) _ (by omega) (by omega)
  refine k_sub [1, 2, 3, 4, 0] [(0, _), (1, _), (2, _), (3, _), (4, _)] rfl ?_
  have h0 := L3 7 0 w1 (by omega) (by omega)
  rw [toA_0] at h0
  exact h0
set_option maxHeartbeats 1000000 in
set_option maxRecDepth 4000 in
theorem c_X5_word (G : Gx) (m a1 a2 a3 a4 a5 a6 a7 a8 a9 a10 a11 a12 a13 : Nat) (fd sg mn : Nat) (w1 w2 w3 w4 w5 w6 : Int32) (T : Nat → Nat) (B : Nat → Nat → Nat) (g : Nat → Int32) (x1 : Int32) (hT : okM T) (hN : noSelf T) (hB : okB B) : Ct G yX5_word wsX5_word { frames := 2, cells := 0, slots := 0, locals := 45 } [.ref m, .int x1] [(m, cO 5 [.ref a1, .ref a2, .ref a3, .ref a4, .ref a5, .ref a6, .ref a7, .int (nI fd), .int (nI sg), .ref a8, .int (nI mn), .ref a9, .ref a10, .int w1, .int w2, .ref a11, .int w3, .int w4, .int w5, .int w6, .ref a12, .ref a13]), (a4, cI G 6 (rN T)), (a6, cI G 36 (rN (flM B))), (a10, cI G 36 g)] (fun r wa => r = some (.int (wdR T B x1)) ∧ ∃ g9 : Nat → Int32, wa = [(m, cO 5 [.ref a1, .ref a2, .ref a3, .ref a4, .ref a5, .ref a6, .ref a7, .int (nI fd), .int (nI sg), .ref a8, .int (nI mn), .ref a9, .ref a10, .int w1, .int w2, .ref a11, .int w3, .int w4, .int w5, .int w6, .ref a12, .ref a13]), (a4, cI G 6 (rN T)), (a6, cI G 36 (rN (flM B))), (a10, cI G 36 g9)]) := by
  refine CtN.of [(0, .ref m), (1, .int x1)] (by decide +kernel) rfl rfl rfl rfl ?_
  intro x Ox Rt
  refine k_iload_n Ox dX5_word_0 rfl 1 rfl ?_
  refine k_iconst Ox (v := nI 0) dX5_word_1 rfl ?_
  refine k_iconst Ox (v := nI 1) dX5_word_2 rfl ?_
  refine k_callS Ox [] (c_X5_in G _ _ _ ) 3 rfl rfl rfl ⟨rfl, rfl⟩ rfl rfl gX5_word_X5_in ⟨(by decide +kernel), (by decide +kernel), (by decide +kernel)⟩ rfl dX5_word_3 (Nat.le_of_ble_eq_true rfl) rfl ⟨Nat.le_of_ble_eq_true rfl, Nat.le_of_ble_eq_true rfl⟩ (fun r wa wb hp => ?_)
  obtain ⟨⟨rfl, rfl⟩, rfl⟩ := hp
  show V x G _ _ _ _ _ (.int _ :: _) [_, _, _, _]
  change V x G _ _ _ _ _ (.int (bI (inR (0) (1) _)) :: _) _
  refine k_if_neB Ox 12 dX5_word_6 rfl (fun c_6 => ?_) (fun c_6 => ?_)
  · refine k_iconst Ox (v := nI 0) dX5_word_12 rfl ?_
    refine k_istore_n Ox [(2, _), (0, _), (1, _)] dX5_word_13 rfl (by decide) rfl ?_
    refine k_bipush Ox (v := -6) dX5_word_14 (by decide) ?_
    refine k_istore_n Ox [(3, _), (2, _), (0, _), (1, _)] dX5_word_16 rfl (by decide) rfl ?_
    refine k_iconst Ox (v := nI 0) dX5_word_17 rfl ?_
    refine k_istore Ox [(4, _), (3, _), (2, _), (0, _), (1, _)] dX5_word_18 (by decide) rfl ?_
    have L20 : ∀ (fuel : Nat) (a f : Nat) (mo : Int32) (g : Nat → Int32), a ≤ 6 → 7 ≤ a + fuel → wdM T B (a * 6) f mo → V x G 8 0 0 20 [(0, .ref m), (1, .int x1), (2, .int (nI f)), (3, .int mo), (4, .int (nI a))] [] [(m, cO 5 [.ref a1, .ref a2, .ref a3, .ref a4, .ref a5, .ref a6, .ref a7, .int (nI fd), .int (nI sg), .ref a8, .int (nI mn), .ref a9, .ref a10, .int w1, .int w2, .ref a11, .int w3, .int w4, .int w5, .int w6, .ref a12, .ref a13]), (a4, cI G 6 (rN T)), (a6, cI G 36 (rN (flM B))), (a10, cI G 36 g)] := by
      intro fuel
      induction fuel with
      | zero => intro a f mo g ha hfuel hfm; exact absurd ha (by omega)
      | succ fuel ih =>
        intro a f mo g ha hfuel hfm
        refine k_iload Ox dX5_word_20 4 rfl ?_
        refine k_bipush Ox (v := nI 6) dX5_word_22 rfl ?_
        refine k_icmp_geN Ox 127 dX5_word_24 rfl (by omega) (by omega) (fun c_24 => ?_) (fun c_24 => ?_)
        · obtain rfl : a = 6 := by omega
          refine k_iload_n Ox dX5_word_127 rfl 1 rfl ?_
          refine k_if_ne Ox 135 dX5_word_128 rfl (fun c_128 => ?_) (fun c_128 => ?_)
          · refine k_iload_n Ox dX5_word_135 rfl 3 rfl ?_
            refine k_iret0 Ox Rt dX5_word_136 (Nat.le_of_ble_eq_true rfl) (Nat.le_of_ble_eq_true rfl) rfl ?_
            have hw := wdM_end hfm
            exact ⟨⟨by rw [wdR, pick_t (ch01t c_6)]; first | rw [if_pos c_128, hw.1] | rw [if_neg c_128, hw.2], _, rfl⟩, rfl⟩
          · refine k_iload_n Ox dX5_word_131 rfl 2 rfl ?_
            refine k_goto Ox 136 dX5_word_132 rfl ?_
            refine k_iret0 Ox Rt dX5_word_136 (Nat.le_of_ble_eq_true rfl) (Nat.le_of_ble_eq_true rfl) rfl ?_
            have hw := wdM_end hfm
            exact ⟨⟨by rw [wdR, pick_t (ch01t c_6)]; first | rw [if_pos c_128, hw.1] | rw [if_neg c_128, hw.2], _, rfl⟩, rfl⟩
        · refine k_iconst Ox (v := nI 0) dX5_word_27 rfl ?_
          refine k_istore Ox [(5, _), (0, _), (1, _), (2, _), (3, _), (4, _)] dX5_word_28 (by decide) rfl ?_
          have L30 : ∀ (fuel : Nat) (p f : Nat) (mo : Int32) (g : Nat → Int32), p ≤ 6 → 7 ≤ p + fuel → wdM T B (a * 6 + p) f mo → V x G 8 0 0 30 [(0, .ref m), (1, .int x1), (2, .int (nI f)), (3, .int mo), (4, .int (nI a)), (5, .int (nI p))] [] [(m, cO 5 [.ref a1, .ref a2, .ref a3, .ref a4, .ref a5, .ref a6, .ref a7, .int (nI fd), .int (nI sg), .ref a8, .int (nI mn), .ref a9, .ref a10, .int w1, .int w2, .ref a11, .int w3, .int w4, .int w5, .int w6, .ref a12, .ref a13]), (a4, cI G 6 (rN T)), (a6, cI G 36 (rN (flM B))), (a10, cI G 36 g)] := by
            intro fuel
            induction fuel with
            | zero => intro p f mo g hp hfuel hfm2; exact absurd hp (by omega)
            | succ fuel ih2 =>
              intro p f mo g hp hfuel hfm2
              refine k_iload Ox dX5_word_30 5 rfl ?_
              refine k_bipush Ox (v := nI 6) dX5_word_32 rfl ?_
              refine k_icmp_geN Ox 121 dX5_word_34 rfl (by omega) (by omega) (fun c_34 => ?_) (fun c_34 => ?_)
              · obtain rfl : p = 6 := by omega
                refine k_iincN Ox (k := 4) (m := 1) [(4, _), (0, _), (1, _), (2, _), (3, _), (5, _)] dX5_word_121 rfl rfl (by decide) rfl ?_
                refine k_goto Ox 20 dX5_word_124 rfl ?_
                refine k_sub [1, 2, 3, 4, 0] [(0, _), (1, _), (2, _), (3, _), (4, _)] rfl ?_
                exact ih (a + 1) _ _ _ (by omega) (by omega) (by rw [show (a + 1) * 6 = a * 6 + 6 by omega]; exact hfm2)
              · refine k_aload_n Ox dX5_word_37 rfl 0 rfl ?_
                refine k_callV Ox [0, 2, 3] (c_X5_asNow G _ _ _ _ _ _ _ _ _ _ _ _ _ _ _ _ _ _ _ _ _ _ _ _ _ ) 0 rfl rfl rfl ⟨rfl, rfl⟩ rfl rfl gX5_word_X5_asNow rfl 0 rfl ⟨rfl, (by decide +kernel), (by decide +kernel), (by decide +kernel)⟩ rfl dX5_word_38 (Nat.le_of_ble_eq_true rfl) rfl ⟨Nat.le_of_ble_eq_true rfl, Nat.le_of_ble_eq_true rfl⟩ (fun r wa wb hp => ?_)
                obtain ⟨⟨rfl, rfl⟩, rfl⟩ := hp
                show V x G _ _ _ _ _ _ [_, _, _, _]
                refine k_iconst Ox (v := nI 0) dX5_word_41 rfl ?_
                refine k_istore Ox [(6, _), (0, _), (1, _), (2, _), (3, _), (4, _), (5, _)] dX5_word_42 (by decide) rfl ?_
                refine k_iconst Ox (v := nI 0) dX5_word_44 rfl ?_
                refine k_istore Ox [(7, _), (6, _), (0, _), (1, _), (2, _), (3, _), (4, _), (5, _)] dX5_word_45 (by decide) rfl ?_
                have L47 : ∀ (fuel : Nat) (b n : Nat), b ≤ 6 → 7 ≤ b + fuel → n = dCnt T B a p b → V x G 8 0 0 47 [(0, .ref m), (1, .int x1), (2, .int (nI f)), (3, .int mo), (4, .int (nI a)), (5, .int (nI p)), (6, .int (nI n)), (7, .int (nI b))] [] [(m, cO 5 [.ref a1, .ref a2, .ref a3, .ref a4, .ref a5, .ref a6, .ref a7, .int (nI fd), .int (nI sg), .ref a8, .int (nI mn), .ref a9, .ref a10, .int w1, .int w2, .ref a11, .int w3, .int w4, .int w5, .int w6, .ref a12, .ref a13]), (a4, cI G 6 (rN T)), (a6, cI G 36 (rN (flM B))), (a10, cI G 36 (rN (flM (dAll T B a p b))))] := by
                  intro fuel
                  induction fuel with
                  | zero => intro b n hb hfuel hn; exact absurd hb (by omega)
                  | succ fuel ih3 =>
                    intro b n hb hfuel hn
                    refine k_iload Ox dX5_word_47 7 rfl ?_
                    refine k_bipush Ox (v := nI 6) dX5_word_49 rfl ?_
                    refine k_icmp_geN Ox 83 dX5_word_51 rfl (by omega) (by omega) (fun c_51 => ?_) (fun c_51 => ?_)
                    · obtain rfl : b = 6 := by omega
                      subst hn
                      refine k_iload Ox dX5_word_83 6 rfl ?_
                      refine k_iload_n Ox dX5_word_85 rfl 3 rfl ?_
                      refine k_icmp_le Ox 100 dX5_word_86 rfl (fun c_86 => ?_) (fun c_86 => ?_)
                      · refine k_iload_n Ox dX5_word_100 rfl 2 rfl ?_
                        refine k_istore_n Ox [(2, _), (0, _), (1, _), (3, _), (4, _), (5, _), (6, _), (7, _)] dX5_word_101 rfl (by decide) rfl ?_
                        refine k_iload Ox dX5_word_102 6 rfl ?_
                        refine k_iload_n Ox dX5_word_104 rfl 3 rfl ?_
                        refine k_icmp_le Ox 113 dX5_word_105 rfl (fun c_105 => ?_) (fun c_105 => ?_)
                        · refine k_iload_n Ox dX5_word_113 rfl 3 rfl ?_
                          refine k_istore_n Ox [(3, _), (2, _), (0, _), (1, _), (4, _), (5, _), (6, _), (7, _)] dX5_word_114 rfl (by decide) rfl ?_
                          refine k_iincN Ox (k := 5) (m := 1) [(5, _), (3, _), (2, _), (0, _), (1, _), (4, _), (6, _), (7, _)] dX5_word_115 rfl rfl (by decide) rfl ?_
                          refine k_goto Ox 30 dX5_word_118 rfl ?_
                          refine k_sub [3, 4, 2, 1, 5, 0] [(0, _), (1, _), (2, _), (3, _), (4, _), (5, _)] rfl ?_
                          first | (exfalso; omega) | exact ih2 (p + 1) _ _ _ (by omega) (by omega) (wdM_step hfm2 (by omega) (by first | exact Or.inl ⟨c_86, rfl, rfl⟩ | exact Or.inr ⟨c_86, rfl, rfl⟩))
                        · refine k_iload Ox dX5_word_108 6 rfl ?_
                          refine k_goto Ox 114 dX5_word_110 rfl ?_
                          refine k_istore_n Ox [(3, _), (2, _), (0, _), (1, _), (4, _), (5, _), (6, _), (7, _)] dX5_word_114 rfl (by decide) rfl ?_
                          refine k_iincN Ox (k := 5) (m := 1) [(5, _), (3, _), (2, _), (0, _), (1, _), (4, _), (6, _), (7, _)] dX5_word_115 rfl rfl (by decide) rfl ?_
                          refine k_goto Ox 30 dX5_word_118 rfl ?_
                          refine k_sub [3, 4, 2, 1, 5, 0] [(0, _), (1, _), (2, _), (3, _), (4, _), (5, _)] rfl ?_
                          first | (exfalso; omega) | exact ih2 (p + 1) _ _ _ (by omega) (by omega) (wdM_step hfm2 (by omega) (by first | exact Or.inl ⟨c_86, rfl, rfl⟩ | exact Or.inr ⟨c_86, rfl, rfl⟩))
                      · refine k_bipush Ox (v := nI 10) dX5_word_89 rfl ?_
                        refine k_iload Ox dX5_word_91 4 rfl ?_
                        refine k_imulN Ox dX5_word_93 ?_
                        refine k_iload Ox dX5_word_94 5 rfl ?_
                        refine k_iaddN Ox dX5_word_96 ?_
                        refine k_goto Ox 101 dX5_word_97 rfl ?_
                        refine k_istore_n Ox [(2, _), (0, _), (1, _), (3, _), (4, _), (5, _), (6, _), (7, _)] dX5_word_101 rfl (by decide) rfl ?_
                        refine k_iload Ox dX5_word_102 6 rfl ?_
                        refine k_iload_n Ox dX5_word_104 rfl 3 rfl ?_
                        refine k_icmp_le Ox 113 dX5_word_105 rfl (fun c_105 => ?_) (fun c_105 => ?_)
                        · refine k_iload_n Ox dX5_word_113 rfl 3 rfl ?_
                          refine k_istore_n Ox [(3, _), (2, _), (0, _), (1, _), (4, _), (5, _), (6, _), (7, _)] dX5_word_114 rfl (by decide) rfl ?_
                          refine k_iincN Ox (k := 5) (m := 1) [(5, _), (3, _), (2, _), (0, _), (1, _), (4, _), (6, _), (7, _)] dX5_word_115 rfl rfl (by decide) rfl ?_
                          refine k_goto Ox 30 dX5_word_118 rfl ?_
                          refine k_sub [3, 4, 2, 1, 5, 0] [(0, _), (1, _), (2, _), (3, _), (4, _), (5, _)] rfl ?_
                          first | (exfalso; omega) | exact ih2 (p + 1) _ _ _ (by omega) (by omega) (wdM_step hfm2 (by omega) (by first | exact Or.inl ⟨c_86, rfl, rfl⟩ | exact Or.inr ⟨c_86, rfl, rfl⟩))
                        · refine k_iload Ox dX5_word_108 6 rfl ?_
                          refine k_goto Ox 114 dX5_word_110 rfl ?_
                          refine k_istore_n Ox [(3, _), (2, _), (0, _), (1, _), (4, _), (5, _), (6, _), (7, _)] dX5_word_114 rfl (by decide) rfl ?_
                          refine k_iincN Ox (k := 5) (m := 1) [(5, _), (3, _), (2, _), (0, _), (1, _), (4, _), (6, _), (7, _)] dX5_word_115 rfl rfl (by decide) rfl ?_
                          refine k_goto Ox 30 dX5_word_118 rfl ?_
                          refine k_sub [3, 4, 2, 1, 5, 0] [(0, _), (1, _), (2, _), (3, _), (4, _), (5, _)] rfl ?_
                          first | (exfalso; omega) | exact ih2 (p + 1) _ _ _ (by omega) (by omega) (wdM_step hfm2 (by omega) (by first | exact Or.inl ⟨c_86, rfl, rfl⟩ | exact Or.inr ⟨c_86, rfl, rfl⟩))
                    · refine k_iload Ox dX5_word_54 6 rfl ?_
                      refine k_aload_n Ox dX5_word_56 rfl 0 rfl ?_
                      refine k_iload Ox dX5_word_57 4 rfl ?_
                      refine k_iload Ox dX5_word_59 7 rfl ?_
                      refine k_iload Ox dX5_word_61 5 rfl ?_
                      refine k_callV Ox [0, 1, 3] (c_X5_denies G _ _ _ _ _ _ _ _ _ _ _ _ _ _ _ _ _ _ _ _ _ _ _ _ _ _ _ _ (hT) (hN) (dAll_ok hB b) (by omega) (by omega) (by omega)) 3 rfl rfl rfl ⟨rfl, rfl⟩ rfl rfl gX5_word_X5_denies rfl 0 rfl ⟨rfl, (by decide +kernel), (by decide +kernel), (by decide +kernel)⟩ rfl dX5_word_63 (Nat.le_of_ble_eq_true rfl) rfl ⟨Nat.le_of_ble_eq_true rfl, Nat.le_of_ble_eq_true rfl⟩ (fun r wa wb hp => ?_)
                      obtain ⟨⟨rfl, rfl⟩, rfl⟩ := hp
                      show V x G _ _ _ _ _ (.int _ :: _) [_, _, _, _]
                      refine k_if_eqB Ox 73 dX5_word_66 rfl (fun c_66 => ?_) (fun c_66 => ?_)
                      · refine k_iconst Ox (v := nI 0) dX5_word_73 rfl ?_
                        refine k_iaddN Ox dX5_word_74 ?_
                        refine k_istore Ox [(6, _), (0, _), (1, _), (2, _), (3, _), (4, _), (5, _), (7, _)] dX5_word_75 (by decide) rfl ?_
                        refine k_iincN Ox (k := 7) (m := 1) [(7, _), (6, _), (0, _), (1, _), (2, _), (3, _), (4, _), (5, _)] dX5_word_77 rfl rfl (by decide) rfl ?_
                        refine k_goto Ox 47 dX5_word_80 rfl ?_
                        refine k_sub [2, 3, 4, 5, 6, 7, 1, 0] [(0, _), (1, _), (2, _), (3, _), (4, _), (5, _), (6, _), (7, _)] rfl ?_
                        exact ih3 (b + 1) _ (by omega) (by omega) (by rw [hn]; simp only [dCnt, c_66]; rfl)
                      · refine k_iconst Ox (v := nI 1) dX5_word_69 rfl ?_
                        refine k_goto Ox 74 dX5_word_70 rfl ?_
                        refine k_iaddN Ox dX5_word_74 ?_
                        refine k_istore Ox [(6, _), (0, _), (1, _), (2, _), (3, _), (4, _), (5, _), (7, _)] dX5_word_75 (by decide) rfl ?_
                        refine k_iincN Ox (k := 7) (m := 1) [(7, _), (6, _), (0, _), (1, _), (2, _), (3, _), (4, _), (5, _)] dX5_word_77 rfl rfl (by decide) rfl ?_
                        refine k_goto Ox 47 dX5_word_80 rfl ?_
                        refine k_sub [2, 3, 4, 5, 6, 7, 1, 0] [(0, _), (1, _), (2, _), (3, _), (4, _), (5, _), (6, _), (7, _)] rfl ?_
                        exact ih3 (b + 1) _ (by omega) (by omega) (by rw [hn]; simp only [dCnt, c_66]; rfl)
                refine k_sub [2, 3, 4, 5, 6, 7, 1, 0] [(0, _), (1, _), (2, _), (3, _), (4, _), (5, _), (6, _), (7, _)] rfl ?_
                exact L47 7 0 0 (by omega) (by omega) rfl
          refine k_sub [1, 2, 3, 4, 5, 0] [(0, _), (1, _), (2, _), (3, _), (4, _), (5, _)] rfl ?_
          exact L30 7 0 _ _ _ (by omega) (by omega) hfm
    refine k_sub [3, 4, 2, 1, 0] [(0, _), (1, _), (2, _), (3, _), (4, _)] rfl ?_
    exact L20 7 0 0 (-6) g (by omega) (by omega) (Or.inl ⟨rfl, rfl, rfl⟩)
  · refine k_bipush Ox (v := -2) dX5_word_9 (by decide) ?_
    refine k_iret0 Ox Rt dX5_word_11 (Nat.le_of_ble_eq_true rfl) (Nat.le_of_ble_eq_true rfl) rfl ?_
    exact ⟨⟨by rw [wdR, pick_f (ch01 c_6)], _, rfl⟩, rfl⟩
theorem lk_X5_rumour_f16 : Cond.fieldLink RX5 16 "LieBridgesModel" "owner" "[I" ∈ wsX5_rumour := List.mem_of_getElem? (i := 1) rfl
theorem hin_X5_rumour_X5 : ∀ w ∈ u_ws RX5 TX5 22, w ∈ wsX5_rumour := fun _ h => List.mem_cons_of_mem _ (List.mem_append_right _ h)
theorem lk_X5_rumour_f79 : Cond.fieldLink RX5 79 "LieBridgesModel" "parts" "I" ∈ wsX5_rumour := List.mem_of_getElem? (i := 3) rfl
theorem lk_X5_rumour_f41 : Cond.fieldLink RX5 41 "LieBridgesModel" "now" "[I" ∈ wsX5_rumour := List.mem_of_getElem? (i := 2) rfl
set_option maxHeartbeats 2000000 in
set_option maxRecDepth 4000 in
theorem c_X5_rumour (G : Gx) (m a1 a2 a3 a4 a5 a6 a7 a8 a9 a10 a11 a12 a13 : Nat) (fd sg mn : Nat) (w1 w2 w3 w4 w5 w6 : Int32) (O T K : Nat → Nat) (B : Nat → Nat → Nat) (g : Nat → Int32) (x1 x2 : Int32) (hO : okP O) (hT : okM T) (hK : okM K) (hN : noSelf T) (hB : okB B) (hfd : fd < 10) : Ct G yX5_rumour wsX5_rumour { frames := 2, cells := 0, slots := 0, locals := 45 } [.ref m, .int x1, .int x2] [(m, cO 5 [.ref a1, .ref a2, .ref a3, .ref a4, .ref a5, .ref a6, .ref a7, .int (nI fd), .int (nI sg), .ref a8, .int (nI mn), .ref a9, .ref a10, .int w1, .int w2, .ref a11, .int w3, .int w4, .int w5, .int w6, .ref a12, .ref a13]), (a3, cI G 6 (rN O)), (a4, cI G 6 (rN T)), (a5, cI G 6 (rN K)), (a6, cI G 36 (rN (flM B))), (a10, cI G 36 g)] (fun r wa => r = some (.int (ruR O T K fd B x1 x2)) ∧ ∃ g9 : Nat → Int32, ∃ w9 : Int32, wa = [(m, cO 5 [.ref a1, .ref a2, .ref a3, .ref a4, .ref a5, .ref a6, .ref a7, .int (nI fd), .int (nI sg), .ref a8, .int (nI mn), .ref a9, .ref a10, .int w9, .int w2, .ref a11, .int w3, .int w4, .int w5, .int w6, .ref a12, .ref a13]), (a3, cI G 6 (rN O)), (a4, cI G 6 (rN T)), (a5, cI G 6 (rN K)), (a6, cI G 36 (rN (flM B))), (a10, cI G 36 g9)]) := by
  refine CtN.of [(0, .ref m), (1, .int x1), (2, .int x2)] (by decide +kernel) rfl rfl rfl rfl ?_
  intro x Ox Rt
  refine k_iload_n Ox dX5_rumour_0 rfl 1 rfl ?_
  refine k_callS Ox [] (c_X5_is6 G _ ) 1 rfl rfl rfl ⟨rfl, rfl⟩ rfl rfl gX5_rumour_X5_is6 ⟨(by decide +kernel), (by decide +kernel), (by decide +kernel)⟩ rfl dX5_rumour_1 (Nat.le_of_ble_eq_true rfl) rfl ⟨Nat.le_of_ble_eq_true rfl, Nat.le_of_ble_eq_true rfl⟩ (fun r wa wb hp => ?_)
  obtain ⟨⟨rfl, rfl⟩, rfl⟩ := hp
  show V x G _ _ _ _ _ (.int _ :: _) [_, _, _, _, _, _]
  refine k_if_neB Ox 9 dX5_rumour_4 rfl (fun c_4 => ?_) (fun c_4 => ?_)
  · refine k_iload_n Ox dX5_rumour_9 rfl 2 rfl ?_
    refine k_iconst Ox (v := nI 1) dX5_rumour_10 rfl ?_
    refine k_bipush Ox (v := nI 6) dX5_rumour_11 rfl ?_
    refine k_callS Ox [] (c_X5_in G _ _ _ ) 3 rfl rfl rfl ⟨rfl, rfl⟩ rfl rfl gX5_rumour_X5_in ⟨(by decide +kernel), (by decide +kernel), (by decide +kernel)⟩ rfl dX5_rumour_13 (Nat.le_of_ble_eq_true rfl) rfl ⟨Nat.le_of_ble_eq_true rfl, Nat.le_of_ble_eq_true rfl⟩ (fun r wa wb hp => ?_)
    obtain ⟨⟨rfl, rfl⟩, rfl⟩ := hp
    show V x G _ _ _ _ _ (.int _ :: _) [_, _, _, _, _, _]
    change V x G _ _ _ _ _ (.int (bI (inR (1) (6) _)) :: _) _
    refine k_if_neB Ox 22 dX5_rumour_16 rfl (fun c_16 => ?_) (fun c_16 => ?_)
    · obtain ⟨j1, hj1, rfl⟩ := in6_of c_4
      obtain ⟨j2, hj0, hj2, rfl⟩ := inR_of' (lo := 1) (k := 6) rfl rfl (by decide) c_16
      have ho1 := hO j1 hj1
      refine k_aload_n Ox dX5_rumour_22 rfl 0 rfl ?_
      refine k_callV Ox [0, 4, 5] (c_X5_asNow G _ _ _ _ _ _ _ _ _ _ _ _ _ _ _ _ _ _ _ _ _ _ _ _ _ ) 0 rfl rfl rfl ⟨rfl, rfl⟩ rfl rfl gX5_rumour_X5_asNow rfl 0 rfl ⟨rfl, (by decide +kernel), (by decide +kernel), (by decide +kernel)⟩ rfl dX5_rumour_23 (Nat.le_of_ble_eq_true rfl) rfl ⟨Nat.le_of_ble_eq_true rfl, Nat.le_of_ble_eq_true rfl⟩ (fun r wa wb hp => ?_)
      obtain ⟨⟨rfl, rfl⟩, rfl⟩ := hp
      show V x G _ _ _ _ _ _ [_, _, _, _, _, _]
      refine k_aload_n Ox dX5_rumour_26 rfl 0 rfl ?_
      refine k_iload_n Ox dX5_rumour_27 rfl 1 rfl ?_
      refine k_callV Ox [0, 5] (c_X5_bornBy G _ _ _ _ _ _ _ _ _ _ _ _ _ _ _ _ _ _ _ _ _ _ _ _ _ (hB) (hj1)) 1 rfl rfl rfl ⟨rfl, rfl⟩ rfl rfl gX5_rumour_X5_bornBy rfl 0 rfl ⟨rfl, (by decide +kernel), (by decide +kernel), (by decide +kernel)⟩ rfl dX5_rumour_28 (Nat.le_of_ble_eq_true rfl) rfl ⟨Nat.le_of_ble_eq_true rfl, Nat.le_of_ble_eq_true rfl⟩ (fun r wa wb hp => ?_)
      obtain ⟨⟨rfl, rfl⟩, rfl⟩ := hp
      show V x G _ _ _ _ _ (.int _ :: _) [_, _, _, _, _, _]
      have hl := ld_le B j1 0
      refine k_iload_n Ox dX5_rumour_31 rfl 2 rfl ?_
      refine k_icmp_ltN Ox 37 dX5_rumour_32 rfl (by omega) (by omega) (fun c_32 => ?_) (fun c_32 => ?_)
      · refine k_iconst Ox (v := nI 1) dX5_rumour_37 rfl ?_
        refine k_istore_n Ox [(3, _), (0, _), (1, _), (2, _)] dX5_rumour_38 rfl (by decide) rfl ?_
        have L39 : ∀ (fuel : Nat) (d : Nat) (w : Int32), d ≤ 30 → 31 ≤ d + fuel → (∀ j, j < d → ruQ O T K fd B j1 j2 j = false) → V x G 8 0 0 39 [(0, .ref m), (1, .int (nI j1)), (2, .int (nI j2)), (3, .int (nI (1 + d)))] [] [(m, cO 5 [.ref a1, .ref a2, .ref a3, .ref a4, .ref a5, .ref a6, .ref a7, .int (nI fd), .int (nI sg), .ref a8, .int (nI mn), .ref a9, .ref a10, .int w, .int w2, .ref a11, .int w3, .int w4, .int w5, .int w6, .ref a12, .ref a13]), (a3, cI G 6 (rN O)), (a4, cI G 6 (rN T)), (a5, cI G 6 (rN K)), (a6, cI G 36 (rN (flM B))), (a10, cI G 36 (rN (flM (ruB O T K fd B j1 d))))] := by
          intro fuel
          induction fuel with
          | zero => intro d w hd hfuel hq; exact absurd hd (by omega)
          | succ fuel ih =>
            intro d w hd hfuel hq
            refine k_iload_n Ox dX5_rumour_39 rfl 3 rfl ?_
            refine k_bipush Ox (v := nI 31) dX5_rumour_40 rfl ?_
            refine k_icmp_geN Ox 190 dX5_rumour_42 rfl (by omega) (by omega) (fun c_42 => ?_) (fun c_42 => ?_)
            · refine k_bipush Ox (v := -6) dX5_rumour_190 (by decide) ?_
              refine k_iret0 Ox Rt dX5_rumour_192 (Nat.le_of_ble_eq_true rfl) (Nat.le_of_ble_eq_true rfl) rfl ?_
              exact ⟨⟨by rw [ruR, pick_t c_4, pick_t c_16, nn_nI (by omega), nn_nI (by omega), if_neg (by omega), ru_none (fun j hj => hq j (by omega))], _, _, rfl⟩, rfl⟩
            · have hru := ruB_ok (O := O) (T := T) (K := K) hB hfd hj1 d
              refine k_iconst Ox (v := nI 1) dX5_rumour_45 rfl ?_
              refine k_aload_n Ox dX5_rumour_46 rfl 0 rfl ?_
              refine k_get Ox 0 rfl rfl hin_X5_rumour_X5 2 rfl lk_X5_rumour_f16 rfl rfl dX5_rumour_47 ?_
              refine k_iload_n Ox dX5_rumour_50 rfl 1 rfl ?_
              refine k_iald Ox 1 rfl (by omega) (by first | decide | omega) dX5_rumour_51 ?_
              refine k_ishl Ox dX5_rumour_52 ?_
              refine k_top _ (shl1 _ ho1) ?_
              refine k_istore Ox [(4, _), (0, _), (1, _), (2, _), (3, _)] dX5_rumour_53 (by decide) rfl ?_
              refine k_iconst Ox (v := nI 0) dX5_rumour_55 rfl ?_
              refine k_istore Ox [(5, _), (4, _), (0, _), (1, _), (2, _), (3, _)] dX5_rumour_56 (by decide) rfl ?_
              have L58 : ∀ (fuel : Nat) (i M : Nat), i ≤ 6 → 7 ≤ i + fuel → M < 64 → (∀ a, a < 6 → M.testBit a = (decide (O j1 = a) || (decide (a < i) && decide (0 < ruB O T K fd B j1 d a j1)))) → V x G 8 0 0 58 [(0, .ref m), (1, .int (nI j1)), (2, .int (nI j2)), (3, .int (nI (1 + d))), (4, .int (nI M)), (5, .int (nI i))] [] [(m, cO 5 [.ref a1, .ref a2, .ref a3, .ref a4, .ref a5, .ref a6, .ref a7, .int (nI fd), .int (nI sg), .ref a8, .int (nI mn), .ref a9, .ref a10, .int w, .int w2, .ref a11, .int w3, .int w4, .int w5, .int w6, .ref a12, .ref a13]), (a3, cI G 6 (rN O)), (a4, cI G 6 (rN T)), (a5, cI G 6 (rN K)), (a6, cI G 36 (rN (flM B))), (a10, cI G 36 (rN (flM (ruB O T K fd B j1 d))))] := by
                intro fuel
                induction fuel with
                | zero => intro i M hi hfuel hM hb; exact absurd hi (by omega)
                | succ fuel ih2 =>
                  intro i M hi hfuel hM hb
                  refine k_iload Ox dX5_rumour_58 5 rfl ?_
                  refine k_bipush Ox (v := nI 6) dX5_rumour_60 rfl ?_
                  refine k_icmp_geN Ox 99 dX5_rumour_62 rfl (by omega) (by omega) (fun c_62 => ?_) (fun c_62 => ?_)
                  · obtain rfl : i = 6 := by omega
                    refine k_iconst Ox (v := nI 0) dX5_rumour_99 rfl ?_
                    refine k_istore Ox [(5, _), (0, _), (1, _), (2, _), (3, _), (4, _)] dX5_rumour_100 (by decide) rfl ?_
                    have L102 : ∀ (fuel : Nat) (a : Nat) (w : Int32), a ≤ 6 → 7 ≤ a + fuel → V x G 8 0 0 102 [(0, .ref m), (1, .int (nI j1)), (2, .int (nI j2)), (3, .int (nI (1 + d))), (4, .int (nI M)), (5, .int (nI a))] [] [(m, cO 5 [.ref a1, .ref a2, .ref a3, .ref a4, .ref a5, .ref a6, .ref a7, .int (nI fd), .int (nI sg), .ref a8, .int (nI mn), .ref a9, .ref a10, .int w, .int w2, .ref a11, .int w3, .int w4, .int w5, .int w6, .ref a12, .ref a13]), (a3, cI G 6 (rN O)), (a4, cI G 6 (rN T)), (a5, cI G 6 (rN K)), (a6, cI G 36 (rN (flM B))), (a10, cI G 36 (rN (flM (spr O T K fd (ruB O T K fd B j1 d) j1 a))))] := by
                      intro fuel
                      induction fuel with
                      | zero => intro a w ha hfuel; exact absurd ha (by omega)
                      | succ fuel ih3 =>
                        intro a w ha hfuel
                        refine k_iload Ox dX5_rumour_102 5 rfl ?_
                        refine k_bipush Ox (v := nI 6) dX5_rumour_104 rfl ?_
                        refine k_icmp_geN Ox 169 dX5_rumour_106 rfl (by omega) (by omega) (fun c_106 => ?_) (fun c_106 => ?_)
                        · obtain rfl : a = 6 := by omega
                          have hsp := spr_ok (O := O) (T := T) (K := K) hru hfd hj1 6 (by omega)
                          have hl := ld_le (spr O T K fd (ruB O T K fd B j1 d) j1 6) j1 0
                          refine k_aload_n Ox dX5_rumour_169 rfl 0 rfl ?_
                          refine k_iload_n Ox dX5_rumour_170 rfl 1 rfl ?_
                          refine k_callV Ox [0, 5] (c_X5_bornBy G _ _ _ _ _ _ _ _ _ _ _ _ _ _ _ _ _ _ _ _ _ _ _ _ _ (hsp) (hj1)) 1 rfl rfl rfl ⟨rfl, rfl⟩ rfl rfl gX5_rumour_X5_bornBy rfl 0 rfl ⟨rfl, (by decide +kernel), (by decide +kernel), (by decide +kernel)⟩ rfl dX5_rumour_171 (Nat.le_of_ble_eq_true rfl) rfl ⟨Nat.le_of_ble_eq_true rfl, Nat.le_of_ble_eq_true rfl⟩ (fun r wa wb hp => ?_)
                          obtain ⟨⟨rfl, rfl⟩, rfl⟩ := hp
                          show V x G _ _ _ _ _ (.int _ :: _) [_, _, _, _, _, _]
                          refine k_iload_n Ox dX5_rumour_174 rfl 2 rfl ?_
                          refine k_icmp_ltN Ox 180 dX5_rumour_175 rfl (by omega) (by omega) (fun c_175 => ?_) (fun c_175 => ?_)
                          · refine k_aload_n Ox dX5_rumour_180 rfl 0 rfl ?_
                            refine k_callV Ox [0, 5] (c_X5_pass G _ _ _ _ _ _ _ _ _ _ _ _ _ _ _ _ _ _ _ _ _ _ _ _ (hsp)) 0 rfl rfl rfl ⟨rfl, rfl⟩ rfl rfl gX5_rumour_X5_pass rfl 0 rfl ⟨rfl, (by decide +kernel), (by decide +kernel), (by decide +kernel)⟩ rfl dX5_rumour_181 (Nat.le_of_ble_eq_true rfl) rfl ⟨Nat.le_of_ble_eq_true rfl, Nat.le_of_ble_eq_true rfl⟩ (fun r wa wb hp => ?_)
                            obtain ⟨⟨rfl, rfl⟩, rfl⟩ := hp
                            show V x G _ _ _ _ _ _ [_, _, _, _, _, _]
                            refine k_iincN Ox (k := 3) (m := 1) [(3, _), (0, _), (1, _), (2, _), (4, _), (5, _)] dX5_rumour_184 rfl rfl (by decide) rfl ?_
                            refine k_goto Ox 39 dX5_rumour_187 rfl ?_
                            refine k_sub [1, 2, 3, 0] [(0, _), (1, _), (2, _), (3, _)] rfl ?_
                            exact ih (d + 1) _ (by omega) (by omega) (ruQ_next hq c_175)
                          · refine k_iload_n Ox dX5_rumour_178 rfl 3 rfl ?_
                            refine k_iret0 Ox Rt dX5_rumour_179 (Nat.le_of_ble_eq_true rfl) (Nat.le_of_ble_eq_true rfl) rfl ?_
                            exact ⟨⟨by rw [ruR, pick_t c_4, pick_t c_16, nn_nI (by omega), nn_nI (by omega), if_neg (by omega), ru_hit hq (by omega) c_175], _, _, rfl⟩, rfl⟩
                        · have hmm : M.testBit a = mayT O (ruB O T K fd B j1 d) a j1 := by rw [hb a (by omega)]; simp [mayT, show a < 6 by omega]
                          have hsp := spr_ok (O := O) (T := T) (K := K) hru hfd hj1 a (by omega)
                          refine k_iconst Ox (v := nI 0) dX5_rumour_109 rfl ?_
                          refine k_istore Ox [(6, _), (0, _), (1, _), (2, _), (3, _), (4, _), (5, _)] dX5_rumour_110 (by decide) rfl ?_
                          have L112 : ∀ (fuel : Nat) (b : Nat) (w : Int32), b ≤ 6 → 7 ≤ b + fuel → (b = 0 ∨ M.testBit a = true) → V x G 8 0 0 112 [(0, .ref m), (1, .int (nI j1)), (2, .int (nI j2)), (3, .int (nI (1 + d))), (4, .int (nI M)), (5, .int (nI a)), (6, .int (nI b))] [] [(m, cO 5 [.ref a1, .ref a2, .ref a3, .ref a4, .ref a5, .ref a6, .ref a7, .int (nI fd), .int (nI sg), .ref a8, .int (nI mn), .ref a9, .ref a10, .int w, .int w2, .ref a11, .int w3, .int w4, .int w5, .int w6, .ref a12, .ref a13]), (a3, cI G 6 (rN O)), (a4, cI G 6 (rN T)), (a5, cI G 6 (rN K)), (a6, cI G 36 (rN (flM B))), (a10, cI G 36 (rN (flM (tAll O T K fd (spr O T K fd (ruB O T K fd B j1 d) j1 a) a j1 b))))] := by
                            intro fuel
                            induction fuel with
                            | zero => intro b w hb6 hfuel hbb; exact absurd hb6 (by omega)
                            | succ fuel ih4 =>
                              intro b w hb6 hfuel hbb
                              refine k_iload Ox dX5_rumour_112 6 rfl ?_
                              refine k_bipush Ox (v := nI 6) dX5_rumour_114 rfl ?_
                              refine k_icmp_geN Ox 163 dX5_rumour_116 rfl (by omega) (by omega) (fun c_116 => ?_) (fun c_116 => ?_)
                              · obtain rfl : b = 6 := by omega
                                have hbb : M.testBit a = true := by rcases hbb with q | q; cases q; exact q
                                refine k_iincN Ox (k := 5) (m := 1) [(5, _), (0, _), (1, _), (2, _), (3, _), (4, _), (6, _)] dX5_rumour_163 rfl rfl (by decide) rfl ?_
                                refine k_goto Ox 102 dX5_rumour_166 rfl ?_
                                refine k_sub [1, 2, 3, 4, 5, 0] [(0, _), (1, _), (2, _), (3, _), (4, _), (5, _)] rfl ?_
                                first | (rw [← sprT hmm hbb]; exact ih3 (a + 1) _ (by omega) (by omega)) | (obtain rfl := sprZ hbb c_126; rw [show tAll O T K fd _ a j1 0 = _ from rfl, ← sprF hmm c_126]; exact ih3 (a + 1) _ (by omega) (by omega))
                              · have hta := tAll_ok (O := O) (T := T) (K := K) (a := a) hsp hfd hj1 b (by omega)
                                refine k_iload Ox dX5_rumour_119 4 rfl ?_
                                refine k_iload Ox dX5_rumour_121 5 rfl ?_
                                refine k_callS Ox [] (c_X5_has G _ _ (hM) (by omega)) 2 rfl rfl rfl ⟨rfl, rfl⟩ rfl rfl gX5_rumour_X5_has ⟨(by decide +kernel), (by decide +kernel), (by decide +kernel)⟩ rfl dX5_rumour_123 (Nat.le_of_ble_eq_true rfl) rfl ⟨Nat.le_of_ble_eq_true rfl, Nat.le_of_ble_eq_true rfl⟩ (fun r wa wb hp => ?_)
                                obtain ⟨⟨rfl, rfl⟩, rfl⟩ := hp
                                show V x G _ _ _ _ _ (.int _ :: _) [_, _, _, _, _, _]
                                refine k_if_eqB Ox 163 dX5_rumour_126 rfl (fun c_126 => ?_) (fun c_126 => ?_)
                                · refine k_iincN Ox (k := 5) (m := 1) [(5, _), (0, _), (1, _), (2, _), (3, _), (4, _), (6, _)] dX5_rumour_163 rfl rfl (by decide) rfl ?_
                                  refine k_goto Ox 102 dX5_rumour_166 rfl ?_
                                  refine k_sub [1, 2, 3, 4, 5, 0] [(0, _), (1, _), (2, _), (3, _), (4, _), (5, _)] rfl ?_
                                  first | (rw [← sprT hmm hbb]; exact ih3 (a + 1) _ (by omega) (by omega)) | (obtain rfl := sprZ hbb c_126; rw [show tAll O T K fd _ a j1 0 = _ from rfl, ← sprF hmm c_126]; exact ih3 (a + 1) _ (by omega) (by omega))
                                · refine k_aload_n Ox dX5_rumour_129 rfl 0 rfl ?_
                                  refine k_iload Ox dX5_rumour_130 5 rfl ?_
                                  refine k_iload Ox dX5_rumour_132 6 rfl ?_
                                  refine k_iload_n Ox dX5_rumour_134 rfl 1 rfl ?_
                                  refine k_callV Ox [0, 1, 2, 3, 5] (c_X5_tells G _ _ _ _ _ _ _ _ _ _ _ _ _ _ _ _ _ _ _ _ _ _ _ _ _ _ _ _ _ _ (hO) (hT) (hK) (hN) (hta) (by omega) (by omega) (hj1)) 3 rfl rfl rfl ⟨rfl, rfl⟩ rfl rfl gX5_rumour_X5_tells rfl 0 rfl ⟨rfl, (by decide +kernel), (by decide +kernel), (by decide +kernel)⟩ rfl dX5_rumour_135 (Nat.le_of_ble_eq_true rfl) rfl ⟨Nat.le_of_ble_eq_true rfl, Nat.le_of_ble_eq_true rfl⟩ (fun r wa wb hp => ?_)
                                  obtain ⟨⟨rfl, rfl⟩, rfl⟩ := hp
                                  show V x G _ _ _ _ _ (.int _ :: _) [_, _, _, _, _, _]
                                  refine k_istore Ox [(7, _), (0, _), (1, _), (2, _), (3, _), (4, _), (5, _), (6, _)] dX5_rumour_138 (by decide) rfl ?_
                                  refine k_aload_n Ox dX5_rumour_140 rfl 1 rfl ?_
                                  refine k_iload Ox dX5_rumour_141 0 rfl ?_
                                  refine k_if_eqB Ox 150 dX5_rumour_143 rfl (fun c_143 => ?_) (fun c_143 => ?_)
                                  · refine k_aload_n Ox dX5_rumour_150 rfl 1 rfl ?_
                                    refine k_get Ox 0 rfl rfl hin_X5_rumour_X5 13 rfl lk_X5_rumour_f79 rfl rfl dX5_rumour_151 ?_
                                    refine k_put Ox 0 rfl rfl hin_X5_rumour_X5 13 rfl lk_X5_rumour_f79 rfl tyX5 tyX5_ok nmX5 rfl  rfl rfl rfl [_, _, _, _, _, _, _, _, _, _, _, _, _, _, _, _, _, _, _, _, _, _] rfl [_, _, _, _, _, _] rfl dX5_rumour_154 ?_
                                    refine k_iincN Ox (k := 7) (m := 1) [(6, _), (7, _), (0, _), (1, _), (2, _), (3, _), (4, _), (5, _)] dX5_rumour_157 rfl rfl (by decide) rfl ?_
                                    refine k_goto Ox 112 dX5_rumour_160 rfl ?_
                                    refine k_sub [2, 3, 4, 5, 6, 7, 0] [(0, _), (1, _), (2, _), (3, _), (4, _), (5, _), (6, _)] rfl ?_
                                    exact ih4 (b + 1) _ (by omega) (by omega) (Or.inr c_126)
                                  · refine k_iload_n Ox dX5_rumour_146 rfl 4 rfl ?_
                                    refine k_goto Ox 154 dX5_rumour_147 rfl ?_
                                    refine k_put Ox 0 rfl rfl hin_X5_rumour_X5 13 rfl lk_X5_rumour_f79 rfl tyX5 tyX5_ok nmX5 rfl  rfl rfl rfl [_, _, _, _, _, _, _, _, _, _, _, _, _, _, _, _, _, _, _, _, _, _] rfl [_, _, _, _, _, _] rfl dX5_rumour_154 ?_
                                    refine k_iincN Ox (k := 7) (m := 1) [(6, _), (7, _), (0, _), (1, _), (2, _), (3, _), (4, _), (5, _)] dX5_rumour_157 rfl rfl (by decide) rfl ?_
                                    refine k_goto Ox 112 dX5_rumour_160 rfl ?_
                                    refine k_sub [2, 3, 4, 5, 6, 7, 0] [(0, _), (1, _), (2, _), (3, _), (4, _), (5, _), (6, _)] rfl ?_
                                    exact ih4 (b + 1) _ (by omega) (by omega) (Or.inr c_126)
                          refine k_sub [1, 2, 3, 4, 5, 6, 0] [(0, _), (1, _), (2, _), (3, _), (4, _), (5, _), (6, _)] rfl ?_
                          exact L112 7 0 _ (by omega) (by omega) (Or.inl rfl)
                    refine k_sub [1, 2, 3, 4, 5, 0] [(0, _), (1, _), (2, _), (3, _), (4, _), (5, _)] rfl ?_
                    exact L102 7 0 _ (by omega) (by omega)
                  · have hb1 := hru i j1 (by omega) hj1
                    refine k_iload Ox dX5_rumour_65 4 rfl ?_
                    refine k_aload_n Ox dX5_rumour_67 rfl 0 rfl ?_
                    refine k_get Ox 0 rfl rfl hin_X5_rumour_X5 12 rfl lk_X5_rumour_f41 rfl rfl dX5_rumour_68 ?_
                    refine k_bipush Ox (v := nI 6) dX5_rumour_71 rfl ?_
                    refine k_iload Ox dX5_rumour_73 5 rfl ?_
                    refine k_imulN Ox dX5_rumour_75 ?_
                    refine k_iload_n Ox dX5_rumour_76 rfl 1 rfl ?_
                    refine k_iaddN Ox dX5_rumour_77 ?_
                    refine k_iald Ox 5 rfl (by omega) (by first | decide | omega) dX5_rumour_78 ?_
                    refine k_top (nI (ruB O T K fd B j1 d i j1)) (congrArg nI (flM_at hj1)) ?_
                    refine k_if_leN Ox 89 dX5_rumour_79 rfl (by omega) (fun c_79 => ?_) (fun c_79 => ?_)
                    · refine k_iconst Ox (v := nI 0) dX5_rumour_89 rfl ?_
                      refine k_ior Ox dX5_rumour_90 ?_
                      first | refine k_top _ (orb1 M hM i (by omega)) ?_ | refine k_top (nI M) (or0 M hM) ?_
                      refine k_istore Ox [(4, _), (0, _), (1, _), (2, _), (3, _), (5, _)] dX5_rumour_91 (by decide) rfl ?_
                      refine k_iincN Ox (k := 5) (m := 1) [(5, _), (4, _), (0, _), (1, _), (2, _), (3, _)] dX5_rumour_93 rfl rfl (by decide) rfl ?_
                      refine k_goto Ox 58 dX5_rumour_96 rfl ?_
                      refine k_sub [2, 3, 4, 5, 1, 0] [(0, _), (1, _), (2, _), (3, _), (4, _), (5, _)] rfl ?_
                      first | exact ih2 (i + 1) _ (by omega) (by omega) (setb_lt M hM i (by omega) true) (mskm_up hM (by omega) hb c_79) | exact ih2 (i + 1) _ (by omega) (by omega) hM (mskm_no hb c_79)
                    · refine k_iconst Ox (v := nI 1) dX5_rumour_82 rfl ?_
                      refine k_iload Ox dX5_rumour_83 5 rfl ?_
                      refine k_ishl Ox dX5_rumour_85 ?_
                      refine k_top _ (shl1 i (by omega)) ?_
                      refine k_goto Ox 90 dX5_rumour_86 rfl ?_
                      refine k_ior Ox dX5_rumour_90 ?_
                      first | refine k_top _ (orb1 M hM i (by omega)) ?_ | refine k_top (nI M) (or0 M hM) ?_
                      refine k_istore Ox [(4, _), (0, _), (1, _), (2, _), (3, _), (5, _)] dX5_rumour_91 (by decide) rfl ?_
                      refine k_iincN Ox (k := 5) (m := 1) [(5, _), (4, _), (0, _), (1, _), (2, _), (3, _)] dX5_rumour_93 rfl rfl (by decide) rfl ?_
                      refine k_goto Ox 58 dX5_rumour_96 rfl ?_
                      refine k_sub [2, 3, 4, 5, 1, 0] [(0, _), (1, _), (2, _), (3, _), (4, _), (5, _)] rfl ?_
                      first | exact ih2 (i + 1) _ (by omega) (by omega) (setb_lt M hM i (by omega) true) (mskm_up hM (by omega) hb c_79) | exact ih2 (i + 1) _ (by omega) (by omega) hM (mskm_no hb c_79)
              refine k_sub [2, 3, 4, 5, 1, 0] [(0, _), (1, _), (2, _), (3, _), (4, _), (5, _)] rfl ?_
              exact L58 7 0 _ (by omega) (by omega) (pw_lt ho1) (fun a ha => by rw [pw_bit ho1 ha]; simp)
        refine k_sub [1, 2, 3, 0] [(0, _), (1, _), (2, _), (3, _)] rfl ?_
        exact L39 31 0 _ (by omega) (by omega) (fun j hj => absurd hj (by omega))
      · refine k_iconst Ox (v := nI 0) dX5_rumour_35 rfl ?_
        refine k_iret0 Ox Rt dX5_rumour_36 (Nat.le_of_ble_eq_true rfl) (Nat.le_of_ble_eq_true rfl) rfl ?_
        exact ⟨⟨by rw [ruR, pick_t c_4, pick_t c_16, nn_nI (by omega), nn_nI (by omega), if_pos c_32], _, _, rfl⟩, rfl⟩
    · refine k_bipush Ox (v := -2) dX5_rumour_19 (by decide) ?_
      refine k_iret0 Ox Rt dX5_rumour_21 (Nat.le_of_ble_eq_true rfl) (Nat.le_of_ble_eq_true rfl) rfl ?_
      exact ⟨⟨by rw [ruR, pick_t c_4, pick_f c_16], _, _, rfl⟩, rfl⟩
  · refine k_iconst Ox (v := -1) dX5_rumour_7 (by decide) ?_
    refine k_iret0 Ox Rt dX5_rumour_8 (Nat.le_of_ble_eq_true rfl) (Nat.le_of_ble_eq_true rfl) rfl ?_
    exact ⟨⟨by rw [ruR, pick_f c_4], _, _, rfl⟩, rfl⟩
set_option maxHeartbeats 400000 in
set_option maxRecDepth 4000 in
theorem c_X5_odds (G : Gx) (m a1 a2 a3 a4 a5 a6 a7 a8 a9 a10 a11 a12 a13 : Nat) (fd sg mn : Nat) (w1 w2 w3 w4 w5 w6 : Int32) (O T K : Nat → Nat) (B : Nat → Nat → Nat) (g : Nat → Int32) (x1 x2 x3 x4 : Int32) (hO : okP O) (hT : okM T) (hK : okM K) (hN : noSelf T) (hB : okB B) (hfd : fd < 10) : Ct G yX5_odds wsX5_odds { frames := 3, cells := 0, slots := 0, locals := 70 } [.ref m, .int x1, .int x2, .int x3, .int x4] [(m, cO 5 [.ref a1, .ref a2, .ref a3, .ref a4, .ref a5, .ref a6, .ref a7, .int (nI fd), .int (nI sg), .ref a8, .int (nI mn), .ref a9, .ref a10, .int w1, .int w2, .ref a11, .int w3, .int w4, .int w5, .int w6, .ref a12, .ref a13]), (a3, cI G 6 (rN O)), (a4, cI G 6 (rN T)), (a5, cI G 6 (rN K)), (a6, cI G 36 (rN (flM B))), (a10, cI G 36 g)] (fun r wa => r = some (.int (odR O T K fd B x1 x2 x3 x4)) ∧ ∃ g9 : Nat → Int32, ∃ w9 : Int32, wa = [(m, cO 5 [.ref a1, .ref a2, .ref a3, .ref a4, .ref a5, .ref a6, .ref a7, .int (nI fd), .int (nI sg), .ref a8, .int (nI mn), .ref a9, .ref a10, .int w9, .int w2, .ref a11, .int w3, .int w4, .int w5, .int w6, .ref a12, .ref a13]), (a3, cI G 6 (rN O)), (a4, cI G 6 (rN T)), (a5, cI G 6 (rN K)), (a6, cI G 36 (rN (flM B))), (a10, cI G 36 g9)]) := by
  refine CtN.of [(0, .ref m), (1, .int x1), (2, .int x2), (3, .int x3), (4, .int x4)] (by decide +kernel) rfl rfl rfl rfl ?_
  intro x Ox Rt
  refine k_iload_n Ox dX5_odds_0 rfl 1 rfl ?_
  refine k_callS Ox [] (c_X5_is6 G _ ) 1 rfl rfl rfl ⟨rfl, rfl⟩ rfl rfl gX5_odds_X5_is6 ⟨(by decide +kernel), (by decide +kernel), (by decide +kernel)⟩ rfl dX5_odds_1 (Nat.le_of_ble_eq_true rfl) rfl ⟨Nat.le_of_ble_eq_true rfl, Nat.le_of_ble_eq_true rfl⟩ (fun r wa wb hp => ?_)
  obtain ⟨⟨rfl, rfl⟩, rfl⟩ := hp
  show V x G _ _ _ _ _ (.int _ :: _) [_, _, _, _, _, _]
  refine k_if_eqB Ox 26 dX5_odds_4 rfl (fun c_4 => ?_) (fun c_4 => ?_)
  · have hf : okOd x1 x2 x3 = false := by simp [okOd, c_4]
    refine k_iconst Ox (v := -1) dX5_odds_26 (by decide) ?_
    refine k_iret0 Ox Rt dX5_odds_27 (Nat.le_of_ble_eq_true rfl) (Nat.le_of_ble_eq_true rfl) rfl ?_
    exact ⟨⟨by rw [odR, pick_f hf], _, _, rfl⟩, rfl⟩
  · refine k_iload_n Ox dX5_odds_7 rfl 2 rfl ?_
    refine k_callS Ox [] (c_X5_is6 G _ ) 1 rfl rfl rfl ⟨rfl, rfl⟩ rfl rfl gX5_odds_X5_is6 ⟨(by decide +kernel), (by decide +kernel), (by decide +kernel)⟩ rfl dX5_odds_8 (Nat.le_of_ble_eq_true rfl) rfl ⟨Nat.le_of_ble_eq_true rfl, Nat.le_of_ble_eq_true rfl⟩ (fun r wa wb hp => ?_)
    obtain ⟨⟨rfl, rfl⟩, rfl⟩ := hp
    show V x G _ _ _ _ _ (.int _ :: _) [_, _, _, _, _, _]
    refine k_if_eqB Ox 26 dX5_odds_11 rfl (fun c_11 => ?_) (fun c_11 => ?_)
    · have hf : okOd x1 x2 x3 = false := by simp [okOd, c_11, c_4]
      refine k_iconst Ox (v := -1) dX5_odds_26 (by decide) ?_
      refine k_iret0 Ox Rt dX5_odds_27 (Nat.le_of_ble_eq_true rfl) (Nat.le_of_ble_eq_true rfl) rfl ?_
      exact ⟨⟨by rw [odR, pick_f hf], _, _, rfl⟩, rfl⟩
    · refine k_iload_n Ox dX5_odds_14 rfl 3 rfl ?_
      refine k_callS Ox [] (c_X5_is6 G _ ) 1 rfl rfl rfl ⟨rfl, rfl⟩ rfl rfl gX5_odds_X5_is6 ⟨(by decide +kernel), (by decide +kernel), (by decide +kernel)⟩ rfl dX5_odds_15 (Nat.le_of_ble_eq_true rfl) rfl ⟨Nat.le_of_ble_eq_true rfl, Nat.le_of_ble_eq_true rfl⟩ (fun r wa wb hp => ?_)
      obtain ⟨⟨rfl, rfl⟩, rfl⟩ := hp
      show V x G _ _ _ _ _ (.int _ :: _) [_, _, _, _, _, _]
      refine k_if_eqB Ox 26 dX5_odds_18 rfl (fun c_18 => ?_) (fun c_18 => ?_)
      · have hf : okOd x1 x2 x3 = false := by simp [okOd, c_18, c_4, c_11]
        refine k_iconst Ox (v := -1) dX5_odds_26 (by decide) ?_
        refine k_iret0 Ox Rt dX5_odds_27 (Nat.le_of_ble_eq_true rfl) (Nat.le_of_ble_eq_true rfl) rfl ?_
        exact ⟨⟨by rw [odR, pick_f hf], _, _, rfl⟩, rfl⟩
      · refine k_iload_n Ox dX5_odds_21 rfl 2 rfl ?_
        refine k_iload_n Ox dX5_odds_22 rfl 3 rfl ?_
        refine k_icmp_ne Ox 28 dX5_odds_23 rfl (fun c_23 => ?_) (fun c_23 => ?_)
        · refine k_iload Ox dX5_odds_28 4 rfl ?_
          refine k_iconst Ox (v := nI 0) dX5_odds_30 rfl ?_
          refine k_iconst Ox (v := nI 1) dX5_odds_31 rfl ?_
          refine k_callS Ox [] (c_X5_in G _ _ _ ) 3 rfl rfl rfl ⟨rfl, rfl⟩ rfl rfl gX5_odds_X5_in ⟨(by decide +kernel), (by decide +kernel), (by decide +kernel)⟩ rfl dX5_odds_32 (Nat.le_of_ble_eq_true rfl) rfl ⟨Nat.le_of_ble_eq_true rfl, Nat.le_of_ble_eq_true rfl⟩ (fun r wa wb hp => ?_)
          obtain ⟨⟨rfl, rfl⟩, rfl⟩ := hp
          show V x G _ _ _ _ _ (.int _ :: _) [_, _, _, _, _, _]
          change V x G _ _ _ _ _ (.int (bI (inR (0) (1) _)) :: _) _
          refine k_if_neB Ox 41 dX5_odds_35 rfl (fun c_35 => ?_) (fun c_35 => ?_)
          · have hok : okOd x1 x2 x3 = true := by simp [okOd, c_4, c_11, c_18, c_23]
            obtain ⟨j1, hj1, rfl⟩ := in6_of c_4
            obtain ⟨j2, hj2, rfl⟩ := in6_of c_11
            obtain ⟨j3, hj3, rfl⟩ := in6_of c_18
            refine k_aload_n Ox dX5_odds_41 rfl 0 rfl ?_
            refine k_callV Ox [0, 4, 5] (c_X5_asNow G _ _ _ _ _ _ _ _ _ _ _ _ _ _ _ _ _ _ _ _ _ _ _ _ _ ) 0 rfl rfl rfl ⟨rfl, rfl⟩ rfl rfl gX5_odds_X5_asNow rfl 0 rfl ⟨rfl, (by decide +kernel), (by decide +kernel), (by decide +kernel)⟩ rfl dX5_odds_42 (Nat.le_of_ble_eq_true rfl) rfl ⟨Nat.le_of_ble_eq_true rfl, Nat.le_of_ble_eq_true rfl⟩ (fun r wa wb hp => ?_)
            obtain ⟨⟨rfl, rfl⟩, rfl⟩ := hp
            show V x G _ _ _ _ _ _ [_, _, _, _, _, _]
            rcases ch01s c_35 with rfl | rfl
            · refine k_aload_n Ox dX5_odds_45 rfl 0 rfl ?_
              refine k_iload Ox dX5_odds_46 4 rfl ?_
              refine k_if_neN Ox 55 dX5_odds_48 rfl (by decide) (fun h => absurd h (by decide)) (fun _ => ?_)
              refine k_iload_n Ox dX5_odds_51 rfl 2 rfl ?_
              refine k_goto Ox 56 dX5_odds_52 rfl ?_
              refine k_iload_n Ox dX5_odds_56 rfl 1 rfl ?_
              refine k_iload Ox dX5_odds_57 4 rfl ?_
              refine k_iconst Ox (v := nI 1) dX5_odds_59 rfl ?_
              refine k_icmp_neN Ox 67 dX5_odds_60 rfl (by decide) (by decide) (fun _ => ?_) (fun h => absurd h (by decide))
              refine k_iconst Ox (v := nI 0) dX5_odds_67 rfl ?_
              refine k_callV Ox [0, 1, 2, 3, 5] (c_X5_toAll G _ _ _ _ _ _ _ _ _ _ _ _ _ _ _ _ _ _ _ _ _ _ _ _ _ _ _ _ _ false (hO) (hT) (hK) (hN) (hB) (hfd) (by omega) (hj1)) 3 rfl rfl rfl ⟨rfl, rfl⟩ rfl rfl gX5_odds_X5_toAll rfl 0 rfl ⟨rfl, (by decide +kernel), (by decide +kernel), (by decide +kernel)⟩ rfl dX5_odds_68 (Nat.le_of_ble_eq_true rfl) rfl ⟨Nat.le_of_ble_eq_true rfl, Nat.le_of_ble_eq_true rfl⟩ (fun r wa wb hp => ?_)
              obtain ⟨⟨rfl, w968, rfl⟩, rfl⟩ := hp
              show V x G _ _ _ _ _ _ [_, _, _, _, _, _]
              refine k_aload_n Ox dX5_odds_71 rfl 0 rfl ?_
              refine k_iload Ox dX5_odds_72 4 rfl ?_
              refine k_if_neN Ox 81 dX5_odds_74 rfl (by decide) (fun h => absurd h (by decide)) (fun _ => ?_)
              refine k_iload_n Ox dX5_odds_77 rfl 3 rfl ?_
              refine k_goto Ox 82 dX5_odds_78 rfl ?_
              refine k_iload_n Ox dX5_odds_82 rfl 1 rfl ?_
              refine k_iload Ox dX5_odds_83 4 rfl ?_
              refine k_if_neN Ox 92 dX5_odds_85 rfl (by decide) (fun h => absurd h (by decide)) (fun _ => ?_)
              refine k_iconst Ox (v := nI 1) dX5_odds_88 rfl ?_
              refine k_goto Ox 93 dX5_odds_89 rfl ?_
              refine k_callV Ox [0, 1, 2, 3, 5] (c_X5_toAll G _ _ _ _ _ _ _ _ _ _ _ _ _ _ _ _ _ _ _ _ _ _ _ _ _ _ _ _ _ true (hO) (hT) (hK) (hN) (toA_ok hB hfd hj1 6 (by omega)) (hfd) (by omega) (hj1)) 3 rfl rfl rfl ⟨rfl, rfl⟩ rfl rfl gX5_odds_X5_toAll rfl 0 rfl ⟨rfl, (by decide +kernel), (by decide +kernel), (by decide +kernel)⟩ rfl dX5_odds_93 (Nat.le_of_ble_eq_true rfl) rfl ⟨Nat.le_of_ble_eq_true rfl, Nat.le_of_ble_eq_true rfl⟩ (fun r wa wb hp => ?_)
              obtain ⟨⟨rfl, w993, rfl⟩, rfl⟩ := hp
              show V x G _ _ _ _ _ _ [_, _, _, _, _, _]
              refine k_aload_n Ox dX5_odds_96 rfl 0 rfl ?_
              refine k_iload_n Ox dX5_odds_97 rfl 1 rfl ?_
              refine k_callV Ox [0, 5] (c_X5_bornBy G _ _ _ _ _ _ _ _ _ _ _ _ _ _ _ _ _ _ _ _ _ _ _ _ _ (toA_ok (toA_ok hB hfd hj1 6 (by omega)) hfd hj1 6 (by omega)) (hj1)) 1 rfl rfl rfl ⟨rfl, rfl⟩ rfl rfl gX5_odds_X5_bornBy rfl 0 rfl ⟨rfl, (by decide +kernel), (by decide +kernel), (by decide +kernel)⟩ rfl dX5_odds_98 (Nat.le_of_ble_eq_true rfl) rfl ⟨Nat.le_of_ble_eq_true rfl, Nat.le_of_ble_eq_true rfl⟩ (fun r wa wb hp => ?_)
              obtain ⟨⟨rfl, rfl⟩, rfl⟩ := hp
              show V x G _ _ _ _ _ (.int _ :: _) [_, _, _, _, _, _]
              refine k_iret0 Ox Rt dX5_odds_101 (Nat.le_of_ble_eq_true rfl) (Nat.le_of_ble_eq_true rfl) rfl ?_
              exact ⟨⟨by first | (rw [odR, pick_t hok, pick_t ch0, nn_nI (by omega), nn_nI (by omega), nn_nI (by omega), if_pos ch0e]; rfl) | (rw [odR, pick_t hok, pick_t ch1, nn_nI (by omega), nn_nI (by omega), nn_nI (by omega), if_neg ch1e]; rfl), _, _, rfl⟩, rfl⟩
            · refine k_aload_n Ox dX5_odds_45 rfl 0 rfl ?_
              refine k_iload Ox dX5_odds_46 4 rfl ?_
              refine k_if_neN Ox 55 dX5_odds_48 rfl (by decide) (fun _ => ?_) (fun h => absurd h (by decide))
              refine k_iload_n Ox dX5_odds_55 rfl 3 rfl ?_
              refine k_iload_n Ox dX5_odds_56 rfl 1 rfl ?_
              refine k_iload Ox dX5_odds_57 4 rfl ?_
              refine k_iconst Ox (v := nI 1) dX5_odds_59 rfl ?_
              refine k_icmp_neN Ox 67 dX5_odds_60 rfl (by decide) (by decide) (fun h => absurd h (by decide)) (fun _ => ?_)
              refine k_iconst Ox (v := nI 1) dX5_odds_63 rfl ?_
              refine k_goto Ox 68 dX5_odds_64 rfl ?_
              refine k_callV Ox [0, 1, 2, 3, 5] (c_X5_toAll G _ _ _ _ _ _ _ _ _ _ _ _ _ _ _ _ _ _ _ _ _ _ _ _ _ _ _ _ _ true (hO) (hT) (hK) (hN) (hB) (hfd) (by omega) (hj1)) 3 rfl rfl rfl ⟨rfl, rfl⟩ rfl rfl gX5_odds_X5_toAll rfl 0 rfl ⟨rfl, (by decide +kernel), (by decide +kernel), (by decide +kernel)⟩ rfl dX5_odds_68 (Nat.le_of_ble_eq_true rfl) rfl ⟨Nat.le_of_ble_eq_true rfl, Nat.le_of_ble_eq_true rfl⟩ (fun r wa wb hp => ?_)
              obtain ⟨⟨rfl, w968, rfl⟩, rfl⟩ := hp
              show V x G _ _ _ _ _ _ [_, _, _, _, _, _]
              refine k_aload_n Ox dX5_odds_71 rfl 0 rfl ?_
              refine k_iload Ox dX5_odds_72 4 rfl ?_
              refine k_if_neN Ox 81 dX5_odds_74 rfl (by decide) (fun _ => ?_) (fun h => absurd h (by decide))
              refine k_iload_n Ox dX5_odds_81 rfl 2 rfl ?_
              refine k_iload_n Ox dX5_odds_82 rfl 1 rfl ?_
              refine k_iload Ox dX5_odds_83 4 rfl ?_
              refine k_if_neN Ox 92 dX5_odds_85 rfl (by decide) (fun _ => ?_) (fun h => absurd h (by decide))
              refine k_iconst Ox (v := nI 0) dX5_odds_92 rfl ?_
              refine k_callV Ox [0, 1, 2, 3, 5] (c_X5_toAll G _ _ _ _ _ _ _ _ _ _ _ _ _ _ _ _ _ _ _ _ _ _ _ _ _ _ _ _ _ false (hO) (hT) (hK) (hN) (toA_ok hB hfd hj1 6 (by omega)) (hfd) (by omega) (hj1)) 3 rfl rfl rfl ⟨rfl, rfl⟩ rfl rfl gX5_odds_X5_toAll rfl 0 rfl ⟨rfl, (by decide +kernel), (by decide +kernel), (by decide +kernel)⟩ rfl dX5_odds_93 (Nat.le_of_ble_eq_true rfl) rfl ⟨Nat.le_of_ble_eq_true rfl, Nat.le_of_ble_eq_true rfl⟩ (fun r wa wb hp => ?_)
              obtain ⟨⟨rfl, w993, rfl⟩, rfl⟩ := hp
              show V x G _ _ _ _ _ _ [_, _, _, _, _, _]
              refine k_aload_n Ox dX5_odds_96 rfl 0 rfl ?_
              refine k_iload_n Ox dX5_odds_97 rfl 1 rfl ?_
              refine k_callV Ox [0, 5] (c_X5_bornBy G _ _ _ _ _ _ _ _ _ _ _ _ _ _ _ _ _ _ _ _ _ _ _ _ _ (toA_ok (toA_ok hB hfd hj1 6 (by omega)) hfd hj1 6 (by omega)) (hj1)) 1 rfl rfl rfl ⟨rfl, rfl⟩ rfl rfl gX5_odds_X5_bornBy rfl 0 rfl ⟨rfl, (by decide +kernel), (by decide +kernel), (by decide +kernel)⟩ rfl dX5_odds_98 (Nat.le_of_ble_eq_true rfl) rfl ⟨Nat.le_of_ble_eq_true rfl, Nat.le_of_ble_eq_true rfl⟩ (fun r wa wb hp => ?_)
              obtain ⟨⟨rfl, rfl⟩, rfl⟩ := hp
              show V x G _ _ _ _ _ (.int _ :: _) [_, _, _, _, _, _]
              refine k_iret0 Ox Rt dX5_odds_101 (Nat.le_of_ble_eq_true rfl) (Nat.le_of_ble_eq_true rfl) rfl ?_
              exact ⟨⟨by first | (rw [odR, pick_t hok, pick_t ch0, nn_nI (by omega), nn_nI (by omega), nn_nI (by omega), if_pos ch0e]; rfl) | (rw [odR, pick_t hok, pick_t ch1, nn_nI (by omega), nn_nI (by omega), nn_nI (by omega), if_neg ch1e]; rfl), _, _, rfl⟩, rfl⟩
          · refine k_bipush Ox (v := -2) dX5_odds_38 (by decide) ?_
            refine k_iret0 Ox Rt dX5_odds_40 (Nat.le_of_ble_eq_true rfl) (Nat.le_of_ble_eq_true rfl) rfl ?_
            have hok : okOd x1 x2 x3 = true := by simp [okOd, c_4, c_11, c_18, c_23]
            exact ⟨⟨by rw [odR, pick_t hok, pick_f (ch01 c_35)], _, _, rfl⟩, rfl⟩
        · have hf : okOd x1 x2 x3 = false := by simp [okOd, c_23, c_4, c_11, c_18]
          refine k_iconst Ox (v := -1) dX5_odds_26 (by decide) ?_
          refine k_iret0 Ox Rt dX5_odds_27 (Nat.le_of_ble_eq_true rfl) (Nat.le_of_ble_eq_true rfl) rfl ?_
          exact ⟨⟨by rw [odR, pick_f hf], _, _, rfl⟩, rfl⟩
theorem lk_X5_year_k155 : Cond.constant RX5 155 (65537) ∈ wsX5_year := List.mem_of_getElem? (i := 1) rfl
set_option maxHeartbeats 400000 in
set_option maxRecDepth 4000 in
theorem c_X5_year (G : Gx) (m a1 a2 a3 a4 a5 a6 a7 a8 a9 a10 a11 a12 a13 : Nat) (fd sg mn : Nat) (w1 w2 w3 w4 w5 w6 : Int32) (O T K : Nat → Nat) (B : Nat → Nat → Nat) (g : Nat → Int32) (x1 x2 x3 : Int32) (hO : okP O) (hT : okM T) (hK : okM K) (hN : noSelf T) (hB : okB B) (hfd : fd < 10) : Ct G yX5_year wsX5_year { frames := 2, cells := 0, slots := 0, locals := 45 } [.ref m, .int x1, .int x2, .int x3] [(m, cO 5 [.ref a1, .ref a2, .ref a3, .ref a4, .ref a5, .ref a6, .ref a7, .int (nI fd), .int (nI sg), .ref a8, .int (nI mn), .ref a9, .ref a10, .int w1, .int w2, .ref a11, .int w3, .int w4, .int w5, .int w6, .ref a12, .ref a13]), (a3, cI G 6 (rN O)), (a4, cI G 6 (rN T)), (a5, cI G 6 (rN K)), (a6, cI G 36 (rN (flM B))), (a10, cI G 36 g)] (fun r wa => r = some (.int (yrR O T K fd B x1 x2 x3)) ∧ ∃ g9 : Nat → Int32, wa = [(m, cO 5 [.ref a1, .ref a2, .ref a3, .ref a4, .ref a5, .ref a6, .ref a7, .int (nI fd), .int (nI sg), .ref a8, .int (nI mn), .ref a9, .ref a10, .int w1, .int w2, .ref a11, .int w3, .int w4, .int w5, .int w6, .ref a12, .ref a13]), (a3, cI G 6 (rN O)), (a4, cI G 6 (rN T)), (a5, cI G 6 (rN K)), (a6, cI G 36 (rN (flM B))), (a10, cI G 36 g9)]) := by
  refine CtN.of [(0, .ref m), (1, .int x1), (2, .int x2), (3, .int x3)] (by decide +kernel) rfl rfl rfl rfl ?_
  intro x Ox Rt
  refine k_iload_n Ox dX5_year_0 rfl 3 rfl ?_
  refine k_iconst Ox (v := -1) dX5_year_1 (by decide) ?_
  refine k_iconst Ox (v := nI 5) dX5_year_2 rfl ?_
  refine k_callS Ox [] (c_X5_in G _ _ _ ) 3 rfl rfl rfl ⟨rfl, rfl⟩ rfl rfl gX5_year_X5_in ⟨(by decide +kernel), (by decide +kernel), (by decide +kernel)⟩ rfl dX5_year_3 (Nat.le_of_ble_eq_true rfl) rfl ⟨Nat.le_of_ble_eq_true rfl, Nat.le_of_ble_eq_true rfl⟩ (fun r wa wb hp => ?_)
  obtain ⟨⟨rfl, rfl⟩, rfl⟩ := hp
  show V x G _ _ _ _ _ (.int _ :: _) [_, _, _, _, _, _]
  change V x G _ _ _ _ _ (.int (bI (inR (-1) (5) _)) :: _) _
  refine k_if_neB Ox 11 dX5_year_6 rfl (fun c_6 => ?_) (fun c_6 => ?_)
  · have hpa := isPA_in' x3 c_6
    refine k_iload_n Ox dX5_year_11 rfl 1 rfl ?_
    refine k_iconst Ox (v := nI 0) dX5_year_12 rfl ?_
    refine k_sipush Ox (v := nI 9999) dX5_year_13 rfl ?_
    refine k_callS Ox [] (c_X5_in G _ _ _ ) 3 rfl rfl rfl ⟨rfl, rfl⟩ rfl rfl gX5_year_X5_in ⟨(by decide +kernel), (by decide +kernel), (by decide +kernel)⟩ rfl dX5_year_16 (Nat.le_of_ble_eq_true rfl) rfl ⟨Nat.le_of_ble_eq_true rfl, Nat.le_of_ble_eq_true rfl⟩ (fun r wa wb hp => ?_)
    obtain ⟨⟨rfl, rfl⟩, rfl⟩ := hp
    show V x G _ _ _ _ _ (.int _ :: _) [_, _, _, _, _, _]
    change V x G _ _ _ _ _ (.int (bI (inR (0) (9999) _)) :: _) _
    refine k_if_eqB Ox 32 dX5_year_19 rfl (fun c_19 => ?_) (fun c_19 => ?_)
    · refine k_bipush Ox (v := -2) dX5_year_32 (by decide) ?_
      refine k_iret0 Ox Rt dX5_year_34 (Nat.le_of_ble_eq_true rfl) (Nat.le_of_ble_eq_true rfl) rfl ?_
      exact ⟨⟨by first | rw [yrR, pick_t hpa, pick_f (and_f1 c_19)] | rw [yrR, pick_t hpa, pick_f (and_f2 c_29)], _, rfl⟩, rfl⟩
    · refine k_iload_n Ox dX5_year_22 rfl 2 rfl ?_
      refine k_iconst Ox (v := nI 1) dX5_year_23 rfl ?_
      refine k_bipush Ox (v := nI 99) dX5_year_24 rfl ?_
      refine k_callS Ox [] (c_X5_in G _ _ _ ) 3 rfl rfl rfl ⟨rfl, rfl⟩ rfl rfl gX5_year_X5_in ⟨(by decide +kernel), (by decide +kernel), (by decide +kernel)⟩ rfl dX5_year_26 (Nat.le_of_ble_eq_true rfl) rfl ⟨Nat.le_of_ble_eq_true rfl, Nat.le_of_ble_eq_true rfl⟩ (fun r wa wb hp => ?_)
      obtain ⟨⟨rfl, rfl⟩, rfl⟩ := hp
      show V x G _ _ _ _ _ (.int _ :: _) [_, _, _, _, _, _]
      change V x G _ _ _ _ _ (.int (bI (inR (1) (99) _)) :: _) _
      refine k_if_neB Ox 35 dX5_year_29 rfl (fun c_29 => ?_) (fun c_29 => ?_)
      · obtain ⟨s, hsd, rfl⟩ := inR_of (k := 9999) rfl (by decide) c_19
        obtain ⟨m1, hm0, hm, rfl⟩ := inR_of' (lo := 1) (k := 99) rfl rfl (by decide) c_29
        refine k_aload_n Ox dX5_year_35 rfl 0 rfl ?_
        refine k_callV Ox [0, 4, 5] (c_X5_asNow G _ _ _ _ _ _ _ _ _ _ _ _ _ _ _ _ _ _ _ _ _ _ _ _ _ ) 0 rfl rfl rfl ⟨rfl, rfl⟩ rfl rfl gX5_year_X5_asNow rfl 0 rfl ⟨rfl, (by decide +kernel), (by decide +kernel), (by decide +kernel)⟩ rfl dX5_year_36 (Nat.le_of_ble_eq_true rfl) rfl ⟨Nat.le_of_ble_eq_true rfl, Nat.le_of_ble_eq_true rfl⟩ (fun r wa wb hp => ?_)
        obtain ⟨⟨rfl, rfl⟩, rfl⟩ := hp
        show V x G _ _ _ _ _ _ [_, _, _, _, _, _]
        refine k_iload_n Ox dX5_year_39 rfl 1 rfl ?_
        refine k_istore Ox [(4, _), (0, _), (1, _), (2, _), (3, _)] dX5_year_40 (by decide) rfl ?_
        refine k_iconst Ox (v := nI 0) dX5_year_42 rfl ?_
        refine k_istore Ox [(5, _), (4, _), (0, _), (1, _), (2, _), (3, _)] dX5_year_43 (by decide) rfl ?_
        refine k_iconst Ox (v := nI 1) dX5_year_45 rfl ?_
        refine k_istore Ox [(6, _), (5, _), (4, _), (0, _), (1, _), (2, _), (3, _)] dX5_year_46 (by decide) rfl ?_
        have L48 : ∀ (fuel : Nat) (k : Nat), k ≤ m1 → m1 + 1 ≤ k + fuel → V x G 7 0 0 48 [(0, .ref m), (1, .int (nI s)), (2, .int (nI m1)), (3, .int x3), (4, .int (nI (ys s k))), (5, .int (nI (yN O T K fd B s k))), (6, .int (nI (1 + k)))] [] [(m, cO 5 [.ref a1, .ref a2, .ref a3, .ref a4, .ref a5, .ref a6, .ref a7, .int (nI fd), .int (nI sg), .ref a8, .int (nI mn), .ref a9, .ref a10, .int w1, .int w2, .ref a11, .int w3, .int w4, .int w5, .int w6, .ref a12, .ref a13]), (a3, cI G 6 (rN O)), (a4, cI G 6 (rN T)), (a5, cI G 6 (rN K)), (a6, cI G 36 (rN (flM B))), (a10, cI G 36 (rN (flM (yB O T K fd B s k))))] := by
          intro fuel
          induction fuel with
          | zero => intro k hk hfuel; exact absurd hk (by omega)
          | succ fuel ih =>
            intro k hk hfuel
            refine k_iload Ox dX5_year_48 6 rfl ?_
            refine k_iload_n Ox dX5_year_50 rfl 2 rfl ?_
            refine k_icmp_gtN Ox 123 dX5_year_51 rfl (by omega) (by omega) (fun c_51 => ?_) (fun c_51 => ?_)
            · obtain rfl : k = m1 := by omega
              have hyb := yB_ok (O := O) (T := T) (K := K) (s := s) hB hfd k
              refine k_iload_n Ox dX5_year_123 rfl 3 rfl ?_
              refine k_if_ge Ox 132 dX5_year_124 rfl (fun c_124 => ?_) (fun c_124 => ?_)
              · obtain ⟨hne, j, hj, rfl⟩ := isPA_ge hpa c_124
                refine k_aload_n Ox dX5_year_132 rfl 0 rfl ?_
                refine k_iload_n Ox dX5_year_133 rfl 3 rfl ?_
                refine k_callV Ox [0, 5] (c_X5_bornBy G _ _ _ _ _ _ _ _ _ _ _ _ _ _ _ _ _ _ _ _ _ _ _ _ _ (hyb) (hj)) 1 rfl rfl rfl ⟨rfl, rfl⟩ rfl rfl gX5_year_X5_bornBy rfl 0 rfl ⟨rfl, (by decide +kernel), (by decide +kernel), (by decide +kernel)⟩ rfl dX5_year_134 (Nat.le_of_ble_eq_true rfl) rfl ⟨Nat.le_of_ble_eq_true rfl, Nat.le_of_ble_eq_true rfl⟩ (fun r wa wb hp => ?_)
                obtain ⟨⟨rfl, rfl⟩, rfl⟩ := hp
                show V x G _ _ _ _ _ (.int _ :: _) [_, _, _, _, _, _]
                refine k_iret0 Ox Rt dX5_year_137 (Nat.le_of_ble_eq_true rfl) (Nat.le_of_ble_eq_true rfl) rfl ?_
                first | exact ⟨⟨by rw [yrR, pick_t hpa, pick_t (by simp [c_19, c_29]), if_pos hne, nn_nI (by omega), nn_nI (by omega)], _, rfl⟩, rfl⟩ | exact ⟨⟨by rw [yrR, pick_t hpa, pick_t (by simp [c_19, c_29]), if_neg hne, nn_nI (by omega), nn_nI (by omega), nn_nI (by omega)], _, rfl⟩, rfl⟩
              · have hne := isPA_lt hpa c_124
                refine k_iload Ox dX5_year_127 5 rfl ?_
                refine k_goto Ox 137 dX5_year_129 rfl ?_
                refine k_iret0 Ox Rt dX5_year_137 (Nat.le_of_ble_eq_true rfl) (Nat.le_of_ble_eq_true rfl) rfl ?_
                first | exact ⟨⟨by rw [yrR, pick_t hpa, pick_t (by simp [c_19, c_29]), if_pos hne, nn_nI (by omega), nn_nI (by omega)], _, rfl⟩, rfl⟩ | exact ⟨⟨by rw [yrR, pick_t hpa, pick_t (by simp [c_19, c_29]), if_neg hne, nn_nI (by omega), nn_nI (by omega), nn_nI (by omega)], _, rfl⟩, rfl⟩
            · have hys := ys_lt s (by omega) k
              have hyb := yB_ok (O := O) (T := T) (K := K) (s := s) hB hfd k
              have hyn := yN_le O T K fd B s k
              refine k_bipush Ox (v := nI 75) dX5_year_54 rfl ?_
              refine k_iload Ox dX5_year_56 4 rfl ?_
              refine k_imulN Ox dX5_year_58 ?_
              refine k_bipush Ox (v := nI 74) dX5_year_59 rfl ?_
              refine k_iaddN Ox dX5_year_61 ?_
              refine k_ldc Ox (65537) dX5_year_62 lk_X5_year_k155 ?_
              refine k_top (nI 65537) rfl ?_
              refine k_iremN Ox dX5_year_64 (by omega) (by decide) (by decide) ?_
              refine k_top (nI (ys s (k + 1))) rfl ?_
              have hys2 := ys_lt s (by omega) (k + 1)
              refine k_istore Ox [(4, _), (0, _), (1, _), (2, _), (3, _), (5, _), (6, _)] dX5_year_65 (by decide) rfl ?_
              refine k_iload Ox dX5_year_67 5 rfl ?_
              refine k_aload_n Ox dX5_year_69 rfl 1 rfl ?_
              refine k_iload Ox dX5_year_70 0 rfl ?_
              refine k_bipush Ox (v := nI 6) dX5_year_72 rfl ?_
              refine k_iremN Ox dX5_year_74 (by omega) (by first | decide | omega) (by first | decide | omega) ?_
              refine k_iload Ox dX5_year_75 0 rfl ?_
              refine k_bipush Ox (v := nI 6) dX5_year_77 rfl ?_
              refine k_idivN Ox dX5_year_79 (by omega) (by first | decide | omega) (by first | decide | omega) ?_
              refine k_bipush Ox (v := nI 6) dX5_year_80 rfl ?_
              refine k_iremN Ox dX5_year_82 (by omega) (by first | decide | omega) (by first | decide | omega) ?_
              refine k_iload Ox dX5_year_83 0 rfl ?_
              refine k_bipush Ox (v := nI 36) dX5_year_85 rfl ?_
              refine k_idivN Ox dX5_year_87 (by omega) (by first | decide | omega) (by first | decide | omega) ?_
              refine k_bipush Ox (v := nI 6) dX5_year_88 rfl ?_
              refine k_iremN Ox dX5_year_90 (by omega) (by first | decide | omega) (by first | decide | omega) ?_
              refine k_callV Ox [0, 1, 2, 3, 5] (c_X5_tells G _ _ _ _ _ _ _ _ _ _ _ _ _ _ _ _ _ _ _ _ _ _ _ _ _ _ _ _ _ _ (hO) (hT) (hK) (hN) (hyb) (by omega) (by omega) (by omega)) 3 rfl rfl rfl ⟨rfl, rfl⟩ rfl rfl gX5_year_X5_tells rfl 0 rfl ⟨rfl, (by decide +kernel), (by decide +kernel), (by decide +kernel)⟩ rfl dX5_year_91 (Nat.le_of_ble_eq_true rfl) rfl ⟨Nat.le_of_ble_eq_true rfl, Nat.le_of_ble_eq_true rfl⟩ (fun r wa wb hp => ?_)
              obtain ⟨⟨rfl, rfl⟩, rfl⟩ := hp
              show V x G _ _ _ _ _ (.int _ :: _) [_, _, _, _, _, _]
              refine k_if_eqB Ox 101 dX5_year_94 rfl (fun c_94 => ?_) (fun c_94 => ?_)
              · refine k_iconst Ox (v := nI 0) dX5_year_101 rfl ?_
                refine k_iaddN Ox dX5_year_102 ?_
                refine k_istore Ox [(5, _), (4, _), (0, _), (1, _), (2, _), (3, _), (6, _)] dX5_year_103 (by decide) rfl ?_
                refine k_iload Ox dX5_year_105 6 rfl ?_
                refine k_bipush Ox (v := nI 10) dX5_year_107 rfl ?_
                refine k_iremN Ox dX5_year_109 (by omega) (by first | decide | omega) (by first | decide | omega) ?_
                refine k_if_neN Ox 117 dX5_year_110 rfl (by omega) (fun c_110 => ?_) (fun c_110 => ?_)
                · refine k_iincN Ox (k := 6) (m := 1) [(6, _), (5, _), (4, _), (0, _), (1, _), (2, _), (3, _)] dX5_year_117 rfl rfl (by decide) rfl ?_
                  refine k_goto Ox 48 dX5_year_120 rfl ?_
                  refine k_sub [3, 4, 5, 6, 2, 1, 0] [(0, _), (1, _), (2, _), (3, _), (4, _), (5, _), (6, _)] rfl ?_
                  first | rw [yB_d c_110] | rw [yB_n c_110]
                  first | rw [yN_t c_94] | rw [yN_f c_94]
                  exact ih (k + 1) (by omega) (by omega)
                · refine k_aload_n Ox dX5_year_113 rfl 2 rfl ?_
                  refine k_callV Ox [0, 5] (c_X5_pass G _ _ _ _ _ _ _ _ _ _ _ _ _ _ _ _ _ _ _ _ _ _ _ _ (tellB_ok hyb hfd)) 0 rfl rfl rfl ⟨rfl, rfl⟩ rfl rfl gX5_year_X5_pass rfl 0 rfl ⟨rfl, (by decide +kernel), (by decide +kernel), (by decide +kernel)⟩ rfl dX5_year_114 (Nat.le_of_ble_eq_true rfl) rfl ⟨Nat.le_of_ble_eq_true rfl, Nat.le_of_ble_eq_true rfl⟩ (fun r wa wb hp => ?_)
                  obtain ⟨⟨rfl, rfl⟩, rfl⟩ := hp
                  show V x G _ _ _ _ _ _ [_, _, _, _, _, _]
                  refine k_iincN Ox (k := 6) (m := 1) [(6, _), (5, _), (4, _), (0, _), (1, _), (2, _), (3, _)] dX5_year_117 rfl rfl (by decide) rfl ?_
                  refine k_goto Ox 48 dX5_year_120 rfl ?_
                  refine k_sub [3, 4, 5, 6, 2, 1, 0] [(0, _), (1, _), (2, _), (3, _), (4, _), (5, _), (6, _)] rfl ?_
                  first | rw [yB_d c_110] | rw [yB_n c_110]
                  first | rw [yN_t c_94] | rw [yN_f c_94]
                  exact ih (k + 1) (by omega) (by omega)
              · refine k_iconst Ox (v := nI 1) dX5_year_97 rfl ?_
                refine k_goto Ox 102 dX5_year_98 rfl ?_
                refine k_iaddN Ox dX5_year_102 ?_
                refine k_istore Ox [(5, _), (4, _), (0, _), (1, _), (2, _), (3, _), (6, _)] dX5_year_103 (by decide) rfl ?_
                refine k_iload Ox dX5_year_105 6 rfl ?_
                refine k_bipush Ox (v := nI 10) dX5_year_107 rfl ?_
                refine k_iremN Ox dX5_year_109 (by omega) (by first | decide | omega) (by first | decide | omega) ?_
                refine k_if_neN Ox 117 dX5_year_110 rfl (by omega) (fun c_110 => ?_) (fun c_110 => ?_)
                · refine k_iincN Ox (k := 6) (m := 1) [(6, _), (5, _), (4, _), (0, _), (1, _), (2, _), (3, _)] dX5_year_117 rfl rfl (by decide) rfl ?_
                  refine k_goto Ox 48 dX5_year_120 rfl ?_
                  refine k_sub [3, 4, 5, 6, 2, 1, 0] [(0, _), (1, _), (2, _), (3, _), (4, _), (5, _), (6, _)] rfl ?_
                  first | rw [yB_d c_110] | rw [yB_n c_110]
                  first | rw [yN_t c_94] | rw [yN_f c_94]
                  exact ih (k + 1) (by omega) (by omega)
                · refine k_aload_n Ox dX5_year_113 rfl 2 rfl ?_
                  refine k_callV Ox [0, 5] (c_X5_pass G _ _ _ _ _ _ _ _ _ _ _ _ _ _ _ _ _ _ _ _ _ _ _ _ (tellB_ok hyb hfd)) 0 rfl rfl rfl ⟨rfl, rfl⟩ rfl rfl gX5_year_X5_pass rfl 0 rfl ⟨rfl, (by decide +kernel), (by decide +kernel), (by decide +kernel)⟩ rfl dX5_year_114 (Nat.le_of_ble_eq_true rfl) rfl ⟨Nat.le_of_ble_eq_true rfl, Nat.le_of_ble_eq_true rfl⟩ (fun r wa wb hp => ?_)
                  obtain ⟨⟨rfl, rfl⟩, rfl⟩ := hp
                  show V x G _ _ _ _ _ _ [_, _, _, _, _, _]
                  refine k_iincN Ox (k := 6) (m := 1) [(6, _), (5, _), (4, _), (0, _), (1, _), (2, _), (3, _)] dX5_year_117 rfl rfl (by decide) rfl ?_
                  refine k_goto Ox 48 dX5_year_120 rfl ?_
                  refine k_sub [3, 4, 5, 6, 2, 1, 0] [(0, _), (1, _), (2, _), (3, _), (4, _), (5, _), (6, _)] rfl ?_
                  first | rw [yB_d c_110] | rw [yB_n c_110]
                  first | rw [yN_t c_94] | rw [yN_f c_94]
                  exact ih (k + 1) (by omega) (by omega)
        refine k_sub [3, 4, 5, 6, 2, 1, 0] [(0, _), (1, _), (2, _), (3, _), (4, _), (5, _), (6, _)] rfl ?_
        exact L48 (m1 + 1) 0 (by omega) (by omega)
      · refine k_bipush Ox (v := -2) dX5_year_32 (by decide) ?_
        refine k_iret0 Ox Rt dX5_year_34 (Nat.le_of_ble_eq_true rfl) (Nat.le_of_ble_eq_true rfl) rfl ?_
        exact ⟨⟨by first | rw [yrR, pick_t hpa, pick_f (and_f1 c_19)] | rw [yrR, pick_t hpa, pick_f (and_f2 c_29)], _, rfl⟩, rfl⟩
  · have hpa := isPA_in x3 c_6
    refine k_iconst Ox (v := -1) dX5_year_9 (by decide) ?_
    refine k_iret0 Ox Rt dX5_year_10 (Nat.le_of_ble_eq_true rfl) (Nat.le_of_ble_eq_true rfl) rfl ?_
    exact ⟨⟨by rw [yrR, pick_f hpa], _, rfl⟩, rfl⟩
