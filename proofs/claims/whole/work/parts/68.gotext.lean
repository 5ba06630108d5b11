theorem lk_X5_goText_f79 : Cond.fieldLink RX5 79 "LieBridgesModel" "parts" "I" ∈ wsX5_goText := List.mem_of_getElem? (i := 1) rfl
theorem hin_X5_goText_X5 : ∀ w ∈ u_ws RX5 TX5 22, w ∈ wsX5_goText := fun _ h => List.mem_cons_of_mem _ (List.mem_append_right _ h)
theorem lk_X5_goText_f82 : Cond.fieldLink RX5 82 "LieBridgesModel" "vainAt" "I" ∈ wsX5_goText := List.mem_of_getElem? (i := 2) rfl
theorem lk_X5_goText_f62 : Cond.fieldLink RX5 62 "LieBridgesModel" "signs" "I" ∈ wsX5_goText := List.mem_of_getElem? (i := 3) rfl
theorem lk_X5_goText_f38 : Cond.fieldLink RX5 38 "LieBridgesModel" "pad" "[I" ∈ wsX5_goText := List.mem_of_getElem? (i := 4) rfl
set_option maxHeartbeats 2000000 in
set_option maxRecDepth 4000 in
theorem c_X5_goText (G : Gx) (m a1 a2 a3 a4 a5 a6 a7 a8 a9 a10 a11 a12 a13 : Nat) (fd sg mn : Nat) (w1 w2 w3 w4 w5 w6 : Int32) (O T K GU : Nat → Nat) (B : Nat → Nat → Nat) (g : Nat → Int32) (PS : Nat → Nat) (P : Ps) (f : Nat) (x2 : Int32) (hO : okP O) (hT : okM T) (hK : okM K) (hN : noSelf T) (hB : okB B) (hfd : fd < 10) (hmn : mn ≤ 60) (hPS : ∀ i, i < mn → PS i < 128) (hv : rdv PS P mn = -6) (hf : f < 1000) (hg : ∀ j, j < pA (rdp PS P mn) → GU j < 6 ∧ GU j = f / 6 ^ (pA (rdp PS P mn) - 1 - j) % 6) : Ct G yX5_goText wsX5_goText { frames := 2, cells := 0, slots := 0, locals := 45 } [.ref m, .int (nI f), .int x2] [(m, cO 5 [.ref a1, .ref a2, .ref a3, .ref a4, .ref a5, .ref a6, .ref a7, .int (nI fd), .int (nI sg), .ref a8, .int (nI mn), .ref a9, .ref a10, .int w1, .int w2, .ref a11, .int w3, .int w4, .int w5, .int w6, .ref a12, .ref a13]), (a3, cI G 6 (rN O)), (a4, cI G 6 (rN T)), (a5, cI G 6 (rN K)), (a6, cI G 36 (rN (flM B))), (a10, cI G 36 g), (a9, cI G 60 (rN PS))] (fun r wa => r = some (.int (nI (vnC O T K fd GU (rdp PS P mn) B (pN (rdp PS P mn))))) ∧ wa = [(m, cO 5 [.ref a1, .ref a2, .ref a3, .ref a4, .ref a5, .ref a6, .ref a7, .int (nI fd), .int (nI sg), .ref a8, .int (nI mn), .ref a9, .ref a10, .int (nI (pN (rdp PS P mn))), .int (vnF O T K fd GU (rdp PS P mn) B x2 (pN (rdp PS P mn))), .ref a11, .int w3, .int w4, .int w5, .int w6, .ref a12, .ref a13]), (a3, cI G 6 (rN O)), (a4, cI G 6 (rN T)), (a5, cI G 6 (rN K)), (a6, cI G 36 (rN (flM B))), (a10, cI G 36 (rN (flM (plyB O T K fd GU (rdp PS P mn) B (pN (rdp PS P mn)))))), (a9, cI G 60 (rN PS))]) := by
  refine CtN.of [(0, .ref m), (1, .int (nI f)), (2, .int x2)] (by decide +kernel) rfl rfl rfl rfl ?_
  intro x Ox Rt
  obtain ⟨hS, hS0⟩ := rd_sim hmn hv
  have hend := tp_end hS hS0
  have hA3 := Sim_a3 hS
  have hAo := Sim_o hS
  obtain ⟨hpn, hpa, hpts⟩ := rd_pts (GU := GU) hmn (fun j hj => (hg j hj).1) hv
  refine k_aload_n Ox dX5_goText_0 rfl 0 rfl ?_
  refine k_callV Ox [0, 4, 5] (c_X5_asNow G _ _ _ _ _ _ _ _ _ _ _ _ _ _ _ _ _ _ _ _ _ _ _ _ _ ) 0 rfl rfl rfl ⟨rfl, rfl⟩ rfl rfl gX5_goText_X5_asNow rfl 0 rfl ⟨rfl, (by decide +kernel), (by decide +kernel), (by decide +kernel)⟩ rfl dX5_goText_1 (Nat.le_of_ble_eq_true rfl) rfl ⟨Nat.le_of_ble_eq_true rfl, Nat.le_of_ble_eq_true rfl⟩ (fun r wa wb hp => ?_)
  obtain ⟨⟨rfl, rfl⟩, rfl⟩ := hp
  show V x G _ _ _ _ _ _ [_, _, _, _, _, _, _]
  refine k_iconst Ox (v := nI 1) dX5_goText_4 rfl ?_
  refine k_istore_n Ox [(3, _), (0, _), (1, _), (2, _)] dX5_goText_5 rfl (by decide) rfl ?_
  refine k_iconst Ox (v := nI 1) dX5_goText_6 rfl ?_
  refine k_istore Ox [(4, _), (3, _), (0, _), (1, _), (2, _)] dX5_goText_7 (by decide) rfl ?_
  have L9 : ∀ (fuel : Nat) (i w : Nat), (i = 0 ∨ i + 1 ≤ opnM PS mn) → opnM PS mn + 1 ≤ i + fuel → w = 6 ^ i → w ≤ 36 → V x G 11 0 0 9 [(0, .ref m), (1, .int (nI f)), (2, .int x2), (3, .int (nI w)), (4, .int (nI (1 + i)))] [] [(m, cO 5 [.ref a1, .ref a2, .ref a3, .ref a4, .ref a5, .ref a6, .ref a7, .int (nI fd), .int (nI sg), .ref a8, .int (nI mn), .ref a9, .ref a10, .int w1, .int w2, .ref a11, .int w3, .int w4, .int w5, .int w6, .ref a12, .ref a13]), (a3, cI G 6 (rN O)), (a4, cI G 6 (rN T)), (a5, cI G 6 (rN K)), (a6, cI G 36 (rN (flM B))), (a10, cI G 36 (rN (flM B))), (a9, cI G 60 (rN PS))] := by
    intro fuel
    induction fuel with
    | zero => intro i w hi hfuel hw hw36; exfalso; omega
    | succ fuel ih =>
      intro i w hi hfuel hw hw36
      refine k_iload Ox dX5_goText_9 4 rfl ?_
      refine k_aload_n Ox dX5_goText_11 rfl 0 rfl ?_
      refine k_callV Ox [0, 6] (c_X5_opens G _ _ _ _ _ _ _ _ _ _ _ _ _ _ _ _ _ _ _ _ _ _ _ _ (hmn) (hPS)) 0 rfl rfl rfl ⟨rfl, rfl⟩ rfl rfl gX5_goText_X5_opens rfl 0 rfl ⟨rfl, (by decide +kernel), (by decide +kernel), (by decide +kernel)⟩ rfl dX5_goText_12 (Nat.le_of_ble_eq_true rfl) rfl ⟨Nat.le_of_ble_eq_true rfl, Nat.le_of_ble_eq_true rfl⟩ (fun r wa wb hp => ?_)
      obtain ⟨⟨rfl, rfl⟩, rfl⟩ := hp
      show V x G _ _ _ _ _ (.int _ :: _) [_, _, _, _, _, _, _]
      refine k_icmp_geN Ox 29 dX5_goText_15 rfl (by omega) (by omega) (fun c_15 => ?_) (fun c_15 => ?_)
      · have hw0 : w = pwM PS (pA (rdp PS P mn)) 0 := by rw [hw]; unfold pwM; rw [show opnM PS (tp PS 0) = 0 from rfl, hAo]; congr 1; omega
        refine k_aload_n Ox dX5_goText_29 rfl 0 rfl ?_
        refine k_iconst Ox (v := nI 0) dX5_goText_30 rfl ?_
        refine k_put Ox 0 rfl rfl hin_X5_goText_X5 13 rfl lk_X5_goText_f79 rfl tyX5 tyX5_ok nmX5 rfl  rfl rfl rfl [_, _, _, _, _, _, _, _, _, _, _, _, _, _, _, _, _, _, _, _, _, _] rfl [_, _, _, _, _, _, _] rfl dX5_goText_31 ?_
        refine k_aload_n Ox dX5_goText_34 rfl 0 rfl ?_
        refine k_bipush Ox (v := -6) dX5_goText_35 (by decide) ?_
        refine k_put Ox 0 rfl rfl hin_X5_goText_X5 14 rfl lk_X5_goText_f82 rfl tyX5 tyX5_ok nmX5 rfl  rfl rfl rfl [_, _, _, _, _, _, _, _, _, _, _, _, _, _, _, _, _, _, _, _, _, _] rfl [_, _, _, _, _, _, _] rfl dX5_goText_37 ?_
        refine k_iconst Ox (v := nI 0) dX5_goText_40 rfl ?_
        refine k_istore Ox [(4, _), (0, _), (1, _), (2, _), (3, _)] dX5_goText_41 (by decide) rfl ?_
        refine k_iconst Ox (v := nI 0) dX5_goText_43 rfl ?_
        refine k_istore Ox [(5, _), (4, _), (0, _), (1, _), (2, _), (3, _)] dX5_goText_44 (by decide) rfl ?_
        have L46 : ∀ (fuel : Nat) (i pw : Nat), i ≤ pN (rdp PS P mn) → pN (rdp PS P mn) + 1 ≤ i + fuel → pw = (pwM PS (pA (rdp PS P mn)) i) → V x G 11 0 0 46 [(0, .ref m), (1, .int (nI f)), (2, .int x2), (3, .int (nI pw)), (4, .int (nI (vnC O T K fd GU (rdp PS P mn) B i))), (5, .int (nI (tp PS i)))] [] [(m, cO 5 [.ref a1, .ref a2, .ref a3, .ref a4, .ref a5, .ref a6, .ref a7, .int (nI fd), .int (nI sg), .ref a8, .int (nI mn), .ref a9, .ref a10, .int (nI i), .int (vnF O T K fd GU (rdp PS P mn) B x2 i), .ref a11, .int w3, .int w4, .int w5, .int w6, .ref a12, .ref a13]), (a3, cI G 6 (rN O)), (a4, cI G 6 (rN T)), (a5, cI G 6 (rN K)), (a6, cI G 36 (rN (flM B))), (a10, cI G 36 (rN (flM (plyB O T K fd GU (rdp PS P mn) B i)))), (a9, cI G 60 (rN PS))] := by
          intro fuel
          induction fuel with
          | zero => intro i pw hi hfuel hpw; exact absurd hi (by omega)
          | succ fuel ih2 =>
            intro i pw hi hfuel hpw
            refine k_iload Ox dX5_goText_46 5 rfl ?_
            refine k_aload_n Ox dX5_goText_48 rfl 0 rfl ?_
            have htl : tp PS i ≤ mn := tp_le hS hS0 hi
            have hvc := vnC_le O T K fd GU (rdp PS P mn) B i
            refine k_get Ox 0 rfl rfl hin_X5_goText_X5 10 rfl lk_X5_goText_f62 rfl rfl dX5_goText_49 ?_
            refine k_icmp_geN Ox 287 dX5_goText_52 rfl (by omega) (by omega) (fun c_52 => ?_) (fun c_52 => ?_)
            · have hie : i = pN (rdp PS P mn) := tp_out hS hi (by omega)
              subst hie
              refine k_iload Ox dX5_goText_287 4 rfl ?_
              refine k_iret0 Ox Rt dX5_goText_289 (Nat.le_of_ble_eq_true rfl) (Nat.le_of_ble_eq_true rfl) rfl ?_
              exact ⟨⟨rfl, rfl⟩, rfl⟩
            · have hin : i < pN (rdp PS P mn) := tp_in hS hS0 hi (by omega)
              have hpl := pwM_le (PS := PS) (i := i) hA3
              have hpp := pwM_pos PS (pA (rdp PS P mn)) i
              have hbi := plyB_ok (O := O) (T := T) (K := K) (GU := GU) (P := rdp PS P mn) hB hfd i
              have hs1 := hPS (tp PS i) (by omega)
              have L245 : ∀ (ft : Bool) (pw2 q : Nat), ft = efOK O T K GU (rdp PS P mn) (plyB O T K fd GU (rdp PS P mn) B i) i → pw2 = (pwM PS (pA (rdp PS P mn)) (i + 1)) → q = tp PS (i + 1) → V x G 11 0 0 245 [(0, .ref m), (1, .int (nI f)), (2, .int x2), (3, .int (nI pw2)), (4, .int (nI (vnC O T K fd GU (rdp PS P mn) B i))), (5, .int (nI q)), (6, .int (bI ft))] [] [(m, cO 5 [.ref a1, .ref a2, .ref a3, .ref a4, .ref a5, .ref a6, .ref a7, .int (nI fd), .int (nI sg), .ref a8, .int (nI mn), .ref a9, .ref a10, .int (nI i), .int (vnF O T K fd GU (rdp PS P mn) B x2 i), .ref a11, .int w3, .int w4, .int w5, .int w6, .ref a12, .ref a13]), (a3, cI G 6 (rN O)), (a4, cI G 6 (rN T)), (a5, cI G 6 (rN K)), (a6, cI G 36 (rN (flM B))), (a10, cI G 36 (rN (flM (plyB O T K fd GU (rdp PS P mn) B (i + 1))))), (a9, cI G 60 (rN PS))] := by
                intro ft pw2 q hft hpw2 hq; subst hq
                refine k_iload Ox dX5_goText_245 6 rfl ?_
                refine k_if_neB Ox 274 dX5_goText_247 rfl (fun c_247 => ?_) (fun c_247 => ?_)
                · refine k_aload_n Ox dX5_goText_274 rfl 0 rfl ?_
                  refine k_dup Ox dX5_goText_275 rfl ?_
                  refine k_get Ox 0 rfl rfl hin_X5_goText_X5 13 rfl lk_X5_goText_f79 rfl rfl dX5_goText_276 ?_
                  refine k_iconst Ox (v := nI 1) dX5_goText_279 rfl ?_
                  refine k_iaddN Ox dX5_goText_280 ?_
                  refine k_put Ox 0 rfl rfl hin_X5_goText_X5 13 rfl lk_X5_goText_f79 rfl tyX5 tyX5_ok nmX5 rfl  rfl rfl rfl [_, _, _, _, _, _, _, _, _, _, _, _, _, _, _, _, _, _, _, _, _, _] rfl [_, _, _, _, _, _, _] rfl dX5_goText_281 ?_
                  refine k_goto Ox 46 dX5_goText_284 rfl ?_
                  refine k_sub [0, 1, 2, 3, 4, 5] [(0, _), (1, _), (2, _), (3, _), (4, _), (5, _)] rfl ?_
                  first | (have e := vn_t (x := x2) (hft.symm.trans c_247); rw [e.1, e.2]; exact ih2 (i + 1) _ (by omega) (by omega) hpw2) | (have e := vn_f1 (hft.symm.trans c_247) c_254; rw [e.1, e.2]; exact ih2 (i + 1) _ (by omega) (by omega) hpw2) | (have e := vn_f2 (hft.symm.trans c_247) c_254; rw [e.1, e.2]; exact ih2 (i + 1) _ (by omega) (by omega) hpw2)
                · refine k_aload_n Ox dX5_goText_250 rfl 0 rfl ?_
                  refine k_iload Ox dX5_goText_251 4 rfl ?_
                  refine k_iload_n Ox dX5_goText_253 rfl 2 rfl ?_
                  refine k_icmp_ne Ox 264 dX5_goText_254 rfl (fun c_254 => ?_) (fun c_254 => ?_)
                  · refine k_aload_n Ox dX5_goText_264 rfl 0 rfl ?_
                    refine k_get Ox 0 rfl rfl hin_X5_goText_X5 14 rfl lk_X5_goText_f82 rfl rfl dX5_goText_265 ?_
                    refine k_put Ox 0 rfl rfl hin_X5_goText_X5 14 rfl lk_X5_goText_f82 rfl tyX5 tyX5_ok nmX5 rfl  rfl rfl rfl [_, _, _, _, _, _, _, _, _, _, _, _, _, _, _, _, _, _, _, _, _, _] rfl [_, _, _, _, _, _, _] rfl dX5_goText_268 ?_
                    refine k_iincN Ox (k := 4) (m := 1) [(4, _), (0, _), (1, _), (2, _), (3, _), (5, _), (6, _)] dX5_goText_271 rfl rfl (by decide) rfl ?_
                    refine k_aload_n Ox dX5_goText_274 rfl 1 rfl ?_
                    refine k_dup Ox dX5_goText_275 rfl ?_
                    refine k_get Ox 0 rfl rfl hin_X5_goText_X5 13 rfl lk_X5_goText_f79 rfl rfl dX5_goText_276 ?_
                    refine k_iconst Ox (v := nI 1) dX5_goText_279 rfl ?_
                    refine k_iaddN Ox dX5_goText_280 ?_
                    refine k_put Ox 0 rfl rfl hin_X5_goText_X5 13 rfl lk_X5_goText_f79 rfl tyX5 tyX5_ok nmX5 rfl  rfl rfl rfl [_, _, _, _, _, _, _, _, _, _, _, _, _, _, _, _, _, _, _, _, _, _] rfl [_, _, _, _, _, _, _] rfl dX5_goText_281 ?_
                    refine k_goto Ox 46 dX5_goText_284 rfl ?_
                    refine k_sub [1, 2, 3, 4, 0, 5] [(0, _), (1, _), (2, _), (3, _), (4, _), (5, _)] rfl ?_
                    first | (have e := vn_t (x := x2) (hft.symm.trans c_247); rw [e.1, e.2]; exact ih2 (i + 1) _ (by omega) (by omega) hpw2) | (have e := vn_f1 (hft.symm.trans c_247) c_254; rw [e.1, e.2]; exact ih2 (i + 1) _ (by omega) (by omega) hpw2) | (have e := vn_f2 (hft.symm.trans c_247) c_254; rw [e.1, e.2]; exact ih2 (i + 1) _ (by omega) (by omega) hpw2)
                  · refine k_aload_n Ox dX5_goText_257 rfl 0 rfl ?_
                    refine k_get Ox 0 rfl rfl hin_X5_goText_X5 13 rfl lk_X5_goText_f79 rfl rfl dX5_goText_258 ?_
                    refine k_goto Ox 268 dX5_goText_261 rfl ?_
                    refine k_put Ox 0 rfl rfl hin_X5_goText_X5 14 rfl lk_X5_goText_f82 rfl tyX5 tyX5_ok nmX5 rfl  rfl rfl rfl [_, _, _, _, _, _, _, _, _, _, _, _, _, _, _, _, _, _, _, _, _, _] rfl [_, _, _, _, _, _, _] rfl dX5_goText_268 ?_
                    refine k_iincN Ox (k := 4) (m := 1) [(4, _), (0, _), (1, _), (2, _), (3, _), (5, _), (6, _)] dX5_goText_271 rfl rfl (by decide) rfl ?_
                    refine k_aload_n Ox dX5_goText_274 rfl 1 rfl ?_
                    refine k_dup Ox dX5_goText_275 rfl ?_
                    refine k_get Ox 0 rfl rfl hin_X5_goText_X5 13 rfl lk_X5_goText_f79 rfl rfl dX5_goText_276 ?_
                    refine k_iconst Ox (v := nI 1) dX5_goText_279 rfl ?_
                    refine k_iaddN Ox dX5_goText_280 ?_
                    refine k_put Ox 0 rfl rfl hin_X5_goText_X5 13 rfl lk_X5_goText_f79 rfl tyX5 tyX5_ok nmX5 rfl  rfl rfl rfl [_, _, _, _, _, _, _, _, _, _, _, _, _, _, _, _, _, _, _, _, _, _] rfl [_, _, _, _, _, _, _] rfl dX5_goText_281 ?_
                    refine k_goto Ox 46 dX5_goText_284 rfl ?_
                    refine k_sub [1, 2, 3, 4, 0, 5] [(0, _), (1, _), (2, _), (3, _), (4, _), (5, _)] rfl ?_
                    first | (have e := vn_t (x := x2) (hft.symm.trans c_247); rw [e.1, e.2]; exact ih2 (i + 1) _ (by omega) (by omega) hpw2) | (have e := vn_f1 (hft.symm.trans c_247) c_254; rw [e.1, e.2]; exact ih2 (i + 1) _ (by omega) (by omega) hpw2) | (have e := vn_f2 (hft.symm.trans c_247) c_254; rw [e.1, e.2]; exact ih2 (i + 1) _ (by omega) (by omega) hpw2)
              refine k_iconst Ox (v := nI 1) dX5_goText_55 rfl ?_
              refine k_istore Ox [(6, _), (0, _), (1, _), (2, _), (3, _), (4, _), (5, _)] dX5_goText_56 (by decide) rfl ?_
              refine k_aload_n Ox dX5_goText_58 rfl 1 rfl ?_
              refine k_get Ox 0 rfl rfl hin_X5_goText_X5 11 rfl lk_X5_goText_f38 rfl rfl dX5_goText_59 ?_
              refine k_iload Ox dX5_goText_62 6 rfl ?_
              refine k_iald Ox 6 rfl (by omega) (by first | decide | omega) dX5_goText_64 ?_
              refine k_bipush Ox (v := nI 46) dX5_goText_65 rfl ?_
              refine k_icmp_neN Ox 80 dX5_goText_67 rfl (by omega) (by omega) (fun c_67 => ?_) (fun c_67 => ?_)
              · obtain ⟨hsp, hhe3, hw3⟩ := pt_word hS hin c_67
                have hsp6 := spkOK_lt hsp
                have hs2 := hPS (tp PS i + 1) (by omega)
                have hs3 := hPS (tp PS i + 2) (by omega)
                obtain ⟨hh1, hh2, hhe⟩ := hhe3
                have hhe := hhe.symm
                have hk3 : spkr GU (rdp PS P mn) i < 6 := by rcases hpts i hin with z | z; exact absurd z (pt_k hS hin c_67); exact z.2.2.1
                have L138 : ∀ (pw2 : Nat), pw2 = (pwM PS (pA (rdp PS P mn)) (i + 1)) → V x G 11 0 0 138 [(0, .ref m), (1, .int (nI f)), (2, .int x2), (3, .int (nI pw)), (4, .int (nI (vnC O T K fd GU (rdp PS P mn) B i))), (5, .int (nI (tp PS i))), (6, .int (nI 1)), (7, .int (nI (spkr GU (rdp PS P mn) i)))] [.int (nI pw2)] [(m, cO 5 [.ref a1, .ref a2, .ref a3, .ref a4, .ref a5, .ref a6, .ref a7, .int (nI fd), .int (nI sg), .ref a8, .int (nI mn), .ref a9, .ref a10, .int (nI i), .int (vnF O T K fd GU (rdp PS P mn) B x2 i), .ref a11, .int w3, .int w4, .int w5, .int w6, .ref a12, .ref a13]), (a3, cI G 6 (rN O)), (a4, cI G 6 (rN T)), (a5, cI G 6 (rN K)), (a6, cI G 36 (rN (flM B))), (a10, cI G 36 (rN (flM (plyB O T K fd GU (rdp PS P mn) B i)))), (a9, cI G 60 (rN PS))] := by
                  intro pw2 hpw2
                  refine k_istore_n Ox [(3, _), (0, _), (1, _), (2, _), (4, _), (5, _), (6, _), (7, _)] dX5_goText_138 rfl (by decide) rfl ?_
                  refine k_aload_n Ox dX5_goText_139 rfl 1 rfl ?_
                  refine k_get Ox 0 rfl rfl hin_X5_goText_X5 11 rfl lk_X5_goText_f38 rfl rfl dX5_goText_140 ?_
                  refine k_iload Ox dX5_goText_143 5 rfl ?_
                  refine k_iconst Ox (v := nI 1) dX5_goText_145 rfl ?_
                  refine k_iaddN Ox dX5_goText_146 ?_
                  refine k_iald Ox 6 rfl (by omega) (by first | decide | omega) dX5_goText_147 ?_
                  refine k_bipush Ox (v := nI 65) dX5_goText_148 rfl ?_
                  refine k_isubN Ox dX5_goText_150 (by omega) ?_
                  refine k_istore Ox [(8, _), (3, _), (0, _), (1, _), (2, _), (4, _), (5, _), (6, _), (7, _)] dX5_goText_151 (by decide) rfl ?_
                  refine k_aload_n Ox dX5_goText_153 rfl 2 rfl ?_
                  refine k_get Ox 0 rfl rfl hin_X5_goText_X5 11 rfl lk_X5_goText_f38 rfl rfl dX5_goText_154 ?_
                  refine k_iload Ox dX5_goText_157 6 rfl ?_
                  refine k_iconst Ox (v := nI 2) dX5_goText_159 rfl ?_
                  refine k_iaddN Ox dX5_goText_160 ?_
                  refine k_iald Ox 6 rfl (by omega) (by first | decide | omega) dX5_goText_161 ?_
                  refine k_bipush Ox (v := nI 45) dX5_goText_162 rfl ?_
                  refine k_icmp_neN Ox 171 dX5_goText_164 rfl (by omega) (by omega) (fun c_164 => ?_) (fun c_164 => ?_)
                  · have hd := pt_tel hS hin c_67 c_164
                    obtain ⟨hd1, hd2, hd3, hd4, hd5, hd6⟩ := id hd
                    refine k_iconst Ox (v := nI 0) dX5_goText_171 rfl ?_
                    refine k_istore Ox [(9, _), (8, _), (3, _), (0, _), (1, _), (2, _), (4, _), (5, _), (6, _), (7, _)] dX5_goText_172 (by decide) rfl ?_
                    refine k_aload_n Ox dX5_goText_174 rfl 3 rfl ?_
                    refine k_get Ox 0 rfl rfl hin_X5_goText_X5 11 rfl lk_X5_goText_f38 rfl rfl dX5_goText_175 ?_
                    refine k_iload Ox dX5_goText_178 0 rfl ?_
                    refine k_if_eqN Ox 190 dX5_goText_180 rfl (by decide) (fun _ => ?_) (fun h => absurd h (by decide))
                    refine k_iload Ox dX5_goText_190 7 rfl ?_
                    refine k_iconst Ox (v := nI 2) dX5_goText_192 rfl ?_
                    refine k_iaddN Ox dX5_goText_193 ?_
                    refine k_iald Ox 6 rfl (by omega) (by first | decide | omega) dX5_goText_194 ?_
                    refine k_bipush Ox (v := nI 48) dX5_goText_195 rfl ?_
                    refine k_isubN Ox dX5_goText_197 (by omega) ?_
                    refine k_istore Ox [(10, _), (9, _), (8, _), (3, _), (0, _), (1, _), (2, _), (4, _), (5, _), (6, _), (7, _)] dX5_goText_198 (by decide) rfl ?_
                    refine k_iload Ox dX5_goText_200 1 rfl ?_
                    refine k_if_eqN Ox 218 dX5_goText_202 rfl (by decide) (fun _ => ?_) (fun h => absurd h (by decide))
                    refine k_aload_n Ox dX5_goText_218 rfl 4 rfl ?_
                    refine k_iload Ox dX5_goText_219 10 rfl ?_
                    refine k_iload Ox dX5_goText_221 2 rfl ?_
                    refine k_iload Ox dX5_goText_223 0 rfl ?_
                    refine k_callV Ox [0, 1, 2, 3, 5] (c_X5_tells G _ _ _ _ _ _ _ _ _ _ _ _ _ _ _ _ _ _ _ _ _ _ _ _ _ _ _ _ _ _ (hO) (hT) (hK) (hN) (hbi) (hk3) (by omega) (by omega)) 3 rfl rfl rfl ⟨rfl, rfl⟩ rfl rfl gX5_goText_X5_tells rfl 0 rfl ⟨rfl, (by decide +kernel), (by decide +kernel), (by decide +kernel)⟩ rfl dX5_goText_225 (Nat.le_of_ble_eq_true rfl) rfl ⟨Nat.le_of_ble_eq_true rfl, Nat.le_of_ble_eq_true rfl⟩ (fun r wa wb hp => ?_)
                    obtain ⟨⟨rfl, rfl⟩, rfl⟩ := hp
                    show V x G _ _ _ _ _ (.int _ :: _) [_, _, _, _, _, _, _]
                    refine k_istore Ox [(6, _), (10, _), (9, _), (8, _), (3, _), (0, _), (1, _), (2, _), (4, _), (5, _), (7, _)] dX5_goText_228 (by decide) rfl ?_
                    refine k_iload Ox dX5_goText_230 9 rfl ?_
                    refine k_iload Ox dX5_goText_232 2 rfl ?_
                    refine k_if_eqN Ox 241 dX5_goText_234 rfl (by decide) (fun _ => ?_) (fun h => absurd h (by decide))
                    refine k_iconst Ox (v := nI 3) dX5_goText_241 rfl ?_
                    refine k_iaddN Ox dX5_goText_242 ?_
                    refine k_istore Ox [(5, _), (6, _), (10, _), (9, _), (8, _), (3, _), (0, _), (1, _), (2, _), (4, _), (7, _)] dX5_goText_243 (by decide) rfl ?_
                    refine k_sub [6, 7, 8, 5, 9, 0, 1] [(0, _), (1, _), (2, _), (3, _), (4, _), (5, _), (6, _)] rfl ?_
                    first | (have e := L245 true _ _ (ef_day hz.1).1 (hpw.trans (pw_same hz.2.2)) hz.2.1.symm; rw [(ef_day hz.1).2] at e; exact e) | (have e := L245 _ _ _ (ef_den hd.1 rfl hhe hd.2.2.2.1.symm).1 hpw2 hd.2.2.2.2.2.symm; rw [(ef_den hd.1 rfl hhe hd.2.2.2.1.symm).2] at e; exact e) | (have e := L245 _ _ _ (ef_tel hd.1 rfl hhe hd.2.2.2.1.symm).1 hpw2 hd.2.2.2.2.2.symm; rw [(ef_tel hd.1 rfl hhe hd.2.2.2.1.symm).2] at e; exact e)
                  · have hd := pt_den hS hin c_67 c_164
                    obtain ⟨hd1, hd2, hd3, hd4, hd5, hd6⟩ := id hd
                    have hs4 := hPS (tp PS i + 3) (by omega)
                    refine k_iconst Ox (v := nI 1) dX5_goText_167 rfl ?_
                    refine k_goto Ox 172 dX5_goText_168 rfl ?_
                    refine k_istore Ox [(9, _), (8, _), (3, _), (0, _), (1, _), (2, _), (4, _), (5, _), (6, _), (7, _)] dX5_goText_172 (by decide) rfl ?_
                    refine k_aload_n Ox dX5_goText_174 rfl 3 rfl ?_
                    refine k_get Ox 0 rfl rfl hin_X5_goText_X5 11 rfl lk_X5_goText_f38 rfl rfl dX5_goText_175 ?_
                    refine k_iload Ox dX5_goText_178 0 rfl ?_
                    refine k_if_eqN Ox 190 dX5_goText_180 rfl (by decide) (fun h => absurd h (by decide)) (fun _ => ?_)
                    refine k_iload Ox dX5_goText_183 7 rfl ?_
                    refine k_iconst Ox (v := nI 3) dX5_goText_185 rfl ?_
                    refine k_iaddN Ox dX5_goText_186 ?_
                    refine k_goto Ox 194 dX5_goText_187 rfl ?_
                    refine k_iald Ox 6 rfl (by omega) (by first | decide | omega) dX5_goText_194 ?_
                    refine k_bipush Ox (v := nI 48) dX5_goText_195 rfl ?_
                    refine k_isubN Ox dX5_goText_197 (by omega) ?_
                    refine k_istore Ox [(10, _), (9, _), (8, _), (3, _), (0, _), (1, _), (2, _), (4, _), (5, _), (6, _), (7, _)] dX5_goText_198 (by decide) rfl ?_
                    refine k_iload Ox dX5_goText_200 1 rfl ?_
                    refine k_if_eqN Ox 218 dX5_goText_202 rfl (by decide) (fun h => absurd h (by decide)) (fun _ => ?_)
                    refine k_aload_n Ox dX5_goText_205 rfl 4 rfl ?_
                    refine k_iload Ox dX5_goText_206 10 rfl ?_
                    refine k_iload Ox dX5_goText_208 2 rfl ?_
                    refine k_iload Ox dX5_goText_210 0 rfl ?_
                    refine k_callV Ox [0, 2, 5] (c_X5_denies G _ _ _ _ _ _ _ _ _ _ _ _ _ _ _ _ _ _ _ _ _ _ _ _ _ _ _ _ (hT) (hN) (hbi) (hk3) (by omega) (by omega)) 3 rfl rfl rfl ⟨rfl, rfl⟩ rfl rfl gX5_goText_X5_denies rfl 0 rfl ⟨rfl, (by decide +kernel), (by decide +kernel), (by decide +kernel)⟩ rfl dX5_goText_212 (Nat.le_of_ble_eq_true rfl) rfl ⟨Nat.le_of_ble_eq_true rfl, Nat.le_of_ble_eq_true rfl⟩ (fun r wa wb hp => ?_)
                    obtain ⟨⟨rfl, rfl⟩, rfl⟩ := hp
                    show V x G _ _ _ _ _ (.int _ :: _) [_, _, _, _, _, _, _]
                    refine k_goto Ox 228 dX5_goText_215 rfl ?_
                    refine k_istore Ox [(6, _), (10, _), (9, _), (8, _), (3, _), (0, _), (1, _), (2, _), (4, _), (5, _), (7, _)] dX5_goText_228 (by decide) rfl ?_
                    refine k_iload Ox dX5_goText_230 9 rfl ?_
                    refine k_iload Ox dX5_goText_232 2 rfl ?_
                    refine k_if_eqN Ox 241 dX5_goText_234 rfl (by decide) (fun h => absurd h (by decide)) (fun _ => ?_)
                    refine k_iconst Ox (v := nI 4) dX5_goText_237 rfl ?_
                    refine k_goto Ox 242 dX5_goText_238 rfl ?_
                    refine k_iaddN Ox dX5_goText_242 ?_
                    refine k_istore Ox [(5, _), (6, _), (10, _), (9, _), (8, _), (3, _), (0, _), (1, _), (2, _), (4, _), (7, _)] dX5_goText_243 (by decide) rfl ?_
                    refine k_sub [6, 7, 8, 5, 9, 0, 1] [(0, _), (1, _), (2, _), (3, _), (4, _), (5, _), (6, _)] rfl ?_
                    first | (have e := L245 true _ _ (ef_day hz.1).1 (hpw.trans (pw_same hz.2.2)) hz.2.1.symm; rw [(ef_day hz.1).2] at e; exact e) | (have e := L245 _ _ _ (ef_den hd.1 rfl hhe hd.2.2.2.1.symm).1 hpw2 hd.2.2.2.2.2.symm; rw [(ef_den hd.1 rfl hhe hd.2.2.2.1.symm).2] at e; exact e) | (have e := L245 _ _ _ (ef_tel hd.1 rfl hhe hd.2.2.2.1.symm).1 hpw2 hd.2.2.2.2.2.symm; rw [(ef_tel hd.1 rfl hhe hd.2.2.2.1.symm).2] at e; exact e)
                have L111 : ∀ (v : Nat), v = spkr GU (rdp PS P mn) i → V x G 11 0 0 111 [(0, .ref m), (1, .int (nI f)), (2, .int x2), (3, .int (nI pw)), (4, .int (nI (vnC O T K fd GU (rdp PS P mn) B i))), (5, .int (nI (tp PS i))), (6, .int (nI 1))] [.int (nI v)] [(m, cO 5 [.ref a1, .ref a2, .ref a3, .ref a4, .ref a5, .ref a6, .ref a7, .int (nI fd), .int (nI sg), .ref a8, .int (nI mn), .ref a9, .ref a10, .int (nI i), .int (vnF O T K fd GU (rdp PS P mn) B x2 i), .ref a11, .int w3, .int w4, .int w5, .int w6, .ref a12, .ref a13]), (a3, cI G 6 (rN O)), (a4, cI G 6 (rN T)), (a5, cI G 6 (rN K)), (a6, cI G 36 (rN (flM B))), (a10, cI G 36 (rN (flM (plyB O T K fd GU (rdp PS P mn) B i)))), (a9, cI G 60 (rN PS))] := by
                  intro v hvv; subst hvv
                  refine k_istore Ox [(7, _), (0, _), (1, _), (2, _), (3, _), (4, _), (5, _), (6, _)] dX5_goText_111 (by decide) rfl ?_
                  refine k_aload_n Ox dX5_goText_113 rfl 1 rfl ?_
                  refine k_get Ox 0 rfl rfl hin_X5_goText_X5 11 rfl lk_X5_goText_f38 rfl rfl dX5_goText_114 ?_
                  refine k_iload Ox dX5_goText_117 6 rfl ?_
                  refine k_iald Ox 6 rfl (by omega) (by first | decide | omega) dX5_goText_119 ?_
                  refine k_bipush Ox (v := nI 63) dX5_goText_120 rfl ?_
                  refine k_icmp_neN Ox 137 dX5_goText_122 rfl (by omega) (by omega) (fun c_122 => ?_) (fun c_122 => ?_)
                  · refine k_iload_n Ox dX5_goText_137 rfl 4 rfl ?_
                    refine k_sub [1, 2, 3, 4, 5, 6, 7, 0] [(0, _), (1, _), (2, _), (3, _), (4, _), (5, _), (6, _), (7, _)] rfl ?_
                    first | exact L138 _ (hpw.trans (pw_same ((pt_opn hS hin c_67).trans (opn_no c_122)))) | exact L138 _ ((congrArg (fun z => z / 6) hpw).trans (pw_div ((pt_opn hS hin c_67).trans (opn_63 c_122)) (hpw ▸ (by omega)))) | exact L138 _ (hpw.trans (pw_one ((pt_opn hS hin c_67).trans (opn_63 c_122)) (hpw ▸ (by omega))))
                  · refine k_iload_n Ox dX5_goText_125 rfl 4 rfl ?_
                    refine k_iconst Ox (v := nI 1) dX5_goText_126 rfl ?_
                    refine k_icmp_leN Ox 137 dX5_goText_127 rfl (by omega) (by omega) (fun c_127 => ?_) (fun c_127 => ?_)
                    · refine k_iload_n Ox dX5_goText_137 rfl 4 rfl ?_
                      refine k_sub [1, 2, 3, 4, 5, 6, 7, 0] [(0, _), (1, _), (2, _), (3, _), (4, _), (5, _), (6, _), (7, _)] rfl ?_
                      first | exact L138 _ (hpw.trans (pw_same ((pt_opn hS hin c_67).trans (opn_no c_122)))) | exact L138 _ ((congrArg (fun z => z / 6) hpw).trans (pw_div ((pt_opn hS hin c_67).trans (opn_63 c_122)) (hpw ▸ (by omega)))) | exact L138 _ (hpw.trans (pw_one ((pt_opn hS hin c_67).trans (opn_63 c_122)) (hpw ▸ (by omega))))
                    · refine k_iload_n Ox dX5_goText_130 rfl 4 rfl ?_
                      refine k_bipush Ox (v := nI 6) dX5_goText_131 rfl ?_
                      refine k_idivN Ox dX5_goText_133 (by omega) (by first | decide | omega) (by first | decide | omega) ?_
                      refine k_goto Ox 138 dX5_goText_134 rfl ?_
                      refine k_sub [1, 2, 3, 4, 5, 6, 7, 0] [(0, _), (1, _), (2, _), (3, _), (4, _), (5, _), (6, _), (7, _)] rfl ?_
                      first | exact L138 _ (hpw.trans (pw_same ((pt_opn hS hin c_67).trans (opn_no c_122)))) | exact L138 _ ((congrArg (fun z => z / 6) hpw).trans (pw_div ((pt_opn hS hin c_67).trans (opn_63 c_122)) (hpw ▸ (by omega)))) | exact L138 _ (hpw.trans (pw_one ((pt_opn hS hin c_67).trans (opn_63 c_122)) (hpw ▸ (by omega))))
                refine k_aload_n Ox dX5_goText_80 rfl 1 rfl ?_
                refine k_get Ox 0 rfl rfl hin_X5_goText_X5 11 rfl lk_X5_goText_f38 rfl rfl dX5_goText_81 ?_
                refine k_iload Ox dX5_goText_84 6 rfl ?_
                refine k_iald Ox 6 rfl (by omega) (by first | decide | omega) dX5_goText_86 ?_
                refine k_bipush Ox (v := nI 63) dX5_goText_87 rfl ?_
                refine k_icmp_neN Ox 101 dX5_goText_89 rfl (by omega) (by omega) (fun c_89 => ?_) (fun c_89 => ?_)
                · refine k_aload_n Ox dX5_goText_101 rfl 1 rfl ?_
                  refine k_get Ox 0 rfl rfl hin_X5_goText_X5 11 rfl lk_X5_goText_f38 rfl rfl dX5_goText_102 ?_
                  refine k_iload Ox dX5_goText_105 6 rfl ?_
                  refine k_iald Ox 6 rfl (by omega) (by first | decide | omega) dX5_goText_107 ?_
                  refine k_bipush Ox (v := nI 65) dX5_goText_108 rfl ?_
                  refine k_isubN Ox dX5_goText_110 (by omega) ?_
                  refine k_sub [1, 2, 3, 4, 5, 6, 0] [(0, _), (1, _), (2, _), (3, _), (4, _), (5, _), (6, _)] rfl ?_
                  first | exact L111 _ (by rw [hpw]; exact pt_sp1 hS hin c_89 (pt_A hS hin c_89) (fun j hj => (hg j hj).2)) | exact L111 _ (pt_sp2 hS hin c_67 c_89)
                · have hfq : f / pw ≤ f := Nat.div_le_self _ _
                  refine k_iload_n Ox dX5_goText_92 rfl 2 rfl ?_
                  refine k_iload_n Ox dX5_goText_93 rfl 4 rfl ?_
                  refine k_idivN Ox dX5_goText_94 (by omega) (by first | decide | omega) (by first | decide | omega) ?_
                  refine k_bipush Ox (v := nI 6) dX5_goText_95 rfl ?_
                  refine k_iremN Ox dX5_goText_97 (by omega) (by first | decide | omega) (by first | decide | omega) ?_
                  refine k_goto Ox 111 dX5_goText_98 rfl ?_
                  refine k_sub [1, 2, 3, 4, 5, 6, 0] [(0, _), (1, _), (2, _), (3, _), (4, _), (5, _), (6, _)] rfl ?_
                  first | exact L111 _ (by rw [hpw]; exact pt_sp1 hS hin c_89 (pt_A hS hin c_89) (fun j hj => (hg j hj).2)) | exact L111 _ (pt_sp2 hS hin c_67 c_89)
              · have hz := pt_day hS hin c_67
                refine k_aload_n Ox dX5_goText_70 rfl 1 rfl ?_
                refine k_callV Ox [0, 5] (c_X5_pass G _ _ _ _ _ _ _ _ _ _ _ _ _ _ _ _ _ _ _ _ _ _ _ _ (hbi)) 0 rfl rfl rfl ⟨rfl, rfl⟩ rfl rfl gX5_goText_X5_pass rfl 0 rfl ⟨rfl, (by decide +kernel), (by decide +kernel), (by decide +kernel)⟩ rfl dX5_goText_71 (Nat.le_of_ble_eq_true rfl) rfl ⟨Nat.le_of_ble_eq_true rfl, Nat.le_of_ble_eq_true rfl⟩ (fun r wa wb hp => ?_)
                obtain ⟨⟨rfl, rfl⟩, rfl⟩ := hp
                show V x G _ _ _ _ _ _ [_, _, _, _, _, _, _]
                refine k_iincN Ox (k := 6) (m := 1) [(5, _), (6, _), (0, _), (1, _), (2, _), (3, _), (4, _)] dX5_goText_74 rfl rfl (by decide) rfl ?_
                refine k_goto Ox 245 dX5_goText_77 rfl ?_
                refine k_sub [2, 3, 4, 5, 6, 0, 1] [(0, _), (1, _), (2, _), (3, _), (4, _), (5, _), (6, _)] rfl ?_
                first | (have e := L245 true _ _ (ef_day hz.1).1 (hpw.trans (pw_same hz.2.2)) hz.2.1.symm; rw [(ef_day hz.1).2] at e; exact e) | (have e := L245 _ _ _ (ef_den hd.1 rfl hhe hd.2.2.2.1.symm).1 hpw2 hd.2.2.2.2.2.symm; rw [(ef_den hd.1 rfl hhe hd.2.2.2.1.symm).2] at e; exact e) | (have e := L245 _ _ _ (ef_tel hd.1 rfl hhe hd.2.2.2.1.symm).1 hpw2 hd.2.2.2.2.2.symm; rw [(ef_tel hd.1 rfl hhe hd.2.2.2.1.symm).2] at e; exact e)
        refine k_sub [2, 3, 4, 5, 1, 0] [(0, _), (1, _), (2, _), (3, _), (4, _), (5, _)] rfl ?_
        exact L46 (pN (rdp PS P mn) + 1) 0 _ (by omega) (by omega) hw0
      · have hw6 : w ≤ 6 := by rw [hw]; exact Nat.le_trans (Nat.pow_le_pow_right (by decide) (show i ≤ 1 by omega)) (by decide)
        refine k_iload_n Ox dX5_goText_18 rfl 3 rfl ?_
        refine k_bipush Ox (v := nI 6) dX5_goText_19 rfl ?_
        refine k_imulN Ox dX5_goText_21 ?_
        refine k_istore_n Ox [(3, _), (0, _), (1, _), (2, _), (4, _)] dX5_goText_22 rfl (by decide) rfl ?_
        refine k_iincN Ox (k := 4) (m := 1) [(4, _), (3, _), (0, _), (1, _), (2, _)] dX5_goText_23 rfl rfl (by decide) rfl ?_
        refine k_goto Ox 9 dX5_goText_26 rfl ?_
        refine k_sub [2, 3, 4, 1, 0] [(0, _), (1, _), (2, _), (3, _), (4, _)] rfl ?_
        exact ih (i + 1) _ (Or.inr (by omega)) (by omega) (by rw [hw, Nat.pow_succ]) (by omega)
  refine k_sub [2, 3, 4, 1, 0] [(0, _), (1, _), (2, _), (3, _), (4, _)] rfl ?_
  exact L9 (opnM PS mn + 1) 0 1 (Or.inl rfl) (by omega) rfl (by omega)
