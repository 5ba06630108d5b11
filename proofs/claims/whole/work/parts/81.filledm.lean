theorem lk_X5_filled_f152 : Cond.fieldLink RX5 152 "LieBridgesModel" "sights" "I" ∈ wsX5_filled := List.mem_of_getElem? (i := 1) rfl
theorem hin_X5_filled_X5 : ∀ w ∈ u_ws RX5 TX5 22, w ∈ wsX5_filled := fun _ h => List.mem_cons_of_mem _ (List.mem_append_right _ h)
theorem lk_X5_filled_f35 : Cond.fieldLink RX5 35 "LieBridgesModel" "sight" "[I" ∈ wsX5_filled := List.mem_of_getElem? (i := 2) rfl
set_option maxHeartbeats 2000000 in
set_option maxRecDepth 4000 in
theorem c_X5_filled (G : Gx) (m a1 a2 a3 a4 a5 a6 a7 a8 a9 a10 a11 a12 a13 : Nat) (fd sg mn : Nat) (w1 w2 w3 w4 w5 w6 : Int32) (O T K SP SL : Nat → Nat) (B : Nat → Nat → Nat) (g : Nat → Int32) (PS : Nat → Nat) (P : Ps) (x1 : Int32) (hO : okP O) (hT : okM T) (hK : okM K) (hN : noSelf T) (hB : okB B) (hfd : fd < 10) (hmn : mn ≤ 60) (hPS : ∀ i, i < mn → PS i < 128) (hsp : ∀ j, j < 6 → SP j < 6) (hsl : ∀ j, j < 6 → SL j ≤ 6) (hsg : sg ≤ 6) : Ct G yX5_filled wsX5_filled { frames := 3, cells := 0, slots := 0, locals := 75 } [.ref m, .int x1] [(m, cO 5 [.ref a1, .ref a2, .ref a3, .ref a4, .ref a5, .ref a6, .ref a7, .int (nI fd), .int (nI sg), .ref a8, .int (nI mn), .ref a9, .ref a10, .int w1, .int w2, .ref a11, .int w3, .int w4, .int w5, .int w6, .ref a12, .ref a13]), (a3, cI G 6 (rN O)), (a4, cI G 6 (rN T)), (a5, cI G 6 (rN K)), (a6, cI G 36 (rN (flM B))), (a8, cI G 12 (rN (flS SP SL))), (a10, cI G 36 g), (a9, cI G 60 (rN PS))] (fun r wa => r = some (.int (filR O T K fd PS P mn B SP SL sg x1)) ∧ ∃ g9 : Nat → Int32, ∃ w91 : Int32, ∃ w92 : Int32, wa = [(m, cO 5 [.ref a1, .ref a2, .ref a3, .ref a4, .ref a5, .ref a6, .ref a7, .int (nI fd), .int (nI sg), .ref a8, .int (nI mn), .ref a9, .ref a10, .int w91, .int w92, .ref a11, .int w3, .int w4, .int w5, .int w6, .ref a12, .ref a13]), (a3, cI G 6 (rN O)), (a4, cI G 6 (rN T)), (a5, cI G 6 (rN K)), (a6, cI G 36 (rN (flM B))), (a8, cI G 12 (rN (flS SP SL))), (a10, cI G 36 g9), (a9, cI G 60 (rN PS))]) := by
  refine CtN.of [(0, .ref m), (1, .int x1)] (by decide +kernel) rfl rfl rfl rfl ?_
  intro x Ox Rt
  refine k_aload_n Ox dX5_filled_0 rfl 0 rfl ?_
  refine k_callV Ox [0, 7] (c_X5_faultOf G _ _ _ _ _ _ _ _ _ _ _ _ _ _ _ _ _ _ _ _ _ _ _ _ (by assumption) (by assumption)) 0 rfl rfl rfl ⟨rfl, rfl⟩ rfl rfl gX5_filled_X5_faultOf rfl 0 rfl ⟨rfl, (by decide +kernel), (by decide +kernel), (by decide +kernel)⟩ rfl dX5_filled_1 (Nat.le_of_ble_eq_true rfl) rfl ⟨Nat.le_of_ble_eq_true rfl, Nat.le_of_ble_eq_true rfl⟩ (fun r wa wb hp => ?_)
  obtain ⟨⟨rfl, rfl⟩, rfl⟩ := hp
  show V x G _ _ _ _ _ (.int _ :: _) [_, _, _, _, _, _, _, _]
  refine k_if_lt Ox 10 dX5_filled_4 rfl (fun c_4 => ?_) (fun c_4 => ?_)
  · have hv := (flt_neg (P := P) hmn).1 c_4
    obtain ⟨hS, hS0⟩ := rd_sim hmn hv
    have hA3 := Sim_a3 hS
    have hAo := Sim_o hS
    have h216 := pow6_le hA3
    have hpn60 := (rd_ok hmn hv).2.2.2.1
    rw [← (rd_ok hmn hv).1] at hpn60
    refine k_bipush Ox (v := nI 6) dX5_filled_10 rfl ?_
    refine k_aload_n Ox dX5_filled_12 rfl 0 rfl ?_
    refine k_callV Ox [0, 7] (c_X5_opens G _ _ _ _ _ _ _ _ _ _ _ _ _ _ _ _ _ _ _ _ _ _ _ _ (by assumption) (by assumption)) 0 rfl rfl rfl ⟨rfl, rfl⟩ rfl rfl gX5_filled_X5_opens rfl 0 rfl ⟨rfl, (by decide +kernel), (by decide +kernel), (by decide +kernel)⟩ rfl dX5_filled_13 (Nat.le_of_ble_eq_true rfl) rfl ⟨Nat.le_of_ble_eq_true rfl, Nat.le_of_ble_eq_true rfl⟩ (fun r wa wb hp => ?_)
    obtain ⟨⟨rfl, rfl⟩, rfl⟩ := hp
    show V x G _ _ _ _ _ (.int _ :: _) [_, _, _, _, _, _, _, _]
    rw [← hAo]
    refine k_callS Ox [] (c_X5_powerOf G _ _ (by decide) (by omega) (by decide)) 2 rfl rfl rfl ⟨rfl, rfl⟩ rfl rfl gX5_filled_X5_powerOf ⟨(by decide +kernel), (by decide +kernel), (by decide +kernel)⟩ rfl dX5_filled_16 (Nat.le_of_ble_eq_true rfl) rfl ⟨Nat.le_of_ble_eq_true rfl, Nat.le_of_ble_eq_true rfl⟩ (fun r wa wb hp => ?_)
    obtain ⟨⟨rfl, rfl⟩, rfl⟩ := hp
    show V x G _ _ _ _ _ (.int _ :: _) [_, _, _, _, _, _, _, _]
    refine k_istore_n Ox [(2, _), (0, _), (1, _)] dX5_filled_19 rfl (by decide) rfl ?_
    refine k_iconst Ox (v := nI 0) dX5_filled_20 rfl ?_
    refine k_istore_n Ox [(3, _), (2, _), (0, _), (1, _)] dX5_filled_21 rfl (by decide) rfl ?_
    refine k_bipush Ox (v := -6) dX5_filled_22 (by decide) ?_
    refine k_istore Ox [(4, _), (3, _), (2, _), (0, _), (1, _)] dX5_filled_24 (by decide) rfl ?_
    refine k_iconst Ox (v := nI 0) dX5_filled_26 rfl ?_
    refine k_istore Ox [(5, _), (4, _), (3, _), (2, _), (0, _), (1, _)] dX5_filled_27 (by decide) rfl ?_
    have L29 : ∀ (fuel : Nat) (f cn : Nat) (fs : Int32) (g : Nat → Int32) (w v : Int32), f ≤ 6 ^ pA (rdp PS P mn) → 6 ^ pA (rdp PS P mn) + 1 ≤ f + fuel → cn = cnt (flGd O T K fd (rdp PS P mn) B SP SL sg) f → fs = fsI (flGd O T K fd (rdp PS P mn) B SP SL sg) f → V x G 8 0 0 29 [(0, .ref m), (1, .int x1), (2, .int (nI (6 ^ pA (rdp PS P mn)))), (3, .int (nI cn)), (4, .int fs), (5, .int (nI f))] [] [(m, cO 5 [.ref a1, .ref a2, .ref a3, .ref a4, .ref a5, .ref a6, .ref a7, .int (nI fd), .int (nI sg), .ref a8, .int (nI mn), .ref a9, .ref a10, .int w, .int v, .ref a11, .int w3, .int w4, .int w5, .int w6, .ref a12, .ref a13]), (a3, cI G 6 (rN O)), (a4, cI G 6 (rN T)), (a5, cI G 6 (rN K)), (a6, cI G 36 (rN (flM B))), (a8, cI G 12 (rN (flS SP SL))), (a10, cI G 36 g), (a9, cI G 60 (rN PS))] := by
      intro fuel
      induction fuel with
      | zero => intro f cn fs g w v hf hfuel hc hfs; exact absurd hf (by omega)
      | succ fuel ih =>
        intro f cn fs g w v hf hfuel hc hfs
        refine k_iload Ox dX5_filled_29 5 rfl ?_
        refine k_iload_n Ox dX5_filled_31 rfl 2 rfl ?_
        refine k_icmp_geN Ox 138 dX5_filled_32 rfl (by omega) (by omega) (fun c_32 => ?_) (fun c_32 => ?_)
        · obtain hfe : f = 6 ^ pA (rdp PS P mn) := by omega
          subst hfe
          subst hc
          subst hfs
          have hcl := cnt_le (flGd O T K fd (rdp PS P mn) B SP SL sg) (6 ^ pA (rdp PS P mn))
          have hfl := fsG_le (flGd O T K fd (rdp PS P mn) B SP SL sg) (6 ^ pA (rdp PS P mn))
          refine k_iload_n Ox dX5_filled_138 rfl 1 rfl ?_
          refine k_iconst Ox (v := -1) dX5_filled_139 (by decide) ?_
          refine k_icmp_ne Ox 145 dX5_filled_140 rfl (fun c_140 => ?_) (fun c_140 => ?_)
          · have hgv : (fsI (flGd O T K fd (rdp PS P mn) B SP SL sg) (6 ^ pA (rdp PS P mn))).toInt < 0 ∨ (0 < cnt (flGd O T K fd (rdp PS P mn) B SP SL sg) (6 ^ pA (rdp PS P mn)) ∧ fsI (flGd O T K fd (rdp PS P mn) B SP SL sg) (6 ^ pA (rdp PS P mn)) = nI (fsG (flGd O T K fd (rdp PS P mn) B SP SL sg) (6 ^ pA (rdp PS P mn)))) := by
              by_cases z : (fsI (flGd O T K fd (rdp PS P mn) B SP SL sg) (6 ^ pA (rdp PS P mn))).toInt < 0
              · exact Or.inl z
              · exact Or.inr (fsI_ge z)
            refine k_iload Ox dX5_filled_145 4 rfl ?_
            refine k_if_lt Ox 186 dX5_filled_147 rfl (fun c_147 => ?_) (fun c_147 => ?_)
            · have hz0 := fsI_lt (gd := (flGd O T K fd (rdp PS P mn) B SP SL sg)) (f := 6 ^ pA (rdp PS P mn)) h216 c_147
              refine k_bipush Ox (v := -6) dX5_filled_186 (by decide) ?_
              refine k_iret0 Ox Rt dX5_filled_188 (Nat.le_of_ble_eq_true rfl) (Nat.le_of_ble_eq_true rfl) rfl ?_
              first | exact ⟨⟨by rw [filR, if_pos hv, flV, if_neg c_140, if_neg (fun z => by omega)], _, _, _, rfl⟩, rfl⟩ | exact ⟨⟨by rw [filR, if_pos hv, flV, if_neg c_140, if_neg (fun z => hio z.2)], _, _, _, rfl⟩, rfl⟩ | exact ⟨⟨by rw [filR, if_pos hv, flV, if_neg c_140, if_pos ⟨hgp.1, by rw [nI_tI (by omega)]; omega, by rw [nI_tI (by omega)]; omega⟩, nn_nI (by omega)]; rfl, _, _, _, rfl⟩, rfl⟩
            · have hgp := hgv.elim (fun z => absurd z (by omega)) id
              rw [hgp.2]
              refine k_iload_n Ox dX5_filled_150 rfl 1 rfl ?_
              refine k_iconst Ox (v := nI 0) dX5_filled_151 rfl ?_
              refine k_aload_n Ox dX5_filled_152 rfl 0 rfl ?_
              refine k_callV Ox [0, 7] (c_X5_opens G _ _ _ _ _ _ _ _ _ _ _ _ _ _ _ _ _ _ _ _ _ _ _ _ (by assumption) (by assumption)) 0 rfl rfl rfl ⟨rfl, rfl⟩ rfl rfl gX5_filled_X5_opens rfl 0 rfl ⟨rfl, (by decide +kernel), (by decide +kernel), (by decide +kernel)⟩ rfl dX5_filled_153 (Nat.le_of_ble_eq_true rfl) rfl ⟨Nat.le_of_ble_eq_true rfl, Nat.le_of_ble_eq_true rfl⟩ (fun r wa wb hp => ?_)
              obtain ⟨⟨rfl, rfl⟩, rfl⟩ := hp
              show V x G _ _ _ _ _ (.int _ :: _) [_, _, _, _, _, _, _, _]
              rw [← hAo]
              refine k_iconst Ox (v := nI 1) dX5_filled_156 rfl ?_
              refine k_isub Ox dX5_filled_157 ?_
              refine k_callS Ox [] (c_X5_in G _ _ _ ) 3 rfl rfl rfl ⟨rfl, rfl⟩ rfl rfl gX5_filled_X5_in ⟨(by decide +kernel), (by decide +kernel), (by decide +kernel)⟩ rfl dX5_filled_158 (Nat.le_of_ble_eq_true rfl) rfl ⟨Nat.le_of_ble_eq_true rfl, Nat.le_of_ble_eq_true rfl⟩ (fun r wa wb hp => ?_)
              obtain ⟨⟨rfl, rfl⟩, rfl⟩ := hp
              show V x G _ _ _ _ _ (.int _ :: _) [_, _, _, _, _, _, _, _]
              refine k_if_eqB Ox 186 dX5_filled_161 rfl (fun c_161 => ?_) (fun c_161 => ?_)
              · have hio := bm_out (by omega) c_161
                refine k_bipush Ox (v := -6) dX5_filled_186 (by decide) ?_
                refine k_iret0 Ox Rt dX5_filled_188 (Nat.le_of_ble_eq_true rfl) (Nat.le_of_ble_eq_true rfl) rfl ?_
                first | exact ⟨⟨by rw [filR, if_pos hv, flV, if_neg c_140, if_neg (fun z => by omega)], _, _, _, rfl⟩, rfl⟩ | exact ⟨⟨by rw [filR, if_pos hv, flV, if_neg c_140, if_neg (fun z => hio z.2)], _, _, _, rfl⟩, rfl⟩ | exact ⟨⟨by rw [filR, if_pos hv, flV, if_neg c_140, if_pos ⟨hgp.1, by rw [nI_tI (by omega)]; omega, by rw [nI_tI (by omega)]; omega⟩, nn_nI (by omega)]; rfl, _, _, _, rfl⟩, rfl⟩
              · obtain ⟨t, ht, rfl⟩ := bm_in (by omega) c_161
                have hp6 : 1 ≤ 6 ^ (pA (rdp PS P mn) - 1 - t) ∧ 6 ^ (pA (rdp PS P mn) - 1 - t) ≤ 7776 := pw6_le5 (by omega)
                have hfd2 : fsG (flGd O T K fd (rdp PS P mn) B SP SL sg) (6 ^ pA (rdp PS P mn)) / 6 ^ (pA (rdp PS P mn) - 1 - t) ≤ fsG (flGd O T K fd (rdp PS P mn) B SP SL sg) (6 ^ pA (rdp PS P mn)) := Nat.div_le_self _ _
                refine k_iload Ox dX5_filled_164 4 rfl ?_
                refine k_bipush Ox (v := nI 6) dX5_filled_166 rfl ?_
                refine k_aload_n Ox dX5_filled_168 rfl 0 rfl ?_
                refine k_callV Ox [0, 7] (c_X5_opens G _ _ _ _ _ _ _ _ _ _ _ _ _ _ _ _ _ _ _ _ _ _ _ _ (by assumption) (by assumption)) 0 rfl rfl rfl ⟨rfl, rfl⟩ rfl rfl gX5_filled_X5_opens rfl 0 rfl ⟨rfl, (by decide +kernel), (by decide +kernel), (by decide +kernel)⟩ rfl dX5_filled_169 (Nat.le_of_ble_eq_true rfl) rfl ⟨Nat.le_of_ble_eq_true rfl, Nat.le_of_ble_eq_true rfl⟩ (fun r wa wb hp => ?_)
                obtain ⟨⟨rfl, rfl⟩, rfl⟩ := hp
                show V x G _ _ _ _ _ (.int _ :: _) [_, _, _, _, _, _, _, _]
                rw [← hAo]
                refine k_iconst Ox (v := nI 1) dX5_filled_172 rfl ?_
                refine k_isubN Ox dX5_filled_173 (by omega) ?_
                refine k_iload_n Ox dX5_filled_174 rfl 1 rfl ?_
                refine k_isubN Ox dX5_filled_175 (by omega) ?_
                refine k_callS Ox [] (c_X5_powerOf G _ _ (by omega) (by omega) (by omega)) 2 rfl rfl rfl ⟨rfl, rfl⟩ rfl rfl gX5_filled_X5_powerOf ⟨(by decide +kernel), (by decide +kernel), (by decide +kernel)⟩ rfl dX5_filled_176 (Nat.le_of_ble_eq_true rfl) rfl ⟨Nat.le_of_ble_eq_true rfl, Nat.le_of_ble_eq_true rfl⟩ (fun r wa wb hp => ?_)
                obtain ⟨⟨rfl, rfl⟩, rfl⟩ := hp
                show V x G _ _ _ _ _ (.int _ :: _) [_, _, _, _, _, _, _, _]
                refine k_idivN Ox dX5_filled_179 (by omega) (by first | decide | omega) (by first | decide | omega) ?_
                refine k_bipush Ox (v := nI 6) dX5_filled_180 rfl ?_
                refine k_iremN Ox dX5_filled_182 (by omega) (by first | decide | omega) (by first | decide | omega) ?_
                refine k_goto Ox 188 dX5_filled_183 rfl ?_
                refine k_iret0 Ox Rt dX5_filled_188 (Nat.le_of_ble_eq_true rfl) (Nat.le_of_ble_eq_true rfl) rfl ?_
                first | exact ⟨⟨by rw [filR, if_pos hv, flV, if_neg c_140, if_neg (fun z => by omega)], _, _, _, rfl⟩, rfl⟩ | exact ⟨⟨by rw [filR, if_pos hv, flV, if_neg c_140, if_neg (fun z => hio z.2)], _, _, _, rfl⟩, rfl⟩ | exact ⟨⟨by rw [filR, if_pos hv, flV, if_neg c_140, if_pos ⟨hgp.1, by rw [nI_tI (by omega)]; omega, by rw [nI_tI (by omega)]; omega⟩, nn_nI (by omega)]; rfl, _, _, _, rfl⟩, rfl⟩
          · refine k_iload_n Ox dX5_filled_143 rfl 3 rfl ?_
            refine k_iret0 Ox Rt dX5_filled_144 (Nat.le_of_ble_eq_true rfl) (Nat.le_of_ble_eq_true rfl) rfl ?_
            exact ⟨⟨by rw [filR, if_pos hv, flV, if_pos c_140], _, _, _, rfl⟩, rfl⟩
        · have hcl := cnt_le (flGd O T K fd (rdp PS P mn) B SP SL sg) f
          have L110 : ∀ (ft : Bool), ft = (decide ((vnC O T K fd (gq (pA (rdp PS P mn)) f) (rdp PS P mn) B (pN (rdp PS P mn))) = 0) && sgT (plyB O T K fd (gq (pA (rdp PS P mn)) f) (rdp PS P mn) B (pN (rdp PS P mn))) SP SL sg) → V x G 8 0 0 110 [(0, .ref m), (1, .int x1), (2, .int (nI (6 ^ pA (rdp PS P mn)))), (3, .int (nI cn)), (4, .int fs), (5, .int (nI f)), (6, .int (bI ft))] [] [(m, cO 5 [.ref a1, .ref a2, .ref a3, .ref a4, .ref a5, .ref a6, .ref a7, .int (nI fd), .int (nI sg), .ref a8, .int (nI mn), .ref a9, .ref a10, .int (nI (pN (rdp PS P mn))), .int (vnF O T K fd (gq (pA (rdp PS P mn)) f) (rdp PS P mn) B (-6) (pN (rdp PS P mn))), .ref a11, .int w3, .int w4, .int w5, .int w6, .ref a12, .ref a13]), (a3, cI G 6 (rN O)), (a4, cI G 6 (rN T)), (a5, cI G 6 (rN K)), (a6, cI G 36 (rN (flM B))), (a8, cI G 12 (rN (flS SP SL))), (a10, cI G 36 (rN (flM (plyB O T K fd (gq (pA (rdp PS P mn)) f) (rdp PS P mn) B (pN (rdp PS P mn)))))), (a9, cI G 60 (rN PS))] := by
            intro ft hft
            refine k_iload Ox dX5_filled_110 6 rfl ?_
            refine k_if_eqB Ox 132 dX5_filled_112 rfl (fun c_112 => ?_) (fun c_112 => ?_)
            · have hcn : flGd O T K fd (rdp PS P mn) B SP SL sg f = ft := (ft_fit _ _ _ _ _ _ _ _ _ _).trans hft.symm
              refine k_iincN Ox (k := 5) (m := 1) [(5, _), (0, _), (1, _), (2, _), (3, _), (4, _), (6, _)] dX5_filled_132 rfl rfl (by decide) rfl ?_
              refine k_goto Ox 29 dX5_filled_135 rfl ?_
              refine k_sub [1, 2, 3, 4, 5, 0] [(0, _), (1, _), (2, _), (3, _), (4, _), (5, _)] rfl ?_
              first | exact ih (f + 1) _ _ _ _ _ (by omega) (by omega) (hc.trans (fl_f (hcn.trans c_112)).1) (hfs.trans (fsI_no (hcn.trans c_112))) | exact ih (f + 1) _ _ _ _ _ (by omega) (by omega) ((congrArg (fun z => z + 1) hc).trans (fl_t1 (hcn.trans c_112) hcz).1) (fsI_up1 (hcn.trans c_112) hcz) | exact ih (f + 1) _ _ _ _ _ (by omega) (by omega) ((congrArg (fun z => z + 1) hc).trans (fl_t2 (hcn.trans c_112) hcz).1) (hfs.trans (fsI_up2 (hcn.trans c_112) hcz))
            · have hcn : flGd O T K fd (rdp PS P mn) B SP SL sg f = ft := (ft_fit _ _ _ _ _ _ _ _ _ _).trans hft.symm
              refine k_iload Ox dX5_filled_115 4 rfl ?_
              refine k_if_ge Ox 125 dX5_filled_117 rfl (fun c_117 => ?_) (fun c_117 => ?_)
              · have hcz := (fsI_ge (gd := (flGd O T K fd (rdp PS P mn) B SP SL sg)) (f := f) (by rw [← hfs]; omega)).1
                refine k_iload Ox dX5_filled_125 4 rfl ?_
                refine k_istore Ox [(4, _), (0, _), (1, _), (2, _), (3, _), (5, _), (6, _)] dX5_filled_127 (by decide) rfl ?_
                refine k_iincN Ox (k := 4) (m := 1) [(3, _), (4, _), (0, _), (1, _), (2, _), (5, _), (6, _)] dX5_filled_129 rfl rfl (by decide) rfl ?_
                refine k_iincN Ox (k := 5) (m := 1) [(5, _), (3, _), (4, _), (0, _), (1, _), (2, _), (6, _)] dX5_filled_132 rfl rfl (by decide) rfl ?_
                refine k_goto Ox 29 dX5_filled_135 rfl ?_
                refine k_sub [3, 4, 5, 1, 2, 0] [(0, _), (1, _), (2, _), (3, _), (4, _), (5, _)] rfl ?_
                first | exact ih (f + 1) _ _ _ _ _ (by omega) (by omega) (hc.trans (fl_f (hcn.trans c_112)).1) (hfs.trans (fsI_no (hcn.trans c_112))) | exact ih (f + 1) _ _ _ _ _ (by omega) (by omega) ((congrArg (fun z => z + 1) hc).trans (fl_t1 (hcn.trans c_112) hcz).1) (fsI_up1 (hcn.trans c_112) hcz) | exact ih (f + 1) _ _ _ _ _ (by omega) (by omega) ((congrArg (fun z => z + 1) hc).trans (fl_t2 (hcn.trans c_112) hcz).1) (hfs.trans (fsI_up2 (hcn.trans c_112) hcz))
              · have hcz := fsI_lt (gd := (flGd O T K fd (rdp PS P mn) B SP SL sg)) (f := f) (by omega) (by rw [← hfs]; omega)
                refine k_iload Ox dX5_filled_120 5 rfl ?_
                refine k_goto Ox 127 dX5_filled_122 rfl ?_
                refine k_istore Ox [(4, _), (0, _), (1, _), (2, _), (3, _), (5, _), (6, _)] dX5_filled_127 (by decide) rfl ?_
                refine k_iincN Ox (k := 4) (m := 1) [(3, _), (4, _), (0, _), (1, _), (2, _), (5, _), (6, _)] dX5_filled_129 rfl rfl (by decide) rfl ?_
                refine k_iincN Ox (k := 5) (m := 1) [(5, _), (3, _), (4, _), (0, _), (1, _), (2, _), (6, _)] dX5_filled_132 rfl rfl (by decide) rfl ?_
                refine k_goto Ox 29 dX5_filled_135 rfl ?_
                refine k_sub [3, 4, 5, 1, 2, 0] [(0, _), (1, _), (2, _), (3, _), (4, _), (5, _)] rfl ?_
                first | exact ih (f + 1) _ _ _ _ _ (by omega) (by omega) (hc.trans (fl_f (hcn.trans c_112)).1) (hfs.trans (fsI_no (hcn.trans c_112))) | exact ih (f + 1) _ _ _ _ _ (by omega) (by omega) ((congrArg (fun z => z + 1) hc).trans (fl_t1 (hcn.trans c_112) hcz).1) (fsI_up1 (hcn.trans c_112) hcz) | exact ih (f + 1) _ _ _ _ _ (by omega) (by omega) ((congrArg (fun z => z + 1) hc).trans (fl_t2 (hcn.trans c_112) hcz).1) (hfs.trans (fsI_up2 (hcn.trans c_112) hcz))
          refine k_aload_n Ox dX5_filled_35 rfl 0 rfl ?_
          refine k_iload Ox dX5_filled_36 5 rfl ?_
          refine k_bipush Ox (v := -6) dX5_filled_38 (by decide) ?_
          refine k_callV Ox [0, 1, 2, 3, 4, 6, 7] (c_X5_goText G _ _ _ _ _ _ _ _ _ _ _ _ _ _ _ _ _ _ _ _ _ _ _ _ _ _ (gq (pA (rdp PS P mn)) f) _ _ _ P _ _ (hO) (hT) (hK) (hN) (hB) (hfd) (hmn) (hPS) (hv) (by omega) (fun j hj => ⟨gq_lt _ _ _, rfl⟩)) 2 rfl rfl rfl ⟨rfl, rfl⟩ rfl rfl gX5_filled_X5_goText rfl 0 rfl ⟨rfl, (by decide +kernel), (by decide +kernel), (by decide +kernel)⟩ rfl dX5_filled_40 (Nat.le_of_ble_eq_true rfl) rfl ⟨Nat.le_of_ble_eq_true rfl, Nat.le_of_ble_eq_true rfl⟩ (fun r wa wb hp => ?_)
          obtain ⟨⟨rfl, rfl⟩, rfl⟩ := hp
          show V x G _ _ _ _ _ (.int _ :: _) [_, _, _, _, _, _, _, _]
          have hvl := vnC_le O T K fd (gq (pA (rdp PS P mn)) f) (rdp PS P mn) B (pN (rdp PS P mn))
          have hpb := plyB_ok (O := O) (T := T) (K := K) (GU := (gq (pA (rdp PS P mn)) f)) (P := rdp PS P mn) hB hfd (pN (rdp PS P mn))
          refine k_if_neN Ox 50 dX5_filled_43 rfl (by omega) (fun c_43 => ?_) (fun c_43 => ?_)
          · refine k_iconst Ox (v := nI 0) dX5_filled_50 rfl ?_
            refine k_istore Ox [(6, _), (0, _), (1, _), (2, _), (3, _), (4, _), (5, _)] dX5_filled_51 (by decide) rfl ?_
            refine k_iconst Ox (v := nI 0) dX5_filled_53 rfl ?_
            refine k_istore Ox [(7, _), (6, _), (0, _), (1, _), (2, _), (3, _), (4, _), (5, _)] dX5_filled_54 (by decide) rfl ?_
            have L56 : ∀ (fuel : Nat) (q : Nat) (ft : Bool), q ≤ sg → sg + 1 ≤ q + fuel → ft = (decide ((vnC O T K fd (gq (pA (rdp PS P mn)) f) (rdp PS P mn) B (pN (rdp PS P mn))) = 0) && sgT (plyB O T K fd (gq (pA (rdp PS P mn)) f) (rdp PS P mn) B (pN (rdp PS P mn))) SP SL q) → V x G 8 0 0 56 [(0, .ref m), (1, .int x1), (2, .int (nI (6 ^ pA (rdp PS P mn)))), (3, .int (nI cn)), (4, .int fs), (5, .int (nI f)), (6, .int (bI ft)), (7, .int (nI q))] [] [(m, cO 5 [.ref a1, .ref a2, .ref a3, .ref a4, .ref a5, .ref a6, .ref a7, .int (nI fd), .int (nI sg), .ref a8, .int (nI mn), .ref a9, .ref a10, .int (nI (pN (rdp PS P mn))), .int (vnF O T K fd (gq (pA (rdp PS P mn)) f) (rdp PS P mn) B (-6) (pN (rdp PS P mn))), .ref a11, .int w3, .int w4, .int w5, .int w6, .ref a12, .ref a13]), (a3, cI G 6 (rN O)), (a4, cI G 6 (rN T)), (a5, cI G 6 (rN K)), (a6, cI G 36 (rN (flM B))), (a8, cI G 12 (rN (flS SP SL))), (a10, cI G 36 (rN (flM (plyB O T K fd (gq (pA (rdp PS P mn)) f) (rdp PS P mn) B (pN (rdp PS P mn)))))), (a9, cI G 60 (rN PS))] := by
              intro fuel
              induction fuel with
              | zero => intro q ft hq hfuel hft; exact absurd hq (by omega)
              | succ fuel ih2 =>
                intro q ft hq hfuel hft
                refine k_iload Ox dX5_filled_56 7 rfl ?_
                refine k_aload_n Ox dX5_filled_58 rfl 0 rfl ?_
                refine k_get Ox 0 rfl rfl hin_X5_filled_X5 8 rfl lk_X5_filled_f152 rfl rfl dX5_filled_59 ?_
                refine k_icmp_geN Ox 110 dX5_filled_62 rfl (by omega) (by omega) (fun c_62 => ?_) (fun c_62 => ?_)
                · refine k_sub [0, 1, 2, 3, 4, 5, 6] [(0, _), (1, _), (2, _), (3, _), (4, _), (5, _), (6, _)] rfl ?_
                  first | exact L110 _ (sgT_end (Nat.le_antisymm hq c_62) hft) | exact L110 _ (hft.trans (sgT_stop hq (hft.symm.trans c_67)))
                · refine k_iload Ox dX5_filled_65 6 rfl ?_
                  refine k_if_eqB Ox 110 dX5_filled_67 rfl (fun c_67 => ?_) (fun c_67 => ?_)
                  · refine k_sub [0, 1, 2, 3, 4, 5, 6] [(0, _), (1, _), (2, _), (3, _), (4, _), (5, _), (6, _)] rfl ?_
                    first | exact L110 _ (sgT_end (Nat.le_antisymm hq c_62) hft) | exact L110 _ (hft.trans (sgT_stop hq (hft.symm.trans c_67)))
                  · have hs6 := hsp q (by omega)
                    have hl6 := hsl q (by omega)
                    have hll := ld_le (plyB O T K fd (gq (pA (rdp PS P mn)) f) (rdp PS P mn) B (pN (rdp PS P mn))) (SP q) 0
                    refine k_aload_n Ox dX5_filled_70 rfl 0 rfl ?_
                    refine k_aload_n Ox dX5_filled_71 rfl 0 rfl ?_
                    refine k_get Ox 0 rfl rfl hin_X5_filled_X5 9 rfl lk_X5_filled_f35 rfl rfl dX5_filled_72 ?_
                    refine k_iconst Ox (v := nI 2) dX5_filled_75 rfl ?_
                    refine k_iload Ox dX5_filled_76 7 rfl ?_
                    refine k_imulN Ox dX5_filled_78 ?_
                    refine k_iald Ox 5 rfl (by omega) (by first | decide | omega) dX5_filled_79 ?_
                    refine k_top (nI (SP q)) (flS_0 SP SL q) ?_
                    refine k_callV Ox [0, 6] (c_X5_bornBy G _ _ _ _ _ _ _ _ _ _ _ _ _ _ _ _ _ _ _ _ _ _ _ _ _ (hpb) (hs6)) 1 rfl rfl rfl ⟨rfl, rfl⟩ rfl rfl gX5_filled_X5_bornBy rfl 0 rfl ⟨rfl, (by decide +kernel), (by decide +kernel), (by decide +kernel)⟩ rfl dX5_filled_80 (Nat.le_of_ble_eq_true rfl) rfl ⟨Nat.le_of_ble_eq_true rfl, Nat.le_of_ble_eq_true rfl⟩ (fun r wa wb hp => ?_)
                    obtain ⟨⟨rfl, rfl⟩, rfl⟩ := hp
                    show V x G _ _ _ _ _ (.int _ :: _) [_, _, _, _, _, _, _, _]
                    refine k_aload_n Ox dX5_filled_83 rfl 0 rfl ?_
                    refine k_get Ox 0 rfl rfl hin_X5_filled_X5 9 rfl lk_X5_filled_f35 rfl rfl dX5_filled_84 ?_
                    refine k_iconst Ox (v := nI 2) dX5_filled_87 rfl ?_
                    refine k_iload Ox dX5_filled_88 7 rfl ?_
                    refine k_imulN Ox dX5_filled_90 ?_
                    refine k_iconst Ox (v := nI 1) dX5_filled_91 rfl ?_
                    refine k_iaddN Ox dX5_filled_92 ?_
                    refine k_iald Ox 5 rfl (by omega) (by first | decide | omega) dX5_filled_93 ?_
                    refine k_top (nI (SL q)) (flS_1 SP SL q) ?_
                    refine k_icmp_neN Ox 101 dX5_filled_94 rfl (by omega) (by omega) (fun c_94 => ?_) (fun c_94 => ?_)
                    · refine k_iconst Ox (v := nI 0) dX5_filled_101 rfl ?_
                      refine k_istore Ox [(6, _), (0, _), (1, _), (2, _), (3, _), (4, _), (5, _), (7, _)] dX5_filled_102 (by decide) rfl ?_
                      refine k_iincN Ox (k := 7) (m := 1) [(7, _), (6, _), (0, _), (1, _), (2, _), (3, _), (4, _), (5, _)] dX5_filled_104 rfl rfl (by decide) rfl ?_
                      refine k_goto Ox 56 dX5_filled_107 rfl ?_
                      refine k_sub [2, 3, 4, 5, 6, 7, 1, 0] [(0, _), (1, _), (2, _), (3, _), (4, _), (5, _), (6, _), (7, _)] rfl ?_
                      first | exact ih2 (q + 1) true (by omega) (by omega) (by rw [sgT_step, ← Bool.and_assoc, ← hft, c_67, decide_eq_true c_94]; rfl) | exact ih2 (q + 1) false (by omega) (by omega) (by rw [sgT_step, ← Bool.and_assoc, ← hft, decide_eq_false c_94, Bool.and_false])
                    · refine k_iconst Ox (v := nI 1) dX5_filled_97 rfl ?_
                      refine k_goto Ox 102 dX5_filled_98 rfl ?_
                      refine k_istore Ox [(6, _), (0, _), (1, _), (2, _), (3, _), (4, _), (5, _), (7, _)] dX5_filled_102 (by decide) rfl ?_
                      refine k_iincN Ox (k := 7) (m := 1) [(7, _), (6, _), (0, _), (1, _), (2, _), (3, _), (4, _), (5, _)] dX5_filled_104 rfl rfl (by decide) rfl ?_
                      refine k_goto Ox 56 dX5_filled_107 rfl ?_
                      refine k_sub [2, 3, 4, 5, 6, 7, 1, 0] [(0, _), (1, _), (2, _), (3, _), (4, _), (5, _), (6, _), (7, _)] rfl ?_
                      first | exact ih2 (q + 1) true (by omega) (by omega) (by rw [sgT_step, ← Bool.and_assoc, ← hft, c_67, decide_eq_true c_94]; rfl) | exact ih2 (q + 1) false (by omega) (by omega) (by rw [sgT_step, ← Bool.and_assoc, ← hft, decide_eq_false c_94, Bool.and_false])
            refine k_sub [2, 3, 4, 5, 6, 7, 1, 0] [(0, _), (1, _), (2, _), (3, _), (4, _), (5, _), (6, _), (7, _)] rfl ?_
            first | exact L56 (sg + 1) 0 true (by omega) (by omega) (by rw [decide_eq_true c_43]; rfl) | exact L56 (sg + 1) 0 false (by omega) (by omega) (by rw [decide_eq_false (Nat.pos_iff_ne_zero.mp c_43)]; rfl)
          · refine k_iconst Ox (v := nI 1) dX5_filled_46 rfl ?_
            refine k_goto Ox 51 dX5_filled_47 rfl ?_
            refine k_istore Ox [(6, _), (0, _), (1, _), (2, _), (3, _), (4, _), (5, _)] dX5_filled_51 (by decide) rfl ?_
            refine k_iconst Ox (v := nI 0) dX5_filled_53 rfl ?_
            refine k_istore Ox [(7, _), (6, _), (0, _), (1, _), (2, _), (3, _), (4, _), (5, _)] dX5_filled_54 (by decide) rfl ?_
            have L56 : ∀ (fuel : Nat) (q : Nat) (ft : Bool), q ≤ sg → sg + 1 ≤ q + fuel → ft = (decide ((vnC O T K fd (gq (pA (rdp PS P mn)) f) (rdp PS P mn) B (pN (rdp PS P mn))) = 0) && sgT (plyB O T K fd (gq (pA (rdp PS P mn)) f) (rdp PS P mn) B (pN (rdp PS P mn))) SP SL q) → V x G 8 0 0 56 [(0, .ref m), (1, .int x1), (2, .int (nI (6 ^ pA (rdp PS P mn)))), (3, .int (nI cn)), (4, .int fs), (5, .int (nI f)), (6, .int (bI ft)), (7, .int (nI q))] [] [(m, cO 5 [.ref a1, .ref a2, .ref a3, .ref a4, .ref a5, .ref a6, .ref a7, .int (nI fd), .int (nI sg), .ref a8, .int (nI mn), .ref a9, .ref a10, .int (nI (pN (rdp PS P mn))), .int (vnF O T K fd (gq (pA (rdp PS P mn)) f) (rdp PS P mn) B (-6) (pN (rdp PS P mn))), .ref a11, .int w3, .int w4, .int w5, .int w6, .ref a12, .ref a13]), (a3, cI G 6 (rN O)), (a4, cI G 6 (rN T)), (a5, cI G 6 (rN K)), (a6, cI G 36 (rN (flM B))), (a8, cI G 12 (rN (flS SP SL))), (a10, cI G 36 (rN (flM (plyB O T K fd (gq (pA (rdp PS P mn)) f) (rdp PS P mn) B (pN (rdp PS P mn)))))), (a9, cI G 60 (rN PS))] := by
              intro fuel
              induction fuel with
              | zero => intro q ft hq hfuel hft; exact absurd hq (by omega)
              | succ fuel ih2 =>
                intro q ft hq hfuel hft
                refine k_iload Ox dX5_filled_56 7 rfl ?_
                refine k_aload_n Ox dX5_filled_58 rfl 0 rfl ?_
                refine k_get Ox 0 rfl rfl hin_X5_filled_X5 8 rfl lk_X5_filled_f152 rfl rfl dX5_filled_59 ?_
                refine k_icmp_geN Ox 110 dX5_filled_62 rfl (by omega) (by omega) (fun c_62 => ?_) (fun c_62 => ?_)
                · refine k_sub [0, 1, 2, 3, 4, 5, 6] [(0, _), (1, _), (2, _), (3, _), (4, _), (5, _), (6, _)] rfl ?_
                  first | exact L110 _ (sgT_end (Nat.le_antisymm hq c_62) hft) | exact L110 _ (hft.trans (sgT_stop hq (hft.symm.trans c_67)))
                · refine k_iload Ox dX5_filled_65 6 rfl ?_
                  refine k_if_eqB Ox 110 dX5_filled_67 rfl (fun c_67 => ?_) (fun c_67 => ?_)
                  · refine k_sub [0, 1, 2, 3, 4, 5, 6] [(0, _), (1, _), (2, _), (3, _), (4, _), (5, _), (6, _)] rfl ?_
                    first | exact L110 _ (sgT_end (Nat.le_antisymm hq c_62) hft) | exact L110 _ (hft.trans (sgT_stop hq (hft.symm.trans c_67)))
                  · have hs6 := hsp q (by omega)
                    have hl6 := hsl q (by omega)
                    have hll := ld_le (plyB O T K fd (gq (pA (rdp PS P mn)) f) (rdp PS P mn) B (pN (rdp PS P mn))) (SP q) 0
                    refine k_aload_n Ox dX5_filled_70 rfl 0 rfl ?_
                    refine k_aload_n Ox dX5_filled_71 rfl 0 rfl ?_
                    refine k_get Ox 0 rfl rfl hin_X5_filled_X5 9 rfl lk_X5_filled_f35 rfl rfl dX5_filled_72 ?_
                    refine k_iconst Ox (v := nI 2) dX5_filled_75 rfl ?_
                    refine k_iload Ox dX5_filled_76 7 rfl ?_
                    refine k_imulN Ox dX5_filled_78 ?_
                    refine k_iald Ox 5 rfl (by omega) (by first | decide | omega) dX5_filled_79 ?_
                    refine k_top (nI (SP q)) (flS_0 SP SL q) ?_
                    refine k_callV Ox [0, 6] (c_X5_bornBy G _ _ _ _ _ _ _ _ _ _ _ _ _ _ _ _ _ _ _ _ _ _ _ _ _ (hpb) (hs6)) 1 rfl rfl rfl ⟨rfl, rfl⟩ rfl rfl gX5_filled_X5_bornBy rfl 0 rfl ⟨rfl, (by decide +kernel), (by decide +kernel), (by decide +kernel)⟩ rfl dX5_filled_80 (Nat.le_of_ble_eq_true rfl) rfl ⟨Nat.le_of_ble_eq_true rfl, Nat.le_of_ble_eq_true rfl⟩ (fun r wa wb hp => ?_)
                    obtain ⟨⟨rfl, rfl⟩, rfl⟩ := hp
                    show V x G _ _ _ _ _ (.int _ :: _) [_, _, _, _, _, _, _, _]
                    refine k_aload_n Ox dX5_filled_83 rfl 0 rfl ?_
                    refine k_get Ox 0 rfl rfl hin_X5_filled_X5 9 rfl lk_X5_filled_f35 rfl rfl dX5_filled_84 ?_
                    refine k_iconst Ox (v := nI 2) dX5_filled_87 rfl ?_
                    refine k_iload Ox dX5_filled_88 7 rfl ?_
                    refine k_imulN Ox dX5_filled_90 ?_
                    refine k_iconst Ox (v := nI 1) dX5_filled_91 rfl ?_
                    refine k_iaddN Ox dX5_filled_92 ?_
                    refine k_iald Ox 5 rfl (by omega) (by first | decide | omega) dX5_filled_93 ?_
                    refine k_top (nI (SL q)) (flS_1 SP SL q) ?_
                    refine k_icmp_neN Ox 101 dX5_filled_94 rfl (by omega) (by omega) (fun c_94 => ?_) (fun c_94 => ?_)
                    · refine k_iconst Ox (v := nI 0) dX5_filled_101 rfl ?_
                      refine k_istore Ox [(6, _), (0, _), (1, _), (2, _), (3, _), (4, _), (5, _), (7, _)] dX5_filled_102 (by decide) rfl ?_
                      refine k_iincN Ox (k := 7) (m := 1) [(7, _), (6, _), (0, _), (1, _), (2, _), (3, _), (4, _), (5, _)] dX5_filled_104 rfl rfl (by decide) rfl ?_
                      refine k_goto Ox 56 dX5_filled_107 rfl ?_
                      refine k_sub [2, 3, 4, 5, 6, 7, 1, 0] [(0, _), (1, _), (2, _), (3, _), (4, _), (5, _), (6, _), (7, _)] rfl ?_
                      first | exact ih2 (q + 1) true (by omega) (by omega) (by rw [sgT_step, ← Bool.and_assoc, ← hft, c_67, decide_eq_true c_94]; rfl) | exact ih2 (q + 1) false (by omega) (by omega) (by rw [sgT_step, ← Bool.and_assoc, ← hft, decide_eq_false c_94, Bool.and_false])
                    · refine k_iconst Ox (v := nI 1) dX5_filled_97 rfl ?_
                      refine k_goto Ox 102 dX5_filled_98 rfl ?_
                      refine k_istore Ox [(6, _), (0, _), (1, _), (2, _), (3, _), (4, _), (5, _), (7, _)] dX5_filled_102 (by decide) rfl ?_
                      refine k_iincN Ox (k := 7) (m := 1) [(7, _), (6, _), (0, _), (1, _), (2, _), (3, _), (4, _), (5, _)] dX5_filled_104 rfl rfl (by decide) rfl ?_
                      refine k_goto Ox 56 dX5_filled_107 rfl ?_
                      refine k_sub [2, 3, 4, 5, 6, 7, 1, 0] [(0, _), (1, _), (2, _), (3, _), (4, _), (5, _), (6, _), (7, _)] rfl ?_
                      first | exact ih2 (q + 1) true (by omega) (by omega) (by rw [sgT_step, ← Bool.and_assoc, ← hft, c_67, decide_eq_true c_94]; rfl) | exact ih2 (q + 1) false (by omega) (by omega) (by rw [sgT_step, ← Bool.and_assoc, ← hft, decide_eq_false c_94, Bool.and_false])
            refine k_sub [2, 3, 4, 5, 6, 7, 1, 0] [(0, _), (1, _), (2, _), (3, _), (4, _), (5, _), (6, _), (7, _)] rfl ?_
            first | exact L56 (sg + 1) 0 true (by omega) (by omega) (by rw [decide_eq_true c_43]; rfl) | exact L56 (sg + 1) 0 false (by omega) (by omega) (by rw [decide_eq_false (Nat.pos_iff_ne_zero.mp c_43)]; rfl)
    refine k_sub [4, 5, 3, 2, 1, 0] [(0, _), (1, _), (2, _), (3, _), (4, _), (5, _)] rfl ?_
    exact L29 (6 ^ pA (rdp PS P mn) + 1) 0 0 _ _ _ _ (Nat.zero_le _) (Nat.le_of_eq (by rw [Nat.zero_add])) rfl rfl
  · refine k_bipush Ox (v := -5) dX5_filled_7 (by decide) ?_
    refine k_iret0 Ox Rt dX5_filled_9 (Nat.le_of_ble_eq_true rfl) (Nat.le_of_ble_eq_true rfl) rfl ?_
    exact ⟨⟨by rw [filR, if_neg ((flt_neg hmn).2 (by omega))], _, _, _, rfl⟩, rfl⟩
