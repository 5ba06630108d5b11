theorem lk_X5_laySafe_f142 : Cond.fieldLink RX5 142 "LieBridgesModel" "safeUp" "I" ∈ wsX5_laySafe := List.mem_of_getElem? (i := 2) rfl
theorem hin_X5_laySafe_X5 : ∀ w ∈ u_ws RX5 TX5 22, w ∈ wsX5_laySafe := fun _ h => List.mem_cons_of_mem _ (List.mem_append_right _ h)
theorem lk_X5_laySafe_f119 : Cond.fieldLink RX5 119 "LieBridgesModel" "bestMany" "I" ∈ wsX5_laySafe := List.mem_of_getElem? (i := 3) rfl
theorem lk_X5_laySafe_f122 : Cond.fieldLink RX5 122 "LieBridgesModel" "bestCode" "I" ∈ wsX5_laySafe := List.mem_of_getElem? (i := 4) rfl
theorem lk_X5_laySafe_f28 : Cond.fieldLink RX5 28 "LieBridgesModel" "safety" "[I" ∈ wsX5_laySafe := List.mem_of_getElem? (i := 1) rfl
set_option maxHeartbeats 2000000 in
set_option maxRecDepth 4000 in
theorem c_X5_laySafe (G : Gx) (m a1 a2 a3 a4 a5 a6 a7 a8 a9 a10 a11 a12 a13 : Nat) (fd sg mn : Nat) (w1 w2 w3 w4 w5 w6 : Int32) (L Gr S : Nat → Nat) (a b : Nat) (hL : okP L) (hG : okP Gr) (hS : okS S) (ha : a < 6) (hb : b < 6) : Ct G yX5_laySafe wsX5_laySafe { frames := 2, cells := 0, slots := 0, locals := 46 } [.ref m, .int (nI a), .int (nI b)] [(m, cO 5 [.ref a1, .ref a2, .ref a3, .ref a4, .ref a5, .ref a6, .ref a7, .int (nI fd), .int (nI sg), .ref a8, .int (nI mn), .ref a9, .ref a10, .int w1, .int w2, .ref a11, .int w3, .int w4, .int w5, .int w6, .ref a12, .ref a13]), (a1, cI G 6 (rN L)), (a2, cI G 6 (rN Gr)), (a7, cI G 6 (rN S))] (fun r wa => r = some (.int (bI (sfS L Gr S b a).isSome)) ∧ wa = [(m, cO 5 [.ref a1, .ref a2, .ref a3, .ref a4, .ref a5, .ref a6, .ref a7, .int (nI fd), .int (nI sg), .ref a8, .int (nI mn), .ref a9, .ref a10, .int w1, .int w2, .ref a11, .int (smI (sfS L Gr S b a) w3), .int (skI (sfS L Gr S b a) w4), .int w5, .int (suI (sfS L Gr S b a) w6), .ref a12, .ref a13]), (a1, cI G 6 (rN L)), (a2, cI G 6 (rN Gr)), (a7, cI G 6 (rN S))]) := by
  refine CtN.of [(0, .ref m), (1, .int (nI a)), (2, .int (nI b))] (by decide +kernel) rfl rfl rfl rfl ?_
  intro x Ox Rt
  refine k_bipush Ox (v := -6) dX5_laySafe_0 (by decide) ?_
  refine k_istore_n Ox [(3, _), (0, _), (1, _), (2, _)] dX5_laySafe_2 rfl (by decide) rfl ?_
  refine k_iconst Ox (v := nI 0) dX5_laySafe_3 rfl ?_
  refine k_istore Ox [(4, _), (3, _), (0, _), (1, _), (2, _)] dX5_laySafe_4 (by decide) rfl ?_
  have L6 : ∀ (fuel : Nat) (mm : Nat), mm ≤ 6 → 7 ≤ mm + fuel → V x G 10 0 0 6 [(0, .ref m), (1, .int (nI a)), (2, .int (nI b)), (3, .int (moI (enA (sfG L Gr S b a) mm))), (4, .int (nI mm))] [] [(m, cO 5 [.ref a1, .ref a2, .ref a3, .ref a4, .ref a5, .ref a6, .ref a7, .int (nI fd), .int (nI sg), .ref a8, .int (nI mn), .ref a9, .ref a10, .int w1, .int w2, .ref a11, .int (smI (enA (sfG L Gr S b a) mm) w3), .int (skI (enA (sfG L Gr S b a) mm) w4), .int w5, .int (suI (enA (sfG L Gr S b a) mm) w6), .ref a12, .ref a13]), (a1, cI G 6 (rN L)), (a2, cI G 6 (rN Gr)), (a7, cI G 6 (rN S))] := by
    intro fuel
    induction fuel with
    | zero => intro mm hm hfuel; exact absurd hm (by omega)
    | succ fuel ih =>
      intro mm hm hfuel
      refine k_iload Ox dX5_laySafe_6 4 rfl ?_
      refine k_bipush Ox (v := nI 6) dX5_laySafe_8 rfl ?_
      refine k_icmp_geN Ox 148 dX5_laySafe_10 rfl (by omega) (by omega) (fun c_10 => ?_) (fun c_10 => ?_)
      · obtain rfl : mm = 6 := by omega
        refine k_iload_n Ox dX5_laySafe_148 rfl 3 rfl ?_
        refine k_if_lt Ox 156 dX5_laySafe_149 rfl (fun c_149 => ?_) (fun c_149 => ?_)
        · refine k_iconst Ox (v := nI 0) dX5_laySafe_156 rfl ?_
          refine k_zret0 Ox Rt dX5_laySafe_157 (by first | exact bI_nar _ | decide) (Nat.le_of_ble_eq_true rfl) (Nat.le_of_ble_eq_true rfl) rfl ?_
          first | exact ⟨⟨congrArg (fun z => some (Value.int (bI z))) (sf_t hS c_149).symm, rfl⟩, rfl⟩ | exact ⟨⟨congrArg (fun z => some (Value.int (bI z))) (sf_f hS c_149).symm, rfl⟩, rfl⟩
        · refine k_iconst Ox (v := nI 1) dX5_laySafe_152 rfl ?_
          refine k_goto Ox 157 dX5_laySafe_153 rfl ?_
          refine k_zret0 Ox Rt dX5_laySafe_157 (by first | exact bI_nar _ | decide) (Nat.le_of_ble_eq_true rfl) (Nat.le_of_ble_eq_true rfl) rfl ?_
          first | exact ⟨⟨congrArg (fun z => some (Value.int (bI z))) (sf_t hS c_149).symm, rfl⟩, rfl⟩ | exact ⟨⟨congrArg (fun z => some (Value.int (bI z))) (sf_f hS c_149).symm, rfl⟩, rfl⟩
      · refine k_iconst Ox (v := nI 0) dX5_laySafe_13 rfl ?_
        refine k_istore Ox [(5, _), (0, _), (1, _), (2, _), (3, _), (4, _)] dX5_laySafe_14 (by decide) rfl ?_
        have L16 : ∀ (fuel : Nat) (c : Nat), c ≤ 6 ^ mm → 6 ^ mm + 1 ≤ c + fuel → V x G 10 0 0 16 [(0, .ref m), (1, .int (nI a)), (2, .int (nI b)), (3, .int (moI (enC (sfG L Gr S b a) mm (enA (sfG L Gr S b a) mm) c))), (4, .int (nI mm)), (5, .int (nI c))] [] [(m, cO 5 [.ref a1, .ref a2, .ref a3, .ref a4, .ref a5, .ref a6, .ref a7, .int (nI fd), .int (nI sg), .ref a8, .int (nI mn), .ref a9, .ref a10, .int w1, .int w2, .ref a11, .int (smI (enC (sfG L Gr S b a) mm (enA (sfG L Gr S b a) mm) c) w3), .int (skI (enC (sfG L Gr S b a) mm (enA (sfG L Gr S b a) mm) c) w4), .int w5, .int (suI (enC (sfG L Gr S b a) mm (enA (sfG L Gr S b a) mm) c) w6), .ref a12, .ref a13]), (a1, cI G 6 (rN L)), (a2, cI G 6 (rN Gr)), (a7, cI G 6 (rN S))] := by
          intro fuel
          induction fuel with
          | zero => intro c hc hfuel; exact absurd hc (by omega)
          | succ fuel ih2 =>
            intro c hc hfuel
            refine k_iload Ox dX5_laySafe_16 5 rfl ?_
            refine k_bipush Ox (v := nI 6) dX5_laySafe_18 rfl ?_
            refine k_iload Ox dX5_laySafe_20 4 rfl ?_
            have h6m := pw6_le5 (show mm ≤ 5 by omega)
            refine k_callS Ox [] (c_X5_powerOf G _ _ (by omega) (by omega) (by omega)) 2 rfl rfl rfl ⟨rfl, rfl⟩ rfl rfl gX5_laySafe_X5_powerOf ⟨(by decide +kernel), (by decide +kernel), (by decide +kernel)⟩ rfl dX5_laySafe_22 (Nat.le_of_ble_eq_true rfl) rfl ⟨Nat.le_of_ble_eq_true rfl, Nat.le_of_ble_eq_true rfl⟩ (fun r wa wb hp => ?_)
            obtain ⟨⟨rfl, rfl⟩, rfl⟩ := hp
            show V x G _ _ _ _ _ (.int _ :: _) [_, _, _, _]
            refine k_icmp_geN Ox 142 dX5_laySafe_25 rfl (by omega) (by omega) (fun c_25 => ?_) (fun c_25 => ?_)
            · obtain hce : c = 6 ^ mm := by omega
              subst hce
              refine k_iincN Ox (k := 4) (m := 1) [(4, _), (0, _), (1, _), (2, _), (3, _), (5, _)] dX5_laySafe_142 rfl rfl (by decide) rfl ?_
              refine k_goto Ox 6 dX5_laySafe_145 rfl ?_
              refine k_sub [1, 2, 3, 4, 0] [(0, _), (1, _), (2, _), (3, _), (4, _)] rfl ?_
              exact ih (mm + 1) (by omega) (by omega)
            · have L136 : ∀ (mo su sm sk : Int32), mo = moI (enC (sfG L Gr S b a) mm (enA (sfG L Gr S b a) mm) (c + 1)) → su = suI (enC (sfG L Gr S b a) mm (enA (sfG L Gr S b a) mm) (c + 1)) w6 → sm = smI (enC (sfG L Gr S b a) mm (enA (sfG L Gr S b a) mm) (c + 1)) w3 → sk = skI (enC (sfG L Gr S b a) mm (enA (sfG L Gr S b a) mm) (c + 1)) w4 → V x G 10 0 0 136 [(0, .ref m), (1, .int (nI a)), (2, .int (nI b)), (3, .int mo), (4, .int (nI mm)), (5, .int (nI c))] [] [(m, cO 5 [.ref a1, .ref a2, .ref a3, .ref a4, .ref a5, .ref a6, .ref a7, .int (nI fd), .int (nI sg), .ref a8, .int (nI mn), .ref a9, .ref a10, .int w1, .int w2, .ref a11, .int sm, .int sk, .int w5, .int su, .ref a12, .ref a13]), (a1, cI G 6 (rN L)), (a2, cI G 6 (rN Gr)), (a7, cI G 6 (rN S))] := by
                intro mo su sm sk e1 e2 e3 e4; subst e1; subst e2; subst e3; subst e4
                refine k_iincN Ox (k := 5) (m := 1) [(5, _), (0, _), (1, _), (2, _), (3, _), (4, _)] dX5_laySafe_136 rfl rfl (by decide) rfl ?_
                refine k_goto Ox 16 dX5_laySafe_139 rfl ?_
                refine k_sub [1, 2, 3, 4, 5, 0] [(0, _), (1, _), (2, _), (3, _), (4, _), (5, _)] rfl ?_
                exact ih2 (c + 1) (by omega) (by omega)
              have L89 : ∀ (up k : Nat) (av : Int32), up ≤ 10 ^ mm → EdR b up (gs L Gr S b mm a 1 c) av → V x G 10 0 0 89 [(0, .ref m), (1, .int (nI a)), (2, .int (nI b)), (3, .int (moI (enC (sfG L Gr S b a) mm (enA (sfG L Gr S b a) mm) c))), (4, .int (nI mm)), (5, .int (nI c)), (6, .int av), (7, .int (nI up)), (8, .int (nI k))] [] [(m, cO 5 [.ref a1, .ref a2, .ref a3, .ref a4, .ref a5, .ref a6, .ref a7, .int (nI fd), .int (nI sg), .ref a8, .int (nI mn), .ref a9, .ref a10, .int w1, .int w2, .ref a11, .int (smI (enC (sfG L Gr S b a) mm (enA (sfG L Gr S b a) mm) c) w3), .int (skI (enC (sfG L Gr S b a) mm (enA (sfG L Gr S b a) mm) c) w4), .int w5, .int (suI (enC (sfG L Gr S b a) mm (enA (sfG L Gr S b a) mm) c) w6), .ref a12, .ref a13]), (a1, cI G 6 (rN L)), (a2, cI G 6 (rN Gr)), (a7, cI G 6 (rN S))] := by
                intro up k av hup hav
                refine k_iload Ox dX5_laySafe_89 7 rfl ?_
                refine k_bipush Ox (v := nI 10) dX5_laySafe_91 rfl ?_
                refine k_iconst Ox (v := nI 5) dX5_laySafe_93 rfl ?_
                refine k_iload Ox dX5_laySafe_94 4 rfl ?_
                refine k_isubN Ox dX5_laySafe_96 (by omega) ?_
                refine k_callS Ox [] (c_X5_powerOf G _ _ (by omega) (by omega) (by omega)) 2 rfl rfl rfl ⟨rfl, rfl⟩ rfl rfl gX5_laySafe_X5_powerOf ⟨(by decide +kernel), (by decide +kernel), (by decide +kernel)⟩ rfl dX5_laySafe_97 (Nat.le_of_ble_eq_true rfl) rfl ⟨Nat.le_of_ble_eq_true rfl, Nat.le_of_ble_eq_true rfl⟩ (fun r wa wb hp => ?_)
                obtain ⟨⟨rfl, rfl⟩, rfl⟩ := hp
                show V x G _ _ _ _ _ (.int _ :: _) [_, _, _, _]
                refine k_imulN Ox dX5_laySafe_100 ?_
                refine k_istore Ox [(8, _), (0, _), (1, _), (2, _), (3, _), (4, _), (5, _), (6, _), (7, _)] dX5_laySafe_101 (by decide) rfl ?_
                refine k_iload Ox dX5_laySafe_103 7 rfl ?_
                refine k_iload_n Ox dX5_laySafe_105 rfl 3 rfl ?_
                refine k_icmp_ne Ox 136 dX5_laySafe_106 rfl (fun c_106 => ?_) (fun c_106 => ?_)
                · have hsta := sf_no (st := enA (sfG L Gr S b a) mm) (hav.elim (fun z => absurd z.1 c_106) (fun z => z.2))
                  refine k_sub [1, 2, 3, 4, 5, 6] [(0, _), (1, _), (2, _), (3, _), (4, _), (5, _)] rfl ?_
                  first | exact L136 _ _ _ _ (congrArg moI hput).symm (su_put hput) (congrArg (fun z => smI z w3) hput).symm (congrArg (fun z => skI z w4) hput).symm | exact L136 _ _ _ _ (congrArg moI hsta).symm (congrArg (fun z => suI z w6) hsta).symm (congrArg (fun z => smI z w3) hsta).symm (congrArg (fun z => skI z w4) hsta).symm
                · have hr := hav.elim (fun z => z.2) (fun z => absurd c_106 z.1)
                  refine k_iload Ox dX5_laySafe_109 0 rfl ?_
                  refine k_iload_n Ox dX5_laySafe_111 rfl 4 rfl ?_
                  refine k_icmp_le Ox 136 dX5_laySafe_112 rfl (fun c_112 => ?_) (fun c_112 => ?_)
                  · have hsta := sf_keep hS (by omega) hr (all_le (by omega) hup) c_112
                    refine k_sub [1, 2, 3, 4, 5, 6] [(0, _), (1, _), (2, _), (3, _), (4, _), (5, _)] rfl ?_
                    first | exact L136 _ _ _ _ (congrArg moI hput).symm (su_put hput) (congrArg (fun z => smI z w3) hput).symm (congrArg (fun z => skI z w4) hput).symm | exact L136 _ _ _ _ (congrArg moI hsta).symm (congrArg (fun z => suI z w6) hsta).symm (congrArg (fun z => smI z w3) hsta).symm (congrArg (fun z => skI z w4) hsta).symm
                  · have hput := sf_put hS (by omega) hr (all_le (by omega) hup) c_112
                    refine k_iload Ox dX5_laySafe_115 0 rfl ?_
                    refine k_istore_n Ox [(3, _), (8, _), (0, _), (1, _), (2, _), (4, _), (5, _), (6, _), (7, _)] dX5_laySafe_117 rfl (by decide) rfl ?_
                    refine k_aload_n Ox dX5_laySafe_118 rfl 2 rfl ?_
                    refine k_iload Ox dX5_laySafe_119 8 rfl ?_
                    refine k_put Ox 0 rfl rfl hin_X5_laySafe_X5 19 rfl lk_X5_laySafe_f142 rfl tyX5 tyX5_ok nmX5 rfl  rfl rfl rfl [_, _, _, _, _, _, _, _, _, _, _, _, _, _, _, _, _, _, _, _, _, _] rfl [_, _, _, _] rfl dX5_laySafe_121 ?_
                    refine k_aload_n Ox dX5_laySafe_124 rfl 2 rfl ?_
                    refine k_iload Ox dX5_laySafe_125 5 rfl ?_
                    refine k_put Ox 0 rfl rfl hin_X5_laySafe_X5 16 rfl lk_X5_laySafe_f119 rfl tyX5 tyX5_ok nmX5 rfl  rfl rfl rfl [_, _, _, _, _, _, _, _, _, _, _, _, _, _, _, _, _, _, _, _, _, _] rfl [_, _, _, _] rfl dX5_laySafe_127 ?_
                    refine k_aload_n Ox dX5_laySafe_130 rfl 2 rfl ?_
                    refine k_iload Ox dX5_laySafe_131 6 rfl ?_
                    refine k_put Ox 0 rfl rfl hin_X5_laySafe_X5 17 rfl lk_X5_laySafe_f122 rfl tyX5 tyX5_ok nmX5 rfl  rfl rfl rfl [_, _, _, _, _, _, _, _, _, _, _, _, _, _, _, _, _, _, _, _, _, _] rfl [_, _, _, _] rfl dX5_laySafe_133 ?_
                    refine k_sub [2, 3, 4, 0, 5, 6] [(0, _), (1, _), (2, _), (3, _), (4, _), (5, _)] rfl ?_
                    first | exact L136 _ _ _ _ (congrArg moI hput).symm (su_put hput) (congrArg (fun z => smI z w3) hput).symm (congrArg (fun z => skI z w4) hput).symm | exact L136 _ _ _ _ (congrArg moI hsta).symm (congrArg (fun z => suI z w6) hsta).symm (congrArg (fun z => smI z w3) hsta).symm (congrArg (fun z => skI z w4) hsta).symm
              refine k_iload_n Ox dX5_laySafe_28 rfl 1 rfl ?_
              refine k_istore Ox [(6, _), (0, _), (1, _), (2, _), (3, _), (4, _), (5, _)] dX5_laySafe_29 (by decide) rfl ?_
              refine k_iconst Ox (v := nI 1) dX5_laySafe_31 rfl ?_
              refine k_istore Ox [(7, _), (6, _), (0, _), (1, _), (2, _), (3, _), (4, _), (5, _)] dX5_laySafe_32 (by decide) rfl ?_
              refine k_iconst Ox (v := nI 0) dX5_laySafe_34 rfl ?_
              refine k_istore Ox [(8, _), (7, _), (6, _), (0, _), (1, _), (2, _), (3, _), (4, _), (5, _)] dX5_laySafe_35 (by decide) rfl ?_
              have L37 : ∀ (fuel : Nat) (k u : Nat) (av : Int32), k ≤ mm → mm + 1 ≤ k + fuel → u ≤ 10 ^ k → AtR (fun h => gs L Gr S b (mm - k) h u c) (gs L Gr S b mm a 1 c) av → V x G 10 0 0 37 [(0, .ref m), (1, .int (nI a)), (2, .int (nI b)), (3, .int (moI (enC (sfG L Gr S b a) mm (enA (sfG L Gr S b a) mm) c))), (4, .int (nI mm)), (5, .int (nI c)), (6, .int av), (7, .int (nI u)), (8, .int (nI k))] [] [(m, cO 5 [.ref a1, .ref a2, .ref a3, .ref a4, .ref a5, .ref a6, .ref a7, .int (nI fd), .int (nI sg), .ref a8, .int (nI mn), .ref a9, .ref a10, .int w1, .int w2, .ref a11, .int (smI (enC (sfG L Gr S b a) mm (enA (sfG L Gr S b a) mm) c) w3), .int (skI (enC (sfG L Gr S b a) mm (enA (sfG L Gr S b a) mm) c) w4), .int w5, .int (suI (enC (sfG L Gr S b a) mm (enA (sfG L Gr S b a) mm) c) w6), .ref a12, .ref a13]), (a1, cI G 6 (rN L)), (a2, cI G 6 (rN Gr)), (a7, cI G 6 (rN S))] := by
                intro fuel
                induction fuel with
                | zero => intro k u av hk hfuel hu hav; exact absurd hk (by omega)
                | succ fuel ih3 =>
                  intro k u av hk hfuel hu hav
                  refine k_iload Ox dX5_laySafe_37 8 rfl ?_
                  refine k_iload Ox dX5_laySafe_39 4 rfl ?_
                  refine k_icmp_geN Ox 89 dX5_laySafe_41 rfl (by omega) (by omega) (fun c_41 => ?_) (fun c_41 => ?_)
                  · obtain rfl : k = mm := by omega
                    first | exact L89 _ _ _ (up_le hu hk) (at_neg hb hav c_46) | exact L89 _ _ _ (up_le hu hk) (at_end hb hav (fun h => by rw [Nat.sub_self]; rfl))
                  · refine k_iload Ox dX5_laySafe_44 6 rfl ?_
                    refine k_if_lt Ox 89 dX5_laySafe_46 rfl (fun c_46 => ?_) (fun c_46 => ?_)
                    · first | exact L89 _ _ _ (up_le hu hk) (at_neg hb hav c_46) | exact L89 _ _ _ (up_le hu hk) (at_end hb hav (fun h => by rw [Nat.sub_self]; rfl))
                    · obtain ⟨h, hh6, rfl, hF⟩ := at_pos hav c_46
                      have hd6 := dgt_lt c (mm - 1 - k)
                      have hc6 := hS _ hd6
                      refine k_aload_n Ox dX5_laySafe_49 rfl 0 rfl ?_
                      refine k_iload Ox dX5_laySafe_50 5 rfl ?_
                      refine k_iload Ox dX5_laySafe_52 4 rfl ?_
                      refine k_iload Ox dX5_laySafe_54 8 rfl ?_
                      refine k_callV Ox [0] (c_X5_plankOf G _ _ _ _ _ _ _ _ _ _ _ _ _ _ _ _ _ _ _ _ _ _ _ _ _ _ (by omega) (by omega) (by omega)) 3 rfl rfl rfl ⟨rfl, rfl⟩ rfl rfl gX5_laySafe_X5_plankOf rfl 0 rfl ⟨rfl, (by decide +kernel), (by decide +kernel), (by decide +kernel)⟩ rfl dX5_laySafe_56 (Nat.le_of_ble_eq_true rfl) rfl ⟨Nat.le_of_ble_eq_true rfl, Nat.le_of_ble_eq_true rfl⟩ (fun r wa wb hp => ?_)
                      obtain ⟨⟨rfl, rfl⟩, rfl⟩ := hp
                      show V x G _ _ _ _ _ (.int _ :: _) [_, _, _, _]
                      refine k_istore Ox [(9, _), (0, _), (1, _), (2, _), (3, _), (4, _), (5, _), (6, _), (7, _), (8, _)] dX5_laySafe_59 (by decide) rfl ?_
                      refine k_aload_n Ox dX5_laySafe_61 rfl 1 rfl ?_
                      refine k_iload Ox dX5_laySafe_62 0 rfl ?_
                      refine k_iload Ox dX5_laySafe_64 7 rfl ?_
                      refine k_callV Ox [0, 1, 2] (c_X5_over G _ _ _ _ _ _ _ _ _ _ _ _ _ _ _ _ _ _ _ _ _ _ _ _ _ _ _ (hL) (hG) (hd6) (hh6)) 2 rfl rfl rfl ⟨rfl, rfl⟩ rfl rfl gX5_laySafe_X5_over rfl 0 rfl ⟨rfl, (by decide +kernel), (by decide +kernel), (by decide +kernel)⟩ rfl dX5_laySafe_66 (Nat.le_of_ble_eq_true rfl) rfl ⟨Nat.le_of_ble_eq_true rfl, Nat.le_of_ble_eq_true rfl⟩ (fun r wa wb hp => ?_)
                      obtain ⟨⟨rfl, rfl⟩, rfl⟩ := hp
                      show V x G _ _ _ _ _ (.int _ :: _) [_, _, _, _]
                      refine k_istore Ox [(6, _), (9, _), (0, _), (1, _), (2, _), (3, _), (4, _), (5, _), (7, _), (8, _)] dX5_laySafe_69 (by decide) rfl ?_
                      refine k_iload Ox dX5_laySafe_71 8 rfl ?_
                      refine k_aload_n Ox dX5_laySafe_73 rfl 2 rfl ?_
                      refine k_get Ox 0 rfl rfl hin_X5_laySafe_X5 6 rfl lk_X5_laySafe_f28 rfl rfl dX5_laySafe_74 ?_
                      refine k_iload Ox dX5_laySafe_77 1 rfl ?_
                      refine k_iald Ox 3 rfl (by omega) (by first | decide | omega) dX5_laySafe_79 ?_
                      refine k_imulN Ox dX5_laySafe_80 ?_
                      refine k_istore Ox [(7, _), (6, _), (9, _), (0, _), (1, _), (2, _), (3, _), (4, _), (5, _), (8, _)] dX5_laySafe_81 (by decide) rfl ?_
                      refine k_iincN Ox (k := 9) (m := 1) [(8, _), (7, _), (6, _), (9, _), (0, _), (1, _), (2, _), (3, _), (4, _), (5, _)] dX5_laySafe_83 rfl rfl (by decide) rfl ?_
                      refine k_goto Ox 37 dX5_laySafe_86 rfl ?_
                      refine k_sub [4, 5, 6, 7, 8, 9, 2, 1, 0] [(0, _), (1, _), (2, _), (3, _), (4, _), (5, _), (6, _), (7, _), (8, _)] rfl ?_
                      exact ih3 (k + 1) _ _ (by omega) (by omega) (up_step hu hc6) (gs_next hL hG (by omega) hF)
              refine k_sub [3, 4, 5, 6, 7, 8, 2, 1, 0] [(0, _), (1, _), (2, _), (3, _), (4, _), (5, _), (6, _), (7, _), (8, _)] rfl ?_
              exact L37 (mm + 1) 0 1 _ (by omega) (by omega) (by decide) (Or.inl ⟨a, ha, rfl, rfl⟩)
        refine k_sub [1, 2, 3, 4, 5, 0] [(0, _), (1, _), (2, _), (3, _), (4, _), (5, _)] rfl ?_
        exact L16 (6 ^ mm + 1) 0 (Nat.zero_le _) (by omega)
  refine k_sub [2, 3, 4, 1, 0] [(0, _), (1, _), (2, _), (3, _), (4, _)] rfl ?_
  exact L6 7 0 (by omega) (by omega)
