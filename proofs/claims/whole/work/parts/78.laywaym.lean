theorem lk_X5_layWay_k115 : Cond.constant RX5 115 (1000000) ∈ wsX5_layWay := List.mem_of_getElem? (i := 1) rfl
theorem lk_X5_layWay_f116 : Cond.fieldLink RX5 116 "LieBridgesModel" "bestCost" "I" ∈ wsX5_layWay := List.mem_of_getElem? (i := 2) rfl
theorem hin_X5_layWay_X5 : ∀ w ∈ u_ws RX5 TX5 22, w ∈ wsX5_layWay := fun _ h => List.mem_cons_of_mem _ (List.mem_append_right _ h)
theorem lk_X5_layWay_f119 : Cond.fieldLink RX5 119 "LieBridgesModel" "bestMany" "I" ∈ wsX5_layWay := List.mem_of_getElem? (i := 3) rfl
theorem lk_X5_layWay_f122 : Cond.fieldLink RX5 122 "LieBridgesModel" "bestCode" "I" ∈ wsX5_layWay := List.mem_of_getElem? (i := 4) rfl
theorem lk_X5_layWay_f44 : Cond.fieldLink RX5 44 "LieBridgesModel" "cost" "[I" ∈ wsX5_layWay := List.mem_of_getElem? (i := 5) rfl
set_option maxHeartbeats 2000000 in
set_option maxRecDepth 4000 in
theorem c_X5_layWay (G : Gx) (m a1 a2 a3 a4 a5 a6 a7 a8 a9 a10 a11 a12 a13 : Nat) (fd sg mn : Nat) (w1 w2 w3 w4 w5 w6 : Int32) (L Gr CO : Nat → Nat) (a b : Nat) (hL : okP L) (hG : okP Gr) (hCO : ∀ p, p < 6 → CO p ≤ 1000000) (ha : a < 6) (hb : b < 6) : Ct G yX5_layWay wsX5_layWay { frames := 2, cells := 0, slots := 0, locals := 46 } [.ref m, .int (nI a), .int (nI b)] [(m, cO 5 [.ref a1, .ref a2, .ref a3, .ref a4, .ref a5, .ref a6, .ref a7, .int (nI fd), .int (nI sg), .ref a8, .int (nI mn), .ref a9, .ref a10, .int w1, .int w2, .ref a11, .int w3, .int w4, .int w5, .int w6, .ref a12, .ref a13]), (a1, cI G 6 (rN L)), (a2, cI G 6 (rN Gr)), (a11, cI G 6 (rN CO))] (fun r wa => r = some (.int (bI (lyS L Gr CO b a).isSome)) ∧ wa = [(m, cO 5 [.ref a1, .ref a2, .ref a3, .ref a4, .ref a5, .ref a6, .ref a7, .int (nI fd), .int (nI sg), .ref a8, .int (nI mn), .ref a9, .ref a10, .int w1, .int w2, .ref a11, .int (nI (bmO (lyS L Gr CO b a))), .int (nI (bkO (lyS L Gr CO b a))), .int (nI (bcO (lyS L Gr CO b a))), .int w6, .ref a12, .ref a13]), (a1, cI G 6 (rN L)), (a2, cI G 6 (rN Gr)), (a11, cI G 6 (rN CO))]) := by
  refine CtN.of [(0, .ref m), (1, .int (nI a)), (2, .int (nI b))] (by decide +kernel) rfl rfl rfl rfl ?_
  intro x Ox Rt
  refine k_aload_n Ox dX5_layWay_0 rfl 0 rfl ?_
  refine k_ldc Ox (1000000) dX5_layWay_1 lk_X5_layWay_k115 ?_
  refine k_top (nI 1000000) rfl ?_
  refine k_put Ox 0 rfl rfl hin_X5_layWay_X5 18 rfl lk_X5_layWay_f116 rfl tyX5 tyX5_ok nmX5 rfl  rfl rfl rfl [_, _, _, _, _, _, _, _, _, _, _, _, _, _, _, _, _, _, _, _, _, _] rfl [_, _, _, _] rfl dX5_layWay_3 ?_
  refine k_aload_n Ox dX5_layWay_6 rfl 0 rfl ?_
  refine k_iconst Ox (v := nI 0) dX5_layWay_7 rfl ?_
  refine k_put Ox 0 rfl rfl hin_X5_layWay_X5 16 rfl lk_X5_layWay_f119 rfl tyX5 tyX5_ok nmX5 rfl  rfl rfl rfl [_, _, _, _, _, _, _, _, _, _, _, _, _, _, _, _, _, _, _, _, _, _] rfl [_, _, _, _] rfl dX5_layWay_8 ?_
  refine k_aload_n Ox dX5_layWay_11 rfl 0 rfl ?_
  refine k_iconst Ox (v := nI 0) dX5_layWay_12 rfl ?_
  refine k_put Ox 0 rfl rfl hin_X5_layWay_X5 17 rfl lk_X5_layWay_f122 rfl tyX5 tyX5_ok nmX5 rfl  rfl rfl rfl [_, _, _, _, _, _, _, _, _, _, _, _, _, _, _, _, _, _, _, _, _, _] rfl [_, _, _, _] rfl dX5_layWay_13 ?_
  refine k_iconst Ox (v := nI 0) dX5_layWay_16 rfl ?_
  refine k_istore_n Ox [(3, _), (0, _), (1, _), (2, _)] dX5_layWay_17 rfl (by decide) rfl ?_
  have L18 : ∀ (fuel : Nat) (mm : Nat), mm ≤ 6 → 7 ≤ mm + fuel → V x G 9 0 0 18 [(0, .ref m), (1, .int (nI a)), (2, .int (nI b)), (3, .int (nI mm))] [] [(m, cO 5 [.ref a1, .ref a2, .ref a3, .ref a4, .ref a5, .ref a6, .ref a7, .int (nI fd), .int (nI sg), .ref a8, .int (nI mn), .ref a9, .ref a10, .int w1, .int w2, .ref a11, .int (nI (bmO (enA (lyG L Gr CO b a) mm))), .int (nI (bkO (enA (lyG L Gr CO b a) mm))), .int (nI (bcO (enA (lyG L Gr CO b a) mm))), .int w6, .ref a12, .ref a13]), (a1, cI G 6 (rN L)), (a2, cI G 6 (rN Gr)), (a11, cI G 6 (rN CO))] := by
    intro fuel
    induction fuel with
    | zero => intro mm hm hfuel; exact absurd hm (by omega)
    | succ fuel ih =>
      intro mm hm hfuel
      refine k_iload_n Ox dX5_layWay_18 rfl 3 rfl ?_
      refine k_bipush Ox (v := nI 6) dX5_layWay_19 rfl ?_
      refine k_icmp_geN Ox 141 dX5_layWay_21 rfl (by omega) (by omega) (fun c_21 => ?_) (fun c_21 => ?_)
      · obtain rfl : mm = 6 := by omega
        have hbc := bcO_le (enA (lyG L Gr CO b a) 6)
        refine k_aload_n Ox dX5_layWay_141 rfl 0 rfl ?_
        refine k_get Ox 0 rfl rfl hin_X5_layWay_X5 18 rfl lk_X5_layWay_f116 rfl rfl dX5_layWay_142 ?_
        refine k_ldc Ox (1000000) dX5_layWay_145 lk_X5_layWay_k115 ?_
        refine k_top (nI 1000000) rfl ?_
        refine k_icmp_geN Ox 154 dX5_layWay_147 rfl (by omega) (by omega) (fun c_147 => ?_) (fun c_147 => ?_)
        · refine k_iconst Ox (v := nI 0) dX5_layWay_154 rfl ?_
          refine k_zret0 Ox Rt dX5_layWay_155 (by first | exact bI_nar _ | decide) (Nat.le_of_ble_eq_true rfl) (Nat.le_of_ble_eq_true rfl) rfl ?_
          first | exact ⟨⟨congrArg (fun z => some (Value.int (bI z))) (ly_t c_147).symm, rfl⟩, rfl⟩ | exact ⟨⟨congrArg (fun z => some (Value.int (bI z))) (ly_f c_147).symm, rfl⟩, rfl⟩
        · refine k_iconst Ox (v := nI 1) dX5_layWay_150 rfl ?_
          refine k_goto Ox 155 dX5_layWay_151 rfl ?_
          refine k_zret0 Ox Rt dX5_layWay_155 (by first | exact bI_nar _ | decide) (Nat.le_of_ble_eq_true rfl) (Nat.le_of_ble_eq_true rfl) rfl ?_
          first | exact ⟨⟨congrArg (fun z => some (Value.int (bI z))) (ly_t c_147).symm, rfl⟩, rfl⟩ | exact ⟨⟨congrArg (fun z => some (Value.int (bI z))) (ly_f c_147).symm, rfl⟩, rfl⟩
      · refine k_iconst Ox (v := nI 0) dX5_layWay_24 rfl ?_
        refine k_istore Ox [(4, _), (0, _), (1, _), (2, _), (3, _)] dX5_layWay_25 (by decide) rfl ?_
        have L27 : ∀ (fuel : Nat) (c : Nat), c ≤ 6 ^ mm → 6 ^ mm + 1 ≤ c + fuel → V x G 9 0 0 27 [(0, .ref m), (1, .int (nI a)), (2, .int (nI b)), (3, .int (nI mm)), (4, .int (nI c))] [] [(m, cO 5 [.ref a1, .ref a2, .ref a3, .ref a4, .ref a5, .ref a6, .ref a7, .int (nI fd), .int (nI sg), .ref a8, .int (nI mn), .ref a9, .ref a10, .int w1, .int w2, .ref a11, .int (nI (bmO (enC (lyG L Gr CO b a) mm (enA (lyG L Gr CO b a) mm) c))), .int (nI (bkO (enC (lyG L Gr CO b a) mm (enA (lyG L Gr CO b a) mm) c))), .int (nI (bcO (enC (lyG L Gr CO b a) mm (enA (lyG L Gr CO b a) mm) c))), .int w6, .ref a12, .ref a13]), (a1, cI G 6 (rN L)), (a2, cI G 6 (rN Gr)), (a11, cI G 6 (rN CO))] := by
          intro fuel
          induction fuel with
          | zero => intro c hc hfuel; exact absurd hc (by omega)
          | succ fuel ih2 =>
            intro c hc hfuel
            refine k_iload Ox dX5_layWay_27 4 rfl ?_
            refine k_bipush Ox (v := nI 6) dX5_layWay_29 rfl ?_
            refine k_iload_n Ox dX5_layWay_31 rfl 3 rfl ?_
            have h6m := pw6_le5 (show mm ≤ 5 by omega)
            refine k_callS Ox [] (c_X5_powerOf G _ _ (by omega) (by omega) (by omega)) 2 rfl rfl rfl ⟨rfl, rfl⟩ rfl rfl gX5_layWay_X5_powerOf ⟨(by decide +kernel), (by decide +kernel), (by decide +kernel)⟩ rfl dX5_layWay_32 (Nat.le_of_ble_eq_true rfl) rfl ⟨Nat.le_of_ble_eq_true rfl, Nat.le_of_ble_eq_true rfl⟩ (fun r wa wb hp => ?_)
            obtain ⟨⟨rfl, rfl⟩, rfl⟩ := hp
            show V x G _ _ _ _ _ (.int _ :: _) [_, _, _, _]
            refine k_icmp_geN Ox 135 dX5_layWay_35 rfl (by omega) (by omega) (fun c_35 => ?_) (fun c_35 => ?_)
            · obtain hce : c = 6 ^ mm := by omega
              subst hce
              refine k_iincN Ox (k := 3) (m := 1) [(3, _), (0, _), (1, _), (2, _), (4, _)] dX5_layWay_135 rfl rfl (by decide) rfl ?_
              refine k_goto Ox 18 dX5_layWay_138 rfl ?_
              refine k_sub [1, 2, 3, 0] [(0, _), (1, _), (2, _), (3, _)] rfl ?_
              exact ih (mm + 1) (by omega) (by omega)
            · have L129 : ∀ (al k bc bm bk : Nat) (av : Int32), bc = bcO (enC (lyG L Gr CO b a) mm (enA (lyG L Gr CO b a) mm) (c + 1)) → bm = bmO (enC (lyG L Gr CO b a) mm (enA (lyG L Gr CO b a) mm) (c + 1)) → bk = bkO (enC (lyG L Gr CO b a) mm (enA (lyG L Gr CO b a) mm) (c + 1)) → V x G 9 0 0 129 [(0, .ref m), (1, .int (nI a)), (2, .int (nI b)), (3, .int (nI mm)), (4, .int (nI c)), (5, .int av), (6, .int (nI al)), (7, .int (nI k))] [] [(m, cO 5 [.ref a1, .ref a2, .ref a3, .ref a4, .ref a5, .ref a6, .ref a7, .int (nI fd), .int (nI sg), .ref a8, .int (nI mn), .ref a9, .ref a10, .int w1, .int w2, .ref a11, .int (nI bm), .int (nI bk), .int (nI bc), .int w6, .ref a12, .ref a13]), (a1, cI G 6 (rN L)), (a2, cI G 6 (rN Gr)), (a11, cI G 6 (rN CO))] := by
                intro al k bc bm bk av e1 e2 e3; subst e1; subst e2; subst e3
                refine k_iincN Ox (k := 4) (m := 1) [(4, _), (0, _), (1, _), (2, _), (3, _), (5, _), (6, _), (7, _)] dX5_layWay_129 rfl rfl (by decide) rfl ?_
                refine k_goto Ox 27 dX5_layWay_132 rfl ?_
                refine k_sub [1, 2, 3, 4, 0] [(0, _), (1, _), (2, _), (3, _), (4, _)] rfl ?_
                exact ih2 (c + 1) (by omega) (by omega)
              have L97 : ∀ (al k : Nat) (av : Int32), al ≤ 6000000 → EdR b al (gx L Gr CO b mm a 0 c) av → V x G 9 0 0 97 [(0, .ref m), (1, .int (nI a)), (2, .int (nI b)), (3, .int (nI mm)), (4, .int (nI c)), (5, .int av), (6, .int (nI al)), (7, .int (nI k))] [] [(m, cO 5 [.ref a1, .ref a2, .ref a3, .ref a4, .ref a5, .ref a6, .ref a7, .int (nI fd), .int (nI sg), .ref a8, .int (nI mn), .ref a9, .ref a10, .int w1, .int w2, .ref a11, .int (nI (bmO (enC (lyG L Gr CO b a) mm (enA (lyG L Gr CO b a) mm) c))), .int (nI (bkO (enC (lyG L Gr CO b a) mm (enA (lyG L Gr CO b a) mm) c))), .int (nI (bcO (enC (lyG L Gr CO b a) mm (enA (lyG L Gr CO b a) mm) c))), .int w6, .ref a12, .ref a13]), (a1, cI G 6 (rN L)), (a2, cI G 6 (rN Gr)), (a11, cI G 6 (rN CO))] := by
                intro al k av hal hav
                have hbc := bcO_le (enC (lyG L Gr CO b a) mm (enA (lyG L Gr CO b a) mm) c)
                refine k_iload Ox dX5_layWay_97 5 rfl ?_
                refine k_iload_n Ox dX5_layWay_99 rfl 2 rfl ?_
                refine k_icmp_ne Ox 129 dX5_layWay_100 rfl (fun c_100 => ?_) (fun c_100 => ?_)
                · have hsta := ly_no (st := enA (lyG L Gr CO b a) mm) (hav.elim (fun z => absurd z.1 c_100) (fun z => z.2))
                  first | exact L129 _ _ _ _ _ _ ((congrArg bcO hput.1).trans (bc_put hput.2)).symm (congrArg bmO hput.1).symm (congrArg bkO hput.1).symm | exact L129 _ _ _ _ _ _ (congrArg bcO hsta).symm (congrArg bmO hsta).symm (congrArg bkO hsta).symm
                · have hr := hav.elim (fun z => z.2) (fun z => absurd c_100 z.1)
                  refine k_iload Ox dX5_layWay_103 6 rfl ?_
                  refine k_aload_n Ox dX5_layWay_105 rfl 0 rfl ?_
                  refine k_get Ox 0 rfl rfl hin_X5_layWay_X5 18 rfl lk_X5_layWay_f116 rfl rfl dX5_layWay_106 ?_
                  refine k_icmp_geN Ox 129 dX5_layWay_109 rfl (by omega) (by omega) (fun c_109 => ?_) (fun c_109 => ?_)
                  · have hsta := ly_keep hr c_109
                    first | exact L129 _ _ _ _ _ _ ((congrArg bcO hput.1).trans (bc_put hput.2)).symm (congrArg bmO hput.1).symm (congrArg bkO hput.1).symm | exact L129 _ _ _ _ _ _ (congrArg bcO hsta).symm (congrArg bmO hsta).symm (congrArg bkO hsta).symm
                  · have hput := ly_put hr c_109
                    refine k_aload_n Ox dX5_layWay_112 rfl 0 rfl ?_
                    refine k_iload Ox dX5_layWay_113 6 rfl ?_
                    refine k_put Ox 0 rfl rfl hin_X5_layWay_X5 18 rfl lk_X5_layWay_f116 rfl tyX5 tyX5_ok nmX5 rfl  rfl rfl rfl [_, _, _, _, _, _, _, _, _, _, _, _, _, _, _, _, _, _, _, _, _, _] rfl [_, _, _, _] rfl dX5_layWay_115 ?_
                    refine k_aload_n Ox dX5_layWay_118 rfl 0 rfl ?_
                    refine k_iload_n Ox dX5_layWay_119 rfl 3 rfl ?_
                    refine k_put Ox 0 rfl rfl hin_X5_layWay_X5 16 rfl lk_X5_layWay_f119 rfl tyX5 tyX5_ok nmX5 rfl  rfl rfl rfl [_, _, _, _, _, _, _, _, _, _, _, _, _, _, _, _, _, _, _, _, _, _] rfl [_, _, _, _] rfl dX5_layWay_120 ?_
                    refine k_aload_n Ox dX5_layWay_123 rfl 0 rfl ?_
                    refine k_iload Ox dX5_layWay_124 4 rfl ?_
                    refine k_put Ox 0 rfl rfl hin_X5_layWay_X5 17 rfl lk_X5_layWay_f122 rfl tyX5 tyX5_ok nmX5 rfl  rfl rfl rfl [_, _, _, _, _, _, _, _, _, _, _, _, _, _, _, _, _, _, _, _, _, _] rfl [_, _, _, _] rfl dX5_layWay_126 ?_
                    first | exact L129 _ _ _ _ _ _ ((congrArg bcO hput.1).trans (bc_put hput.2)).symm (congrArg bmO hput.1).symm (congrArg bkO hput.1).symm | exact L129 _ _ _ _ _ _ (congrArg bcO hsta).symm (congrArg bmO hsta).symm (congrArg bkO hsta).symm
              refine k_iload_n Ox dX5_layWay_38 rfl 1 rfl ?_
              refine k_istore Ox [(5, _), (0, _), (1, _), (2, _), (3, _), (4, _)] dX5_layWay_39 (by decide) rfl ?_
              refine k_iconst Ox (v := nI 0) dX5_layWay_41 rfl ?_
              refine k_istore Ox [(6, _), (5, _), (0, _), (1, _), (2, _), (3, _), (4, _)] dX5_layWay_42 (by decide) rfl ?_
              refine k_iconst Ox (v := nI 0) dX5_layWay_44 rfl ?_
              refine k_istore Ox [(7, _), (6, _), (5, _), (0, _), (1, _), (2, _), (3, _), (4, _)] dX5_layWay_45 (by decide) rfl ?_
              have L47 : ∀ (fuel : Nat) (k al : Nat) (av : Int32), k ≤ mm → mm + 1 ≤ k + fuel → al ≤ k * 1000000 → AtR (fun h => gx L Gr CO b (mm - k) h al c) (gx L Gr CO b mm a 0 c) av → V x G 9 0 0 47 [(0, .ref m), (1, .int (nI a)), (2, .int (nI b)), (3, .int (nI mm)), (4, .int (nI c)), (5, .int av), (6, .int (nI al)), (7, .int (nI k))] [] [(m, cO 5 [.ref a1, .ref a2, .ref a3, .ref a4, .ref a5, .ref a6, .ref a7, .int (nI fd), .int (nI sg), .ref a8, .int (nI mn), .ref a9, .ref a10, .int w1, .int w2, .ref a11, .int (nI (bmO (enC (lyG L Gr CO b a) mm (enA (lyG L Gr CO b a) mm) c))), .int (nI (bkO (enC (lyG L Gr CO b a) mm (enA (lyG L Gr CO b a) mm) c))), .int (nI (bcO (enC (lyG L Gr CO b a) mm (enA (lyG L Gr CO b a) mm) c))), .int w6, .ref a12, .ref a13]), (a1, cI G 6 (rN L)), (a2, cI G 6 (rN Gr)), (a11, cI G 6 (rN CO))] := by
                intro fuel
                induction fuel with
                | zero => intro k al av hk hfuel hal hav; exact absurd hk (by omega)
                | succ fuel ih3 =>
                  intro k al av hk hfuel hal hav
                  refine k_iload Ox dX5_layWay_47 7 rfl ?_
                  refine k_iload_n Ox dX5_layWay_49 rfl 3 rfl ?_
                  refine k_icmp_geN Ox 97 dX5_layWay_50 rfl (by omega) (by omega) (fun c_50 => ?_) (fun c_50 => ?_)
                  · obtain rfl : k = mm := by omega
                    first | exact L97 _ _ _ (by omega) (at_neg hb hav c_55) | exact L97 _ _ _ (by omega) (at_end hb hav (fun h => by rw [Nat.sub_self]; rfl))
                  · refine k_iload Ox dX5_layWay_53 5 rfl ?_
                    refine k_if_lt Ox 97 dX5_layWay_55 rfl (fun c_55 => ?_) (fun c_55 => ?_)
                    · first | exact L97 _ _ _ (by omega) (at_neg hb hav c_55) | exact L97 _ _ _ (by omega) (at_end hb hav (fun h => by rw [Nat.sub_self]; rfl))
                    · obtain ⟨h, hh6, rfl, hF⟩ := at_pos hav c_55
                      have hd6 := dgt_lt c (mm - 1 - k)
                      have hc6 := hCO _ hd6
                      refine k_aload_n Ox dX5_layWay_58 rfl 0 rfl ?_
                      refine k_iload Ox dX5_layWay_59 4 rfl ?_
                      refine k_iload_n Ox dX5_layWay_61 rfl 3 rfl ?_
                      refine k_iload Ox dX5_layWay_62 7 rfl ?_
                      refine k_callV Ox [0] (c_X5_plankOf G _ _ _ _ _ _ _ _ _ _ _ _ _ _ _ _ _ _ _ _ _ _ _ _ _ _ (by omega) (by omega) (by omega)) 3 rfl rfl rfl ⟨rfl, rfl⟩ rfl rfl gX5_layWay_X5_plankOf rfl 0 rfl ⟨rfl, (by decide +kernel), (by decide +kernel), (by decide +kernel)⟩ rfl dX5_layWay_64 (Nat.le_of_ble_eq_true rfl) rfl ⟨Nat.le_of_ble_eq_true rfl, Nat.le_of_ble_eq_true rfl⟩ (fun r wa wb hp => ?_)
                      obtain ⟨⟨rfl, rfl⟩, rfl⟩ := hp
                      show V x G _ _ _ _ _ (.int _ :: _) [_, _, _, _]
                      refine k_istore Ox [(8, _), (0, _), (1, _), (2, _), (3, _), (4, _), (5, _), (6, _), (7, _)] dX5_layWay_67 (by decide) rfl ?_
                      refine k_aload_n Ox dX5_layWay_69 rfl 1 rfl ?_
                      refine k_iload Ox dX5_layWay_70 0 rfl ?_
                      refine k_iload Ox dX5_layWay_72 6 rfl ?_
                      refine k_callV Ox [0, 1, 2] (c_X5_over G _ _ _ _ _ _ _ _ _ _ _ _ _ _ _ _ _ _ _ _ _ _ _ _ _ _ _ (hL) (hG) (hd6) (hh6)) 2 rfl rfl rfl ⟨rfl, rfl⟩ rfl rfl gX5_layWay_X5_over rfl 0 rfl ⟨rfl, (by decide +kernel), (by decide +kernel), (by decide +kernel)⟩ rfl dX5_layWay_74 (Nat.le_of_ble_eq_true rfl) rfl ⟨Nat.le_of_ble_eq_true rfl, Nat.le_of_ble_eq_true rfl⟩ (fun r wa wb hp => ?_)
                      obtain ⟨⟨rfl, rfl⟩, rfl⟩ := hp
                      show V x G _ _ _ _ _ (.int _ :: _) [_, _, _, _]
                      refine k_istore Ox [(5, _), (8, _), (0, _), (1, _), (2, _), (3, _), (4, _), (6, _), (7, _)] dX5_layWay_77 (by decide) rfl ?_
                      refine k_iload Ox dX5_layWay_79 7 rfl ?_
                      refine k_aload_n Ox dX5_layWay_81 rfl 2 rfl ?_
                      refine k_get Ox 0 rfl rfl hin_X5_layWay_X5 15 rfl lk_X5_layWay_f44 rfl rfl dX5_layWay_82 ?_
                      refine k_iload Ox dX5_layWay_85 1 rfl ?_
                      refine k_iald Ox 3 rfl (by omega) (by first | decide | omega) dX5_layWay_87 ?_
                      refine k_iaddN Ox dX5_layWay_88 ?_
                      refine k_istore Ox [(6, _), (5, _), (8, _), (0, _), (1, _), (2, _), (3, _), (4, _), (7, _)] dX5_layWay_89 (by decide) rfl ?_
                      refine k_iincN Ox (k := 8) (m := 1) [(7, _), (6, _), (5, _), (8, _), (0, _), (1, _), (2, _), (3, _), (4, _)] dX5_layWay_91 rfl rfl (by decide) rfl ?_
                      refine k_goto Ox 47 dX5_layWay_94 rfl ?_
                      refine k_sub [4, 5, 6, 7, 8, 2, 1, 0] [(0, _), (1, _), (2, _), (3, _), (4, _), (5, _), (6, _), (7, _)] rfl ?_
                      exact ih3 (k + 1) _ _ (by omega) (by omega) (by omega) (gx_next hL hG (by omega) hF)
              refine k_sub [3, 4, 5, 6, 7, 2, 1, 0] [(0, _), (1, _), (2, _), (3, _), (4, _), (5, _), (6, _), (7, _)] rfl ?_
              exact L47 (mm + 1) 0 0 _ (by omega) (by omega) (by omega) (Or.inl ⟨a, ha, rfl, rfl⟩)
        refine k_sub [1, 2, 3, 4, 0] [(0, _), (1, _), (2, _), (3, _), (4, _)] rfl ?_
        exact L27 (6 ^ mm + 1) 0 (Nat.zero_le _) (by omega)
  refine k_sub [1, 2, 3, 0] [(0, _), (1, _), (2, _), (3, _)] rfl ?_
  exact L18 7 0 (by omega) (by omega)
