theorem lk_X5_reached_f16 : Cond.fieldLink RX5 16 "LieBridgesModel" "owner" "[I" ∈ wsX5_reached := List.mem_of_getElem? (i := 2) rfl
theorem hin_X5_reached_X5 : ∀ w ∈ u_ws RX5 TX5 22, w ∈ wsX5_reached := fun _ h => List.mem_cons_of_mem _ (List.mem_append_right _ h)
theorem lk_X5_reached_f22 : Cond.fieldLink RX5 22 "LieBridgesModel" "knows" "[I" ∈ wsX5_reached := List.mem_of_getElem? (i := 3) rfl
theorem lk_X5_reached_f19 : Cond.fieldLink RX5 19 "LieBridgesModel" "trusts" "[I" ∈ wsX5_reached := List.mem_of_getElem? (i := 4) rfl
theorem lk_X5_reached_f41 : Cond.fieldLink RX5 41 "LieBridgesModel" "now" "[I" ∈ wsX5_reached := List.mem_of_getElem? (i := 1) rfl
set_option maxHeartbeats 2000000 in
set_option maxRecDepth 4000 in
theorem c_X5_reached (G : Gx) (m a1 a2 a3 a4 a5 a6 a7 a8 a9 a10 a11 a12 a13 : Nat) (fd sg mn : Nat) (w1 w2 w3 w4 w5 w6 : Int32) (O T K : Nat → Nat) (B : Nat → Nat → Nat) (p : Nat) (hO : okP O) (hT : okM T) (hK : okM K) (hB : okB B) (hp : p < 6) : Ct G yX5_reached wsX5_reached { frames := 1, cells := 0, slots := 0, locals := 21 } [.ref m, .int (nI p)] [(m, cO 5 [.ref a1, .ref a2, .ref a3, .ref a4, .ref a5, .ref a6, .ref a7, .int (nI fd), .int (nI sg), .ref a8, .int (nI mn), .ref a9, .ref a10, .int w1, .int w2, .ref a11, .int w3, .int w4, .int w5, .int w6, .ref a12, .ref a13]), (a3, cI G 6 (rN O)), (a4, cI G 6 (rN T)), (a5, cI G 6 (rN K)), (a10, cI G 36 (rN (flM B)))] (fun r wa => r = some (.int (nI (rcN O T K B p))) ∧ wa = [(m, cO 5 [.ref a1, .ref a2, .ref a3, .ref a4, .ref a5, .ref a6, .ref a7, .int (nI fd), .int (nI sg), .ref a8, .int (nI mn), .ref a9, .ref a10, .int w1, .int w2, .ref a11, .int w3, .int w4, .int w5, .int w6, .ref a12, .ref a13]), (a3, cI G 6 (rN O)), (a4, cI G 6 (rN T)), (a5, cI G 6 (rN K)), (a10, cI G 36 (rN (flM B)))]) := by
  refine CtN.of [(0, .ref m), (1, .int (nI p))] (by decide +kernel) rfl rfl rfl rfl ?_
  intro x Ox Rt
  refine k_iconst Ox (v := nI 0) dX5_reached_0 rfl ?_
  refine k_istore_n Ox [(2, _), (0, _), (1, _)] dX5_reached_1 rfl (by decide) rfl ?_
  refine k_iconst Ox (v := nI 0) dX5_reached_2 rfl ?_
  refine k_istore_n Ox [(3, _), (2, _), (0, _), (1, _)] dX5_reached_3 rfl (by decide) rfl ?_
  have L4 : ∀ (fuel : Nat) (a M : Nat), a ≤ 6 → 7 ≤ a + fuel → M = bmk B p a → V x G 6 0 0 4 [(0, .ref m), (1, .int (nI p)), (2, .int (nI M)), (3, .int (nI a))] [] [(m, cO 5 [.ref a1, .ref a2, .ref a3, .ref a4, .ref a5, .ref a6, .ref a7, .int (nI fd), .int (nI sg), .ref a8, .int (nI mn), .ref a9, .ref a10, .int w1, .int w2, .ref a11, .int w3, .int w4, .int w5, .int w6, .ref a12, .ref a13]), (a3, cI G 6 (rN O)), (a4, cI G 6 (rN T)), (a5, cI G 6 (rN K)), (a10, cI G 36 (rN (flM B)))] := by
    intro fuel
    induction fuel with
    | zero => intro a M ha hfuel hM; exact absurd ha (by omega)
    | succ fuel ih =>
      intro a M ha hfuel hM
      refine k_iload_n Ox dX5_reached_4 rfl 3 rfl ?_
      refine k_bipush Ox (v := nI 6) dX5_reached_5 rfl ?_
      refine k_icmp_geN Ox 40 dX5_reached_7 rfl (by omega) (by omega) (fun c_7 => ?_) (fun c_7 => ?_)
      · obtain rfl : a = 6 := by omega
        refine k_iconst Ox (v := nI 0) dX5_reached_40 rfl ?_
        refine k_istore_n Ox [(3, _), (0, _), (1, _), (2, _)] dX5_reached_41 rfl (by decide) rfl ?_
        have L42 : ∀ (fuel : Nat) (r M : Nat), r ≤ 6 → 7 ≤ r + fuel → M = rcR O T K p (bmk B p 6) r → V x G 6 0 0 42 [(0, .ref m), (1, .int (nI p)), (2, .int (nI M)), (3, .int (nI r))] [] [(m, cO 5 [.ref a1, .ref a2, .ref a3, .ref a4, .ref a5, .ref a6, .ref a7, .int (nI fd), .int (nI sg), .ref a8, .int (nI mn), .ref a9, .ref a10, .int w1, .int w2, .ref a11, .int w3, .int w4, .int w5, .int w6, .ref a12, .ref a13]), (a3, cI G 6 (rN O)), (a4, cI G 6 (rN T)), (a5, cI G 6 (rN K)), (a10, cI G 36 (rN (flM B)))] := by
          intro fuel
          induction fuel with
          | zero => intro r M hr hfuel hM; exact absurd hr (by omega)
          | succ fuel ih2 =>
            intro r M hr hfuel hM
            refine k_iload_n Ox dX5_reached_42 rfl 3 rfl ?_
            refine k_bipush Ox (v := nI 6) dX5_reached_43 rfl ?_
            refine k_icmp_geN Ox 139 dX5_reached_45 rfl (by omega) (by omega) (fun c_45 => ?_) (fun c_45 => ?_)
            · obtain rfl : r = 6 := by omega
              have hM64 : M < 64 := by rw [hM]; exact rcR_lt (bmk_lt B p 6 (by omega)) 6
              refine k_iconst Ox (v := nI 0) dX5_reached_139 rfl ?_
              refine k_istore_n Ox [(3, _), (0, _), (1, _), (2, _)] dX5_reached_140 rfl (by decide) rfl ?_
              refine k_iconst Ox (v := nI 0) dX5_reached_141 rfl ?_
              refine k_istore Ox [(4, _), (3, _), (0, _), (1, _), (2, _)] dX5_reached_142 (by decide) rfl ?_
              have L144 : ∀ (fuel : Nat) (a n : Nat), a ≤ 6 → 7 ≤ a + fuel → n = cnt (fun a => M.testBit a) a → V x G 6 0 0 144 [(0, .ref m), (1, .int (nI p)), (2, .int (nI M)), (3, .int (nI n)), (4, .int (nI a))] [] [(m, cO 5 [.ref a1, .ref a2, .ref a3, .ref a4, .ref a5, .ref a6, .ref a7, .int (nI fd), .int (nI sg), .ref a8, .int (nI mn), .ref a9, .ref a10, .int w1, .int w2, .ref a11, .int w3, .int w4, .int w5, .int w6, .ref a12, .ref a13]), (a3, cI G 6 (rN O)), (a4, cI G 6 (rN T)), (a5, cI G 6 (rN K)), (a10, cI G 36 (rN (flM B)))] := by
                intro fuel
                induction fuel with
                | zero => intro a n ha hfuel hn; exact absurd ha (by omega)
                | succ fuel ih3 =>
                  intro a n ha hfuel hn
                  refine k_iload Ox dX5_reached_144 4 rfl ?_
                  refine k_bipush Ox (v := nI 6) dX5_reached_146 rfl ?_
                  refine k_icmp_geN Ox 166 dX5_reached_148 rfl (by omega) (by omega) (fun c_148 => ?_) (fun c_148 => ?_)
                  · obtain rfl : a = 6 := by omega
                    refine k_iload_n Ox dX5_reached_166 rfl 3 rfl ?_
                    refine k_iret0 Ox Rt dX5_reached_167 (Nat.le_of_ble_eq_true rfl) (Nat.le_of_ble_eq_true rfl) rfl ?_
                    exact ⟨⟨by rw [hn, hM]; rfl, rfl⟩, rfl⟩
                  · refine k_iload_n Ox dX5_reached_151 rfl 3 rfl ?_
                    refine k_iload_n Ox dX5_reached_152 rfl 2 rfl ?_
                    refine k_iload Ox dX5_reached_153 4 rfl ?_
                    refine k_ishr Ox dX5_reached_155 ?_
                    refine k_iconst Ox (v := nI 1) dX5_reached_156 rfl ?_
                    refine k_iand Ox dX5_reached_157 ?_
                    refine k_top _ (hasb M hM64 a (by omega)) ?_
                    refine k_iadd Ox dX5_reached_158 ?_
                    refine k_top (nI (n + if M.testBit a then 1 else 0)) (addb _ _) ?_
                    refine k_istore_n Ox [(3, _), (0, _), (1, _), (2, _), (4, _)] dX5_reached_159 rfl (by decide) rfl ?_
                    refine k_iincN Ox (k := 4) (m := 1) [(4, _), (3, _), (0, _), (1, _), (2, _)] dX5_reached_160 rfl rfl (by decide) rfl ?_
                    refine k_goto Ox 144 dX5_reached_163 rfl ?_
                    refine k_sub [2, 3, 4, 1, 0] [(0, _), (1, _), (2, _), (3, _), (4, _)] rfl ?_
                    exact ih3 (a + 1) _ (by omega) (by omega) (by rw [hn]; rfl)
              refine k_sub [2, 3, 4, 1, 0] [(0, _), (1, _), (2, _), (3, _), (4, _)] rfl ?_
              exact L144 7 0 0 (by omega) (by omega) rfl
            · refine k_iconst Ox (v := nI 0) dX5_reached_48 rfl ?_
              refine k_istore Ox [(4, _), (0, _), (1, _), (2, _), (3, _)] dX5_reached_49 (by decide) rfl ?_
              have L51 : ∀ (fuel : Nat) (b M : Nat), b ≤ 6 → 7 ≤ b + fuel → M = rcB O T K p (rcR O T K p (bmk B p 6) r) b → V x G 6 0 0 51 [(0, .ref m), (1, .int (nI p)), (2, .int (nI M)), (3, .int (nI r)), (4, .int (nI b))] [] [(m, cO 5 [.ref a1, .ref a2, .ref a3, .ref a4, .ref a5, .ref a6, .ref a7, .int (nI fd), .int (nI sg), .ref a8, .int (nI mn), .ref a9, .ref a10, .int w1, .int w2, .ref a11, .int w3, .int w4, .int w5, .int w6, .ref a12, .ref a13]), (a3, cI G 6 (rN O)), (a4, cI G 6 (rN T)), (a5, cI G 6 (rN K)), (a10, cI G 36 (rN (flM B)))] := by
                intro fuel
                induction fuel with
                | zero => intro b M hb hfuel hM2; exact absurd hb (by omega)
                | succ fuel ih3 =>
                  intro b M hb hfuel hM2
                  refine k_iload Ox dX5_reached_51 4 rfl ?_
                  refine k_bipush Ox (v := nI 6) dX5_reached_53 rfl ?_
                  refine k_icmp_geN Ox 133 dX5_reached_55 rfl (by omega) (by omega) (fun c_55 => ?_) (fun c_55 => ?_)
                  · obtain rfl : b = 6 := by omega
                    refine k_iincN Ox (k := 3) (m := 1) [(3, _), (0, _), (1, _), (2, _), (4, _)] dX5_reached_133 rfl rfl (by decide) rfl ?_
                    refine k_goto Ox 42 dX5_reached_136 rfl ?_
                    refine k_sub [1, 2, 3, 0] [(0, _), (1, _), (2, _), (3, _)] rfl ?_
                    exact ih2 (r + 1) _ (by omega) (by omega) hM2
                  · have ho1 := hO p hp
                    have hM64 : M < 64 := by rw [hM2]; exact rcB_lt (rcR_lt (bmk_lt B p 6 (by omega)) r) b (by omega)
                    have hand : T b &&& setb M (O p) true < 2 ^ 6 := Nat.and_lt_two_pow _ (setb_lt M hM64 (O p) ho1 true)
                    have L109 : ∀ (mv : Bool), mv = rcMay O T K p M b → V x G 6 0 0 109 [(0, .ref m), (1, .int (nI p)), (2, .int (nI M)), (3, .int (nI r)), (4, .int (nI b))] [.int (bI mv)] [(m, cO 5 [.ref a1, .ref a2, .ref a3, .ref a4, .ref a5, .ref a6, .ref a7, .int (nI fd), .int (nI sg), .ref a8, .int (nI mn), .ref a9, .ref a10, .int w1, .int w2, .ref a11, .int w3, .int w4, .int w5, .int w6, .ref a12, .ref a13]), (a3, cI G 6 (rN O)), (a4, cI G 6 (rN T)), (a5, cI G 6 (rN K)), (a10, cI G 36 (rN (flM B)))] := by
                      intro mv hmv
                      refine k_istore Ox [(5, _), (0, _), (1, _), (2, _), (3, _), (4, _)] dX5_reached_109 (by decide) rfl ?_
                      refine k_iload_n Ox dX5_reached_111 rfl 3 rfl ?_
                      refine k_iload Ox dX5_reached_112 0 rfl ?_
                      refine k_if_eqB Ox 124 dX5_reached_114 rfl (fun c_114 => ?_) (fun c_114 => ?_)
                      · refine k_iconst Ox (v := nI 0) dX5_reached_124 rfl ?_
                        refine k_ior Ox dX5_reached_125 ?_
                        first | refine k_top _ (orb1 M hM64 b (by omega)) ?_ | refine k_top (nI M) (or0 M hM64) ?_
                        refine k_istore_n Ox [(2, _), (5, _), (0, _), (1, _), (3, _), (4, _)] dX5_reached_126 rfl (by decide) rfl ?_
                        refine k_iincN Ox (k := 5) (m := 1) [(4, _), (2, _), (5, _), (0, _), (1, _), (3, _)] dX5_reached_127 rfl rfl (by decide) rfl ?_
                        refine k_goto Ox 51 dX5_reached_130 rfl ?_
                        refine k_sub [3, 4, 1, 5, 0] [(0, _), (1, _), (2, _), (3, _), (4, _)] rfl ?_
                        first | exact ih3 (b + 1) _ (by omega) (by omega) (rcB_t hM2 (hmv.symm.trans c_114)) | exact ih3 (b + 1) _ (by omega) (by omega) (rcB_f hM2 (hmv.symm.trans c_114))
                      · refine k_iconst Ox (v := nI 1) dX5_reached_117 rfl ?_
                        refine k_iload Ox dX5_reached_118 5 rfl ?_
                        refine k_ishl Ox dX5_reached_120 ?_
                        refine k_top _ (shl1 b (by omega)) ?_
                        refine k_goto Ox 125 dX5_reached_121 rfl ?_
                        refine k_ior Ox dX5_reached_125 ?_
                        first | refine k_top _ (orb1 M hM64 b (by omega)) ?_ | refine k_top (nI M) (or0 M hM64) ?_
                        refine k_istore_n Ox [(2, _), (5, _), (0, _), (1, _), (3, _), (4, _)] dX5_reached_126 rfl (by decide) rfl ?_
                        refine k_iincN Ox (k := 5) (m := 1) [(4, _), (2, _), (5, _), (0, _), (1, _), (3, _)] dX5_reached_127 rfl rfl (by decide) rfl ?_
                        refine k_goto Ox 51 dX5_reached_130 rfl ?_
                        refine k_sub [3, 4, 1, 5, 0] [(0, _), (1, _), (2, _), (3, _), (4, _)] rfl ?_
                        first | exact ih3 (b + 1) _ (by omega) (by omega) (rcB_t hM2 (hmv.symm.trans c_114)) | exact ih3 (b + 1) _ (by omega) (by omega) (rcB_f hM2 (hmv.symm.trans c_114))
                    refine k_aload_n Ox dX5_reached_58 rfl 0 rfl ?_
                    refine k_get Ox 0 rfl rfl hin_X5_reached_X5 2 rfl lk_X5_reached_f16 rfl rfl dX5_reached_59 ?_
                    refine k_iload_n Ox dX5_reached_62 rfl 1 rfl ?_
                    refine k_iald Ox 1 rfl (by omega) (by first | decide | omega) dX5_reached_63 ?_
                    refine k_iload Ox dX5_reached_64 4 rfl ?_
                    refine k_icmp_eqN Ox 108 dX5_reached_66 rfl (by omega) (by omega) (fun c_66 => ?_) (fun c_66 => ?_)
                    · refine k_iconst Ox (v := nI 0) dX5_reached_108 rfl ?_
                      first | exact L109 false (rc_1 c_66) | exact L109 false (rc_2 c_80) | exact L109 false (rc_3 c_101) | exact L109 true (rc_4 c_66 c_80 c_101)
                    · refine k_aload_n Ox dX5_reached_69 rfl 0 rfl ?_
                      refine k_get Ox 0 rfl rfl hin_X5_reached_X5 4 rfl lk_X5_reached_f22 rfl rfl dX5_reached_70 ?_
                      refine k_iload Ox dX5_reached_73 4 rfl ?_
                      refine k_iald Ox 3 rfl (by omega) (by first | decide | omega) dX5_reached_75 ?_
                      refine k_iload_n Ox dX5_reached_76 rfl 1 rfl ?_
                      refine k_callS Ox [] (c_X5_has G _ _ (hK b (by omega)) (hp)) 2 rfl rfl rfl ⟨rfl, rfl⟩ rfl rfl gX5_reached_X5_has ⟨(by decide +kernel), (by decide +kernel), (by decide +kernel)⟩ rfl dX5_reached_77 (Nat.le_of_ble_eq_true rfl) rfl ⟨Nat.le_of_ble_eq_true rfl, Nat.le_of_ble_eq_true rfl⟩ (fun r wa wb hp => ?_)
                      obtain ⟨⟨rfl, rfl⟩, rfl⟩ := hp
                      show V x G _ _ _ _ _ (.int _ :: _) [_, _, _, _, _]
                      refine k_if_neB Ox 108 dX5_reached_80 rfl (fun c_80 => ?_) (fun c_80 => ?_)
                      · refine k_iconst Ox (v := nI 0) dX5_reached_108 rfl ?_
                        first | exact L109 false (rc_1 c_66) | exact L109 false (rc_2 c_80) | exact L109 false (rc_3 c_101) | exact L109 true (rc_4 c_66 c_80 c_101)
                      · refine k_aload_n Ox dX5_reached_83 rfl 0 rfl ?_
                        refine k_get Ox 0 rfl rfl hin_X5_reached_X5 3 rfl lk_X5_reached_f19 rfl rfl dX5_reached_84 ?_
                        refine k_iload Ox dX5_reached_87 4 rfl ?_
                        refine k_iald Ox 2 rfl (by omega) (by first | decide | omega) dX5_reached_89 ?_
                        refine k_iload_n Ox dX5_reached_90 rfl 2 rfl ?_
                        refine k_iconst Ox (v := nI 1) dX5_reached_91 rfl ?_
                        refine k_aload_n Ox dX5_reached_92 rfl 0 rfl ?_
                        refine k_get Ox 0 rfl rfl hin_X5_reached_X5 2 rfl lk_X5_reached_f16 rfl rfl dX5_reached_93 ?_
                        refine k_iload_n Ox dX5_reached_96 rfl 1 rfl ?_
                        refine k_iald Ox 1 rfl (by omega) (by first | decide | omega) dX5_reached_97 ?_
                        refine k_ishl Ox dX5_reached_98 ?_
                        refine k_top _ (shl1 (O p) ho1) ?_
                        refine k_ior Ox dX5_reached_99 ?_
                        refine k_top _ (orb1 M hM64 (O p) ho1) ?_
                        refine k_iand Ox dX5_reached_100 ?_
                        refine k_top _ (andb (T b) (hT b (by omega)) _ (setb_lt M hM64 (O p) ho1 true)) ?_
                        refine k_if_eqN Ox 108 dX5_reached_101 rfl (by omega) (fun c_101 => ?_) (fun c_101 => ?_)
                        · refine k_iconst Ox (v := nI 0) dX5_reached_108 rfl ?_
                          first | exact L109 false (rc_1 c_66) | exact L109 false (rc_2 c_80) | exact L109 false (rc_3 c_101) | exact L109 true (rc_4 c_66 c_80 c_101)
                        · refine k_iconst Ox (v := nI 1) dX5_reached_104 rfl ?_
                          refine k_goto Ox 109 dX5_reached_105 rfl ?_
                          first | exact L109 false (rc_1 c_66) | exact L109 false (rc_2 c_80) | exact L109 false (rc_3 c_101) | exact L109 true (rc_4 c_66 c_80 c_101)
              refine k_sub [1, 2, 3, 4, 0] [(0, _), (1, _), (2, _), (3, _), (4, _)] rfl ?_
              exact L51 7 0 _ (by omega) (by omega) hM
        refine k_sub [1, 2, 3, 0] [(0, _), (1, _), (2, _), (3, _)] rfl ?_
        exact L42 7 0 _ (by omega) (by omega) hM
      · have hb1 := hB a p (by omega) hp
        have hM64 : M < 64 := by rw [hM]; exact bmk_lt B p a (by omega)
        refine k_iload_n Ox dX5_reached_10 rfl 2 rfl ?_
        refine k_aload_n Ox dX5_reached_11 rfl 0 rfl ?_
        refine k_get Ox 0 rfl rfl hin_X5_reached_X5 12 rfl lk_X5_reached_f41 rfl rfl dX5_reached_12 ?_
        refine k_bipush Ox (v := nI 6) dX5_reached_15 rfl ?_
        refine k_iload_n Ox dX5_reached_17 rfl 3 rfl ?_
        refine k_imulN Ox dX5_reached_18 ?_
        refine k_iload_n Ox dX5_reached_19 rfl 1 rfl ?_
        refine k_iaddN Ox dX5_reached_20 ?_
        refine k_iald Ox 4 rfl (by omega) (by first | decide | omega) dX5_reached_21 ?_
        refine k_top (nI (B a p)) (congrArg nI (flM_at hp)) ?_
        refine k_if_leN Ox 31 dX5_reached_22 rfl (by omega) (fun c_22 => ?_) (fun c_22 => ?_)
        · refine k_iconst Ox (v := nI 0) dX5_reached_31 rfl ?_
          refine k_ior Ox dX5_reached_32 ?_
          first | refine k_top _ (orb1 M hM64 a (by omega)) ?_ | refine k_top (nI M) (or0 M hM64) ?_
          refine k_istore_n Ox [(2, _), (0, _), (1, _), (3, _)] dX5_reached_33 rfl (by decide) rfl ?_
          refine k_iincN Ox (k := 3) (m := 1) [(3, _), (2, _), (0, _), (1, _)] dX5_reached_34 rfl rfl (by decide) rfl ?_
          refine k_goto Ox 4 dX5_reached_37 rfl ?_
          refine k_sub [2, 3, 1, 0] [(0, _), (1, _), (2, _), (3, _)] rfl ?_
          first | exact ih (a + 1) _ (by omega) (by omega) (bmk_t hM c_22) | exact ih (a + 1) _ (by omega) (by omega) (bmk_f hM (Nat.le_of_eq c_22))
        · refine k_iconst Ox (v := nI 1) dX5_reached_25 rfl ?_
          refine k_iload_n Ox dX5_reached_26 rfl 3 rfl ?_
          refine k_ishl Ox dX5_reached_27 ?_
          refine k_top _ (shl1 a (by omega)) ?_
          refine k_goto Ox 32 dX5_reached_28 rfl ?_
          refine k_ior Ox dX5_reached_32 ?_
          first | refine k_top _ (orb1 M hM64 a (by omega)) ?_ | refine k_top (nI M) (or0 M hM64) ?_
          refine k_istore_n Ox [(2, _), (0, _), (1, _), (3, _)] dX5_reached_33 rfl (by decide) rfl ?_
          refine k_iincN Ox (k := 3) (m := 1) [(3, _), (2, _), (0, _), (1, _)] dX5_reached_34 rfl rfl (by decide) rfl ?_
          refine k_goto Ox 4 dX5_reached_37 rfl ?_
          refine k_sub [2, 3, 1, 0] [(0, _), (1, _), (2, _), (3, _)] rfl ?_
          first | exact ih (a + 1) _ (by omega) (by omega) (bmk_t hM c_22) | exact ih (a + 1) _ (by omega) (by omega) (bmk_f hM (Nat.le_of_eq c_22))
  refine k_sub [2, 3, 1, 0] [(0, _), (1, _), (2, _), (3, _)] rfl ?_
  exact L4 7 0 0 (by omega) (by omega) rfl
theorem lk_X5_layCosts_f44 : Cond.fieldLink RX5 44 "LieBridgesModel" "cost" "[I" ∈ wsX5_layCosts := List.mem_of_getElem? (i := 1) rfl
theorem hin_X5_layCosts_X5 : ∀ w ∈ u_ws RX5 TX5 22, w ∈ wsX5_layCosts := fun _ h => List.mem_cons_of_mem _ (List.mem_append_right _ h)
theorem lk_X5_layCosts_k115 : Cond.constant RX5 115 (1000000) ∈ wsX5_layCosts := List.mem_of_getElem? (i := 2) rfl
set_option maxHeartbeats 400000 in
set_option maxRecDepth 4000 in
theorem c_X5_layCosts (G : Gx) (m a1 a2 a3 a4 a5 a6 a7 a8 a9 a10 a11 a12 a13 : Nat) (fd sg mn : Nat) (w1 w2 w3 w4 w5 w6 : Int32) (O T K : Nat → Nat) (B : Nat → Nat → Nat) (g : Nat → Int32) (n : Nat) (hO : okP O) (hT : okM T) (hK : okM K) (hB : okB B) (hn : n ≤ 6) : Ct G yX5_layCosts wsX5_layCosts { frames := 2, cells := 0, slots := 0, locals := 46 } [.ref m, .int (nI n)] [(m, cO 5 [.ref a1, .ref a2, .ref a3, .ref a4, .ref a5, .ref a6, .ref a7, .int (nI fd), .int (nI sg), .ref a8, .int (nI mn), .ref a9, .ref a10, .int w1, .int w2, .ref a11, .int w3, .int w4, .int w5, .int w6, .ref a12, .ref a13]), (a3, cI G 6 (rN O)), (a4, cI G 6 (rN T)), (a5, cI G 6 (rN K)), (a10, cI G 36 (rN (flM B))), (a11, cI G 6 g)] (fun r wa => r = none ∧ wa = [(m, cO 5 [.ref a1, .ref a2, .ref a3, .ref a4, .ref a5, .ref a6, .ref a7, .int (nI fd), .int (nI sg), .ref a8, .int (nI mn), .ref a9, .ref a10, .int w1, .int w2, .ref a11, .int w3, .int w4, .int w5, .int w6, .ref a12, .ref a13]), (a3, cI G 6 (rN O)), (a4, cI G 6 (rN T)), (a5, cI G 6 (rN K)), (a10, cI G 36 (rN (flM B))), (a11, cI G 6 (rN (lcO O T K B n)))]) := by
  refine CtN.of [(0, .ref m), (1, .int (nI n))] (by decide +kernel) rfl rfl rfl rfl ?_
  intro x Ox Rt
  refine k_iconst Ox (v := nI 0) dX5_layCosts_0 rfl ?_
  refine k_istore_n Ox [(2, _), (0, _), (1, _)] dX5_layCosts_1 rfl (by decide) rfl ?_
  have L2 : ∀ (fuel : Nat) (i : Nat) (g : Nat → Int32), i ≤ 6 → 7 ≤ i + fuel → (∀ j, j < i → g j = rN (lcO O T K B n) j) → V x G 4 0 0 2 [(0, .ref m), (1, .int (nI n)), (2, .int (nI i))] [] [(m, cO 5 [.ref a1, .ref a2, .ref a3, .ref a4, .ref a5, .ref a6, .ref a7, .int (nI fd), .int (nI sg), .ref a8, .int (nI mn), .ref a9, .ref a10, .int w1, .int w2, .ref a11, .int w3, .int w4, .int w5, .int w6, .ref a12, .ref a13]), (a3, cI G 6 (rN O)), (a4, cI G 6 (rN T)), (a5, cI G 6 (rN K)), (a10, cI G 36 (rN (flM B))), (a11, cI G 6 g)] := by
    intro fuel
    induction fuel with
    | zero => intro i g hi hfuel hg; exact absurd hi (by omega)
    | succ fuel ih =>
      intro i g hi hfuel hg
      refine k_iload_n Ox dX5_layCosts_2 rfl 2 rfl ?_
      refine k_bipush Ox (v := nI 6) dX5_layCosts_3 rfl ?_
      refine k_icmp_geN Ox 51 dX5_layCosts_5 rfl (by omega) (by omega) (fun c_5 => ?_) (fun c_5 => ?_)
      · obtain rfl : i = 6 := by omega
        refine k_cell 5 (rN (lcO O T K B n)) rfl (fun j hj => hg j (by omega)) [_, _, _, _, _, _] rfl ?_
        refine k_vret0 Ox Rt dX5_layCosts_51 (Nat.le_of_ble_eq_true rfl) (Nat.le_of_ble_eq_true rfl) rfl ?_
        exact ⟨⟨rfl, rfl⟩, rfl⟩
      · refine k_iload_n Ox dX5_layCosts_8 rfl 1 rfl ?_
        refine k_aload_n Ox dX5_layCosts_9 rfl 0 rfl ?_
        refine k_iload_n Ox dX5_layCosts_10 rfl 2 rfl ?_
        refine k_callV Ox [0, 4] (c_X5_bornBy G _ _ _ _ _ _ _ _ _ _ _ _ _ _ _ _ _ _ _ _ _ _ _ _ _ (by assumption) (by omega)) 1 rfl rfl rfl ⟨rfl, rfl⟩ rfl rfl gX5_layCosts_X5_bornBy rfl 0 rfl ⟨rfl, (by decide +kernel), (by decide +kernel), (by decide +kernel)⟩ rfl dX5_layCosts_11 (Nat.le_of_ble_eq_true rfl) rfl ⟨Nat.le_of_ble_eq_true rfl, Nat.le_of_ble_eq_true rfl⟩ (fun r wa wb hp => ?_)
        obtain ⟨⟨rfl, rfl⟩, rfl⟩ := hp
        show V x G _ _ _ _ _ (.int _ :: _) [_, _, _, _, _, _]
        refine k_isub Ox dX5_layCosts_14 ?_
        refine k_istore_n Ox [(3, _), (0, _), (1, _), (2, _)] dX5_layCosts_15 rfl (by decide) rfl ?_
        have hrl : rcN O T K B i ≤ 6 := cnt_le _ 6
        refine k_aload_n Ox dX5_layCosts_16 rfl 1 rfl ?_
        refine k_get Ox 0 rfl rfl hin_X5_layCosts_X5 15 rfl lk_X5_layCosts_f44 rfl rfl dX5_layCosts_17 ?_
        refine k_iload_n Ox dX5_layCosts_20 rfl 3 rfl ?_
        refine k_iload_n Ox dX5_layCosts_21 rfl 0 rfl ?_
        refine k_if_gt Ox 29 dX5_layCosts_22 rfl (fun c_22 => ?_) (fun c_22 => ?_)
        · refine k_aload_n Ox dX5_layCosts_29 rfl 1 rfl ?_
          refine k_iload_n Ox dX5_layCosts_30 rfl 3 rfl ?_
          refine k_callV Ox [0, 1, 2, 3, 4] (c_X5_reached G _ _ _ _ _ _ _ _ _ _ _ _ _ _ _ _ _ _ _ _ _ _ _ _ _ _ _ _ (by assumption) (by assumption) (by assumption) (by assumption) (by omega)) 1 rfl rfl rfl ⟨rfl, rfl⟩ rfl rfl gX5_layCosts_X5_reached rfl 0 rfl ⟨rfl, (by decide +kernel), (by decide +kernel), (by decide +kernel)⟩ rfl dX5_layCosts_31 (Nat.le_of_ble_eq_true rfl) rfl ⟨Nat.le_of_ble_eq_true rfl, Nat.le_of_ble_eq_true rfl⟩ (fun r wa wb hp => ?_)
          obtain ⟨⟨rfl, rfl⟩, rfl⟩ := hp
          show V x G _ _ _ _ _ (.int _ :: _) [_, _, _, _, _, _]
          refine k_iload_n Ox dX5_layCosts_34 rfl 2 rfl ?_
          refine k_icmp_ltN Ox 42 dX5_layCosts_35 rfl (by omega) (by omega) (fun c_35 => ?_) (fun c_35 => ?_)
          · refine k_ldc Ox (1000000) dX5_layCosts_42 lk_X5_layCosts_k115 ?_
            refine k_top (nI 1000000) rfl ?_
            first | refine k_top (rN (lcO O T K B n) i) (lc_a hn c_22) ?_ | refine k_top (rN (lcO O T K B n) i) (lc_b hn c_22 c_35) ?_ | refine k_top (rN (lcO O T K B n) i) (lc_c hn c_22 c_35) ?_
            refine k_iast Ox 5 rfl (by omega) (by first | decide | omega) [_, _, _, _, _, _] rfl dX5_layCosts_44 ?_
            refine k_iincN Ox (k := 3) (m := 1) [(2, _), (3, _), (0, _), (1, _)] dX5_layCosts_45 rfl rfl (by decide) rfl ?_
            refine k_goto Ox 2 dX5_layCosts_48 rfl ?_
            refine k_sub [2, 3, 0] [(0, _), (1, _), (2, _)] rfl ?_
            exact ih (i + 1) _ (by omega) (by omega) (fun j hj => cp_up hg hj)
          · refine k_iload_n Ox dX5_layCosts_38 rfl 0 rfl ?_
            refine k_goto Ox 44 dX5_layCosts_39 rfl ?_
            first | refine k_top (rN (lcO O T K B n) i) (lc_a hn c_22) ?_ | refine k_top (rN (lcO O T K B n) i) (lc_b hn c_22 c_35) ?_ | refine k_top (rN (lcO O T K B n) i) (lc_c hn c_22 c_35) ?_
            refine k_iast Ox 5 rfl (by omega) (by first | decide | omega) [_, _, _, _, _, _] rfl dX5_layCosts_44 ?_
            refine k_iincN Ox (k := 3) (m := 1) [(2, _), (3, _), (0, _), (1, _)] dX5_layCosts_45 rfl rfl (by decide) rfl ?_
            refine k_goto Ox 2 dX5_layCosts_48 rfl ?_
            refine k_sub [2, 3, 0] [(0, _), (1, _), (2, _)] rfl ?_
            exact ih (i + 1) _ (by omega) (by omega) (fun j hj => cp_up hg hj)
        · refine k_iconst Ox (v := nI 0) dX5_layCosts_25 rfl ?_
          refine k_goto Ox 44 dX5_layCosts_26 rfl ?_
          first | refine k_top (rN (lcO O T K B n) i) (lc_a hn c_22) ?_ | refine k_top (rN (lcO O T K B n) i) (lc_b hn c_22 c_35) ?_ | refine k_top (rN (lcO O T K B n) i) (lc_c hn c_22 c_35) ?_
          refine k_iast Ox 5 rfl (by omega) (by first | decide | omega) [_, _, _, _, _, _] rfl dX5_layCosts_44 ?_
          refine k_iincN Ox (k := 3) (m := 1) [(2, _), (3, _), (0, _), (1, _)] dX5_layCosts_45 rfl rfl (by decide) rfl ?_
          refine k_goto Ox 2 dX5_layCosts_48 rfl ?_
          refine k_sub [2, 3, 0] [(0, _), (1, _), (2, _)] rfl ?_
          exact ih (i + 1) _ (by omega) (by omega) (fun j hj => cp_up hg hj)
  refine k_sub [1, 2, 0] [(0, _), (1, _), (2, _)] rfl ?_
  exact L2 7 0 g (by omega) (by omega) (fun j hj => absurd hj (by omega))
