theorem lk_X5_faultOf_f62 : Cond.fieldLink RX5 62 "LieBridgesModel" "signs" "I" ∈ wsX5_faultOf := List.mem_of_getElem? (i := 1) rfl
theorem hin_X5_faultOf_X5 : ∀ w ∈ u_ws RX5 TX5 22, w ∈ wsX5_faultOf := fun _ h => List.mem_cons_of_mem _ (List.mem_append_right _ h)
theorem lk_X5_faultOf_f38 : Cond.fieldLink RX5 38 "LieBridgesModel" "pad" "[I" ∈ wsX5_faultOf := List.mem_of_getElem? (i := 2) rfl
set_option maxHeartbeats 4000000 in
set_option maxRecDepth 4000 in
theorem c_X5_faultOf (G : Gx) (m a1 a2 a3 a4 a5 a6 a7 a8 a9 a10 a11 a12 a13 : Nat) (fd sg mn : Nat) (w1 w2 w3 w4 w5 w6 : Int32) (PS : Nat → Nat) (hmn : mn ≤ 60) (hPS : ∀ i, i < mn → PS i < 128) : Ct G yX5_faultOf wsX5_faultOf { frames := 1, cells := 0, slots := 0, locals := 22 } [.ref m] [(m, cO 5 [.ref a1, .ref a2, .ref a3, .ref a4, .ref a5, .ref a6, .ref a7, .int (nI fd), .int (nI sg), .ref a8, .int (nI mn), .ref a9, .ref a10, .int w1, .int w2, .ref a11, .int w3, .int w4, .int w5, .int w6, .ref a12, .ref a13]), (a9, cI G 60 (rN PS))] (fun r wa => r = some (.int (fltM PS mn)) ∧ wa = [(m, cO 5 [.ref a1, .ref a2, .ref a3, .ref a4, .ref a5, .ref a6, .ref a7, .int (nI fd), .int (nI sg), .ref a8, .int (nI mn), .ref a9, .ref a10, .int w1, .int w2, .ref a11, .int w3, .int w4, .int w5, .int w6, .ref a12, .ref a13]), (a9, cI G 60 (rN PS))]) := by
  refine CtN.of [(0, .ref m)] (by decide +kernel) rfl rfl rfl rfl ?_
  intro x Ox Rt
  refine k_iconst Ox (v := nI 0) dX5_faultOf_0 rfl ?_
  refine k_istore_n Ox [(1, _), (0, _)] dX5_faultOf_1 rfl (by decide) rfl ?_
  refine k_iconst Ox (v := nI 0) dX5_faultOf_2 rfl ?_
  refine k_istore_n Ox [(2, _), (1, _), (0, _)] dX5_faultOf_3 rfl (by decide) rfl ?_
  refine k_iconst Ox (v := nI 0) dX5_faultOf_4 rfl ?_
  refine k_istore_n Ox [(3, _), (2, _), (1, _), (0, _)] dX5_faultOf_5 rfl (by decide) rfl ?_
  have L6 : ∀ (fuel : Nat) (k : Nat), k ≤ mn → mn + 1 ≤ k + fuel → (∀ j, j < k → msF PS j = true) → V x G 6 0 0 6 [(0, .ref m), (1, .int (nI (ms PS k).1)), (2, .int (nI (ms PS k).2)), (3, .int (nI k))] [] [(m, cO 5 [.ref a1, .ref a2, .ref a3, .ref a4, .ref a5, .ref a6, .ref a7, .int (nI fd), .int (nI sg), .ref a8, .int (nI mn), .ref a9, .ref a10, .int w1, .int w2, .ref a11, .int w3, .int w4, .int w5, .int w6, .ref a12, .ref a13]), (a9, cI G 60 (rN PS))] := by
    intro fuel
    induction fuel with
    | zero => intro k hk hfuel hq; exact absurd hk (by omega)
    | succ fuel ih =>
      intro k hk hfuel hq
      refine k_iload_n Ox dX5_faultOf_6 rfl 3 rfl ?_
      refine k_aload_n Ox dX5_faultOf_7 rfl 0 rfl ?_
      refine k_get Ox 0 rfl rfl hin_X5_faultOf_X5 10 rfl lk_X5_faultOf_f62 rfl rfl dX5_faultOf_8 ?_
      refine k_icmp_geN Ox 183 dX5_faultOf_11 rfl (by omega) (by omega) (fun c_11 => ?_) (fun c_11 => ?_)
      · obtain rfl : k = mn := by omega
        have hst := ms_st PS k
        refine k_iload_n Ox dX5_faultOf_183 rfl 1 rfl ?_
        refine k_if_neN Ox 192 dX5_faultOf_184 rfl (by omega) (fun c_184 => ?_) (fun c_184 => ?_)
        · refine k_aload_n Ox dX5_faultOf_192 rfl 0 rfl ?_
          refine k_get Ox 0 rfl rfl hin_X5_faultOf_X5 10 rfl lk_X5_faultOf_f62 rfl rfl dX5_faultOf_193 ?_
          refine k_iret0 Ox Rt dX5_faultOf_196 (Nat.le_of_ble_eq_true rfl) (Nat.le_of_ble_eq_true rfl) rfl ?_
          first | exact ⟨⟨by rw [flt_all hq, if_pos c_184], rfl⟩, rfl⟩ | exact ⟨⟨by rw [flt_all hq, if_neg (by omega)], rfl⟩, rfl⟩
        · refine k_bipush Ox (v := -6) dX5_faultOf_187 (by decide) ?_
          refine k_goto Ox 196 dX5_faultOf_189 rfl ?_
          refine k_iret0 Ox Rt dX5_faultOf_196 (Nat.le_of_ble_eq_true rfl) (Nat.le_of_ble_eq_true rfl) rfl ?_
          first | exact ⟨⟨by rw [flt_all hq, if_pos c_184], rfl⟩, rfl⟩ | exact ⟨⟨by rw [flt_all hq, if_neg (by omega)], rfl⟩, rfl⟩
      · have hs1 := hPS k c_11
        have hst := ms_st PS k
        have hop := ms_op PS k
        have hk1 : (ms PS k).1 = 1 → 0 < k := fun z => by rcases Nat.eq_zero_or_pos k with e | e; subst e; exact absurd (show (0:Nat) = 1 from z) (by decide); exact e
        refine k_aload_n Ox dX5_faultOf_14 rfl 0 rfl ?_
        refine k_get Ox 0 rfl rfl hin_X5_faultOf_X5 11 rfl lk_X5_faultOf_f38 rfl rfl dX5_faultOf_15 ?_
        refine k_iload_n Ox dX5_faultOf_18 rfl 3 rfl ?_
        refine k_iald Ox 1 rfl (by omega) (by first | decide | omega) dX5_faultOf_19 ?_
        have L170 : ∀ (a b : Nat) (ft : Bool), a = mst (ms PS k).1 (PS k) → b = mop (ms PS k).1 (ms PS k).2 (PS k) → ft = mfit (ms PS k).1 (ms PS k).2 (PS k) (PS (k - 1)) → V x G 6 0 0 170 [(0, .ref m), (1, .int (nI a)), (2, .int (nI b)), (3, .int (nI k)), (4, .int (nI (PS k))), (5, .int (bI ft))] [] [(m, cO 5 [.ref a1, .ref a2, .ref a3, .ref a4, .ref a5, .ref a6, .ref a7, .int (nI fd), .int (nI sg), .ref a8, .int (nI mn), .ref a9, .ref a10, .int w1, .int w2, .ref a11, .int w3, .int w4, .int w5, .int w6, .ref a12, .ref a13]), (a9, cI G 60 (rN PS))] := by
          intro a b ft ha hb hc
          refine k_iload Ox dX5_faultOf_170 5 rfl ?_
          refine k_if_neB Ox 177 dX5_faultOf_172 rfl (fun c_172 => ?_) (fun c_172 => ?_)
          · refine k_iincN Ox (k := 3) (m := 1) [(3, _), (0, _), (1, _), (2, _), (4, _), (5, _)] dX5_faultOf_177 rfl rfl (by decide) rfl ?_
            refine k_goto Ox 6 dX5_faultOf_180 rfl ?_
            refine k_sub [1, 2, 3, 0] [(0, _), (1, _), (2, _), (3, _)] rfl ?_
            subst ha
            subst hb
            exact ih (k + 1) (by omega) (by omega) (lt_next hq (by rw [← c_172, hc]; rfl))
          · refine k_iload_n Ox dX5_faultOf_175 rfl 3 rfl ?_
            refine k_iret0 Ox Rt dX5_faultOf_176 (Nat.le_of_ble_eq_true rfl) (Nat.le_of_ble_eq_true rfl) rfl ?_
            exact ⟨⟨by rw [flt_hit hq c_11 (by rw [← c_172, hc]; rfl)], rfl⟩, rfl⟩
        refine k_istore Ox [(4, _), (0, _), (1, _), (2, _), (3, _)] dX5_faultOf_20 (by decide) rfl ?_
        refine k_iload_n Ox dX5_faultOf_22 rfl 2 rfl ?_
        refine k_if_neN Ox 95 dX5_faultOf_23 rfl (by omega) (fun c_23 => ?_) (fun c_23 => ?_)
        · refine k_iload_n Ox dX5_faultOf_95 rfl 2 rfl ?_
          refine k_iconst Ox (v := nI 1) dX5_faultOf_96 rfl ?_
          refine k_icmp_neN Ox 137 dX5_faultOf_97 rfl (by omega) (by omega) (fun c_97 => ?_) (fun c_97 => ?_)
          · refine k_iload_n Ox dX5_faultOf_137 rfl 2 rfl ?_
            refine k_iconst Ox (v := nI 2) dX5_faultOf_138 rfl ?_
            refine k_icmp_neN Ox 157 dX5_faultOf_139 rfl (by omega) (by omega) (fun c_139 => ?_) (fun c_139 => ?_)
            · refine k_iload Ox dX5_faultOf_157 0 rfl ?_
              refine k_bipush Ox (v := nI 48) dX5_faultOf_159 rfl ?_
              refine k_bipush Ox (v := nI 53) dX5_faultOf_161 rfl ?_
              refine k_callS Ox [] (c_X5_in G _ _ _ ) 3 rfl rfl rfl ⟨rfl, rfl⟩ rfl rfl gX5_faultOf_X5_in ⟨(by decide +kernel), (by decide +kernel), (by decide +kernel)⟩ rfl dX5_faultOf_163 (Nat.le_of_ble_eq_true rfl) rfl ⟨Nat.le_of_ble_eq_true rfl, Nat.le_of_ble_eq_true rfl⟩ (fun r wa wb hp => ?_)
              obtain ⟨⟨rfl, rfl⟩, rfl⟩ := hp
              show V x G _ _ _ _ _ (.int _ :: _) [_, _]
              change V x G _ _ _ _ _ (.int (bI (inR (48) (53) _)) :: _) _
              refine k_istore Ox [(5, _), (4, _), (0, _), (1, _), (2, _), (3, _)] dX5_faultOf_166 (by decide) rfl ?_
              refine k_iconst Ox (v := nI 0) dX5_faultOf_168 rfl ?_
              refine k_istore_n Ox [(1, _), (5, _), (4, _), (0, _), (2, _), (3, _)] dX5_faultOf_169 rfl (by decide) rfl ?_
              refine k_sub [3, 0, 4, 5, 2, 1] [(0, _), (1, _), (2, _), (3, _), (4, _), (5, _)] rfl ?_
              first | (exfalso; omega) | exact L170 _ _ true (by unfold mst; (repeat' split) <;> omega) (by unfold mop; (repeat' split) <;> omega) (decide_eq_true (by omega)).symm | exact L170 _ _ false (by unfold mst; (repeat' split) <;> omega) (by unfold mop; (repeat' split) <;> omega) (decide_eq_false (by omega)).symm | exact L170 _ _ _ (by unfold mst; (repeat' split) <;> omega) (by unfold mop; (repeat' split) <;> omega) (by rw [inR_nI_iff (by omega)]; exact decide_eq_decide.mpr (by omega))
            · refine k_iload Ox dX5_faultOf_142 0 rfl ?_
              refine k_bipush Ox (v := nI 45) dX5_faultOf_144 rfl ?_
              refine k_icmp_neN Ox 157 dX5_faultOf_146 rfl (by omega) (by omega) (fun c_146 => ?_) (fun c_146 => ?_)
              · refine k_iload Ox dX5_faultOf_157 0 rfl ?_
                refine k_bipush Ox (v := nI 48) dX5_faultOf_159 rfl ?_
                refine k_bipush Ox (v := nI 53) dX5_faultOf_161 rfl ?_
                refine k_callS Ox [] (c_X5_in G _ _ _ ) 3 rfl rfl rfl ⟨rfl, rfl⟩ rfl rfl gX5_faultOf_X5_in ⟨(by decide +kernel), (by decide +kernel), (by decide +kernel)⟩ rfl dX5_faultOf_163 (Nat.le_of_ble_eq_true rfl) rfl ⟨Nat.le_of_ble_eq_true rfl, Nat.le_of_ble_eq_true rfl⟩ (fun r wa wb hp => ?_)
                obtain ⟨⟨rfl, rfl⟩, rfl⟩ := hp
                show V x G _ _ _ _ _ (.int _ :: _) [_, _]
                change V x G _ _ _ _ _ (.int (bI (inR (48) (53) _)) :: _) _
                refine k_istore Ox [(5, _), (4, _), (0, _), (1, _), (2, _), (3, _)] dX5_faultOf_166 (by decide) rfl ?_
                refine k_iconst Ox (v := nI 0) dX5_faultOf_168 rfl ?_
                refine k_istore_n Ox [(1, _), (5, _), (4, _), (0, _), (2, _), (3, _)] dX5_faultOf_169 rfl (by decide) rfl ?_
                refine k_sub [3, 0, 4, 5, 2, 1] [(0, _), (1, _), (2, _), (3, _), (4, _), (5, _)] rfl ?_
                first | (exfalso; omega) | exact L170 _ _ true (by unfold mst; (repeat' split) <;> omega) (by unfold mop; (repeat' split) <;> omega) (decide_eq_true (by omega)).symm | exact L170 _ _ false (by unfold mst; (repeat' split) <;> omega) (by unfold mop; (repeat' split) <;> omega) (decide_eq_false (by omega)).symm | exact L170 _ _ _ (by unfold mst; (repeat' split) <;> omega) (by unfold mop; (repeat' split) <;> omega) (by rw [inR_nI_iff (by omega)]; exact decide_eq_decide.mpr (by omega))
              · refine k_iconst Ox (v := nI 1) dX5_faultOf_149 rfl ?_
                refine k_istore Ox [(5, _), (4, _), (0, _), (1, _), (2, _), (3, _)] dX5_faultOf_150 (by decide) rfl ?_
                refine k_iconst Ox (v := nI 3) dX5_faultOf_152 rfl ?_
                refine k_istore_n Ox [(1, _), (5, _), (4, _), (0, _), (2, _), (3, _)] dX5_faultOf_153 rfl (by decide) rfl ?_
                refine k_goto Ox 170 dX5_faultOf_154 rfl ?_
                refine k_sub [3, 0, 4, 5, 2, 1] [(0, _), (1, _), (2, _), (3, _), (4, _), (5, _)] rfl ?_
                first | (exfalso; omega) | exact L170 _ _ true (by unfold mst; (repeat' split) <;> omega) (by unfold mop; (repeat' split) <;> omega) (decide_eq_true (by omega)).symm | exact L170 _ _ false (by unfold mst; (repeat' split) <;> omega) (by unfold mop; (repeat' split) <;> omega) (decide_eq_false (by omega)).symm | exact L170 _ _ _ (by unfold mst; (repeat' split) <;> omega) (by unfold mop; (repeat' split) <;> omega) (by rw [inR_nI_iff (by omega)]; exact decide_eq_decide.mpr (by omega))
          · refine k_iload Ox dX5_faultOf_100 0 rfl ?_
            refine k_bipush Ox (v := nI 65) dX5_faultOf_102 rfl ?_
            refine k_bipush Ox (v := nI 70) dX5_faultOf_104 rfl ?_
            refine k_callS Ox [] (c_X5_in G _ _ _ ) 3 rfl rfl rfl ⟨rfl, rfl⟩ rfl rfl gX5_faultOf_X5_in ⟨(by decide +kernel), (by decide +kernel), (by decide +kernel)⟩ rfl dX5_faultOf_106 (Nat.le_of_ble_eq_true rfl) rfl ⟨Nat.le_of_ble_eq_true rfl, Nat.le_of_ble_eq_true rfl⟩ (fun r wa wb hp => ?_)
            obtain ⟨⟨rfl, rfl⟩, rfl⟩ := hp
            show V x G _ _ _ _ _ (.int _ :: _) [_, _]
            change V x G _ _ _ _ _ (.int (bI (inR (65) (70) _)) :: _) _
            refine k_if_eqB Ox 129 dX5_faultOf_109 rfl (fun c_109 => ?_) (fun c_109 => ?_)
            · have q109 := inN_f (by omega) c_109
              refine k_iconst Ox (v := nI 0) dX5_faultOf_129 rfl ?_
              refine k_istore Ox [(5, _), (4, _), (0, _), (1, _), (2, _), (3, _)] dX5_faultOf_130 (by decide) rfl ?_
              refine k_iconst Ox (v := nI 2) dX5_faultOf_132 rfl ?_
              refine k_istore_n Ox [(1, _), (5, _), (4, _), (0, _), (2, _), (3, _)] dX5_faultOf_133 rfl (by decide) rfl ?_
              refine k_goto Ox 170 dX5_faultOf_134 rfl ?_
              refine k_sub [3, 0, 4, 5, 2, 1] [(0, _), (1, _), (2, _), (3, _), (4, _), (5, _)] rfl ?_
              first | (exfalso; omega) | exact L170 _ _ true (by unfold mst; (repeat' split) <;> omega) (by unfold mop; (repeat' split) <;> omega) (decide_eq_true (by omega)).symm | exact L170 _ _ false (by unfold mst; (repeat' split) <;> omega) (by unfold mop; (repeat' split) <;> omega) (decide_eq_false (by omega)).symm | exact L170 _ _ _ (by unfold mst; (repeat' split) <;> omega) (by unfold mop; (repeat' split) <;> omega) (by rw [inR_nI_iff (by omega)]; exact decide_eq_decide.mpr (by omega))
            · have q109 := inN_t (by omega) c_109
              have hs0 := hPS (k - 1) (by omega)
              refine k_iload Ox dX5_faultOf_112 0 rfl ?_
              refine k_aload_n Ox dX5_faultOf_114 rfl 1 rfl ?_
              refine k_get Ox 0 rfl rfl hin_X5_faultOf_X5 11 rfl lk_X5_faultOf_f38 rfl rfl dX5_faultOf_115 ?_
              refine k_iload_n Ox dX5_faultOf_118 rfl 4 rfl ?_
              refine k_iconst Ox (v := nI 1) dX5_faultOf_119 rfl ?_
              refine k_isubN Ox dX5_faultOf_120 (by omega) ?_
              refine k_iald Ox 1 rfl (by omega) (by first | decide | omega) dX5_faultOf_121 ?_
              refine k_icmp_eqN Ox 129 dX5_faultOf_122 rfl (by omega) (by omega) (fun c_122 => ?_) (fun c_122 => ?_)
              · refine k_iconst Ox (v := nI 0) dX5_faultOf_129 rfl ?_
                refine k_istore Ox [(5, _), (4, _), (0, _), (1, _), (2, _), (3, _)] dX5_faultOf_130 (by decide) rfl ?_
                refine k_iconst Ox (v := nI 2) dX5_faultOf_132 rfl ?_
                refine k_istore_n Ox [(1, _), (5, _), (4, _), (0, _), (2, _), (3, _)] dX5_faultOf_133 rfl (by decide) rfl ?_
                refine k_goto Ox 170 dX5_faultOf_134 rfl ?_
                refine k_sub [3, 0, 4, 5, 2, 1] [(0, _), (1, _), (2, _), (3, _), (4, _), (5, _)] rfl ?_
                first | (exfalso; omega) | exact L170 _ _ true (by unfold mst; (repeat' split) <;> omega) (by unfold mop; (repeat' split) <;> omega) (decide_eq_true (by omega)).symm | exact L170 _ _ false (by unfold mst; (repeat' split) <;> omega) (by unfold mop; (repeat' split) <;> omega) (decide_eq_false (by omega)).symm | exact L170 _ _ _ (by unfold mst; (repeat' split) <;> omega) (by unfold mop; (repeat' split) <;> omega) (by rw [inR_nI_iff (by omega)]; exact decide_eq_decide.mpr (by omega))
              · refine k_iconst Ox (v := nI 1) dX5_faultOf_125 rfl ?_
                refine k_goto Ox 130 dX5_faultOf_126 rfl ?_
                refine k_istore Ox [(5, _), (4, _), (0, _), (1, _), (2, _), (3, _)] dX5_faultOf_130 (by decide) rfl ?_
                refine k_iconst Ox (v := nI 2) dX5_faultOf_132 rfl ?_
                refine k_istore_n Ox [(1, _), (5, _), (4, _), (0, _), (2, _), (3, _)] dX5_faultOf_133 rfl (by decide) rfl ?_
                refine k_goto Ox 170 dX5_faultOf_134 rfl ?_
                refine k_sub [3, 0, 4, 5, 2, 1] [(0, _), (1, _), (2, _), (3, _), (4, _), (5, _)] rfl ?_
                first | (exfalso; omega) | exact L170 _ _ true (by unfold mst; (repeat' split) <;> omega) (by unfold mop; (repeat' split) <;> omega) (decide_eq_true (by omega)).symm | exact L170 _ _ false (by unfold mst; (repeat' split) <;> omega) (by unfold mop; (repeat' split) <;> omega) (decide_eq_false (by omega)).symm | exact L170 _ _ _ (by unfold mst; (repeat' split) <;> omega) (by unfold mop; (repeat' split) <;> omega) (by rw [inR_nI_iff (by omega)]; exact decide_eq_decide.mpr (by omega))
        · refine k_iload_n Ox dX5_faultOf_26 rfl 3 rfl ?_
          refine k_iload Ox dX5_faultOf_27 0 rfl ?_
          refine k_bipush Ox (v := nI 63) dX5_faultOf_29 rfl ?_
          refine k_icmp_neN Ox 38 dX5_faultOf_31 rfl (by omega) (by omega) (fun c_31 => ?_) (fun c_31 => ?_)
          · refine k_iconst Ox (v := nI 0) dX5_faultOf_38 rfl ?_
            refine k_iaddN Ox dX5_faultOf_39 ?_
            refine k_istore_n Ox [(2, _), (4, _), (0, _), (1, _), (3, _)] dX5_faultOf_40 rfl (by decide) rfl ?_
            refine k_iload Ox dX5_faultOf_41 1 rfl ?_
            refine k_bipush Ox (v := nI 46) dX5_faultOf_43 rfl ?_
            refine k_icmp_eqN Ox 72 dX5_faultOf_45 rfl (by omega) (by omega) (fun c_45 => ?_) (fun c_45 => ?_)
            · refine k_iconst Ox (v := nI 1) dX5_faultOf_72 rfl ?_
              refine k_goto Ox 77 dX5_faultOf_73 rfl ?_
              refine k_istore Ox [(5, _), (2, _), (4, _), (0, _), (1, _), (3, _)] dX5_faultOf_77 (by decide) rfl ?_
              refine k_iload Ox dX5_faultOf_79 2 rfl ?_
              refine k_bipush Ox (v := nI 46) dX5_faultOf_81 rfl ?_
              refine k_icmp_neN Ox 90 dX5_faultOf_83 rfl (by omega) (by omega) (fun c_83 => ?_) (fun c_83 => ?_)
              · refine k_iconst Ox (v := nI 1) dX5_faultOf_90 rfl ?_
                refine k_istore_n Ox [(1, _), (5, _), (2, _), (4, _), (0, _), (3, _)] dX5_faultOf_91 rfl (by decide) rfl ?_
                refine k_goto Ox 170 dX5_faultOf_92 rfl ?_
                refine k_sub [4, 0, 2, 5, 3, 1] [(0, _), (1, _), (2, _), (3, _), (4, _), (5, _)] rfl ?_
                first | (exfalso; omega) | exact L170 _ _ true (by unfold mst; (repeat' split) <;> omega) (by unfold mop; (repeat' split) <;> omega) (decide_eq_true (by omega)).symm | exact L170 _ _ false (by unfold mst; (repeat' split) <;> omega) (by unfold mop; (repeat' split) <;> omega) (decide_eq_false (by omega)).symm | exact L170 _ _ _ (by unfold mst; (repeat' split) <;> omega) (by unfold mop; (repeat' split) <;> omega) (by rw [inR_nI_iff (by omega)]; exact decide_eq_decide.mpr (by omega))
              · refine k_iconst Ox (v := nI 0) dX5_faultOf_86 rfl ?_
                refine k_goto Ox 91 dX5_faultOf_87 rfl ?_
                refine k_istore_n Ox [(1, _), (5, _), (2, _), (4, _), (0, _), (3, _)] dX5_faultOf_91 rfl (by decide) rfl ?_
                refine k_goto Ox 170 dX5_faultOf_92 rfl ?_
                refine k_sub [4, 0, 2, 5, 3, 1] [(0, _), (1, _), (2, _), (3, _), (4, _), (5, _)] rfl ?_
                first | (exfalso; omega) | exact L170 _ _ true (by unfold mst; (repeat' split) <;> omega) (by unfold mop; (repeat' split) <;> omega) (decide_eq_true (by omega)).symm | exact L170 _ _ false (by unfold mst; (repeat' split) <;> omega) (by unfold mop; (repeat' split) <;> omega) (decide_eq_false (by omega)).symm | exact L170 _ _ _ (by unfold mst; (repeat' split) <;> omega) (by unfold mop; (repeat' split) <;> omega) (by rw [inR_nI_iff (by omega)]; exact decide_eq_decide.mpr (by omega))
            · refine k_iload Ox dX5_faultOf_48 1 rfl ?_
              refine k_bipush Ox (v := nI 65) dX5_faultOf_50 rfl ?_
              refine k_bipush Ox (v := nI 70) dX5_faultOf_52 rfl ?_
              refine k_callS Ox [] (c_X5_in G _ _ _ ) 3 rfl rfl rfl ⟨rfl, rfl⟩ rfl rfl gX5_faultOf_X5_in ⟨(by decide +kernel), (by decide +kernel), (by decide +kernel)⟩ rfl dX5_faultOf_54 (Nat.le_of_ble_eq_true rfl) rfl ⟨Nat.le_of_ble_eq_true rfl, Nat.le_of_ble_eq_true rfl⟩ (fun r wa wb hp => ?_)
              obtain ⟨⟨rfl, rfl⟩, rfl⟩ := hp
              show V x G _ _ _ _ _ (.int _ :: _) [_, _]
              change V x G _ _ _ _ _ (.int (bI (inR (65) (70) _)) :: _) _
              refine k_if_neB Ox 72 dX5_faultOf_57 rfl (fun c_57 => ?_) (fun c_57 => ?_)
              · have q57 := inN_t (by omega) c_57
                refine k_iconst Ox (v := nI 1) dX5_faultOf_72 rfl ?_
                refine k_goto Ox 77 dX5_faultOf_73 rfl ?_
                refine k_istore Ox [(5, _), (2, _), (4, _), (0, _), (1, _), (3, _)] dX5_faultOf_77 (by decide) rfl ?_
                refine k_iload Ox dX5_faultOf_79 2 rfl ?_
                refine k_bipush Ox (v := nI 46) dX5_faultOf_81 rfl ?_
                refine k_icmp_neN Ox 90 dX5_faultOf_83 rfl (by omega) (by omega) (fun c_83 => ?_) (fun c_83 => ?_)
                · refine k_iconst Ox (v := nI 1) dX5_faultOf_90 rfl ?_
                  refine k_istore_n Ox [(1, _), (5, _), (2, _), (4, _), (0, _), (3, _)] dX5_faultOf_91 rfl (by decide) rfl ?_
                  refine k_goto Ox 170 dX5_faultOf_92 rfl ?_
                  refine k_sub [4, 0, 2, 5, 3, 1] [(0, _), (1, _), (2, _), (3, _), (4, _), (5, _)] rfl ?_
                  first | (exfalso; omega) | exact L170 _ _ true (by unfold mst; (repeat' split) <;> omega) (by unfold mop; (repeat' split) <;> omega) (decide_eq_true (by omega)).symm | exact L170 _ _ false (by unfold mst; (repeat' split) <;> omega) (by unfold mop; (repeat' split) <;> omega) (decide_eq_false (by omega)).symm | exact L170 _ _ _ (by unfold mst; (repeat' split) <;> omega) (by unfold mop; (repeat' split) <;> omega) (by rw [inR_nI_iff (by omega)]; exact decide_eq_decide.mpr (by omega))
                · refine k_iconst Ox (v := nI 0) dX5_faultOf_86 rfl ?_
                  refine k_goto Ox 91 dX5_faultOf_87 rfl ?_
                  refine k_istore_n Ox [(1, _), (5, _), (2, _), (4, _), (0, _), (3, _)] dX5_faultOf_91 rfl (by decide) rfl ?_
                  refine k_goto Ox 170 dX5_faultOf_92 rfl ?_
                  refine k_sub [4, 0, 2, 5, 3, 1] [(0, _), (1, _), (2, _), (3, _), (4, _), (5, _)] rfl ?_
                  first | (exfalso; omega) | exact L170 _ _ true (by unfold mst; (repeat' split) <;> omega) (by unfold mop; (repeat' split) <;> omega) (decide_eq_true (by omega)).symm | exact L170 _ _ false (by unfold mst; (repeat' split) <;> omega) (by unfold mop; (repeat' split) <;> omega) (decide_eq_false (by omega)).symm | exact L170 _ _ _ (by unfold mst; (repeat' split) <;> omega) (by unfold mop; (repeat' split) <;> omega) (by rw [inR_nI_iff (by omega)]; exact decide_eq_decide.mpr (by omega))
              · have q57 := inN_f (by omega) c_57
                refine k_iload Ox dX5_faultOf_60 1 rfl ?_
                refine k_bipush Ox (v := nI 63) dX5_faultOf_62 rfl ?_
                refine k_icmp_neN Ox 76 dX5_faultOf_64 rfl (by omega) (by omega) (fun c_64 => ?_) (fun c_64 => ?_)
                · refine k_iconst Ox (v := nI 0) dX5_faultOf_76 rfl ?_
                  refine k_istore Ox [(5, _), (2, _), (4, _), (0, _), (1, _), (3, _)] dX5_faultOf_77 (by decide) rfl ?_
                  refine k_iload Ox dX5_faultOf_79 2 rfl ?_
                  refine k_bipush Ox (v := nI 46) dX5_faultOf_81 rfl ?_
                  refine k_icmp_neN Ox 90 dX5_faultOf_83 rfl (by omega) (by omega) (fun c_83 => ?_) (fun c_83 => ?_)
                  · refine k_iconst Ox (v := nI 1) dX5_faultOf_90 rfl ?_
                    refine k_istore_n Ox [(1, _), (5, _), (2, _), (4, _), (0, _), (3, _)] dX5_faultOf_91 rfl (by decide) rfl ?_
                    refine k_goto Ox 170 dX5_faultOf_92 rfl ?_
                    refine k_sub [4, 0, 2, 5, 3, 1] [(0, _), (1, _), (2, _), (3, _), (4, _), (5, _)] rfl ?_
                    first | (exfalso; omega) | exact L170 _ _ true (by unfold mst; (repeat' split) <;> omega) (by unfold mop; (repeat' split) <;> omega) (decide_eq_true (by omega)).symm | exact L170 _ _ false (by unfold mst; (repeat' split) <;> omega) (by unfold mop; (repeat' split) <;> omega) (decide_eq_false (by omega)).symm | exact L170 _ _ _ (by unfold mst; (repeat' split) <;> omega) (by unfold mop; (repeat' split) <;> omega) (by rw [inR_nI_iff (by omega)]; exact decide_eq_decide.mpr (by omega))
                  · refine k_iconst Ox (v := nI 0) dX5_faultOf_86 rfl ?_
                    refine k_goto Ox 91 dX5_faultOf_87 rfl ?_
                    refine k_istore_n Ox [(1, _), (5, _), (2, _), (4, _), (0, _), (3, _)] dX5_faultOf_91 rfl (by decide) rfl ?_
                    refine k_goto Ox 170 dX5_faultOf_92 rfl ?_
                    refine k_sub [4, 0, 2, 5, 3, 1] [(0, _), (1, _), (2, _), (3, _), (4, _), (5, _)] rfl ?_
                    first | (exfalso; omega) | exact L170 _ _ true (by unfold mst; (repeat' split) <;> omega) (by unfold mop; (repeat' split) <;> omega) (decide_eq_true (by omega)).symm | exact L170 _ _ false (by unfold mst; (repeat' split) <;> omega) (by unfold mop; (repeat' split) <;> omega) (decide_eq_false (by omega)).symm | exact L170 _ _ _ (by unfold mst; (repeat' split) <;> omega) (by unfold mop; (repeat' split) <;> omega) (by rw [inR_nI_iff (by omega)]; exact decide_eq_decide.mpr (by omega))
                · refine k_iload_n Ox dX5_faultOf_67 rfl 0 rfl ?_
                  refine k_iconst Ox (v := nI 4) dX5_faultOf_68 rfl ?_
                  refine k_icmp_geN Ox 76 dX5_faultOf_69 rfl (by omega) (by omega) (fun c_69 => ?_) (fun c_69 => ?_)
                  · refine k_iconst Ox (v := nI 0) dX5_faultOf_76 rfl ?_
                    refine k_istore Ox [(5, _), (2, _), (4, _), (0, _), (1, _), (3, _)] dX5_faultOf_77 (by decide) rfl ?_
                    refine k_iload Ox dX5_faultOf_79 2 rfl ?_
                    refine k_bipush Ox (v := nI 46) dX5_faultOf_81 rfl ?_
                    refine k_icmp_neN Ox 90 dX5_faultOf_83 rfl (by omega) (by omega) (fun c_83 => ?_) (fun c_83 => ?_)
                    · refine k_iconst Ox (v := nI 1) dX5_faultOf_90 rfl ?_
                      refine k_istore_n Ox [(1, _), (5, _), (2, _), (4, _), (0, _), (3, _)] dX5_faultOf_91 rfl (by decide) rfl ?_
                      refine k_goto Ox 170 dX5_faultOf_92 rfl ?_
                      refine k_sub [4, 0, 2, 5, 3, 1] [(0, _), (1, _), (2, _), (3, _), (4, _), (5, _)] rfl ?_
                      first | (exfalso; omega) | exact L170 _ _ true (by unfold mst; (repeat' split) <;> omega) (by unfold mop; (repeat' split) <;> omega) (decide_eq_true (by omega)).symm | exact L170 _ _ false (by unfold mst; (repeat' split) <;> omega) (by unfold mop; (repeat' split) <;> omega) (decide_eq_false (by omega)).symm | exact L170 _ _ _ (by unfold mst; (repeat' split) <;> omega) (by unfold mop; (repeat' split) <;> omega) (by rw [inR_nI_iff (by omega)]; exact decide_eq_decide.mpr (by omega))
                    · refine k_iconst Ox (v := nI 0) dX5_faultOf_86 rfl ?_
                      refine k_goto Ox 91 dX5_faultOf_87 rfl ?_
                      refine k_istore_n Ox [(1, _), (5, _), (2, _), (4, _), (0, _), (3, _)] dX5_faultOf_91 rfl (by decide) rfl ?_
                      refine k_goto Ox 170 dX5_faultOf_92 rfl ?_
                      refine k_sub [4, 0, 2, 5, 3, 1] [(0, _), (1, _), (2, _), (3, _), (4, _), (5, _)] rfl ?_
                      first | (exfalso; omega) | exact L170 _ _ true (by unfold mst; (repeat' split) <;> omega) (by unfold mop; (repeat' split) <;> omega) (decide_eq_true (by omega)).symm | exact L170 _ _ false (by unfold mst; (repeat' split) <;> omega) (by unfold mop; (repeat' split) <;> omega) (decide_eq_false (by omega)).symm | exact L170 _ _ _ (by unfold mst; (repeat' split) <;> omega) (by unfold mop; (repeat' split) <;> omega) (by rw [inR_nI_iff (by omega)]; exact decide_eq_decide.mpr (by omega))
                  · refine k_iconst Ox (v := nI 1) dX5_faultOf_72 rfl ?_
                    refine k_goto Ox 77 dX5_faultOf_73 rfl ?_
                    refine k_istore Ox [(5, _), (2, _), (4, _), (0, _), (1, _), (3, _)] dX5_faultOf_77 (by decide) rfl ?_
                    refine k_iload Ox dX5_faultOf_79 2 rfl ?_
                    refine k_bipush Ox (v := nI 46) dX5_faultOf_81 rfl ?_
                    refine k_icmp_neN Ox 90 dX5_faultOf_83 rfl (by omega) (by omega) (fun c_83 => ?_) (fun c_83 => ?_)
                    · refine k_iconst Ox (v := nI 1) dX5_faultOf_90 rfl ?_
                      refine k_istore_n Ox [(1, _), (5, _), (2, _), (4, _), (0, _), (3, _)] dX5_faultOf_91 rfl (by decide) rfl ?_
                      refine k_goto Ox 170 dX5_faultOf_92 rfl ?_
                      refine k_sub [4, 0, 2, 5, 3, 1] [(0, _), (1, _), (2, _), (3, _), (4, _), (5, _)] rfl ?_
                      first | (exfalso; omega) | exact L170 _ _ true (by unfold mst; (repeat' split) <;> omega) (by unfold mop; (repeat' split) <;> omega) (decide_eq_true (by omega)).symm | exact L170 _ _ false (by unfold mst; (repeat' split) <;> omega) (by unfold mop; (repeat' split) <;> omega) (decide_eq_false (by omega)).symm | exact L170 _ _ _ (by unfold mst; (repeat' split) <;> omega) (by unfold mop; (repeat' split) <;> omega) (by rw [inR_nI_iff (by omega)]; exact decide_eq_decide.mpr (by omega))
                    · refine k_iconst Ox (v := nI 0) dX5_faultOf_86 rfl ?_
                      refine k_goto Ox 91 dX5_faultOf_87 rfl ?_
                      refine k_istore_n Ox [(1, _), (5, _), (2, _), (4, _), (0, _), (3, _)] dX5_faultOf_91 rfl (by decide) rfl ?_
                      refine k_goto Ox 170 dX5_faultOf_92 rfl ?_
                      refine k_sub [4, 0, 2, 5, 3, 1] [(0, _), (1, _), (2, _), (3, _), (4, _), (5, _)] rfl ?_
                      first | (exfalso; omega) | exact L170 _ _ true (by unfold mst; (repeat' split) <;> omega) (by unfold mop; (repeat' split) <;> omega) (decide_eq_true (by omega)).symm | exact L170 _ _ false (by unfold mst; (repeat' split) <;> omega) (by unfold mop; (repeat' split) <;> omega) (decide_eq_false (by omega)).symm | exact L170 _ _ _ (by unfold mst; (repeat' split) <;> omega) (by unfold mop; (repeat' split) <;> omega) (by rw [inR_nI_iff (by omega)]; exact decide_eq_decide.mpr (by omega))
          · refine k_iconst Ox (v := nI 1) dX5_faultOf_34 rfl ?_
            refine k_goto Ox 39 dX5_faultOf_35 rfl ?_
            refine k_iaddN Ox dX5_faultOf_39 ?_
            refine k_istore_n Ox [(2, _), (4, _), (0, _), (1, _), (3, _)] dX5_faultOf_40 rfl (by decide) rfl ?_
            refine k_iload Ox dX5_faultOf_41 1 rfl ?_
            refine k_bipush Ox (v := nI 46) dX5_faultOf_43 rfl ?_
            refine k_icmp_eqN Ox 72 dX5_faultOf_45 rfl (by omega) (by omega) (fun c_45 => ?_) (fun c_45 => ?_)
            · refine k_iconst Ox (v := nI 1) dX5_faultOf_72 rfl ?_
              refine k_goto Ox 77 dX5_faultOf_73 rfl ?_
              refine k_istore Ox [(5, _), (2, _), (4, _), (0, _), (1, _), (3, _)] dX5_faultOf_77 (by decide) rfl ?_
              refine k_iload Ox dX5_faultOf_79 2 rfl ?_
              refine k_bipush Ox (v := nI 46) dX5_faultOf_81 rfl ?_
              refine k_icmp_neN Ox 90 dX5_faultOf_83 rfl (by omega) (by omega) (fun c_83 => ?_) (fun c_83 => ?_)
              · refine k_iconst Ox (v := nI 1) dX5_faultOf_90 rfl ?_
                refine k_istore_n Ox [(1, _), (5, _), (2, _), (4, _), (0, _), (3, _)] dX5_faultOf_91 rfl (by decide) rfl ?_
                refine k_goto Ox 170 dX5_faultOf_92 rfl ?_
                refine k_sub [4, 0, 2, 5, 3, 1] [(0, _), (1, _), (2, _), (3, _), (4, _), (5, _)] rfl ?_
                first | (exfalso; omega) | exact L170 _ _ true (by unfold mst; (repeat' split) <;> omega) (by unfold mop; (repeat' split) <;> omega) (decide_eq_true (by omega)).symm | exact L170 _ _ false (by unfold mst; (repeat' split) <;> omega) (by unfold mop; (repeat' split) <;> omega) (decide_eq_false (by omega)).symm | exact L170 _ _ _ (by unfold mst; (repeat' split) <;> omega) (by unfold mop; (repeat' split) <;> omega) (by rw [inR_nI_iff (by omega)]; exact decide_eq_decide.mpr (by omega))
              · refine k_iconst Ox (v := nI 0) dX5_faultOf_86 rfl ?_
                refine k_goto Ox 91 dX5_faultOf_87 rfl ?_
                refine k_istore_n Ox [(1, _), (5, _), (2, _), (4, _), (0, _), (3, _)] dX5_faultOf_91 rfl (by decide) rfl ?_
                refine k_goto Ox 170 dX5_faultOf_92 rfl ?_
                refine k_sub [4, 0, 2, 5, 3, 1] [(0, _), (1, _), (2, _), (3, _), (4, _), (5, _)] rfl ?_
                first | (exfalso; omega) | exact L170 _ _ true (by unfold mst; (repeat' split) <;> omega) (by unfold mop; (repeat' split) <;> omega) (decide_eq_true (by omega)).symm | exact L170 _ _ false (by unfold mst; (repeat' split) <;> omega) (by unfold mop; (repeat' split) <;> omega) (decide_eq_false (by omega)).symm | exact L170 _ _ _ (by unfold mst; (repeat' split) <;> omega) (by unfold mop; (repeat' split) <;> omega) (by rw [inR_nI_iff (by omega)]; exact decide_eq_decide.mpr (by omega))
            · refine k_iload Ox dX5_faultOf_48 1 rfl ?_
              refine k_bipush Ox (v := nI 65) dX5_faultOf_50 rfl ?_
              refine k_bipush Ox (v := nI 70) dX5_faultOf_52 rfl ?_
              refine k_callS Ox [] (c_X5_in G _ _ _ ) 3 rfl rfl rfl ⟨rfl, rfl⟩ rfl rfl gX5_faultOf_X5_in ⟨(by decide +kernel), (by decide +kernel), (by decide +kernel)⟩ rfl dX5_faultOf_54 (Nat.le_of_ble_eq_true rfl) rfl ⟨Nat.le_of_ble_eq_true rfl, Nat.le_of_ble_eq_true rfl⟩ (fun r wa wb hp => ?_)
              obtain ⟨⟨rfl, rfl⟩, rfl⟩ := hp
              show V x G _ _ _ _ _ (.int _ :: _) [_, _]
              change V x G _ _ _ _ _ (.int (bI (inR (65) (70) _)) :: _) _
              refine k_if_neB Ox 72 dX5_faultOf_57 rfl (fun c_57 => ?_) (fun c_57 => ?_)
              · have q57 := inN_t (by omega) c_57
                refine k_iconst Ox (v := nI 1) dX5_faultOf_72 rfl ?_
                refine k_goto Ox 77 dX5_faultOf_73 rfl ?_
                refine k_istore Ox [(5, _), (2, _), (4, _), (0, _), (1, _), (3, _)] dX5_faultOf_77 (by decide) rfl ?_
                refine k_iload Ox dX5_faultOf_79 2 rfl ?_
                refine k_bipush Ox (v := nI 46) dX5_faultOf_81 rfl ?_
                refine k_icmp_neN Ox 90 dX5_faultOf_83 rfl (by omega) (by omega) (fun c_83 => ?_) (fun c_83 => ?_)
                · refine k_iconst Ox (v := nI 1) dX5_faultOf_90 rfl ?_
                  refine k_istore_n Ox [(1, _), (5, _), (2, _), (4, _), (0, _), (3, _)] dX5_faultOf_91 rfl (by decide) rfl ?_
                  refine k_goto Ox 170 dX5_faultOf_92 rfl ?_
                  refine k_sub [4, 0, 2, 5, 3, 1] [(0, _), (1, _), (2, _), (3, _), (4, _), (5, _)] rfl ?_
                  first | (exfalso; omega) | exact L170 _ _ true (by unfold mst; (repeat' split) <;> omega) (by unfold mop; (repeat' split) <;> omega) (decide_eq_true (by omega)).symm | exact L170 _ _ false (by unfold mst; (repeat' split) <;> omega) (by unfold mop; (repeat' split) <;> omega) (decide_eq_false (by omega)).symm | exact L170 _ _ _ (by unfold mst; (repeat' split) <;> omega) (by unfold mop; (repeat' split) <;> omega) (by rw [inR_nI_iff (by omega)]; exact decide_eq_decide.mpr (by omega))
                · refine k_iconst Ox (v := nI 0) dX5_faultOf_86 rfl ?_
                  refine k_goto Ox 91 dX5_faultOf_87 rfl ?_
                  refine k_istore_n Ox [(1, _), (5, _), (2, _), (4, _), (0, _), (3, _)] dX5_faultOf_91 rfl (by decide) rfl ?_
                  refine k_goto Ox 170 dX5_faultOf_92 rfl ?_
                  refine k_sub [4, 0, 2, 5, 3, 1] [(0, _), (1, _), (2, _), (3, _), (4, _), (5, _)] rfl ?_
                  first | (exfalso; omega) | exact L170 _ _ true (by unfold mst; (repeat' split) <;> omega) (by unfold mop; (repeat' split) <;> omega) (decide_eq_true (by omega)).symm | exact L170 _ _ false (by unfold mst; (repeat' split) <;> omega) (by unfold mop; (repeat' split) <;> omega) (decide_eq_false (by omega)).symm | exact L170 _ _ _ (by unfold mst; (repeat' split) <;> omega) (by unfold mop; (repeat' split) <;> omega) (by rw [inR_nI_iff (by omega)]; exact decide_eq_decide.mpr (by omega))
              · have q57 := inN_f (by omega) c_57
                refine k_iload Ox dX5_faultOf_60 1 rfl ?_
                refine k_bipush Ox (v := nI 63) dX5_faultOf_62 rfl ?_
                refine k_icmp_neN Ox 76 dX5_faultOf_64 rfl (by omega) (by omega) (fun c_64 => ?_) (fun c_64 => ?_)
                · refine k_iconst Ox (v := nI 0) dX5_faultOf_76 rfl ?_
                  refine k_istore Ox [(5, _), (2, _), (4, _), (0, _), (1, _), (3, _)] dX5_faultOf_77 (by decide) rfl ?_
                  refine k_iload Ox dX5_faultOf_79 2 rfl ?_
                  refine k_bipush Ox (v := nI 46) dX5_faultOf_81 rfl ?_
                  refine k_icmp_neN Ox 90 dX5_faultOf_83 rfl (by omega) (by omega) (fun c_83 => ?_) (fun c_83 => ?_)
                  · refine k_iconst Ox (v := nI 1) dX5_faultOf_90 rfl ?_
                    refine k_istore_n Ox [(1, _), (5, _), (2, _), (4, _), (0, _), (3, _)] dX5_faultOf_91 rfl (by decide) rfl ?_
                    refine k_goto Ox 170 dX5_faultOf_92 rfl ?_
                    refine k_sub [4, 0, 2, 5, 3, 1] [(0, _), (1, _), (2, _), (3, _), (4, _), (5, _)] rfl ?_
                    first | (exfalso; omega) | exact L170 _ _ true (by unfold mst; (repeat' split) <;> omega) (by unfold mop; (repeat' split) <;> omega) (decide_eq_true (by omega)).symm | exact L170 _ _ false (by unfold mst; (repeat' split) <;> omega) (by unfold mop; (repeat' split) <;> omega) (decide_eq_false (by omega)).symm | exact L170 _ _ _ (by unfold mst; (repeat' split) <;> omega) (by unfold mop; (repeat' split) <;> omega) (by rw [inR_nI_iff (by omega)]; exact decide_eq_decide.mpr (by omega))
                  · refine k_iconst Ox (v := nI 0) dX5_faultOf_86 rfl ?_
                    refine k_goto Ox 91 dX5_faultOf_87 rfl ?_
                    refine k_istore_n Ox [(1, _), (5, _), (2, _), (4, _), (0, _), (3, _)] dX5_faultOf_91 rfl (by decide) rfl ?_
                    refine k_goto Ox 170 dX5_faultOf_92 rfl ?_
                    refine k_sub [4, 0, 2, 5, 3, 1] [(0, _), (1, _), (2, _), (3, _), (4, _), (5, _)] rfl ?_
                    first | (exfalso; omega) | exact L170 _ _ true (by unfold mst; (repeat' split) <;> omega) (by unfold mop; (repeat' split) <;> omega) (decide_eq_true (by omega)).symm | exact L170 _ _ false (by unfold mst; (repeat' split) <;> omega) (by unfold mop; (repeat' split) <;> omega) (decide_eq_false (by omega)).symm | exact L170 _ _ _ (by unfold mst; (repeat' split) <;> omega) (by unfold mop; (repeat' split) <;> omega) (by rw [inR_nI_iff (by omega)]; exact decide_eq_decide.mpr (by omega))
                · refine k_iload_n Ox dX5_faultOf_67 rfl 0 rfl ?_
                  refine k_iconst Ox (v := nI 4) dX5_faultOf_68 rfl ?_
                  refine k_icmp_geN Ox 76 dX5_faultOf_69 rfl (by omega) (by omega) (fun c_69 => ?_) (fun c_69 => ?_)
                  · refine k_iconst Ox (v := nI 0) dX5_faultOf_76 rfl ?_
                    refine k_istore Ox [(5, _), (2, _), (4, _), (0, _), (1, _), (3, _)] dX5_faultOf_77 (by decide) rfl ?_
                    refine k_iload Ox dX5_faultOf_79 2 rfl ?_
                    refine k_bipush Ox (v := nI 46) dX5_faultOf_81 rfl ?_
                    refine k_icmp_neN Ox 90 dX5_faultOf_83 rfl (by omega) (by omega) (fun c_83 => ?_) (fun c_83 => ?_)
                    · refine k_iconst Ox (v := nI 1) dX5_faultOf_90 rfl ?_
                      refine k_istore_n Ox [(1, _), (5, _), (2, _), (4, _), (0, _), (3, _)] dX5_faultOf_91 rfl (by decide) rfl ?_
                      refine k_goto Ox 170 dX5_faultOf_92 rfl ?_
                      refine k_sub [4, 0, 2, 5, 3, 1] [(0, _), (1, _), (2, _), (3, _), (4, _), (5, _)] rfl ?_
                      first | (exfalso; omega) | exact L170 _ _ true (by unfold mst; (repeat' split) <;> omega) (by unfold mop; (repeat' split) <;> omega) (decide_eq_true (by omega)).symm | exact L170 _ _ false (by unfold mst; (repeat' split) <;> omega) (by unfold mop; (repeat' split) <;> omega) (decide_eq_false (by omega)).symm | exact L170 _ _ _ (by unfold mst; (repeat' split) <;> omega) (by unfold mop; (repeat' split) <;> omega) (by rw [inR_nI_iff (by omega)]; exact decide_eq_decide.mpr (by omega))
                    · refine k_iconst Ox (v := nI 0) dX5_faultOf_86 rfl ?_
                      refine k_goto Ox 91 dX5_faultOf_87 rfl ?_
                      refine k_istore_n Ox [(1, _), (5, _), (2, _), (4, _), (0, _), (3, _)] dX5_faultOf_91 rfl (by decide) rfl ?_
                      refine k_goto Ox 170 dX5_faultOf_92 rfl ?_
                      refine k_sub [4, 0, 2, 5, 3, 1] [(0, _), (1, _), (2, _), (3, _), (4, _), (5, _)] rfl ?_
                      first | (exfalso; omega) | exact L170 _ _ true (by unfold mst; (repeat' split) <;> omega) (by unfold mop; (repeat' split) <;> omega) (decide_eq_true (by omega)).symm | exact L170 _ _ false (by unfold mst; (repeat' split) <;> omega) (by unfold mop; (repeat' split) <;> omega) (decide_eq_false (by omega)).symm | exact L170 _ _ _ (by unfold mst; (repeat' split) <;> omega) (by unfold mop; (repeat' split) <;> omega) (by rw [inR_nI_iff (by omega)]; exact decide_eq_decide.mpr (by omega))
                  · refine k_iconst Ox (v := nI 1) dX5_faultOf_72 rfl ?_
                    refine k_goto Ox 77 dX5_faultOf_73 rfl ?_
                    refine k_istore Ox [(5, _), (2, _), (4, _), (0, _), (1, _), (3, _)] dX5_faultOf_77 (by decide) rfl ?_
                    refine k_iload Ox dX5_faultOf_79 2 rfl ?_
                    refine k_bipush Ox (v := nI 46) dX5_faultOf_81 rfl ?_
                    refine k_icmp_neN Ox 90 dX5_faultOf_83 rfl (by omega) (by omega) (fun c_83 => ?_) (fun c_83 => ?_)
                    · refine k_iconst Ox (v := nI 1) dX5_faultOf_90 rfl ?_
                      refine k_istore_n Ox [(1, _), (5, _), (2, _), (4, _), (0, _), (3, _)] dX5_faultOf_91 rfl (by decide) rfl ?_
                      refine k_goto Ox 170 dX5_faultOf_92 rfl ?_
                      refine k_sub [4, 0, 2, 5, 3, 1] [(0, _), (1, _), (2, _), (3, _), (4, _), (5, _)] rfl ?_
                      first | (exfalso; omega) | exact L170 _ _ true (by unfold mst; (repeat' split) <;> omega) (by unfold mop; (repeat' split) <;> omega) (decide_eq_true (by omega)).symm | exact L170 _ _ false (by unfold mst; (repeat' split) <;> omega) (by unfold mop; (repeat' split) <;> omega) (decide_eq_false (by omega)).symm | exact L170 _ _ _ (by unfold mst; (repeat' split) <;> omega) (by unfold mop; (repeat' split) <;> omega) (by rw [inR_nI_iff (by omega)]; exact decide_eq_decide.mpr (by omega))
                    · refine k_iconst Ox (v := nI 0) dX5_faultOf_86 rfl ?_
                      refine k_goto Ox 91 dX5_faultOf_87 rfl ?_
                      refine k_istore_n Ox [(1, _), (5, _), (2, _), (4, _), (0, _), (3, _)] dX5_faultOf_91 rfl (by decide) rfl ?_
                      refine k_goto Ox 170 dX5_faultOf_92 rfl ?_
                      refine k_sub [4, 0, 2, 5, 3, 1] [(0, _), (1, _), (2, _), (3, _), (4, _), (5, _)] rfl ?_
                      first | (exfalso; omega) | exact L170 _ _ true (by unfold mst; (repeat' split) <;> omega) (by unfold mop; (repeat' split) <;> omega) (decide_eq_true (by omega)).symm | exact L170 _ _ false (by unfold mst; (repeat' split) <;> omega) (by unfold mop; (repeat' split) <;> omega) (decide_eq_false (by omega)).symm | exact L170 _ _ _ (by unfold mst; (repeat' split) <;> omega) (by unfold mop; (repeat' split) <;> omega) (by rw [inR_nI_iff (by omega)]; exact decide_eq_decide.mpr (by omega))
  refine k_sub [3, 2, 1, 0] [(0, _), (1, _), (2, _), (3, _)] rfl ?_
  exact L6 (mn + 1) 0 (by omega) (by omega) (fun j hj => absurd hj (by omega))
set_option maxHeartbeats 400000 in
set_option maxRecDepth 4000 in
theorem c_X5_fault (G : Gx) (m a1 a2 a3 a4 a5 a6 a7 a8 a9 a10 a11 a12 a13 : Nat) (fd sg mn : Nat) (w1 w2 w3 w4 w5 w6 : Int32) (PS : Nat → Nat) (hmn : mn ≤ 60) (hPS : ∀ i, i < mn → PS i < 128) : Ct G yX5_fault wsX5_fault { frames := 2, cells := 0, slots := 0, locals := 47 } [.ref m] [(m, cO 5 [.ref a1, .ref a2, .ref a3, .ref a4, .ref a5, .ref a6, .ref a7, .int (nI fd), .int (nI sg), .ref a8, .int (nI mn), .ref a9, .ref a10, .int w1, .int w2, .ref a11, .int w3, .int w4, .int w5, .int w6, .ref a12, .ref a13]), (a9, cI G 60 (rN PS))] (fun r wa => r = some (.int (fltM PS mn)) ∧ wa = [(m, cO 5 [.ref a1, .ref a2, .ref a3, .ref a4, .ref a5, .ref a6, .ref a7, .int (nI fd), .int (nI sg), .ref a8, .int (nI mn), .ref a9, .ref a10, .int w1, .int w2, .ref a11, .int w3, .int w4, .int w5, .int w6, .ref a12, .ref a13]), (a9, cI G 60 (rN PS))]) := by
  refine CtN.of [(0, .ref m)] (by decide +kernel) rfl rfl rfl rfl ?_
  intro x Ox Rt
  refine k_aload_n Ox dX5_fault_0 rfl 0 rfl ?_
  refine k_callV Ox [0, 1] (c_X5_faultOf G _ _ _ _ _ _ _ _ _ _ _ _ _ _ _ _ _ _ _ _ _ _ _ _ (by assumption) (by assumption)) 0 rfl rfl rfl ⟨rfl, rfl⟩ rfl rfl gX5_fault_X5_faultOf rfl 0 rfl ⟨rfl, (by decide +kernel), (by decide +kernel), (by decide +kernel)⟩ rfl dX5_fault_1 (Nat.le_of_ble_eq_true rfl) rfl ⟨Nat.le_of_ble_eq_true rfl, Nat.le_of_ble_eq_true rfl⟩ (fun r wa wb hp => ?_)
  obtain ⟨⟨rfl, rfl⟩, rfl⟩ := hp
  show V x G _ _ _ _ _ (.int _ :: _) [_, _]
  refine k_iret0 Ox Rt dX5_fault_4 (Nat.le_of_ble_eq_true rfl) (Nat.le_of_ble_eq_true rfl) rfl ?_
  exact ⟨⟨rfl, rfl⟩, rfl⟩
theorem lk_X5_opens_f62 : Cond.fieldLink RX5 62 "LieBridgesModel" "signs" "I" ∈ wsX5_opens := List.mem_of_getElem? (i := 1) rfl
theorem hin_X5_opens_X5 : ∀ w ∈ u_ws RX5 TX5 22, w ∈ wsX5_opens := fun _ h => List.mem_cons_of_mem _ (List.mem_append_right _ h)
theorem lk_X5_opens_f38 : Cond.fieldLink RX5 38 "LieBridgesModel" "pad" "[I" ∈ wsX5_opens := List.mem_of_getElem? (i := 2) rfl
set_option maxHeartbeats 400000 in
set_option maxRecDepth 4000 in
theorem c_X5_opens (G : Gx) (m a1 a2 a3 a4 a5 a6 a7 a8 a9 a10 a11 a12 a13 : Nat) (fd sg mn : Nat) (w1 w2 w3 w4 w5 w6 : Int32) (PS : Nat → Nat) (hmn : mn ≤ 60) (hPS : ∀ i, i < mn → PS i < 128) : Ct G yX5_opens wsX5_opens { frames := 0, cells := 0, slots := 0, locals := 0 } [.ref m] [(m, cO 5 [.ref a1, .ref a2, .ref a3, .ref a4, .ref a5, .ref a6, .ref a7, .int (nI fd), .int (nI sg), .ref a8, .int (nI mn), .ref a9, .ref a10, .int w1, .int w2, .ref a11, .int w3, .int w4, .int w5, .int w6, .ref a12, .ref a13]), (a9, cI G 60 (rN PS))] (fun r wa => r = some (.int (nI (opnM PS mn))) ∧ wa = [(m, cO 5 [.ref a1, .ref a2, .ref a3, .ref a4, .ref a5, .ref a6, .ref a7, .int (nI fd), .int (nI sg), .ref a8, .int (nI mn), .ref a9, .ref a10, .int w1, .int w2, .ref a11, .int w3, .int w4, .int w5, .int w6, .ref a12, .ref a13]), (a9, cI G 60 (rN PS))]) := by
  refine CtN.of [(0, .ref m)] (by decide +kernel) rfl rfl rfl rfl ?_
  intro x Ox Rt
  refine k_iconst Ox (v := nI 0) dX5_opens_0 rfl ?_
  refine k_istore_n Ox [(1, _), (0, _)] dX5_opens_1 rfl (by decide) rfl ?_
  refine k_iconst Ox (v := nI 0) dX5_opens_2 rfl ?_
  refine k_istore_n Ox [(2, _), (1, _), (0, _)] dX5_opens_3 rfl (by decide) rfl ?_
  have L4 : ∀ (fuel : Nat) (k n : Nat), k ≤ mn → mn + 1 ≤ k + fuel → n = opnM PS k → V x G 3 0 0 4 [(0, .ref m), (1, .int (nI n)), (2, .int (nI k))] [] [(m, cO 5 [.ref a1, .ref a2, .ref a3, .ref a4, .ref a5, .ref a6, .ref a7, .int (nI fd), .int (nI sg), .ref a8, .int (nI mn), .ref a9, .ref a10, .int w1, .int w2, .ref a11, .int w3, .int w4, .int w5, .int w6, .ref a12, .ref a13]), (a9, cI G 60 (rN PS))] := by
    intro fuel
    induction fuel with
    | zero => intro k n hk hfuel hn; exact absurd hk (by omega)
    | succ fuel ih =>
      intro k n hk hfuel hn
      refine k_iload_n Ox dX5_opens_4 rfl 2 rfl ?_
      refine k_aload_n Ox dX5_opens_5 rfl 0 rfl ?_
      refine k_get Ox 0 rfl rfl hin_X5_opens_X5 10 rfl lk_X5_opens_f62 rfl rfl dX5_opens_6 ?_
      refine k_icmp_geN Ox 37 dX5_opens_9 rfl (by omega) (by omega) (fun c_9 => ?_) (fun c_9 => ?_)
      · obtain rfl : k = mn := by omega
        subst hn
        refine k_iload_n Ox dX5_opens_37 rfl 1 rfl ?_
        refine k_iret0 Ox Rt dX5_opens_38 (Nat.le_of_ble_eq_true rfl) (Nat.le_of_ble_eq_true rfl) rfl ?_
        exact ⟨⟨rfl, rfl⟩, rfl⟩
      · have hs1 := hPS k c_9
        refine k_iload_n Ox dX5_opens_12 rfl 1 rfl ?_
        refine k_aload_n Ox dX5_opens_13 rfl 0 rfl ?_
        refine k_get Ox 0 rfl rfl hin_X5_opens_X5 11 rfl lk_X5_opens_f38 rfl rfl dX5_opens_14 ?_
        refine k_iload_n Ox dX5_opens_17 rfl 2 rfl ?_
        refine k_iald Ox 1 rfl (by omega) (by first | decide | omega) dX5_opens_18 ?_
        refine k_bipush Ox (v := nI 63) dX5_opens_19 rfl ?_
        refine k_icmp_neN Ox 28 dX5_opens_21 rfl (by omega) (by omega) (fun c_21 => ?_) (fun c_21 => ?_)
        · refine k_iconst Ox (v := nI 0) dX5_opens_28 rfl ?_
          refine k_iaddN Ox dX5_opens_29 ?_
          refine k_istore_n Ox [(1, _), (0, _), (2, _)] dX5_opens_30 rfl (by decide) rfl ?_
          refine k_iincN Ox (k := 2) (m := 1) [(2, _), (1, _), (0, _)] dX5_opens_31 rfl rfl (by decide) rfl ?_
          refine k_goto Ox 4 dX5_opens_34 rfl ?_
          refine k_sub [2, 1, 0] [(0, _), (1, _), (2, _)] rfl ?_
          exact ih (k + 1) _ (by omega) (by omega) (by rw [hn]; simp only [opnM, cnt, decide_eq_true_eq]; split <;> omega)
        · refine k_iconst Ox (v := nI 1) dX5_opens_24 rfl ?_
          refine k_goto Ox 29 dX5_opens_25 rfl ?_
          refine k_iaddN Ox dX5_opens_29 ?_
          refine k_istore_n Ox [(1, _), (0, _), (2, _)] dX5_opens_30 rfl (by decide) rfl ?_
          refine k_iincN Ox (k := 2) (m := 1) [(2, _), (1, _), (0, _)] dX5_opens_31 rfl rfl (by decide) rfl ?_
          refine k_goto Ox 4 dX5_opens_34 rfl ?_
          refine k_sub [2, 1, 0] [(0, _), (1, _), (2, _)] rfl ?_
          exact ih (k + 1) _ (by omega) (by omega) (by rw [hn]; simp only [opnM, cnt, decide_eq_true_eq]; split <;> omega)
  refine k_sub [2, 1, 0] [(0, _), (1, _), (2, _)] rfl ?_
  exact L4 (mn + 1) 0 0 (by omega) (by omega) rfl
set_option maxHeartbeats 400000 in
set_option maxRecDepth 4000 in
theorem c_X5_barOfText (G : Gx) (m a1 a2 a3 a4 a5 a6 a7 a8 a9 a10 a11 a12 a13 : Nat) (fd sg mn : Nat) (w1 w2 w3 w4 w5 w6 : Int32) (PS : Nat → Nat) (hmn : mn ≤ 60) (hPS : ∀ i, i < mn → PS i < 128) : Ct G yX5_barOfText wsX5_barOfText { frames := 2, cells := 0, slots := 0, locals := 47 } [.ref m] [(m, cO 5 [.ref a1, .ref a2, .ref a3, .ref a4, .ref a5, .ref a6, .ref a7, .int (nI fd), .int (nI sg), .ref a8, .int (nI mn), .ref a9, .ref a10, .int w1, .int w2, .ref a11, .int w3, .int w4, .int w5, .int w6, .ref a12, .ref a13]), (a9, cI G 60 (rN PS))] (fun r wa => r = some (.int (barR PS mn)) ∧ wa = [(m, cO 5 [.ref a1, .ref a2, .ref a3, .ref a4, .ref a5, .ref a6, .ref a7, .int (nI fd), .int (nI sg), .ref a8, .int (nI mn), .ref a9, .ref a10, .int w1, .int w2, .ref a11, .int w3, .int w4, .int w5, .int w6, .ref a12, .ref a13]), (a9, cI G 60 (rN PS))]) := by
  refine CtN.of [(0, .ref m)] (by decide +kernel) rfl rfl rfl rfl ?_
  intro x Ox Rt
  refine k_aload_n Ox dX5_barOfText_0 rfl 0 rfl ?_
  refine k_callV Ox [0, 1] (c_X5_faultOf G _ _ _ _ _ _ _ _ _ _ _ _ _ _ _ _ _ _ _ _ _ _ _ _ (by assumption) (by assumption)) 0 rfl rfl rfl ⟨rfl, rfl⟩ rfl rfl gX5_barOfText_X5_faultOf rfl 0 rfl ⟨rfl, (by decide +kernel), (by decide +kernel), (by decide +kernel)⟩ rfl dX5_barOfText_1 (Nat.le_of_ble_eq_true rfl) rfl ⟨Nat.le_of_ble_eq_true rfl, Nat.le_of_ble_eq_true rfl⟩ (fun r wa wb hp => ?_)
  obtain ⟨⟨rfl, rfl⟩, rfl⟩ := hp
  show V x G _ _ _ _ _ (.int _ :: _) [_, _]
  refine k_if_lt Ox 12 dX5_barOfText_4 rfl (fun c_4 => ?_) (fun c_4 => ?_)
  · refine k_aload_n Ox dX5_barOfText_12 rfl 0 rfl ?_
    refine k_callV Ox [0, 1] (c_X5_opens G _ _ _ _ _ _ _ _ _ _ _ _ _ _ _ _ _ _ _ _ _ _ _ _ (by assumption) (by assumption)) 0 rfl rfl rfl ⟨rfl, rfl⟩ rfl rfl gX5_barOfText_X5_opens rfl 0 rfl ⟨rfl, (by decide +kernel), (by decide +kernel), (by decide +kernel)⟩ rfl dX5_barOfText_13 (Nat.le_of_ble_eq_true rfl) rfl ⟨Nat.le_of_ble_eq_true rfl, Nat.le_of_ble_eq_true rfl⟩ (fun r wa wb hp => ?_)
    obtain ⟨⟨rfl, rfl⟩, rfl⟩ := hp
    show V x G _ _ _ _ _ (.int _ :: _) [_, _]
    have hol : opnM PS mn ≤ mn := cnt_le _ mn
    refine k_if_leN Ox 24 dX5_barOfText_16 rfl (by omega) (fun c_16 => ?_) (fun c_16 => ?_)
    · refine k_iconst Ox (v := nI 0) dX5_barOfText_24 rfl ?_
      refine k_iret0 Ox Rt dX5_barOfText_25 (Nat.le_of_ble_eq_true rfl) (Nat.le_of_ble_eq_true rfl) rfl ?_
      first | exact ⟨⟨by rw [barR, if_pos c_4], rfl⟩, rfl⟩ | exact ⟨⟨by rw [barR, if_neg (by omega), if_pos c_16], rfl⟩, rfl⟩ | exact ⟨⟨by rw [barR, if_neg (by omega), if_neg (by omega)], rfl⟩, rfl⟩
    · refine k_bipush Ox (v := -3) dX5_barOfText_19 (by decide) ?_
      refine k_goto Ox 25 dX5_barOfText_21 rfl ?_
      refine k_iret0 Ox Rt dX5_barOfText_25 (Nat.le_of_ble_eq_true rfl) (Nat.le_of_ble_eq_true rfl) rfl ?_
      first | exact ⟨⟨by rw [barR, if_pos c_4], rfl⟩, rfl⟩ | exact ⟨⟨by rw [barR, if_neg (by omega), if_pos c_16], rfl⟩, rfl⟩ | exact ⟨⟨by rw [barR, if_neg (by omega), if_neg (by omega)], rfl⟩, rfl⟩
  · refine k_bipush Ox (v := -5) dX5_barOfText_7 (by decide) ?_
    refine k_goto Ox 25 dX5_barOfText_9 rfl ?_
    refine k_iret0 Ox Rt dX5_barOfText_25 (Nat.le_of_ble_eq_true rfl) (Nat.le_of_ble_eq_true rfl) rfl ?_
    first | exact ⟨⟨by rw [barR, if_pos c_4], rfl⟩, rfl⟩ | exact ⟨⟨by rw [barR, if_neg (by omega), if_pos c_16], rfl⟩, rfl⟩ | exact ⟨⟨by rw [barR, if_neg (by omega), if_neg (by omega)], rfl⟩, rfl⟩
