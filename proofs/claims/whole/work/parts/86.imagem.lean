set_option maxHeartbeats 400000 in
set_option maxRecDepth 4000 in
theorem c_X5_image_x (G : Gx) (m a1 a2 a3 a4 a5 a6 a7 a8 a9 a10 a11 a12 a13 : Nat) (fd sg mn : Nat) (w1 w2 w3 w4 w5 w6 : Int32) (x1 : Int32) (ho : inR 0 1 x1 = false) : Ct G yX5_image wsX5_image { frames := 1, cells := 0, slots := 0, locals := 22 } [.ref m, .int x1] [(m, cO 5 [.ref a1, .ref a2, .ref a3, .ref a4, .ref a5, .ref a6, .ref a7, .int (nI fd), .int (nI sg), .ref a8, .int (nI mn), .ref a9, .ref a10, .int w1, .int w2, .ref a11, .int w3, .int w4, .int w5, .int w6, .ref a12, .ref a13])] (fun r wa => r = some (.int (-2)) ∧ wa = [(m, cO 5 [.ref a1, .ref a2, .ref a3, .ref a4, .ref a5, .ref a6, .ref a7, .int (nI fd), .int (nI sg), .ref a8, .int (nI mn), .ref a9, .ref a10, .int w1, .int w2, .ref a11, .int w3, .int w4, .int w5, .int w6, .ref a12, .ref a13])]) := by
  refine CtN.of [(0, .ref m), (1, .int x1)] (by decide +kernel) rfl rfl rfl rfl ?_
  intro x Ox Rt
  refine k_iload_n Ox dX5_image_0 rfl 1 rfl ?_
  refine k_iconst Ox (v := nI 0) dX5_image_1 rfl ?_
  refine k_iconst Ox (v := nI 1) dX5_image_2 rfl ?_
  refine k_callS Ox [] (c_X5_in G _ _ _ ) 3 rfl rfl rfl ⟨rfl, rfl⟩ rfl rfl gX5_image_X5_in ⟨(by decide +kernel), (by decide +kernel), (by decide +kernel)⟩ rfl dX5_image_3 (Nat.le_of_ble_eq_true rfl) rfl ⟨Nat.le_of_ble_eq_true rfl, Nat.le_of_ble_eq_true rfl⟩ (fun r wa wb hp => ?_)
  obtain ⟨⟨rfl, rfl⟩, rfl⟩ := hp
  show V x G _ _ _ _ _ (.int _ :: _) [_]
  change V x G _ _ _ _ _ (.int (bI (inR (0) (1) _)) :: _) _
  refine k_if_neB Ox 12 dX5_image_6 rfl (fun c_6 => ?_) (fun c_6 => ?_)
  · exfalso; have c_6 : inR 0 1 x1 = true := c_6; rw [ho] at c_6; cases c_6
  · refine k_bipush Ox (v := -2) dX5_image_9 (by decide) ?_
    refine k_iret0 Ox Rt dX5_image_11 (Nat.le_of_ble_eq_true rfl) (Nat.le_of_ble_eq_true rfl) rfl ?_
    exact ⟨⟨rfl, rfl⟩, rfl⟩
theorem lk_X5_image_f47 : Cond.fieldLink RX5 47 "LieBridgesModel" "image" "[I" ∈ wsX5_image := List.mem_of_getElem? (i := 1) rfl
theorem hin_X5_image_X5 : ∀ w ∈ u_ws RX5 TX5 22, w ∈ wsX5_image := fun _ h => List.mem_cons_of_mem _ (List.mem_append_right _ h)
theorem lk_X5_image_f31 : Cond.fieldLink RX5 31 "LieBridgesModel" "fade" "I" ∈ wsX5_image := List.mem_of_getElem? (i := 10) rfl
theorem lk_X5_image_f152 : Cond.fieldLink RX5 152 "LieBridgesModel" "sights" "I" ∈ wsX5_image := List.mem_of_getElem? (i := 11) rfl
theorem lk_X5_image_f50 : Cond.fieldLink RX5 50 "LieBridgesModel" "isKept" "[Z" ∈ wsX5_image := List.mem_of_getElem? (i := 12) rfl
theorem lk_X5_image_f35 : Cond.fieldLink RX5 35 "LieBridgesModel" "sight" "[I" ∈ wsX5_image := List.mem_of_getElem? (i := 9) rfl
theorem lk_X5_image_f7 : Cond.fieldLink RX5 7 "LieBridgesModel" "one" "[I" ∈ wsX5_image := List.mem_of_getElem? (i := 3) rfl
theorem lk_X5_image_f13 : Cond.fieldLink RX5 13 "LieBridgesModel" "two" "[I" ∈ wsX5_image := List.mem_of_getElem? (i := 4) rfl
theorem lk_X5_image_f16 : Cond.fieldLink RX5 16 "LieBridgesModel" "owner" "[I" ∈ wsX5_image := List.mem_of_getElem? (i := 5) rfl
theorem lk_X5_image_f19 : Cond.fieldLink RX5 19 "LieBridgesModel" "trusts" "[I" ∈ wsX5_image := List.mem_of_getElem? (i := 6) rfl
theorem lk_X5_image_f22 : Cond.fieldLink RX5 22 "LieBridgesModel" "knows" "[I" ∈ wsX5_image := List.mem_of_getElem? (i := 7) rfl
theorem lk_X5_image_f28 : Cond.fieldLink RX5 28 "LieBridgesModel" "safety" "[I" ∈ wsX5_image := List.mem_of_getElem? (i := 8) rfl
theorem lk_X5_image_f25 : Cond.fieldLink RX5 25 "LieBridgesModel" "days" "[I" ∈ wsX5_image := List.mem_of_getElem? (i := 2) rfl
set_option maxHeartbeats 2000000 in
set_option maxRecDepth 4000 in
theorem c_X5_image_k (G : Gx) (m a1 a2 a3 a4 a5 a6 a7 a8 a9 a10 a11 a12 a13 : Nat) (fd sg mn : Nat) (w1 w2 w3 w4 w5 w6 : Int32) (L Gr O T K S : Nat → Nat) (B : Nat → Nat → Nat) (SP SL : Nat → Nat) (fI : Nat → Int32) (kf : Nat → Bool) (n : Nat) (hn : n < 2) (hL : okP L) (hG : okP Gr) (hO : okP O) (hT : okM T) (hK : okM K) (hS : okS S) (hB : okB B) : Ct G yX5_image wsX5_image { frames := 1, cells := 0, slots := 0, locals := 22 } [.ref m, .int (nI n)] [(m, cO 5 [.ref a1, .ref a2, .ref a3, .ref a4, .ref a5, .ref a6, .ref a7, .int (nI fd), .int (nI sg), .ref a8, .int (nI mn), .ref a9, .ref a10, .int w1, .int w2, .ref a11, .int w3, .int w4, .int w5, .int w6, .ref a12, .ref a13]), (a6, cI G 36 (rN (flM B))), (a1, cI G 6 (rN L)), (a2, cI G 6 (rN Gr)), (a3, cI G 6 (rN O)), (a4, cI G 6 (rN T)), (a5, cI G 6 (rN K)), (a7, cI G 6 (rN S)), (a8, cI G 12 (rN (flS SP SL))), (a12, cI G 200 fI), (a13, cZ G 2 (bN kf))] (fun r wa => r = some (.int (nI 1)) ∧ wa = [(m, cO 5 [.ref a1, .ref a2, .ref a3, .ref a4, .ref a5, .ref a6, .ref a7, .int (nI fd), .int (nI sg), .ref a8, .int (nI mn), .ref a9, .ref a10, .int w1, .int w2, .ref a11, .int w3, .int w4, .int w5, .int w6, .ref a12, .ref a13]), (a6, cI G 36 (rN (flM B))), (a1, cI G 6 (rN L)), (a2, cI G 6 (rN Gr)), (a3, cI G 6 (rN O)), (a4, cI G 6 (rN T)), (a5, cI G 6 (rN K)), (a7, cI G 6 (rN S)), (a8, cI G 12 (rN (flS SP SL))), (a12, cI G 200 (imP fI (100 * n) (pk0 L Gr O T K S B SP SL fd sg))), (a13, cZ G 2 (bN (va_up kf n true)))]) := by
  refine CtN.of [(0, .ref m), (1, .int (nI n))] (by decide +kernel) rfl rfl rfl rfl ?_
  intro x Ox Rt
  refine k_iload_n Ox dX5_image_0 rfl 1 rfl ?_
  refine k_iconst Ox (v := nI 0) dX5_image_1 rfl ?_
  refine k_iconst Ox (v := nI 1) dX5_image_2 rfl ?_
  refine k_callS Ox [] (c_X5_in G _ _ _ ) 3 rfl rfl rfl ⟨rfl, rfl⟩ rfl rfl gX5_image_X5_in ⟨(by decide +kernel), (by decide +kernel), (by decide +kernel)⟩ rfl dX5_image_3 (Nat.le_of_ble_eq_true rfl) rfl ⟨Nat.le_of_ble_eq_true rfl, Nat.le_of_ble_eq_true rfl⟩ (fun r wa wb hp => ?_)
  obtain ⟨⟨rfl, rfl⟩, rfl⟩ := hp
  show V x G _ _ _ _ _ (.int _ :: _) [_, _, _, _, _, _, _, _, _, _, _]
  change V x G _ _ _ _ _ (.int (bI (inR (0) (1) _)) :: _) _
  refine k_if_neB Ox 12 dX5_image_6 rfl (fun c_6 => ?_) (fun c_6 => ?_)
  · refine k_bipush Ox (v := nI 100) dX5_image_12 rfl ?_
    refine k_iload_n Ox dX5_image_14 rfl 1 rfl ?_
    refine k_imulN Ox dX5_image_15 ?_
    refine k_istore_n Ox [(2, _), (0, _), (1, _)] dX5_image_16 rfl (by decide) rfl ?_
    refine k_iconst Ox (v := nI 0) dX5_image_17 rfl ?_
    refine k_istore_n Ox [(3, _), (2, _), (0, _), (1, _)] dX5_image_18 rfl (by decide) rfl ?_
    have L19 : ∀ (fuel : Nat) (i : Nat) (g : Nat → Int32), i ≤ 36 → 37 ≤ i + fuel → (∀ j, g j = if 100 * n ≤ j ∧ j < 100 * n + i then nI ((pk0 L Gr O T K S B SP SL fd sg) (j - 100 * n)) else fI j) → V x G 4 0 0 19 [(0, .ref m), (1, .int (nI n)), (2, .int (nI (100 * n))), (3, .int (nI i))] [] [(m, cO 5 [.ref a1, .ref a2, .ref a3, .ref a4, .ref a5, .ref a6, .ref a7, .int (nI fd), .int (nI sg), .ref a8, .int (nI mn), .ref a9, .ref a10, .int w1, .int w2, .ref a11, .int w3, .int w4, .int w5, .int w6, .ref a12, .ref a13]), (a6, cI G 36 (rN (flM B))), (a1, cI G 6 (rN L)), (a2, cI G 6 (rN Gr)), (a3, cI G 6 (rN O)), (a4, cI G 6 (rN T)), (a5, cI G 6 (rN K)), (a7, cI G 6 (rN S)), (a8, cI G 12 (rN (flS SP SL))), (a12, cI G 200 g), (a13, cZ G 2 (bN kf))] := by
      intro fuel
      induction fuel with
      | zero => intro i g hi hfuel hg; exact absurd hi (by omega)
      | succ fuel ih =>
        intro i g hi hfuel hg
        refine k_iload_n Ox dX5_image_19 rfl 3 rfl ?_
        refine k_bipush Ox (v := nI 36) dX5_image_20 rfl ?_
        refine k_icmp_geN Ox 45 dX5_image_22 rfl (by omega) (by omega) (fun c_22 => ?_) (fun c_22 => ?_)
        · obtain rfl : i = 36 := by omega
          refine k_iconst Ox (v := nI 0) dX5_image_45 rfl ?_
          refine k_istore_n Ox [(3, _), (0, _), (1, _), (2, _)] dX5_image_46 rfl (by decide) rfl ?_
          have L47 : ∀ (fuel : Nat) (i : Nat) (g : Nat → Int32), i ≤ 6 → 7 ≤ i + fuel → (∀ j, g j = if 100 * n ≤ j ∧ (j < 100 * n + 36 ∨ (100 * n + 36 ≤ j ∧ j < 100 * n + 72 ∧ (j - 100 * n) % 6 < i)) then nI ((pk0 L Gr O T K S B SP SL fd sg) (j - 100 * n)) else fI j) → V x G 4 0 0 47 [(0, .ref m), (1, .int (nI n)), (2, .int (nI (100 * n))), (3, .int (nI i))] [] [(m, cO 5 [.ref a1, .ref a2, .ref a3, .ref a4, .ref a5, .ref a6, .ref a7, .int (nI fd), .int (nI sg), .ref a8, .int (nI mn), .ref a9, .ref a10, .int w1, .int w2, .ref a11, .int w3, .int w4, .int w5, .int w6, .ref a12, .ref a13]), (a6, cI G 36 (rN (flM B))), (a1, cI G 6 (rN L)), (a2, cI G 6 (rN Gr)), (a3, cI G 6 (rN O)), (a4, cI G 6 (rN T)), (a5, cI G 6 (rN K)), (a7, cI G 6 (rN S)), (a8, cI G 12 (rN (flS SP SL))), (a12, cI G 200 g), (a13, cZ G 2 (bN kf))] := by
            intro fuel
            induction fuel with
            | zero => intro i g hi hfuel hg; exact absurd hi (by omega)
            | succ fuel ih2 =>
              intro i g hi hfuel hg
              refine k_iload_n Ox dX5_image_47 rfl 3 rfl ?_
              refine k_bipush Ox (v := nI 6) dX5_image_48 rfl ?_
              refine k_icmp_geN Ox 161 dX5_image_50 rfl (by omega) (by omega) (fun c_50 => ?_) (fun c_50 => ?_)
              · obtain rfl : i = 6 := by omega
                refine k_iconst Ox (v := nI 0) dX5_image_161 rfl ?_
                refine k_istore_n Ox [(3, _), (0, _), (1, _), (2, _)] dX5_image_162 rfl (by decide) rfl ?_
                have L163 : ∀ (fuel : Nat) (i : Nat) (g : Nat → Int32), i ≤ 12 → 13 ≤ i + fuel → (∀ j, g j = if 100 * n ≤ j ∧ j < 100 * n + 72 + i then nI ((pk0 L Gr O T K S B SP SL fd sg) (j - 100 * n)) else fI j) → V x G 4 0 0 163 [(0, .ref m), (1, .int (nI n)), (2, .int (nI (100 * n))), (3, .int (nI i))] [] [(m, cO 5 [.ref a1, .ref a2, .ref a3, .ref a4, .ref a5, .ref a6, .ref a7, .int (nI fd), .int (nI sg), .ref a8, .int (nI mn), .ref a9, .ref a10, .int w1, .int w2, .ref a11, .int w3, .int w4, .int w5, .int w6, .ref a12, .ref a13]), (a6, cI G 36 (rN (flM B))), (a1, cI G 6 (rN L)), (a2, cI G 6 (rN Gr)), (a3, cI G 6 (rN O)), (a4, cI G 6 (rN T)), (a5, cI G 6 (rN K)), (a7, cI G 6 (rN S)), (a8, cI G 12 (rN (flS SP SL))), (a12, cI G 200 g), (a13, cZ G 2 (bN kf))] := by
                  intro fuel
                  induction fuel with
                  | zero => intro i g hi hfuel hg; exact absurd hi (by omega)
                  | succ fuel ih3 =>
                    intro i g hi hfuel hg
                    refine k_iload_n Ox dX5_image_163 rfl 3 rfl ?_
                    refine k_bipush Ox (v := nI 12) dX5_image_164 rfl ?_
                    refine k_icmp_geN Ox 192 dX5_image_166 rfl (by omega) (by omega) (fun c_166 => ?_) (fun c_166 => ?_)
                    · obtain rfl : i = 12 := by omega
                      have hg : ∀ j, g j = if 100 * n ≤ j ∧ j < 100 * n + 84 then nI ((pk0 L Gr O T K S B SP SL fd sg) (j - 100 * n)) else fI j := fun j => by rw [hg j]
                      refine k_aload_n Ox dX5_image_192 rfl 0 rfl ?_
                      refine k_get Ox 0 rfl rfl hin_X5_image_X5 20 rfl lk_X5_image_f47 rfl rfl dX5_image_193 ?_
                      refine k_iload_n Ox dX5_image_196 rfl 2 rfl ?_
                      refine k_bipush Ox (v := nI 84) dX5_image_197 rfl ?_
                      refine k_iaddN Ox dX5_image_199 ?_
                      refine k_aload_n Ox dX5_image_200 rfl 0 rfl ?_
                      refine k_get Ox 0 rfl rfl hin_X5_image_X5 7 rfl lk_X5_image_f31 rfl rfl dX5_image_201 ?_
                      refine k_iast Ox 9 rfl (by omega) (by first | decide | omega) [_, _, _, _, _, _, _, _, _, _, _] rfl dX5_image_204 ?_
                      refine k_aload_n Ox dX5_image_205 rfl 0 rfl ?_
                      refine k_get Ox 0 rfl rfl hin_X5_image_X5 20 rfl lk_X5_image_f47 rfl rfl dX5_image_206 ?_
                      refine k_iload_n Ox dX5_image_209 rfl 2 rfl ?_
                      refine k_bipush Ox (v := nI 85) dX5_image_210 rfl ?_
                      refine k_iaddN Ox dX5_image_212 ?_
                      refine k_aload_n Ox dX5_image_213 rfl 0 rfl ?_
                      refine k_get Ox 0 rfl rfl hin_X5_image_X5 8 rfl lk_X5_image_f152 rfl rfl dX5_image_214 ?_
                      refine k_iast Ox 9 rfl (by omega) (by first | decide | omega) [_, _, _, _, _, _, _, _, _, _, _] rfl dX5_image_217 ?_
                      refine k_cell 9 (imP fI (100 * n) (pk0 L Gr O T K S B SP SL fd sg)) rfl (fun z hz => im_last hg pk_fd pk_sg z) [_, _, _, _, _, _, _, _, _, _, _] rfl ?_
                      refine k_aload_n Ox dX5_image_218 rfl 0 rfl ?_
                      refine k_get Ox 0 rfl rfl hin_X5_image_X5 21 rfl lk_X5_image_f50 rfl rfl dX5_image_219 ?_
                      refine k_iload_n Ox dX5_image_222 rfl 1 rfl ?_
                      refine k_iconst Ox (v := nI 1) dX5_image_223 rfl ?_
                      refine k_zast Ox 10 rfl (by omega) (by first | decide | omega) (by decide) [_, _, _, _, _, _, _, _, _, _, _] rfl dX5_image_224 ?_
                      rw [bN_up]
                      refine k_iconst Ox (v := nI 1) dX5_image_225 rfl ?_
                      refine k_iret0 Ox Rt dX5_image_226 (Nat.le_of_ble_eq_true rfl) (Nat.le_of_ble_eq_true rfl) rfl ?_
                      exact ⟨⟨rfl, rfl⟩, rfl⟩
                    · refine k_aload_n Ox dX5_image_169 rfl 0 rfl ?_
                      refine k_get Ox 0 rfl rfl hin_X5_image_X5 20 rfl lk_X5_image_f47 rfl rfl dX5_image_170 ?_
                      refine k_iload_n Ox dX5_image_173 rfl 2 rfl ?_
                      refine k_bipush Ox (v := nI 72) dX5_image_174 rfl ?_
                      refine k_iaddN Ox dX5_image_176 ?_
                      refine k_iload_n Ox dX5_image_177 rfl 3 rfl ?_
                      refine k_iaddN Ox dX5_image_178 ?_
                      refine k_aload_n Ox dX5_image_179 rfl 0 rfl ?_
                      refine k_get Ox 0 rfl rfl hin_X5_image_X5 9 rfl lk_X5_image_f35 rfl rfl dX5_image_180 ?_
                      refine k_iload_n Ox dX5_image_183 rfl 3 rfl ?_
                      refine k_iald Ox 8 rfl (by omega) (by first | decide | omega) dX5_image_184 ?_
                      refine k_iast Ox 9 rfl (by omega) (by first | decide | omega) [_, _, _, _, _, _, _, _, _, _, _] rfl dX5_image_185 ?_
                      refine k_iincN Ox (k := 3) (m := 1) [(3, _), (0, _), (1, _), (2, _)] dX5_image_186 rfl rfl (by decide) rfl ?_
                      refine k_goto Ox 163 dX5_image_189 rfl ?_
                      refine k_sub [1, 2, 3, 0] [(0, _), (1, _), (2, _), (3, _)] rfl ?_
                      exact ih3 (i + 1) _ (by omega) (by omega) (im_oneB hg (pk_F (by omega)))
                refine k_sub [1, 2, 3, 0] [(0, _), (1, _), (2, _), (3, _)] rfl ?_
                exact L163 13 0 _ (by omega) (by omega) (fun j => by rw [hg j]; exact if_cg (by omega))
              · refine k_aload_n Ox dX5_image_53 rfl 0 rfl ?_
                refine k_get Ox 0 rfl rfl hin_X5_image_X5 20 rfl lk_X5_image_f47 rfl rfl dX5_image_54 ?_
                refine k_iload_n Ox dX5_image_57 rfl 2 rfl ?_
                refine k_bipush Ox (v := nI 36) dX5_image_58 rfl ?_
                refine k_iaddN Ox dX5_image_60 ?_
                refine k_iload_n Ox dX5_image_61 rfl 3 rfl ?_
                refine k_iaddN Ox dX5_image_62 ?_
                refine k_aload_n Ox dX5_image_63 rfl 0 rfl ?_
                refine k_get Ox 0 rfl rfl hin_X5_image_X5 0 rfl lk_X5_image_f7 rfl rfl dX5_image_64 ?_
                refine k_iload_n Ox dX5_image_67 rfl 3 rfl ?_
                refine k_iald Ox 2 rfl (by omega) (by first | decide | omega) dX5_image_68 ?_
                refine k_iast Ox 9 rfl (by omega) (by first | decide | omega) [_, _, _, _, _, _, _, _, _, _, _] rfl dX5_image_69 ?_
                refine k_aload_n Ox dX5_image_70 rfl 0 rfl ?_
                refine k_get Ox 0 rfl rfl hin_X5_image_X5 20 rfl lk_X5_image_f47 rfl rfl dX5_image_71 ?_
                refine k_iload_n Ox dX5_image_74 rfl 2 rfl ?_
                refine k_bipush Ox (v := nI 42) dX5_image_75 rfl ?_
                refine k_iaddN Ox dX5_image_77 ?_
                refine k_iload_n Ox dX5_image_78 rfl 3 rfl ?_
                refine k_iaddN Ox dX5_image_79 ?_
                refine k_aload_n Ox dX5_image_80 rfl 0 rfl ?_
                refine k_get Ox 0 rfl rfl hin_X5_image_X5 1 rfl lk_X5_image_f13 rfl rfl dX5_image_81 ?_
                refine k_iload_n Ox dX5_image_84 rfl 3 rfl ?_
                refine k_iald Ox 3 rfl (by omega) (by first | decide | omega) dX5_image_85 ?_
                refine k_iast Ox 9 rfl (by omega) (by first | decide | omega) [_, _, _, _, _, _, _, _, _, _, _] rfl dX5_image_86 ?_
                refine k_aload_n Ox dX5_image_87 rfl 0 rfl ?_
                refine k_get Ox 0 rfl rfl hin_X5_image_X5 20 rfl lk_X5_image_f47 rfl rfl dX5_image_88 ?_
                refine k_iload_n Ox dX5_image_91 rfl 2 rfl ?_
                refine k_bipush Ox (v := nI 48) dX5_image_92 rfl ?_
                refine k_iaddN Ox dX5_image_94 ?_
                refine k_iload_n Ox dX5_image_95 rfl 3 rfl ?_
                refine k_iaddN Ox dX5_image_96 ?_
                refine k_aload_n Ox dX5_image_97 rfl 0 rfl ?_
                refine k_get Ox 0 rfl rfl hin_X5_image_X5 2 rfl lk_X5_image_f16 rfl rfl dX5_image_98 ?_
                refine k_iload_n Ox dX5_image_101 rfl 3 rfl ?_
                refine k_iald Ox 4 rfl (by omega) (by first | decide | omega) dX5_image_102 ?_
                refine k_iast Ox 9 rfl (by omega) (by first | decide | omega) [_, _, _, _, _, _, _, _, _, _, _] rfl dX5_image_103 ?_
                refine k_aload_n Ox dX5_image_104 rfl 0 rfl ?_
                refine k_get Ox 0 rfl rfl hin_X5_image_X5 20 rfl lk_X5_image_f47 rfl rfl dX5_image_105 ?_
                refine k_iload_n Ox dX5_image_108 rfl 2 rfl ?_
                refine k_bipush Ox (v := nI 54) dX5_image_109 rfl ?_
                refine k_iaddN Ox dX5_image_111 ?_
                refine k_iload_n Ox dX5_image_112 rfl 3 rfl ?_
                refine k_iaddN Ox dX5_image_113 ?_
                refine k_aload_n Ox dX5_image_114 rfl 0 rfl ?_
                refine k_get Ox 0 rfl rfl hin_X5_image_X5 3 rfl lk_X5_image_f19 rfl rfl dX5_image_115 ?_
                refine k_iload_n Ox dX5_image_118 rfl 3 rfl ?_
                refine k_iald Ox 5 rfl (by omega) (by first | decide | omega) dX5_image_119 ?_
                refine k_iast Ox 9 rfl (by omega) (by first | decide | omega) [_, _, _, _, _, _, _, _, _, _, _] rfl dX5_image_120 ?_
                refine k_aload_n Ox dX5_image_121 rfl 0 rfl ?_
                refine k_get Ox 0 rfl rfl hin_X5_image_X5 20 rfl lk_X5_image_f47 rfl rfl dX5_image_122 ?_
                refine k_iload_n Ox dX5_image_125 rfl 2 rfl ?_
                refine k_bipush Ox (v := nI 60) dX5_image_126 rfl ?_
                refine k_iaddN Ox dX5_image_128 ?_
                refine k_iload_n Ox dX5_image_129 rfl 3 rfl ?_
                refine k_iaddN Ox dX5_image_130 ?_
                refine k_aload_n Ox dX5_image_131 rfl 0 rfl ?_
                refine k_get Ox 0 rfl rfl hin_X5_image_X5 4 rfl lk_X5_image_f22 rfl rfl dX5_image_132 ?_
                refine k_iload_n Ox dX5_image_135 rfl 3 rfl ?_
                refine k_iald Ox 6 rfl (by omega) (by first | decide | omega) dX5_image_136 ?_
                refine k_iast Ox 9 rfl (by omega) (by first | decide | omega) [_, _, _, _, _, _, _, _, _, _, _] rfl dX5_image_137 ?_
                refine k_aload_n Ox dX5_image_138 rfl 0 rfl ?_
                refine k_get Ox 0 rfl rfl hin_X5_image_X5 20 rfl lk_X5_image_f47 rfl rfl dX5_image_139 ?_
                refine k_iload_n Ox dX5_image_142 rfl 2 rfl ?_
                refine k_bipush Ox (v := nI 66) dX5_image_143 rfl ?_
                refine k_iaddN Ox dX5_image_145 ?_
                refine k_iload_n Ox dX5_image_146 rfl 3 rfl ?_
                refine k_iaddN Ox dX5_image_147 ?_
                refine k_aload_n Ox dX5_image_148 rfl 0 rfl ?_
                refine k_get Ox 0 rfl rfl hin_X5_image_X5 6 rfl lk_X5_image_f28 rfl rfl dX5_image_149 ?_
                refine k_iload_n Ox dX5_image_152 rfl 3 rfl ?_
                refine k_iald Ox 7 rfl (by omega) (by first | decide | omega) dX5_image_153 ?_
                refine k_iast Ox 9 rfl (by omega) (by first | decide | omega) [_, _, _, _, _, _, _, _, _, _, _] rfl dX5_image_154 ?_
                refine k_iincN Ox (k := 3) (m := 1) [(3, _), (0, _), (1, _), (2, _)] dX5_image_155 rfl rfl (by decide) rfl ?_
                refine k_goto Ox 47 dX5_image_158 rfl ?_
                refine k_sub [1, 2, 3, 0] [(0, _), (1, _), (2, _), (3, _)] rfl ?_
                exact ih2 (i + 1) _ (by omega) (by omega) (im_six (by omega) hg (pk_L (by omega)) (pk_G (by omega)) (pk_O (by omega)) (pk_T (by omega)) (pk_K (by omega)) (pk_S (by omega)))
          refine k_sub [1, 2, 3, 0] [(0, _), (1, _), (2, _), (3, _)] rfl ?_
          exact L47 7 0 _ (by omega) (by omega) (fun j => by rw [hg j]; exact if_cg (by omega))
        · refine k_aload_n Ox dX5_image_25 rfl 0 rfl ?_
          refine k_get Ox 0 rfl rfl hin_X5_image_X5 20 rfl lk_X5_image_f47 rfl rfl dX5_image_26 ?_
          refine k_iload_n Ox dX5_image_29 rfl 2 rfl ?_
          refine k_iload_n Ox dX5_image_30 rfl 3 rfl ?_
          refine k_iaddN Ox dX5_image_31 ?_
          refine k_aload_n Ox dX5_image_32 rfl 0 rfl ?_
          refine k_get Ox 0 rfl rfl hin_X5_image_X5 5 rfl lk_X5_image_f25 rfl rfl dX5_image_33 ?_
          refine k_iload_n Ox dX5_image_36 rfl 3 rfl ?_
          refine k_iald Ox 1 rfl (by omega) (by first | decide | omega) dX5_image_37 ?_
          refine k_iast Ox 9 rfl (by omega) (by first | decide | omega) [_, _, _, _, _, _, _, _, _, _, _] rfl dX5_image_38 ?_
          refine k_iincN Ox (k := 3) (m := 1) [(3, _), (0, _), (1, _), (2, _)] dX5_image_39 rfl rfl (by decide) rfl ?_
          refine k_goto Ox 19 dX5_image_42 rfl ?_
          refine k_sub [1, 2, 3, 0] [(0, _), (1, _), (2, _), (3, _)] rfl ?_
          exact ih (i + 1) _ (by omega) (by omega) (im_one hg (pk_B (by omega)))
    refine k_sub [2, 3, 1, 0] [(0, _), (1, _), (2, _), (3, _)] rfl ?_
    exact L19 37 0 fI (by omega) (by omega) (fun j => by rw [if_neg (by omega)])
  · exfalso; rw [inR_nI_iff (by omega)] at c_6; have := of_decide_eq_false c_6; omega
set_option maxHeartbeats 400000 in
set_option maxRecDepth 4000 in
theorem c_X5_restore_x (G : Gx) (m a1 a2 a3 a4 a5 a6 a7 a8 a9 a10 a11 a12 a13 : Nat) (fd sg mn : Nat) (w1 w2 w3 w4 w5 w6 : Int32) (x1 : Int32) (ho : inR 0 1 x1 = false) : Ct G yX5_restore wsX5_restore { frames := 1, cells := 0, slots := 0, locals := 22 } [.ref m, .int x1] [(m, cO 5 [.ref a1, .ref a2, .ref a3, .ref a4, .ref a5, .ref a6, .ref a7, .int (nI fd), .int (nI sg), .ref a8, .int (nI mn), .ref a9, .ref a10, .int w1, .int w2, .ref a11, .int w3, .int w4, .int w5, .int w6, .ref a12, .ref a13])] (fun r wa => r = some (.int (-2)) ∧ wa = [(m, cO 5 [.ref a1, .ref a2, .ref a3, .ref a4, .ref a5, .ref a6, .ref a7, .int (nI fd), .int (nI sg), .ref a8, .int (nI mn), .ref a9, .ref a10, .int w1, .int w2, .ref a11, .int w3, .int w4, .int w5, .int w6, .ref a12, .ref a13])]) := by
  refine CtN.of [(0, .ref m), (1, .int x1)] (by decide +kernel) rfl rfl rfl rfl ?_
  intro x Ox Rt
  refine k_iload_n Ox dX5_restore_0 rfl 1 rfl ?_
  refine k_iconst Ox (v := nI 0) dX5_restore_1 rfl ?_
  refine k_iconst Ox (v := nI 1) dX5_restore_2 rfl ?_
  refine k_callS Ox [] (c_X5_in G _ _ _ ) 3 rfl rfl rfl ⟨rfl, rfl⟩ rfl rfl gX5_restore_X5_in ⟨(by decide +kernel), (by decide +kernel), (by decide +kernel)⟩ rfl dX5_restore_3 (Nat.le_of_ble_eq_true rfl) rfl ⟨Nat.le_of_ble_eq_true rfl, Nat.le_of_ble_eq_true rfl⟩ (fun r wa wb hp => ?_)
  obtain ⟨⟨rfl, rfl⟩, rfl⟩ := hp
  show V x G _ _ _ _ _ (.int _ :: _) [_]
  change V x G _ _ _ _ _ (.int (bI (inR (0) (1) _)) :: _) _
  refine k_if_neB Ox 12 dX5_restore_6 rfl (fun c_6 => ?_) (fun c_6 => ?_)
  · exfalso; have c_6 : inR 0 1 x1 = true := c_6; rw [ho] at c_6; cases c_6
  · refine k_bipush Ox (v := -2) dX5_restore_9 (by decide) ?_
    refine k_iret0 Ox Rt dX5_restore_11 (Nat.le_of_ble_eq_true rfl) (Nat.le_of_ble_eq_true rfl) rfl ?_
    exact ⟨⟨rfl, rfl⟩, rfl⟩
theorem lk_X5_restore_f50 : Cond.fieldLink RX5 50 "LieBridgesModel" "isKept" "[Z" ∈ wsX5_restore := List.mem_of_getElem? (i := 1) rfl
theorem hin_X5_restore_X5 : ∀ w ∈ u_ws RX5 TX5 22, w ∈ wsX5_restore := fun _ h => List.mem_cons_of_mem _ (List.mem_append_right _ h)
set_option maxHeartbeats 400000 in
set_option maxRecDepth 4000 in
theorem c_X5_restore_s (G : Gx) (m a1 a2 a3 a4 a5 a6 a7 a8 a9 a10 a11 a12 a13 : Nat) (fd sg mn : Nat) (w1 w2 w3 w4 w5 w6 : Int32) (kf : Nat → Bool) (n : Nat) (hn : n < 2) (hk : kf n = false) : Ct G yX5_restore wsX5_restore { frames := 1, cells := 0, slots := 0, locals := 22 } [.ref m, .int (nI n)] [(m, cO 5 [.ref a1, .ref a2, .ref a3, .ref a4, .ref a5, .ref a6, .ref a7, .int (nI fd), .int (nI sg), .ref a8, .int (nI mn), .ref a9, .ref a10, .int w1, .int w2, .ref a11, .int w3, .int w4, .int w5, .int w6, .ref a12, .ref a13]), (a13, cZ G 2 (bN kf))] (fun r wa => r = some (.int (-3)) ∧ wa = [(m, cO 5 [.ref a1, .ref a2, .ref a3, .ref a4, .ref a5, .ref a6, .ref a7, .int (nI fd), .int (nI sg), .ref a8, .int (nI mn), .ref a9, .ref a10, .int w1, .int w2, .ref a11, .int w3, .int w4, .int w5, .int w6, .ref a12, .ref a13]), (a13, cZ G 2 (bN kf))]) := by
  refine CtN.of [(0, .ref m), (1, .int (nI n))] (by decide +kernel) rfl rfl rfl rfl ?_
  intro x Ox Rt
  refine k_iload_n Ox dX5_restore_0 rfl 1 rfl ?_
  refine k_iconst Ox (v := nI 0) dX5_restore_1 rfl ?_
  refine k_iconst Ox (v := nI 1) dX5_restore_2 rfl ?_
  refine k_callS Ox [] (c_X5_in G _ _ _ ) 3 rfl rfl rfl ⟨rfl, rfl⟩ rfl rfl gX5_restore_X5_in ⟨(by decide +kernel), (by decide +kernel), (by decide +kernel)⟩ rfl dX5_restore_3 (Nat.le_of_ble_eq_true rfl) rfl ⟨Nat.le_of_ble_eq_true rfl, Nat.le_of_ble_eq_true rfl⟩ (fun r wa wb hp => ?_)
  obtain ⟨⟨rfl, rfl⟩, rfl⟩ := hp
  show V x G _ _ _ _ _ (.int _ :: _) [_, _]
  change V x G _ _ _ _ _ (.int (bI (inR (0) (1) _)) :: _) _
  refine k_if_neB Ox 12 dX5_restore_6 rfl (fun c_6 => ?_) (fun c_6 => ?_)
  · refine k_aload_n Ox dX5_restore_12 rfl 0 rfl ?_
    refine k_get Ox 0 rfl rfl hin_X5_restore_X5 21 rfl lk_X5_restore_f50 rfl rfl dX5_restore_13 ?_
    refine k_iload_n Ox dX5_restore_16 rfl 1 rfl ?_
    refine k_zald Ox 1 rfl (by omega) (by first | decide | omega) dX5_restore_17 ?_
    refine k_top (bI (kf n)) rfl ?_
    refine k_if_neB Ox 24 dX5_restore_18 rfl (fun c_18 => ?_) (fun c_18 => ?_)
    · exfalso; rw [hk] at c_18; cases c_18
    · refine k_bipush Ox (v := -3) dX5_restore_21 (by decide) ?_
      refine k_iret0 Ox Rt dX5_restore_23 (Nat.le_of_ble_eq_true rfl) (Nat.le_of_ble_eq_true rfl) rfl ?_
      exact ⟨⟨rfl, rfl⟩, rfl⟩
  · exfalso; rw [inR_nI_iff (by omega)] at c_6; have := of_decide_eq_false c_6; omega
theorem lk_X5_restore_f47 : Cond.fieldLink RX5 47 "LieBridgesModel" "image" "[I" ∈ wsX5_restore := List.mem_of_getElem? (i := 3) rfl
theorem lk_X5_restore_f31 : Cond.fieldLink RX5 31 "LieBridgesModel" "fade" "I" ∈ wsX5_restore := List.mem_of_getElem? (i := 11) rfl
theorem lk_X5_restore_f152 : Cond.fieldLink RX5 152 "LieBridgesModel" "sights" "I" ∈ wsX5_restore := List.mem_of_getElem? (i := 12) rfl
theorem lk_X5_restore_f35 : Cond.fieldLink RX5 35 "LieBridgesModel" "sight" "[I" ∈ wsX5_restore := List.mem_of_getElem? (i := 10) rfl
theorem lk_X5_restore_f7 : Cond.fieldLink RX5 7 "LieBridgesModel" "one" "[I" ∈ wsX5_restore := List.mem_of_getElem? (i := 4) rfl
theorem lk_X5_restore_f13 : Cond.fieldLink RX5 13 "LieBridgesModel" "two" "[I" ∈ wsX5_restore := List.mem_of_getElem? (i := 5) rfl
theorem lk_X5_restore_f16 : Cond.fieldLink RX5 16 "LieBridgesModel" "owner" "[I" ∈ wsX5_restore := List.mem_of_getElem? (i := 6) rfl
theorem lk_X5_restore_f19 : Cond.fieldLink RX5 19 "LieBridgesModel" "trusts" "[I" ∈ wsX5_restore := List.mem_of_getElem? (i := 7) rfl
theorem lk_X5_restore_f22 : Cond.fieldLink RX5 22 "LieBridgesModel" "knows" "[I" ∈ wsX5_restore := List.mem_of_getElem? (i := 8) rfl
theorem lk_X5_restore_f28 : Cond.fieldLink RX5 28 "LieBridgesModel" "safety" "[I" ∈ wsX5_restore := List.mem_of_getElem? (i := 9) rfl
theorem lk_X5_restore_f25 : Cond.fieldLink RX5 25 "LieBridgesModel" "days" "[I" ∈ wsX5_restore := List.mem_of_getElem? (i := 2) rfl
set_option maxHeartbeats 2000000 in
set_option maxRecDepth 4000 in
theorem c_X5_restore_k (G : Gx) (m a1 a2 a3 a4 a5 a6 a7 a8 a9 a10 a11 a12 a13 : Nat) (fd sg mn : Nat) (w1 w2 w3 w4 w5 w6 : Int32) (gd g1 g2 g3 g4 g5 g6 g7 : Nat → Int32) (fI : Nat → Int32) (kf : Nat → Bool) (L2 G2 O2 T2 K2 S2 : Nat → Nat) (B2 : Nat → Nat → Nat) (SP2 SL2 : Nat → Nat) (fd2 sg2 : Nat) (n : Nat) (hn : n < 2) (hk : kf n = true) (him : imOK fI (100 * n) (pk0 L2 G2 O2 T2 K2 S2 B2 SP2 SL2 fd2 sg2)) : Ct G yX5_restore wsX5_restore { frames := 1, cells := 0, slots := 0, locals := 22 } [.ref m, .int (nI n)] [(m, cO 5 [.ref a1, .ref a2, .ref a3, .ref a4, .ref a5, .ref a6, .ref a7, .int (nI fd), .int (nI sg), .ref a8, .int (nI mn), .ref a9, .ref a10, .int w1, .int w2, .ref a11, .int w3, .int w4, .int w5, .int w6, .ref a12, .ref a13]), (a6, cI G 36 gd), (a1, cI G 6 g1), (a2, cI G 6 g2), (a3, cI G 6 g3), (a4, cI G 6 g4), (a5, cI G 6 g5), (a7, cI G 6 g6), (a8, cI G 12 g7), (a12, cI G 200 fI), (a13, cZ G 2 (bN kf))] (fun r wa => r = some (.int (nI 1)) ∧ wa = [(m, cO 5 [.ref a1, .ref a2, .ref a3, .ref a4, .ref a5, .ref a6, .ref a7, .int (nI fd2), .int (nI sg2), .ref a8, .int (nI mn), .ref a9, .ref a10, .int w1, .int w2, .ref a11, .int w3, .int w4, .int w5, .int w6, .ref a12, .ref a13]), (a6, cI G 36 (rN (flM B2))), (a1, cI G 6 (rN L2)), (a2, cI G 6 (rN G2)), (a3, cI G 6 (rN O2)), (a4, cI G 6 (rN T2)), (a5, cI G 6 (rN K2)), (a7, cI G 6 (rN S2)), (a8, cI G 12 (rN (flS SP2 SL2))), (a12, cI G 200 fI), (a13, cZ G 2 (bN kf))]) := by
  refine CtN.of [(0, .ref m), (1, .int (nI n))] (by decide +kernel) rfl rfl rfl rfl ?_
  intro x Ox Rt
  refine k_iload_n Ox dX5_restore_0 rfl 1 rfl ?_
  refine k_iconst Ox (v := nI 0) dX5_restore_1 rfl ?_
  refine k_iconst Ox (v := nI 1) dX5_restore_2 rfl ?_
  refine k_callS Ox [] (c_X5_in G _ _ _ ) 3 rfl rfl rfl ⟨rfl, rfl⟩ rfl rfl gX5_restore_X5_in ⟨(by decide +kernel), (by decide +kernel), (by decide +kernel)⟩ rfl dX5_restore_3 (Nat.le_of_ble_eq_true rfl) rfl ⟨Nat.le_of_ble_eq_true rfl, Nat.le_of_ble_eq_true rfl⟩ (fun r wa wb hp => ?_)
  obtain ⟨⟨rfl, rfl⟩, rfl⟩ := hp
  show V x G _ _ _ _ _ (.int _ :: _) [_, _, _, _, _, _, _, _, _, _, _]
  change V x G _ _ _ _ _ (.int (bI (inR (0) (1) _)) :: _) _
  refine k_if_neB Ox 12 dX5_restore_6 rfl (fun c_6 => ?_) (fun c_6 => ?_)
  · refine k_aload_n Ox dX5_restore_12 rfl 0 rfl ?_
    refine k_get Ox 0 rfl rfl hin_X5_restore_X5 21 rfl lk_X5_restore_f50 rfl rfl dX5_restore_13 ?_
    refine k_iload_n Ox dX5_restore_16 rfl 1 rfl ?_
    refine k_zald Ox 10 rfl (by omega) (by first | decide | omega) dX5_restore_17 ?_
    refine k_top (bI (kf n)) rfl ?_
    refine k_if_neB Ox 24 dX5_restore_18 rfl (fun c_18 => ?_) (fun c_18 => ?_)
    · refine k_bipush Ox (v := nI 100) dX5_restore_24 rfl ?_
      refine k_iload_n Ox dX5_restore_26 rfl 1 rfl ?_
      refine k_imulN Ox dX5_restore_27 ?_
      refine k_istore_n Ox [(2, _), (0, _), (1, _)] dX5_restore_28 rfl (by decide) rfl ?_
      refine k_iconst Ox (v := nI 0) dX5_restore_29 rfl ?_
      refine k_istore_n Ox [(3, _), (2, _), (0, _), (1, _)] dX5_restore_30 rfl (by decide) rfl ?_
      have L31 : ∀ (fuel : Nat) (i : Nat) (gd : Nat → Int32), i ≤ 36 → 37 ≤ i + fuel → (∀ j, j < i → gd j = rN (flM B2) j) → V x G 4 0 0 31 [(0, .ref m), (1, .int (nI n)), (2, .int (nI (100 * n))), (3, .int (nI i))] [] [(m, cO 5 [.ref a1, .ref a2, .ref a3, .ref a4, .ref a5, .ref a6, .ref a7, .int (nI fd), .int (nI sg), .ref a8, .int (nI mn), .ref a9, .ref a10, .int w1, .int w2, .ref a11, .int w3, .int w4, .int w5, .int w6, .ref a12, .ref a13]), (a6, cI G 36 gd), (a1, cI G 6 g1), (a2, cI G 6 g2), (a3, cI G 6 g3), (a4, cI G 6 g4), (a5, cI G 6 g5), (a7, cI G 6 g6), (a8, cI G 12 g7), (a12, cI G 200 fI), (a13, cZ G 2 (bN kf))] := by
        intro fuel
        induction fuel with
        | zero => intro i gd hi hfuel hg; exact absurd hi (by omega)
        | succ fuel ih =>
          intro i gd hi hfuel hg
          refine k_iload_n Ox dX5_restore_31 rfl 3 rfl ?_
          refine k_bipush Ox (v := nI 36) dX5_restore_32 rfl ?_
          refine k_icmp_geN Ox 57 dX5_restore_34 rfl (by omega) (by omega) (fun c_34 => ?_) (fun c_34 => ?_)
          · obtain rfl : i = 36 := by omega
            refine k_cell 1 (rN (flM B2)) rfl (fun z hz => hg z hz) [_, _, _, _, _, _, _, _, _, _, _] rfl ?_
            refine k_iconst Ox (v := nI 0) dX5_restore_57 rfl ?_
            refine k_istore_n Ox [(3, _), (0, _), (1, _), (2, _)] dX5_restore_58 rfl (by decide) rfl ?_
            have L59 : ∀ (fuel : Nat) (i : Nat) (g1 g2 g3 g4 g5 g6 : Nat → Int32), i ≤ 6 → 7 ≤ i + fuel → (∀ j, j < i → g1 j = rN L2 j) → (∀ j, j < i → g2 j = rN G2 j) → (∀ j, j < i → g3 j = rN O2 j) → (∀ j, j < i → g4 j = rN T2 j) → (∀ j, j < i → g5 j = rN K2 j) → (∀ j, j < i → g6 j = rN S2 j) → V x G 4 0 0 59 [(0, .ref m), (1, .int (nI n)), (2, .int (nI (100 * n))), (3, .int (nI i))] [] [(m, cO 5 [.ref a1, .ref a2, .ref a3, .ref a4, .ref a5, .ref a6, .ref a7, .int (nI fd), .int (nI sg), .ref a8, .int (nI mn), .ref a9, .ref a10, .int w1, .int w2, .ref a11, .int w3, .int w4, .int w5, .int w6, .ref a12, .ref a13]), (a6, cI G 36 (rN (flM B2))), (a1, cI G 6 g1), (a2, cI G 6 g2), (a3, cI G 6 g3), (a4, cI G 6 g4), (a5, cI G 6 g5), (a7, cI G 6 g6), (a8, cI G 12 g7), (a12, cI G 200 fI), (a13, cZ G 2 (bN kf))] := by
              intro fuel
              induction fuel with
              | zero => intro i g1 g2 g3 g4 g5 g6 hi hfuel h1 h2 h3 h4 h5 h6; exact absurd hi (by omega)
              | succ fuel ih2 =>
                intro i g1 g2 g3 g4 g5 g6 hi hfuel h1 h2 h3 h4 h5 h6
                refine k_iload_n Ox dX5_restore_59 rfl 3 rfl ?_
                refine k_bipush Ox (v := nI 6) dX5_restore_60 rfl ?_
                refine k_icmp_geN Ox 173 dX5_restore_62 rfl (by omega) (by omega) (fun c_62 => ?_) (fun c_62 => ?_)
                · obtain rfl : i = 6 := by omega
                  refine k_cell 2 (rN L2) rfl (fun z hz => h1 z hz) [_, _, _, _, _, _, _, _, _, _, _] rfl ?_
                  refine k_cell 3 (rN G2) rfl (fun z hz => h2 z hz) [_, _, _, _, _, _, _, _, _, _, _] rfl ?_
                  refine k_cell 4 (rN O2) rfl (fun z hz => h3 z hz) [_, _, _, _, _, _, _, _, _, _, _] rfl ?_
                  refine k_cell 5 (rN T2) rfl (fun z hz => h4 z hz) [_, _, _, _, _, _, _, _, _, _, _] rfl ?_
                  refine k_cell 6 (rN K2) rfl (fun z hz => h5 z hz) [_, _, _, _, _, _, _, _, _, _, _] rfl ?_
                  refine k_cell 7 (rN S2) rfl (fun z hz => h6 z hz) [_, _, _, _, _, _, _, _, _, _, _] rfl ?_
                  refine k_iconst Ox (v := nI 0) dX5_restore_173 rfl ?_
                  refine k_istore_n Ox [(3, _), (0, _), (1, _), (2, _)] dX5_restore_174 rfl (by decide) rfl ?_
                  have L175 : ∀ (fuel : Nat) (i : Nat) (g7 : Nat → Int32), i ≤ 12 → 13 ≤ i + fuel → (∀ j, j < i → g7 j = rN (flS SP2 SL2) j) → V x G 4 0 0 175 [(0, .ref m), (1, .int (nI n)), (2, .int (nI (100 * n))), (3, .int (nI i))] [] [(m, cO 5 [.ref a1, .ref a2, .ref a3, .ref a4, .ref a5, .ref a6, .ref a7, .int (nI fd), .int (nI sg), .ref a8, .int (nI mn), .ref a9, .ref a10, .int w1, .int w2, .ref a11, .int w3, .int w4, .int w5, .int w6, .ref a12, .ref a13]), (a6, cI G 36 (rN (flM B2))), (a1, cI G 6 (rN L2)), (a2, cI G 6 (rN G2)), (a3, cI G 6 (rN O2)), (a4, cI G 6 (rN T2)), (a5, cI G 6 (rN K2)), (a7, cI G 6 (rN S2)), (a8, cI G 12 g7), (a12, cI G 200 fI), (a13, cZ G 2 (bN kf))] := by
                    intro fuel
                    induction fuel with
                    | zero => intro i g7 hi hfuel h7; exact absurd hi (by omega)
                    | succ fuel ih3 =>
                      intro i g7 hi hfuel h7
                      refine k_iload_n Ox dX5_restore_175 rfl 3 rfl ?_
                      refine k_bipush Ox (v := nI 12) dX5_restore_176 rfl ?_
                      refine k_icmp_geN Ox 204 dX5_restore_178 rfl (by omega) (by omega) (fun c_178 => ?_) (fun c_178 => ?_)
                      · obtain rfl : i = 12 := by omega
                        refine k_cell 8 (rN (flS SP2 SL2)) rfl (fun z hz => h7 z hz) [_, _, _, _, _, _, _, _, _, _, _] rfl ?_
                        refine k_aload_n Ox dX5_restore_204 rfl 0 rfl ?_
                        refine k_aload_n Ox dX5_restore_205 rfl 0 rfl ?_
                        refine k_get Ox 0 rfl rfl hin_X5_restore_X5 20 rfl lk_X5_restore_f47 rfl rfl dX5_restore_206 ?_
                        refine k_iload_n Ox dX5_restore_209 rfl 2 rfl ?_
                        refine k_bipush Ox (v := nI 84) dX5_restore_210 rfl ?_
                        refine k_iaddN Ox dX5_restore_212 ?_
                        refine k_iald Ox 9 rfl (by omega) (by first | decide | omega) dX5_restore_213 ?_
                        refine k_top (nI fd2) (im_get him (by decide) pk_fd) ?_
                        refine k_put Ox 0 rfl rfl hin_X5_restore_X5 7 rfl lk_X5_restore_f31 rfl tyX5 tyX5_ok nmX5 rfl  rfl rfl rfl [_, _, _, _, _, _, _, _, _, _, _, _, _, _, _, _, _, _, _, _, _, _] rfl [_, _, _, _, _, _, _, _, _, _, _] rfl dX5_restore_214 ?_
                        refine k_aload_n Ox dX5_restore_217 rfl 0 rfl ?_
                        refine k_aload_n Ox dX5_restore_218 rfl 0 rfl ?_
                        refine k_get Ox 0 rfl rfl hin_X5_restore_X5 20 rfl lk_X5_restore_f47 rfl rfl dX5_restore_219 ?_
                        refine k_iload_n Ox dX5_restore_222 rfl 2 rfl ?_
                        refine k_bipush Ox (v := nI 85) dX5_restore_223 rfl ?_
                        refine k_iaddN Ox dX5_restore_225 ?_
                        refine k_iald Ox 9 rfl (by omega) (by first | decide | omega) dX5_restore_226 ?_
                        refine k_top (nI sg2) (im_get him (by decide) pk_sg) ?_
                        refine k_put Ox 0 rfl rfl hin_X5_restore_X5 8 rfl lk_X5_restore_f152 rfl tyX5 tyX5_ok nmX5 rfl  rfl rfl rfl [_, _, _, _, _, _, _, _, _, _, _, _, _, _, _, _, _, _, _, _, _, _] rfl [_, _, _, _, _, _, _, _, _, _, _] rfl dX5_restore_227 ?_
                        refine k_iconst Ox (v := nI 1) dX5_restore_230 rfl ?_
                        refine k_iret0 Ox Rt dX5_restore_231 (Nat.le_of_ble_eq_true rfl) (Nat.le_of_ble_eq_true rfl) rfl ?_
                        exact ⟨⟨rfl, rfl⟩, rfl⟩
                      · refine k_aload_n Ox dX5_restore_181 rfl 0 rfl ?_
                        refine k_get Ox 0 rfl rfl hin_X5_restore_X5 9 rfl lk_X5_restore_f35 rfl rfl dX5_restore_182 ?_
                        refine k_iload_n Ox dX5_restore_185 rfl 3 rfl ?_
                        refine k_aload_n Ox dX5_restore_186 rfl 0 rfl ?_
                        refine k_get Ox 0 rfl rfl hin_X5_restore_X5 20 rfl lk_X5_restore_f47 rfl rfl dX5_restore_187 ?_
                        refine k_iload_n Ox dX5_restore_190 rfl 2 rfl ?_
                        refine k_bipush Ox (v := nI 72) dX5_restore_191 rfl ?_
                        refine k_iaddN Ox dX5_restore_193 ?_
                        refine k_iload_n Ox dX5_restore_194 rfl 3 rfl ?_
                        refine k_iaddN Ox dX5_restore_195 ?_
                        refine k_iald Ox 9 rfl (by omega) (by first | decide | omega) dX5_restore_196 ?_
                        refine k_iast Ox 8 rfl (by omega) (by first | decide | omega) [_, _, _, _, _, _, _, _, _, _, _] rfl dX5_restore_197 ?_
                        refine k_iincN Ox (k := 3) (m := 1) [(3, _), (0, _), (1, _), (2, _)] dX5_restore_198 rfl rfl (by decide) rfl ?_
                        refine k_goto Ox 175 dX5_restore_201 rfl ?_
                        refine k_sub [1, 2, 3, 0] [(0, _), (1, _), (2, _), (3, _)] rfl ?_
                        exact ih3 (i + 1) _ (by omega) (by omega) (fun j hj => cp_up2 h7 (im_get2 him (by omega) (pk_F (by omega))) hj)
                  refine k_sub [1, 2, 3, 0] [(0, _), (1, _), (2, _), (3, _)] rfl ?_
                  exact L175 13 0 g7 (by omega) (by omega) (fun j hj => absurd hj (by omega))
                · refine k_aload_n Ox dX5_restore_65 rfl 0 rfl ?_
                  refine k_get Ox 0 rfl rfl hin_X5_restore_X5 0 rfl lk_X5_restore_f7 rfl rfl dX5_restore_66 ?_
                  refine k_iload_n Ox dX5_restore_69 rfl 3 rfl ?_
                  refine k_aload_n Ox dX5_restore_70 rfl 0 rfl ?_
                  refine k_get Ox 0 rfl rfl hin_X5_restore_X5 20 rfl lk_X5_restore_f47 rfl rfl dX5_restore_71 ?_
                  refine k_iload_n Ox dX5_restore_74 rfl 2 rfl ?_
                  refine k_bipush Ox (v := nI 36) dX5_restore_75 rfl ?_
                  refine k_iaddN Ox dX5_restore_77 ?_
                  refine k_iload_n Ox dX5_restore_78 rfl 3 rfl ?_
                  refine k_iaddN Ox dX5_restore_79 ?_
                  refine k_iald Ox 9 rfl (by omega) (by first | decide | omega) dX5_restore_80 ?_
                  refine k_iast Ox 2 rfl (by omega) (by first | decide | omega) [_, _, _, _, _, _, _, _, _, _, _] rfl dX5_restore_81 ?_
                  refine k_aload_n Ox dX5_restore_82 rfl 0 rfl ?_
                  refine k_get Ox 0 rfl rfl hin_X5_restore_X5 1 rfl lk_X5_restore_f13 rfl rfl dX5_restore_83 ?_
                  refine k_iload_n Ox dX5_restore_86 rfl 3 rfl ?_
                  refine k_aload_n Ox dX5_restore_87 rfl 0 rfl ?_
                  refine k_get Ox 0 rfl rfl hin_X5_restore_X5 20 rfl lk_X5_restore_f47 rfl rfl dX5_restore_88 ?_
                  refine k_iload_n Ox dX5_restore_91 rfl 2 rfl ?_
                  refine k_bipush Ox (v := nI 42) dX5_restore_92 rfl ?_
                  refine k_iaddN Ox dX5_restore_94 ?_
                  refine k_iload_n Ox dX5_restore_95 rfl 3 rfl ?_
                  refine k_iaddN Ox dX5_restore_96 ?_
                  refine k_iald Ox 9 rfl (by omega) (by first | decide | omega) dX5_restore_97 ?_
                  refine k_iast Ox 3 rfl (by omega) (by first | decide | omega) [_, _, _, _, _, _, _, _, _, _, _] rfl dX5_restore_98 ?_
                  refine k_aload_n Ox dX5_restore_99 rfl 0 rfl ?_
                  refine k_get Ox 0 rfl rfl hin_X5_restore_X5 2 rfl lk_X5_restore_f16 rfl rfl dX5_restore_100 ?_
                  refine k_iload_n Ox dX5_restore_103 rfl 3 rfl ?_
                  refine k_aload_n Ox dX5_restore_104 rfl 0 rfl ?_
                  refine k_get Ox 0 rfl rfl hin_X5_restore_X5 20 rfl lk_X5_restore_f47 rfl rfl dX5_restore_105 ?_
                  refine k_iload_n Ox dX5_restore_108 rfl 2 rfl ?_
                  refine k_bipush Ox (v := nI 48) dX5_restore_109 rfl ?_
                  refine k_iaddN Ox dX5_restore_111 ?_
                  refine k_iload_n Ox dX5_restore_112 rfl 3 rfl ?_
                  refine k_iaddN Ox dX5_restore_113 ?_
                  refine k_iald Ox 9 rfl (by omega) (by first | decide | omega) dX5_restore_114 ?_
                  refine k_iast Ox 4 rfl (by omega) (by first | decide | omega) [_, _, _, _, _, _, _, _, _, _, _] rfl dX5_restore_115 ?_
                  refine k_aload_n Ox dX5_restore_116 rfl 0 rfl ?_
                  refine k_get Ox 0 rfl rfl hin_X5_restore_X5 3 rfl lk_X5_restore_f19 rfl rfl dX5_restore_117 ?_
                  refine k_iload_n Ox dX5_restore_120 rfl 3 rfl ?_
                  refine k_aload_n Ox dX5_restore_121 rfl 0 rfl ?_
                  refine k_get Ox 0 rfl rfl hin_X5_restore_X5 20 rfl lk_X5_restore_f47 rfl rfl dX5_restore_122 ?_
                  refine k_iload_n Ox dX5_restore_125 rfl 2 rfl ?_
                  refine k_bipush Ox (v := nI 54) dX5_restore_126 rfl ?_
                  refine k_iaddN Ox dX5_restore_128 ?_
                  refine k_iload_n Ox dX5_restore_129 rfl 3 rfl ?_
                  refine k_iaddN Ox dX5_restore_130 ?_
                  refine k_iald Ox 9 rfl (by omega) (by first | decide | omega) dX5_restore_131 ?_
                  refine k_iast Ox 5 rfl (by omega) (by first | decide | omega) [_, _, _, _, _, _, _, _, _, _, _] rfl dX5_restore_132 ?_
                  refine k_aload_n Ox dX5_restore_133 rfl 0 rfl ?_
                  refine k_get Ox 0 rfl rfl hin_X5_restore_X5 4 rfl lk_X5_restore_f22 rfl rfl dX5_restore_134 ?_
                  refine k_iload_n Ox dX5_restore_137 rfl 3 rfl ?_
                  refine k_aload_n Ox dX5_restore_138 rfl 0 rfl ?_
                  refine k_get Ox 0 rfl rfl hin_X5_restore_X5 20 rfl lk_X5_restore_f47 rfl rfl dX5_restore_139 ?_
                  refine k_iload_n Ox dX5_restore_142 rfl 2 rfl ?_
                  refine k_bipush Ox (v := nI 60) dX5_restore_143 rfl ?_
                  refine k_iaddN Ox dX5_restore_145 ?_
                  refine k_iload_n Ox dX5_restore_146 rfl 3 rfl ?_
                  refine k_iaddN Ox dX5_restore_147 ?_
                  refine k_iald Ox 9 rfl (by omega) (by first | decide | omega) dX5_restore_148 ?_
                  refine k_iast Ox 6 rfl (by omega) (by first | decide | omega) [_, _, _, _, _, _, _, _, _, _, _] rfl dX5_restore_149 ?_
                  refine k_aload_n Ox dX5_restore_150 rfl 0 rfl ?_
                  refine k_get Ox 0 rfl rfl hin_X5_restore_X5 6 rfl lk_X5_restore_f28 rfl rfl dX5_restore_151 ?_
                  refine k_iload_n Ox dX5_restore_154 rfl 3 rfl ?_
                  refine k_aload_n Ox dX5_restore_155 rfl 0 rfl ?_
                  refine k_get Ox 0 rfl rfl hin_X5_restore_X5 20 rfl lk_X5_restore_f47 rfl rfl dX5_restore_156 ?_
                  refine k_iload_n Ox dX5_restore_159 rfl 2 rfl ?_
                  refine k_bipush Ox (v := nI 66) dX5_restore_160 rfl ?_
                  refine k_iaddN Ox dX5_restore_162 ?_
                  refine k_iload_n Ox dX5_restore_163 rfl 3 rfl ?_
                  refine k_iaddN Ox dX5_restore_164 ?_
                  refine k_iald Ox 9 rfl (by omega) (by first | decide | omega) dX5_restore_165 ?_
                  refine k_iast Ox 7 rfl (by omega) (by first | decide | omega) [_, _, _, _, _, _, _, _, _, _, _] rfl dX5_restore_166 ?_
                  refine k_iincN Ox (k := 3) (m := 1) [(3, _), (0, _), (1, _), (2, _)] dX5_restore_167 rfl rfl (by decide) rfl ?_
                  refine k_goto Ox 59 dX5_restore_170 rfl ?_
                  refine k_sub [1, 2, 3, 0] [(0, _), (1, _), (2, _), (3, _)] rfl ?_
                  exact ih2 (i + 1) _ _ _ _ _ _ (by omega) (by omega) (fun j hj => cp_up2 h1 (im_get2 him (by omega) (pk_L (by omega))) hj) (fun j hj => cp_up2 h2 (im_get2 him (by omega) (pk_G (by omega))) hj) (fun j hj => cp_up2 h3 (im_get2 him (by omega) (pk_O (by omega))) hj) (fun j hj => cp_up2 h4 (im_get2 him (by omega) (pk_T (by omega))) hj) (fun j hj => cp_up2 h5 (im_get2 him (by omega) (pk_K (by omega))) hj) (fun j hj => cp_up2 h6 (im_get2 him (by omega) (pk_S (by omega))) hj)
            refine k_sub [1, 2, 3, 0] [(0, _), (1, _), (2, _), (3, _)] rfl ?_
            exact L59 7 0 g1 g2 g3 g4 g5 g6 (by omega) (by omega) (fun j hj => absurd hj (by omega)) (fun j hj => absurd hj (by omega)) (fun j hj => absurd hj (by omega)) (fun j hj => absurd hj (by omega)) (fun j hj => absurd hj (by omega)) (fun j hj => absurd hj (by omega))
          · refine k_aload_n Ox dX5_restore_37 rfl 0 rfl ?_
            refine k_get Ox 0 rfl rfl hin_X5_restore_X5 5 rfl lk_X5_restore_f25 rfl rfl dX5_restore_38 ?_
            refine k_iload_n Ox dX5_restore_41 rfl 3 rfl ?_
            refine k_aload_n Ox dX5_restore_42 rfl 0 rfl ?_
            refine k_get Ox 0 rfl rfl hin_X5_restore_X5 20 rfl lk_X5_restore_f47 rfl rfl dX5_restore_43 ?_
            refine k_iload_n Ox dX5_restore_46 rfl 2 rfl ?_
            refine k_iload_n Ox dX5_restore_47 rfl 3 rfl ?_
            refine k_iaddN Ox dX5_restore_48 ?_
            refine k_iald Ox 9 rfl (by omega) (by first | decide | omega) dX5_restore_49 ?_
            refine k_iast Ox 1 rfl (by omega) (by first | decide | omega) [_, _, _, _, _, _, _, _, _, _, _] rfl dX5_restore_50 ?_
            refine k_iincN Ox (k := 3) (m := 1) [(3, _), (0, _), (1, _), (2, _)] dX5_restore_51 rfl rfl (by decide) rfl ?_
            refine k_goto Ox 31 dX5_restore_54 rfl ?_
            refine k_sub [1, 2, 3, 0] [(0, _), (1, _), (2, _), (3, _)] rfl ?_
            exact ih (i + 1) _ (by omega) (by omega) (fun j hj => cp_up2 hg (im_get him (by omega) (pk_B (by omega))) hj)
      refine k_sub [2, 3, 1, 0] [(0, _), (1, _), (2, _), (3, _)] rfl ?_
      exact L31 37 0 gd (by omega) (by omega) (fun j hj => absurd hj (by omega))
    · exfalso; rw [hk] at c_18; cases c_18
  · exfalso; rw [inR_nI_iff (by omega)] at c_6; have := of_decide_eq_false c_6; omega
