set_option maxHeartbeats 1000000 in
set_option maxRecDepth 4000 in
theorem c_X5_falls (G : Gx) (m a1 a2 a3 a4 a5 a6 a7 a8 a9 a10 a11 a12 a13 : Nat) (fd sg mn : Nat) (w1 w2 w3 w4 w5 w6 : Int32) (L Gr : Nat → Nat) (B : Nat → Nat → Nat) (g : Nat → Int32) (x1 x2 x3 x4 x5 : Int32) (hL : okP L) (hG : okP Gr) (hB : okB B) : Ct G yX5_falls wsX5_falls { frames := 2, cells := 0, slots := 0, locals := 42 } [.ref m, .int x1, .int x2, .int x3, .int x4, .int x5] [(m, cO 5 [.ref a1, .ref a2, .ref a3, .ref a4, .ref a5, .ref a6, .ref a7, .int (nI fd), .int (nI sg), .ref a8, .int (nI mn), .ref a9, .ref a10, .int w1, .int w2, .ref a11, .int w3, .int w4, .int w5, .int w6, .ref a12, .ref a13]), (a1, cI G 6 (rN L)), (a2, cI G 6 (rN Gr)), (a6, cI G 36 (rN (flM B))), (a10, cI G 36 g)] (fun r wa => r = some (.int (flR L Gr B x1 x2 x3 x4 x5)) ∧ ∃ g9 : Nat → Int32, wa = [(m, cO 5 [.ref a1, .ref a2, .ref a3, .ref a4, .ref a5, .ref a6, .ref a7, .int (nI fd), .int (nI sg), .ref a8, .int (nI mn), .ref a9, .ref a10, .int w1, .int w2, .ref a11, .int w3, .int w4, .int w5, .int w6, .ref a12, .ref a13]), (a1, cI G 6 (rN L)), (a2, cI G 6 (rN Gr)), (a6, cI G 36 (rN (flM B))), (a10, cI G 36 g9)]) := by
  refine CtN.of [(0, .ref m), (1, .int x1), (2, .int x2), (3, .int x3), (4, .int x4), (5, .int x5)] (by decide +kernel) rfl rfl rfl rfl ?_
  intro x Ox Rt
  refine k_iload_n Ox dX5_falls_0 rfl 1 rfl ?_
  refine k_callS Ox [] (c_X5_is6 G _ ) 1 rfl rfl rfl ⟨rfl, rfl⟩ rfl rfl gX5_falls_X5_is6 ⟨(by decide +kernel), (by decide +kernel), (by decide +kernel)⟩ rfl dX5_falls_1 (Nat.le_of_ble_eq_true rfl) rfl ⟨Nat.le_of_ble_eq_true rfl, Nat.le_of_ble_eq_true rfl⟩ (fun r wa wb hp => ?_)
  obtain ⟨⟨rfl, rfl⟩, rfl⟩ := hp
  show V x G _ _ _ _ _ (.int _ :: _) [_, _, _, _, _]
  refine k_if_neB Ox 9 dX5_falls_4 rfl (fun c_4 => ?_) (fun c_4 => ?_)
  · refine k_iload_n Ox dX5_falls_9 rfl 3 rfl ?_
    refine k_iconst Ox (v := nI 0) dX5_falls_10 rfl ?_
    refine k_bipush Ox (v := nI 6) dX5_falls_11 rfl ?_
    refine k_callS Ox [] (c_X5_in G _ _ _ ) 3 rfl rfl rfl ⟨rfl, rfl⟩ rfl rfl gX5_falls_X5_in ⟨(by decide +kernel), (by decide +kernel), (by decide +kernel)⟩ rfl dX5_falls_13 (Nat.le_of_ble_eq_true rfl) rfl ⟨Nat.le_of_ble_eq_true rfl, Nat.le_of_ble_eq_true rfl⟩ (fun r wa wb hp => ?_)
    obtain ⟨⟨rfl, rfl⟩, rfl⟩ := hp
    show V x G _ _ _ _ _ (.int _ :: _) [_, _, _, _, _]
    change V x G _ _ _ _ _ (.int (bI (inR (0) (6) _)) :: _) _
    refine k_if_eqB Ox 70 dX5_falls_16 rfl (fun c_16 => ?_) (fun c_16 => ?_)
    · have hf : (inR 1 6 x4 && (decide (x5 = 0) || decide (x5 = 1)) && inR 0 6 x3 && rtOK x2 (nn x3)) = false := by rw [c_16]; simp
      refine k_bipush Ox (v := -2) dX5_falls_70 (by decide) ?_
      refine k_iret0 Ox Rt dX5_falls_72 (Nat.le_of_ble_eq_true rfl) (Nat.le_of_ble_eq_true rfl) rfl ?_
      exact ⟨⟨by rw [flR, pick_t c_4, pick_f hf], _, rfl⟩, rfl⟩
    · obtain ⟨mm, hmm, rfl⟩ := inR_of (k := 6) rfl (by decide) c_16
      have hp10 := pw10_le hmm
      refine k_iload_n Ox dX5_falls_19 rfl 2 rfl ?_
      refine k_iconst Ox (v := nI 0) dX5_falls_20 rfl ?_
      refine k_bipush Ox (v := nI 10) dX5_falls_21 rfl ?_
      refine k_iload_n Ox dX5_falls_23 rfl 3 rfl ?_
      refine k_iconst Ox (v := nI 0) dX5_falls_24 rfl ?_
      refine k_bipush Ox (v := nI 6) dX5_falls_25 rfl ?_
      refine k_callS Ox [] (c_X5_in G _ _ _ ) 3 rfl rfl rfl ⟨rfl, rfl⟩ rfl rfl gX5_falls_X5_in ⟨(by decide +kernel), (by decide +kernel), (by decide +kernel)⟩ rfl dX5_falls_27 (Nat.le_of_ble_eq_true rfl) rfl ⟨Nat.le_of_ble_eq_true rfl, Nat.le_of_ble_eq_true rfl⟩ (fun r wa wb hp => ?_)
      obtain ⟨⟨rfl, rfl⟩, rfl⟩ := hp
      show V x G _ _ _ _ _ (.int _ :: _) [_, _, _, _, _]
      change V x G _ _ _ _ _ (.int (bI (inR (0) (6) _)) :: _) _
      refine k_if_eqB Ox 37 dX5_falls_30 rfl (fun c_30 => ?_) (fun c_30 => ?_)
      · exfalso; rw [c_16] at c_30; cases c_30
      · refine k_iload_n Ox dX5_falls_33 rfl 3 rfl ?_
        refine k_goto Ox 38 dX5_falls_34 rfl ?_
        refine k_callS Ox [] (c_X5_powerOf G _ _ (by omega) (by omega) (by omega)) 2 rfl rfl rfl ⟨rfl, rfl⟩ rfl rfl gX5_falls_X5_powerOf ⟨(by decide +kernel), (by decide +kernel), (by decide +kernel)⟩ rfl dX5_falls_38 (Nat.le_of_ble_eq_true rfl) rfl ⟨Nat.le_of_ble_eq_true rfl, Nat.le_of_ble_eq_true rfl⟩ (fun r wa wb hp => ?_)
        obtain ⟨⟨rfl, rfl⟩, rfl⟩ := hp
        show V x G _ _ _ _ _ (.int _ :: _) [_, _, _, _, _]
        refine k_iconst Ox (v := nI 1) dX5_falls_41 rfl ?_
        refine k_isubN Ox dX5_falls_42 (by omega) ?_
        refine k_callS Ox [] (c_X5_in G _ _ _ ) 3 rfl rfl rfl ⟨rfl, rfl⟩ rfl rfl gX5_falls_X5_in ⟨(by decide +kernel), (by decide +kernel), (by decide +kernel)⟩ rfl dX5_falls_43 (Nat.le_of_ble_eq_true rfl) rfl ⟨Nat.le_of_ble_eq_true rfl, Nat.le_of_ble_eq_true rfl⟩ (fun r wa wb hp => ?_)
        obtain ⟨⟨rfl, rfl⟩, rfl⟩ := hp
        show V x G _ _ _ _ _ (.int _ :: _) [_, _, _, _, _]
        rw [rt_in hmm]
        refine k_if_eqB Ox 70 dX5_falls_46 rfl (fun c_46 => ?_) (fun c_46 => ?_)
        · have hf : (inR 1 6 x4 && (decide (x5 = 0) || decide (x5 = 1)) && inR 0 6 (nI mm) && rtOK x2 (nn (nI mm))) = false := by rw [nn_nI (by omega), c_46]; simp
          refine k_bipush Ox (v := -2) dX5_falls_70 (by decide) ?_
          refine k_iret0 Ox Rt dX5_falls_72 (Nat.le_of_ble_eq_true rfl) (Nat.le_of_ble_eq_true rfl) rfl ?_
          exact ⟨⟨by rw [flR, pick_t c_4, pick_f hf], _, rfl⟩, rfl⟩
        · refine k_iload Ox dX5_falls_49 4 rfl ?_
          refine k_iconst Ox (v := nI 1) dX5_falls_51 rfl ?_
          refine k_bipush Ox (v := nI 6) dX5_falls_52 rfl ?_
          refine k_callS Ox [] (c_X5_in G _ _ _ ) 3 rfl rfl rfl ⟨rfl, rfl⟩ rfl rfl gX5_falls_X5_in ⟨(by decide +kernel), (by decide +kernel), (by decide +kernel)⟩ rfl dX5_falls_54 (Nat.le_of_ble_eq_true rfl) rfl ⟨Nat.le_of_ble_eq_true rfl, Nat.le_of_ble_eq_true rfl⟩ (fun r wa wb hp => ?_)
          obtain ⟨⟨rfl, rfl⟩, rfl⟩ := hp
          show V x G _ _ _ _ _ (.int _ :: _) [_, _, _, _, _]
          change V x G _ _ _ _ _ (.int (bI (inR (1) (6) _)) :: _) _
          refine k_if_eqB Ox 70 dX5_falls_57 rfl (fun c_57 => ?_) (fun c_57 => ?_)
          · have hf : (inR 1 6 x4 && (decide (x5 = 0) || decide (x5 = 1)) && inR 0 6 (nI mm) && rtOK x2 (nn (nI mm))) = false := by rw [c_57]; rfl
            refine k_bipush Ox (v := -2) dX5_falls_70 (by decide) ?_
            refine k_iret0 Ox Rt dX5_falls_72 (Nat.le_of_ble_eq_true rfl) (Nat.le_of_ble_eq_true rfl) rfl ?_
            exact ⟨⟨by rw [flR, pick_t c_4, pick_f hf], _, rfl⟩, rfl⟩
          · refine k_iload Ox dX5_falls_60 5 rfl ?_
            refine k_iconst Ox (v := nI 0) dX5_falls_62 rfl ?_
            refine k_iconst Ox (v := nI 1) dX5_falls_63 rfl ?_
            refine k_callS Ox [] (c_X5_in G _ _ _ ) 3 rfl rfl rfl ⟨rfl, rfl⟩ rfl rfl gX5_falls_X5_in ⟨(by decide +kernel), (by decide +kernel), (by decide +kernel)⟩ rfl dX5_falls_64 (Nat.le_of_ble_eq_true rfl) rfl ⟨Nat.le_of_ble_eq_true rfl, Nat.le_of_ble_eq_true rfl⟩ (fun r wa wb hp => ?_)
            obtain ⟨⟨rfl, rfl⟩, rfl⟩ := hp
            show V x G _ _ _ _ _ (.int _ :: _) [_, _, _, _, _]
            change V x G _ _ _ _ _ (.int (bI (inR (0) (1) _)) :: _) _
            refine k_if_neB Ox 73 dX5_falls_67 rfl (fun c_67 => ?_) (fun c_67 => ?_)
            · have hok : (inR 1 6 x4 && (decide (x5 = 0) || decide (x5 = 1)) && inR 0 6 (nI mm) && rtOK x2 (nn (nI mm))) = true := by rw [c_57, ch01t c_67, c_16, nn_nI (by omega), c_46]; rfl
              obtain ⟨n, hn0, hn6, rfl⟩ := inR_of' (lo := 1) (k := 6) rfl rfl (by decide) c_57
              obtain ⟨j1, hj1, rfl⟩ := in6_of c_4
              obtain ⟨t, ht, rfl⟩ := nat_of (of_decide_eq_true c_46).1
              refine k_aload_n Ox dX5_falls_73 rfl 0 rfl ?_
              refine k_callV Ox [0, 3, 4] (c_X5_asNow G _ _ _ _ _ _ _ _ _ _ _ _ _ _ _ _ _ _ _ _ _ _ _ _ _ ) 0 rfl rfl rfl ⟨rfl, rfl⟩ rfl rfl gX5_falls_X5_asNow rfl 0 rfl ⟨rfl, (by decide +kernel), (by decide +kernel), (by decide +kernel)⟩ rfl dX5_falls_74 (Nat.le_of_ble_eq_true rfl) rfl ⟨Nat.le_of_ble_eq_true rfl, Nat.le_of_ble_eq_true rfl⟩ (fun r wa wb hp => ?_)
              obtain ⟨⟨rfl, rfl⟩, rfl⟩ := hp
              show V x G _ _ _ _ _ _ [_, _, _, _, _]
              refine k_iload_n Ox dX5_falls_77 rfl 1 rfl ?_
              refine k_istore Ox [(6, _), (0, _), (1, _), (2, _), (3, _), (4, _), (5, _)] dX5_falls_78 (by decide) rfl ?_
              refine k_bipush Ox (v := -6) dX5_falls_80 (by decide) ?_
              refine k_istore Ox [(7, _), (6, _), (0, _), (1, _), (2, _), (3, _), (4, _), (5, _)] dX5_falls_82 (by decide) rfl ?_
              refine k_iload_n Ox dX5_falls_84 rfl 3 rfl ?_
              refine k_istore Ox [(8, _), (7, _), (6, _), (0, _), (1, _), (2, _), (3, _), (4, _), (5, _)] dX5_falls_85 (by decide) rfl ?_
              refine k_iconst Ox (v := nI 0) dX5_falls_87 rfl ?_
              refine k_istore Ox [(9, _), (8, _), (7, _), (6, _), (0, _), (1, _), (2, _), (3, _), (4, _), (5, _)] dX5_falls_88 (by decide) rfl ?_
              have L90 : ∀ (fuel : Nat) (k hh re : Nat) (pl : Option Nat), k ≤ mm → mm + 1 ≤ k + fuel → hh < 6 → re < 6 → (∀ q, pl = some q → q < 6) → flS_ L Gr B t mm n j1 k = some (hh, pl, re) → V x G 11 0 0 90 [(0, .ref m), (1, .int (nI j1)), (2, .int (nI t)), (3, .int (nI mm)), (4, .int (nI n)), (5, .int x5), (6, .int (nI hh)), (7, .int (flP pl)), (8, .int (nI re)), (9, .int (nI k))] [] [(m, cO 5 [.ref a1, .ref a2, .ref a3, .ref a4, .ref a5, .ref a6, .ref a7, .int (nI fd), .int (nI sg), .ref a8, .int (nI mn), .ref a9, .ref a10, .int w1, .int w2, .ref a11, .int w3, .int w4, .int w5, .int w6, .ref a12, .ref a13]), (a1, cI G 6 (rN L)), (a2, cI G 6 (rN Gr)), (a6, cI G 36 (rN (flM B))), (a10, cI G 36 (rN (flM B)))] := by
                intro fuel
                induction fuel with
                | zero => intro k hh re pl hk hfuel hh6 hre hpl he; exact absurd hk (by omega)
                | succ fuel ih =>
                  intro k hh re pl hk hfuel hh6 hre hpl he
                  refine k_iload Ox dX5_falls_90 9 rfl ?_
                  refine k_iload_n Ox dX5_falls_92 rfl 3 rfl ?_
                  refine k_icmp_geN Ox 188 dX5_falls_93 rfl (by omega) (by omega) (fun c_93 => ?_) (fun c_93 => ?_)
                  · obtain rfl : k = mm := by omega
                    refine k_iload Ox dX5_falls_188 5 rfl ?_
                    refine k_if_ne Ox 198 dX5_falls_190 rfl (fun c_190 => ?_) (fun c_190 => ?_)
                    · refine k_iload Ox dX5_falls_198 8 rfl ?_
                      refine k_iret0 Ox Rt dX5_falls_200 (Nat.le_of_ble_eq_true rfl) (Nat.le_of_ble_eq_true rfl) rfl ?_
                      exact ⟨⟨by rw [flR, pick_t c_4, pick_t hok, nn_big ht, nn_nI (by omega), nn_nI (by omega), nn_nI (by omega), he]; first | (simp only []; rw [if_pos c_190]) | (simp only []; rw [if_neg c_190]), _, rfl⟩, rfl⟩
                    · refine k_iload Ox dX5_falls_193 7 rfl ?_
                      refine k_goto Ox 200 dX5_falls_195 rfl ?_
                      refine k_iret0 Ox Rt dX5_falls_200 (Nat.le_of_ble_eq_true rfl) (Nat.le_of_ble_eq_true rfl) rfl ?_
                      exact ⟨⟨by rw [flR, pick_t c_4, pick_t hok, nn_big ht, nn_nI (by omega), nn_nI (by omega), nn_nI (by omega), he]; first | (simp only []; rw [if_pos c_190]) | (simp only []; rw [if_neg c_190]), _, rfl⟩, rfl⟩
                  · have hpw := pw10_le (show mm - 1 - k ≤ 6 by omega)
                    have htd : t / 10 ^ (mm - 1 - k) < 2147483648 := Nat.lt_of_le_of_lt (Nat.div_le_self _ _) ht
                    have hd9 : dg t mm k < 10 := Nat.mod_lt _ (by decide)
                    have L133 : ∀ (av : Int32), FaR L Gr (dg t mm k) hh av → V x G 11 0 0 133 [(0, .ref m), (1, .int (nI j1)), (2, .int (nI t)), (3, .int (nI mm)), (4, .int (nI n)), (5, .int x5), (6, .int (nI hh)), (7, .int (flP pl)), (8, .int (nI re)), (9, .int (nI k)), (10, .int (nI (dg t mm k)))] [.int av] [(m, cO 5 [.ref a1, .ref a2, .ref a3, .ref a4, .ref a5, .ref a6, .ref a7, .int (nI fd), .int (nI sg), .ref a8, .int (nI mn), .ref a9, .ref a10, .int w1, .int w2, .ref a11, .int w3, .int w4, .int w5, .int w6, .ref a12, .ref a13]), (a1, cI G 6 (rN L)), (a2, cI G 6 (rN Gr)), (a6, cI G 36 (rN (flM B))), (a10, cI G 36 (rN (flM B)))] := by
                      intro av hav
                      refine k_istore Ox [(6, _), (0, _), (1, _), (2, _), (3, _), (4, _), (5, _), (7, _), (8, _), (9, _), (10, _)] dX5_falls_133 (by decide) rfl ?_
                      refine k_iload Ox dX5_falls_135 0 rfl ?_
                      refine k_if_ge Ox 143 dX5_falls_137 rfl (fun c_137 => ?_) (fun c_137 => ?_)
                      · obtain ⟨j, hj, rfl, h6, hn⟩ := fa_ge hav c_137
                        have hll := ld_le B (dg t mm k) 0
                        refine k_iload Ox dX5_falls_143 7 rfl ?_
                        refine k_if_ge Ox 164 dX5_falls_145 rfl (fun c_145 => ?_) (fun c_145 => ?_)
                        · obtain ⟨q, rfl⟩ := flP_yes c_145
                          refine k_iload Ox dX5_falls_164 7 rfl ?_
                          refine k_istore Ox [(7, _), (6, _), (0, _), (1, _), (2, _), (3, _), (4, _), (5, _), (8, _), (9, _), (10, _)] dX5_falls_166 (by decide) rfl ?_
                          refine k_iload Ox dX5_falls_168 0 rfl ?_
                          refine k_if_ge Ox 178 dX5_falls_170 rfl (fun c_170 => ?_) (fun c_170 => ?_)
                          · refine k_iload Ox dX5_falls_178 8 rfl ?_
                            refine k_istore Ox [(8, _), (7, _), (6, _), (0, _), (1, _), (2, _), (3, _), (4, _), (5, _), (9, _), (10, _)] dX5_falls_180 (by decide) rfl ?_
                            refine k_iincN Ox (k := 9) (m := 1) [(9, _), (8, _), (7, _), (6, _), (0, _), (1, _), (2, _), (3, _), (4, _), (5, _), (10, _)] dX5_falls_182 rfl rfl (by decide) rfl ?_
                            refine k_goto Ox 90 dX5_falls_185 rfl ?_
                            refine k_sub [4, 5, 6, 7, 8, 9, 3, 2, 1, 0] [(0, _), (1, _), (2, _), (3, _), (4, _), (5, _), (6, _), (7, _), (8, _), (9, _)] rfl ?_
                            first | (exfalso; exact absurd c_145 (by decide)) | (exfalso; exact absurd c_170 (by decide)) | (exfalso; have := hpl _ rfl; rw [show (flP (some q)).toInt = (q : Int) from nI_tI (by omega)] at c_170; omega) | exact ih (k + 1) _ _ (some q) (by omega) (by omega) hj hre hpl (fl_some he h6 hn) | exact ih (k + 1) _ _ none (by omega) (by omega) hj hj hpl (fl_hold he h6 hn c_156) | exact ih (k + 1) _ _ (some k) (by omega) (by omega) hj hre (fun q z => by cases z; omega) (fl_fall he h6 hn c_156)
                          · refine k_iload Ox dX5_falls_173 1 rfl ?_
                            refine k_goto Ox 180 dX5_falls_175 rfl ?_
                            refine k_istore Ox [(8, _), (7, _), (6, _), (0, _), (1, _), (2, _), (3, _), (4, _), (5, _), (9, _), (10, _)] dX5_falls_180 (by decide) rfl ?_
                            refine k_iincN Ox (k := 9) (m := 1) [(9, _), (8, _), (7, _), (6, _), (0, _), (1, _), (2, _), (3, _), (4, _), (5, _), (10, _)] dX5_falls_182 rfl rfl (by decide) rfl ?_
                            refine k_goto Ox 90 dX5_falls_185 rfl ?_
                            refine k_sub [4, 5, 6, 7, 8, 9, 3, 2, 1, 0] [(0, _), (1, _), (2, _), (3, _), (4, _), (5, _), (6, _), (7, _), (8, _), (9, _)] rfl ?_
                            first | (exfalso; exact absurd c_145 (by decide)) | (exfalso; exact absurd c_170 (by decide)) | (exfalso; have := hpl _ rfl; rw [show (flP (some q)).toInt = (q : Int) from nI_tI (by omega)] at c_170; omega) | exact ih (k + 1) _ _ (some q) (by omega) (by omega) hj hre hpl (fl_some he h6 hn) | exact ih (k + 1) _ _ none (by omega) (by omega) hj hj hpl (fl_hold he h6 hn c_156) | exact ih (k + 1) _ _ (some k) (by omega) (by omega) hj hre (fun q z => by cases z; omega) (fl_fall he h6 hn c_156)
                        · obtain rfl := flP_no hpl c_145
                          refine k_aload_n Ox dX5_falls_148 rfl 1 rfl ?_
                          refine k_iload Ox dX5_falls_149 10 rfl ?_
                          refine k_callV Ox [0, 4] (c_X5_bornBy G _ _ _ _ _ _ _ _ _ _ _ _ _ _ _ _ _ _ _ _ _ _ _ _ _ (hB) (h6)) 1 rfl rfl rfl ⟨rfl, rfl⟩ rfl rfl gX5_falls_X5_bornBy rfl 0 rfl ⟨rfl, (by decide +kernel), (by decide +kernel), (by decide +kernel)⟩ rfl dX5_falls_151 (Nat.le_of_ble_eq_true rfl) rfl ⟨Nat.le_of_ble_eq_true rfl, Nat.le_of_ble_eq_true rfl⟩ (fun r wa wb hp => ?_)
                          obtain ⟨⟨rfl, rfl⟩, rfl⟩ := hp
                          show V x G _ _ _ _ _ (.int _ :: _) [_, _, _, _, _]
                          refine k_iload Ox dX5_falls_154 5 rfl ?_
                          refine k_icmp_geN Ox 164 dX5_falls_156 rfl (by omega) (by omega) (fun c_156 => ?_) (fun c_156 => ?_)
                          · refine k_iload Ox dX5_falls_164 7 rfl ?_
                            refine k_istore Ox [(7, _), (6, _), (0, _), (1, _), (2, _), (3, _), (4, _), (5, _), (8, _), (9, _), (10, _)] dX5_falls_166 (by decide) rfl ?_
                            refine k_iload Ox dX5_falls_168 0 rfl ?_
                            refine k_if_ge Ox 178 dX5_falls_170 rfl (fun c_170 => ?_) (fun c_170 => ?_)
                            · refine k_iload Ox dX5_falls_178 8 rfl ?_
                              refine k_istore Ox [(8, _), (7, _), (6, _), (0, _), (1, _), (2, _), (3, _), (4, _), (5, _), (9, _), (10, _)] dX5_falls_180 (by decide) rfl ?_
                              refine k_iincN Ox (k := 9) (m := 1) [(9, _), (8, _), (7, _), (6, _), (0, _), (1, _), (2, _), (3, _), (4, _), (5, _), (10, _)] dX5_falls_182 rfl rfl (by decide) rfl ?_
                              refine k_goto Ox 90 dX5_falls_185 rfl ?_
                              refine k_sub [4, 5, 6, 7, 8, 9, 3, 2, 1, 0] [(0, _), (1, _), (2, _), (3, _), (4, _), (5, _), (6, _), (7, _), (8, _), (9, _)] rfl ?_
                              first | (exfalso; exact absurd c_145 (by decide)) | (exfalso; exact absurd c_170 (by decide)) | (exfalso; have := hpl _ rfl; rw [show (flP (some q)).toInt = (q : Int) from nI_tI (by omega)] at c_170; omega) | exact ih (k + 1) _ _ (some q) (by omega) (by omega) hj hre hpl (fl_some he h6 hn) | exact ih (k + 1) _ _ none (by omega) (by omega) hj hj hpl (fl_hold he h6 hn c_156) | exact ih (k + 1) _ _ (some k) (by omega) (by omega) hj hre (fun q z => by cases z; omega) (fl_fall he h6 hn c_156)
                            · refine k_iload Ox dX5_falls_173 1 rfl ?_
                              refine k_goto Ox 180 dX5_falls_175 rfl ?_
                              refine k_istore Ox [(8, _), (7, _), (6, _), (0, _), (1, _), (2, _), (3, _), (4, _), (5, _), (9, _), (10, _)] dX5_falls_180 (by decide) rfl ?_
                              refine k_iincN Ox (k := 9) (m := 1) [(9, _), (8, _), (7, _), (6, _), (0, _), (1, _), (2, _), (3, _), (4, _), (5, _), (10, _)] dX5_falls_182 rfl rfl (by decide) rfl ?_
                              refine k_goto Ox 90 dX5_falls_185 rfl ?_
                              refine k_sub [4, 5, 6, 7, 8, 9, 3, 2, 1, 0] [(0, _), (1, _), (2, _), (3, _), (4, _), (5, _), (6, _), (7, _), (8, _), (9, _)] rfl ?_
                              first | (exfalso; exact absurd c_145 (by decide)) | (exfalso; exact absurd c_170 (by decide)) | (exfalso; have := hpl _ rfl; rw [show (flP (some q)).toInt = (q : Int) from nI_tI (by omega)] at c_170; omega) | exact ih (k + 1) _ _ (some q) (by omega) (by omega) hj hre hpl (fl_some he h6 hn) | exact ih (k + 1) _ _ none (by omega) (by omega) hj hj hpl (fl_hold he h6 hn c_156) | exact ih (k + 1) _ _ (some k) (by omega) (by omega) hj hre (fun q z => by cases z; omega) (fl_fall he h6 hn c_156)
                          · refine k_iload Ox dX5_falls_159 9 rfl ?_
                            refine k_goto Ox 166 dX5_falls_161 rfl ?_
                            refine k_istore Ox [(7, _), (6, _), (0, _), (1, _), (2, _), (3, _), (4, _), (5, _), (8, _), (9, _), (10, _)] dX5_falls_166 (by decide) rfl ?_
                            refine k_iload Ox dX5_falls_168 0 rfl ?_
                            refine k_if_geN Ox 178 dX5_falls_170 rfl (by omega) ?_
                            refine k_iload Ox dX5_falls_178 8 rfl ?_
                            refine k_istore Ox [(8, _), (7, _), (6, _), (0, _), (1, _), (2, _), (3, _), (4, _), (5, _), (9, _), (10, _)] dX5_falls_180 (by decide) rfl ?_
                            refine k_iincN Ox (k := 9) (m := 1) [(9, _), (8, _), (7, _), (6, _), (0, _), (1, _), (2, _), (3, _), (4, _), (5, _), (10, _)] dX5_falls_182 rfl rfl (by decide) rfl ?_
                            refine k_goto Ox 90 dX5_falls_185 rfl ?_
                            refine k_sub [4, 5, 6, 7, 8, 9, 3, 2, 1, 0] [(0, _), (1, _), (2, _), (3, _), (4, _), (5, _), (6, _), (7, _), (8, _), (9, _)] rfl ?_
                            first | (exfalso; exact absurd c_145 (by decide)) | (exfalso; exact absurd c_170 (by decide)) | (exfalso; have := hpl _ rfl; rw [show (flP (some q)).toInt = (q : Int) from nI_tI (by omega)] at c_170; omega) | exact ih (k + 1) _ _ (some q) (by omega) (by omega) hj hre hpl (fl_some he h6 hn) | exact ih (k + 1) _ _ none (by omega) (by omega) hj hj hpl (fl_hold he h6 hn c_156) | exact ih (k + 1) _ _ (some k) (by omega) (by omega) hj hre (fun q z => by cases z; omega) (fl_fall he h6 hn c_156)
                      · have hno := fl_end c_93 (fl_no he (fa_lt hav c_137))
                        refine k_bipush Ox (v := -5) dX5_falls_140 (by decide) ?_
                        refine k_iret0 Ox Rt dX5_falls_142 (Nat.le_of_ble_eq_true rfl) (Nat.le_of_ble_eq_true rfl) rfl ?_
                        exact ⟨⟨by rw [flR, pick_t c_4, pick_t hok, nn_big ht, nn_nI (by omega), nn_nI (by omega), nn_nI (by omega), hno], _, rfl⟩, rfl⟩
                    refine k_iload_n Ox dX5_falls_96 rfl 2 rfl ?_
                    refine k_bipush Ox (v := nI 10) dX5_falls_97 rfl ?_
                    refine k_iload_n Ox dX5_falls_99 rfl 3 rfl ?_
                    refine k_iconst Ox (v := nI 1) dX5_falls_100 rfl ?_
                    refine k_isubN Ox dX5_falls_101 (by omega) ?_
                    refine k_iload Ox dX5_falls_102 9 rfl ?_
                    refine k_isubN Ox dX5_falls_104 (by omega) ?_
                    refine k_callS Ox [] (c_X5_powerOf G _ _ (by omega) (by omega) (by omega)) 2 rfl rfl rfl ⟨rfl, rfl⟩ rfl rfl gX5_falls_X5_powerOf ⟨(by decide +kernel), (by decide +kernel), (by decide +kernel)⟩ rfl dX5_falls_105 (Nat.le_of_ble_eq_true rfl) rfl ⟨Nat.le_of_ble_eq_true rfl, Nat.le_of_ble_eq_true rfl⟩ (fun r wa wb hp => ?_)
                    obtain ⟨⟨rfl, rfl⟩, rfl⟩ := hp
                    show V x G _ _ _ _ _ (.int _ :: _) [_, _, _, _, _]
                    refine k_idivN Ox dX5_falls_108 (by omega) (by first | decide | omega) (by first | decide | omega) ?_
                    refine k_bipush Ox (v := nI 10) dX5_falls_109 rfl ?_
                    refine k_iremN Ox dX5_falls_111 (by omega) (by first | decide | omega) (by first | decide | omega) ?_
                    refine k_top (nI (dg t mm k)) rfl ?_
                    refine k_istore Ox [(10, _), (0, _), (1, _), (2, _), (3, _), (4, _), (5, _), (6, _), (7, _), (8, _), (9, _)] dX5_falls_112 (by decide) rfl ?_
                    refine k_iload Ox dX5_falls_114 0 rfl ?_
                    refine k_iconst Ox (v := nI 5) dX5_falls_116 rfl ?_
                    refine k_icmp_leN Ox 125 dX5_falls_117 rfl (by omega) (by omega) (fun c_117 => ?_) (fun c_117 => ?_)
                    · refine k_aload_n Ox dX5_falls_125 rfl 1 rfl ?_
                      refine k_iload Ox dX5_falls_126 0 rfl ?_
                      refine k_iload Ox dX5_falls_128 7 rfl ?_
                      refine k_callV Ox [0, 1, 2] (c_X5_over G _ _ _ _ _ _ _ _ _ _ _ _ _ _ _ _ _ _ _ _ _ _ _ _ _ _ _ (by assumption) (by assumption) (by omega) (by omega)) 2 rfl rfl rfl ⟨rfl, rfl⟩ rfl rfl gX5_falls_X5_over rfl 0 rfl ⟨rfl, (by decide +kernel), (by decide +kernel), (by decide +kernel)⟩ rfl dX5_falls_130 (Nat.le_of_ble_eq_true rfl) rfl ⟨Nat.le_of_ble_eq_true rfl, Nat.le_of_ble_eq_true rfl⟩ (fun r wa wb hp => ?_)
                      obtain ⟨⟨rfl, rfl⟩, rfl⟩ := hp
                      show V x G _ _ _ _ _ (.int _ :: _) [_, _, _, _, _]
                      refine k_sub [1, 2, 3, 4, 5, 6, 7, 8, 9, 10, 0] [(0, _), (1, _), (2, _), (3, _), (4, _), (5, _), (6, _), (7, _), (8, _), (9, _), (10, _)] rfl ?_
                      first | exact L133 _ (fa_over hL hG (Nat.lt_succ_of_le c_117)) | exact L133 _ (fa_out c_117)
                    · refine k_bipush Ox (v := -6) dX5_falls_120 (by decide) ?_
                      refine k_goto Ox 133 dX5_falls_122 rfl ?_
                      refine k_sub [1, 2, 3, 4, 5, 6, 7, 8, 9, 10, 0] [(0, _), (1, _), (2, _), (3, _), (4, _), (5, _), (6, _), (7, _), (8, _), (9, _), (10, _)] rfl ?_
                      first | exact L133 _ (fa_over hL hG (Nat.lt_succ_of_le c_117)) | exact L133 _ (fa_out c_117)
              refine k_sub [4, 5, 6, 7, 8, 9, 3, 2, 1, 0] [(0, _), (1, _), (2, _), (3, _), (4, _), (5, _), (6, _), (7, _), (8, _), (9, _)] rfl ?_
              exact L90 (mm + 1) 0 j1 j1 none (by omega) (by omega) hj1 hj1 (fun q z => by cases z) rfl
            · have hf : (inR 1 6 x4 && (decide (x5 = 0) || decide (x5 = 1)) && inR 0 6 (nI mm) && rtOK x2 (nn (nI mm))) = false := by rw [ch01 c_67]; simp
              refine k_bipush Ox (v := -2) dX5_falls_70 (by decide) ?_
              refine k_iret0 Ox Rt dX5_falls_72 (Nat.le_of_ble_eq_true rfl) (Nat.le_of_ble_eq_true rfl) rfl ?_
              exact ⟨⟨by rw [flR, pick_t c_4, pick_f hf], _, rfl⟩, rfl⟩
  · refine k_iconst Ox (v := -1) dX5_falls_7 (by decide) ?_
    refine k_iret0 Ox Rt dX5_falls_8 (Nat.le_of_ble_eq_true rfl) (Nat.le_of_ble_eq_true rfl) rfl ?_
    exact ⟨⟨by rw [flR, pick_f c_4], _, rfl⟩, rfl⟩
set_option maxHeartbeats 400000 in
set_option maxRecDepth 4000 in
theorem c_X5_plankOf (G : Gx) (m a1 a2 a3 a4 a5 a6 a7 a8 a9 a10 a11 a12 a13 : Nat) (fd sg mn : Nat) (w1 w2 w3 w4 w5 w6 : Int32) (c mm k : Nat) (hc : c < 100000) (hm : mm ≤ 6) (hk : k < mm) : Ct G yX5_plankOf wsX5_plankOf { frames := 1, cells := 0, slots := 0, locals := 23 } [.ref m, .int (nI c), .int (nI mm), .int (nI k)] [(m, cO 5 [.ref a1, .ref a2, .ref a3, .ref a4, .ref a5, .ref a6, .ref a7, .int (nI fd), .int (nI sg), .ref a8, .int (nI mn), .ref a9, .ref a10, .int w1, .int w2, .ref a11, .int w3, .int w4, .int w5, .int w6, .ref a12, .ref a13])] (fun r wa => r = some (.int (nI (dgt c (mm - 1 - k)))) ∧ wa = [(m, cO 5 [.ref a1, .ref a2, .ref a3, .ref a4, .ref a5, .ref a6, .ref a7, .int (nI fd), .int (nI sg), .ref a8, .int (nI mn), .ref a9, .ref a10, .int w1, .int w2, .ref a11, .int w3, .int w4, .int w5, .int w6, .ref a12, .ref a13])]) := by
  refine CtN.of [(0, .ref m), (1, .int (nI c)), (2, .int (nI mm)), (3, .int (nI k))] (by decide +kernel) rfl rfl rfl rfl ?_
  intro x Ox Rt
  refine k_iload_n Ox dX5_plankOf_0 rfl 1 rfl ?_
  refine k_bipush Ox (v := nI 6) dX5_plankOf_1 rfl ?_
  refine k_iload_n Ox dX5_plankOf_3 rfl 2 rfl ?_
  refine k_iconst Ox (v := nI 1) dX5_plankOf_4 rfl ?_
  refine k_isubN Ox dX5_plankOf_5 (by omega) ?_
  refine k_iload_n Ox dX5_plankOf_6 rfl 3 rfl ?_
  refine k_isubN Ox dX5_plankOf_7 (by omega) ?_
  have hp6 : 1 ≤ 6 ^ (mm - 1 - k) ∧ 6 ^ (mm - 1 - k) ≤ 7776 := pw6_le5 (by omega)
  refine k_callS Ox [] (c_X5_powerOf G _ _ (by omega) (by omega) (by omega)) 2 rfl rfl rfl ⟨rfl, rfl⟩ rfl rfl gX5_plankOf_X5_powerOf ⟨(by decide +kernel), (by decide +kernel), (by decide +kernel)⟩ rfl dX5_plankOf_8 (Nat.le_of_ble_eq_true rfl) rfl ⟨Nat.le_of_ble_eq_true rfl, Nat.le_of_ble_eq_true rfl⟩ (fun r wa wb hp => ?_)
  obtain ⟨⟨rfl, rfl⟩, rfl⟩ := hp
  show V x G _ _ _ _ _ (.int _ :: _) [_]
  have hcd : c / 6 ^ (mm - 1 - k) ≤ c := Nat.div_le_self _ _
  refine k_idivN Ox dX5_plankOf_11 (by omega) (by first | decide | omega) (by first | decide | omega) ?_
  refine k_bipush Ox (v := nI 6) dX5_plankOf_12 rfl ?_
  refine k_iremN Ox dX5_plankOf_14 (by omega) (by first | decide | omega) (by first | decide | omega) ?_
  refine k_iret0 Ox Rt dX5_plankOf_15 (Nat.le_of_ble_eq_true rfl) (Nat.le_of_ble_eq_true rfl) rfl ?_
  exact ⟨⟨rfl, rfl⟩, rfl⟩
