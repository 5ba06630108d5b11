/-! The law: its loop. -/
theorem sw_dec : ∀ t, t < 32 → 27 ≤ t → (26 : Int) < (nI t).toInt := by decide
set_option maxHeartbeats 1000000 in
theorem law_loop (G : Gx) {x : Cx} {nm : String} (Ox : Okx x G 4 cL_law wsL_law (⟨RL, nm, "([I)Z"⟩ : MethodName) room_1) {b Ln : Nat} {xs : Nat → Int32} (hScr : Scx x b Ln xs) (ad : Nat → Nat) (hLn : Ln ≤ 3072) (hend : ∀ (n1 n2 i : Nat) (ws : va_W), n1 ≤ 600000 → n2 ≤ 7302250 → V x G 4 n1 n2 1077 [(0, .ref b), (1, .ref (ad 0)), (2, .ref (ad 27)), (3, .int (nI i))] [.int (nI 1)] ws) :
    ∀ (fuel i n1 n2 : Nat) (ws : va_W), i ≤ Ln + 6 → Ln + 7 ≤ i + fuel → n1 + 11 * fuel ≤ 600000 → n2 + 96 * fuel ≤ 7302250 → LoopI G ad ws → V x G 4 n1 n2 18 [(0, .ref b), (1, .ref (ad 0)), (2, .ref (ad 27)), (3, .int (nI i))] [] ws := by
  intro fuel
  induction fuel with
  | zero => intro i n1 n2 ws h1 h2; exact absurd h2 (by omega)
  | succ fuel ih =>
    intro i n1 n2 ws hiL hfu hn1 hn2 hI
    refine k_iload_n Ox dL_law_18 rfl 3 rfl ?_
    refine k_aload_n Ox dL_law_19 rfl 0 rfl ?_
    refine k_slen Ox hScr dL_law_20 ?_
    refine k_bipush Ox (v := nI 6) dL_law_21 rfl ?_
    refine k_isub Ox dL_law_23 ?_
    refine k_icmp_gt Ox 1076 dL_law_24 rfl (fun c_24 => ?_) (fun c_24 => ?_)
    · refine k_iconst Ox (v := nI 1) dL_law_1076 rfl ?_
      exact hend n1 n2 i ws (by omega) (by omega)
    · have hi6 : i + 6 ≤ Ln := by
        rw [nI_tI (by omega), pk_sub_toInt (by omega) (by omega)] at c_24
        omega
      have hr1 : n1 + 11 ≤ room_1.cells := by show n1 + 11 ≤ 600000; omega
      have hr2 : n2 + 96 ≤ room_1.slots := by show n2 + 96 ≤ 7302250; omega
      have kk : ∀ ws : va_W, LoopI G ad ws → V x G 4 (n1 + 11) (n2 + 96) 1070 [(0, .ref b), (1, .ref (ad 0)), (2, .ref (ad 27)), (3, .int (nI i))] [] ws := by
        intro ws hI
        refine k_iincN Ox (k := 3) (m := 6) [_, _, _, _] dL_law_1070 rfl rfl (by decide) rfl ?_
        refine k_goto Ox 18 dL_law_1073 rfl ?_
        refine k_sub [1, 2, 3, 0] [(0, .ref b), (1, .ref (ad 0)), (2, .ref (ad 27)), (3, .int (nI (i + 6)))] rfl ?_
        exact ih (i + 6) (n1 + 11) (n2 + 96) ws (by omega) (by omega) (by omega) (by omega) hI
      refine k_aload_n Ox dL_law_27 rfl 0 rfl ?_
      refine k_iload_n Ox dL_law_28 rfl 3 rfl ?_
      refine k_sld Ox hScr (by omega) hLn dL_law_29 ?_
      refine k_bipush Ox (v := nI 31) dL_law_30 rfl ?_
      refine k_iand Ox dL_law_32 ?_
      obtain ⟨t, ht, e⟩ := pk_andE (xs i) (m := nI 31) 5 (by decide)
      rw [e]
      have ht : t < 32 := ht
      by_cases h27 : 27 ≤ t
      · refine k_tableOut Ox 1070 dL_law_33 (Or.inr (sw_dec t ht h27)) rfl ?_
        refine k_widen (n1 + 11) (n2 + 96) (by omega) (by omega) ?_
        exact kk ws hI
      · rcases (show t = 0 ∨ t = 1 ∨ t = 2 ∨ t = 3 ∨ t = 4 ∨ t = 5 ∨ t = 6 ∨ t = 7 ∨ t = 8 ∨ t = 9 ∨ t = 10 ∨ t = 11 ∨ t = 12 ∨ t = 13 ∨ t = 14 ∨ t = 15 ∨ t = 16 ∨ t = 17 ∨ t = 18 ∨ t = 19 ∨ t = 20 ∨ t = 21 ∨ t = 22 ∨ t = 23 ∨ t = 24 ∨ t = 25 ∨ t = 26 by omega) with rfl | rfl | rfl | rfl | rfl | rfl | rfl | rfl | rfl | rfl | rfl | rfl | rfl | rfl | rfl | rfl | rfl | rfl | rfl | rfl | rfl | rfl | rfl | rfl | rfl | rfl | rfl
        · exact k_tableIn Ox (off := 123) 156 dL_law_33 (by decide) (by decide) (by decide) rfl (lc_plank G Ox hScr ad hi6 hLn hr1 hr2 kk ws hI)
        · exact k_tableIn Ox (off := 176) 209 dL_law_33 (by decide) (by decide) (by decide) rfl (lc_trust G Ox hScr ad hi6 hLn hr1 hr2 kk ws hI)
        · exact k_tableIn Ox (off := 235) 268 dL_law_33 (by decide) (by decide) (by decide) rfl (lc_know G Ox hScr ad hi6 hLn hr1 hr2 kk ws hI)
        · exact k_tableIn Ox (off := 294) 327 dL_law_33 (by decide) (by decide) (by decide) rfl (lc_fade G Ox hScr ad hi6 hLn hr1 hr2 kk ws hI)
        · exact k_tableIn Ox (off := 317) 350 dL_law_33 (by decide) (by decide) (by decide) rfl (lc_say G Ox hScr ad hi6 hLn hr1 hr2 kk ws hI)
        · exact k_tableIn Ox (off := 340) 373 dL_law_33 (by decide) (by decide) (by decide) rfl (lc_wipe G Ox hScr ad hi6 hLn hr1 hr2 kk ws hI)
        · exact k_tableIn Ox (off := 353) 386 dL_law_33 (by decide) (by decide) (by decide) rfl (lc_fault G Ox hScr ad hi6 hLn hr1 hr2 kk ws hI)
        · exact k_tableIn Ox (off := 366) 399 dL_law_33 (by decide) (by decide) (by decide) rfl (lc_vain G Ox hScr ad hi6 hLn hr1 hr2 kk ws hI)
        · exact k_tableIn Ox (off := 389) 422 dL_law_33 (by decide) (by decide) (by decide) rfl (lc_done G Ox hScr ad hi6 hLn hr1 hr2 kk ws hI)
        · exact k_tableIn Ox (off := 402) 435 dL_law_33 (by decide) (by decide) (by decide) rfl (lc_bears G Ox hScr ad hi6 hLn hr1 hr2 kk ws hI)
        · exact k_tableIn Ox (off := 435) 468 dL_law_33 (by decide) (by decide) (by decide) rfl (lc_behind G Ox hScr ad hi6 hLn hr1 hr2 kk ws hI)
        · exact k_tableIn Ox (off := 468) 501 dL_law_33 (by decide) (by decide) (by decide) rfl (lc_falls G Ox hScr ad hi6 hLn hr1 hr2 kk ws hI)
        · exact k_tableIn Ox (off := 531) 564 dL_law_33 (by decide) (by decide) (by decide) rfl (lc_tellings G Ox hScr ad hi6 hLn hr1 hr2 kk ws hI)
        · exact k_tableIn Ox (off := 584) 617 dL_law_33 (by decide) (by decide) (by decide) rfl (lc_stands G Ox hScr ad hi6 hLn hr1 hr2 kk ws hI)
        · exact k_tableIn Ox (off := 627) 660 dL_law_33 (by decide) (by decide) (by decide) rfl (lc_word G Ox hScr ad hi6 hLn hr1 hr2 kk ws hI)
        · exact k_tableIn Ox (off := 650) 683 dL_law_33 (by decide) (by decide) (by decide) rfl (lc_rumour G Ox hScr ad hi6 hLn hr1 hr2 kk ws hI)
        · exact k_tableIn Ox (off := 683) 716 dL_law_33 (by decide) (by decide) (by decide) rfl (lc_odds G Ox hScr ad hi6 hLn hr1 hr2 kk ws hI)
        · exact k_tableIn Ox (off := 736) 769 dL_law_33 (by decide) (by decide) (by decide) rfl (lc_tenths G Ox hScr ad hi6 hLn hr1 hr2 kk ws hI)
        · exact k_tableIn Ox (off := 769) 802 dL_law_33 (by decide) (by decide) (by decide) rfl (lc_safe G Ox hScr ad hi6 hLn hr1 hr2 kk ws hI)
        · exact k_tableIn Ox (off := 812) 845 dL_law_33 (by decide) (by decide) (by decide) rfl (lc_chance G Ox hScr ad hi6 hLn hr1 hr2 kk ws hI)
        · exact k_tableIn Ox (off := 856) 889 dL_law_33 (by decide) (by decide) (by decide) rfl (lc_seen G Ox hScr ad hi6 hLn hr1 hr2 kk ws hI)
        · exact k_tableIn Ox (off := 889) 922 dL_law_33 (by decide) (by decide) (by decide) rfl (lc_forget G Ox hScr ad hi6 hLn hr1 hr2 kk ws hI)
        · exact k_tableIn Ox (off := 902) 935 dL_law_33 (by decide) (by decide) (by decide) rfl (lc_filled G Ox hScr ad hi6 hLn hr1 hr2 kk ws hI)
        · exact k_tableIn Ox (off := 925) 958 dL_law_33 (by decide) (by decide) (by decide) rfl (lc_year G Ox hScr ad hi6 hLn hr1 hr2 kk ws hI)
        · exact k_tableIn Ox (off := 968) 1001 dL_law_33 (by decide) (by decide) (by decide) rfl (lc_image G Ox hScr ad hi6 hLn hr1 hr2 kk ws hI)
        · exact k_tableIn Ox (off := 991) 1024 dL_law_33 (by decide) (by decide) (by decide) rfl (lc_restore G Ox hScr ad hi6 hLn hr1 hr2 kk ws hI)
        · exact k_tableIn Ox (off := 1014) 1047 dL_law_33 (by decide) (by decide) (by decide) rfl (lc_told G Ox hScr ad hi6 hLn hr1 hr2 kk ws hI)
