set_option maxHeartbeats 400000 in
set_option maxRecDepth 4000 in
theorem c_X4_within (G : Gx) (v l h : Int32) : Ct G yX4_within wsX4_within { frames := 0, cells := 0, slots := 0, locals := 0 } [.int v, .int l, .int h] [] (fun r wa => r = some (.int (bI (inR l.toInt h.toInt v))) ∧ wa = []) := by
  refine CtN.of [(0, .int v), (1, .int l), (2, .int h)] (by decide +kernel) rfl rfl rfl rfl ?_
  intro x Ox Rt
  refine k_iload_n Ox dX4_within_0 rfl 0 rfl ?_
  refine k_iload_n Ox dX4_within_1 rfl 1 rfl ?_
  refine k_icmp_lt Ox 14 dX4_within_2 rfl (fun c_2 => ?_) (fun c_2 => ?_)
  · refine k_iconst Ox (v := nI 0) dX4_within_14 rfl ?_
    refine k_zret0 Ox Rt dX4_within_15 (by first | exact bI_nar _ | decide) (Nat.le_of_ble_eq_true rfl) (Nat.le_of_ble_eq_true rfl) rfl ?_
    refine ⟨⟨congrArg (fun z => some (Value.int z)) ?_, rfl⟩, rfl⟩
    first | exact (show nI 1 = bI (inR l.toInt h.toInt v) by rw [show inR l.toInt h.toInt v = true from decide_eq_true ⟨by omega, by omega⟩]; rfl) | exact (show nI 0 = bI (inR l.toInt h.toInt v) by rw [show inR l.toInt h.toInt v = false from decide_eq_false (by omega)]; rfl)
  · refine k_iload_n Ox dX4_within_5 rfl 0 rfl ?_
    refine k_iload_n Ox dX4_within_6 rfl 2 rfl ?_
    refine k_icmp_gt Ox 14 dX4_within_7 rfl (fun c_7 => ?_) (fun c_7 => ?_)
    · refine k_iconst Ox (v := nI 0) dX4_within_14 rfl ?_
      refine k_zret0 Ox Rt dX4_within_15 (by first | exact bI_nar _ | decide) (Nat.le_of_ble_eq_true rfl) (Nat.le_of_ble_eq_true rfl) rfl ?_
      refine ⟨⟨congrArg (fun z => some (Value.int z)) ?_, rfl⟩, rfl⟩
      first | exact (show nI 1 = bI (inR l.toInt h.toInt v) by rw [show inR l.toInt h.toInt v = true from decide_eq_true ⟨by omega, by omega⟩]; rfl) | exact (show nI 0 = bI (inR l.toInt h.toInt v) by rw [show inR l.toInt h.toInt v = false from decide_eq_false (by omega)]; rfl)
    · refine k_iconst Ox (v := nI 1) dX4_within_10 rfl ?_
      refine k_goto Ox 15 dX4_within_11 rfl ?_
      refine k_zret0 Ox Rt dX4_within_15 (by first | exact bI_nar _ | decide) (Nat.le_of_ble_eq_true rfl) (Nat.le_of_ble_eq_true rfl) rfl ?_
      refine ⟨⟨congrArg (fun z => some (Value.int z)) ?_, rfl⟩, rfl⟩
      first | exact (show nI 1 = bI (inR l.toInt h.toInt v) by rw [show inR l.toInt h.toInt v = true from decide_eq_true ⟨by omega, by omega⟩]; rfl) | exact (show nI 0 = bI (inR l.toInt h.toInt v) by rw [show inR l.toInt h.toInt v = false from decide_eq_false (by omega)]; rfl)
set_option maxHeartbeats 400000 in
set_option maxRecDepth 4000 in
theorem c_X4_isPerson (G : Gx) (v : Int32) : Ct G yX4_isPerson wsX4_isPerson { frames := 1, cells := 0, slots := 0, locals := 22 } [.int v] [] (fun r wa => r = some (.int (bI (inR 0 5 v))) ∧ wa = []) := by
  refine CtN.of [(0, .int v)] (by decide +kernel) rfl rfl rfl rfl ?_
  intro x Ox Rt
  refine k_iload_n Ox dX4_isPerson_0 rfl 0 rfl ?_
  refine k_iconst Ox (v := nI 0) dX4_isPerson_1 rfl ?_
  refine k_iconst Ox (v := nI 5) dX4_isPerson_2 rfl ?_
  refine k_callS Ox [] (c_X4_within G _ _ _ ) 3 rfl rfl rfl ⟨rfl, rfl⟩ rfl rfl gX4_isPerson_X4_within ⟨(by decide +kernel), (by decide +kernel), (by decide +kernel)⟩ rfl dX4_isPerson_3 (Nat.le_of_ble_eq_true rfl) rfl ⟨Nat.le_of_ble_eq_true rfl, Nat.le_of_ble_eq_true rfl⟩ (fun r wa wb hp => ?_)
  obtain ⟨⟨rfl, rfl⟩, rfl⟩ := hp
  show V x G _ _ _ _ _ (.int _ :: _) []
  change V x G _ _ _ _ _ (.int (bI (inR (0) (5) _)) :: _) _
  refine k_zret0 Ox Rt dX4_isPerson_6 (by first | exact bI_nar _ | decide) (Nat.le_of_ble_eq_true rfl) (Nat.le_of_ble_eq_true rfl) rfl ?_
  exact ⟨⟨rfl, rfl⟩, rfl⟩
set_option maxHeartbeats 400000 in
set_option maxRecDepth 4000 in
theorem c_X4_isIsland (G : Gx) (v : Int32) : Ct G yX4_isIsland wsX4_isIsland { frames := 1, cells := 0, slots := 0, locals := 22 } [.int v] [] (fun r wa => r = some (.int (bI (inR 0 5 v))) ∧ wa = []) := by
  refine CtN.of [(0, .int v)] (by decide +kernel) rfl rfl rfl rfl ?_
  intro x Ox Rt
  refine k_iload_n Ox dX4_isIsland_0 rfl 0 rfl ?_
  refine k_iconst Ox (v := nI 0) dX4_isIsland_1 rfl ?_
  refine k_iconst Ox (v := nI 5) dX4_isIsland_2 rfl ?_
  refine k_callS Ox [] (c_X4_within G _ _ _ ) 3 rfl rfl rfl ⟨rfl, rfl⟩ rfl rfl gX4_isIsland_X4_within ⟨(by decide +kernel), (by decide +kernel), (by decide +kernel)⟩ rfl dX4_isIsland_3 (Nat.le_of_ble_eq_true rfl) rfl ⟨Nat.le_of_ble_eq_true rfl, Nat.le_of_ble_eq_true rfl⟩ (fun r wa wb hp => ?_)
  obtain ⟨⟨rfl, rfl⟩, rfl⟩ := hp
  show V x G _ _ _ _ _ (.int _ :: _) []
  change V x G _ _ _ _ _ (.int (bI (inR (0) (5) _)) :: _) _
  refine k_zret0 Ox Rt dX4_isIsland_6 (by first | exact bI_nar _ | decide) (Nat.le_of_ble_eq_true rfl) (Nat.le_of_ble_eq_true rfl) rfl ?_
  exact ⟨⟨rfl, rfl⟩, rfl⟩
set_option maxHeartbeats 400000 in
set_option maxRecDepth 4000 in
theorem c_X4_isPlank (G : Gx) (v : Int32) : Ct G yX4_isPlank wsX4_isPlank { frames := 1, cells := 0, slots := 0, locals := 22 } [.int v] [] (fun r wa => r = some (.int (bI (inR 0 5 v))) ∧ wa = []) := by
  refine CtN.of [(0, .int v)] (by decide +kernel) rfl rfl rfl rfl ?_
  intro x Ox Rt
  refine k_iload_n Ox dX4_isPlank_0 rfl 0 rfl ?_
  refine k_iconst Ox (v := nI 0) dX4_isPlank_1 rfl ?_
  refine k_iconst Ox (v := nI 5) dX4_isPlank_2 rfl ?_
  refine k_callS Ox [] (c_X4_within G _ _ _ ) 3 rfl rfl rfl ⟨rfl, rfl⟩ rfl rfl gX4_isPlank_X4_within ⟨(by decide +kernel), (by decide +kernel), (by decide +kernel)⟩ rfl dX4_isPlank_3 (Nat.le_of_ble_eq_true rfl) rfl ⟨Nat.le_of_ble_eq_true rfl, Nat.le_of_ble_eq_true rfl⟩ (fun r wa wb hp => ?_)
  obtain ⟨⟨rfl, rfl⟩, rfl⟩ := hp
  show V x G _ _ _ _ _ (.int _ :: _) []
  change V x G _ _ _ _ _ (.int (bI (inR (0) (5) _)) :: _) _
  refine k_zret0 Ox Rt dX4_isPlank_6 (by first | exact bI_nar _ | decide) (Nat.le_of_ble_eq_true rfl) (Nat.le_of_ble_eq_true rfl) rfl ?_
  exact ⟨⟨rfl, rfl⟩, rfl⟩
set_option maxHeartbeats 400000 in
set_option maxRecDepth 4000 in
theorem c_X4_isParty (G : Gx) (v : Int32) : Ct G yX4_isParty wsX4_isParty { frames := 1, cells := 0, slots := 0, locals := 22 } [.int v] [] (fun r wa => r = some (.int (bI (inR 1 6 v))) ∧ wa = []) := by
  refine CtN.of [(0, .int v)] (by decide +kernel) rfl rfl rfl rfl ?_
  intro x Ox Rt
  refine k_iload_n Ox dX4_isParty_0 rfl 0 rfl ?_
  refine k_iconst Ox (v := nI 1) dX4_isParty_1 rfl ?_
  refine k_bipush Ox (v := nI 6) dX4_isParty_2 rfl ?_
  refine k_callS Ox [] (c_X4_within G _ _ _ ) 3 rfl rfl rfl ⟨rfl, rfl⟩ rfl rfl gX4_isParty_X4_within ⟨(by decide +kernel), (by decide +kernel), (by decide +kernel)⟩ rfl dX4_isParty_4 (Nat.le_of_ble_eq_true rfl) rfl ⟨Nat.le_of_ble_eq_true rfl, Nat.le_of_ble_eq_true rfl⟩ (fun r wa wb hp => ?_)
  obtain ⟨⟨rfl, rfl⟩, rfl⟩ := hp
  show V x G _ _ _ _ _ (.int _ :: _) []
  change V x G _ _ _ _ _ (.int (bI (inR (1) (6) _)) :: _) _
  refine k_zret0 Ox Rt dX4_isParty_7 (by first | exact bI_nar _ | decide) (Nat.le_of_ble_eq_true rfl) (Nat.le_of_ble_eq_true rfl) rfl ?_
  exact ⟨⟨rfl, rfl⟩, rfl⟩
set_option maxHeartbeats 400000 in
set_option maxRecDepth 4000 in
theorem c_X4_isPersonOrAll (G : Gx) (v : Int32) : Ct G yX4_isPersonOrAll wsX4_isPersonOrAll { frames := 2, cells := 0, slots := 0, locals := 42 } [.int v] [] (fun r wa => r = some (.int (bI (decide (v = -1) || inR 0 5 v))) ∧ wa = []) := by
  refine CtN.of [(0, .int v)] (by decide +kernel) rfl rfl rfl rfl ?_
  intro x Ox Rt
  refine k_iload_n Ox dX4_isPersonOrAll_0 rfl 0 rfl ?_
  refine k_iconst Ox (v := -1) dX4_isPersonOrAll_1 (by decide) ?_
  refine k_icmp_eq Ox 12 dX4_isPersonOrAll_2 rfl (fun c_2 => ?_) (fun c_2 => ?_)
  · refine k_iconst Ox (v := nI 1) dX4_isPersonOrAll_12 rfl ?_
    refine k_goto Ox 17 dX4_isPersonOrAll_13 rfl ?_
    refine k_zret0 Ox Rt dX4_isPersonOrAll_17 (by first | exact bI_nar _ | decide) (Nat.le_of_ble_eq_true rfl) (Nat.le_of_ble_eq_true rfl) rfl ?_
    refine ⟨⟨congrArg (fun z => some (Value.int z)) ?_, rfl⟩, rfl⟩
    first | (rw [show decide (v = -1) = true from decide_eq_true c_2]; rfl) | (rw [c_9]; simp [bI]; done) | (rw [show decide (v = -1) = false from decide_eq_false c_2, c_9]; rfl)
  · refine k_iload_n Ox dX4_isPersonOrAll_5 rfl 0 rfl ?_
    refine k_callS Ox [] (c_X4_isPerson G _ ) 1 rfl rfl rfl ⟨rfl, rfl⟩ rfl rfl gX4_isPersonOrAll_X4_isPerson ⟨(by decide +kernel), (by decide +kernel), (by decide +kernel)⟩ rfl dX4_isPersonOrAll_6 (Nat.le_of_ble_eq_true rfl) rfl ⟨Nat.le_of_ble_eq_true rfl, Nat.le_of_ble_eq_true rfl⟩ (fun r wa wb hp => ?_)
    obtain ⟨⟨rfl, rfl⟩, rfl⟩ := hp
    show V x G _ _ _ _ _ (.int _ :: _) []
    refine k_if_eqB Ox 16 dX4_isPersonOrAll_9 rfl (fun c_9 => ?_) (fun c_9 => ?_)
    · refine k_iconst Ox (v := nI 0) dX4_isPersonOrAll_16 rfl ?_
      refine k_zret0 Ox Rt dX4_isPersonOrAll_17 (by first | exact bI_nar _ | decide) (Nat.le_of_ble_eq_true rfl) (Nat.le_of_ble_eq_true rfl) rfl ?_
      refine ⟨⟨congrArg (fun z => some (Value.int z)) ?_, rfl⟩, rfl⟩
      first | (rw [show decide (v = -1) = true from decide_eq_true c_2]; rfl) | (rw [c_9]; simp [bI]; done) | (rw [show decide (v = -1) = false from decide_eq_false c_2, c_9]; rfl)
    · refine k_iconst Ox (v := nI 1) dX4_isPersonOrAll_12 rfl ?_
      refine k_goto Ox 17 dX4_isPersonOrAll_13 rfl ?_
      refine k_zret0 Ox Rt dX4_isPersonOrAll_17 (by first | exact bI_nar _ | decide) (Nat.le_of_ble_eq_true rfl) (Nat.le_of_ble_eq_true rfl) rfl ?_
      refine ⟨⟨congrArg (fun z => some (Value.int z)) ?_, rfl⟩, rfl⟩
      first | (rw [show decide (v = -1) = true from decide_eq_true c_2]; rfl) | (rw [c_9]; simp [bI]; done) | (rw [show decide (v = -1) = false from decide_eq_false c_2, c_9]; rfl)
set_option maxHeartbeats 400000 in
set_option maxRecDepth 4000 in
theorem c_X4_isChoice (G : Gx) (v : Int32) : Ct G yX4_isChoice wsX4_isChoice { frames := 0, cells := 0, slots := 0, locals := 0 } [.int v] [] (fun r wa => r = some (.int (bI (decide (v = 0) || decide (v = 1)))) ∧ wa = []) := by
  refine CtN.of [(0, .int v)] (by decide +kernel) rfl rfl rfl rfl ?_
  intro x Ox Rt
  refine k_iload_n Ox dX4_isChoice_0 rfl 0 rfl ?_
  refine k_if_eq Ox 9 dX4_isChoice_1 rfl (fun c_1 => ?_) (fun c_1 => ?_)
  · refine k_iconst Ox (v := nI 1) dX4_isChoice_9 rfl ?_
    refine k_goto Ox 14 dX4_isChoice_10 rfl ?_
    refine k_zret0 Ox Rt dX4_isChoice_14 (by first | exact bI_nar _ | decide) (Nat.le_of_ble_eq_true rfl) (Nat.le_of_ble_eq_true rfl) rfl ?_
    refine ⟨⟨congrArg (fun z => some (Value.int z)) ?_, rfl⟩, rfl⟩
    first | (rw [show decide (v = 0) = true from decide_eq_true c_1]; rfl) | (rw [show decide (v = 1) = true from decide_eq_true c_6]; simp [bI]; done) | (rw [show decide (v = 0) = false from decide_eq_false c_1, show decide (v = 1) = false from decide_eq_false c_6]; rfl)
  · refine k_iload_n Ox dX4_isChoice_4 rfl 0 rfl ?_
    refine k_iconst Ox (v := nI 1) dX4_isChoice_5 rfl ?_
    refine k_icmp_ne Ox 13 dX4_isChoice_6 rfl (fun c_6 => ?_) (fun c_6 => ?_)
    · refine k_iconst Ox (v := nI 0) dX4_isChoice_13 rfl ?_
      refine k_zret0 Ox Rt dX4_isChoice_14 (by first | exact bI_nar _ | decide) (Nat.le_of_ble_eq_true rfl) (Nat.le_of_ble_eq_true rfl) rfl ?_
      refine ⟨⟨congrArg (fun z => some (Value.int z)) ?_, rfl⟩, rfl⟩
      first | (rw [show decide (v = 0) = true from decide_eq_true c_1]; rfl) | (rw [show decide (v = 1) = true from decide_eq_true c_6]; simp [bI]; done) | (rw [show decide (v = 0) = false from decide_eq_false c_1, show decide (v = 1) = false from decide_eq_false c_6]; rfl)
    · refine k_iconst Ox (v := nI 1) dX4_isChoice_9 rfl ?_
      refine k_goto Ox 14 dX4_isChoice_10 rfl ?_
      refine k_zret0 Ox Rt dX4_isChoice_14 (by first | exact bI_nar _ | decide) (Nat.le_of_ble_eq_true rfl) (Nat.le_of_ble_eq_true rfl) rfl ?_
      refine ⟨⟨congrArg (fun z => some (Value.int z)) ?_, rfl⟩, rfl⟩
      first | (rw [show decide (v = 0) = true from decide_eq_true c_1]; rfl) | (rw [show decide (v = 1) = true from decide_eq_true c_6]; simp [bI]; done) | (rw [show decide (v = 0) = false from decide_eq_false c_1, show decide (v = 1) = false from decide_eq_false c_6]; rfl)
set_option maxHeartbeats 400000 in
set_option maxRecDepth 4000 in
theorem c_X4_at (G : Gx) (a n : Nat) (f : Nat → Int32) (i : Nat) (hi : i < n) (hn : n < 2147483648) : Ct G yX4_at wsX4_at { frames := 0, cells := 0, slots := 0, locals := 0 } [.ref a, .int (nI i)] [(a, cI G n f)] (fun r wa => r = some (.int (f i)) ∧ wa = [(a, cI G n f)]) := by
  refine CtN.of [(0, .ref a), (1, .int (nI i))] (by decide +kernel) rfl rfl rfl rfl ?_
  intro x Ox Rt
  refine k_iload_n Ox dX4_at_0 rfl 1 rfl ?_
  refine k_if_ltN Ox 16 dX4_at_1 rfl (by omega) ?_
  refine k_iload_n Ox dX4_at_4 rfl 1 rfl ?_
  refine k_aload_n Ox dX4_at_5 rfl 0 rfl ?_
  refine k_alen Ox 0 0 rfl rfl dX4_at_6 ?_
  refine k_icmp_geN Ox 16 dX4_at_7 rfl (by omega) (by omega) (fun c_7 => ?_) (fun c_7 => ?_)
  · exfalso; omega
  · refine k_aload_n Ox dX4_at_10 rfl 0 rfl ?_
    refine k_iload_n Ox dX4_at_11 rfl 1 rfl ?_
    refine k_iald Ox 0 rfl (by omega) (by first | decide | omega) dX4_at_12 ?_
    refine k_goto Ox 17 dX4_at_13 rfl ?_
    refine k_iret0 Ox Rt dX4_at_17 (Nat.le_of_ble_eq_true rfl) (Nat.le_of_ble_eq_true rfl) rfl ?_
    exact ⟨⟨rfl, rfl⟩, rfl⟩
set_option maxHeartbeats 400000 in
set_option maxRecDepth 4000 in
theorem c_X4_put (G : Gx) (a n : Nat) (f : Nat → Int32) (i : Nat) (v : Int32) (hi : i < n) (hn : n < 2147483648) : Ct G yX4_put wsX4_put { frames := 0, cells := 0, slots := 0, locals := 0 } [.ref a, .int (nI i), .int v] [(a, cI G n f)] (fun r wa => r = none ∧ wa = [(a, cI G n (upd f i v))]) := by
  refine CtN.of [(0, .ref a), (1, .int (nI i)), (2, .int v)] (by decide +kernel) rfl rfl rfl rfl ?_
  intro x Ox Rt
  refine k_iload_n Ox dX4_put_0 rfl 1 rfl ?_
  refine k_if_ltN Ox 14 dX4_put_1 rfl (by omega) ?_
  refine k_iload_n Ox dX4_put_4 rfl 1 rfl ?_
  refine k_aload_n Ox dX4_put_5 rfl 0 rfl ?_
  refine k_alen Ox 0 0 rfl rfl dX4_put_6 ?_
  refine k_icmp_geN Ox 14 dX4_put_7 rfl (by omega) (by omega) (fun c_7 => ?_) (fun c_7 => ?_)
  · exfalso; omega
  · refine k_aload_n Ox dX4_put_10 rfl 0 rfl ?_
    refine k_iload_n Ox dX4_put_11 rfl 1 rfl ?_
    refine k_iload_n Ox dX4_put_12 rfl 2 rfl ?_
    refine k_iast Ox 0 rfl (by omega) (by first | decide | omega) [_] rfl dX4_put_13 ?_
    refine k_vret0 Ox Rt dX4_put_14 (Nat.le_of_ble_eq_true rfl) (Nat.le_of_ble_eq_true rfl) rfl ?_
    exact ⟨⟨rfl, rfl⟩, rfl⟩
set_option maxHeartbeats 400000 in
set_option maxRecDepth 4000 in
theorem c_X4_hasBit (G : Gx) (a n : Nat) (f : Nat → Nat) (i b : Nat) (hi : i < n) (hn : n < 2147483648) (hm : f i < 64) (hb : b < 6) : Ct G yX4_hasBit wsX4_hasBit { frames := 1, cells := 0, slots := 0, locals := 21 } [.ref a, .int (nI i), .int (nI b)] [(a, cI G n (rN f))] (fun r wa => r = some (.int (bI ((f i).testBit b))) ∧ wa = [(a, cI G n (rN f))]) := by
  refine CtN.of [(0, .ref a), (1, .int (nI i)), (2, .int (nI b))] (by decide +kernel) rfl rfl rfl rfl ?_
  intro x Ox Rt
  refine k_aload_n Ox dX4_hasBit_0 rfl 0 rfl ?_
  refine k_iload_n Ox dX4_hasBit_1 rfl 1 rfl ?_
  refine k_callS Ox [0] (c_X4_at G _ _ _ _ (hi) (hn)) 2 rfl rfl rfl ⟨rfl, rfl⟩ rfl rfl gX4_hasBit_X4_at ⟨(by decide +kernel), (by decide +kernel), (by decide +kernel)⟩ rfl dX4_hasBit_2 (Nat.le_of_ble_eq_true rfl) rfl ⟨Nat.le_of_ble_eq_true rfl, Nat.le_of_ble_eq_true rfl⟩ (fun r wa wb hp => ?_)
  obtain ⟨⟨rfl, rfl⟩, rfl⟩ := hp
  show V x G _ _ _ _ _ (.int _ :: _) [_]
  refine k_iload_n Ox dX4_hasBit_5 rfl 2 rfl ?_
  refine k_ishr Ox dX4_hasBit_6 ?_
  refine k_iconst Ox (v := nI 1) dX4_hasBit_7 rfl ?_
  refine k_iand Ox dX4_hasBit_8 ?_
  refine k_top _ (hasb _ hm _ hb) ?_
  refine k_iconst Ox (v := nI 1) dX4_hasBit_9 rfl ?_
  refine k_icmp_ne Ox 17 dX4_hasBit_10 rfl (fun c_10 => ?_) (fun c_10 => ?_)
  · refine k_iconst Ox (v := nI 0) dX4_hasBit_17 rfl ?_
    refine k_zret0 Ox Rt dX4_hasBit_18 (by first | exact bI_nar _ | decide) (Nat.le_of_ble_eq_true rfl) (Nat.le_of_ble_eq_true rfl) rfl ?_
    exact ⟨⟨congrArg (fun z => some (Value.int z)) (by revert c_10; cases (f i).testBit b <;> decide), rfl⟩, rfl⟩
  · refine k_iconst Ox (v := nI 1) dX4_hasBit_13 rfl ?_
    refine k_goto Ox 18 dX4_hasBit_14 rfl ?_
    refine k_zret0 Ox Rt dX4_hasBit_18 (by first | exact bI_nar _ | decide) (Nat.le_of_ble_eq_true rfl) (Nat.le_of_ble_eq_true rfl) rfl ?_
    exact ⟨⟨congrArg (fun z => some (Value.int z)) (by revert c_10; cases (f i).testBit b <;> decide), rfl⟩, rfl⟩
set_option maxHeartbeats 400000 in
set_option maxRecDepth 4000 in
theorem c_X4_putBit (G : Gx) (a n : Nat) (f : Nat → Nat) (i b : Nat) (on : Bool) (hi : i < n) (hn : n < 2147483648) (hm : f i < 64) (hb : b < 6) : Ct G yX4_putBit wsX4_putBit { frames := 1, cells := 0, slots := 0, locals := 22 } [.ref a, .int (nI i), .int (nI b), .int (bI on)] [(a, cI G n (rN f))] (fun r wa => r = none ∧ wa = [(a, cI G n (rN (va_up f i (setb (f i) b on))))]) := by
  refine CtN.of [(0, .ref a), (1, .int (nI i)), (2, .int (nI b)), (3, .int (bI on))] (by decide +kernel) rfl rfl rfl rfl ?_
  intro x Ox Rt
  refine k_aload_n Ox dX4_putBit_0 rfl 0 rfl ?_
  refine k_iload_n Ox dX4_putBit_1 rfl 1 rfl ?_
  refine k_callS Ox [0] (c_X4_at G _ _ _ _ (hi) (hn)) 2 rfl rfl rfl ⟨rfl, rfl⟩ rfl rfl gX4_putBit_X4_at ⟨(by decide +kernel), (by decide +kernel), (by decide +kernel)⟩ rfl dX4_putBit_2 (Nat.le_of_ble_eq_true rfl) rfl ⟨Nat.le_of_ble_eq_true rfl, Nat.le_of_ble_eq_true rfl⟩ (fun r wa wb hp => ?_)
  obtain ⟨⟨rfl, rfl⟩, rfl⟩ := hp
  show V x G _ _ _ _ _ (.int _ :: _) [_]
  refine k_iconst Ox (v := nI 1) dX4_putBit_5 rfl ?_
  refine k_iload_n Ox dX4_putBit_6 rfl 2 rfl ?_
  refine k_ishl Ox dX4_putBit_7 ?_
  refine k_top _ (shl1 b hb) ?_
  refine k_iconst Ox (v := -1) dX4_putBit_8 (by decide) ?_
  refine k_ixor Ox dX4_putBit_9 ?_
  refine k_iand Ox dX4_putBit_10 ?_
  refine k_top _ (clrb _ hm _ hb) ?_
  refine k_istore Ox [(4, _), (0, _), (1, _), (2, _), (3, _)] dX4_putBit_11 (by decide) rfl ?_
  refine k_aload_n Ox dX4_putBit_13 rfl 1 rfl ?_
  refine k_iload_n Ox dX4_putBit_14 rfl 2 rfl ?_
  refine k_iload_n Ox dX4_putBit_15 rfl 4 rfl ?_
  refine k_if_eqB Ox 28 dX4_putBit_16 rfl (fun c_16 => ?_) (fun c_16 => ?_)
  · refine k_iload Ox dX4_putBit_28 0 rfl ?_
    refine k_callS Ox [0] (c_X4_put G _ _ _ _ _ (hi) (hn)) 3 rfl rfl rfl ⟨rfl, rfl⟩ rfl rfl gX4_putBit_X4_put ⟨(by decide +kernel), (by decide +kernel), (by decide +kernel)⟩ rfl dX4_putBit_30 (Nat.le_of_ble_eq_true rfl) rfl ⟨Nat.le_of_ble_eq_true rfl, Nat.le_of_ble_eq_true rfl⟩ (fun r wa wb hp => ?_)
    obtain ⟨⟨rfl, rfl⟩, rfl⟩ := hp
    show V x G _ _ _ _ _ _ [_]
    rw [rN_upd]
    refine k_vret0 Ox Rt dX4_putBit_33 (Nat.le_of_ble_eq_true rfl) (Nat.le_of_ble_eq_true rfl) rfl ?_
    exact ⟨⟨rfl, by subst c_16; rfl⟩, rfl⟩
  · refine k_iload Ox dX4_putBit_19 0 rfl ?_
    refine k_iconst Ox (v := nI 1) dX4_putBit_21 rfl ?_
    refine k_iload_n Ox dX4_putBit_22 rfl 3 rfl ?_
    refine k_ishl Ox dX4_putBit_23 ?_
    refine k_top _ (shl1 b hb) ?_
    refine k_ior Ox dX4_putBit_24 ?_
    refine k_top _ (orb0 _ hm _ hb) ?_
    refine k_goto Ox 30 dX4_putBit_25 rfl ?_
    refine k_callS Ox [0] (c_X4_put G _ _ _ _ _ (hi) (hn)) 3 rfl rfl rfl ⟨rfl, rfl⟩ rfl rfl gX4_putBit_X4_put ⟨(by decide +kernel), (by decide +kernel), (by decide +kernel)⟩ rfl dX4_putBit_30 (Nat.le_of_ble_eq_true rfl) rfl ⟨Nat.le_of_ble_eq_true rfl, Nat.le_of_ble_eq_true rfl⟩ (fun r wa wb hp => ?_)
    obtain ⟨⟨rfl, rfl⟩, rfl⟩ := hp
    show V x G _ _ _ _ _ _ [_]
    rw [rN_upd]
    refine k_vret0 Ox Rt dX4_putBit_33 (Nat.le_of_ble_eq_true rfl) (Nat.le_of_ble_eq_true rfl) rfl ?_
    exact ⟨⟨rfl, by subst c_16; rfl⟩, rfl⟩
set_option maxHeartbeats 400000 in
set_option maxRecDepth 4000 in
theorem c_X4_copy (G : Gx) (a b n : Nat) (f g : Nat → Int32) (hn : n < 2147483640) : Ct G yX4_copy wsX4_copy { frames := 1, cells := 0, slots := 0, locals := 21 } [.ref a, .ref b] [(a, cI G n f), (b, cI G n g)] (fun r wa => r = none ∧ wa = [(a, cI G n f), (b, cI G n f)]) := by
  refine CtN.of [(0, .ref a), (1, .ref b)] (by decide +kernel) rfl rfl rfl rfl ?_
  intro x Ox Rt
  refine k_iconst Ox (v := nI 0) dX4_copy_0 rfl ?_
  refine k_istore_n Ox [(2, _), (0, _), (1, _)] dX4_copy_1 rfl (by decide) rfl ?_
  have L2 : ∀ (fuel : Nat) (i : Nat) (g : Nat → Int32), i ≤ n → n + 1 ≤ i + fuel → (∀ j, j < i → g j = f j) → V x G 3 0 0 2 [(0, .ref a), (1, .ref b), (2, .int (nI i))] [] [(a, cI G n f), (b, cI G n g)] := by
    intro fuel
    induction fuel with
    | zero => intro i g hi hfuel hg; exact absurd hi (by omega)
    | succ fuel ih =>
      intro i g hi hfuel hg
      refine k_iload_n Ox dX4_copy_2 rfl 2 rfl ?_
      refine k_aload_n Ox dX4_copy_3 rfl 1 rfl ?_
      refine k_alen Ox 1 0 rfl rfl dX4_copy_4 ?_
      refine k_icmp_geN Ox 22 dX4_copy_5 rfl (by omega) (by omega) (fun c_5 => ?_) (fun c_5 => ?_)
      · refine k_cell 1 f rfl (fun j hj => hg j (by omega)) [_, _] rfl ?_
        refine k_vret0 Ox Rt dX4_copy_22 (Nat.le_of_ble_eq_true rfl) (Nat.le_of_ble_eq_true rfl) rfl ?_
        exact ⟨⟨rfl, rfl⟩, rfl⟩
      · refine k_aload_n Ox dX4_copy_8 rfl 1 rfl ?_
        refine k_iload_n Ox dX4_copy_9 rfl 2 rfl ?_
        refine k_aload_n Ox dX4_copy_10 rfl 0 rfl ?_
        refine k_iload_n Ox dX4_copy_11 rfl 2 rfl ?_
        refine k_callS Ox [0] (c_X4_at G _ _ _ _ (by omega) (by omega)) 2 rfl rfl rfl ⟨rfl, rfl⟩ rfl rfl gX4_copy_X4_at ⟨(by decide +kernel), (by decide +kernel), (by decide +kernel)⟩ rfl dX4_copy_12 (Nat.le_of_ble_eq_true rfl) rfl ⟨Nat.le_of_ble_eq_true rfl, Nat.le_of_ble_eq_true rfl⟩ (fun r wa wb hp => ?_)
        obtain ⟨⟨rfl, rfl⟩, rfl⟩ := hp
        show V x G _ _ _ _ _ (.int _ :: _) [_, _]
        refine k_iast Ox 1 rfl (by omega) (by first | decide | omega) [_, _] rfl dX4_copy_15 ?_
        refine k_iincN Ox (k := 2) (m := 1) [(2, _), (0, _), (1, _)] dX4_copy_16 rfl rfl (by decide) rfl ?_
        refine k_goto Ox 2 dX4_copy_19 rfl ?_
        refine k_sub [1, 2, 0] [(0, _), (1, _), (2, _)] rfl ?_
        exact ih (i + 1) _ (by omega) (by omega) (fun j hj => cp_up hg hj)
  refine k_sub [1, 2, 0] [(0, _), (1, _), (2, _)] rfl ?_
  exact L2 (n + 1) 0 g (Nat.zero_le _) (by omega) (fun j hj => absurd hj (by omega))
