/-! The law: what the calls keep. -/
theorem nn_lt {x : Int32} (h : inR 0 5 x = true) : nn x < 6 := by
  obtain ⟨j, hj, rfl⟩ := in6_of h
  rw [nn_nI (by omega)]; exact hj
theorem nn_le {x : Int32} {lo k : Nat} {low hi : Int} (hl : low = (lo : Int)) (hk : hi = (k : Int)) (hk2 : k < 1000000) (h : inR low hi x = true) : lo ≤ nn x ∧ nn x ≤ k := by
  obtain ⟨j, h1, h2, rfl⟩ := inR_of' hl hk (by omega) h
  rw [nn_nI (by omega)]; exact ⟨h1, h2⟩
theorem okPl_d {p i j w : Int32} (h : okPl p i j w = true) : nn p < 6 ∧ nn i < 6 ∧ nn j < 6 ∧ nn w < 6 := by
  unfold okPl at h
  simp only [Bool.and_eq_true] at h
  exact ⟨nn_lt h.1.1.1.1, nn_lt h.1.1.1.2, nn_lt h.1.1.2, nn_lt h.1.2⟩
theorem up_okP {L : Nat → Nat} {k v : Nat} (h : okP L) (hv : v < 6) : okP (va_up L k v) := by
  intro q hq
  unfold va_up
  split
  · exact hv
  · exact h q hq
theorem plL_ok {p i j w : Int32} {L : Nat → Nat} (h : okP L) : okP (plL p i j w L) := by
  unfold plL
  by_cases c : okPl p i j w = true
  · rw [if_pos c]
    obtain ⟨-, h2, h3, -⟩ := okPl_d c
    exact up_okP h (by split <;> assumption)
  · rw [if_neg c]; exact h
theorem plG_ok {p i j w : Int32} {L : Nat → Nat} (h : okP L) : okP (plG p i j w L) := by
  unfold plG
  by_cases c : okPl p i j w = true
  · rw [if_pos c]
    obtain ⟨-, h2, h3, -⟩ := okPl_d c
    exact up_okP h (by split <;> assumption)
  · rw [if_neg c]; exact h
theorem plO_ok {p i j w : Int32} {L : Nat → Nat} (h : okP L) : okP (plO p i j w L) := by
  unfold plO
  by_cases c : okPl p i j w = true
  · rw [if_pos c]
    obtain ⟨-, -, -, h4⟩ := okPl_d c
    exact up_okP h h4
  · rw [if_neg c]; exact h
theorem plK_ok {p i j w : Int32} {K : Nat → Nat} (h : okM K) : okM (plK p i j w K) := by
  unfold plK
  by_cases c : okPl p i j w = true
  · rw [if_pos c]
    obtain ⟨h1, -⟩ := okPl_d c
    intro a ha
    exact setb_lt _ (h a ha) _ h1 false
  · rw [if_neg c]; exact h
theorem plB_ok {p i j w : Int32} {B : Nat → Nat → Nat} (h : okB B) : okB (plB p i j w B) := by
  unfold plB
  by_cases c : okPl p i j w = true
  · rw [if_pos c]
    intro a q ha hq
    unfold wipeB
    split
    · exact Nat.zero_le _
    · exact h a q ha hq
  · rw [if_neg c]; exact h
theorem trT_ok {p o : Int32} {on : Bool} {T : Nat → Nat} (h : okM T) : okM (trT p o on T) := by
  unfold trT
  by_cases c : okTr p o = true
  · rw [if_pos c]
    unfold okTr at c
    simp only [Bool.and_eq_true] at c
    intro a ha
    unfold va_up
    split
    · exact setb_lt _ (h _ (nn_lt c.1.1)) _ (nn_lt c.1.2) on
    · exact h a ha
  · rw [if_neg c]; exact h
theorem trT_ns {p o : Int32} {on : Bool} {T : Nat → Nat} (h : okM T) (hN : noSelf T) : noSelf (trT p o on T) := by
  unfold trT
  by_cases c : okTr p o = true
  · rw [if_pos c]
    unfold okTr at c
    simp only [Bool.and_eq_true] at c
    obtain ⟨j1, hj1, rfl⟩ := in6_of c.1.1
    obtain ⟨j2, hj2, rfl⟩ := in6_of c.1.2
    have hne : ¬ j1 = j2 := fun z => by
      have := c.2
      rw [z] at this
      simp at this
    rw [nn_nI (by omega), nn_nI (by omega)]
    intro a ha
    unfold va_up
    split
    · next e =>
      subst e
      rw [setb_bit _ (h _ ha) _ hj2 on _ ha, if_neg hne]
      exact hN _ ha
    · exact hN a ha
  · rw [if_neg c]; exact hN
theorem knK_ok {a p : Int32} {on : Bool} {K : Nat → Nat} (h : okM K) : okM (knK a p on K) := by
  unfold knK
  by_cases c : okKn a p = true
  · rw [if_pos c]
    unfold okKn at c
    simp only [Bool.and_eq_true] at c
    intro q hq
    unfold va_up
    split
    · exact setb_lt _ (h _ (nn_lt c.1)) _ (nn_lt c.2) on
    · exact h q hq
  · rw [if_neg c]; exact h
theorem knB_ok {a p : Int32} {on : Bool} {B : Nat → Nat → Nat} (h : okB B) : okB (knB a p on B) := by
  unfold knB
  by_cases c : okKn a p = true
  · rw [if_pos c]
    split
    · exact up2_ok h (Nat.zero_le _)
    · exact h
  · rw [if_neg c]; exact h
theorem fdv_ok {x : Int32} {fd : Nat} (h0 : 0 < fd) (h : fd < 10) : 0 < (if inR 1 9 x then nn x else fd) ∧ (if inR 1 9 x then nn x else fd) < 10 := by
  by_cases c : inR 1 9 x = true
  · rw [if_pos c]
    have := nn_le (lo := 1) (k := 9) rfl rfl (by decide) c
    omega
  · rw [if_neg c]; exact ⟨h0, h⟩
theorem sayM_ok {x : Int32} {mn : Nat} (h : mn ≤ 60) : sayM x mn ≤ 60 := by
  unfold sayM; split <;> omega
theorem sayP_ok {x : Int32} {mn : Nat} {PS : Nat → Nat} (h : ∀ i, i < mn → PS i < 128) : ∀ i, i < sayM x mn → sayP x mn PS i < 128 := by
  intro i hi
  unfold sayM at hi
  unfold sayP
  by_cases c : inR 33 126 x = true ∧ mn < 60
  · rw [if_pos c] at hi ⊢
    have := nn_le (lo := 33) (k := 126) rfl rfl (by decide) c.1
    unfold va_up
    split
    · omega
    · exact h i (by omega)
  · rw [if_neg c] at hi ⊢; exact h i hi
theorem dnB_ok {O T K : Nat → Nat} {fd : Nat} {GU PS : Nat → Nat} {P : Ps} {mn : Nat} {B : Nat → Nat → Nat} (hB : okB B) (hfd : fd < 10) : okB (dnB O T K fd GU PS P mn B) := by
  unfold dnB; split
  · exact plyB_ok hB hfd _
  · exact hB
theorem dnM_ok {c : Prop} [Decidable c] {mn : Nat} {PS : Nat → Nat} (h : mn ≤ 60) (hP : ∀ i, i < mn → PS i < 128) : (if c then 0 else mn) ≤ 60 ∧ ∀ i, i < (if c then 0 else mn) → PS i < 128 := by
  split
  · exact ⟨Nat.zero_le _, fun i hi => absurd hi (Nat.not_lt_zero _)⟩
  · exact ⟨h, hP⟩
theorem tnS_ok {p v : Int32} {S : Nat → Nat} (h : okS S) : okS (tnS p v S) := by
  unfold tnS
  by_cases c : (inR 0 5 p && inR 0 10 v) = true
  · rw [if_pos c]
    have c2 := (Bool.and_eq_true_iff.mp c).2
    have := nn_le (lo := 0) (k := 10) rfl rfl (by decide) c2
    intro q hq
    unfold va_up
    split
    · exact this.2
    · exact h q hq
  · rw [if_neg c]; exact h
theorem okSn_d {p v : Int32} {sg : Nat} (h : okSn p v sg = true) : nn p < 6 ∧ nn v ≤ 6 ∧ sg < 6 := by
  unfold okSn at h
  simp only [Bool.and_eq_true, decide_eq_true_eq] at h
  exact ⟨nn_lt h.1.1, (nn_le (lo := 0) (k := 6) rfl rfl (by decide) h.1.2).2, h.2⟩
theorem snP_ok {p v : Int32} {sg : Nat} {SP : Nat → Nat} (h : ∀ j, j < 6 → SP j < 6) : ∀ j, j < 6 → snP p v sg SP j < 6 := by
  intro j hj
  unfold snP
  by_cases c : okSn p v sg = true
  · rw [if_pos c]; unfold va_up; split
    · exact (okSn_d c).1
    · exact h j hj
  · rw [if_neg c]; exact h j hj
theorem snL_ok {p v : Int32} {sg : Nat} {SL : Nat → Nat} (h : ∀ j, j < 6 → SL j ≤ 6) : ∀ j, j < 6 → snL p v sg SL j ≤ 6 := by
  intro j hj
  unfold snL
  by_cases c : okSn p v sg = true
  · rw [if_pos c]; unfold va_up; split
    · exact (okSn_d c).2.1
    · exact h j hj
  · rw [if_neg c]; exact h j hj
theorem snG_ok {p v : Int32} {sg : Nat} (h : sg ≤ 6) : snG p v sg ≤ 6 := by
  unfold snG
  by_cases c : okSn p v sg = true
  · rw [if_pos c]; have := (okSn_d c).2.2; omega
  · rw [if_neg c]; exact h
/-- what holds of a delta's contents, of the pad and the ways -/
def InvC (L Gr O S T K SP SL : Nat → Nat) (B : Nat → Nat → Nat) (fd sg : Nat) : Prop := okP L ∧ okP Gr ∧ okP O ∧ okS S ∧ okM T ∧ noSelf T ∧ okM K ∧ okB B ∧ (∀ j, j < 6 → SP j < 6) ∧ (∀ j, j < 6 → SL j ≤ 6) ∧ (0 < fd ∧ fd < 10) ∧ sg ≤ 6
def InvT (mn : Nat) (PS : Nat → Nat) (W : Nat → Option Nat) (s : Ws) : Prop := (mn ≤ 60 ∧ ∀ i, i < mn → PS i < 128) ∧ okWs s ∧ okWt W
theorem ringL_ok : okP ringL := by
  intro p hp; unfold ringL; split <;> omega
theorem ringG_ok : okP ringG := by
  intro p hp; unfold ringG; split <;> omega
theorem InvC_0 : InvC ringL ringG (fun k => k) (fun _ => 5) (fun _ => 0) (fun _ => 0) (fun _ => 0) (fun _ => 0) (fun _ _ => 0) 3 0 :=
  ⟨ringL_ok, ringG_ok, fun p hp => hp, fun p hp => by show 5 ≤ 10; decide, fun a ha => by show 0 < 64; decide, fun a ha => Nat.zero_testBit a, fun a ha => by show 0 < 64; decide, fun a p _ _ => Nat.zero_le _, fun j hj => by show 0 < 6; decide, fun j hj => by show 0 ≤ 6; decide, ⟨by decide, by decide⟩, by decide⟩
theorem InvT_0 : InvT 0 (fun _ => 0) (fun _ => some 0) ((fun _ => 0), (fun _ => 0), some 0, 0) :=
  ⟨⟨Nat.zero_le _, fun i hi => absurd hi (Nat.not_lt_zero _)⟩, ⟨⟨by show (-1000 : Int) ≤ 0; decide, by show (0 : Int) ≤ 1000000; decide⟩, fun l hl => by cases hl; decide⟩, fun p w hp h => by cases h; decide⟩
