/-! The check's own roads over ways: words and steps. -/
theorem pw10_le {m : Nat} (h : m ≤ 6) : 1 ≤ 10 ^ m ∧ 10 ^ m ≤ 1000000 := by
  have : ∀ m, m ≤ 6 → 1 ≤ 10 ^ m ∧ 10 ^ m ≤ 1000000 := by decide
  exact this m h
theorem pw6_le5 {m : Nat} (h : m ≤ 5) : 1 ≤ 6 ^ m ∧ 6 ^ m ≤ 7776 := by
  have : ∀ m, m ≤ 5 → 1 ≤ 6 ^ m ∧ 6 ^ m ≤ 7776 := by decide
  exact this m h
theorem nI0_toInt : (nI 0).toInt = 0 := by decide
theorem rt_in {m : Nat} (hm : m ≤ 6) (x : Int32) : inR (nI 0).toInt (nI (10 ^ m - 1)).toInt x = rtOK x m := by
  have h := pw10_le hm
  unfold inR rtOK
  rw [nI0_toInt, nI_tI (by omega)]
  apply decide_eq_decide.mpr
  by_cases h0 : 0 ≤ x.toInt
  · obtain ⟨t, ht, rfl⟩ := nat_of h0
    rw [nn_big ht, nI_tI ht]
    omega
  · exact ⟨fun z => absurd z.1 h0, fun z => absurd z.1 h0⟩
/-- where the check stands behind a plank: some island, or none -/
def FaR (L Gr : Nat → Nat) (p h : Nat) (av : Int32) : Prop := (∃ j, j < 6 ∧ av = nI j ∧ p < 6 ∧ nxt L Gr p h = some j) ∨ (av = -6 ∧ (p < 6 → nxt L Gr p h = none))
theorem fa_over {L Gr : Nat → Nat} {p h : Nat} (hL : okP L) (hG : okP Gr) (hp : p < 6) : FaR L Gr p h (ovr L Gr p h) := by
  unfold FaR ovr
  cases e : nxt L Gr p h with
  | none => exact Or.inr ⟨rfl, fun _ => rfl⟩
  | some j => exact Or.inl ⟨j, nxt_lt hL hG hp e, rfl, hp, rfl⟩
theorem fa_out {L Gr : Nat → Nat} {p h : Nat} (hp : 5 < p) : FaR L Gr p h (-6) := Or.inr ⟨rfl, fun z => by omega⟩
theorem fa_ge {L Gr : Nat → Nat} {p h : Nat} {av : Int32} (hf : FaR L Gr p h av) (h0 : 0 ≤ av.toInt) : ∃ j, j < 6 ∧ av = nI j ∧ p < 6 ∧ nxt L Gr p h = some j := by
  rcases hf with q | q
  · exact q
  · rw [q.1, neg6_toInt] at h0; omega
theorem fa_lt {L Gr : Nat → Nat} {p h : Nat} {av : Int32} (hf : FaR L Gr p h av) (h0 : av.toInt < 0) : p < 6 → nxt L Gr p h = none := by
  rcases hf with ⟨j, hj, e, -⟩ | q
  · rw [e, nI_tI (by omega)] at h0; omega
  · exact q.2
theorem flP_no {o : Option Nat} (ho : ∀ q, o = some q → q < 6) (h : (flP o).toInt < 0) : o = none := by
  cases o with
  | none => rfl
  | some k =>
    have hk := ho k rfl
    have h : (nI k).toInt < 0 := h
    rw [nI_tI (by omega)] at h; omega
theorem flP_yes {o : Option Nat} (h : 0 ≤ (flP o).toInt) : ∃ k, o = some k := by
  cases o with
  | none => exact absurd h (by decide)
  | some k => exact ⟨k, rfl⟩
/-- where the check stands within a way -/
def AtR (F : Nat → Option Nat) (R : Option Nat) (av : Int32) : Prop := (∃ h, h < 6 ∧ av = nI h ∧ F h = R) ∨ (av = -6 ∧ R = none)
theorem at_pos {F : Nat → Option Nat} {R : Option Nat} {av : Int32} (hv : AtR F R av) (h0 : 0 ≤ av.toInt) : ∃ h, h < 6 ∧ av = nI h ∧ F h = R := by
  rcases hv with q | q
  · exact q
  · rw [q.1, neg6_toInt] at h0; omega
theorem n6_nI {b : Nat} (hb : b < 100) : ¬ (-6 : Int32) = nI b := fun z => nI_n6 hb z.symm
/-- the check's walk has come to its end: at the goal, or not -/
def EdR (b al : Nat) (R : Option Nat) (av : Int32) : Prop := (av = nI b ∧ R = some al) ∨ (¬ av = nI b ∧ R = none)
theorem at_neg {F : Nat → Option Nat} {R : Option Nat} {av : Int32} {b al : Nat} (hb : b < 6) (hv : AtR F R av) (h0 : av.toInt < 0) : EdR b al R av := by
  rcases hv with ⟨h, h6, e, -⟩ | q
  · rw [e, nI_tI (by omega)] at h0; omega
  · exact Or.inr ⟨by rw [q.1]; exact n6_nI (by omega), q.2⟩
theorem at_end {F : Nat → Option Nat} {R : Option Nat} {av : Int32} {b al : Nat} (hb : b < 6) (hv : AtR F R av) (hF : ∀ h, F h = if h = b then some al else none) : EdR b al R av := by
  rcases hv with ⟨h, h6, e, e2⟩ | q
  · rw [hF] at e2
    by_cases z : h = b
    · rw [if_pos z] at e2; exact Or.inl ⟨by rw [e, z], e2.symm⟩
    · rw [if_neg z] at e2; exact Or.inr ⟨by rw [e]; exact ne_nI (by omega) (by omega) z, e2.symm⟩
  · exact Or.inr ⟨by rw [q.1]; exact n6_nI (by omega), q.2⟩
section
variable {L Gr CO S : Nat → Nat} {b a mm c k : Nat} {R : Option Nat}
theorem gx_next {h al : Nat} (hL : okP L) (hG : okP Gr) (hk : k < mm) (e : gx L Gr CO b (mm - k) h al c = R) : AtR (fun h => gx L Gr CO b (mm - (k + 1)) h (al + CO (dgt c (mm - 1 - k))) c) R (ovr L Gr (dgt c (mm - 1 - k)) h) := by
  rw [show mm - k = (mm - (k + 1)) + 1 by omega] at e
  have hd : dgt c (mm - 1 - k) = dgt c (mm - (k + 1)) := by rw [show mm - 1 - k = mm - (k + 1) by omega]
  rw [hd]
  unfold ovr
  cases q : nxt L Gr (dgt c (mm - (k + 1))) h with
  | none => rw [gx_none q] at e; exact Or.inr ⟨rfl, e.symm⟩
  | some j => rw [gx_step q] at e; exact Or.inl ⟨j, nxt_lt hL hG (dgt_lt _ _) q, rfl, e⟩
theorem gs_next {h u : Nat} (hL : okP L) (hG : okP Gr) (hk : k < mm) (e : gs L Gr S b (mm - k) h u c = R) : AtR (fun h => gs L Gr S b (mm - (k + 1)) h (u * S (dgt c (mm - 1 - k))) c) R (ovr L Gr (dgt c (mm - 1 - k)) h) := by
  rw [show mm - k = (mm - (k + 1)) + 1 by omega] at e
  have hd : dgt c (mm - 1 - k) = dgt c (mm - (k + 1)) := by rw [show mm - 1 - k = mm - (k + 1) by omega]
  rw [hd]
  unfold ovr
  cases q : nxt L Gr (dgt c (mm - (k + 1))) h with
  | none => rw [gsw_none q] at e; exact Or.inr ⟨rfl, e.symm⟩
  | some j => rw [gsw_step q] at e; exact Or.inl ⟨j, nxt_lt hL hG (dgt_lt _ _) q, rfl, e⟩
def bcO (st : Es) : Nat := match st with
  | none => 1000000
  | some q => 1000000 - q.1
def bmO (st : Es) : Nat := match st with
  | none => 0
  | some q => q.2.1
def bkO (st : Es) : Nat := match st with
  | none => 0
  | some q => q.2.2
theorem bcO_le (st : Es) : bcO st ≤ 1000000 := by
  unfold bcO; split
  · exact Nat.le_refl _
  · exact Nat.sub_le _ _
theorem ly_no {st : Es} (h : gx L Gr CO b mm a 0 c = none) : enC (lyG L Gr CO b a) mm st (c + 1) = enC (lyG L Gr CO b a) mm st c := by
  have e : lyG L Gr CO b a mm c = none := by unfold lyG; rw [h]
  simp only [enC, enS]; rw [e]
theorem ly_keep {st : Es} {al : Nat} (h : gx L Gr CO b mm a 0 c = some al) (hc : bcO (enC (lyG L Gr CO b a) mm st c) ≤ al) : enC (lyG L Gr CO b a) mm st (c + 1) = enC (lyG L Gr CO b a) mm st c := by
  simp only [enC]
  generalize enC (lyG L Gr CO b a) mm st c = s1 at hc
  by_cases h1 : al < 1000000
  · have e : lyG L Gr CO b a mm c = some (1000000 - al) := by unfold lyG; rw [h]; exact if_pos h1
    unfold enS; rw [e]
    cases s1 with
    | none => have hc : 1000000 ≤ al := hc; omega
    | some q =>
      have hc : 1000000 - q.1 ≤ al := hc
      exact if_neg (by omega)
  · have e : lyG L Gr CO b a mm c = none := by unfold lyG; rw [h]; exact if_neg h1
    unfold enS; rw [e]
theorem ly_put {st : Es} {al : Nat} (h : gx L Gr CO b mm a 0 c = some al) (hc : al < bcO (enC (lyG L Gr CO b a) mm st c)) : enC (lyG L Gr CO b a) mm st (c + 1) = some (1000000 - al, mm, c) ∧ al < 1000000 := by
  have hle := bcO_le (enC (lyG L Gr CO b a) mm st c)
  have h1 : al < 1000000 := by omega
  refine ⟨?_, h1⟩
  simp only [enC]
  generalize enC (lyG L Gr CO b a) mm st c = s1 at hc
  have e : lyG L Gr CO b a mm c = some (1000000 - al) := by unfold lyG; rw [h]; exact if_pos h1
  unfold enS; rw [e]
  cases s1 with
  | none => rfl
  | some q =>
    have hc : al < 1000000 - q.1 := hc
    exact if_pos (by omega)
theorem bc_put {al : Nat} (h : al < 1000000) : bcO (some (1000000 - al, mm, c)) = al := by
  show 1000000 - (1000000 - al) = al; omega
theorem lyS_in {q : Nat × Nat × Nat} (h : lyS L Gr CO b a = some q) : q.2.1 < 6 ∧ q.2.2 < 6 ^ q.2.1 ∧ 0 < q.1 ∧ q.1 ≤ 1000000 := by
  obtain ⟨⟨h1, h2⟩, h3, -⟩ := (enA_ok (lyG L Gr CO b a) 6).2 q h
  obtain ⟨t, -, h5, h6⟩ := lyG_some.mp h3
  exact ⟨h1, h2, by omega, by omega⟩
theorem ly_t (h : bcO (lyS L Gr CO b a) < 1000000) : (lyS L Gr CO b a).isSome = true := by
  cases e : lyS L Gr CO b a with
  | none => rw [e] at h; exact absurd h (by decide)
  | some q => rfl
theorem ly_f (h : 1000000 ≤ bcO (lyS L Gr CO b a)) : (lyS L Gr CO b a).isSome = false := by
  cases e : lyS L Gr CO b a with
  | none => rfl
  | some q =>
    have h2 := (lyS_in e).2.2.1
    rw [e] at h
    have h : 1000000 ≤ 1000000 - q.1 := h
    omega
theorem pw6_lt {m : Nat} (h : m < 6) : 6 ^ m ≤ 7776 := (pw6_le5 (by omega)).2
theorem ly_bm (L Gr CO : Nat → Nat) (b a : Nat) : bmO (lyS L Gr CO b a) ≤ 5 ∧ bkO (lyS L Gr CO b a) < 7776 := by
  cases e : lyS L Gr CO b a with
  | none => exact ⟨Nat.zero_le _, by decide⟩
  | some q =>
    have h := lyS_in e
    have h2 := pw6_lt h.1
    exact ⟨by show q.2.1 ≤ 5; omega, by show q.2.2 < 7776; omega⟩
end
/-! Reached, costs. -/
theorem bmk_t {B : Nat → Nat → Nat} {p a M : Nat} (hM : M = bmk B p a) (h : 0 < B a p) : setb M a true = bmk B p (a + 1) := by
  subst hM; exact (if_pos h).symm
theorem bmk_f {B : Nat → Nat → Nat} {p a M : Nat} (hM : M = bmk B p a) (h : B a p ≤ 0) : M = bmk B p (a + 1) := by
  subst hM; exact (if_neg (by omega)).symm
theorem rcB_t {O T K : Nat → Nat} {p M0 b M : Nat} (hM : M = rcB O T K p M0 b) (h : rcMay O T K p M b = true) : setb M b true = rcB O T K p M0 (b + 1) := by
  subst hM; exact (if_pos h).symm
theorem rcB_f {O T K : Nat → Nat} {p M0 b M : Nat} (hM : M = rcB O T K p M0 b) (h : rcMay O T K p M b = false) : M = rcB O T K p M0 (b + 1) := by
  subst hM; exact (if_neg (by rw [h]; decide)).symm
theorem andb : ∀ x, x < 64 → ∀ y, y < 64 → nI x &&& nI y = nI (x &&& y) := by decide +kernel
theorem addb (n : Nat) (b : Bool) : nI n + (if b then nI 1 else nI 0) = nI (n + if b then 1 else 0) := by
  cases b
  · exact nI_add n 0
  · exact nI_add n 1
theorem rc_1 {O T K : Nat → Nat} {p M b : Nat} (h1 : O p = b) : false = rcMay O T K p M b := by unfold rcMay; rw [decide_eq_true h1]; rfl
theorem rc_2 {O T K : Nat → Nat} {p M b : Nat} (h2 : (K b).testBit p = true) : false = rcMay O T K p M b := by unfold rcMay; rw [h2]; simp
theorem rc_3 {O T K : Nat → Nat} {p M b : Nat} (h3 : T b &&& setb M (O p) true = 0) : false = rcMay O T K p M b := by unfold rcMay; rw [decide_eq_true h3]; simp
theorem rc_4 {O T K : Nat → Nat} {p M b : Nat} (h1 : ¬ O p = b) (h2 : (K b).testBit p = false) (h3 : 0 < T b &&& setb M (O p) true) : true = rcMay O T K p M b := by
  unfold rcMay; rw [decide_eq_false h1, h2, decide_eq_false (by omega)]; rfl
theorem lc_a {O T K : Nat → Nat} {B : Nat → Nat → Nat} {n p : Nat} (hn : n ≤ 6) (h : (nI n - nI (ld B p 0)).toInt ≤ 0) : nI 0 = rN (lcO O T K B n) p := by
  have hl := ld_le B p 0
  rw [pk_sub_toInt (by omega) (by omega)] at h
  refine congrArg nI ?_
  unfold lcO; rw [if_pos (by omega)]
theorem lc_b {O T K : Nat → Nat} {B : Nat → Nat → Nat} {n p : Nat} (hn : n ≤ 6) (h : 0 < (nI n - nI (ld B p 0)).toInt) (h2 : n ≤ rcN O T K B p) : nI n - nI (ld B p 0) = rN (lcO O T K B n) p := by
  have hl := ld_le B p 0
  rw [pk_sub_toInt (by omega) (by omega)] at h
  rw [pk_sub (by omega)]
  refine congrArg nI ?_
  unfold lcO; rw [if_neg (by omega), if_pos h2]
theorem lc_c {O T K : Nat → Nat} {B : Nat → Nat → Nat} {n p : Nat} (hn : n ≤ 6) (h : 0 < (nI n - nI (ld B p 0)).toInt) (h2 : rcN O T K B p < n) : nI 1000000 = rN (lcO O T K B n) p := by
  have hl := ld_le B p 0
  rw [pk_sub_toInt (by omega) (by omega)] at h
  refine congrArg nI ?_
  unfold lcO; rw [if_neg (by omega), if_neg (by omega)]
theorem lcO_le {O T K : Nat → Nat} {B : Nat → Nat → Nat} {n : Nat} (hn : n ≤ 6) (p : Nat) : lcO O T K B n p ≤ 1000000 := by
  unfold lcO; (repeat' split) <;> omega
/-! Tellings, stands. -/
def tlW (st : Es) (x : Int32) : Int32 := match st with
  | none => -6
  | some q => if x = -1 then nI (1000000 - q.1) else if 0 ≤ x.toInt ∧ x.toInt < q.2.1 then nI (dgt q.2.2 (q.2.1 - 1 - nn x)) else -6
def tlM (L Gr O T K : Nat → Nat) (B : Nat → Nat → Nat) (x1 x2 x3 x4 : Int32) : Int32 := pick (inR 0 5 x1 && inR 0 5 x2) (pick (inR 1 6 x3) (tlW (lyS L Gr (lcO O T K B (nn x3)) (nn x2) (nn x1)) x4) (-2)) (-1)
theorem tw_no {st : Es} {x : Int32} (h : st.isSome = false) : tlW st x = -6 := by
  cases st with
  | none => rfl
  | some q => cases h
theorem tw_all {st : Es} {x : Int32} (h : st.isSome = true) (hx : x = -1) : tlW st x = nI (bcO st) := by
  cases st with
  | none => cases h
  | some q => exact if_pos hx
theorem bm_in {k : Nat} {x : Int32} (hk : k ≤ 5) (h : inR (nI 0).toInt (nI k - nI 1).toInt x = true) : ∃ i, i < k ∧ x = nI i := by
  unfold inR at h
  rw [nI0_toInt, pk_sub_toInt (by omega) (by omega)] at h
  have h := of_decide_eq_true h
  obtain ⟨t, ht, rfl⟩ := nat_of h.1
  rw [nI_tI ht] at h
  exact ⟨t, by omega, rfl⟩
theorem bm_out {k : Nat} {x : Int32} (hk : k ≤ 5) (h : inR (nI 0).toInt (nI k - nI 1).toInt x = false) : ¬ (0 ≤ x.toInt ∧ x.toInt < (k : Int)) := by
  unfold inR at h
  rw [nI0_toInt, pk_sub_toInt (by omega) (by omega)] at h
  have h := of_decide_eq_false h
  omega
theorem tw_i {st : Es} {i : Nat} (h : st.isSome = true) (hi : i < bmO st) (h6 : i < 6) (hx : ¬ nI i = -1) : tlW st (nI i) = nI (dgt (bkO st) (bmO st - 1 - i)) := by
  cases st with
  | none => cases h
  | some q =>
    have hi : i < q.2.1 := hi
    show (if nI i = -1 then _ else if 0 ≤ (nI i).toInt ∧ (nI i).toInt < (q.2.1 : Int) then nI (dgt q.2.2 (q.2.1 - 1 - nn (nI i))) else -6) = _
    rw [if_neg hx, if_pos (by rw [nI_tI (by omega)]; omega), nn_nI (by omega)]
    rfl
theorem tw_o {st : Es} {x : Int32} (h : st.isSome = true) (hx : ¬ x = -1) (hi : ¬ (0 ≤ x.toInt ∧ x.toInt < (bmO st : Int))) : tlW st x = -6 := by
  cases st with
  | none => cases h
  | some q =>
    have hi : ¬ (0 ≤ x.toInt ∧ x.toInt < (q.2.1 : Int)) := hi
    show (if x = -1 then _ else if 0 ≤ x.toInt ∧ x.toInt < (q.2.1 : Int) then nI (dgt q.2.2 (q.2.1 - 1 - nn x)) else -6) = _
    rw [if_neg hx, if_neg hi]
def fdN (B : Nat → Nat → Nat) (d : Nat) : Nat → Nat → Nat := fun a p => B a p - d
theorem fdN_0 (B : Nat → Nat → Nat) : fdN B 0 = B := rfl
theorem fdN_s (B : Nat → Nat → Nat) (d : Nat) : fdB (fdN B d) = fdN B (d + 1) := by
  funext a p; show B a p - d - 1 = B a p - (d + 1); omega
theorem fdN_ok {B : Nat → Nat → Nat} (hB : okB B) (d : Nat) : okB (fdN B d) := fun a p ha hp => by have := hB a p ha hp; show B a p - d ≤ 9; omega
theorem ld_fdN (B : Nat → Nat → Nat) (p d : Nat) : ld (fdN B d) p 0 = ld B p d := by
  refine cnt_congr 6 (fun a ha => decide_eq_decide.mpr ?_)
  show 0 < B a p - d ↔ d < B a p
  omega
def stO (B : Nat → Nat → Nat) (n d p : Nat) : Nat := if n ≤ ld B p d then 0 else 1000000
theorem stO_le (B : Nat → Nat → Nat) (n d p : Nat) : stO B n d p ≤ 1000000 := by unfold stO; split <;> omega
theorem st_a {B : Nat → Nat → Nat} {n d p : Nat} (h : n ≤ ld (fdN B d) p 0) : nI 0 = rN (stO B n d) p := by
  refine congrArg nI ?_
  rw [ld_fdN] at h; unfold stO; rw [if_pos h]
theorem st_b {B : Nat → Nat → Nat} {n d p : Nat} (h : ld (fdN B d) p 0 < n) : nI 1000000 = rN (stO B n d) p := by
  refine congrArg nI ?_
  rw [ld_fdN] at h; unfold stO; rw [if_neg (by omega)]
def smP (L Gr : Nat → Nat) (B : Nat → Nat → Nat) (a b n d : Nat) : Bool := (lyS L Gr (stO B n d) b a).isSome
def sdW (L Gr : Nat → Nat) (B : Nat → Nat → Nat) (a b n : Nat) : Nat := match firstB (fun i => !smP L Gr B a b n i) 10 with
  | some i => i
  | none => 10
def sdM (L Gr : Nat → Nat) (B : Nat → Nat → Nat) (x1 x2 x3 : Int32) : Int32 := pick (inR 0 5 x1 && inR 0 5 x2) (pick (inR 1 6 x3) (if x1 = x2 then -6 else nI (sdW L Gr B (nn x1) (nn x2) (nn x3))) (-2)) (-1)
theorem st_co (B : Nat → Nat → Nat) (n d : Nat) : coW (sbO B n d) (stO B n d) := by
  intro p hp
  unfold sbO stO
  by_cases h : n ≤ ld B p d
  · rw [if_pos h, if_pos h]; exact Or.inr ⟨0, rfl, rfl⟩
  · rw [if_neg h, if_neg h]; exact Or.inl ⟨rfl, rfl⟩
theorem sm_sb {L Gr : Nat → Nat} {B : Nat → Nat → Nat} {a b n d : Nat} : smP L Gr B a b n d = sbP L Gr B a b n d := by
  unfold smP sbP
  rcases ly_best (L := L) (Gr := Gr) (go := b) (st_co B n d) (sb_ok B n d) ((fun _ => 0), (fun _ => 0), none, 0) a with ⟨h1, h2⟩ | ⟨x, l, c, h1, h2, -⟩
  · have h1 : wL (wkF L Gr (sbO B n d) false b 5 a (2 ^ a) 0 ((fun _ => 0), (fun _ => 0), none, 0)) = none := h1
    rw [h1, h2]; rfl
  · have h1 : wL (wkF L Gr (sbO B n d) false b 5 a (2 ^ a) 0 ((fun _ => 0), (fun _ => 0), none, 0)) = some l := h1
    rw [h1, h2]; rfl
theorem sm_nine {L Gr : Nat → Nat} {B : Nat → Nat → Nat} {a b n d : Nat} (hB : okB B) (hn : 0 < n) (hab : ¬ a = b) (hd : 9 ≤ d) : smP L Gr B a b n d = false := by
  unfold smP
  cases e : lyS L Gr (stO B n d) b a with
  | none => rfl
  | some q =>
    exfalso
    obtain ⟨-, h3, -⟩ := (enA_ok (lyG L Gr (stO B n d) b a) 6).2 q e
    obtain ⟨t, h4, h5, -⟩ := lyG_some.mp h3
    cases hm : q.2.1 with
    | zero => rw [hm] at h4; exact hab (gx_0.mp h4).1
    | succ l =>
      rw [hm] at h4
      obtain ⟨j, -, h6⟩ := gx_inv h4
      have h7 := gx_ge _ _ _ _ _ h6
      have h8 : stO B n d (dgt q.2.2 l) = 1000000 := by
        unfold stO
        have h9 : ld B (dgt q.2.2 l) d = 0 := by
          have h10 : ∀ a, a < 6 → decide (d < B a (dgt q.2.2 l)) = false := fun a ha => decide_eq_false (by have := hB a _ ha (dgt_lt q.2.2 l); omega)
          show cnt _ 6 = 0
          rw [cnt_congr (g := fun _ => false) 6 (fun a ha => h10 a ha)]; decide
        rw [h9, if_neg (by omega)]
      omega
theorem sw_stop {L Gr : Nat → Nat} {B : Nat → Nat → Nat} {a b n d : Nat} (hd : d ≤ 9) (hq : ∀ j, j < d → smP L Gr B a b n j = true) (h : smP L Gr B a b n d = false) : nI (sdW L Gr B a b n) = nI d := by
  unfold sdW; rw [firstB_some (i := d) (by rw [h]; rfl) (fun j hj => by rw [hq j hj]; rfl) (by omega)]
theorem sd_eq {L Gr : Nat → Nat} {B : Nat → Nat → Nat} {x1 x2 x3 : Int32} (hB : okB B) : sdM L Gr B x1 x2 x3 = sdR L Gr B x1 x2 x3 := by
  unfold sdM sdR
  by_cases h1 : (inR 0 5 x1 && inR 0 5 x2) = true
  · rw [pick_t h1, pick_t h1]
    by_cases h2 : inR 1 6 x3 = true
    · rw [pick_t h2, pick_t h2]
      by_cases h3 : x1 = x2
      · rw [if_pos h3, if_pos h3]
      · rw [if_neg h3, if_neg h3]
        have h1' := Bool.and_eq_true_iff.mp h1
        obtain ⟨j1, hj1, e1⟩ := in6_of h1'.1
        obtain ⟨j2, hj2, e2⟩ := in6_of h1'.2
        obtain ⟨j3, hj3, hj6, e3⟩ := inR_of' (lo := 1) (k := 6) rfl rfl (by decide) h2
        subst e1 e2 e3
        rw [nn_nI (by omega), nn_nI (by omega), nn_nI (show j3 < 1000000 by omega)]
        have hab : ¬ j1 = j2 := fun z => h3 (by rw [z])
        congr 1
        unfold sdW sdV
        have hf : ∀ i, (fun i => !smP L Gr B j1 j2 j3 i) i = (fun i => !sbP L Gr B j1 j2 j3 i) i := fun i => by show (!smP L Gr B j1 j2 j3 i) = _; rw [sm_sb]
        rw [show (fun i => !smP L Gr B j1 j2 j3 i) = (fun i => !sbP L Gr B j1 j2 j3 i) from funext hf]
        have h9 : sbP L Gr B j1 j2 j3 9 = false := by rw [← sm_sb]; exact sm_nine hB (by omega) hab (by omega)
        have e : firstB (fun i => !sbP L Gr B j1 j2 j3 i) 10 = match firstB (fun i => !sbP L Gr B j1 j2 j3 i) 9 with
          | some i => some i
          | none => some 9 := by
          show (match firstB (fun i => !sbP L Gr B j1 j2 j3 i) 9 with | some i => some i | none => if (!sbP L Gr B j1 j2 j3 9) = true then some 9 else none) = _
          rw [h9]; rfl
        rw [e]
        cases firstB (fun i => !sbP L Gr B j1 j2 j3 i) 9 with
        | none => rfl
        | some i => rfl
    · rw [Bool.not_eq_true] at h2; rw [pick_f h2, pick_f h2]
  · rw [Bool.not_eq_true] at h1; rw [pick_f h1, pick_f h1]
theorem ofInt_nat {n : Nat} (h : n < 2147483648) : Int32.ofInt (n : Int) = nI n := by
  apply Int32.toInt_inj.mp
  rw [nI_tI h, Int32.toInt_ofInt_of_le (by omega) (by omega)]
theorem tl_eq {L Gr O T K : Nat → Nat} {fd : Nat} {B : Nat → Nat → Nat} {s : Ws} {x1 x2 x3 x4 : Int32} (hO : okP O) (hT : okM T) (hfd : 0 < fd) : tlM L Gr O T K B x1 x2 x3 x4 = tlR L Gr O T K fd B s x1 x2 x3 x4 := by
  unfold tlM tlR
  by_cases h1 : (inR 0 5 x1 && inR 0 5 x2) = true
  · rw [pick_t h1, pick_t h1]
    by_cases h2 : inR 1 6 x3 = true
    · rw [pick_t h2, pick_t h2]
      obtain ⟨j3, hj3, hj6, e3⟩ := inR_of' (lo := 1) (k := 6) rfl rfl (by decide) h2
      have hn3 : nn x3 ≤ 10 := by rw [e3, nn_nI (by omega)]; omega
      rcases ly_best (L := L) (Gr := Gr) (go := nn x2) (lc_tf (K := K) (B := B) (n := nn x3) hO hT hfd) (tf_ok O T K fd B hn3) s (nn x1) with ⟨h3, h4⟩ | ⟨x, l, c, h3, h4, h5, h6, h7, h8, h9⟩
      · rw [h4]
        unfold tlV
        rw [h3]
        show (-6 : Int32) = if x4 = -1 then (if (none : Option Nat).isSome = true then _ else -6) else stR _ x4
        by_cases hx : x4 = -1
        · rw [if_pos hx]; rfl
        · rw [if_neg hx]; unfold stR; rw [h3]
      · rw [h4]
        obtain ⟨t, -, q5, q6⟩ := lyG_some.mp h8
        unfold tlV tlW
        rw [h3]
        simp only [Option.isSome_some, if_true]
        by_cases hx : x4 = -1
        · rw [if_pos hx, if_pos hx, h5]
          rw [show -((x : Int) - 1000000) = ((1000000 - x : Nat) : Int) by omega, ofInt_nat (by omega)]
        · rw [if_neg hx, if_neg hx]
          unfold stR
          rw [h3]
          simp only []
          by_cases hi : 0 ≤ x4.toInt ∧ x4.toInt < (l : Int)
          · rw [if_pos hi, if_pos hi, h9 (nn x4) (by obtain ⟨y, hy, rfl⟩ := nat_of hi.1; rw [nn_big hy]; rw [nI_tI hy] at hi; omega)]
          · rw [if_neg hi, if_neg hi]
    · rw [Bool.not_eq_true] at h2; rw [pick_f h2, pick_f h2]
  · rw [Bool.not_eq_true] at h1; rw [pick_f h1, pick_f h1]
theorem st_f0 {iz b : Bool} {d fuel : Nat} (h0 : iz = true) (h : b = false) (hf : 11 ≤ d + (fuel + 1) + (if iz then 0 else 1)) : 11 ≤ d + fuel + (if b then 0 else 1) := by
  subst h0 h; simp at hf ⊢; omega
theorem st_f1 {iz b : Bool} {d fuel : Nat} (h0 : iz = true) (h : b = true) (hf : 11 ≤ d + (fuel + 1) + (if iz then 0 else 1)) : 11 ≤ d + 1 + fuel + (if b then 0 else 1) := by
  subst h0 h; simp at hf ⊢; omega
theorem sgT_end {a ft : Bool} {B : Nat → Nat → Nat} {SP SL : Nat → Nat} {q sg : Nat} (h : q = sg) (hf : ft = (a && sgT B SP SL q)) : ft = (a && sgT B SP SL sg) := by rw [hf, h]
