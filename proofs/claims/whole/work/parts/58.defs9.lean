/-! Falls. -/
def dg (t m k : Nat) : Nat := t / 10 ^ (m - 1 - k) % 10
def rtOK (x : Int32) (m : Nat) : Bool := decide (0 ≤ x.toInt ∧ nn x < 10 ^ m)
theorem gs_pos {k : Nat} (hk : k < 100) (h : 0 ≤ (nI k - nI 1).toInt) : 0 < k := by
  rw [pk_sub_toInt (by omega) (by decide)] at h; omega
theorem gs_zero {k : Nat} (hk : k < 100) (h : (nI k - nI 1).toInt < 0) : k = 0 := by
  rw [pk_sub_toInt (by omega) (by decide)] at h; omega
theorem gs_eq (k : Nat) : nI (k + 1) - nI 1 = nI k := nI_pred k
theorem gs_dec (k : Nat) : nI k + Int32.ofInt (-1) = nI k - nI 1 := by
  rw [show Int32.ofInt (-1) = -1 from by decide]
  exact (Int32.sub_eq_add_neg (a := nI k) (b := nI 1)).symm ▸ rfl
theorem nat_of {x : Int32} (h : 0 ≤ x.toInt) : ∃ t : Nat, t < 2147483648 ∧ x = nI t := by
  have h1 := Int32.toInt_lt x
  exact ⟨x.toInt.toNat, by omega, nI_back (by omega) (by omega)⟩
theorem nn_big {t : Nat} (h : t < 2147483648) : nn (nI t) = t := nI_clamp h
theorem rt_no {x : Int32} {m : Nat} (h : x.toInt < 0) : rtOK x m = false := by
  unfold rtOK; exact decide_eq_false (by omega)
theorem div_pow (t a : Nat) : t / 10 ^ a / 10 = t / 10 ^ (a + 1) := by
  rw [Nat.div_div_eq_div_mul, Nat.pow_succ]
theorem rt_end {t m : Nat} (ht : t < 2147483648) : rtOK (nI t) m = decide (t / 10 ^ m = 0) := by
  unfold rtOK
  rw [nn_big ht, nI_tI ht]
  apply decide_eq_decide.mpr
  have hp : 0 < 10 ^ m := Nat.pow_pos (by decide)
  constructor
  · intro h; exact Nat.div_eq_of_lt h.2
  · intro h
    refine ⟨by omega, ?_⟩
    rcases Nat.lt_or_ge t (10 ^ m) with q | q
    · exact q
    · have := Nat.div_pos q hp; omega
/-- the walk over the first k planks: where, the first that bears too few, to which island they come -/
def flS_ (L Gr : Nat → Nat) (B : Nat → Nat → Nat) (t m n is : Nat) : Nat → Option (Nat × Option Nat × Nat)
  | 0 => some (is, none, is)
  | k + 1 => match flS_ L Gr B t m n is k with
    | none => none
    | some (h, pl, re) => if dg t m k < 6 then match nxt L Gr (dg t m k) h with
      | none => none
      | some j => match pl with
        | some q => some (j, some q, re)
        | none => if ld B (dg t m k) 0 < n then some (j, some k, re) else some (j, none, j)
      else none
def flP (o : Option Nat) : Int32 := match o with
  | none => -6
  | some k => nI k
def flR (L Gr : Nat → Nat) (B : Nat → Nat → Nat) (x1 x2 x3 x4 x5 : Int32) : Int32 := pick (inR 0 5 x1) (pick (inR 1 6 x4 && (decide (x5 = 0) || decide (x5 = 1)) && inR 0 6 x3 && rtOK x2 (nn x3)) (match flS_ L Gr B (nn x2) (nn x3) (nn x4) (nn x1) (nn x3) with
  | none => -5
  | some (_, pl, re) => if x5 = 0 then flP pl else nI re) (-2)) (-1)
theorem dg_step {t m k : Nat} (hk : k < m) : t / 10 ^ (m - (k + 1)) % 10 = dg t m k := by
  unfold dg; rw [show m - (k + 1) = m - 1 - k by omega]
theorem flP_ne {o : Option Nat} (ho : ∀ k, o = some k → k < 100) (h : ¬ flP o = -6) : ∃ k, o = some k := by
  cases o with
  | none => exact absurd rfl h
  | some k => exact ⟨k, rfl⟩
theorem flP_eq {o : Option Nat} (ho : ∀ k, o = some k → k < 100) (h : flP o = -6) : o = none := by
  cases o with
  | none => rfl
  | some k =>
    have hN : ∀ n : Nat, n < 100 → ¬ nI n = -6 := by decide
    exact absurd h (hN k (ho k rfl))
theorem fl_no {L Gr : Nat → Nat} {B : Nat → Nat → Nat} {t m n is k h re : Nat} {pl : Option Nat} (e : flS_ L Gr B t m n is k = some (h, pl, re)) (hx : dg t m k < 6 → nxt L Gr (dg t m k) h = none) : flS_ L Gr B t m n is (k + 1) = none := by
  simp only [flS_]; rw [e]; simp only []
  by_cases h6 : dg t m k < 6
  · rw [if_pos h6, hx h6]
  · rw [if_neg h6]
theorem fl_none {L Gr : Nat → Nat} {B : Nat → Nat → Nat} {t m n is k : Nat} (e : flS_ L Gr B t m n is k = none) : ∀ d, flS_ L Gr B t m n is (k + d) = none
  | 0 => e
  | d + 1 => by
    show flS_ L Gr B t m n is ((k + d) + 1) = none
    simp only [flS_]; rw [fl_none e d]
theorem fl_end {L Gr : Nat → Nat} {B : Nat → Nat → Nat} {t m n is k : Nat} (hk : k < m) (e : flS_ L Gr B t m n is (k + 1) = none) : flS_ L Gr B t m n is m = none := by
  have := fl_none e (m - (k + 1))
  rwa [show k + 1 + (m - (k + 1)) = m by omega] at this
theorem fl_some {L Gr : Nat → Nat} {B : Nat → Nat → Nat} {t m n is k h j q re : Nat} (e : flS_ L Gr B t m n is k = some (h, some q, re)) (h6 : dg t m k < 6) (hx : nxt L Gr (dg t m k) h = some j) : flS_ L Gr B t m n is (k + 1) = some (j, some q, re) := by
  simp only [flS_]; rw [e]; simp only []; rw [if_pos h6, hx]
theorem fl_fall {L Gr : Nat → Nat} {B : Nat → Nat → Nat} {t m n is k h j re : Nat} (e : flS_ L Gr B t m n is k = some (h, none, re)) (h6 : dg t m k < 6) (hx : nxt L Gr (dg t m k) h = some j) (hl : ld B (dg t m k) 0 < n) : flS_ L Gr B t m n is (k + 1) = some (j, some k, re) := by
  simp only [flS_]; rw [e]; simp only []; rw [if_pos h6, hx]; simp only []; rw [if_pos hl]
theorem fl_hold {L Gr : Nat → Nat} {B : Nat → Nat → Nat} {t m n is k h j re : Nat} (e : flS_ L Gr B t m n is k = some (h, none, re)) (h6 : dg t m k < 6) (hx : nxt L Gr (dg t m k) h = some j) (hl : n ≤ ld B (dg t m k) 0) : flS_ L Gr B t m n is (k + 1) = some (j, none, j) := by
  simp only [flS_]; rw [e]; simp only []; rw [if_pos h6, hx]; simp only []; rw [if_neg (by omega)]
theorem rt_step {t m k : Nat} (hk : k + 1 ≤ m) : nI (t / 10 ^ (m - (k + 1)) / 10) = nI (t / 10 ^ (m - k)) := by
  rw [div_pow, show m - (k + 1) + 1 = m - k by omega]
theorem rt_up {t m k : Nat} {R1 : Nat → Nat} (hR : ∀ j, k + 1 ≤ j → j < m → R1 j = dg t m j) (hk : k < m) : ∀ j, k ≤ j → j < m → va_up R1 k (t / 10 ^ (m - (k + 1)) % 10) j = dg t m j := by
  intro j h1 h2
  unfold va_up
  by_cases e : j = k
  · rw [if_pos e, e]; exact dg_step hk
  · rw [if_neg e]; exact hR j (by omega) h2
theorem nI_n6 {k : Nat} (h : k < 100) : ¬ nI k = -6 := by
  have hN : ∀ n : Nat, n < 100 → ¬ nI n = -6 := by decide
  exact hN k h
