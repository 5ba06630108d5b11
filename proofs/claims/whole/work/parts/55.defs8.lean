/-! The chance in lowest terms, as the class finds it. -/
theorem sd_0 {a b : Nat} (ha : a ≤ 1000000) (hb : b ≤ a) : a * b * 2 ^ 0 ≤ 1000000000000 := by
  have h : a * b ≤ 1000000 * 1000000 := Nat.mul_le_mul ha (by omega)
  omega
theorem sd_m {x y t : Nat} (h : y ≤ x) (h0 : 0 < y) (hm : x * y * 2 ^ t ≤ 1000000000000) : y * (x % y) * 2 ^ (t + 1) ≤ 1000000000000 := by
  have h1 : x % y < y := Nat.mod_lt x h0
  have h2 : y * (x / y) + x % y = x := Nat.div_add_mod x y
  have h3 : 1 ≤ x / y := Nat.div_pos h h0
  have h4 : y * 1 ≤ y * (x / y) := Nat.mul_le_mul_left y h3
  have h5 : 2 * (x % y) ≤ x := by omega
  have h6 : y * (2 * (x % y)) * 2 ^ t ≤ x * y * 2 ^ t := by
    rw [Nat.mul_comm x y]
    exact Nat.mul_le_mul_right _ (Nat.mul_le_mul_left y h5)
  have h7 : y * (x % y) * 2 ^ (t + 1) = y * (2 * (x % y)) * 2 ^ t := by
    rw [Nat.pow_succ, Nat.mul_comm (2 ^ t) 2, ← Nat.mul_assoc, Nat.mul_assoc y (x % y) 2, Nat.mul_comm (x % y) 2]
  omega
theorem sd_g (x y : Nat) : Nat.gcd y (x % y) = Nat.gcd x y := by
  rw [Nat.gcd_comm y, ← Nat.gcd_rec y x, Nat.gcd_comm]
theorem sd_100 {x y : Nat} (h0 : 0 < x) (hm : x * y * 2 ^ 100 ≤ 1000000000000) : y = 0 := by
  rcases Nat.eq_zero_or_pos y with h | h
  · exact h
  · have h1 : 1 ≤ x * y := Nat.mul_pos h0 h
    have h2 : 1 * 2 ^ 100 ≤ x * y * 2 ^ 100 := Nat.mul_le_mul_right _ h1
    have h3 : (1000000000000 : Nat) < 1 * 2 ^ 100 := by decide
    omega
theorem lI_0 : lI 0 = 0 := rfl
theorem sd_z {y : Nat} (hy : y ≤ 1000000) (h : lg_cmp (lI (y : Int)) 0 = 0) : y = 0 := by
  have := (lI_eq (a := (y : Int)) (b := 0) (by omega) (by omega)).mp h
  omega
theorem sd_nz {y : Nat} (hy : y ≤ 1000000) (h : ¬ lg_cmp (lI (y : Int)) 0 = 0) : 0 < y := by
  rcases Nat.eq_zero_or_pos y with e | e
  · exact absurd ((lI_eq (a := (y : Int)) (b := 0) (by omega) (by omega)).mpr (by omega)) h
  · exact e
theorem sd_ne {y : Nat} (hy : y ≤ 1000000) (h : 0 < y) : ¬ lI (y : Int) = 0 := fun e => by
  have h1 := congrArg Int64.toInt e
  rw [lI_toInt (by omega) (by omega)] at h1
  have h2 : (0 : Int64).toInt = 0 := by decide
  omega
theorem lI_div {x y : Nat} (hx : x ≤ 1000000) (hy : y ≤ 1000000) (h : 0 < y) : lI (x : Int) / lI (y : Int) = lI ((x / y : Nat) : Int) := by
  apply Int64.toInt_inj.mp
  have hd : x / y ≤ x := Nat.div_le_self x y
  have hn : lI (y : Int) ≠ -1 := fun e => by
    have h1 := congrArg Int64.toInt e
    rw [lI_toInt (by omega) (by omega)] at h1
    have h2 : (-1 : Int64).toInt = -1 := by decide
    omega
  have e := (Int.natCast_ediv x y).symm
  generalize x / y = q at hd e ⊢
  rw [Int64.toInt_div_of_ne_right _ _ hn, lI_toInt (by omega) (by omega), lI_toInt (by omega) (by omega), lI_toInt (by omega) (by omega), Int.tdiv_eq_ediv_of_nonneg (by omega)]
  exact e
theorem sd_rem {x y : Nat} (hx : x ≤ 1000000) (hy : y ≤ 1000000) (h : 0 < y) : lI (x : Int) - lI (x : Int) / lI (y : Int) * lI (y : Int) = lI ((x % y : Nat) : Int) := by
  rw [lI_div hx hy h, lI_mul, lI_sub]
  have h2 : y * (x / y) + x % y = x := Nat.div_add_mod x y
  have h3 : ((x / y : Nat) : Int) * (y : Int) = ((y * (x / y) : Nat) : Int) := by rw [Int.natCast_mul, Int.mul_comm]
  rw [h3]
  congr 1
  omega
theorem kib_nn {d : Nat} {v : Int} {s : Ws} (hs : 0 ≤ wV s) (hv : 0 ≤ v) : 0 ≤ wV (kib d v s) := by
  unfold kib
  split
  · exact hv
  · split
    · exact hs
    · exact hv
theorem foldT_nn {f : Nat → Ws → Ws} (hf : ∀ p s, p < 6 → 0 ≤ wV s → 0 ≤ wV (f p s)) : ∀ n, n ≤ 6 → ∀ s, 0 ≤ wV s → 0 ≤ wV (foldT f n s)
  | 0, _, s, h => h
  | n + 1, hn, s, h => hf n _ (by omega) (foldT_nn hf n (by omega) s h)
theorem wkF_nn {L Gr : Nat → Nat} {W : Nat → Option Nat} {go : Nat} (hW : okWt W) : ∀ k, k ≤ 5 → ∀ is sn v s, vOK true (5 - k) v → 0 ≤ wV s → 0 ≤ wV (wkF L Gr W true go k is sn v s)
  | 0, _, is, sn, v, s, hv, hs => by
    simp only [wkF]; split
    · exact kib_nn hs hv.1
    · exact hs
  | k + 1, hk, is, sn, v, s, hv, hs => by
    simp only [wkF]; split
    · exact kib_nn hs hv.1
    · refine foldT_nn (fun p s hp hs => ?_) 6 (by omega) s hs
      unfold trS
      split
      · next j w h1 h2 =>
        split
        · exact hs
        · refine wkF_nn hW k (by omega) _ _ _ _ ?_ hs
          have := vOK_step hv (hW p w hp h2)
          rw [show 5 - k = 5 - (k + 1) + 1 by omega]; exact this
      · exact hs
def upR (s : Ws) : Nat := if (wL s).isSome then (wV s).toNat else 0
def caR (L Gr S : Nat → Nat) (s : Ws) (x1 x2 x3 : Int32) : Int64 := if (inR 0 5 x1 && inR 0 5 x2) = true then (if (decide (x3 = 0) || decide (x3 = 1)) = true then
  (if x3 = 0 then lI ((upR (wkF L Gr (fun p => some (S p)) true (nn x2) 5 (nn x1) (2 ^ nn x1) 1000000 (wT s, wB s, none, 0)) / Nat.gcd 1000000 (upR (wkF L Gr (fun p => some (S p)) true (nn x2) 5 (nn x1) (2 ^ nn x1) 1000000 (wT s, wB s, none, 0))) : Nat) : Int)
   else lI ((1000000 / Nat.gcd 1000000 (upR (wkF L Gr (fun p => some (S p)) true (nn x2) 5 (nn x1) (2 ^ nn x1) 1000000 (wT s, wB s, none, 0))) : Nat) : Int)) else -1000000000000000002) else -1000000000000000001
theorem ca_u {s : Ws} (hs : okWs s) (hn : 0 ≤ wV s) : ∃ u : Nat, upR s = u ∧ u ≤ 1000000 := by
  refine ⟨upR s, rfl, ?_⟩
  unfold upR
  have := hs.1
  split <;> omega
theorem ca_no {s : Ws} {u : Nat} (h : upR s = u) (h2 : (wL s).isSome = false) : u = 0 := by
  unfold upR at h; rw [if_neg (by rw [h2]; decide)] at h; exact h.symm
theorem ca_yes {s : Ws} {u : Nat} (hn : 0 ≤ wV s) (h : upR s = u) (h2 : (wL s).isSome = true) : wV s = (u : Int) := by
  unfold upR at h; rw [if_pos h2] at h; omega
theorem ca_pos {g : Nat} (h0 : 0 < g) (h1 : g ≤ 1000000) (h : (lg_cmp (lI (g : Int)) 0).toInt ≤ 0) : False := by
  have h2 := lg_cmp_le (lI (g : Int)) 0
  rw [Int32.le_iff_toInt_le, Int64.le_iff_toInt_le, lI_toInt (by omega) (by omega)] at h2
  have z : (0 : Int32).toInt = 0 := by decide
  have z2 : (0 : Int64).toInt = 0 := by decide
  have := h2.mp (by omega)
  omega
theorem ca_d1 {u g : Nat} (h0 : 0 < g) (h1 : g ≤ 1000000) (hu : u ≤ 1000000) : lI ((u / g : Nat) : Int) = lI (u : Int) / lI (g : Int) := (lI_div hu h1 h0).symm
theorem lI_M : (1000000 : Int64) = lI 1000000 := by decide
theorem ca_d2 {g : Nat} (h0 : 0 < g) (h1 : g ≤ 1000000) : lI ((1000000 / g : Nat) : Int) = 1000000 / lI (g : Int) := by
  rw [lI_M]; exact (lI_div (x := 1000000) (by omega) h1 h0).symm
