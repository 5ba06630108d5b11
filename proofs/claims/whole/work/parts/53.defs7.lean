/-! The calls about ways. -/
def stR (s : Ws) (x : Int32) : Int32 := match wL s with
  | none => -6
  | some l => if 0 ≤ x.toInt ∧ x.toInt < l then nI (wB s (nn x)) else -6
theorem st_lo {s : Ws} {x : Int32} (h : x.toInt < 0) : stR s x = -6 := by
  unfold stR; split
  · rfl
  · rw [if_neg (by omega)]
theorem lnI_toInt {s : Ws} (hs : okWs s) : (lnI (wL s)).toInt = match wL s with
  | none => -6
  | some l => (l : Int) := by
  cases h : wL s with
  | none => exact neg6_toInt
  | some l => have := hs.2 l h; show (nI l).toInt = _; rw [nI_tI (by omega)]
theorem st_hi {s : Ws} {x : Int32} (hs : okWs s) (h : (lnI (wL s)).toInt ≤ x.toInt) : stR s x = -6 := by
  rw [lnI_toInt hs] at h
  unfold stR; split
  · rfl
  · next l hl => rw [hl] at h; simp only [] at h; rw [if_neg (by omega)]
theorem st_in {s : Ws} {x : Int32} (hs : okWs s) (h0 : 0 ≤ x.toInt) (h : x.toInt < (lnI (wL s)).toInt) : ∃ l j : Nat, wL s = some l ∧ j < l ∧ x = nI j := by
  rw [lnI_toInt hs] at h
  cases hl : wL s with
  | none => rw [hl] at h; simp only [] at h; omega
  | some l =>
    rw [hl] at h; simp only [] at h
    have := hs.2 l hl
    exact ⟨l, x.toInt.toNat, rfl, by omega, nI_back (by omega) (by omega)⟩
theorem st_at {s : Ws} {l j : Nat} (hl : wL s = some l) (hj : j < l) (h5 : l ≤ 5) : stR s (nI j) = nI (wB s j) := by
  unfold stR; rw [hl]; simp only []; rw [if_pos (by rw [nI_tI (by omega)]; omega), nn_nI (by omega)]
theorem vOK_f0 : vOK false 0 0 := ⟨by show -(10 * ((0 : Nat) : Int)) ≤ 0; omega, by show (0 : Int) ≤ 1000000; omega⟩
theorem vOK_t0 : vOK true 0 1000000 := ⟨by show (0 : Int) ≤ 1000000; omega, by show (1000000 : Int) ≤ 1000000; omega⟩
def spN (O T K : Nat → Nat) (fd : Nat) (B : Nat → Nat → Nat) (p : Nat) : Nat → Nat → Nat → Nat
  | 0 => B
  | n + 1 => spr O T K fd (spN O T K fd B p n) p 6
theorem spN_ok {O T K : Nat → Nat} {fd : Nat} {B : Nat → Nat → Nat} {p : Nat} (hB : okB B) (hfd : fd < 10) (hp : p < 6) : ∀ n, okB (spN O T K fd B p n)
  | 0 => hB
  | n + 1 => spr_ok (spN_ok hB hfd hp n) hfd hp 6 (by omega)
def tfO (O T K : Nat → Nat) (fd : Nat) (B : Nat → Nat → Nat) (n p : Nat) : Option Nat := if ld (spN O T K fd B p 6) p 0 < n then none else some (n - ld B p 0)
theorem tf_ok (O T K : Nat → Nat) (fd : Nat) (B : Nat → Nat → Nat) {n : Nat} (hn : n ≤ 10) : okWt (tfO O T K fd B n) := by
  intro p w hp h
  unfold tfO at h
  split at h
  · cases h
  · cases h; omega
theorem up_ltO {f g : Nat → Option Nat} {e : Nat} (h : ∀ j, j < e → f j = g j) : ∀ j, j < e + 1 → va_up f e (g e) j = g j := by
  intro j hj
  unfold va_up
  by_cases hh : j = e
  · rw [if_pos hh, hh]
  · rw [if_neg hh]; exact h j (by omega)
def chW (L Gr : Nat → Nat) (W : Nat → Option Nat) (s : Ws) (a b : Nat) : Ws := wkF L Gr W false b 5 a (2 ^ a) 0 (wT s, wB s, none, 0)
def lkW (L Gr : Nat → Nat) (W : Nat → Option Nat) (s : Ws) (a b : Nat) : Ws := wkF L Gr W true b 5 a (2 ^ a) 1000000 (wT s, wB s, none, 0)
def tlV (s : Ws) (x : Int32) : Int32 := if x = -1 then (if (wL s).isSome then Int32.ofInt (-(wV s)) else -6) else stR s x
def tlR (L Gr O T K : Nat → Nat) (fd : Nat) (B : Nat → Nat → Nat) (s : Ws) (x1 x2 x3 x4 : Int32) : Int32 := pick (inR 0 5 x1 && inR 0 5 x2) (pick (inR 1 6 x3) (tlV (wkF L Gr (tfO O T K fd B (nn x3)) false (nn x2) 5 (nn x1) (2 ^ nn x1) 0 (wT s, wB s, none, 0)) x4) (-2)) (-1)
theorem and_tt {a b : Bool} (h1 : a = true) (h2 : b = true) : (a && b) = true := by rw [h1, h2]; rfl
theorem tl_all {s : Ws} {x : Int32} (h : x = -1) (h2 : (wL s).isSome = true) : tlV s x = (-(lI (wV s))).toInt32 := by
  unfold tlV; rw [if_pos h, if_pos h2]
  show _ = (-(Int64.ofInt (wV s))).toInt32
  rw [← Int64.ofInt_neg, Int64.toInt32_ofInt]
theorem tl_no {s : Ws} {x : Int32} (h : x = -1) (h2 : (wL s).isSome = false) : tlV s x = -6 := by
  unfold tlV; rw [if_pos h, if_neg (by rw [h2]; decide)]
theorem tl_i {s : Ws} {x : Int32} (h : ¬ x = -1) : tlV s x = stR s x := by
  unfold tlV; rw [if_neg h]
