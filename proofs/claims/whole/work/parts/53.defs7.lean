/-! The calls about ways. -/
def stR (s : Ws) (x : Int32) : Int32 := match wL s with
  | none => -6
  | some l => if 0 ≤ x.toInt ∧ x.toInt < l then nI (wB s (nn x)) else -6
theorem st_lo {s : Ws} {x : Int32} (h : x.toInt < 0) : stR s x = -6 := by
  unfold stR; split
  · rfl
  · rw [if_neg (by omega)]
theorem lnI_toInt {s : Ws} (hs : okWs s) : (lnI (wL s)).toInt = match wL s with
  | none => -6
  | some l => (l : Int) := by
  cases h : wL s with
  | none => exact neg6_toInt
  | some l => have := hs.2 l h; show (nI l).toInt = _; rw [nI_tI (by omega)]
theorem st_hi {s : Ws} {x : Int32} (hs : okWs s) (h : (lnI (wL s)).toInt ≤ x.toInt) : stR s x = -6 := by
  rw [lnI_toInt hs] at h
  unfold stR; split
  · rfl
  · next l hl => rw [hl] at h; simp only [] at h; rw [if_neg (by omega)]
theorem st_in {s : Ws} {x : Int32} (hs : okWs s) (h0 : 0 ≤ x.toInt) (h : x.toInt < (lnI (wL s)).toInt) : ∃ l j : Nat, wL s = some l ∧ j < l ∧ x = nI j := by
  rw [lnI_toInt hs] at h
  cases hl : wL s with
  | none => rw [hl] at h; simp only [] at h; omega
  | some l =>
    rw [hl] at h; simp only [] at h
    have := hs.2 l hl
    exact ⟨l, x.toInt.toNat, rfl, by omega, nI_back (by omega) (by omega)⟩
theorem st_at {s : Ws} {l j : Nat} (hl : wL s = some l) (hj : j < l) (h5 : l ≤ 5) : stR s (nI j) = nI (wB s j) := by
  unfold stR; rw [hl]; simp only []; rw [if_pos (by rw [nI_tI (by omega)]; omega), nn_nI (by omega)]
theorem vOK_f0 : vOK false 0 0 := ⟨by show -(10 * ((0 : Nat) : Int)) ≤ 0; omega, by show (0 : Int) ≤ 1000000; omega⟩
theorem vOK_t0 : vOK true 0 1000000 := ⟨by show (0 : Int) ≤ 1000000; omega, by show (1000000 : Int) ≤ 1000000; omega⟩
def spN (O T K : Nat → Nat) (fd : Nat) (B : Nat → Nat → Nat) (p : Nat) : Nat → Nat → Nat → Nat
  | 0 => B
  | n + 1 => spr O T K fd (spN O T K fd B p n) p 6
theorem spN_ok {O T K : Nat → Nat} {fd : Nat} {B : Nat → Nat → Nat} {p : Nat} (hB : okB B) (hfd : fd < 10) (hp : p < 6) : ∀ n, okB (spN O T K fd B p n)
  | 0 => hB
  | n + 1 => spr_ok (spN_ok hB hfd hp n) hfd hp 6 (by omega)
def tfO (O T K : Nat → Nat) (fd : Nat) (B : Nat → Nat → Nat) (n p : Nat) : Option Nat := if ld (spN O T K fd B p 6) p 0 < n then none else some (n - ld B p 0)
theorem tf_ok (O T K : Nat → Nat) (fd : Nat) (B : Nat → Nat → Nat) {n : Nat} (hn : n ≤ 10) : okWt (tfO O T K fd B n) := by
  intro p w hp h
  unfold tfO at h
  split at h
  · cases h
  · cases h; omega
theorem up_ltO {f g : Nat → Option Nat} {e : Nat} (h : ∀ j, j < e → f j = g j) : ∀ j, j < e + 1 → va_up f e (g e) j = g j := by
  intro j hj
  unfold va_up
  by_cases hh : j = e
  · rw [if_pos hh, hh]
  · rw [if_neg hh]; exact h j (by omega)
def chW (L Gr : Nat → Nat) (W : Nat → Option Nat) (s : Ws) (a b : Nat) : Ws := wkF L Gr W false b 5 a (2 ^ a) 0 (wT s, wB s, none, 0)
def lkW (L Gr : Nat → Nat) (W : Nat → Option Nat) (s : Ws) (a b : Nat) : Ws := wkF L Gr W true b 5 a (2 ^ a) 1000000 (wT s, wB s, none, 0)
def tlV (s : Ws) (x : Int32) : Int32 := if x = -1 then (if (wL s).isSome then Int32.ofInt (-(wV s)) else -6) else stR s x
def tlR (L Gr O T K : Nat → Nat) (fd : Nat) (B : Nat → Nat → Nat) (s : Ws) (x1 x2 x3 x4 : Int32) : Int32 := pick (inR 0 5 x1 && inR 0 5 x2) (pick (inR 1 6 x3) (tlV (wkF L Gr (tfO O T K fd B (nn x3)) false (nn x2) 5 (nn x1) (2 ^ nn x1) 0 (wT s, wB s, none, 0)) x4) (-2)) (-1)
theorem and_tt {a b : Bool} (h1 : a = true) (h2 : b = true) : (a && b) = true := by rw [h1, h2]; rfl
theorem tl_all {s : Ws} {x : Int32} (h : x = -1) (h2 : (wL s).isSome = true) : tlV s x = (-(lI (wV s))).toInt32 := by
  unfold tlV; rw [if_pos h, if_pos h2]
  show _ = (-(Int64.ofInt (wV s))).toInt32
  rw [← Int64.ofInt_neg, Int64.toInt32_ofInt]
theorem tl_no {s : Ws} {x : Int32} (h : x = -1) (h2 : (wL s).isSome = false) : tlV s x = -6 := by
  unfold tlV; rw [if_pos h, if_neg (by rw [h2]; decide)]
theorem tl_i {s : Ws} {x : Int32} (h : ¬ x = -1) : tlV s x = stR s x := by
  unfold tlV; rw [if_neg h]
def sbO (B : Nat → Nat → Nat) (n dd p : Nat) : Option Nat := if n ≤ ld B p dd then some 0 else none
theorem sb_ok (B : Nat → Nat → Nat) (n dd : Nat) : okWt (sbO B n dd) := by
  intro p w hp h
  unfold sbO at h
  split at h
  · cases h; omega
  · cases h
def sbQ (L Gr : Nat → Nat) (B : Nat → Nat → Nat) (s : Ws) (a b n dd : Nat) : Bool := (wL (wkF L Gr (sbO B n dd) false b 5 a (2 ^ a) 0 (wT s, wB s, none, 0))).isSome
def sbP (L Gr : Nat → Nat) (B : Nat → Nat → Nat) (a b n dd : Nat) : Bool := (wL (wkF L Gr (sbO B n dd) false b 5 a (2 ^ a) 0 ((fun _ => 0), (fun _ => 0), none, 0))).isSome
/-- found, and how worthy, does not hang on the rows' earlier cells -/
def simW (s t : Ws) : Prop := wL s = wL t ∧ wV s = wV t
theorem kib_sim {d : Nat} {v : Int} {s t : Ws} (h : simW s t) : simW (kib d v s) (kib d v t) := by
  obtain ⟨h1, h2⟩ := h
  unfold kib
  rw [h1, h2]
  split
  · exact ⟨rfl, rfl⟩
  · split
    · exact ⟨h1, h2⟩
    · exact ⟨rfl, rfl⟩
theorem foldT_sim {f g : Nat → Ws → Ws} (hf : ∀ p s t, simW s t → simW (f p s) (g p t)) : ∀ n s t, simW s t → simW (foldT f n s) (foldT g n t)
  | 0, _, _, h => h
  | n + 1, s, t, h => hf n _ _ (foldT_sim hf n s t h)
theorem wkF_sim {L Gr : Nat → Nat} {W : Nat → Option Nat} {lk : Bool} {go : Nat} : ∀ k is sn v s t, simW s t → simW (wkF L Gr W lk go k is sn v s) (wkF L Gr W lk go k is sn v t)
  | 0, is, sn, v, s, t, h => by
    simp only [wkF]; split
    · exact kib_sim h
    · exact h
  | k + 1, is, sn, v, s, t, h => by
    simp only [wkF]; split
    · exact kib_sim h
    · refine foldT_sim (fun p s t h => ?_) 6 s t h
      unfold trS
      split
      · split
        · exact h
        · exact wkF_sim k _ _ _ _ _ h
      · exact h
theorem sbQ_P {L Gr : Nat → Nat} {B : Nat → Nat → Nat} {s : Ws} {a b n dd : Nat} : sbQ L Gr B s a b n dd = sbP L Gr B a b n dd := by
  unfold sbQ sbP
  rw [(wkF_sim 5 a (2 ^ a) 0 (wT s, wB s, none, 0) ((fun _ => 0), (fun _ => 0), none, 0) ⟨rfl, rfl⟩).1]
theorem sb_next {L Gr : Nat → Nat} {B : Nat → Nat → Nat} {a b n i : Nat} (hq : ∀ j, j < i → sbP L Gr B a b n j = true) (h : sbP L Gr B a b n i = true) : ∀ j, j < i + 1 → sbP L Gr B a b n j = true := by
  intro j hj
  by_cases e : j = i
  · rw [e]; exact h
  · exact hq j (by omega)
def sdV (L Gr : Nat → Nat) (B : Nat → Nat → Nat) (a b n : Nat) : Nat := match firstB (fun i => !sbP L Gr B a b n i) 9 with
  | some i => i
  | none => 9
theorem sd_full {L Gr : Nat → Nat} {B : Nat → Nat → Nat} {a b n i : Nat} (hq : ∀ j, j < i → sbP L Gr B a b n j = true) (hi : i = 9) : nI (sdV L Gr B a b n) = nI i := by
  unfold sdV; rw [firstB_none (fun j hj => by rw [hq j (by omega)]; rfl), hi]
theorem sd_stop {L Gr : Nat → Nat} {B : Nat → Nat → Nat} {a b n i : Nat} (hq : ∀ j, j < i → sbP L Gr B a b n j = true) (hi : i < 9) (h : sbP L Gr B a b n i = false) : nI (sdV L Gr B a b n) = nI i := by
  unfold sdV; rw [firstB_some (i := i) (by rw [h]; rfl) (fun j hj => by rw [hq j hj]; rfl) hi]
def sdR (L Gr : Nat → Nat) (B : Nat → Nat → Nat) (x1 x2 x3 : Int32) : Int32 := pick (inR 0 5 x1 && inR 0 5 x2) (pick (inR 1 6 x3) (if x1 = x2 then -6 else nI (sdV L Gr B (nn x1) (nn x2) (nn x3))) (-2)) (-1)
def okS (S : Nat → Nat) : Prop := ∀ p, p < 6 → S p ≤ 10
theorem sS_ok {S : Nat → Nat} (h : okS S) : okWt (fun p => some (S p)) := fun p w hp e => by cases e; exact h p hp
def sfR (L Gr S : Nat → Nat) (s : Ws) (x1 x2 x3 : Int32) : Int32 := pick (inR 0 5 x1 && inR 0 5 x2) (stR (wkF L Gr (fun p => some (S p)) true (nn x2) 5 (nn x1) (2 ^ nn x1) 1000000 (wT s, wB s, none, 0)) x3) (-1)
