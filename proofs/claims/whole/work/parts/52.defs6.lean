/-! Ways: the class's search. -/
def lI (v : Int) : Int64 := Int64.ofInt v
theorem lI_sub (a b : Int) : lI a - lI b = lI (a - b) := (Int64.ofInt_sub a b).symm
theorem lI_mul (a b : Int) : lI a * lI b = lI (a * b) := (Int64.ofInt_mul a b).symm
theorem lI_toInt {v : Int} (h1 : -4000000000000000000 ≤ v) (h2 : v ≤ 4000000000000000000) : (lI v).toInt = v := Int64.toInt_ofInt_of_le (by omega) (by omega)
theorem lI_of_nI {n : Nat} (h : n < 2147483648) : (nI n).toInt64 = lI (n : Int) := by
  rw [← Int64.ofInt_int32ToInt, nI_tI h]; rfl
theorem lI_div10 {v : Int} (h0 : 0 ≤ v) (h1 : v ≤ 1000000000) : lI v / lI 10 = lI (v / 10) := by
  apply Int64.toInt_inj.mp
  rw [Int64.toInt_div_of_ne_right _ _ (by decide), lI_toInt (by omega) (by omega), lI_toInt (by omega) (by omega), lI_toInt (by omega) (by omega)]
  exact Int.tdiv_eq_ediv_of_nonneg h0
theorem lI_lt {a b : Int} (ha : -4000000000000000000 ≤ a ∧ a ≤ 4000000000000000000) (hb : -4000000000000000000 ≤ b ∧ b ≤ 4000000000000000000) : (lg_cmp (lI a) (lI b)).toInt < 0 ↔ a < b := by
  have h := lg_cmp_lt (lI a) (lI b)
  rw [Int32.lt_iff_toInt_lt, Int64.lt_iff_toInt_lt, lI_toInt ha.1 ha.2, lI_toInt hb.1 hb.2] at h
  exact h
theorem lI_eq {a b : Int} (ha : -4000000000000000000 ≤ a ∧ a ≤ 4000000000000000000) (hb : -4000000000000000000 ≤ b ∧ b ≤ 4000000000000000000) : lg_cmp (lI a) (lI b) = 0 ↔ a = b := by
  have h1 := lg_cmp_le (lI a) (lI b)
  have h2 := lg_cmp_ge (lI a) (lI b)
  rw [Int32.le_iff_toInt_le, Int64.le_iff_toInt_le, lI_toInt ha.1 ha.2, lI_toInt hb.1 hb.2] at h1 h2
  have z : (0 : Int32).toInt = 0 := by decide
  constructor
  · intro e
    rw [e, z] at h1 h2
    have := h1.mp (by omega)
    have := h2.mp (by omega)
    omega
  · intro e
    apply Int32.toInt_inj.mp
    have := h1.mpr (by omega)
    have := h2.mpr (by omega)
    omega
def wI : Option Nat → Int32
  | none => -1
  | some w => nI w
def rW (W : Nat → Option Nat) : Nat → Int32 := fun i => wI (W i)
theorem rW_upd (W : Nat → Option Nat) (i : Nat) (w : Option Nat) : upd (rW W) i (wI w) = rW (va_up W i w) := by
  funext j
  by_cases h : j = i
  · subst h; simp [rW, upd, va_up]
  · simp [rW, upd, va_up, h]
def lnI : Option Nat → Int32
  | none => -6
  | some l => nI l
abbrev Ws : Type := (Nat → Nat) × (Nat → Nat) × Option Nat × Int
def wT (s : Ws) : Nat → Nat := s.1
def wB (s : Ws) : Nat → Nat := s.2.1
def wL (s : Ws) : Option Nat := s.2.2.1
def wV (s : Ws) : Int := s.2.2.2
def putT (s : Ws) (d p : Nat) : Ws := (va_up (wT s) d p, wB s, wL s, wV s)
def kib (d : Nat) (v : Int) (s : Ws) : Ws := match wL s with
  | none => (wT s, wT s, some d, v)
  | some l => if v < wV s ∨ (v = wV s ∧ l ≤ d) then s else (wT s, wT s, some d, v)
def okWs (s : Ws) : Prop := (-1000 ≤ wV s ∧ wV s ≤ 1000000) ∧ ∀ l, wL s = some l → l ≤ 5
def vOK (lk : Bool) (d : Nat) (v : Int) : Prop := ((if lk then 0 else -(10 * (d : Int))) ≤ v) ∧ v ≤ 1000000
def fur (lk : Bool) (v : Int) (w : Nat) : Int := if lk then v * w / 10 else v - w
theorem vOK_step {lk : Bool} {d w : Nat} {v : Int} (h : vOK lk d v) (hw : w ≤ 10) : vOK lk (d + 1) (fur lk v w) := by
  unfold vOK fur at *
  cases lk
  · simp only [Bool.false_eq_true, if_false] at *
    constructor <;> omega
  · simp only [if_true] at *
    obtain ⟨h1, h2⟩ := h
    have h3 : v * (w : Int) ≤ v * 10 := Int.mul_le_mul_of_nonneg_left (by omega) h1
    have h4 : 0 ≤ v * (w : Int) := Int.mul_nonneg h1 (by omega)
    constructor
    · omega
    · omega
theorem kib_ok {d : Nat} {v : Int} {s : Ws} (hs : okWs s) (hd : d ≤ 5) (hv : -1000 ≤ v ∧ v ≤ 1000000) : okWs (kib d v s) := by
  unfold kib
  split
  · exact ⟨hv, fun l hl => by cases hl; exact hd⟩
  · split
    · exact hs
    · exact ⟨hv, fun l hl => by cases hl; exact hd⟩
def foldT (f : Nat → Ws → Ws) : Nat → Ws → Ws
  | 0, s => s
  | n + 1, s => f n (foldT f n s)
def trS (L Gr : Nat → Nat) (W : Nat → Option Nat) (lk : Bool) (k is sn : Nat) (v : Int) (wk : Nat → Nat → Int → Ws → Ws) (p : Nat) (s : Ws) : Ws := match nxt L Gr p is, W p with
  | some j, some w => if sn.testBit j then s else wk j (setb sn j true) (fur lk v w) (putT s (4 - k) p)
  | _, _ => s
def wkF (L Gr : Nat → Nat) (W : Nat → Option Nat) (lk : Bool) (go : Nat) : Nat → Nat → Nat → Int → Ws → Ws
  | 0 => fun is _ v s => if is = go then kib 5 v s else s
  | k + 1 => fun is sn v s => if is = go then kib (4 - k) v s else foldT (trS L Gr W lk k is sn v (wkF L Gr W lk go k)) 6 s
def okWt (W : Nat → Option Nat) : Prop := ∀ p w, p < 6 → W p = some w → w ≤ 10
theorem foldT_ok {f : Nat → Ws → Ws} (hf : ∀ p s, p < 6 → okWs s → okWs (f p s)) : ∀ n, n ≤ 6 → ∀ s, okWs s → okWs (foldT f n s)
  | 0, _, s, h => h
  | n + 1, hn, s, h => hf n _ (by omega) (foldT_ok hf n (by omega) s h)
theorem nxt_lt {L Gr : Nat → Nat} {p i j : Nat} (hL : okP L) (hG : okP Gr) (hp : p < 6) (h : nxt L Gr p i = some j) : j < 6 := by
  unfold nxt at h
  split at h
  · cases h; exact hG p hp
  · split at h
    · cases h; exact hL p hp
    · cases h
theorem vOK_b {lk : Bool} {d : Nat} {v : Int} (hd : d ≤ 5) (h : vOK lk d v) : -1000 ≤ v ∧ v ≤ 1000000 := by
  unfold vOK at h; cases lk
  · simp only [Bool.false_eq_true, if_false] at h; omega
  · simp only [if_true] at h; omega
theorem wkF_ok {L Gr : Nat → Nat} {W : Nat → Option Nat} {lk : Bool} {go : Nat} (hW : okWt W) : ∀ k, k ≤ 5 → ∀ is sn v s, vOK lk (5 - k) v → okWs s → okWs (wkF L Gr W lk go k is sn v s)
  | 0, _, is, sn, v, s, hv, hs => by
    simp only [wkF]; split
    · exact kib_ok hs (by omega) (vOK_b (by omega) hv)
    · exact hs
  | k + 1, hk, is, sn, v, s, hv, hs => by
    simp only [wkF]; split
    · exact kib_ok hs (by omega) (vOK_b (by omega) hv)
    · refine foldT_ok (fun p s hp hs => ?_) 6 (by omega) s hs
      unfold trS
      split
      · next j w h1 h2 =>
        split
        · exact hs
        · refine wkF_ok hW k (by omega) _ _ _ _ ?_ ?_
          · have := vOK_step hv (hW p w hp h2)
            rw [show 5 - k = 5 - (k + 1) + 1 by omega]; exact this
          · exact hs
      · exact hs
theorem lnI_none {o : Option Nat} (h : ∀ l, o = some l → l ≤ 5) : (lnI o = -6 ↔ o = none) := by
  cases o with
  | none => exact ⟨fun _ => rfl, fun _ => rfl⟩
  | some l =>
    have hl := h l rfl
    have hN : ∀ n : Nat, n ≤ 5 → ¬ nI n = -6 := by decide
    exact ⟨fun e => absurd e (hN l hl), fun e => by cases e⟩
theorem kib_new {d : Nat} {v : Int} {s : Ws} (h : wL s = none) : kib d v s = (wT s, wT s, some d, v) := by unfold kib; rw [h]
theorem kib_keep {d l : Nat} {v : Int} {s : Ws} (h : wL s = some l) (h2 : v < wV s ∨ (v = wV s ∧ l ≤ d)) : kib d v s = s := by unfold kib; rw [h]; simp only []; rw [if_pos h2]
theorem kib_put {d l : Nat} {v : Int} {s : Ws} (h : wL s = some l) (h2 : ¬ (v < wV s ∨ (v = wV s ∧ l ≤ d))) : kib d v s = (wT s, wT s, some d, v) := by unfold kib; rw [h]; simp only []; rw [if_neg h2]
theorem isSome_of {o : Option Nat} (h : o.isSome = true) : ∃ l, o = some l := by
  cases o with
  | none => cases h
  | some l => exact ⟨l, rfl⟩
theorem isSome_no {o : Option Nat} (h : o.isSome = false) : o = none := by
  cases o with
  | none => rfl
  | some l => cases h
theorem wI_none {o : Option Nat} (h : ∀ w, o = some w → w ≤ 10) : (wI o = -1 ↔ o = none) := by
  cases o with
  | none => exact ⟨fun _ => rfl, fun _ => rfl⟩
  | some l =>
    have hl := h l rfl
    have hN : ∀ n : Nat, n ≤ 10 → ¬ nI n = -1 := by decide
    exact ⟨fun e => absurd e (hN l hl), fun e => by cases e⟩
theorem trS_none1 {L Gr : Nat → Nat} {W : Nat → Option Nat} {lk : Bool} {k is sn : Nat} {v : Int} {wk : Nat → Nat → Int → Ws → Ws} {p : Nat} {s : Ws} (h : nxt L Gr p is = none) : trS L Gr W lk k is sn v wk p s = s := by
  unfold trS; rw [h]
theorem trS_none2 {L Gr : Nat → Nat} {W : Nat → Option Nat} {lk : Bool} {k is sn : Nat} {v : Int} {wk : Nat → Nat → Int → Ws → Ws} {p : Nat} {s : Ws} (h : W p = none) : trS L Gr W lk k is sn v wk p s = s := by
  unfold trS; rw [h]; cases nxt L Gr p is <;> rfl
theorem trS_seen {L Gr : Nat → Nat} {W : Nat → Option Nat} {lk : Bool} {k is sn j w : Nat} {v : Int} {wk : Nat → Nat → Int → Ws → Ws} {p : Nat} {s : Ws} (h : nxt L Gr p is = some j) (h2 : W p = some w) (h3 : sn.testBit j = true) : trS L Gr W lk k is sn v wk p s = s := by
  unfold trS; rw [h, h2]; simp only []; rw [if_pos h3]
theorem trS_go {L Gr : Nat → Nat} {W : Nat → Option Nat} {lk : Bool} {k is sn j w : Nat} {v : Int} {wk : Nat → Nat → Int → Ws → Ws} {p : Nat} {s : Ws} (h : nxt L Gr p is = some j) (h2 : W p = some w) (h3 : sn.testBit j = false) : trS L Gr W lk k is sn v wk p s = wk j (setb sn j true) (fur lk v w) (putT s (4 - k) p) := by
  unfold trS; rw [h, h2]; simp only []; rw [if_neg (by rw [h3]; decide)]
theorem putT_ok {s : Ws} {d p : Nat} (h : okWs s) : okWs (putT s d p) := h
theorem fur_t {lk : Bool} {d w : Nat} {v : Int} (h : vOK lk d v) (hl : lk = true) (hw : w ≤ 10) : lI v * (nI w).toInt64 / 10 = lI (fur lk v w) := by
  subst hl
  have h1 : (0 : Int) ≤ v := h.1
  have h3 : v * (w : Int) ≤ v * 10 := Int.mul_le_mul_of_nonneg_left (by omega) h1
  have h4 : 0 ≤ v * (w : Int) := Int.mul_nonneg h1 (by omega)
  have h5 := h.2
  rw [lI_of_nI (by omega), lI_mul]
  exact lI_div10 h4 (by omega)
theorem fur_f {lk : Bool} {w : Nat} {v : Int} (hl : lk = false) (hw : w ≤ 10) : lI v - (nI w).toInt64 = lI (fur lk v w) := by
  subst hl
  rw [lI_of_nI (by omega), lI_sub]; rfl
theorem trS_ok {L Gr : Nat → Nat} {W : Nat → Option Nat} {lk : Bool} {k is sn go p : Nat} {v : Int} {s : Ws} (hW : okWt W) (hk : k ≤ 4) (hv : vOK lk (4 - k) v) (hp : p < 6) (hs : okWs s) : okWs (trS L Gr W lk k is sn v (wkF L Gr W lk go k) p s) := by
  unfold trS
  split
  · next j w h1 h2 =>
    split
    · exact hs
    · refine wkF_ok hW k (by omega) _ _ _ _ ?_ hs
      have := vOK_step hv (hW p w hp h2)
      rw [show 5 - k = 4 - k + 1 by omega]; exact this
  · exact hs
