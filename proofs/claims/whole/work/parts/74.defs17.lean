/-! The class's search keeps the best of the simple ways; so of all ways. -/
abbrev Cd : Type := Nat → Nat → Int → Prop
def BestOf (s : Ws) (S : Cd) : Prop :=
  (wL s = none → ∀ m c v, ¬ S m c v) ∧ (∀ l, wL s = some l → ∃ c, c < 6 ^ l ∧ S l c (wV s) ∧ (∀ j, j < l → wB s j = dgt c (l - 1 - j)) ∧ ∀ m c' v, S m c' v → v < wV s ∨ (v = wV s ∧ (l < m ∨ (l = m ∧ c ≤ c'))))
theorem BestOf_congr {s : Ws} {S S' : Cd} (h : ∀ m c v, S m c v ↔ S' m c v) (hb : BestOf s S) : BestOf s S' :=
  ⟨fun e m c v q => hb.1 e m c v ((h m c v).mpr q), fun l e => by
    obtain ⟨c, h1, h2, h3, h4⟩ := hb.2 l e
    exact ⟨c, h1, (h _ _ _).mp h2, h3, fun m c' v q => h4 m c' v ((h _ _ _).mpr q)⟩⟩
theorem kib_best {s : Ws} {S : Cd} {d cp : Nat} {v : Int} (hb : BestOf s S) (hcp : cp < 6 ^ d) (ht : ∀ j, j < d → wT s j = dgt cp (d - 1 - j)) (hS : ∀ c u, S d c u → c < cp) : BestOf (kib d v s) (fun m c u => S m c u ∨ (m = d ∧ c = cp ∧ u = v)) := by
  have hput : (∀ m c u, S m c u → u < v ∨ (u = v ∧ d < m) ∨ (u = v ∧ d = m ∧ cp ≤ c)) → BestOf ((wT s, wT s, some d, v) : Ws) (fun m c u => S m c u ∨ (m = d ∧ c = cp ∧ u = v)) := by
    intro h
    refine ⟨(fun e => by cases e), fun l e => ?_⟩
    have e2 : d = l := Option.some.inj e
    subst e2
    refine ⟨cp, hcp, Or.inr ⟨rfl, rfl, rfl⟩, ht, fun m c' u q => ?_⟩
    show u < v ∨ (u = v ∧ (d < m ∨ (d = m ∧ cp ≤ c')))
    rcases q with q | ⟨q1, q2, q3⟩
    · rcases h m c' u q with z | z | z
      · exact Or.inl z
      · exact Or.inr ⟨z.1, Or.inl z.2⟩
      · exact Or.inr ⟨z.1, Or.inr z.2⟩
    · exact Or.inr ⟨q3, Or.inr ⟨q1.symm, by omega⟩⟩
  unfold kib
  cases hl : wL s with
  | none => exact hput (fun m c u q => absurd q (hb.1 hl m c u))
  | some l =>
    obtain ⟨c0, h1, h2, h3, h4⟩ := hb.2 l hl
    simp only []
    by_cases hc : v < wV s ∨ (v = wV s ∧ l ≤ d)
    · rw [if_pos hc]
      refine ⟨(fun e => by rw [hl] at e; cases e), fun l' e => ?_⟩
      rw [hl] at e
      cases e
      refine ⟨c0, h1, Or.inl h2, h3, fun m c' u q => ?_⟩
      rcases q with q | ⟨q1, q2, q3⟩
      · exact h4 m c' u q
      · subst q1 q2 q3
        rcases hc with z | ⟨z1, z2⟩
        · exact Or.inl z
        · refine Or.inr ⟨z1, ?_⟩
          by_cases e : l = m
          · subst e; have := hS _ _ h2; exact Or.inr ⟨rfl, by omega⟩
          · exact Or.inl (by omega)
    · rw [if_neg hc]
      refine hput (fun m c u q => ?_)
      have h5 := h4 m c u q
      by_cases e : v = wV s
      · rcases h5 with z | ⟨z1, z2⟩
        · exact Or.inl (by omega)
        · exact Or.inr (Or.inl ⟨by omega, by omega⟩)
      · exact Or.inl (by omega)
theorem setb_up (sn j : Nat) : (fun i => (setb sn j true).testBit i) = upS (fun i => sn.testBit i) j := by
  funext i
  unfold upS setb
  rw [if_pos rfl, Nat.testBit_or, Nat.testBit_two_pow]
  by_cases h : i = j
  · rw [if_pos h, decide_eq_true h.symm, Bool.or_true]
  · rw [if_neg h, decide_eq_false (fun e => h e.symm), Bool.or_false]
section
variable {L Gr : Nat → Nat} {W : Nat → Option Nat} {lk : Bool} {go : Nat}
/-- what a search from island is, behind the prefix cp of d planks, adds -/
def Sxs (L Gr : Nat → Nat) (W : Nat → Option Nat) (lk : Bool) (go k d cp is sn : Nat) (v : Int) : Cd := fun m c u => ∃ l x, l ≤ k ∧ x < 6 ^ l ∧ m = d + l ∧ c = cp * 6 ^ l + x ∧ sx L Gr W lk go l is (fun i => sn.testBit i) v x = some u
def Sxn (L Gr : Nat → Nat) (W : Nat → Option Nat) (lk : Bool) (go k d cp is sn : Nat) (v : Int) (n : Nat) : Cd := fun m c u => ∃ l x, l ≤ k ∧ x < n * 6 ^ l ∧ m = d + (l + 1) ∧ c = cp * 6 ^ (l + 1) + x ∧ sx L Gr W lk go (l + 1) is (fun i => sn.testBit i) v x = some u
theorem Sxn_0 {k d cp is sn : Nat} {v : Int} {m c : Nat} {u : Int} : ¬ Sxn L Gr W lk go k d cp is sn v 0 m c u := by
  rintro ⟨l, x, -, h, -⟩
  rw [Nat.zero_mul] at h
  exact absurd h (Nat.not_lt_zero _)
theorem Sxn_mono {k d cp is sn n : Nat} {v : Int} {m c : Nat} {u : Int} (h : Sxn L Gr W lk go k d cp is sn v n m c u) : Sxn L Gr W lk go k d cp is sn v (n + 1) m c u := by
  obtain ⟨l, x, h1, h2, h3⟩ := h
  exact ⟨l, x, h1, Nat.lt_of_lt_of_le h2 (Nat.mul_le_mul_right _ (by omega)), h3⟩
theorem Sxn_same {k d cp is sn n : Nat} {v : Int} {m c : Nat} {u : Int} (hn : n < 6) (hx : ∀ l x, dgt x l = n → sx L Gr W lk go (l + 1) is (fun i => sn.testBit i) v x = none) : Sxn L Gr W lk go k d cp is sn v (n + 1) m c u ↔ Sxn L Gr W lk go k d cp is sn v n m c u := by
  refine ⟨?_, Sxn_mono⟩
  rintro ⟨l, x, h1, h2, h3, h4, h5⟩
  by_cases h6 : x < n * 6 ^ l
  · exact ⟨l, x, h1, h6, h3, h4, h5⟩
  · obtain ⟨y, -, -, h7⟩ := dgt_top h2 h6 hn
    rw [hx l x h7] at h5; cases h5
theorem Sxn_more {k d cp is sn n j w : Nat} {v : Int} {m c : Nat} {u : Int} (hn : n < 6) (h0 : ¬ is = go) (h1 : nxt L Gr n is = some j) (h2 : W n = some w) (h3 : sn.testBit j = false) :
    Sxn L Gr W lk go k d cp is sn v (n + 1) m c u ↔ (Sxn L Gr W lk go k d cp is sn v n m c u ∨ Sxs L Gr W lk go k (d + 1) (cp * 6 + n) j (setb sn j true) (fur lk v w) m c u) := by
  have hkey : ∀ l y, y < 6 ^ l → sx L Gr W lk go (l + 1) is (fun i => sn.testBit i) v (n * 6 ^ l + y) = sx L Gr W lk go l j (fun i => (setb sn j true).testBit i) (fur lk v w) y := by
    intro l y hy
    have e := dgt_app_at hy hn
    rw [sx_step h0 (by rw [e]; exact h1) (by rw [e]; exact h2) h3, setb_up]
    exact sx_dgt l _ _ _ (fun i hi => dgt_app_lo hi)
  have hcode : ∀ l y, cp * 6 ^ (l + 1) + (n * 6 ^ l + y) = (cp * 6 + n) * 6 ^ l + y := by
    intro l y
    rw [Nat.add_mul, Nat.pow_succ', ← Nat.mul_assoc, Nat.add_assoc]
  constructor
  · rintro ⟨l, x, q1, q2, q3, q4, q5⟩
    by_cases h6 : x < n * 6 ^ l
    · exact Or.inl ⟨l, x, q1, h6, q3, q4, q5⟩
    · obtain ⟨y, y1, y2, -⟩ := dgt_top q2 h6 hn
      subst y2
      exact Or.inr ⟨l, y, q1, y1, by omega, by rw [q4, hcode], by rw [← hkey l y y1]; exact q5⟩
  · rintro (q | ⟨l, y, q1, q2, q3, q4, q5⟩)
    · exact Sxn_mono q
    · exact ⟨l, n * 6 ^ l + y, q1, by rw [Nat.add_mul, Nat.one_mul]; omega, by omega, by rw [q4, hcode], by rw [hkey l y q2]; exact q5⟩
theorem pow6_pos (n : Nat) : 0 < 6 ^ n := Nat.pow_pos (by decide)
theorem cp_lt {cp d n : Nat} (h : cp < 6 ^ d) (hn : n < 6) : cp * 6 + n < 6 ^ (d + 1) := by rw [Nat.pow_succ]; omega
theorem Sxn_lt {k d cp is sn n : Nat} {v : Int} {m c : Nat} {u : Int} (hcp : cp < 6 ^ d) (hn : n ≤ 6) (h : Sxn L Gr W lk go k d cp is sn v n m c u) : c < 6 ^ m ∧ d + 1 ≤ m ∧ c < (cp * 6 + n) * 6 ^ (m - (d + 1)) := by
  obtain ⟨l, x, h1, h2, h3, h4, -⟩ := h
  subst h3 h4
  refine ⟨?_, by omega, ?_⟩
  · have h5 : (cp + 1) * 6 ^ (l + 1) ≤ 6 ^ d * 6 ^ (l + 1) := Nat.mul_le_mul_right _ (by omega)
    rw [← Nat.pow_add, Nat.add_mul, Nat.one_mul] at h5
    have h6 : n * 6 ^ l ≤ 6 ^ (l + 1) := by rw [Nat.pow_succ']; exact Nat.mul_le_mul_right _ hn
    exact Nat.lt_of_lt_of_le (Nat.add_lt_add_left (Nat.lt_of_lt_of_le h2 h6) _) h5
  · rw [show d + (l + 1) - (d + 1) = l by omega, Nat.add_mul, Nat.mul_assoc, ← Nat.pow_succ']
    exact Nat.add_lt_add_left h2 _
theorem trS_T {k is sn p : Nat} {v : Int} {wk : Nat → Nat → Int → Ws → Ws} {s : Ws} (h : ∀ j' sn' v' s', ∀ i, i < 5 - k → wT (wk j' sn' v' s') i = wT s' i) : ∀ i, i < 4 - k → wT (trS L Gr W lk k is sn v wk p s) i = wT s i := by
  intro i hi
  unfold trS
  split
  · split
    · rfl
    · rw [h _ _ _ _ i (by omega)]
      show va_up (wT s) (4 - k) p i = wT s i
      exact up_lo hi
  · rfl
theorem kib_T {d : Nat} {v : Int} {s : Ws} : wT (kib d v s) = wT s := by
  unfold kib
  split
  · rfl
  · split <;> rfl
theorem wkF_T : ∀ k, k ≤ 5 → ∀ is sn v s, ∀ i, i < 5 - k → wT (wkF L Gr W lk go k is sn v s) i = wT s i
  | 0, _, is, sn, v, s, i, hi => by
    simp only [wkF]; split
    · rw [kib_T]
    · rfl
  | k + 1, hk, is, sn, v, s, i, hi => by
    simp only [wkF]; split
    · rw [kib_T]
    · have : ∀ n s, wT (foldT (trS L Gr W lk k is sn v (wkF L Gr W lk go k)) n s) i = wT s i := by
        intro n
        induction n with
        | zero => intro s; rfl
        | succ n ih =>
          intro s
          show wT (trS L Gr W lk k is sn v (wkF L Gr W lk go k) n (foldT _ n s)) i = _
          rw [trS_T (fun j' sn' v' s' => wkF_T k (by omega) j' sn' v' s') i (by omega)]
          exact ih s
      exact this 6 s
theorem wk_best : ∀ k, k ≤ 5 → ∀ is sn v s cp (S : Cd), BestOf s S → cp < 6 ^ (5 - k) → (∀ j, j < 5 - k → wT s j = dgt cp (5 - k - 1 - j)) → (∀ m c u, S m c u → c < 6 ^ m ∧ (5 - k ≤ m → c < cp * 6 ^ (m - (5 - k)))) →
    BestOf (wkF L Gr W lk go k is sn v s) (fun m c u => S m c u ∨ Sxs L Gr W lk go k (5 - k) cp is sn v m c u)
  | 0, _, is, sn, v, s, cp, S, hb, hcp, ht, hS => by
    simp only [wkF]
    by_cases h : is = go
    · rw [if_pos h]
      refine BestOf_congr (fun m c u => ?_) (kib_best (d := 5) (v := v) hb hcp ht (fun c u q => by have := (hS _ _ _ q).2 (Nat.le_refl _); rw [show 5 - (5 - 0) = 0 by omega, Nat.pow_zero, Nat.mul_one] at this; exact this))
      refine or_congr Iff.rfl ⟨?_, ?_⟩
      · rintro ⟨rfl, rfl, rfl⟩
        exact ⟨0, 0, Nat.le_refl _, by decide, rfl, by rw [Nat.pow_zero, Nat.mul_one, Nat.add_zero], sx_0.mpr ⟨h, rfl⟩⟩
      · rintro ⟨l, x, h1, h2, h3, h4, h5⟩
        have hl : l = 0 := by omega
        subst hl
        have hx : x = 0 := by rw [Nat.pow_zero] at h2; omega
        subst hx
        exact ⟨h3, by rw [h4, Nat.pow_zero, Nat.mul_one, Nat.add_zero], (sx_0.mp h5).2.symm⟩
    · rw [if_neg h]
      refine BestOf_congr (fun m c u => ?_) hb
      refine ⟨Or.inl, ?_⟩
      rintro (q | ⟨l, x, h1, h2, h3, h4, h5⟩)
      · exact q
      · have hl : l = 0 := by omega
        subst hl
        exact absurd (sx_0.mp h5).1 h
  | k + 1, hk, is, sn, v, s, cp, S, hb, hcp, ht, hS => by
    simp only [wkF]
    by_cases h : is = go
    · rw [if_pos h]
      rw [show 4 - k = 5 - (k + 1) by omega]
      refine BestOf_congr (fun m c u => ?_) (kib_best (d := 5 - (k + 1)) (v := v) hb hcp ht (fun c u q => by have := (hS _ _ _ q).2 (Nat.le_refl _); rw [Nat.sub_self, Nat.pow_zero, Nat.mul_one] at this; exact this))
      refine or_congr Iff.rfl ⟨?_, ?_⟩
      · rintro ⟨rfl, rfl, rfl⟩
        exact ⟨0, 0, Nat.zero_le _, by decide, rfl, by rw [Nat.pow_zero, Nat.mul_one, Nat.add_zero], sx_0.mpr ⟨h, rfl⟩⟩
      · rintro ⟨l, x, h1, h2, h3, h4, h5⟩
        cases l with
        | zero =>
          have hx : x = 0 := by rw [Nat.pow_zero] at h2; omega
          subst hx
          exact ⟨h3, by rw [h4, Nat.pow_zero, Nat.mul_one, Nat.add_zero], (sx_0.mp h5).2.symm⟩
        | succ l => exact absurd h (sx_inv h5).1
    · rw [if_neg h]
      have hd : 5 - (k + 1) + 1 = 5 - k := by omega
      have hd4 : 4 - k = 5 - (k + 1) := by omega
      generalize hdd : 5 - (k + 1) = d at *
      have main : ∀ n, n ≤ 6 → BestOf (foldT (trS L Gr W lk k is sn v (wkF L Gr W lk go k)) n s) (fun m c u => S m c u ∨ Sxn L Gr W lk go k d cp is sn v n m c u) ∧ ∀ i, i < d → wT (foldT (trS L Gr W lk k is sn v (wkF L Gr W lk go k)) n s) i = wT s i := by
        intro n
        induction n with
        | zero =>
          intro _
          exact ⟨BestOf_congr (fun m c u => ⟨Or.inl, fun q => q.elim id (fun z => absurd z Sxn_0)⟩) hb, fun i _ => rfl⟩
        | succ n ih =>
          intro hn6
          have hn : n < 6 := by omega
          obtain ⟨ih1, ih2⟩ := ih (by omega)
          have hT2 : ∀ i, i < d → wT (trS L Gr W lk k is sn v (wkF L Gr W lk go k) n (foldT (trS L Gr W lk k is sn v (wkF L Gr W lk go k)) n s)) i = wT s i := fun i hi => by
            rw [trS_T (fun j' sn' v' s' => wkF_T k (by omega) j' sn' v' s') i (by omega)]; exact ih2 i hi
          refine ⟨?_, hT2⟩
          show BestOf (trS L Gr W lk k is sn v (wkF L Gr W lk go k) n (foldT (trS L Gr W lk k is sn v (wkF L Gr W lk go k)) n s)) _
          generalize foldT (trS L Gr W lk k is sn v (wkF L Gr W lk go k)) n s = s1 at *
          have hsame : (∀ l x, dgt x l = n → sx L Gr W lk go (l + 1) is (fun i => sn.testBit i) v x = none) → BestOf s1 (fun m c u => S m c u ∨ Sxn L Gr W lk go k d cp is sn v (n + 1) m c u) := fun hx => BestOf_congr (fun m c u => or_congr Iff.rfl (Sxn_same hn hx).symm) ih1
          cases h1 : nxt L Gr n is with
          | none =>
            rw [trS_none1 h1]
            exact hsame (fun l x e => by simp only [sx]; rw [if_neg h, e, h1])
          | some j =>
            cases h2 : W n with
            | none =>
              rw [trS_none2 h2]
              exact hsame (fun l x e => by simp only [sx]; rw [if_neg h, e, h1, h2])
            | some w =>
              cases h3 : sn.testBit j with
              | true =>
                rw [trS_seen h1 h2 h3]
                exact hsame (fun l x e => by simp only [sx]; rw [if_neg h, e, h1, h2]; simp only []; rw [if_pos h3])
              | false =>
                rw [trS_go h1 h2 h3]
                have e5 : 4 - k = d := by omega
                have hput : BestOf (putT s1 (4 - k) n) (fun m c u => S m c u ∨ Sxn L Gr W lk go k d cp is sn v n m c u) := ih1
                refine BestOf_congr (fun m c u => ?_) (wk_best k (by omega) j (setb sn j true) (fur lk v w) (putT s1 (4 - k) n) (cp * 6 + n) _ hput ?_ ?_ ?_)
                · rw [← hd]
                  exact ⟨fun q => q.elim (fun z => z.elim Or.inl (fun y => Or.inr ((Sxn_more hn h h1 h2 h3).mpr (Or.inl y)))) (fun z => Or.inr ((Sxn_more hn h h1 h2 h3).mpr (Or.inr z))),
                    fun q => q.elim (fun z => Or.inl (Or.inl z)) (fun z => ((Sxn_more hn h h1 h2 h3).mp z).elim (fun y => Or.inl (Or.inr y)) Or.inr)⟩
                · rw [← hd]; exact cp_lt hcp hn
                · intro i hi
                  show va_up (wT s1) (4 - k) n i = _
                  rw [e5, ← hd]
                  by_cases ei : i = d
                  · subst ei
                    rw [up_at, show i + 1 - 1 - i = 0 by omega, dgt_up0 hn]
                  · rw [up_lo (by omega), ih2 i (by omega), ht i (by omega), show d + 1 - 1 - i = (d - 1 - i) + 1 by omega, dgt_up hn]
                · intro m c u q
                  rw [← hd]
                  rcases q with q | q
                  · obtain ⟨z1, z2⟩ := hS m c u q
                    refine ⟨z1, fun hm => ?_⟩
                    have z3 := z2 (by omega)
                    rw [show m - d = m - (d + 1) + 1 by omega, Nat.pow_succ', ← Nat.mul_assoc] at z3
                    rw [Nat.add_mul]
                    omega
                  · have z := Sxn_lt hcp (by omega) q
                    exact ⟨z.1, fun _ => z.2.2⟩
      refine BestOf_congr (fun m c u => or_congr Iff.rfl ⟨?_, ?_⟩) (main 6 (Nat.le_refl _)).1
      · rintro ⟨l, x, q1, q2, q3, q4, q5⟩
        exact ⟨l + 1, x, by omega, by rw [Nat.pow_succ']; exact q2, q3, q4, q5⟩
      · rintro ⟨l, x, q1, q2, q3, q4, q5⟩
        cases l with
        | zero => exact absurd (sx_0.mp q5).1 h
        | succ l => exact ⟨l, x, by omega, by rw [← Nat.pow_succ']; exact q2, q3, q4, q5⟩
def Fxs (L Gr : Nat → Nat) (W : Nat → Option Nat) (lk : Bool) (go a : Nat) (v : Int) : Cd := fun m c u => m < 6 ∧ c < 6 ^ m ∧ fx L Gr W lk go m a v c = some u
theorem ways_best (hW : okWt W) {a : Nat} {v : Int} (hv : gv lk v) (s : Ws) : BestOf (wkF L Gr W lk go 5 a (2 ^ a) v (wT s, wB s, none, 0)) (Fxs L Gr W lk go a v) := by
  have h0 : BestOf ((wT s, wB s, none, 0) : Ws) (fun _ _ _ => False) := ⟨fun _ _ _ _ q => q, fun l e => by cases e⟩
  have h1 := wk_best (L := L) (Gr := Gr) (W := W) (lk := lk) (go := go) 5 (Nat.le_refl _) a (2 ^ a) v _ 0 _ h0 (by decide) (fun j hj => absurd hj (Nat.not_lt_zero _)) (fun m c u q => q.elim)
  have hbit : (fun i => (2 ^ a).testBit i) = upS noS a := by
    funext i
    rw [Nat.testBit_two_pow]
    unfold upS noS
    by_cases e : i = a
    · rw [if_pos e, decide_eq_true e.symm]
    · rw [if_neg e, decide_eq_false (fun z => e z.symm)]
  have h2 : BestOf (wkF L Gr W lk go 5 a (2 ^ a) v (wT s, wB s, none, 0)) (fun m c u => m < 6 ∧ c < 6 ^ m ∧ sx L Gr W lk go m a (upS noS a) v c = some u) := by
    refine BestOf_congr (fun m c u => ?_) h1
    constructor
    · rintro (q | ⟨l, x, q1, q2, q3, q4, q5⟩)
      · exact q.elim
      · have e1 : m = l := by omega
        have e2 : c = x := by rw [q4, Nat.zero_mul, Nat.zero_add]
        subst e1 e2
        rw [hbit] at q5
        exact ⟨by omega, q2, q5⟩
    · rintro ⟨q1, q2, q3⟩
      exact Or.inr ⟨m, c, by omega, q2, by omega, by rw [Nat.zero_mul, Nat.zero_add], by rw [hbit]; exact q3⟩
  refine ⟨fun e m c u q => ?_, fun l e => ?_⟩
  · obtain ⟨l', c', u', z1, z2, z3, z4⟩ := fx_cut hW m a v c u hv q.2.2
    exact h2.1 e l' c' u' ⟨by have := q.1; omega, z1, z4⟩
  · obtain ⟨c0, y1, y2, y3, y4⟩ := h2.2 l e
    refine ⟨c0, y1, ⟨y2.1, y1, sx_fx _ _ _ _ _ _ y2.2.2⟩, y3, fun m c u q => ?_⟩
    obtain ⟨l', c', u', z1, z2, z3, z4⟩ := fx_cut hW m a v c u hv q.2.2
    have y5 := y4 l' c' u' ⟨by have := q.1; omega, z1, z4⟩
    rcases z2 with z2 | ⟨z2, z5⟩
    · by_cases e1 : u = wV (wkF L Gr W lk go 5 a (2 ^ a) v (wT s, wB s, none, 0))
      · exact Or.inr ⟨e1, Or.inl (by omega)⟩
      · exact Or.inl (by omega)
    · rw [Nat.mod_eq_of_lt q.2.1] at z5
      subst z2 z5
      by_cases e1 : u = wV (wkF L Gr W lk go 5 a (2 ^ a) v (wT s, wB s, none, 0))
      · exact Or.inr ⟨e1, by omega⟩
      · exact Or.inl (by omega)
/-- the class's best and the check's are one -/
theorem best_eq {s : Ws} {g : Nat → Nat → Option Nat} {st : Es} {a : Nat} {v : Int} {ph : Nat → Int} (hb : BestOf s (Fxs L Gr W lk go a v)) (he : EnOk g (fun m c => m < 6 ∧ c < 6 ^ m) st) (hph : ∀ x y, x < y → ph x < ph y)
    (h1 : ∀ m c u, m < 6 → c < 6 ^ m → fx L Gr W lk go m a v c = some u → ∃ x, g m c = some x ∧ u = ph x) (h2 : ∀ m c x, m < 6 → c < 6 ^ m → g m c = some x → fx L Gr W lk go m a v c = some (ph x)) :
    (wL s = none ∧ st = none) ∨ ∃ x l c, wL s = some l ∧ st = some (x, l, c) ∧ wV s = ph x ∧ l < 6 ∧ c < 6 ^ l ∧ g l c = some x ∧ ∀ j, j < l → wB s j = dgt c (l - 1 - j) := by
  have hle : ∀ x y, ph x < ph y → x < y := fun x y h => by
    rcases Nat.lt_trichotomy x y with z | z | z
    · exact z
    · subst z; exact absurd h (Int.lt_irrefl _)
    · have := hph y x z; omega
  have hin : ∀ x y, ph x = ph y → x = y := fun x y h => by
    rcases Nat.lt_trichotomy x y with z | z | z
    · have := hph x y z; omega
    · exact z
    · have := hph y x z; omega
  cases hst : st with
  | none =>
    refine Or.inl ⟨?_, rfl⟩
    cases hl : wL s with
    | none => rfl
    | some l =>
      obtain ⟨c, -, q, -⟩ := hb.2 l hl
      obtain ⟨x, z, -⟩ := h1 _ _ _ q.1 q.2.1 q.2.2
      rw [he.1 hst l c ⟨q.1, q.2.1⟩] at z; cases z
  | some q0 =>
    obtain ⟨x, m, c⟩ := q0
    obtain ⟨⟨e1, e2⟩, e3, e4⟩ := he.2 _ hst
    have e1 : m < 6 := e1
    have e2 : c < 6 ^ m := e2
    have e3 : g m c = some x := e3
    have e5 := h2 m c x e1 e2 e3
    refine Or.inr ?_
    cases hl : wL s with
    | none => exact absurd ⟨e1, e2, e5⟩ (hb.1 hl m c (ph x))
    | some l =>
      obtain ⟨c0, q1, q2, q3, q4⟩ := hb.2 l hl
      obtain ⟨x0, z1, z2⟩ := h1 _ _ _ q2.1 q2.2.1 q2.2.2
      have a1 := q4 m c (ph x) ⟨e1, e2, e5⟩
      have a2 := e4 l c0 x0 ⟨q2.1, q2.2.1⟩ z1
      have a2 : x0 < x ∨ (x0 = x ∧ (m < l ∨ (m = l ∧ c ≤ c0))) := a2
      rw [z2] at a1
      have hx : x0 = x := by
        rcases a2 with a2 | a2
        · rcases a1 with a1 | a1
          · have := hle _ _ a1; omega
          · have := hin _ _ a1.1; omega
        · exact a2.1
      subst hx
      have a3 : l < m ∨ (l = m ∧ c0 ≤ c) := by
        rcases a1 with a1 | a1
        · exact absurd a1 (Int.lt_irrefl _)
        · exact a1.2
      have a4 : m < l ∨ (m = l ∧ c ≤ c0) := by
        rcases a2 with a2 | a2
        · exact absurd a2 (Nat.lt_irrefl _)
        · exact a2.2
      have hm : l = m := by omega
      subst hm
      have hc : c0 = c := by omega
      subst hc
      exact ⟨x0, l, c0, rfl, rfl, z2, e1, e2, e3, q3⟩
end
