/-! Ways by their codes: the way (m, c) has m planks, the digits of c to the base 6, highest first. -/
def dgt (c l : Nat) : Nat := c / 6 ^ l % 6
theorem dgt_lt (c l : Nat) : dgt c l < 6 := Nat.mod_lt _ (by decide)
theorem dgt_app_lo {p l x i : Nat} (hi : i < l) : dgt (p * 6 ^ l + x) i = dgt x i := by
  unfold dgt
  have e : p * 6 ^ l = 6 ^ i * (6 * (p * 6 ^ (l - i - 1))) := by
    have h1 : 6 ^ l = 6 ^ i * (6 * 6 ^ (l - i - 1)) := by
      rw [← Nat.pow_succ', ← Nat.pow_add]; congr 1; omega
    rw [h1, Nat.mul_left_comm, Nat.mul_left_comm p]
  rw [e, Nat.mul_add_div (Nat.pow_pos (by decide)), Nat.mul_add_mod]
theorem dgt_app_at {p l x : Nat} (hx : x < 6 ^ l) (hp : p < 6) : dgt (p * 6 ^ l + x) l = p := by
  unfold dgt
  rw [Nat.mul_comm, Nat.mul_add_div (Nat.pow_pos (by decide)), Nat.div_eq_of_lt hx, Nat.add_zero, Nat.mod_eq_of_lt hp]
theorem dgt_up {c p i : Nat} (hp : p < 6) : dgt (c * 6 + p) (i + 1) = dgt c i := by
  unfold dgt
  rw [Nat.pow_succ', ← Nat.div_div_eq_div_mul, Nat.mul_comm c 6, Nat.mul_add_div (by decide), Nat.div_eq_of_lt hp, Nat.add_zero]
theorem dgt_up0 {c p : Nat} (hp : p < 6) : dgt (c * 6 + p) 0 = p := by
  unfold dgt
  rw [Nat.pow_zero, Nat.div_one, Nat.mul_comm, Nat.mul_add_mod, Nat.mod_eq_of_lt hp]
theorem dgt_mod {c l i : Nat} (hi : i < l) : dgt (c % 6 ^ l) i = dgt c i := by
  have h := dgt_app_lo (p := c / 6 ^ l) (x := c % 6 ^ l) hi
  rw [Nat.mul_comm, Nat.div_add_mod] at h
  exact h.symm
theorem dgt_cut (c l : Nat) : dgt c l * 6 ^ l + c % 6 ^ l = c % 6 ^ (l + 1) := by
  unfold dgt
  rw [Nat.pow_succ, Nat.mod_mul, Nat.mul_comm, Nat.add_comm]
theorem dgt_top {x l n : Nat} (h : x < (n + 1) * 6 ^ l) (h2 : ¬ x < n * 6 ^ l) (hn : n < 6) : ∃ y, y < 6 ^ l ∧ x = n * 6 ^ l + y ∧ dgt x l = n := by
  have e : (n + 1) * 6 ^ l = n * 6 ^ l + 6 ^ l := by rw [Nat.add_mul, Nat.one_mul]
  have hy : x - n * 6 ^ l < 6 ^ l := by omega
  refine ⟨x - n * 6 ^ l, hy, by omega, ?_⟩
  have := dgt_app_at (p := n) hy hn
  rwa [show n * 6 ^ l + (x - n * 6 ^ l) = x by omega] at this
/-- the check's walk from a over the l lowest digits of c: the sum of the planks' costs, if it ends at go -/
def gx (L Gr CO : Nat → Nat) (go : Nat) : Nat → Nat → Nat → Nat → Option Nat
  | 0 => fun a al _ => if a = go then some al else none
  | l + 1 => fun a al c => match nxt L Gr (dgt c l) a with
    | none => none
    | some j => gx L Gr CO go l j (al + CO (dgt c l)) c
/-- likewise the product of their tenths -/
def gs (L Gr S : Nat → Nat) (go : Nat) : Nat → Nat → Nat → Nat → Option Nat
  | 0 => fun a u _ => if a = go then some u else none
  | l + 1 => fun a u c => match nxt L Gr (dgt c l) a with
    | none => none
    | some j => gs L Gr S go l j (u * S (dgt c l)) c
/-- the best so far: worth, planks, code; g: what a way is worth -/
abbrev Es : Type := Option (Nat × Nat × Nat)
def enS (g : Nat → Nat → Option Nat) (m c : Nat) (st : Es) : Es := match g m c with
  | none => st
  | some v => match st with
    | none => some (v, m, c)
    | some q => if q.1 < v then some (v, m, c) else some q
def enC (g : Nat → Nat → Option Nat) (m : Nat) (st : Es) : Nat → Es
  | 0 => st
  | c + 1 => enS g m c (enC g m st c)
def enA (g : Nat → Nat → Option Nat) : Nat → Es
  | 0 => none
  | m + 1 => enC g m (enA g m) (6 ^ m)
/-- what holds of the best among those told by E -/
def EnOk (g : Nat → Nat → Option Nat) (E : Nat → Nat → Prop) (st : Es) : Prop :=
  (st = none → ∀ m c, E m c → g m c = none) ∧ (∀ q, st = some q → E q.2.1 q.2.2 ∧ g q.2.1 q.2.2 = some q.1 ∧ ∀ m c v, E m c → g m c = some v → v < q.1 ∨ (v = q.1 ∧ (q.2.1 < m ∨ (q.2.1 = m ∧ q.2.2 ≤ c))))
theorem EnOk_congr {g : Nat → Nat → Option Nat} {E E' : Nat → Nat → Prop} {st : Es} (h : ∀ m c, E m c ↔ E' m c) (hE : EnOk g E st) : EnOk g E' st :=
  ⟨fun e m c q => hE.1 e m c ((h m c).mpr q), fun q e => ⟨(h _ _).mp (hE.2 q e).1, (hE.2 q e).2.1, fun m c v q1 q2 => (hE.2 q e).2.2 m c v ((h m c).mpr q1) q2⟩⟩
theorem enS_ok {g : Nat → Nat → Option Nat} {E : Nat → Nat → Prop} {st : Es} {m c : Nat} (hE : EnOk g E st) (hl : ∀ m' c', E m' c' → m' < m ∨ (m' = m ∧ c' < c)) : EnOk g (fun m' c' => E m' c' ∨ (m' = m ∧ c' = c)) (enS g m c st) := by
  unfold enS
  cases hg : g m c with
  | none =>
    refine ⟨fun e m' c' q => ?_, fun q e => ⟨Or.inl (hE.2 q e).1, (hE.2 q e).2.1, fun m' c' v q1 q2 => ?_⟩⟩
    · rcases q with q | ⟨rfl, rfl⟩
      · exact hE.1 e m' c' q
      · exact hg
    · rcases q1 with q1 | ⟨rfl, rfl⟩
      · exact (hE.2 q e).2.2 m' c' v q1 q2
      · rw [hg] at q2; cases q2
  | some v =>
    cases st with
    | none =>
      refine ⟨(fun e => by cases e), fun q e => ?_⟩
      cases e
      refine ⟨Or.inr ⟨rfl, rfl⟩, hg, fun m' c' v' q1 q2 => ?_⟩
      rcases q1 with q1 | ⟨rfl, rfl⟩
      · rw [hE.1 rfl m' c' q1] at q2; cases q2
      · rw [hg] at q2; cases q2; exact Or.inr ⟨rfl, Or.inr ⟨rfl, Nat.le_refl _⟩⟩
    | some q0 =>
      simp only []
      obtain ⟨h1, h2, h3⟩ := hE.2 q0 rfl
      by_cases hc : q0.1 < v
      · rw [if_pos hc]
        refine ⟨(fun e => by cases e), fun q e => ?_⟩
        cases e
        refine ⟨Or.inr ⟨rfl, rfl⟩, hg, fun m' c' v' q1 q2 => ?_⟩
        rcases q1 with q1 | ⟨rfl, rfl⟩
        · have := h3 m' c' v' q1 q2
          exact Or.inl (by show v' < v; omega)
        · rw [hg] at q2; cases q2; exact Or.inr ⟨rfl, Or.inr ⟨rfl, Nat.le_refl _⟩⟩
      · rw [if_neg hc]
        refine ⟨(fun e => by cases e), fun q e => ?_⟩
        cases e
        refine ⟨Or.inl h1, h2, fun m' c' v' q1 q2 => ?_⟩
        rcases q1 with q1 | ⟨rfl, rfl⟩
        · exact h3 m' c' v' q1 q2
        · rw [hg] at q2; cases q2
          have h4 := hl _ _ h1
          by_cases e : v = q0.1
          · exact Or.inr ⟨e, by omega⟩
          · exact Or.inl (by omega)
theorem enC_ok {g : Nat → Nat → Option Nat} {E : Nat → Nat → Prop} {st : Es} {m : Nat} (hE : EnOk g E st) (hl : ∀ m' c', E m' c' → m' < m) : ∀ n, EnOk g (fun m' c' => E m' c' ∨ (m' = m ∧ c' < n)) (enC g m st n)
  | 0 => EnOk_congr (fun m' c' => ⟨fun q => Or.inl q, fun q => by rcases q with q | ⟨-, q⟩; exact q; exact absurd q (Nat.not_lt_zero _)⟩) hE
  | n + 1 => by
    refine EnOk_congr (fun m' c' => ?_) (enS_ok (m := m) (c := n) (enC_ok hE hl n) (fun m' c' q => ?_))
    · constructor
      · rintro ((q | ⟨q1, q2⟩) | ⟨q1, q2⟩)
        · exact Or.inl q
        · exact Or.inr ⟨q1, by omega⟩
        · exact Or.inr ⟨q1, by omega⟩
      · rintro (q | ⟨q1, q2⟩)
        · exact Or.inl (Or.inl q)
        · by_cases e : c' = n
          · exact Or.inr ⟨q1, e⟩
          · exact Or.inl (Or.inr ⟨q1, by omega⟩)
    · rcases q with q | ⟨q1, q2⟩
      · exact Or.inl (hl m' c' q)
      · exact Or.inr ⟨q1, q2⟩
theorem enA_ok (g : Nat → Nat → Option Nat) : ∀ n, EnOk g (fun m c => m < n ∧ c < 6 ^ m) (enA g n)
  | 0 => ⟨fun _ m c q => absurd q.1 (Nat.not_lt_zero _), fun q e => by cases e⟩
  | n + 1 => by
    refine EnOk_congr (fun m c => ?_) (enC_ok (m := n) (enA_ok g n) (fun m' c' q => q.1) (6 ^ n))
    constructor
    · rintro (q | ⟨q1, q2⟩)
      · exact ⟨by omega, q.2⟩
      · subst q1; exact ⟨by omega, q2⟩
    · rintro ⟨q1, q2⟩
      by_cases e : m = n
      · subst e; exact Or.inr ⟨rfl, q2⟩
      · exact Or.inl ⟨by omega, q2⟩
/-! The class's walk by codes: fx over any way, sx over ways that come to no island twice. -/
def fx (L Gr : Nat → Nat) (W : Nat → Option Nat) (lk : Bool) (go : Nat) : Nat → Nat → Int → Nat → Option Int
  | 0 => fun a v _ => if a = go then some v else none
  | l + 1 => fun a v c => match nxt L Gr (dgt c l) a, W (dgt c l) with
    | some j, some w => fx L Gr W lk go l j (fur lk v w) c
    | _, _ => none
def upS (sn : Nat → Bool) (j : Nat) : Nat → Bool := fun i => if i = j then true else sn i
def sx (L Gr : Nat → Nat) (W : Nat → Option Nat) (lk : Bool) (go : Nat) : Nat → Nat → (Nat → Bool) → Int → Nat → Option Int
  | 0 => fun a _ v _ => if a = go then some v else none
  | l + 1 => fun a sn v c => if a = go then none else match nxt L Gr (dgt c l) a, W (dgt c l) with
    | some j, some w => if sn j then none else sx L Gr W lk go l j (upS sn j) (fur lk v w) c
    | _, _ => none
section
variable {L Gr : Nat → Nat} {W : Nat → Option Nat} {lk : Bool} {go : Nat}
theorem fx_step {l a j w c : Nat} {v : Int} (h1 : nxt L Gr (dgt c l) a = some j) (h2 : W (dgt c l) = some w) : fx L Gr W lk go (l + 1) a v c = fx L Gr W lk go l j (fur lk v w) c := by
  simp only [fx]; rw [h1, h2]
theorem fx_inv {l a c : Nat} {v u : Int} (h : fx L Gr W lk go (l + 1) a v c = some u) : ∃ j w, nxt L Gr (dgt c l) a = some j ∧ W (dgt c l) = some w ∧ fx L Gr W lk go l j (fur lk v w) c = some u := by
  simp only [fx] at h
  cases h1 : nxt L Gr (dgt c l) a with
  | none => rw [h1] at h; cases h
  | some j =>
    cases h2 : W (dgt c l) with
    | none => rw [h1, h2] at h; cases h
    | some w => rw [h1, h2] at h; exact ⟨j, w, rfl, rfl, h⟩
theorem sx_step {l a j w c : Nat} {sn : Nat → Bool} {v : Int} (h0 : ¬ a = go) (h1 : nxt L Gr (dgt c l) a = some j) (h2 : W (dgt c l) = some w) (h3 : sn j = false) : sx L Gr W lk go (l + 1) a sn v c = sx L Gr W lk go l j (upS sn j) (fur lk v w) c := by
  simp only [sx]; rw [if_neg h0, h1, h2]; simp only []; rw [if_neg (by rw [h3]; decide)]
theorem sx_inv {l a c : Nat} {sn : Nat → Bool} {v u : Int} (h : sx L Gr W lk go (l + 1) a sn v c = some u) : ¬ a = go ∧ ∃ j w, nxt L Gr (dgt c l) a = some j ∧ W (dgt c l) = some w ∧ sn j = false ∧ sx L Gr W lk go l j (upS sn j) (fur lk v w) c = some u := by
  simp only [sx] at h
  by_cases h0 : a = go
  · rw [if_pos h0] at h; cases h
  · rw [if_neg h0] at h
    refine ⟨h0, ?_⟩
    cases h1 : nxt L Gr (dgt c l) a with
    | none => rw [h1] at h; cases h
    | some j =>
      cases h2 : W (dgt c l) with
      | none => rw [h1, h2] at h; cases h
      | some w =>
        rw [h1, h2] at h
        simp only [] at h
        cases h3 : sn j with
        | true => rw [h3] at h; cases h
        | false => rw [h3] at h; exact ⟨j, w, rfl, rfl, h3, h⟩
theorem sx_0 {a c : Nat} {sn : Nat → Bool} {v u : Int} : sx L Gr W lk go 0 a sn v c = some u ↔ a = go ∧ v = u := by
  simp only [sx]
  by_cases h : a = go
  · rw [if_pos h]; exact ⟨fun q => ⟨h, Option.some.inj q⟩, fun q => by rw [q.2]⟩
  · rw [if_neg h]; exact ⟨(fun q => by cases q), fun q => absurd q.1 h⟩
theorem fx_0 {a c : Nat} {v u : Int} : fx L Gr W lk go 0 a v c = some u ↔ a = go ∧ v = u := by
  simp only [fx]
  by_cases h : a = go
  · rw [if_pos h]; exact ⟨fun q => ⟨h, Option.some.inj q⟩, fun q => by rw [q.2]⟩
  · rw [if_neg h]; exact ⟨(fun q => by cases q), fun q => absurd q.1 h⟩
theorem sx_dgt {c c' : Nat} : ∀ l a sn v, (∀ i, i < l → dgt c i = dgt c' i) → sx L Gr W lk go l a sn v c = sx L Gr W lk go l a sn v c'
  | 0, _, _, _, _ => rfl
  | l + 1, a, sn, v, h => by
    simp only [sx]
    rw [h l (by omega)]
    split
    · rfl
    · split
      · split
        · rfl
        · exact sx_dgt l _ _ _ (fun i hi => h i (by omega))
      · rfl
def gv (lk : Bool) (v : Int) : Prop := lk = true → 0 ≤ v
theorem fur_le {v : Int} {w : Nat} (hv : gv lk v) (hw : w ≤ 10) : fur lk v w ≤ v := by
  unfold fur
  cases lk with
  | false => simp only [Bool.false_eq_true, if_false]; omega
  | true =>
    simp only [if_true]
    have h1 : v * (w : Int) ≤ v * 10 := Int.mul_le_mul_of_nonneg_left (by omega) (hv rfl)
    omega
theorem fur_gv {v : Int} {w : Nat} (hv : gv lk v) : gv lk (fur lk v w) := by
  intro e
  subst e
  unfold fur
  simp only [if_true]
  have h1 : 0 ≤ v * (w : Int) := Int.mul_nonneg (hv rfl) (by omega)
  omega
theorem fur_mono {v v' : Int} {w : Nat} (h : v ≤ v') : fur lk v w ≤ fur lk v' w := by
  unfold fur
  cases lk with
  | false => simp only [Bool.false_eq_true, if_false]; omega
  | true =>
    simp only [if_true]
    have h1 : v * (w : Int) ≤ v' * (w : Int) := Int.mul_le_mul_of_nonneg_right h (by omega)
    exact Int.ediv_le_ediv (by decide) h1
theorem gv_mono {v v' : Int} (h : v ≤ v') (hv : gv lk v) : gv lk v' := fun e => by have := hv e; omega
theorem fx_le (hW : okWt W) : ∀ l a v c u, gv lk v → fx L Gr W lk go l a v c = some u → u ≤ v
  | 0, a, v, c, u, _, h => by have := (fx_0.mp h).2; omega
  | l + 1, a, v, c, u, hv, h => by
    obtain ⟨j, w, h1, h2, h3⟩ := fx_inv h
    have h4 := fx_le hW l j _ c u (fur_gv hv) h3
    have h5 := fur_le hv (hW _ _ (dgt_lt c l) h2)
    omega
theorem sx_mono : ∀ l a sn v v' c u, v ≤ v' → sx L Gr W lk go l a sn v c = some u → ∃ u', sx L Gr W lk go l a sn v' c = some u' ∧ u ≤ u'
  | 0, a, sn, v, v', c, u, hv, h => ⟨v', sx_0.mpr ⟨(sx_0.mp h).1, rfl⟩, by have := (sx_0.mp h).2; omega⟩
  | l + 1, a, sn, v, v', c, u, hv, h => by
    obtain ⟨h0, j, w, h1, h2, h3, h4⟩ := sx_inv h
    obtain ⟨u', q1, q2⟩ := sx_mono l j _ _ (fur lk v' w) c u (fur_mono hv) h4
    exact ⟨u', by rw [sx_step h0 h1 h2 h3]; exact q1, q2⟩
theorem sx_weak : ∀ l a sn sn' v c u, (∀ i, sn' i = true → sn i = true) → sx L Gr W lk go l a sn v c = some u → sx L Gr W lk go l a sn' v c = some u
  | 0, a, sn, sn', v, c, u, _, h => sx_0.mpr (sx_0.mp h)
  | l + 1, a, sn, sn', v, c, u, hs, h => by
    obtain ⟨h0, j, w, h1, h2, h3, h4⟩ := sx_inv h
    have h5 : sn' j = false := by
      cases e : sn' j with
      | false => rfl
      | true => rw [hs j e] at h3; cases h3
    rw [sx_step h0 h1 h2 h5]
    refine sx_weak l j (upS sn j) _ _ c u (fun i hi => ?_) h4
    unfold upS at hi ⊢
    by_cases e : i = j
    · rw [if_pos e]
    · rw [if_neg e] at hi ⊢; exact hs i hi
theorem sx_fx : ∀ l a sn v c u, sx L Gr W lk go l a sn v c = some u → fx L Gr W lk go l a v c = some u
  | 0, a, sn, v, c, u, h => fx_0.mpr (sx_0.mp h)
  | l + 1, a, sn, v, c, u, h => by
    obtain ⟨h0, j, w, h1, h2, h3, h4⟩ := sx_inv h
    rw [fx_step h1 h2]
    exact sx_fx l j _ _ c u h4
theorem upS_comm (sn : Nat → Bool) (a b : Nat) : upS (upS sn a) b = upS (upS sn b) a := by
  funext i
  unfold upS
  by_cases h1 : i = a <;> by_cases h2 : i = b <;> simp [h1, h2]
theorem sx_split (hW : okWt W) (b : Nat) : ∀ l a sn v c u, gv lk v → ¬ a = b → sx L Gr W lk go l a sn v c = some u → sx L Gr W lk go l a (upS sn b) v c = some u ∨ ∃ l' v' sn', l' < l ∧ v' ≤ v ∧ sn' b = true ∧ sx L Gr W lk go l' b sn' v' c = some u
  | 0, a, sn, v, c, u, _, _, h => Or.inl (sx_0.mpr (sx_0.mp h))
  | l + 1, a, sn, v, c, u, hv, hab, h => by
    obtain ⟨h0, j, w, h1, h2, h3, h4⟩ := sx_inv h
    have hle := fur_le hv (hW _ _ (dgt_lt c l) h2)
    by_cases e : j = b
    · refine Or.inr ⟨l, fur lk v w, upS sn j, by omega, hle, ?_, ?_⟩
      · unfold upS; rw [if_pos e.symm]
      · rw [← e]; exact h4
    · rcases sx_split hW b l j _ _ c u (fur_gv hv) e h4 with q | ⟨l', v', sn', q1, q2, q3, q4⟩
      · refine Or.inl ?_
        have h5 : upS sn b j = false := by unfold upS; rw [if_neg e]; exact h3
        rw [sx_step h0 h1 h2 h5, upS_comm]; exact q
      · exact Or.inr ⟨l', v', sn', by omega, by omega, q3, q4⟩
def noS : Nat → Bool := fun _ => false
/-- a loop cut out makes a way no worse, and shorter -/
theorem fx_cut (hW : okWt W) : ∀ l a v c u, gv lk v → fx L Gr W lk go l a v c = some u → ∃ l' c' u', c' < 6 ^ l' ∧ (l' < l ∨ (l' = l ∧ c' = c % 6 ^ l)) ∧ u ≤ u' ∧ sx L Gr W lk go l' a (upS noS a) v c' = some u'
  | 0, a, v, c, u, _, h => ⟨0, 0, u, by decide, Or.inr ⟨rfl, by rw [Nat.pow_zero, Nat.mod_one]⟩, Int.le_refl _, sx_0.mpr (fx_0.mp h)⟩
  | l + 1, a, v, c, u, hv, h => by
    by_cases hgo : a = go
    · exact ⟨0, 0, v, by decide, Or.inl (by omega), fx_le hW _ _ _ _ _ hv h, sx_0.mpr ⟨hgo, rfl⟩⟩
    · obtain ⟨j, w, h1, h2, h3⟩ := fx_inv h
      have hle := fur_le hv (hW _ _ (dgt_lt c l) h2)
      obtain ⟨l1, c1, u1, q1, q2, q3, q4⟩ := fx_cut hW l j _ c u (fur_gv hv) h3
      by_cases hj : j = a
      · rw [hj] at q4
        obtain ⟨u2, q5, q6⟩ := sx_mono l1 a _ _ v c1 u1 hle q4
        exact ⟨l1, c1, u2, q1, Or.inl (by omega), by omega, q5⟩
      · rcases sx_split hW a l1 j _ _ c1 u1 (fur_gv hv) hj q4 with z | ⟨l2, v2, sn2, z1, z2, z3, z4⟩
        · have hd := dgt_lt c l
          refine ⟨l1 + 1, dgt c l * 6 ^ l1 + c1, u1, ?_, ?_, q3, ?_⟩
          · rw [Nat.pow_succ]
            have h6 : dgt c l * 6 ^ l1 ≤ 5 * 6 ^ l1 := Nat.mul_le_mul_right _ (by omega)
            omega
          · rcases q2 with q2 | ⟨q2, q5⟩
            · exact Or.inl (by omega)
            · refine Or.inr ⟨by omega, ?_⟩
              rw [q5, q2]; exact dgt_cut c l
          · have e1 := dgt_app_at q1 hd
            have h5 : upS noS a j = false := by unfold upS noS; rw [if_neg hj]
            rw [sx_step hgo (by rw [e1]; exact h1) (by rw [e1]; exact h2) h5, sx_dgt (c' := c1) l1 _ _ _ (fun i hi => dgt_app_lo hi), upS_comm]
            exact z
        · have z5 := sx_weak l2 a sn2 (upS noS a) v2 c1 u1 (fun i hi => by
            unfold upS noS at hi
            by_cases e : i = a
            · rw [e]; exact z3
            · rw [if_neg e] at hi; cases hi) z4
          obtain ⟨u2, q5, q6⟩ := sx_mono l2 a _ _ v c1 u1 (by omega) z5
          refine ⟨l2, c1 % 6 ^ l2, u2, Nat.mod_lt _ (Nat.pow_pos (by decide)), Or.inl (by omega), by omega, ?_⟩
          rw [sx_dgt (c' := c1) l2 _ _ _ (fun i hi => dgt_mod hi)]; exact q5
end
