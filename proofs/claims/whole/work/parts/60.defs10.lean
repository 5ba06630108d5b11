/-! Filled. -/
def gsF (GU : Nat → Nat) (A f : Nat) : Nat → Nat := fun j => if j < A then f / 6 ^ (A - 1 - j) % 6 else GU j
def gq (A f : Nat) : Nat → Nat := fun j => f / 6 ^ (A - 1 - j) % 6
theorem div_pow6 (t a : Nat) : t / 6 ^ a / 6 = t / 6 ^ (a + 1) := by rw [Nat.div_div_eq_div_mul, Nat.pow_succ]
theorem gs_step {t m k : Nat} (hk : k + 1 ≤ m) : nI (t / 6 ^ (m - (k + 1)) / 6) = nI (t / 6 ^ (m - k)) := by
  rw [div_pow6, show m - (k + 1) + 1 = m - k by omega]
theorem gs_up {GU R1 : Nat → Nat} {t m k : Nat} (hR : ∀ j, R1 j = if k + 1 ≤ j ∧ j < m then t / 6 ^ (m - 1 - j) % 6 else GU j) (hk : k < m) : ∀ j, va_up R1 k (t / 6 ^ (m - (k + 1)) % 6) j = if k ≤ j ∧ j < m then t / 6 ^ (m - 1 - j) % 6 else GU j := by
  intro j
  unfold va_up
  by_cases e : j = k
  · rw [if_pos e, if_pos (by omega), e, show m - (k + 1) = m - 1 - k by omega]
  · rw [if_neg e, hR j]
    by_cases h2 : k + 1 ≤ j ∧ j < m
    · rw [if_pos h2, if_pos (by omega)]
    · rw [if_neg h2, if_neg (by omega)]
def ftOK (O T K : Nat → Nat) (fd : Nat) (GU : Nat → Nat) (P : Ps) (B : Nat → Nat → Nat) (SP SL : Nat → Nat) (sg : Nat) : Bool := (firstB (fun i => !efOK O T K GU P (plyB O T K fd GU P B i) i) (pN P)).isNone && (firstB (fun j => !decide (ld (plyB O T K fd GU P B (pN P)) (SP j) 0 = SL j)) sg).isNone
theorem ft_no1 {O T K : Nat → Nat} {fd : Nat} {GU : Nat → Nat} {P : Ps} {B : Nat → Nat → Nat} {SP SL : Nat → Nat} {sg i : Nat} (h : ∀ j, j < i → efOK O T K GU P (plyB O T K fd GU P B j) j = true) (hi : i < pN P) (hf : efOK O T K GU P (plyB O T K fd GU P B i) i = false) : ftOK O T K fd GU P B SP SL sg = false := by
  unfold ftOK
  rw [firstB_some (i := i) (by rw [hf]; rfl) (fun j hj => by rw [h j hj]; rfl) hi]; rfl
theorem ft_all {O T K : Nat → Nat} {fd : Nat} {GU : Nat → Nat} {P : Ps} {B : Nat → Nat → Nat} {SP SL : Nat → Nat} {sg : Nat} (h : ∀ j, j < pN P → efOK O T K GU P (plyB O T K fd GU P B j) j = true) : ftOK O T K fd GU P B SP SL sg = (firstB (fun j => !decide (ld (plyB O T K fd GU P B (pN P)) (SP j) 0 = SL j)) sg).isNone := by
  unfold ftOK
  rw [firstB_none (fun j hj => by rw [h j hj]; rfl)]; rfl
theorem ft_no2 {B : Nat → Nat → Nat} {SP SL : Nat → Nat} {sg i : Nat} (h : ∀ j, j < i → ld B (SP j) 0 = SL j) (hi : i < sg) (hf : ¬ ld B (SP i) 0 = SL i) : (firstB (fun j => !decide (ld B (SP j) 0 = SL j)) sg).isNone = false := by
  rw [firstB_some (i := i) (by rw [decide_eq_false hf]; rfl) (fun j hj => by rw [decide_eq_true (h j hj)]; rfl) hi]; rfl
theorem ft_yes {B : Nat → Nat → Nat} {SP SL : Nat → Nat} {sg : Nat} (h : ∀ j, j < sg → ld B (SP j) 0 = SL j) : (firstB (fun j => !decide (ld B (SP j) 0 = SL j)) sg).isNone = true := by
  rw [firstB_none (fun j hj => by rw [decide_eq_true (h j hj)]; rfl)]; rfl
theorem lt_next {p : Nat → Prop} {i : Nat} (h : ∀ j, j < i → p j) (hi : p i) : ∀ j, j < i + 1 → p j := by
  intro j hj
  by_cases e : j = i
  · rw [e]; exact hi
  · exact h j (by omega)
theorem spkr_c {GU GV : Nat → Nat} {P : Ps} {i A : Nat} (h : ∀ j, j < A → GU j = GV j) (hi : pS P i < 6 + A) : spkr GU P i = spkr GV P i := by
  unfold spkr
  split
  · rfl
  · exact h _ (by omega)
theorem ef_c {O T K : Nat → Nat} {fd : Nat} {GU GV : Nat → Nat} {P : Ps} {B : Nat → Nat → Nat} {i A : Nat} (h : ∀ j, j < A → GU j = GV j) (hi : pK P i = 0 ∨ pS P i < 6 + A) : efOK O T K GU P B i = efOK O T K GV P B i ∧ efB O T K fd GU P B i = efB O T K fd GV P B i := by
  unfold efOK efB
  rcases hi with h0 | h0
  · rw [if_pos h0, if_pos h0, if_pos h0, if_pos h0]; exact ⟨rfl, rfl⟩
  · rw [spkr_c h h0]; exact ⟨rfl, rfl⟩
theorem ply_c {O T K : Nat → Nat} {fd : Nat} {GU GV : Nat → Nat} {P : Ps} {B : Nat → Nat → Nat} {A : Nat} (h : ∀ j, j < A → GU j = GV j) (hi : ∀ i, i < pN P → pK P i = 0 ∨ pS P i < 6 + A) : ∀ n, n ≤ pN P → plyB O T K fd GU P B n = plyB O T K fd GV P B n
  | 0, _ => rfl
  | n + 1, hn => by
    simp only [plyB]
    rw [ply_c h hi n (by omega)]
    exact (ef_c h (hi n (by omega))).2
theorem firstB_congr {f g : Nat → Bool} : ∀ n, (∀ j, j < n → f j = g j) → firstB f n = firstB g n
  | 0, _ => rfl
  | n + 1, h => by simp only [firstB]; rw [firstB_congr n (fun j hj => h j (by omega)), h n (by omega)]
theorem ft_c {O T K : Nat → Nat} {fd : Nat} {GU GV : Nat → Nat} {P : Ps} {B : Nat → Nat → Nat} {SP SL : Nat → Nat} {sg A : Nat} (h : ∀ j, j < A → GU j = GV j) (hi : ∀ i, i < pN P → pK P i = 0 ∨ pS P i < 6 + A) : ftOK O T K fd GU P B SP SL sg = ftOK O T K fd GV P B SP SL sg := by
  unfold ftOK
  rw [ply_c h hi (pN P) (Nat.le_refl _), firstB_congr (pN P) (fun i hn => by rw [ply_c h hi i (by omega), (ef_c (fd := fd) h (hi i hn)).1])]
def fsG (gd : Nat → Bool) : Nat → Nat
  | 0 => 0
  | n + 1 => if gd n then (if cnt gd n = 0 then n else fsG gd n) else fsG gd n
theorem fsG_le (gd : Nat → Bool) : ∀ n, fsG gd n ≤ n
  | 0 => Nat.le_refl _
  | n + 1 => by
    have := fsG_le gd n
    simp only [fsG]; split
    · split <;> omega
    · omega
def flGd (O T K : Nat → Nat) (fd : Nat) (P : Ps) (B : Nat → Nat → Nat) (SP SL : Nat → Nat) (sg : Nat) : Nat → Bool := fun f => ftOK O T K fd (gq (pA P) f) P B SP SL sg
def flV (gd : Nat → Bool) (A : Nat) (x : Int32) : Int32 := if x = -1 then nI (cnt gd (6 ^ A)) else if 0 < cnt gd (6 ^ A) ∧ 0 ≤ x.toInt ∧ x.toInt < A then nI (gq A (fsG gd (6 ^ A)) (nn x)) else -6
def filR (O T K : Nat → Nat) (fd : Nat) (PS : Nat → Nat) (P : Ps) (mn : Nat) (B : Nat → Nat → Nat) (SP SL : Nat → Nat) (sg : Nat) (x : Int32) : Int32 := if rdv PS P mn = -6 then flV (flGd O T K fd (rdp PS P mn) B SP SL sg) (pA (rdp PS P mn)) x else -5
theorem gq_lt (A f j : Nat) : gq A f j < 6 := Nat.mod_lt _ (by decide)
theorem gsF_lt {GU : Nat → Nat} {A f j : Nat} (h : j < A) : gsF GU A f j = gq A f j := by unfold gsF gq; rw [if_pos h]
theorem pow6_le {A : Nat} (h : A ≤ 3) : 6 ^ A ≤ 216 := by
  have : ∀ A, A ≤ 3 → 6 ^ A ≤ 216 := by decide
  exact this A h
theorem fl_t1 {gd : Nat → Bool} {f : Nat} (h : gd f = true) (h0 : cnt gd f = 0) : cnt gd f + 1 = cnt gd (f + 1) ∧ f = fsG gd (f + 1) := by
  simp only [cnt, fsG]; rw [if_pos h, if_pos h, if_pos h0]; exact ⟨rfl, rfl⟩
theorem fl_t2 {gd : Nat → Bool} {f : Nat} (h : gd f = true) (h0 : 0 < cnt gd f) : cnt gd f + 1 = cnt gd (f + 1) ∧ fsG gd f = fsG gd (f + 1) := by
  simp only [cnt, fsG]; rw [if_pos h, if_pos h, if_neg (by omega)]; exact ⟨rfl, rfl⟩
theorem fl_f {gd : Nat → Bool} {f : Nat} (h : gd f = false) : cnt gd f = cnt gd (f + 1) ∧ fsG gd f = fsG gd (f + 1) := by
  simp only [cnt, fsG]; rw [if_neg (by rw [h]; decide), if_neg (by rw [h]; decide)]; exact ⟨rfl, rfl⟩
