/-! Days: tellings and denials to all, spreading, the word, rumours, years. -/
theorem up2_ok {B : Nat → Nat → Nat} {a p v : Nat} (hB : okB B) (hv : v ≤ 9) : okB (up2 B a p v) := by
  intro x y hx hy; unfold up2; split
  · exact hv
  · exact hB x y hx hy
theorem tellB_ok {O T K : Nat → Nat} {fd : Nat} {B : Nat → Nat → Nat} {a b p : Nat} (hB : okB B) (hfd : fd < 10) : okB (tellB O T K fd B a b p) := by
  unfold tellB; split
  · exact up2_ok hB (by omega)
  · exact hB
theorem denyB_ok {T : Nat → Nat} {B : Nat → Nat → Nat} {a b p : Nat} (hB : okB B) : okB (denyB T B a b p) := by
  unfold denyB; split
  · exact up2_ok hB (by omega)
  · exact hB
theorem fdB_ok {B : Nat → Nat → Nat} (hB : okB B) : okB (fdB B) := fun a p ha hp => by have := hB a p ha hp; unfold fdB; omega
def tAll (O T K : Nat → Nat) (fd : Nat) (B : Nat → Nat → Nat) (a p : Nat) : Nat → Nat → Nat → Nat
  | 0 => B
  | n + 1 => tellB O T K fd (tAll O T K fd B a p n) a n p
def dAll (T : Nat → Nat) (B : Nat → Nat → Nat) (a p : Nat) : Nat → Nat → Nat → Nat
  | 0 => B
  | n + 1 => denyB T (dAll T B a p n) a n p
def dCnt (T : Nat → Nat) (B : Nat → Nat → Nat) (a p : Nat) : Nat → Nat
  | 0 => 0
  | n + 1 => if denyOK T (dAll T B a p n) a n p then dCnt T B a p n + 1 else dCnt T B a p n
theorem tAll_ok {O T K : Nat → Nat} {fd : Nat} {B : Nat → Nat → Nat} {a p : Nat} (hB : okB B) (hfd : fd < 10) (hp : p < 6) : ∀ n, n ≤ 6 → okB (tAll O T K fd B a p n)
  | 0, _ => hB
  | n + 1, h => tellB_ok (tAll_ok hB hfd hp n (by omega)) hfd
theorem dAll_ok {T : Nat → Nat} {B : Nat → Nat → Nat} {a p : Nat} (hB : okB B) : ∀ n, okB (dAll T B a p n)
  | 0 => hB
  | n + 1 => denyB_ok (dAll_ok hB n)
theorem dCnt_le (T : Nat → Nat) (B : Nat → Nat → Nat) (a p : Nat) : ∀ n, dCnt T B a p n ≤ n
  | 0 => Nat.le_refl _
  | n + 1 => by have := dCnt_le T B a p n; simp only [dCnt]; split <;> omega
theorem msk_up {M i p : Nat} {O : Nat → Nat} {B : Nat → Nat → Nat} (hM : M < 64) (hi : i < 6) (hb : ∀ a, a < 6 → M.testBit a = (decide (a < i) && mayT O B a p)) (hm : mayT O B i p = true) : ∀ a, a < 6 → (setb M i true).testBit a = (decide (a < i + 1) && mayT O B a p) := by
  intro a ha
  rw [setb_bit M hM i hi true a ha]
  by_cases h : a = i
  · rw [if_pos h, h, hm]; simp
  · rw [if_neg h, hb a ha]
    by_cases h2 : a < i
    · simp [h2, show a < i + 1 by omega]
    · simp [h2, show ¬ a < i + 1 by omega]
theorem msk_no {M i p : Nat} {O : Nat → Nat} {B : Nat → Nat → Nat} (hb : ∀ a, a < 6 → M.testBit a = (decide (a < i) && mayT O B a p)) (hm : mayT O B i p = false) : ∀ a, a < 6 → M.testBit a = (decide (a < i + 1) && mayT O B a p) := by
  intro a ha
  rw [hb a ha]
  by_cases h : a = i
  · rw [h, hm]; simp
  · by_cases h2 : a < i
    · simp [h2, show a < i + 1 by omega]
    · simp [h2, show ¬ a < i + 1 by omega]
def spr (O T K : Nat → Nat) (fd : Nat) (B : Nat → Nat → Nat) (p : Nat) : Nat → Nat → Nat → Nat
  | 0 => B
  | n + 1 => if mayT O B n p then tAll O T K fd (spr O T K fd B p n) n p 6 else spr O T K fd B p n
theorem spr_ok {O T K : Nat → Nat} {fd : Nat} {B : Nat → Nat → Nat} {p : Nat} (hB : okB B) (hfd : fd < 10) (hp : p < 6) : ∀ n, n ≤ 6 → okB (spr O T K fd B p n)
  | 0, _ => hB
  | n + 1, h => by
    simp only [spr]; split
    · exact tAll_ok (spr_ok hB hfd hp n (by omega)) hfd hp 6 (by omega)
    · exact spr_ok hB hfd hp n (by omega)
theorem bit_ne {b : Bool} (h : ¬ (if b then nI 1 else nI 0) = nI 1) : b = false := by
  cases b
  · rfl
  · exact absurd rfl h
theorem bit_eq {b : Bool} (h : (if b then nI 1 else nI 0) = nI 1) : b = true := by
  cases b
  · exact absurd h (by decide)
  · rfl
theorem spr_t {O T K : Nat → Nat} {fd : Nat} {B : Nat → Nat → Nat} {p i M : Nat} (hm : M.testBit i = mayT O B i p) (h : (if M.testBit i then nI 1 else nI 0) = nI 1) : spr O T K fd B p (i + 1) = tAll O T K fd (spr O T K fd B p i) i p 6 := by
  simp only [spr]; rw [if_pos (by rw [← hm]; exact bit_eq h)]
theorem spr_f {O T K : Nat → Nat} {fd : Nat} {B : Nat → Nat → Nat} {p i M : Nat} (hm : M.testBit i = mayT O B i p) (h : ¬ (if M.testBit i then nI 1 else nI 0) = nI 1) : spr O T K fd B p (i + 1) = spr O T K fd B p i := by
  simp only [spr]; rw [if_neg (by rw [← hm, bit_ne h]; decide)]
/-- the word: first and most over the first k of the 36 pairs -/
def wd (T : Nat → Nat) (B : Nat → Nat → Nat) : Nat → Nat × Nat
  | 0 => (0, 0)
  | k + 1 => if (wd T B k).2 < dCnt T B (k / 6) (k % 6) 6 then (10 * (k / 6) + k % 6, dCnt T B (k / 6) (k % 6) 6) else wd T B k
def wdR (T : Nat → Nat) (B : Nat → Nat → Nat) (x : Int32) : Int32 := pick (decide (x = 0) || decide (x = 1)) (if x = 0 then nI (wd T B 36).1 else nI (wd T B 36).2) (-2)
theorem wd_le {T : Nat → Nat} {B : Nat → Nat → Nat} {f m k : Nat} (h : (f, m) = wd T B k) : m ≤ 6 := by
  have : ∀ k, (wd T B k).2 ≤ 6 := by
    intro k
    induction k with
    | zero => exact Nat.zero_le _
    | succ k ih => simp only [wd]; split; exact dCnt_le _ _ _ _ _; exact ih
  have h2 := this k
  rw [← h] at h2
  exact h2
theorem wd_step {T : Nat → Nat} {B : Nat → Nat → Nat} {f m a p f2 m2 : Nat} (h : (f, m) = wd T B (a * 6 + p)) (hp : p < 6) (hc : (dCnt T B a p 6 ≤ m ∧ (f2, m2) = (f, m)) ∨ (m < dCnt T B a p 6 ∧ (f2, m2) = (10 * a + p, dCnt T B a p 6))) : (f2, m2) = wd T B (a * 6 + (p + 1)) := by
  rw [show a * 6 + (p + 1) = (a * 6 + p) + 1 by omega]
  simp only [wd]
  rw [← h, show (a * 6 + p) / 6 = a by omega, show (a * 6 + p) % 6 = p by omega]
  rcases hc with ⟨h1, h2⟩ | ⟨h1, h2⟩
  · rw [if_neg (by show ¬ m < _; omega), h2]
  · rw [if_pos h1, h2]
theorem ld_le (B : Nat → Nat → Nat) (p g : Nat) : ld B p g ≤ 6 := cnt_le _ 6
def ruB (O T K : Nat → Nat) (fd : Nat) (B : Nat → Nat → Nat) (p : Nat) : Nat → Nat → Nat → Nat
  | 0 => B
  | n + 1 => fdB (spr O T K fd (ruB O T K fd B p n) p 6)
theorem ruB_ok {O T K : Nat → Nat} {fd : Nat} {B : Nat → Nat → Nat} {p : Nat} (hB : okB B) (hfd : fd < 10) (hp : p < 6) : ∀ n, okB (ruB O T K fd B p n)
  | 0 => hB
  | n + 1 => fdB_ok (spr_ok (ruB_ok hB hfd hp n) hfd hp 6 (by omega))
def ruQ (O T K : Nat → Nat) (fd : Nat) (B : Nat → Nat → Nat) (p m : Nat) (i : Nat) : Bool := decide (m ≤ ld (spr O T K fd (ruB O T K fd B p i) p 6) p 0)
def ruV (O T K : Nat → Nat) (fd : Nat) (B : Nat → Nat → Nat) (p m : Nat) : Int32 := match firstB (ruQ O T K fd B p m) 30 with
  | some i => nI (1 + i)
  | none => -6
def ruR (O T K : Nat → Nat) (fd : Nat) (B : Nat → Nat → Nat) (x1 x2 : Int32) : Int32 := pick (inR 0 5 x1) (pick (inR 1 6 x2) (if nn x2 ≤ ld B (nn x1) 0 then nI 0 else ruV O T K fd B (nn x1) (nn x2)) (-2)) (-1)
theorem ruQ_next {O T K : Nat → Nat} {fd : Nat} {B : Nat → Nat → Nat} {p m i : Nat} (hq : ∀ j, j < i → ruQ O T K fd B p m j = false) (h : ld (spr O T K fd (ruB O T K fd B p i) p 6) p 0 < m) : ∀ j, j < i + 1 → ruQ O T K fd B p m j = false := by
  intro j hj
  by_cases e : j = i
  · subst e; unfold ruQ; exact decide_eq_false (by omega)
  · exact hq j (by omega)
theorem ru_hit {O T K : Nat → Nat} {fd : Nat} {B : Nat → Nat → Nat} {p m i : Nat} (hq : ∀ j, j < i → ruQ O T K fd B p m j = false) (hi : i < 30) (h : m ≤ ld (spr O T K fd (ruB O T K fd B p i) p 6) p 0) : ruV O T K fd B p m = nI (1 + i) := by
  unfold ruV; rw [firstB_some (i := i) (by unfold ruQ; exact decide_eq_true h) hq hi]
theorem ru_none {O T K : Nat → Nat} {fd : Nat} {B : Nat → Nat → Nat} {p m : Nat} (hq : ∀ j, j < 30 → ruQ O T K fd B p m j = false) : ruV O T K fd B p m = -6 := by
  unfold ruV; rw [firstB_none hq]
def okOd (p a b : Int32) : Bool := inR 0 5 p && inR 0 5 a && inR 0 5 b && !decide (a = b)
def odR (O T K : Nat → Nat) (fd : Nat) (B : Nat → Nat → Nat) (x1 x2 x3 x4 : Int32) : Int32 := pick (okOd x1 x2 x3) (pick (decide (x4 = 0) || decide (x4 = 1)) (if x4 = 0 then nI (ld (dAll T (tAll O T K fd B (nn x2) (nn x1) 6) (nn x3) (nn x1) 6) (nn x1) 0) else nI (ld (tAll O T K fd (dAll T B (nn x3) (nn x1) 6) (nn x2) (nn x1) 6) (nn x1) 0)) (-2)) (-1)
/-- years -/
def ys (s : Nat) : Nat → Nat
  | 0 => s
  | n + 1 => (75 * ys s n + 74) % 65537
theorem ys_lt (s : Nat) (hs : s < 65537) : ∀ k, ys s k < 65537
  | 0 => hs
  | k + 1 => Nat.mod_lt _ (by decide)
def yB (O T K : Nat → Nat) (fd : Nat) (B : Nat → Nat → Nat) (s : Nat) : Nat → Nat → Nat → Nat
  | 0 => B
  | n + 1 => if (1 + n) % 10 = 0 then fdB (tellB O T K fd (yB O T K fd B s n) (ys s (n + 1) % 6) (ys s (n + 1) / 6 % 6) (ys s (n + 1) / 36 % 6)) else tellB O T K fd (yB O T K fd B s n) (ys s (n + 1) % 6) (ys s (n + 1) / 6 % 6) (ys s (n + 1) / 36 % 6)
def yN (O T K : Nat → Nat) (fd : Nat) (B : Nat → Nat → Nat) (s : Nat) : Nat → Nat
  | 0 => 0
  | n + 1 => if tellOK O T K (yB O T K fd B s n) (ys s (n + 1) % 6) (ys s (n + 1) / 6 % 6) (ys s (n + 1) / 36 % 6) then yN O T K fd B s n + 1 else yN O T K fd B s n
theorem yB_ok {O T K : Nat → Nat} {fd : Nat} {B : Nat → Nat → Nat} {s : Nat} (hB : okB B) (hfd : fd < 10) : ∀ n, okB (yB O T K fd B s n)
  | 0 => hB
  | n + 1 => by
    simp only [yB]; split
    · exact fdB_ok (tellB_ok (yB_ok hB hfd n) hfd)
    · exact tellB_ok (yB_ok hB hfd n) hfd
theorem yN_le (O T K : Nat → Nat) (fd : Nat) (B : Nat → Nat → Nat) (s : Nat) : ∀ n, yN O T K fd B s n ≤ n
  | 0 => Nat.le_refl _
  | n + 1 => by have := yN_le O T K fd B s n; simp only [yN]; split <;> omega
theorem yB_d {O T K : Nat → Nat} {fd : Nat} {B : Nat → Nat → Nat} {s k : Nat} (h : (1 + k) % 10 = 0) : fdB (tellB O T K fd (yB O T K fd B s k) (ys s (k + 1) % 6) (ys s (k + 1) / 6 % 6) (ys s (k + 1) / 36 % 6)) = yB O T K fd B s (k + 1) := by
  simp only [yB]; rw [if_pos h]
theorem yB_n {O T K : Nat → Nat} {fd : Nat} {B : Nat → Nat → Nat} {s k : Nat} (h : 0 < (1 + k) % 10) : tellB O T K fd (yB O T K fd B s k) (ys s (k + 1) % 6) (ys s (k + 1) / 6 % 6) (ys s (k + 1) / 36 % 6) = yB O T K fd B s (k + 1) := by
  simp only [yB]; rw [if_neg (by omega)]
theorem yN_t {O T K : Nat → Nat} {fd : Nat} {B : Nat → Nat → Nat} {s k : Nat} (h : tellOK O T K (yB O T K fd B s k) (ys s (k + 1) % 6) (ys s (k + 1) / 6 % 6) (ys s (k + 1) / 36 % 6) = true) : yN O T K fd B s k + 1 = yN O T K fd B s (k + 1) := by
  simp only [yN]; rw [if_pos h]
theorem yN_f {O T K : Nat → Nat} {fd : Nat} {B : Nat → Nat → Nat} {s k : Nat} (h : tellOK O T K (yB O T K fd B s k) (ys s (k + 1) % 6) (ys s (k + 1) / 6 % 6) (ys s (k + 1) / 36 % 6) = false) : yN O T K fd B s k = yN O T K fd B s (k + 1) := by
  simp only [yN]; rw [if_neg (by rw [h]; decide)]
def yrR (O T K : Nat → Nat) (fd : Nat) (B : Nat → Nat → Nat) (x1 x2 x3 : Int32) : Int32 := pick (isPA x3) (pick (inR 0 9999 x1 && inR 1 99 x2) (if x3 = -1 then nI (yN O T K fd B (nn x1) (nn x2)) else nI (ld (yB O T K fd B (nn x1) (nn x2)) (nn x3) 0)) (-2)) (-1)
theorem isPA_ge {x : Int32} (h : isPA x = true) (h0 : 0 ≤ x.toInt) : ¬ x = -1 ∧ ∃ j, j < 6 ∧ x = nI j := by
  have hne : ¬ x = -1 := fun z => by rw [z, neg1_toInt] at h0; omega
  exact ⟨hne, isPA_ne h hne⟩
theorem isPA_lt {x : Int32} (h : isPA x = true) (h0 : x.toInt < 0) : x = -1 := by
  by_cases hne : x = -1
  · exact hne
  · obtain ⟨j, hj, rfl⟩ := isPA_ne h hne
    rw [nI_tI (by omega)] at h0; omega
/-- the check's own roads -/
def toA (O T K : Nat → Nat) (fd : Nat) (B : Nat → Nat → Nat) (a p : Nat) (dn : Bool) (n : Nat) : Nat → Nat → Nat := if dn then dAll T B a p n else tAll O T K fd B a p n
theorem toA_0 {O T K : Nat → Nat} {fd : Nat} {B : Nat → Nat → Nat} {a p : Nat} {dn : Bool} : toA O T K fd B a p dn 0 = B := by cases dn <;> rfl
theorem toA_t {O T K : Nat → Nat} {fd : Nat} {B : Nat → Nat → Nat} {a p i : Nat} {dn : Bool} (h : dn = true) : denyB T (toA O T K fd B a p dn i) a i p = toA O T K fd B a p dn (i + 1) := by subst h; rfl
theorem toA_f {O T K : Nat → Nat} {fd : Nat} {B : Nat → Nat → Nat} {a p i : Nat} {dn : Bool} (h : dn = false) : tellB O T K fd (toA O T K fd B a p dn i) a i p = toA O T K fd B a p dn (i + 1) := by subst h; rfl
theorem toA_ok {O T K : Nat → Nat} {fd : Nat} {B : Nat → Nat → Nat} {a p : Nat} {dn : Bool} (hB : okB B) (hfd : fd < 10) (hp : p < 6) (n : Nat) (hn : n ≤ 6) : okB (toA O T K fd B a p dn n) := by
  unfold toA; split
  · exact dAll_ok hB n
  · exact tAll_ok hB hfd hp n hn
def wdM (T : Nat → Nat) (B : Nat → Nat → Nat) (k f : Nat) (mo : Int32) : Prop := (k = 0 ∧ f = 0 ∧ mo = -6) ∨ (1 ≤ k ∧ f = (wd T B k).1 ∧ mo = nI (wd T B k).2)
theorem neg6_toInt : (-6 : Int32).toInt = -6 := by decide
theorem wd_one (T : Nat → Nat) (B : Nat → Nat → Nat) : wd T B 1 = (0, dCnt T B 0 0 6) := by
  show (if 0 < dCnt T B 0 0 6 then (10 * 0 + 0, dCnt T B 0 0 6) else (0, 0)) = _
  by_cases hh : 0 < dCnt T B 0 0 6
  · rw [if_pos hh]
  · rw [if_neg hh, show dCnt T B 0 0 6 = 0 by omega]
theorem wdM_step {T : Nat → Nat} {B : Nat → Nat → Nat} {f a p f2 : Nat} {mo mo2 : Int32} (h : wdM T B (a * 6 + p) f mo) (hp : p < 6) (hc : ((nI (dCnt T B a p 6)).toInt ≤ mo.toInt ∧ f2 = f ∧ mo2 = mo) ∨ (mo.toInt < (nI (dCnt T B a p 6)).toInt ∧ f2 = 10 * a + p ∧ mo2 = nI (dCnt T B a p 6))) : wdM T B (a * 6 + (p + 1)) f2 mo2 := by
  have hd := dCnt_le T B a p 6
  rw [nI_tI (show dCnt T B a p 6 < 2147483648 by omega)] at hc
  refine Or.inr ⟨by omega, ?_⟩
  rcases h with ⟨h1, h2, h3⟩ | ⟨h1, h2, h3⟩
  · subst h3
    rw [neg6_toInt] at hc
    have ha : a = 0 := by omega
    have hp0 : p = 0 := by omega
    subst ha
    subst hp0
    show f2 = (wd T B 1).1 ∧ mo2 = nI (wd T B 1).2
    rw [wd_one]
    rcases hc with ⟨q1, q2, q3⟩ | ⟨q1, q2, q3⟩
    · omega
    · exact ⟨q2, q3⟩
  · have hm : (wd T B (a * 6 + p)).2 ≤ 6 := wd_le (f := (wd T B (a * 6 + p)).1) (m := (wd T B (a * 6 + p)).2) rfl
    subst h3
    rw [nI_tI (by omega)] at hc
    rcases hc with ⟨q1, q2, q3⟩ | ⟨q1, q2, q3⟩
    · have e := wd_step (T := T) (B := B) (a := a) (p := p) (f := (wd T B (a * 6 + p)).1) (m := (wd T B (a * 6 + p)).2) rfl hp (Or.inl ⟨by omega, rfl⟩)
      rw [← e]; exact ⟨by rw [q2, h2], q3⟩
    · have e := wd_step (T := T) (B := B) (a := a) (p := p) (f := (wd T B (a * 6 + p)).1) (m := (wd T B (a * 6 + p)).2) rfl hp (Or.inr ⟨by omega, rfl⟩)
      rw [← e]; exact ⟨q2, q3⟩
theorem wdM_end {T : Nat → Nat} {B : Nat → Nat → Nat} {f : Nat} {mo : Int32} (h : wdM T B (6 * 6) f mo) : f = (wd T B 36).1 ∧ mo = nI (wd T B 36).2 := by
  rcases h with ⟨h1, -, -⟩ | ⟨-, h2, h3⟩
  · omega
  · exact ⟨h2, h3⟩
theorem ch01_iff (x : Int32) : (decide (x = 0) || decide (x = 1)) = inR 0 1 x := by
  unfold inR
  by_cases h0 : x = 0
  · subst h0; decide
  · by_cases h1 : x = 1
    · subst h1; decide
    · rw [decide_eq_false h0, decide_eq_false h1]
      symm
      apply decide_eq_false
      intro hh
      have e0 : (0 : Int32).toInt = 0 := by decide
      have e1 : (1 : Int32).toInt = 1 := by decide
      have n0 : ¬ x.toInt = 0 := fun z => h0 (Int32.toInt_inj.mp (by rw [z, e0]))
      have n1 : ¬ x.toInt = 1 := fun z => h1 (Int32.toInt_inj.mp (by rw [z, e1]))
      omega
theorem ch01 {x : Int32} (h : inR 0 1 x = false) : (decide (x = 0) || decide (x = 1)) = false := by rw [ch01_iff]; exact h
theorem ch01t {x : Int32} (h : inR 0 1 x = true) : (decide (x = 0) || decide (x = 1)) = true := by rw [ch01_iff]; exact h
theorem ch01s {x : Int32} (h : inR 0 1 x = true) : x = nI 0 ∨ x = nI 1 := by
  obtain ⟨j, hj, rfl⟩ := inR_of (k := 1) rfl (by decide) h
  rcases (show j = 0 ∨ j = 1 by omega) with rfl | rfl
  · exact Or.inl rfl
  · exact Or.inr rfl
theorem or0 : ∀ m, m < 64 → nI m ||| nI 0 = nI m := by decide +kernel
theorem pw_lt {b : Nat} (h : b < 6) : 2 ^ b < 64 := by
  have : ∀ b, b < 6 → 2 ^ b < 64 := by decide
  exact this b h
theorem pw_bit {b a : Nat} (hb : b < 6) (ha : a < 6) : (2 ^ b).testBit a = decide (b = a) := by
  have : ∀ b, b < 6 → ∀ a, a < 6 → (2 ^ b).testBit a = decide (b = a) := by decide
  exact this b hb a ha
theorem mskm_up {M i p o : Nat} {B : Nat → Nat → Nat} (hM : M < 64) (hi : i < 6) (hb : ∀ a, a < 6 → M.testBit a = (decide (o = a) || (decide (a < i) && decide (0 < B a p)))) (hm : 0 < B i p) : ∀ a, a < 6 → (setb M i true).testBit a = (decide (o = a) || (decide (a < i + 1) && decide (0 < B a p))) := by
  intro a ha
  rw [setb_bit M hM i hi true a ha]
  by_cases h : a = i
  · rw [if_pos h, h]; simp [hm]
  · rw [if_neg h, hb a ha]
    by_cases h2 : a < i
    · simp [h2, show a < i + 1 by omega]
    · simp [h2, show ¬ a < i + 1 by omega]
theorem mskm_no {M i p o : Nat} {B : Nat → Nat → Nat} (hb : ∀ a, a < 6 → M.testBit a = (decide (o = a) || (decide (a < i) && decide (0 < B a p)))) (hm : B i p = 0) : ∀ a, a < 6 → M.testBit a = (decide (o = a) || (decide (a < i + 1) && decide (0 < B a p))) := by
  intro a ha
  rw [hb a ha]
  by_cases h : a = i
  · rw [h, hm]; simp
  · by_cases h2 : a < i
    · simp [h2, show a < i + 1 by omega]
    · simp [h2, show ¬ a < i + 1 by omega]
theorem sprT {O T K : Nat → Nat} {fd : Nat} {B : Nat → Nat → Nat} {p a M : Nat} (hm : M.testBit a = mayT O B a p) (hb : M.testBit a = true) : spr O T K fd B p (a + 1) = tAll O T K fd (spr O T K fd B p a) a p 6 := by
  simp only [spr]; rw [if_pos (by rw [← hm]; exact hb)]
theorem sprF {O T K : Nat → Nat} {fd : Nat} {B : Nat → Nat → Nat} {p a M : Nat} (hm : M.testBit a = mayT O B a p) (hb : M.testBit a = false) : spr O T K fd B p (a + 1) = spr O T K fd B p a := by
  simp only [spr]; rw [if_neg (by rw [← hm, hb]; decide)]
theorem sprZ {a b M : Nat} (h : b = 0 ∨ M.testBit a = true) (hb : M.testBit a = false) : 0 = b := by
  rcases h with q | q
  · exact q.symm
  · rw [hb] at q; cases q
theorem and_f1 {a b : Bool} (h : a = false) : (a && b) = false := by rw [h]; rfl
theorem and_f2 {a b : Bool} (h : b = false) : (a && b) = false := by rw [h]; cases a <;> rfl
theorem ch0 : (decide (nI 0 = 0) || decide (nI 0 = 1)) = true := by decide
theorem ch1 : (decide (nI 1 = 0) || decide (nI 1 = 1)) = true := by decide
theorem ch0e : nI 0 = 0 := rfl
theorem ch1e : ¬ nI 1 = 0 := by decide
