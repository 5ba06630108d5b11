/-! The check's search for the safest way, and what it answers of it. -/
def moI (st : Es) : Int32 := match st with
  | none => -6
  | some q => nI q.1
def suI (st : Es) (w : Int32) : Int32 := match st with
  | none => w
  | some q => nI (q.1 / 10 ^ (5 - q.2.1))
def smI (st : Es) (w : Int32) : Int32 := match st with
  | none => w
  | some q => nI q.2.1
def skI (st : Es) (w : Int32) : Int32 := match st with
  | none => w
  | some q => nI q.2.2
section
variable {L Gr S : Nat → Nat} {b a mm c : Nat}
theorem gsw_le (hS : okS S) : ∀ l a u c t, gs L Gr S b l a u c = some t → t ≤ u * 10 ^ l
  | 0, a, u, c, t, h => by
    simp only [gs] at h
    split at h
    · cases h; rw [Nat.pow_zero, Nat.mul_one]; exact Nat.le_refl _
    · cases h
  | l + 1, a, u, c, t, h => by
    cases e : nxt L Gr (dgt c l) a with
    | none => rw [gsw_none e] at h; cases h
    | some j =>
      rw [gsw_step e] at h
      have h1 := gsw_le hS l j _ c t h
      have h2 : u * S (dgt c l) ≤ u * 10 := Nat.mul_le_mul_left u (hS _ (dgt_lt c l))
      have h3 : u * S (dgt c l) * 10 ^ l ≤ u * 10 * 10 ^ l := Nat.mul_le_mul_right _ h2
      rw [Nat.pow_succ', ← Nat.mul_assoc]
      omega
theorem sfG_le (hS : okS S) {m x : Nat} (hm : m < 6) (h : sfG L Gr S b a m c = some x) : x ≤ 100000 := by
  obtain ⟨t, h1, h2⟩ := sfG_some.mp h
  have h3 := gsw_le hS m a 1 c t h1
  rw [Nat.one_mul] at h3
  have h4 : t * 10 ^ (5 - m) ≤ 10 ^ m * 10 ^ (5 - m) := Nat.mul_le_mul_right _ h3
  rw [← Nat.pow_add, show m + (5 - m) = 5 by omega] at h4
  rw [h2]; exact h4
theorem sf_bd (hS : okS S) (hmm : mm < 6) {q : Nat × Nat × Nat} (h : enC (sfG L Gr S b a) mm (enA (sfG L Gr S b a) mm) c = some q) : q.1 ≤ 100000 := by
  obtain ⟨h1, h2, -⟩ := (enC_ok (m := mm) (enA_ok (sfG L Gr S b a) mm) (fun _ _ z => z.1) c).2 q h
  have hm : q.2.1 < 6 := by rcases h1 with z | z <;> omega
  exact sfG_le hS hm h2
theorem sf_no {st : Es} (h : gs L Gr S b mm a 1 c = none) : enC (sfG L Gr S b a) mm st (c + 1) = enC (sfG L Gr S b a) mm st c := by
  have e : sfG L Gr S b a mm c = none := by unfold sfG; rw [h]
  simp only [enC, enS]; rw [e]
theorem sf_keep {up : Nat} (hS : okS S) (hmm : mm < 6) (h : gs L Gr S b mm a 1 c = some up) (hup : up * 10 ^ (5 - mm) ≤ 100000) (hc : (nI (up * 10 ^ (5 - mm))).toInt ≤ (moI (enC (sfG L Gr S b a) mm (enA (sfG L Gr S b a) mm) c)).toInt) : enC (sfG L Gr S b a) mm (enA (sfG L Gr S b a) mm) (c + 1) = enC (sfG L Gr S b a) mm (enA (sfG L Gr S b a) mm) c := by
  have hb := fun q => sf_bd (L := L) (Gr := Gr) (b := b) (a := a) (c := c) hS hmm (q := q)
  show enS (sfG L Gr S b a) mm c (enC (sfG L Gr S b a) mm (enA (sfG L Gr S b a) mm) c) = _
  generalize enC (sfG L Gr S b a) mm (enA (sfG L Gr S b a) mm) c = s1 at hc hb
  have e : sfG L Gr S b a mm c = some (up * 10 ^ (5 - mm)) := by unfold sfG; rw [h]
  rw [nI_tI (by omega)] at hc
  unfold enS; rw [e]
  cases s1 with
  | none => exfalso; have hc : ((up * 10 ^ (5 - mm) : Nat) : Int) ≤ (-6 : Int32).toInt := hc; rw [neg6_toInt] at hc; omega
  | some q =>
    have hq := hb q rfl
    have hc : ((up * 10 ^ (5 - mm) : Nat) : Int) ≤ (nI q.1).toInt := hc
    rw [nI_tI (by omega)] at hc
    exact if_neg (by omega)
theorem sf_put {up : Nat} (hS : okS S) (hmm : mm < 6) (h : gs L Gr S b mm a 1 c = some up) (hup : up * 10 ^ (5 - mm) ≤ 100000) (hc : (moI (enC (sfG L Gr S b a) mm (enA (sfG L Gr S b a) mm) c)).toInt < (nI (up * 10 ^ (5 - mm))).toInt) : enC (sfG L Gr S b a) mm (enA (sfG L Gr S b a) mm) (c + 1) = some (up * 10 ^ (5 - mm), mm, c) := by
  have hb := fun q => sf_bd (L := L) (Gr := Gr) (b := b) (a := a) (c := c) hS hmm (q := q)
  show enS (sfG L Gr S b a) mm c (enC (sfG L Gr S b a) mm (enA (sfG L Gr S b a) mm) c) = _
  generalize enC (sfG L Gr S b a) mm (enA (sfG L Gr S b a) mm) c = s1 at hc hb
  have e : sfG L Gr S b a mm c = some (up * 10 ^ (5 - mm)) := by unfold sfG; rw [h]
  rw [nI_tI (n := up * 10 ^ (5 - mm)) (by omega)] at hc
  unfold enS; rw [e]
  cases s1 with
  | none => rfl
  | some q =>
    have hq := hb q rfl
    have hc : (nI q.1).toInt < ((up * 10 ^ (5 - mm) : Nat) : Int) := hc
    rw [nI_tI (by omega)] at hc
    exact if_pos (by omega)
theorem su_put {st : Es} {up : Nat} {w : Int32} (h : st = some (up * 10 ^ (5 - mm), mm, c)) : nI up = suI st w := by
  rw [h]
  show nI up = nI (up * 10 ^ (5 - mm) / 10 ^ (5 - mm))
  rw [Nat.mul_div_cancel _ (Nat.pow_pos (by decide))]
theorem all_le {up : Nat} (hmm : mm < 6) (h : up ≤ 10 ^ mm) : up * 10 ^ (5 - mm) ≤ 100000 := by
  have h4 : up * 10 ^ (5 - mm) ≤ 10 ^ mm * 10 ^ (5 - mm) := Nat.mul_le_mul_right _ h
  rw [← Nat.pow_add, show mm + (5 - mm) = 5 by omega] at h4
  exact h4
theorem up_step {k u s : Nat} (hu : u ≤ 10 ^ k) (hs : s ≤ 10) : u * s ≤ 10 ^ (k + 1) := by
  rw [Nat.pow_succ]; exact Nat.mul_le_mul hu hs
theorem up_le {k u : Nat} (hu : u ≤ 10 ^ k) (hk : k ≤ mm) : u ≤ 10 ^ mm := Nat.le_trans hu (Nat.pow_le_pow_right (by decide) hk)
theorem sfS_in (hS : okS S) {q : Nat × Nat × Nat} (h : sfS L Gr S b a = some q) : q.2.1 < 6 ∧ q.2.2 < 6 ^ q.2.1 ∧ q.1 ≤ 100000 ∧ q.2.2 < 7776 := by
  obtain ⟨⟨h1, h2⟩, h3, -⟩ := (enA_ok (sfG L Gr S b a) 6).2 q h
  have := pw6_lt h1
  exact ⟨h1, h2, sfG_le hS h1 h3, by omega⟩
theorem sf_t (hS : okS S) (h : 0 ≤ (moI (sfS L Gr S b a)).toInt) : (sfS L Gr S b a).isSome = true := by
  cases e : sfS L Gr S b a with
  | none => rw [e] at h; exact absurd h (by decide)
  | some q => rfl
theorem sf_f (hS : okS S) (h : (moI (sfS L Gr S b a)).toInt < 0) : (sfS L Gr S b a).isSome = false := by
  cases e : sfS L Gr S b a with
  | none => rfl
  | some q =>
    have h2 := sfS_in hS e
    rw [e] at h
    have h : (nI q.1).toInt < 0 := h
    rw [nI_tI (by omega)] at h; omega
end
theorem es_some {st : Es} (h : st.isSome = true) : ∃ q, st = some q := by
  cases st with
  | none => cases h
  | some q => exact ⟨q, rfl⟩
theorem es_none {st : Es} (h : st.isSome = false) : st = none := by
  cases st with
  | none => rfl
  | some q => cases h
def sfW (st : Es) (x : Int32) : Int32 := match st with
  | none => -6
  | some q => if 0 ≤ x.toInt ∧ x.toInt < q.2.1 then nI (dgt q.2.2 (q.2.1 - 1 - nn x)) else -6
def sfM (L Gr S : Nat → Nat) (x1 x2 x3 : Int32) : Int32 := pick (inR 0 5 x1 && inR 0 5 x2) (sfW (sfS L Gr S (nn x2) (nn x1)) x3) (-1)
theorem sw_no {st : Es} {x : Int32} (h : st = none) : sfW st x = -6 := by subst h; rfl
theorem sw_in {st : Es} {q : Nat × Nat × Nat} {i : Nat} (h : st = some q) (hi : i < q.2.1) (h6 : q.2.1 < 6) : sfW st (nI i) = nI (dgt q.2.2 (q.2.1 - 1 - i)) := by
  subst h
  show (if 0 ≤ (nI i).toInt ∧ (nI i).toInt < (q.2.1 : Int) then nI (dgt q.2.2 (q.2.1 - 1 - nn (nI i))) else -6) = _
  rw [if_pos (by rw [nI_tI (by omega)]; omega), nn_nI (by omega)]
theorem sw_out {st : Es} {q : Nat × Nat × Nat} {x : Int32} (h : st = some q) (hi : ¬ (0 ≤ x.toInt ∧ x.toInt < (q.2.1 : Int))) : sfW st x = -6 := by
  subst h; exact if_neg hi
theorem sf_eq {L Gr S : Nat → Nat} {s : Ws} {x1 x2 x3 : Int32} (hS : okS S) : sfM L Gr S x1 x2 x3 = sfR L Gr S s x1 x2 x3 := by
  unfold sfM sfR
  by_cases h1 : (inR 0 5 x1 && inR 0 5 x2) = true
  · rw [pick_t h1, pick_t h1]
    rcases sf_best (L := L) (Gr := Gr) (go := nn x2) hS s (nn x1) with ⟨h3, h4⟩ | ⟨x, l, c, h3, h4, h5, h6, h7, h8, h9⟩
    · rw [h4]; unfold stR; rw [h3]; rfl
    · rw [h4]
      unfold stR sfW
      rw [h3]
      simp only []
      by_cases hi : 0 ≤ x3.toInt ∧ x3.toInt < (l : Int)
      · rw [if_pos hi, if_pos hi, h9 (nn x3) (by obtain ⟨y, hy, rfl⟩ := nat_of hi.1; rw [nn_big hy]; rw [nI_tI hy] at hi; omega)]
      · rw [if_neg hi, if_neg hi]
  · rw [Bool.not_eq_true] at h1; rw [pick_f h1, pick_f h1]
/-! The chance. -/
def caU (st : Es) : Nat := match st with
  | none => 0
  | some q => q.1 / 10 ^ (5 - q.2.1)
def caL (st : Es) : Nat := match st with
  | none => 1
  | some q => 10 ^ q.2.1
def caM (L Gr S : Nat → Nat) (x1 x2 x3 : Int32) : Int64 := if (inR 0 5 x1 && inR 0 5 x2) = true then (if (decide (x3 = 0) || decide (x3 = 1)) = true then
  (if x3 = 0 then lI ((caU (sfS L Gr S (nn x2) (nn x1)) / Nat.gcd (caU (sfS L Gr S (nn x2) (nn x1))) (caL (sfS L Gr S (nn x2) (nn x1))) : Nat) : Int)
   else lI ((caL (sfS L Gr S (nn x2) (nn x1)) / Nat.gcd (caU (sfS L Gr S (nn x2) (nn x1))) (caL (sfS L Gr S (nn x2) (nn x1))) : Nat) : Int)) else -1000000000000000002) else -1000000000000000001
theorem cu_n {st : Es} (h : st.isSome = false) : 0 = caU st := by rw [es_none h]; rfl
theorem cl_n {st : Es} (h : st.isSome = false) : 1 = caL st := by rw [es_none h]; rfl
theorem cu_s {st : Es} {q : Nat × Nat × Nat} (h : st = some q) : q.1 / 10 ^ (5 - q.2.1) = caU st := by rw [h]; rfl
theorem cl_s {st : Es} {q : Nat × Nat × Nat} (h : st = some q) : 10 ^ q.2.1 = caL st := by rw [h]; rfl
theorem ca_bd {L Gr S : Nat → Nat} {b a : Nat} (hS : okS S) : caU (sfS L Gr S b a) ≤ 100000 ∧ 1 ≤ caL (sfS L Gr S b a) ∧ caL (sfS L Gr S b a) ≤ 100000 := by
  cases e : sfS L Gr S b a with
  | none => exact ⟨by decide, by decide, by decide⟩
  | some q =>
    have h := sfS_in hS e
    have h2 : q.1 / 10 ^ (5 - q.2.1) ≤ q.1 := Nat.div_le_self _ _
    have h3 : ∀ m, m < 6 → 1 ≤ 10 ^ m ∧ 10 ^ m ≤ 100000 := by decide
    have h4 := h3 q.2.1 h.1
    exact ⟨by show q.1 / 10 ^ (5 - q.2.1) ≤ 100000; omega, h4.1, h4.2⟩
theorem ca_eq {L Gr S : Nat → Nat} {s : Ws} {x1 x2 x3 : Int32} (hS : okS S) : caM L Gr S x1 x2 x3 = caR L Gr S s x1 x2 x3 := by
  unfold caM caR
  have key : ∀ a b : Nat, caU (sfS L Gr S b a) / Nat.gcd (caU (sfS L Gr S b a)) (caL (sfS L Gr S b a)) = upR (wkF L Gr (fun p => some (S p)) true b 5 a (2 ^ a) 1000000 (wT s, wB s, none, 0)) / Nat.gcd 1000000 (upR (wkF L Gr (fun p => some (S p)) true b 5 a (2 ^ a) 1000000 (wT s, wB s, none, 0))) ∧
      caL (sfS L Gr S b a) / Nat.gcd (caU (sfS L Gr S b a)) (caL (sfS L Gr S b a)) = 1000000 / Nat.gcd 1000000 (upR (wkF L Gr (fun p => some (S p)) true b 5 a (2 ^ a) 1000000 (wT s, wB s, none, 0))) := by
    intro a b
    rcases sf_best (L := L) (Gr := Gr) (go := b) hS s a with ⟨h3, h4⟩ | ⟨x, l, c, h3, h4, h5, h6, h7, h8, h9⟩
    · unfold upR
      rw [h4, h3]
      simp only [Option.isSome_none, Bool.false_eq_true, if_false]
      exact ⟨by decide, by decide⟩
    · obtain ⟨t, q1, q2⟩ := sfG_some.mp h8
      have hu : upR (wkF L Gr (fun p => some (S p)) true b 5 a (2 ^ a) 1000000 (wT s, wB s, none, 0)) = 10 ^ (6 - l) * t := by
        unfold upR
        rw [h3, h5, ten6 h6, q2]
        show Int.toNat ((10 * (t * 10 ^ (5 - l)) : Nat) : Int) = _
        exact Int.toNat_natCast _
      have hU : caU (some (x, l, c)) = t := by
        show x / 10 ^ (5 - l) = t
        rw [q2, Nat.mul_div_cancel _ (Nat.pow_pos (by decide))]
      have hL : caL (some (x, l, c)) = 10 ^ l := rfl
      rw [h4, hu, hU, hL]
      have hM : (1000000 : Nat) = 10 ^ (6 - l) * 10 ^ l := by rw [← Nat.pow_add, show 6 - l + l = 6 by omega]
      rw [hM, Nat.gcd_mul_left, Nat.gcd_comm t]
      have hp : 0 < 10 ^ (6 - l) := Nat.pow_pos (by decide)
      exact ⟨(Nat.mul_div_mul_left _ _ hp).symm, (Nat.mul_div_mul_left _ _ hp).symm⟩
  rw [(key (nn x1) (nn x2)).1, (key (nn x1) (nn x2)).2]
theorem ch_loop {x y u l : Nat} (h : Nat.gcd x y = Nat.gcd u l) (hy : y = 0) : x = Nat.gcd u l := by
  rw [← h, hy, Nat.gcd_zero_right]
/-! Images. -/
def pk0 (L Gr O T K S : Nat → Nat) (B : Nat → Nat → Nat) (SP SL : Nat → Nat) (fd sg : Nat) : Nat → Nat := fun j => if j < 36 then flM B j else if j < 42 then L (j - 36) else if j < 48 then Gr (j - 42) else if j < 54 then O (j - 48) else if j < 60 then T (j - 54) else if j < 66 then K (j - 60) else if j < 72 then S (j - 66) else if j < 84 then flS SP SL (j - 72) else if j = 84 then fd else sg
def imP (fI : Nat → Int32) (A : Nat) (pk : Nat → Nat) : Nat → Int32 := fun j => if A ≤ j ∧ j < A + 86 then nI (pk (j - A)) else fI j
theorem im_one {g v fI : Nat → Int32} {A i : Nat} {x : Int32} (h : ∀ j, g j = if A ≤ j ∧ j < A + i then v j else fI j) (hx : x = v (A + i)) : ∀ j, upd g (A + i) x j = if A ≤ j ∧ j < A + (i + 1) then v j else fI j := by
  intro j
  unfold upd
  by_cases e : j = A + i
  · rw [if_pos e, if_pos (by omega), hx, e]
  · rw [if_neg e, h j]
    by_cases q : A ≤ j ∧ j < A + i
    · rw [if_pos q, if_pos (by omega)]
    · rw [if_neg q, if_neg (by omega)]
theorem im_six {g v fI : Nat → Int32} {A i : Nat} {x1 x2 x3 x4 x5 x6 : Int32} (hi : i < 6) (h : ∀ j, g j = if A ≤ j ∧ (j < A + 36 ∨ (A + 36 ≤ j ∧ j < A + 72 ∧ (j - A) % 6 < i)) then v j else fI j)
    (h1 : x1 = v (A + 36 + i)) (h2 : x2 = v (A + 42 + i)) (h3 : x3 = v (A + 48 + i)) (h4 : x4 = v (A + 54 + i)) (h5 : x5 = v (A + 60 + i)) (h6 : x6 = v (A + 66 + i)) :
    ∀ j, upd (upd (upd (upd (upd (upd g (A + 36 + i) x1) (A + 42 + i) x2) (A + 48 + i) x3) (A + 54 + i) x4) (A + 60 + i) x5) (A + 66 + i) x6 j = if A ≤ j ∧ (j < A + 36 ∨ (A + 36 ≤ j ∧ j < A + 72 ∧ (j - A) % 6 < i + 1)) then v j else fI j := by
  intro j
  unfold upd
  by_cases e6 : j = A + 66 + i
  · rw [if_pos e6, if_pos (by omega), h6, e6]
  · rw [if_neg e6]
    by_cases e5 : j = A + 60 + i
    · rw [if_pos e5, if_pos (by omega), h5, e5]
    · rw [if_neg e5]
      by_cases e4 : j = A + 54 + i
      · rw [if_pos e4, if_pos (by omega), h4, e4]
      · rw [if_neg e4]
        by_cases e3 : j = A + 48 + i
        · rw [if_pos e3, if_pos (by omega), h3, e3]
        · rw [if_neg e3]
          by_cases e2 : j = A + 42 + i
          · rw [if_pos e2, if_pos (by omega), h2, e2]
          · rw [if_neg e2]
            by_cases e1 : j = A + 36 + i
            · rw [if_pos e1, if_pos (by omega), h1, e1]
            · rw [if_neg e1, h j]
              by_cases q : A ≤ j ∧ (j < A + 36 ∨ (A + 36 ≤ j ∧ j < A + 72 ∧ (j - A) % 6 < i))
              · rw [if_pos q, if_pos (by omega)]
              · rw [if_neg q, if_neg (by omega)]
theorem im_last {g v fI : Nat → Int32} {A : Nat} {x y : Int32} (h : ∀ j, g j = if A ≤ j ∧ j < A + 84 then v j else fI j) (hx : x = v (A + 84)) (hy : y = v (A + 85)) : ∀ j, upd (upd g (A + 84) x) (A + 85) y j = if A ≤ j ∧ j < A + 86 then v j else fI j := by
  intro j
  unfold upd
  by_cases e1 : j = A + 85
  · rw [if_pos e1, if_pos (by omega), hy, e1]
  · rw [if_neg e1]
    by_cases e2 : j = A + 84
    · rw [if_pos e2, if_pos (by omega), hx, e2]
    · rw [if_neg e2, h j]
      by_cases q : A ≤ j ∧ j < A + 84
      · rw [if_pos q, if_pos (by omega)]
      · rw [if_neg q, if_neg (by omega)]
section
variable {L Gr O T K S SP SL : Nat → Nat} {B : Nat → Nat → Nat} {fd sg A i : Nat}
theorem pk_add0 (f : Nat → Nat) (A k : Nat) : f (A + k - A) = f k := by rw [Nat.add_sub_cancel_left]
theorem pk_B (hi : i < 36) : nI (flM B i) = nI (pk0 L Gr O T K S B SP SL fd sg (A + i - A)) := by
  rw [pk_add0 (pk0 L Gr O T K S B SP SL fd sg) A i]; unfold pk0; rw [if_pos hi]
theorem pk_L (hi : i < 6) : nI (L i) = nI (pk0 L Gr O T K S B SP SL fd sg (A + 36 + i - A)) := by
  rw [show A + 36 + i - A = 36 + i by omega]; unfold pk0; rw [if_neg (by omega), if_pos (by omega), Nat.add_sub_cancel_left]
theorem pk_G (hi : i < 6) : nI (Gr i) = nI (pk0 L Gr O T K S B SP SL fd sg (A + 42 + i - A)) := by
  rw [show A + 42 + i - A = 42 + i by omega]; unfold pk0; rw [if_neg (by omega), if_neg (by omega), if_pos (by omega), Nat.add_sub_cancel_left]
theorem pk_O (hi : i < 6) : nI (O i) = nI (pk0 L Gr O T K S B SP SL fd sg (A + 48 + i - A)) := by
  rw [show A + 48 + i - A = 48 + i by omega]; unfold pk0; rw [if_neg (by omega), if_neg (by omega), if_neg (by omega), if_pos (by omega), Nat.add_sub_cancel_left]
theorem pk_T (hi : i < 6) : nI (T i) = nI (pk0 L Gr O T K S B SP SL fd sg (A + 54 + i - A)) := by
  rw [show A + 54 + i - A = 54 + i by omega]; unfold pk0; rw [if_neg (by omega), if_neg (by omega), if_neg (by omega), if_neg (by omega), if_pos (by omega), Nat.add_sub_cancel_left]
theorem pk_K (hi : i < 6) : nI (K i) = nI (pk0 L Gr O T K S B SP SL fd sg (A + 60 + i - A)) := by
  rw [show A + 60 + i - A = 60 + i by omega]; unfold pk0; rw [if_neg (by omega), if_neg (by omega), if_neg (by omega), if_neg (by omega), if_neg (by omega), if_pos (by omega), Nat.add_sub_cancel_left]
theorem pk_S (hi : i < 6) : nI (S i) = nI (pk0 L Gr O T K S B SP SL fd sg (A + 66 + i - A)) := by
  rw [show A + 66 + i - A = 66 + i by omega]; unfold pk0; rw [if_neg (by omega), if_neg (by omega), if_neg (by omega), if_neg (by omega), if_neg (by omega), if_neg (by omega), if_pos (by omega), Nat.add_sub_cancel_left]
theorem pk_F (hi : i < 12) : nI (flS SP SL i) = nI (pk0 L Gr O T K S B SP SL fd sg (A + 72 + i - A)) := by
  rw [show A + 72 + i - A = 72 + i by omega]; unfold pk0; rw [if_neg (by omega), if_neg (by omega), if_neg (by omega), if_neg (by omega), if_neg (by omega), if_neg (by omega), if_neg (by omega), if_pos (by omega), Nat.add_sub_cancel_left]
theorem pk_fd : nI fd = nI (pk0 L Gr O T K S B SP SL fd sg (A + 84 - A)) := by
  rw [show A + 84 - A = 84 by omega]; rfl
theorem pk_sg : nI sg = nI (pk0 L Gr O T K S B SP SL fd sg (A + 85 - A)) := by
  rw [show A + 85 - A = 85 by omega]; rfl
end
theorem cp_up2 {f g : Nat → Int32} {i j : Nat} {x : Int32} (hg : ∀ j, j < i → g j = f j) (hx : x = f i) (hj : j < i + 1) : upd g i x j = f j := by
  subst hx; exact cp_up hg hj
/-- an image of the check's holds this state -/
def imOK (fI : Nat → Int32) (A : Nat) (pk : Nat → Nat) : Prop := ∀ j, j < 86 → fI (A + j) = nI (pk j)
theorem im_get {fI : Nat → Int32} {A k : Nat} {pk : Nat → Nat} {y : Int32} (h : imOK fI A pk) (hk : k < 86) (hy : y = nI (pk (A + k - A))) : fI (A + k) = y := by
  rw [h k hk, hy, Nat.add_sub_cancel_left]
theorem im_put (fI : Nat → Int32) (A : Nat) (pk : Nat → Nat) : imOK (imP fI A pk) A pk := by
  intro j hj
  unfold imP
  rw [if_pos (by omega), Nat.add_sub_cancel_left]
theorem im_oth {fI : Nat → Int32} {A C : Nat} {pk pk2 : Nat → Nat} (h : imOK fI C pk2) (hAC : C + 86 ≤ A ∨ A + 86 ≤ C) : imOK (imP fI A pk) C pk2 := by
  intro j hj
  unfold imP
  rw [if_neg (by omega)]; exact h j hj
theorem if_cg {α : Type} {b c : Prop} {ib : Decidable b} {ic : Decidable c} {x y : α} (h : b ↔ c) : (if b then x else y) = (if c then x else y) := by
  by_cases hb : b
  · rw [if_pos hb, if_pos (h.mp hb)]
  · rw [if_neg hb, if_neg (fun z => hb (h.mpr z))]
theorem im_oneB {g v fI : Nat → Int32} {A b i : Nat} {x : Int32} (h : ∀ j, g j = if A ≤ j ∧ j < A + b + i then v j else fI j) (hx : x = v (A + b + i)) : ∀ j, upd g (A + b + i) x j = if A ≤ j ∧ j < A + b + (i + 1) then v j else fI j := by
  intro j
  unfold upd
  by_cases e : j = A + b + i
  · rw [if_pos e, if_pos (by omega), hx, e]
  · rw [if_neg e, h j]
    exact if_cg (by omega)
theorem im_get2 {fI : Nat → Int32} {A b k : Nat} {pk : Nat → Nat} {y : Int32} (h : imOK fI A pk) (hk : b + k < 86) (hy : y = nI (pk (A + b + k - A))) : fI (A + b + k) = y := by
  rw [Nat.add_assoc] at hy ⊢
  exact im_get h hk hy
theorem im_out {x : Int32} (ho : inR 0 1 x = false) : ¬ (0 ≤ x.toInt ∧ x.toInt ≤ 1) := of_decide_eq_false ho
theorem im_dead {x : Int32} (ho : inR 0 1 x = false) (h0 : 0 ≤ x.toInt) (h2 : x.toInt < (nI 2).toInt) : False := by
  have h := im_out ho
  have e : (nI 2).toInt = 2 := by decide
  omega
