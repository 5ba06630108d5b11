/-! The check's bests by costs and by tenths; the class's and the check's are one. -/
def lyG (L Gr CO : Nat → Nat) (go a : Nat) : Nat → Nat → Option Nat := fun m c => match gx L Gr CO go m a 0 c with
  | none => none
  | some t => if t < 1000000 then some (1000000 - t) else none
def sfG (L Gr S : Nat → Nat) (go a : Nat) : Nat → Nat → Option Nat := fun m c => match gs L Gr S go m a 1 c with
  | none => none
  | some t => some (t * 10 ^ (5 - m))
def lyS (L Gr CO : Nat → Nat) (go a : Nat) : Es := enA (lyG L Gr CO go a) 6
def sfS (L Gr S : Nat → Nat) (go a : Nat) : Es := enA (sfG L Gr S go a) 6
section
variable {L Gr : Nat → Nat} {W : Nat → Option Nat} {CO S : Nat → Nat} {go : Nat}
theorem gx_step {l a j al c : Nat} (h : nxt L Gr (dgt c l) a = some j) : gx L Gr CO go (l + 1) a al c = gx L Gr CO go l j (al + CO (dgt c l)) c := by
  simp only [gx]; rw [h]
theorem gx_none {l a al c : Nat} (h : nxt L Gr (dgt c l) a = none) : gx L Gr CO go (l + 1) a al c = none := by
  simp only [gx]; rw [h]
theorem gx_inv {l a al c t : Nat} (h : gx L Gr CO go (l + 1) a al c = some t) : ∃ j, nxt L Gr (dgt c l) a = some j ∧ gx L Gr CO go l j (al + CO (dgt c l)) c = some t := by
  cases e : nxt L Gr (dgt c l) a with
  | none => rw [gx_none e] at h; cases h
  | some j => rw [gx_step e] at h; exact ⟨j, rfl, h⟩
theorem gx_0 {a al c t : Nat} : gx L Gr CO go 0 a al c = some t ↔ a = go ∧ al = t := by
  simp only [gx]
  by_cases h : a = go
  · rw [if_pos h]; exact ⟨fun q => ⟨h, Option.some.inj q⟩, fun q => by rw [q.2]⟩
  · rw [if_neg h]; exact ⟨(fun q => by cases q), fun q => absurd q.1 h⟩
theorem gx_ge : ∀ l a al c t, gx L Gr CO go l a al c = some t → al ≤ t
  | 0, a, al, c, t, h => by have := (gx_0.mp h).2; omega
  | l + 1, a, al, c, t, h => by
    obtain ⟨j, -, h2⟩ := gx_inv h
    have := gx_ge l j _ c t h2
    omega
def coW (W : Nat → Option Nat) (CO : Nat → Nat) : Prop := ∀ p, p < 6 → (W p = none ∧ CO p = 1000000) ∨ ∃ w, W p = some w ∧ CO p = w
theorem gx_to (hC : coW W CO) : ∀ l a al c t (v : Int), gx L Gr CO go l a al c = some t → t < al + 1000000 → fx L Gr W false go l a v c = some (v - ((t : Int) - (al : Int)))
  | 0, a, al, c, t, v, h, _ => by
    obtain ⟨h1, h2⟩ := gx_0.mp h
    exact fx_0.mpr ⟨h1, by omega⟩
  | l + 1, a, al, c, t, v, h, ht => by
    obtain ⟨j, h1, h2⟩ := gx_inv h
    have h3 := gx_ge l j _ c t h2
    rcases hC _ (dgt_lt c l) with ⟨q1, q2⟩ | ⟨w, q1, q2⟩
    · omega
    · have h4 := gx_to hC l j _ c t (fur false v w) h2 (by omega)
      rw [fx_step h1 q1, h4]
      congr 1
      show v - (w : Int) - _ = _
      rw [q2]
      omega
theorem gx_of (hC : coW W CO) (hW : okWt W) : ∀ l a al c (v u : Int), fx L Gr W false go l a v c = some u → ∃ t, gx L Gr CO go l a al c = some t ∧ u = v - ((t : Int) - (al : Int)) ∧ t ≤ al + 10 * l
  | 0, a, al, c, v, u, h => by
    obtain ⟨h1, h2⟩ := fx_0.mp h
    exact ⟨al, gx_0.mpr ⟨h1, rfl⟩, by omega, by omega⟩
  | l + 1, a, al, c, v, u, h => by
    obtain ⟨j, w, h1, h2, h3⟩ := fx_inv h
    have hw := hW _ _ (dgt_lt c l) h2
    have hc : CO (dgt c l) = w := by
      rcases hC _ (dgt_lt c l) with ⟨q1, q2⟩ | ⟨w', q1, q2⟩
      · rw [h2] at q1; cases q1
      · rw [h2] at q1; cases q1; exact q2
    obtain ⟨t, q1, q2, q3⟩ := gx_of hC hW l j (al + w) c _ u h3
    refine ⟨t, by rw [gx_step h1, hc]; exact q1, ?_, by omega⟩
    rw [q2]
    show v - (w : Int) - _ = _
    omega
theorem lyG_some {a m c x : Nat} : lyG L Gr CO go a m c = some x ↔ ∃ t, gx L Gr CO go m a 0 c = some t ∧ t < 1000000 ∧ x = 1000000 - t := by
  unfold lyG
  cases e : gx L Gr CO go m a 0 c with
  | none => exact ⟨(fun q => by cases q), fun ⟨t, q, _⟩ => by cases q⟩
  | some t =>
    simp only []
    by_cases h : t < 1000000
    · rw [if_pos h]
      exact ⟨fun q => ⟨t, rfl, h, (Option.some.inj q).symm⟩, fun ⟨t', q1, _, q3⟩ => by cases q1; rw [q3]⟩
    · rw [if_neg h]
      exact ⟨(fun q => by cases q), fun ⟨t', q1, q2, _⟩ => by cases q1; exact absurd q2 h⟩
theorem ly_best (hC : coW W CO) (hW : okWt W) (s : Ws) (a : Nat) : (wL (wkF L Gr W false go 5 a (2 ^ a) 0 (wT s, wB s, none, 0)) = none ∧ lyS L Gr CO go a = none) ∨ ∃ x l c, wL (wkF L Gr W false go 5 a (2 ^ a) 0 (wT s, wB s, none, 0)) = some l ∧ lyS L Gr CO go a = some (x, l, c) ∧ wV (wkF L Gr W false go 5 a (2 ^ a) 0 (wT s, wB s, none, 0)) = (x : Int) - 1000000 ∧ l < 6 ∧ c < 6 ^ l ∧ lyG L Gr CO go a l c = some x ∧ ∀ j, j < l → wB (wkF L Gr W false go 5 a (2 ^ a) 0 (wT s, wB s, none, 0)) j = dgt c (l - 1 - j) := by
  refine best_eq (g := lyG L Gr CO go a) (ph := fun x => (x : Int) - 1000000) (ways_best hW (fun e => by cases e) s) (enA_ok _ 6) (fun x y h => by show (x : Int) - 1000000 < (y : Int) - 1000000; omega) (fun m c u hm hc h => ?_) (fun m c x hm hc h => ?_)
  · obtain ⟨t, q1, q2, q3⟩ := gx_of hC hW m a 0 c 0 u h
    exact ⟨1000000 - t, lyG_some.mpr ⟨t, q1, by omega, rfl⟩, by show u = ((1000000 - t : Nat) : Int) - 1000000; omega⟩
  · obtain ⟨t, q1, q2, q3⟩ := lyG_some.mp h
    rw [gx_to hC m a 0 c t 0 q1 (by omega), q3]
    congr 1
    omega
theorem gsw_step {l a j u c : Nat} (h : nxt L Gr (dgt c l) a = some j) : gs L Gr S go (l + 1) a u c = gs L Gr S go l j (u * S (dgt c l)) c := by
  simp only [gs]; rw [h]
theorem gsw_none {l a u c : Nat} (h : nxt L Gr (dgt c l) a = none) : gs L Gr S go (l + 1) a u c = none := by
  simp only [gs]; rw [h]
theorem gs_fx : ∀ l a u c e, fx L Gr (fun p => some (S p)) true go l a ((10 ^ (l + e) * u : Nat) : Int) c = (gs L Gr S go l a u c).map (fun t => ((10 ^ e * t : Nat) : Int))
  | 0, a, u, c, e => by
    simp only [fx, gs]
    rw [Nat.zero_add]
    split <;> rfl
  | l + 1, a, u, c, e => by
    cases h : nxt L Gr (dgt c l) a with
    | none => rw [gsw_none h]; simp only [fx]; rw [h]; rfl
    | some j =>
      rw [gsw_step h, fx_step (w := S (dgt c l)) h rfl, ← gs_fx l j (u * S (dgt c l)) c e]
      congr 1
      show ((10 ^ (l + 1 + e) * u : Nat) : Int) * (S (dgt c l) : Int) / 10 = _
      rw [← Int.natCast_mul, show 10 ^ (l + 1 + e) * u * S (dgt c l) = 10 * (10 ^ (l + e) * (u * S (dgt c l))) by
        rw [show l + 1 + e = (l + e) + 1 by omega, Nat.pow_succ', Nat.mul_assoc, Nat.mul_assoc]]
      exact (Int.natCast_ediv _ 10).symm.trans (congrArg Int.ofNat (Nat.mul_div_cancel_left _ (by decide)))
theorem sfG_some {a m c x : Nat} : sfG L Gr S go a m c = some x ↔ ∃ t, gs L Gr S go m a 1 c = some t ∧ x = t * 10 ^ (5 - m) := by
  unfold sfG
  cases e : gs L Gr S go m a 1 c with
  | none => exact ⟨(fun q => by cases q), fun ⟨t, q, _⟩ => by cases q⟩
  | some t => exact ⟨fun q => ⟨t, rfl, (Option.some.inj q).symm⟩, fun ⟨t', q1, q3⟩ => by cases q1; rw [q3]⟩
theorem ten6 {m t : Nat} (hm : m < 6) : 10 ^ (6 - m) * t = 10 * (t * 10 ^ (5 - m)) := by
  rw [show 6 - m = (5 - m) + 1 by omega, Nat.pow_succ', Nat.mul_assoc, Nat.mul_comm t]
theorem sf_val {a m c : Nat} (hm : m < 6) : fx L Gr (fun p => some (S p)) true go m a 1000000 c = (gs L Gr S go m a 1 c).map (fun t => ((10 ^ (6 - m) * t : Nat) : Int)) := by
  have h := gs_fx (L := L) (Gr := Gr) (S := S) (go := go) m a 1 c (6 - m)
  rw [show m + (6 - m) = 6 by omega] at h
  exact h
theorem sf_best (hS : okS S) (s : Ws) (a : Nat) : (wL (wkF L Gr (fun p => some (S p)) true go 5 a (2 ^ a) 1000000 (wT s, wB s, none, 0)) = none ∧ sfS L Gr S go a = none) ∨ ∃ x l c, wL (wkF L Gr (fun p => some (S p)) true go 5 a (2 ^ a) 1000000 (wT s, wB s, none, 0)) = some l ∧ sfS L Gr S go a = some (x, l, c) ∧ wV (wkF L Gr (fun p => some (S p)) true go 5 a (2 ^ a) 1000000 (wT s, wB s, none, 0)) = ((10 * x : Nat) : Int) ∧ l < 6 ∧ c < 6 ^ l ∧ sfG L Gr S go a l c = some x ∧ ∀ j, j < l → wB (wkF L Gr (fun p => some (S p)) true go 5 a (2 ^ a) 1000000 (wT s, wB s, none, 0)) j = dgt c (l - 1 - j) := by
  refine best_eq (g := sfG L Gr S go a) (ph := fun x => ((10 * x : Nat) : Int)) (ways_best (sS_ok hS) (fun e => by decide) s) (enA_ok _ 6) (fun x y h => by show ((10 * x : Nat) : Int) < ((10 * y : Nat) : Int); omega) (fun m c u hm hc h => ?_) (fun m c x hm hc h => ?_)
  · rw [sf_val hm] at h
    cases e : gs L Gr S go m a 1 c with
    | none => rw [e] at h; cases h
    | some t =>
      rw [e] at h
      have h : some (((10 ^ (6 - m) * t : Nat)) : Int) = some u := h
      refine ⟨t * 10 ^ (5 - m), sfG_some.mpr ⟨t, e, rfl⟩, ?_⟩
      rw [← Option.some.inj h, ten6 hm]
  · obtain ⟨t, q1, q2⟩ := sfG_some.mp h
    rw [sf_val hm, q1, q2]
    show some (((10 ^ (6 - m) * t : Nat)) : Int) = _
    rw [ten6 hm]
end
/-! Who comes to believe: the class's rounds and the check's come to one set. -/
def Ru (O T K : Nat → Nat) (p : Nat) (C : Nat → Bool) (b : Nat) : Prop := ¬ O p = b ∧ (K b).testBit p = false ∧ ∃ a, a < 6 ∧ (T b).testBit a = true ∧ (O p = a ∨ C a = true)
def Clo (O T K : Nat → Nat) (p : Nat) (C : Nat → Bool) : Prop := ∀ b, b < 6 → Ru O T K p C b → C b = true
theorem Ru_mono {O T K : Nat → Nat} {p b : Nat} {C D : Nat → Bool} (h : ∀ a, a < 6 → C a = true → D a = true) (hr : Ru O T K p C b) : Ru O T K p D b := by
  obtain ⟨h1, h2, a, h3, h4, h5⟩ := hr
  exact ⟨h1, h2, a, h3, h4, h5.imp id (h a h3)⟩
theorem cnt_mono {f g : Nat → Bool} : ∀ n, (∀ j, j < n → f j = true → g j = true) → cnt f n ≤ cnt g n
  | 0, _ => Nat.le_refl _
  | n + 1, h => by
    have h1 := cnt_mono n (fun j hj => h j (by omega))
    simp only [cnt]
    by_cases hf : f n = true
    · rw [if_pos hf, if_pos (h n (by omega) hf)]; omega
    · rw [if_neg hf]; omega
theorem cnt_more {f g : Nat → Bool} {i : Nat} (hg : g i = true) (hf : f i = false) : ∀ n, i < n → (∀ j, j < n → f j = true → g j = true) → cnt f n + 1 ≤ cnt g n
  | 0, hi, _ => absurd hi (Nat.not_lt_zero _)
  | n + 1, hi, h => by
    simp only [cnt]
    by_cases e : i = n
    · subst e
      have h1 := cnt_mono i (fun j hj => h j (by omega))
      rw [if_pos hg, if_neg (by rw [hf]; decide)]; omega
    · have h1 := cnt_more hg hf n (by omega) (fun j hj => h j (by omega))
      by_cases hf2 : f n = true
      · rw [if_pos hf2, if_pos (h n (by omega) hf2)]; omega
      · rw [if_neg hf2]; omega
theorem cnt_full {f : Nat → Bool} : ∀ n, n ≤ cnt f n → ∀ j, j < n → f j = true
  | 0, _, j, hj => absurd hj (Nat.not_lt_zero _)
  | n + 1, h, j, hj => by
    simp only [cnt] at h
    have h1 := cnt_le f n
    by_cases hf : f n = true
    · by_cases e : j = n
      · rw [e]; exact hf
      · rw [if_pos hf] at h; exact cnt_full n (by omega) j (by omega)
    · rw [if_neg hf] at h; omega
theorem clo_six {O T K : Nat → Nat} {p : Nat} (C : Nat → Nat → Bool) (h1 : ∀ n a, a < 6 → C n a = true → C (n + 1) a = true) (h2 : ∀ n b, b < 6 → Ru O T K p (C n) b → C (n + 1) b = true) (h3 : ∀ n, Clo O T K p (C n) → ∀ a, a < 6 → C (n + 1) a = true → C n a = true) : Clo O T K p (C 6) := by
  have key : ∀ n, Clo O T K p (C n) ∨ n ≤ cnt (C n) 6 := by
    intro n
    induction n with
    | zero => exact Or.inr (Nat.zero_le _)
    | succ n ih =>
      by_cases hc : Clo O T K p (C n)
      · exact Or.inl (fun b hb hr => h1 n b hb (hc b hb (Ru_mono (h3 n hc) hr)))
      · have hn : n ≤ cnt (C n) 6 := ih.elim (fun z => absurd z hc) id
        have hex : ∃ b, b < 6 ∧ Ru O T K p (C n) b ∧ C n b = false := by
          refine Classical.byContradiction (fun hno => hc (fun b hb hr => ?_))
          cases e : C n b with
          | true => rfl
          | false => exact absurd ⟨b, hb, hr, e⟩ hno
        obtain ⟨b, hb, hr, hf⟩ := hex
        have := cnt_more (h2 n b hb hr) hf 6 hb (fun j hj => h1 n j hj)
        exact Or.inr (by omega)
  rcases key 6 with h | h
  · exact h
  · exact fun b hb _ => cnt_full 6 h b hb
/-- the check's rounds, over masks -/
def rcMay (O T K : Nat → Nat) (p M b : Nat) : Bool := !decide (O p = b) && !(K b).testBit p && !decide (T b &&& setb M (O p) true = 0)
def rcB (O T K : Nat → Nat) (p M : Nat) : Nat → Nat
  | 0 => M
  | b + 1 => if rcMay O T K p (rcB O T K p M b) b then setb (rcB O T K p M b) b true else rcB O T K p M b
def rcR (O T K : Nat → Nat) (p M : Nat) : Nat → Nat
  | 0 => M
  | n + 1 => rcB O T K p (rcR O T K p M n) 6
def bmk (B : Nat → Nat → Nat) (p : Nat) : Nat → Nat
  | 0 => 0
  | a + 1 => if 0 < B a p then setb (bmk B p a) a true else bmk B p a
def rcN (O T K : Nat → Nat) (B : Nat → Nat → Nat) (p : Nat) : Nat := cnt (fun a => (rcR O T K p (bmk B p 6) 6).testBit a) 6
theorem bmk_lt (B : Nat → Nat → Nat) (p : Nat) : ∀ n, n ≤ 6 → bmk B p n < 64
  | 0, _ => by show 0 < 64; decide
  | n + 1, h => by
    simp only [bmk]; split
    · exact setb_lt _ (bmk_lt B p n (by omega)) n (by omega) true
    · exact bmk_lt B p n (by omega)
theorem bmk_bit (B : Nat → Nat → Nat) (p : Nat) : ∀ n, n ≤ 6 → ∀ a, a < 6 → (bmk B p n).testBit a = (decide (a < n) && decide (0 < B a p))
  | 0, _, a, _ => by simp [bmk]
  | n + 1, h, a, ha => by
    have ih := bmk_bit B p n (by omega) a ha
    simp only [bmk]
    by_cases hb : 0 < B n p
    · rw [if_pos hb, setb_bit _ (bmk_lt B p n (by omega)) n (by omega) true a ha]
      by_cases e : a = n
      · subst e; simp [hb]
      · rw [if_neg e, ih]
        by_cases q : a < n
        · simp [q, show a < n + 1 by omega]
        · simp [q, show ¬ a < n + 1 by omega]
    · rw [if_neg hb, ih]
      by_cases e : a = n
      · subst e; simp [hb]
      · by_cases q : a < n
        · simp [q, show a < n + 1 by omega]
        · simp [q, show ¬ a < n + 1 by omega]
theorem rcB_lt {O T K : Nat → Nat} {p M : Nat} (hM : M < 64) : ∀ n, n ≤ 6 → rcB O T K p M n < 64
  | 0, _ => hM
  | n + 1, h => by
    simp only [rcB]; split
    · exact setb_lt _ (rcB_lt hM n (by omega)) n (by omega) true
    · exact rcB_lt hM n (by omega)
theorem rcR_lt {O T K : Nat → Nat} {p M : Nat} (hM : M < 64) : ∀ n, rcR O T K p M n < 64
  | 0 => hM
  | n + 1 => rcB_lt (rcR_lt hM n) 6 (by omega)
theorem and_bits : ∀ x, x < 64 → ∀ y, y < 64 → ((x &&& y = 0) ↔ ∀ a, a < 6 → ¬ (x.testBit a = true ∧ y.testBit a = true)) := by decide +kernel
theorem rcMay_iff {O T K : Nat → Nat} {p M b : Nat} (hO : okP O) (hT : okM T) (hp : p < 6) (hb : b < 6) (hM : M < 64) : rcMay O T K p M b = true ↔ Ru O T K p (fun a => M.testBit a) b := by
  have ho := hO p hp
  have hab := and_bits (T b) (hT b hb) (setb M (O p) true) (setb_lt M hM (O p) ho true)
  unfold rcMay Ru
  simp only [Bool.and_eq_true, Bool.not_eq_true', decide_eq_false_iff_not]
  constructor
  · rintro ⟨⟨h1, h2⟩, h3⟩
    refine ⟨h1, h2, ?_⟩
    refine Classical.byContradiction (fun hno => h3 (hab.mpr (fun a ha hh => hno ⟨a, ha, hh.1, ?_⟩)))
    have h4 := hh.2
    rw [setb_bit M hM (O p) ho true a ha] at h4
    by_cases e : a = O p
    · exact Or.inl e.symm
    · rw [if_neg e] at h4; exact Or.inr h4
  · rintro ⟨h1, h2, a, ha, h3, h4⟩
    refine ⟨⟨h1, h2⟩, fun z => hab.mp z a ha ⟨h3, ?_⟩⟩
    rw [setb_bit M hM (O p) ho true a ha]
    by_cases e : a = O p
    · rw [if_pos e]
    · rw [if_neg e]; exact h4.elim (fun z => absurd z.symm e) id
theorem rcB_mono {O T K : Nat → Nat} {p M : Nat} (hM : M < 64) : ∀ n, n ≤ 6 → ∀ a, a < 6 → M.testBit a = true → (rcB O T K p M n).testBit a = true
  | 0, _, a, _, h => h
  | n + 1, hn, a, ha, h => by
    have ih := rcB_mono (O := O) (T := T) (K := K) (p := p) hM n (by omega) a ha h
    simp only [rcB]; split
    · rw [setb_bit _ (rcB_lt hM n (by omega)) n (by omega) true a ha]; split
      · rfl
      · exact ih
    · exact ih
theorem rcB_in {O T K : Nat → Nat} {p M : Nat} {C : Nat → Bool} (hO : okP O) (hT : okM T) (hp : p < 6) (hM : M < 64) (hC : Clo O T K p C) (h0 : ∀ a, a < 6 → M.testBit a = true → C a = true) : ∀ n, n ≤ 6 → ∀ a, a < 6 → (rcB O T K p M n).testBit a = true → C a = true
  | 0, _, a, ha, h => h0 a ha h
  | n + 1, hn, a, ha, h => by
    have ih := rcB_in hO hT hp hM hC h0 n (by omega)
    simp only [rcB] at h
    by_cases q : rcMay O T K p (rcB O T K p M n) n = true
    · rw [if_pos q, setb_bit _ (rcB_lt hM n (by omega)) n (by omega) true a ha] at h
      by_cases e : a = n
      · subst e
        exact hC a ha (Ru_mono ih ((rcMay_iff hO hT hp ha (rcB_lt hM a (by omega))).mp q))
      · rw [if_neg e] at h; exact ih a ha h
    · rw [if_neg q] at h; exact ih a ha h
theorem rcB_add {O T K : Nat → Nat} {p M b : Nat} (hO : okP O) (hT : okM T) (hp : p < 6) (hM : M < 64) (hr : Ru O T K p (fun a => M.testBit a) b) : ∀ n, n ≤ 6 → b < n → (rcB O T K p M n).testBit b = true
  | 0, _, hb => absurd hb (Nat.not_lt_zero _)
  | n + 1, hn, hb => by
    have hlt := rcB_lt (O := O) (T := T) (K := K) (p := p) hM n (by omega)
    by_cases e : b = n
    · subst e
      have q := (rcMay_iff hO hT hp (by omega) hlt).mpr (Ru_mono (fun a ha h => rcB_mono (O := O) (T := T) (K := K) (p := p) hM b (by omega) a ha h) hr)
      simp only [rcB]
      rw [if_pos q, setb_bit _ hlt b (by omega) true b (by omega), if_pos rfl]
    · have ih := rcB_add hO hT hp hM hr n (by omega) (by omega)
      simp only [rcB]; split
      · rw [setb_bit _ hlt n (by omega) true b (by omega), if_neg e]; exact ih
      · exact ih
theorem rcR_in {O T K : Nat → Nat} {p M : Nat} {C : Nat → Bool} (hO : okP O) (hT : okM T) (hp : p < 6) (hM : M < 64) (hC : Clo O T K p C) (h0 : ∀ a, a < 6 → M.testBit a = true → C a = true) : ∀ n a, a < 6 → (rcR O T K p M n).testBit a = true → C a = true
  | 0, a, ha, h => h0 a ha h
  | n + 1, a, ha, h => rcB_in hO hT hp (rcR_lt hM n) hC (fun a ha h => rcR_in hO hT hp hM hC h0 n a ha h) 6 (by omega) a ha h
theorem rcR_mono {O T K : Nat → Nat} {p M : Nat} (hM : M < 64) : ∀ n a, a < 6 → M.testBit a = true → (rcR O T K p M n).testBit a = true
  | 0, a, _, h => h
  | n + 1, a, ha, h => rcB_mono (rcR_lt hM n) 6 (by omega) a ha (rcR_mono hM n a ha h)
theorem rcR_clo {O T K : Nat → Nat} {p M : Nat} (hO : okP O) (hT : okM T) (hp : p < 6) (hM : M < 64) : Clo O T K p (fun a => (rcR O T K p M 6).testBit a) :=
  clo_six (fun n a => (rcR O T K p M n).testBit a) (fun n a ha h => rcB_mono (rcR_lt hM n) 6 (by omega) a ha h) (fun n b hb hr => rcB_add hO hT hp (rcR_lt hM n) hr 6 (by omega) hb)
    (fun n hC a ha h => rcB_in hO hT hp (rcR_lt hM n) hC (fun a _ h => h) 6 (by omega) a ha h)
/-- the class's rounds -/
def bls (B : Nat → Nat → Nat) (p : Nat) : Nat → Bool := fun a => decide (0 < B a p)
theorem tellB_bs {O T K : Nat → Nat} {fd : Nat} {B : Nat → Nat → Nat} {a b p q : Nat} (hfd : 0 < fd) : bls (tellB O T K fd B a b p) p q = true ↔ bls B p q = true ∨ (tellOK O T K B a b p = true ∧ q = b) := by
  unfold tellB bls
  by_cases h : tellOK O T K B a b p = true
  · rw [if_pos h]
    unfold up2
    by_cases e : q = b
    · rw [if_pos ⟨e, rfl⟩]; simp [hfd, h, e]
    · rw [if_neg (fun z => e z.1)]; simp [e]
  · rw [if_neg h]; simp [h]
theorem tellOK_Ru {O T K : Nat → Nat} {B : Nat → Nat → Nat} {a b p : Nat} (ha : a < 6) (h : tellOK O T K B a b p = true) : Ru O T K p (bls B p) b := by
  unfold tellOK mayT at h
  simp only [Bool.and_eq_true, Bool.or_eq_true, Bool.not_eq_true', decide_eq_false_iff_not, decide_eq_true_eq] at h
  obtain ⟨⟨⟨⟨h1, h2⟩, h3⟩, h4⟩, -⟩ := h
  exact ⟨h3, h4, a, ha, h2, h1.imp id (fun z => decide_eq_true z)⟩
theorem tAll_mono {O T K : Nat → Nat} {fd : Nat} {B : Nat → Nat → Nat} {a p q : Nat} (hfd : 0 < fd) (h : bls B p q = true) : ∀ n, bls (tAll O T K fd B a p n) p q = true
  | 0 => h
  | n + 1 => (tellB_bs hfd).mpr (Or.inl (tAll_mono hfd h n))
theorem tAll_in {O T K : Nat → Nat} {fd : Nat} {B : Nat → Nat → Nat} {a p : Nat} {C : Nat → Bool} (hfd : 0 < fd) (ha : a < 6) (hC : Clo O T K p C) (h0 : ∀ q, q < 6 → bls B p q = true → C q = true) : ∀ n, n ≤ 6 → ∀ q, q < 6 → bls (tAll O T K fd B a p n) p q = true → C q = true
  | 0, _, q, hq, h => h0 q hq h
  | n + 1, hn, q, hq, h => by
    have ih := tAll_in hfd ha hC h0 n (by omega)
    rcases (tellB_bs hfd).mp h with z | ⟨z1, z2⟩
    · exact ih q hq z
    · subst z2; exact hC q hq (Ru_mono ih (tellOK_Ru ha z1))
theorem tAll_add {O T K : Nat → Nat} {fd : Nat} {B : Nat → Nat → Nat} {a b p : Nat} (hfd : 0 < fd) (hm : O p = a ∨ bls B p a = true) (hT : (T b).testBit a = true) (hO : ¬ O p = b) (hK : (K b).testBit p = false) : ∀ n, b < n → bls (tAll O T K fd B a p n) p b = true
  | 0, h => absurd h (Nat.not_lt_zero _)
  | n + 1, h => by
    by_cases e : b = n
    · subst e
      refine (tellB_bs hfd).mpr ?_
      by_cases z : bls (tAll O T K fd B a p b) p b = true
      · exact Or.inl z
      · refine Or.inr ⟨?_, rfl⟩
        have hm2 : mayT O (tAll O T K fd B a p b) a p = true := by
          unfold mayT
          rcases hm with q | q
          · rw [decide_eq_true q]; rfl
          · have := tAll_mono (O := O) (T := T) (K := K) (a := a) hfd q b
            unfold bls at this
            rw [this, Bool.or_true]
        have hz : tAll O T K fd B a p b b p = 0 := by
          unfold bls at z
          simp only [decide_eq_true_eq] at z
          omega
        unfold tellOK
        rw [hm2, hT, decide_eq_false hO, hK, decide_eq_true hz]; rfl
    · exact (tellB_bs hfd).mpr (Or.inl (tAll_add hfd hm hT hO hK n (by omega)))
theorem spr_mono {O T K : Nat → Nat} {fd : Nat} {B : Nat → Nat → Nat} {p q : Nat} (hfd : 0 < fd) (h : bls B p q = true) : ∀ n, bls (spr O T K fd B p n) p q = true
  | 0 => h
  | n + 1 => by
    simp only [spr]; split
    · exact tAll_mono hfd (spr_mono hfd h n) 6
    · exact spr_mono hfd h n
theorem spr_in {O T K : Nat → Nat} {fd : Nat} {B : Nat → Nat → Nat} {p : Nat} {C : Nat → Bool} (hfd : 0 < fd) (hC : Clo O T K p C) (h0 : ∀ q, q < 6 → bls B p q = true → C q = true) : ∀ n, n ≤ 6 → ∀ q, q < 6 → bls (spr O T K fd B p n) p q = true → C q = true
  | 0, _, q, hq, h => h0 q hq h
  | n + 1, hn, q, hq, h => by
    have ih := spr_in hfd hC h0 n (by omega)
    simp only [spr] at h
    by_cases z : mayT O B n p = true
    · rw [if_pos z] at h; exact tAll_in hfd (by omega) hC ih 6 (by omega) q hq h
    · rw [if_neg z] at h; exact ih q hq h
theorem spr_add {O T K : Nat → Nat} {fd : Nat} {B : Nat → Nat → Nat} {a b p : Nat} (hfd : 0 < fd) (hb : b < 6) (hm : O p = a ∨ bls B p a = true) (hT : (T b).testBit a = true) (hO : ¬ O p = b) (hK : (K b).testBit p = false) : ∀ n, a < n → bls (spr O T K fd B p n) p b = true
  | 0, h => absurd h (Nat.not_lt_zero _)
  | n + 1, h => by
    by_cases e : a = n
    · subst e
      have hmt : mayT O B a p = true := by
        unfold mayT
        rcases hm with q | q
        · rw [decide_eq_true q]; rfl
        · unfold bls at q; rw [q, Bool.or_true]
      simp only [spr]
      rw [if_pos hmt]
      exact tAll_add hfd (hm.imp id (fun z => spr_mono hfd z a)) hT hO hK 6 hb
    · have ih := spr_add hfd hb hm hT hO hK n (by omega)
      simp only [spr]; split
      · exact tAll_mono hfd ih 6
      · exact ih
theorem spN_in {O T K : Nat → Nat} {fd : Nat} {B : Nat → Nat → Nat} {p : Nat} {C : Nat → Bool} (hfd : 0 < fd) (hC : Clo O T K p C) (h0 : ∀ q, q < 6 → bls B p q = true → C q = true) : ∀ n q, q < 6 → bls (spN O T K fd B p n) p q = true → C q = true
  | 0, q, hq, h => h0 q hq h
  | n + 1, q, hq, h => spr_in hfd hC (fun q hq h => spN_in hfd hC h0 n q hq h) 6 (by omega) q hq h
theorem spN_mono {O T K : Nat → Nat} {fd : Nat} {B : Nat → Nat → Nat} {p q : Nat} (hfd : 0 < fd) (h : bls B p q = true) : ∀ n, bls (spN O T K fd B p n) p q = true
  | 0 => h
  | n + 1 => spr_mono hfd (spN_mono hfd h n) 6
theorem spN_clo {O T K : Nat → Nat} {fd : Nat} {B : Nat → Nat → Nat} {p : Nat} (hfd : 0 < fd) : Clo O T K p (bls (spN O T K fd B p 6) p) :=
  clo_six (fun n => bls (spN O T K fd B p n) p) (fun n a ha h => spr_mono hfd h 6) (fun n b hb hr => by
      obtain ⟨h1, h2, a, h3, h4, h5⟩ := hr
      exact spr_add hfd hb h5 h4 h1 h2 6 h3)
    (fun n hC a ha h => spr_in hfd hC (fun q _ h => h) 6 (by omega) a ha h)
theorem reach_eq {O T K : Nat → Nat} {fd : Nat} {B : Nat → Nat → Nat} {p : Nat} (hO : okP O) (hT : okM T) (hfd : 0 < fd) (hp : p < 6) : ld (spN O T K fd B p 6) p 0 = rcN O T K B p := by
  have hbl := bmk_lt B p 6 (Nat.le_refl _)
  have hbb : ∀ a, a < 6 → (bmk B p 6).testBit a = bls B p a := fun a ha => by rw [bmk_bit B p 6 (Nat.le_refl _) a ha]; simp [ha, bls]
  refine cnt_congr 6 (fun a ha => ?_)
  have h1 : bls (spN O T K fd B p 6) p a = true → (rcR O T K p (bmk B p 6) 6).testBit a = true := fun h =>
    spN_in hfd (rcR_clo hO hT hp hbl) (fun q hq z => rcR_mono hbl 6 q hq (by rw [hbb q hq]; exact z)) 6 a ha h
  have h2 : (rcR O T K p (bmk B p 6) 6).testBit a = true → bls (spN O T K fd B p 6) p a = true := fun h =>
    rcR_in hO hT hp hbl (spN_clo hfd) (fun q hq z => spN_mono hfd (by rw [← hbb q hq]; exact z) 6) 6 a ha h
  show bls (spN O T K fd B p 6) p a = _
  cases e : bls (spN O T K fd B p 6) p a with
  | true => exact (h1 e).symm
  | false =>
    cases e2 : (rcR O T K p (bmk B p 6) 6).testBit a with
    | true => rw [h2 e2] at e; cases e
    | false => rfl
def lcO (O T K : Nat → Nat) (B : Nat → Nat → Nat) (n p : Nat) : Nat := if n ≤ ld B p 0 then 0 else if n ≤ rcN O T K B p then n - ld B p 0 else 1000000
theorem ld_spN {O T K : Nat → Nat} {fd : Nat} {B : Nat → Nat → Nat} {p : Nat} (hfd : 0 < fd) : ld B p 0 ≤ ld (spN O T K fd B p 6) p 0 :=
  cnt_mono 6 (fun j _ h => spN_mono hfd h 6)
theorem lc_tf {O T K : Nat → Nat} {fd : Nat} {B : Nat → Nat → Nat} {n : Nat} (hO : okP O) (hT : okM T) (hfd : 0 < fd) : coW (tfO O T K fd B n) (lcO O T K B n) := by
  intro p hp
  have h1 := reach_eq (K := K) (B := B) hO hT hfd hp
  have h2 := ld_spN (O := O) (T := T) (K := K) (B := B) (p := p) hfd
  unfold tfO lcO
  by_cases h : ld (spN O T K fd B p 6) p 0 < n
  · rw [if_pos h, if_neg (by omega), if_neg (by omega)]; exact Or.inl ⟨rfl, rfl⟩
  · rw [if_neg h]
    refine Or.inr ⟨_, rfl, ?_⟩
    by_cases h3 : n ≤ ld B p 0
    · rw [if_pos h3]; omega
    · rw [if_neg h3, if_pos (by omega)]
