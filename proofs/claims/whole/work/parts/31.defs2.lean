/-! The ring at first; the reading of a text. -/
def ringL : Nat → Nat := fun i => if i < (i + 1) % 6 then i else (i + 1) % 6
def ringG : Nat → Nat := fun i => if i < (i + 1) % 6 then (i + 1) % 6 else i
theorem if_ring {i : Nat} : (if i < (i + 1) % 6 then i else (i + 1) % 6) = ringL i := rfl
theorem if_ring2 {i : Nat} : (if i < (i + 1) % 6 then (i + 1) % 6 else i) = ringG i := rfl
theorem up_lt {f g : Nat → Nat} {e v : Nat} (h : ∀ j, j < e → f j = g j) (hv : v = g e) : ∀ j, j < e + 1 → va_up f e v j = g j := by
  intro j hj
  unfold va_up
  by_cases hh : j = e
  · rw [if_pos hh, hv, hh]
  · rw [if_neg hh]; exact h j (by omega)
theorem setb0 : ∀ b, b < 6 → setb 0 b false = 0 := by decide
abbrev Ps : Type := Nat × Nat × Nat × (Nat → Nat) × (Nat → Nat) × (Nat → Nat) × (Nat → Nat)
def pSt (P : Ps) : Nat := P.1
def pN (P : Ps) : Nat := P.2.1
def pA (P : Ps) : Nat := P.2.2.1
def pK (P : Ps) : Nat → Nat := P.2.2.2.1
def pS (P : Ps) : Nat → Nat := P.2.2.2.2.1
def pH (P : Ps) : Nat → Nat := P.2.2.2.2.2.1
def pP (P : Ps) : Nat → Nat := P.2.2.2.2.2.2
def badP (P : Ps) : Ps := (4, pN P, pA P, pK P, pS P, pH P, pP P)
def dayP (P : Ps) : Ps := (0, pN P + 1, pA P, va_up (pK P) (pN P) 0, pS P, pH P, pP P)
def denP (P : Ps) : Ps := (3, pN P, pA P, va_up (pK P) (pN P) 2, pS P, pH P, pP P)
def plaP (s : Nat) (P : Ps) : Ps := if 48 ≤ s ∧ s ≤ 53 then (0, pN P + 1, pA P, pK P, pS P, pH P, va_up (pP P) (pN P) (s - 48)) else badP P
def heaP (s : Nat) (P : Ps) : Ps := if (65 ≤ s ∧ s ≤ 70) ∧ s - 65 ≠ pS P (pN P) then (2, pN P, pA P, pK P, pS P, va_up (pH P) (pN P) (s - 65), pP P) else badP P
def spkP (s : Nat) (P : Ps) : Ps := if s = 63 ∧ pA P < 3 then (1, pN P, pA P + 1, va_up (pK P) (pN P) 1, va_up (pS P) (pN P) (6 + pA P), pH P, pP P) else if 65 ≤ s ∧ s ≤ 70 then (1, pN P, pA P, va_up (pK P) (pN P) 1, va_up (pS P) (pN P) (s - 65), pH P, pP P) else badP P
def tk (st s : Nat) (P : Ps) : Ps := if st = 0 then (if s = 46 then dayP P else spkP s P) else if st = 1 then heaP s P else if st = 2 then (if s = 45 then denP P else plaP s P) else plaP s P
/-- the signs read so far, from the first on -/
def sc (PS : Nat → Nat) (P : Ps) : Nat → Ps
  | 0 => (0, 0, 0, pK P, pS P, pH P, pP P)
  | i + 1 => tk (pSt (sc PS P i)) (PS i) (sc PS P i)
def firstB (f : Nat → Bool) : Nat → Option Nat
  | 0 => none
  | n + 1 => match firstB f n with
    | some i => some i
    | none => if f n then some n else none
theorem firstB_none {f : Nat → Bool} : ∀ {n : Nat}, (∀ j, j < n → f j = false) → firstB f n = none
  | 0, _ => rfl
  | n + 1, h => by simp only [firstB]; rw [firstB_none (fun j hj => h j (by omega))]; simp [h n (by omega)]
theorem firstB_some {f : Nat → Bool} {i : Nat} (hi : f i = true) (h : ∀ j, j < i → f j = false) : ∀ {n : Nat}, i < n → firstB f n = some i
  | 0, hn => absurd hn (by omega)
  | n + 1, hn => by
    simp only [firstB]
    by_cases hh : i = n
    · subst hh; rw [firstB_none h]; simp [hi]
    · rw [firstB_some hi h (show i < n by omega)]
def rdb (PS : Nat → Nat) (P : Ps) (i : Nat) : Bool := decide (pSt (sc PS P (i + 1)) = 4)
def rdv (PS : Nat → Nat) (P : Ps) (mn : Nat) : Int32 := match firstB (rdb PS P) mn with
  | some i => nI i
  | none => if pSt (sc PS P mn) = 0 then -6 else nI mn
def rdp (PS : Nat → Nat) (P : Ps) (mn : Nat) : Ps := match firstB (rdb PS P) mn with
  | some i => sc PS P (i + 1)
  | none => sc PS P mn
theorem tk_le4 (st s : Nat) (P : Ps) : pSt (tk st s P) ≤ 4 := by
  unfold tk dayP spkP heaP denP plaP badP pSt
  repeat' split
  all_goals exact Nat.le_of_ble_eq_true rfl
theorem sc_le4 (PS : Nat → Nat) (P : Ps) : ∀ i, pSt (sc PS P i) ≤ 4
  | 0 => Nat.zero_le _
  | i + 1 => tk_le4 _ _ _
theorem tk_facts (st s : Nat) (P : Ps) (i : Nat) (h1 : pN P ≤ i) (h2 : pA P ≤ 3) : pN (tk st s P) ≤ i + 1 ∧ pA (tk st s P) ≤ 3 ∧ (pSt (tk st s P) = 1 → pS (tk st s P) (pN (tk st s P)) < 100) := by
  unfold tk
  repeat' split
  all_goals first
    | (simp only [dayP, denP, pN, pA, pSt, pS] at *; refine ⟨by omega, by omega, fun h => by omega⟩)
    | (unfold heaP badP; split <;> simp only [pN, pA, pSt, pS] at * <;> refine ⟨by omega, by omega, fun h => by omega⟩)
    | (unfold plaP badP; split <;> simp only [pN, pA, pSt, pS] at * <;> refine ⟨by omega, by omega, fun h => by omega⟩)
    | (unfold spkP badP; split
       · refine ⟨by simp only [pN] at *; omega, by simp only [pA] at *; omega, fun _ => ?_⟩
         simp only [pS, pN, va_up_self]; simp only [pA] at *; omega
       · split
         · refine ⟨by simp only [pN] at *; omega, by simp only [pA] at *; omega, fun _ => ?_⟩
           simp only [pS, pN, va_up_self]; omega
         · refine ⟨by simp only [pN] at *; omega, by simp only [pA] at *; omega, fun h => by simp [pSt] at h⟩)
theorem sc_facts (PS : Nat → Nat) (P : Ps) : ∀ i, pN (sc PS P i) ≤ i ∧ pA (sc PS P i) ≤ 3 ∧ (pSt (sc PS P i) = 1 → pS (sc PS P i) (pN (sc PS P i)) < 100)
  | 0 => ⟨Nat.le_refl _, Nat.zero_le _, fun h => by simp [sc, pSt] at h⟩
  | i + 1 => tk_facts _ _ _ i (sc_facts PS P i).1 (sc_facts PS P i).2.1
theorem rdp_all {PS : Nat → Nat} {P : Ps} {mn : Nat} (h : ∀ j, j < mn → pSt (sc PS P (j + 1)) < 4) : rdp PS P mn = sc PS P mn := by
  unfold rdp; rw [firstB_none (fun j hj => by unfold rdb; exact decide_eq_false (by have := h j hj; omega))]
theorem rdv_all {PS : Nat → Nat} {P : Ps} {mn : Nat} (h : ∀ j, j < mn → pSt (sc PS P (j + 1)) < 4) : rdv PS P mn = if pSt (sc PS P mn) = 0 then -6 else nI mn := by
  unfold rdv; rw [firstB_none (fun j hj => by unfold rdb; exact decide_eq_false (by have := h j hj; omega))]
theorem rd_brk {PS : Nat → Nat} {P : Ps} {mn i : Nat} (h : ∀ j, j < i → pSt (sc PS P (j + 1)) < 4) (hi : i < mn) (h4 : pSt (tk (pSt (sc PS P i)) (PS i) (sc PS P i)) = 4) : rdv PS P mn = nI i ∧ rdp PS P mn = sc PS P (i + 1) := by
  have e : firstB (rdb PS P) mn = some i := firstB_some (by unfold rdb; exact decide_eq_true h4) (fun j hj => by unfold rdb; exact decide_eq_false (by have := h j hj; omega)) hi
  unfold rdv rdp
  rw [e]
  exact ⟨rfl, rfl⟩
theorem sub_in {s k : Nat} (hs : s < 128) (hk : k < 128) : (nI s - nI k).toInt = (s : Int) - (k : Int) := pk_sub_toInt (by omega) (by omega)
theorem sub_in6 {s k : Nat} (hs : s < 128) (hk : k < 128) : inR 0 5 (nI s - nI k) = decide (k ≤ s ∧ s ≤ k + 5) := by
  unfold inR; rw [sub_in hs hk]; apply decide_eq_decide.mpr; omega
theorem plaP_no {s : Nat} {P : Ps} (hs : s < 128) (h : inR 0 5 (nI s - nI 48) = false) : plaP s P = badP P := by
  rw [sub_in6 hs (by decide)] at h
  have := of_decide_eq_false h
  unfold plaP; rw [if_neg (by omega)]
theorem plaP_yes {s : Nat} {P : Ps} (hs : s < 128) (h : inR 0 5 (nI s - nI 48) = true) : ∃ j, j < 6 ∧ s = 48 + j ∧ nI (48 + j) - nI 48 = nI j ∧ plaP (48 + j) P = (0, pN P + 1, pA P, pK P, pS P, pH P, va_up (pP P) (pN P) j) := by
  rw [sub_in6 hs (by decide)] at h
  have := of_decide_eq_true h
  refine ⟨s - 48, by omega, by omega, by rw [pk_sub (by omega), Nat.add_sub_cancel_left], ?_⟩
  unfold plaP; rw [if_pos (by omega), Nat.add_sub_cancel_left]
theorem heaP_no {s : Nat} {P : Ps} (hs : s < 128) (h : inR 0 5 (nI s - nI 65) = false) : heaP s P = badP P := by
  rw [sub_in6 hs (by decide)] at h
  have := of_decide_eq_false h
  unfold heaP; rw [if_neg (by omega)]
theorem heaP_in {s : Nat} {P : Ps} (hs : s < 128) (h : inR 0 5 (nI s - nI 65) = true) : ∃ j, j < 6 ∧ s = 65 + j ∧ nI (65 + j) - nI 65 = nI j ∧ (¬ j = pS P (pN P) → heaP (65 + j) P = (2, pN P, pA P, pK P, pS P, va_up (pH P) (pN P) j, pP P)) := by
  rw [sub_in6 hs (by decide)] at h
  have := of_decide_eq_true h
  refine ⟨s - 65, by omega, by omega, by rw [pk_sub (by omega), Nat.add_sub_cancel_left], fun h2 => ?_⟩
  unfold heaP; rw [Nat.add_sub_cancel_left, if_pos ⟨by omega, h2⟩]
theorem heaP_eq {j : Nat} {P : Ps} (h : j = pS P (pN P)) : heaP (65 + j) P = badP P := by
  unfold heaP; rw [Nat.add_sub_cancel_left, if_neg (fun z => z.2 h)]
theorem spkP_q {s : Nat} {P : Ps} (h1 : s = 63) (h2 : pA P < 3) : spkP s P = (1, pN P, pA P + 1, va_up (pK P) (pN P) 1, va_up (pS P) (pN P) (6 + pA P), pH P, pP P) := by
  unfold spkP; rw [if_pos ⟨h1, h2⟩]
theorem spkP_no {s : Nat} {P : Ps} (hs : s < 128) (h0 : ¬ (s = 63 ∧ pA P < 3)) (h : inR 0 5 (nI s - nI 65) = false) : spkP s P = badP P := by
  rw [sub_in6 hs (by decide)] at h
  have := of_decide_eq_false h
  unfold spkP; rw [if_neg h0, if_neg (by omega)]
theorem spkP_yes {s : Nat} {P : Ps} (hs : s < 128) (h0 : ¬ (s = 63 ∧ pA P < 3)) (h : inR 0 5 (nI s - nI 65) = true) : ∃ j, j < 6 ∧ s = 65 + j ∧ nI (65 + j) - nI 65 = nI j ∧ spkP (65 + j) P = (1, pN P, pA P, va_up (pK P) (pN P) 1, va_up (pS P) (pN P) j, pH P, pP P) := by
  rw [sub_in6 hs (by decide)] at h
  have := of_decide_eq_true h
  refine ⟨s - 65, by omega, by omega, by rw [pk_sub (by omega), Nat.add_sub_cancel_left], ?_⟩
  unfold spkP; rw [if_neg (by omega), if_pos (by omega), Nat.add_sub_cancel_left]
theorem rd_next {PS : Nat → Nat} {P : Ps} {i : Nat} (h1 : ∀ j, j < i → pSt (sc PS P (j + 1)) < 4) (h : ¬ pSt (tk (pSt (sc PS P i)) (PS i) (sc PS P i)) = 4) : ∀ j, j < i + 1 → pSt (sc PS P (j + 1)) < 4 := by
  intro j hj
  rcases Nat.lt_or_ge j i with q | q
  · exact h1 j q
  · have e : j = i := by omega
    subst e
    have h2 := sc_le4 PS P (j + 1)
    have h3 : ¬ pSt (sc PS P (j + 1)) = 4 := h
    omega
