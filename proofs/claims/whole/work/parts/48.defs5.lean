/-! Texts: what their parts do. -/
def spkr (GU : Nat → Nat) (P : Ps) (i : Nat) : Nat := if pS P i < 6 then pS P i else GU (pS P i - 6)
def okPt (GU : Nat → Nat) (P : Ps) (i : Nat) : Prop := pK P i = 0 ∨ (pK P i ≤ 2 ∧ pS P i < 9 ∧ spkr GU P i < 6 ∧ pH P i < 6 ∧ pP P i < 6)
def efOK (O T K : Nat → Nat) (GU : Nat → Nat) (P : Ps) (B : Nat → Nat → Nat) (i : Nat) : Bool := if pK P i = 0 then true else if pK P i = 1 then tellOK O T K B (spkr GU P i) (pH P i) (pP P i) else denyOK T B (spkr GU P i) (pH P i) (pP P i)
def efB (O T K : Nat → Nat) (fd : Nat) (GU : Nat → Nat) (P : Ps) (B : Nat → Nat → Nat) (i : Nat) : Nat → Nat → Nat := if pK P i = 0 then fdB B else if pK P i = 1 then tellB O T K fd B (spkr GU P i) (pH P i) (pP P i) else denyB T B (spkr GU P i) (pH P i) (pP P i)
def plyB (O T K : Nat → Nat) (fd : Nat) (GU : Nat → Nat) (P : Ps) (B : Nat → Nat → Nat) : Nat → Nat → Nat → Nat
  | 0 => B
  | n + 1 => efB O T K fd GU P (plyB O T K fd GU P B n) n
theorem efB_ok {O T K : Nat → Nat} {fd : Nat} {GU : Nat → Nat} {P : Ps} {B : Nat → Nat → Nat} {i : Nat} (hB : okB B) (hfd : fd < 10) : okB (efB O T K fd GU P B i) := by
  unfold efB; split
  · exact fdB_ok hB
  · split
    · exact tellB_ok hB hfd
    · exact denyB_ok hB
theorem plyB_ok {O T K : Nat → Nat} {fd : Nat} {GU : Nat → Nat} {P : Ps} {B : Nat → Nat → Nat} (hB : okB B) (hfd : fd < 10) : ∀ n, okB (plyB O T K fd GU P B n)
  | 0 => hB
  | n + 1 => efB_ok (plyB_ok hB hfd n) hfd
theorem okPt_k {GU : Nat → Nat} {P : Ps} {i : Nat} (h : okPt GU P i) : pK P i ≤ 2 := by
  rcases h with h | h <;> omega
theorem okPt_r {GU : Nat → Nat} {P : Ps} {i : Nat} (h : okPt GU P i) (h0 : 0 < pK P i) : pK P i ≤ 2 ∧ pS P i < 9 ∧ spkr GU P i < 6 ∧ pH P i < 6 ∧ pP P i < 6 := by
  rcases h with h | h
  · omega
  · exact h
theorem spkr_lo {GU : Nat → Nat} {P : Ps} {i : Nat} (h : pS P i < 6) : pS P i = spkr GU P i := by unfold spkr; rw [if_pos h]
theorem spkr_hi {GU : Nat → Nat} {P : Ps} {i : Nat} (h : 6 ≤ pS P i) : rN GU (pS P i - 6) = nI (spkr GU P i) := by unfold spkr; rw [if_neg (by omega)]
def rfR (PS : Nat → Nat) (P : Ps) (mn : Nat) : Int32 := if rdv PS P mn = -6 then (if 0 < pA (rdp PS P mn) then -3 else nI 0) else -5
theorem neg3_ne : ¬ (-3 : Int32) = 0 := by decide
theorem neg5_ne : ¬ (-5 : Int32) = 0 := by decide
theorem rf_zero {PS : Nat → Nat} {P : Ps} {mn : Nat} (h : rfR PS P mn = 0) : rdv PS P mn = -6 ∧ pA (rdp PS P mn) = 0 := by
  unfold rfR at h
  by_cases h1 : rdv PS P mn = -6
  · rw [if_pos h1] at h
    by_cases h2 : 0 < pA (rdp PS P mn)
    · rw [if_pos h2] at h; exact absurd h neg3_ne
    · exact ⟨h1, by omega⟩
  · rw [if_neg h1] at h; exact absurd h neg5_ne
/-- the parts read so far are sound -/
def scI (P : Ps) : Prop := (∀ i, i < pN P → pK P i = 0 ∨ (pK P i ≤ 2 ∧ pS P i < 6 + pA P ∧ pH P i < 6 ∧ pP P i < 6)) ∧ (pSt P = 1 ∨ pSt P = 2 ∨ pSt P = 3 → pK P (pN P) ≤ 2 ∧ pS P (pN P) < 6 + pA P) ∧ (pSt P = 2 ∨ pSt P = 3 → pH P (pN P) < 6)
theorem up_at (f : Nat → Nat) (k v : Nat) : va_up f k v k = v := va_up_self f k v
theorem up_lo {f : Nat → Nat} {k v i : Nat} (h : i < k) : va_up f k v i = f i := va_up_ne f v (by omega)
theorem scI_tk {P : Ps} {s : Nat} (h : scI P) (hs : pSt P < 4) : scI (tk (pSt P) s P) := by
  obtain ⟨h1, h2, h3⟩ := h
  have hbad : scI (badP P) := by
    refine ⟨fun i hi => h1 i hi, fun hh => ?_, fun hh => ?_⟩
    · have : pSt (badP P) = 4 := rfl
      omega
    · have : pSt (badP P) = 4 := rfl
      omega
  have hpla : ∀ s, (pSt P = 2 ∨ pSt P = 3) → scI (plaP s P) := by
    intro s hst
    unfold plaP
    split
    · next hq =>
      refine ⟨fun i hi => ?_, fun hh => ?_, fun hh => ?_⟩
      · have hi' : i < pN P + 1 := hi
        by_cases e : i = pN P
        · subst e
          refine Or.inr ⟨(h2 (by omega)).1, (h2 (by omega)).2, h3 hst, ?_⟩
          show va_up (pP P) (pN P) (s - 48) (pN P) < 6
          rw [up_at]; omega
        · rcases h1 i (by omega) with q | ⟨q1, q2, q3, q4⟩
          · exact Or.inl q
          · refine Or.inr ⟨q1, q2, q3, ?_⟩
            show va_up (pP P) (pN P) (s - 48) i < 6
            rw [up_lo (by omega)]; exact q4
      · simp [pSt] at hh
      · simp [pSt] at hh
    · exact hbad
  unfold tk
  split
  · split
    · refine ⟨fun i hi => ?_, fun hh => ?_, fun hh => ?_⟩
      · have hi' : i < pN P + 1 := hi
        by_cases e : i = pN P
        · subst e; exact Or.inl (up_at _ _ _)
        · rcases h1 i (by omega) with q | ⟨q1, q2, q3, q4⟩
          · refine Or.inl ?_
            show va_up (pK P) (pN P) 0 i = 0
            rw [up_lo (by omega)]; exact q
          · refine Or.inr ⟨?_, q2, q3, q4⟩
            show va_up (pK P) (pN P) 0 i ≤ 2
            rw [up_lo (by omega)]; exact q1
      · simp [dayP, pSt] at hh
      · simp [dayP, pSt] at hh
    · unfold spkP
      split
      · next hq =>
        refine ⟨fun i hi => ?_, fun hh => ⟨?_, ?_⟩, fun hh => ?_⟩
        · have hi' : i < pN P := hi
          rcases h1 i (by omega) with q | ⟨q1, q2, q3, q4⟩
          · refine Or.inl ?_
            show va_up (pK P) (pN P) 1 i = 0
            rw [up_lo (by omega)]; exact q
          · refine Or.inr ⟨?_, ?_, q3, q4⟩
            · show va_up (pK P) (pN P) 1 i ≤ 2
              rw [up_lo (by omega)]; exact q1
            · show va_up (pS P) (pN P) (6 + pA P) i < 6 + (pA P + 1)
              rw [up_lo (by omega)]; omega
        · show va_up (pK P) (pN P) 1 (pN P) ≤ 2
          rw [up_at]; omega
        · show va_up (pS P) (pN P) (6 + pA P) (pN P) < 6 + (pA P + 1)
          rw [up_at]; omega
        · simp [pSt] at hh
      · split
        · next hq =>
          refine ⟨fun i hi => ?_, fun hh => ⟨?_, ?_⟩, fun hh => ?_⟩
          · have hi' : i < pN P := hi
            rcases h1 i (by omega) with q | ⟨q1, q2, q3, q4⟩
            · refine Or.inl ?_
              show va_up (pK P) (pN P) 1 i = 0
              rw [up_lo (by omega)]; exact q
            · refine Or.inr ⟨?_, ?_, q3, q4⟩
              · show va_up (pK P) (pN P) 1 i ≤ 2
                rw [up_lo (by omega)]; exact q1
              · show va_up (pS P) (pN P) (s - 65) i < 6 + pA P
                rw [up_lo (by omega)]; exact q2
          · show va_up (pK P) (pN P) 1 (pN P) ≤ 2
            rw [up_at]; omega
          · show va_up (pS P) (pN P) (s - 65) (pN P) < 6 + pA P
            rw [up_at]; omega
          · simp [pSt] at hh
        · exact hbad
  · split
    · next e1 =>
      unfold heaP
      split
      · next hq =>
        refine ⟨fun i hi => ?_, fun hh => h2 (by omega), fun hh => ?_⟩
        · have hi' : i < pN P := hi
          rcases h1 i (by omega) with q | ⟨q1, q2, q3, q4⟩
          · exact Or.inl q
          · refine Or.inr ⟨q1, q2, ?_, q4⟩
            show va_up (pH P) (pN P) (s - 65) i < 6
            rw [up_lo (by omega)]; exact q3
        · show va_up (pH P) (pN P) (s - 65) (pN P) < 6
          rw [up_at]; omega
      · exact hbad
    · split
      · next e2 =>
        split
        · refine ⟨fun i hi => ?_, fun hh => ⟨?_, (h2 (by omega)).2⟩, fun hh => h3 (by omega)⟩
          · have hi' : i < pN P := hi
            rcases h1 i (by omega) with q | ⟨q1, q2, q3, q4⟩
            · refine Or.inl ?_
              show va_up (pK P) (pN P) 2 i = 0
              rw [up_lo (by omega)]; exact q
            · refine Or.inr ⟨?_, q2, q3, q4⟩
              show va_up (pK P) (pN P) 2 i ≤ 2
              rw [up_lo (by omega)]; exact q1
          · show va_up (pK P) (pN P) 2 (pN P) ≤ 2
            rw [up_at]; omega
        · exact hpla s (by omega)
      · exact hpla s (by omega)
theorem scI_sc {PS : Nat → Nat} {P : Ps} : ∀ n, (∀ j, j < n → pSt (sc PS P (j + 1)) < 4) → scI (sc PS P n)
  | 0, _ => ⟨fun i hi => absurd hi (Nat.not_lt_zero i), fun hh => by simp [sc, pSt] at hh, fun hh => by simp [sc, pSt] at hh⟩
  | n + 1, h => by
    have h4 : pSt (sc PS P n) < 4 := by
      cases n with
      | zero => show (0 : Nat) < 4; decide
      | succ k => exact h k (by omega)
    exact scI_tk (scI_sc n (fun j hj => h j (by omega))) h4
theorem firstB_none_iff {f : Nat → Bool} : ∀ {n : Nat}, firstB f n = none → ∀ j, j < n → f j = false
  | 0, _, j, hj => absurd hj (Nat.not_lt_zero j)
  | n + 1, h, j, hj => by
    simp only [firstB] at h
    cases h2 : firstB f n with
    | some i => rw [h2] at h; cases h
    | none =>
      rw [h2] at h
      by_cases e : j = n
      · subst e
        cases h3 : f j with
        | false => rfl
        | true => rw [h3] at h; simp at h
      · exact firstB_none_iff h2 j (by omega)
theorem firstB_lt {f : Nat → Bool} : ∀ {n i : Nat}, firstB f n = some i → i < n ∧ f i = true
  | 0, i, h => by cases h
  | n + 1, i, h => by
    simp only [firstB] at h
    cases h2 : firstB f n with
    | some k => rw [h2] at h; have := firstB_lt h2; cases h; exact ⟨by omega, this.2⟩
    | none =>
      rw [h2] at h
      cases h3 : f n with
      | false => rw [h3] at h; simp at h
      | true => rw [h3] at h; simp at h; subst h; exact ⟨by omega, h3⟩
theorem rd_ok {PS : Nat → Nat} {P : Ps} {mn : Nat} (hmn : mn ≤ 60) (h : rdv PS P mn = -6) : rdp PS P mn = sc PS P mn ∧ pSt (sc PS P mn) = 0 ∧ scI (sc PS P mn) ∧ pN (sc PS P mn) ≤ 60 ∧ pA (sc PS P mn) ≤ 3 := by
  have hN : ∀ n : Nat, n ≤ 60 → ¬ nI n = -6 := by decide
  unfold rdv at h
  cases h2 : firstB (rdb PS P) mn with
  | some i => rw [h2] at h; exact absurd h (hN i (by have := (firstB_lt h2).1; omega))
  | none =>
    rw [h2] at h
    have hq : ∀ j, j < mn → pSt (sc PS P (j + 1)) < 4 := by
      intro j hj
      have h3 := firstB_none_iff h2 j hj
      unfold rdb at h3
      have h4 := of_decide_eq_false h3
      have h5 := sc_le4 PS P (j + 1)
      omega
    have hf := sc_facts PS P mn
    refine ⟨by unfold rdp; rw [h2], ?_, scI_sc mn hq, by omega, hf.2.1⟩
    by_cases h0 : pSt (sc PS P mn) = 0
    · exact h0
    · simp only [] at h
      rw [if_neg h0] at h
      exact absurd h (hN mn hmn)
theorem rd_pts {PS : Nat → Nat} {P : Ps} {mn : Nat} {GU : Nat → Nat} (hmn : mn ≤ 60) (hGU : ∀ j, j < pA (rdp PS P mn) → GU j < 6) (h : rdv PS P mn = -6) : pN (rdp PS P mn) ≤ 60 ∧ pA (rdp PS P mn) ≤ 3 ∧ ∀ i, i < pN (rdp PS P mn) → okPt GU (rdp PS P mn) i := by
  obtain ⟨e, -, hI, hN, hA⟩ := rd_ok hmn h
  rw [e] at hGU ⊢
  refine ⟨hN, hA, fun i hi => ?_⟩
  rcases hI.1 i hi with q | ⟨q1, q2, q3, q4⟩
  · exact Or.inl q
  · refine Or.inr ⟨q1, by omega, ?_, q3, q4⟩
    unfold spkr
    split
    · assumption
    · exact hGU _ (by omega)
/-- vain parts among the first n; the x-th of them -/
def vnC (O T K : Nat → Nat) (fd : Nat) (GU : Nat → Nat) (P : Ps) (B : Nat → Nat → Nat) : Nat → Nat
  | 0 => 0
  | n + 1 => if efOK O T K GU P (plyB O T K fd GU P B n) n then vnC O T K fd GU P B n else vnC O T K fd GU P B n + 1
def vnF (O T K : Nat → Nat) (fd : Nat) (GU : Nat → Nat) (P : Ps) (B : Nat → Nat → Nat) (x : Int32) : Nat → Int32
  | 0 => -6
  | n + 1 => if efOK O T K GU P (plyB O T K fd GU P B n) n then vnF O T K fd GU P B x n else if nI (vnC O T K fd GU P B n) = x then nI n else vnF O T K fd GU P B x n
theorem vnC_le (O T K : Nat → Nat) (fd : Nat) (GU : Nat → Nat) (P : Ps) (B : Nat → Nat → Nat) : ∀ n, vnC O T K fd GU P B n ≤ n
  | 0 => Nat.le_refl _
  | n + 1 => by have := vnC_le O T K fd GU P B n; simp only [vnC]; split <;> omega
theorem vn_t {O T K : Nat → Nat} {fd : Nat} {GU : Nat → Nat} {P : Ps} {B : Nat → Nat → Nat} {x : Int32} {n : Nat} (h : efOK O T K GU P (plyB O T K fd GU P B n) n = true) : vnC O T K fd GU P B n = vnC O T K fd GU P B (n + 1) ∧ vnF O T K fd GU P B x n = vnF O T K fd GU P B x (n + 1) := by
  simp only [vnC, vnF]; rw [if_pos h, if_pos h]; exact ⟨rfl, rfl⟩
theorem vn_f1 {O T K : Nat → Nat} {fd : Nat} {GU : Nat → Nat} {P : Ps} {B : Nat → Nat → Nat} {x : Int32} {n : Nat} (h : efOK O T K GU P (plyB O T K fd GU P B n) n = false) (hx : nI (vnC O T K fd GU P B n) = x) : vnC O T K fd GU P B n + 1 = vnC O T K fd GU P B (n + 1) ∧ nI n = vnF O T K fd GU P B x (n + 1) := by
  simp only [vnC, vnF]; rw [if_neg (by rw [h]; decide), if_neg (by rw [h]; decide), if_pos hx]; exact ⟨rfl, rfl⟩
theorem vn_f2 {O T K : Nat → Nat} {fd : Nat} {GU : Nat → Nat} {P : Ps} {B : Nat → Nat → Nat} {x : Int32} {n : Nat} (h : efOK O T K GU P (plyB O T K fd GU P B n) n = false) (hx : ¬ nI (vnC O T K fd GU P B n) = x) : vnC O T K fd GU P B n + 1 = vnC O T K fd GU P B (n + 1) ∧ vnF O T K fd GU P B x n = vnF O T K fd GU P B x (n + 1) := by
  simp only [vnC, vnF]; rw [if_neg (by rw [h]; decide), if_neg (by rw [h]; decide), if_neg hx]; exact ⟨rfl, rfl⟩
def vnR (O T K : Nat → Nat) (fd : Nat) (GU PS : Nat → Nat) (P : Ps) (mn : Nat) (B : Nat → Nat → Nat) (x : Int32) : Int32 := if rfR PS P mn = 0 then (if x = -1 then nI (vnC O T K fd GU (rdp PS P mn) B (pN (rdp PS P mn))) else vnF O T K fd GU (rdp PS P mn) B x (pN (rdp PS P mn))) else rfR PS P mn
def dnR (PS : Nat → Nat) (P : Ps) (mn : Nat) : Int32 := if rfR PS P mn = 0 then nI (pN (rdp PS P mn)) else rfR PS P mn
def dnB (O T K : Nat → Nat) (fd : Nat) (GU PS : Nat → Nat) (P : Ps) (mn : Nat) (B : Nat → Nat → Nat) : Nat → Nat → Nat := if rfR PS P mn = 0 then plyB O T K fd GU (rdp PS P mn) B (pN (rdp PS P mn)) else B
def bhR (O T K : Nat → Nat) (fd : Nat) (GU PS : Nat → Nat) (P : Ps) (mn : Nat) (B : Nat → Nat → Nat) (p a : Int32) : Int32 := pick (inR 0 5 p && isPA a) (if rfR PS P mn = 0 then blR (plyB O T K fd GU (rdp PS P mn) B (pN (rdp PS P mn))) (nn p) a else rfR PS P mn) (-1)
