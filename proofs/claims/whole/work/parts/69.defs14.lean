/-! The check's bar of a text is the class's refusal. -/
theorem bar_eq {PS : Nat → Nat} {mn : Nat} (hmn : mn ≤ 60) (P : Ps) : barR PS mn = rfR PS P mn := by
  have hN : ∀ n : Nat, n ≤ 60 → 0 ≤ (nI n).toInt ∧ ¬ nI n = -6 := by decide
  have h6 : ¬ 0 ≤ (-6 : Int32).toInt := by decide
  have hor : (∃ i, i ≤ 60 ∧ fltM PS mn = nI i) ∨ fltM PS mn = -6 := by
    unfold fltM
    cases h2 : firstB (fun k => !msF PS k) mn with
    | some i => exact Or.inl ⟨i, by have := (firstB_lt h2).1; omega, rfl⟩
    | none => by_cases q : (ms PS mn).1 = 0
              · exact Or.inr (if_pos q)
              · exact Or.inl ⟨mn, hmn, if_neg q⟩
  rcases hor with ⟨i, hi, e⟩ | e
  · unfold barR rfR
    rw [flt_eq, e, if_pos (hN i hi).1, if_neg (hN i hi).2]
  · have hv : rdv PS P mn = -6 := by rw [flt_eq, e]
    have hs := rd_sim hmn hv
    unfold barR rfR
    rw [hv, e, if_neg h6, if_pos rfl, ← Sim_o hs.1]
theorem rf_ge {PS : Nat → Nat} {P : Ps} {mn : Nat} (h : 0 ≤ (rfR PS P mn).toInt) : rfR PS P mn = 0 := by
  unfold rfR at *
  by_cases h1 : rdv PS P mn = -6
  · rw [if_pos h1] at *
    by_cases h2 : 0 < pA (rdp PS P mn)
    · rw [if_pos h2] at h; exact absurd h (by decide)
    · rw [if_neg h2]; rfl
  · rw [if_neg h1] at h; exact absurd h (by decide)
theorem rf_lt {PS : Nat → Nat} {P : Ps} {mn : Nat} (h : ¬ 0 ≤ (rfR PS P mn).toInt) : ¬ rfR PS P mn = 0 := fun e => h (by rw [e]; decide)
