/-! The check's parts, found by their places in the text. -/
def tlen (PS : Nat → Nat) (t : Nat) : Nat := if PS t = 46 then 1 else if PS (t + 2) = 45 then 4 else 3
/-- where the i-th part begins -/
def tp (PS : Nat → Nat) : Nat → Nat
  | 0 => 0
  | i + 1 => tp PS i + tlen PS (tp PS i)
def spkOK (PS : Nat → Nat) (t s : Nat) : Prop := (PS t = 63 ∧ s = 6 + opnM PS t ∧ opnM PS t ≤ 2) ∨ (65 ≤ PS t ∧ PS t ≤ 70 ∧ s = PS t - 65)
def heaOK (PS : Nat → Nat) (t h : Nat) : Prop := 65 ≤ PS (t + 1) ∧ PS (t + 1) ≤ 70 ∧ h = PS (t + 1) - 65
def ptOK (PS : Nat → Nat) (k t a b c d : Nat) : Prop := (PS t = 46 ∧ a = 0 ∧ t + 1 ≤ k) ∨ (spkOK PS t b ∧ heaOK PS t c ∧ ((PS (t + 2) = 45 ∧ a = 2 ∧ 48 ≤ PS (t + 3) ∧ PS (t + 3) ≤ 53 ∧ d = PS (t + 3) - 48 ∧ t + 4 ≤ k) ∨ (PS (t + 2) ≠ 45 ∧ a = 1 ∧ 48 ≤ PS (t + 2) ∧ PS (t + 2) ≤ 53 ∧ d = PS (t + 2) - 48 ∧ t + 3 ≤ k)))
theorem ptOK_up {PS : Nat → Nat} {k t a b c d : Nat} (h : ptOK PS k t a b c d) : ptOK PS (k + 1) t a b c d := by
  rcases h with ⟨h1, h2, h3⟩ | ⟨h1, h2, h3⟩
  · exact Or.inl ⟨h1, h2, by omega⟩
  · refine Or.inr ⟨h1, h2, ?_⟩
    rcases h3 with ⟨a1, a2, a3, a4, a5, a6⟩ | ⟨a1, a2, a3, a4, a5, a6⟩
    · exact Or.inl ⟨a1, a2, a3, a4, a5, by omega⟩
    · exact Or.inr ⟨a1, a2, a3, a4, a5, by omega⟩
abbrev Sim (PS : Nat → Nat) (S : Ps) (k : Nat) (m : Nat × Nat) : Prop := (pSt S = m.1) ∧ (pSt S ≤ 3) ∧ (pA S = m.2) ∧ (pA S = opnM PS k) ∧ (pA S ≤ 3) ∧ (tp PS (pN S) + pSt S = k) ∧ (∀ i, i < pN S → ptOK PS k (tp PS i) (pK S i) (pS S i) (pH S i) (pP S i)) ∧ (1 ≤ pSt S → spkOK PS (tp PS (pN S)) (pS S (pN S))) ∧ (2 ≤ pSt S → heaOK PS (tp PS (pN S)) (pH S (pN S))) ∧ (1 ≤ pSt S → pSt S ≤ 2 → pK S (pN S) = 1) ∧ (pSt S = 3 → pK S (pN S) = 2 ∧ PS (tp PS (pN S) + 2) = 45)
theorem Sim_st {PS : Nat → Nat} {S : Ps} {k : Nat} {m : Nat × Nat} (h : Sim PS S k m) : pSt S = m.1 := h.1
theorem Sim_lt {PS : Nat → Nat} {S : Ps} {k : Nat} {m : Nat × Nat} (h : Sim PS S k m) : pSt S ≤ 3 := h.2.1
theorem Sim_a {PS : Nat → Nat} {S : Ps} {k : Nat} {m : Nat × Nat} (h : Sim PS S k m) : pA S = m.2 := h.2.2.1
theorem Sim_o {PS : Nat → Nat} {S : Ps} {k : Nat} {m : Nat × Nat} (h : Sim PS S k m) : pA S = opnM PS k := h.2.2.2.1
theorem Sim_a3 {PS : Nat → Nat} {S : Ps} {k : Nat} {m : Nat × Nat} (h : Sim PS S k m) : pA S ≤ 3 := h.2.2.2.2.1
theorem Sim_pos {PS : Nat → Nat} {S : Ps} {k : Nat} {m : Nat × Nat} (h : Sim PS S k m) : tp PS (pN S) + pSt S = k := h.2.2.2.2.2.1
theorem Sim_old {PS : Nat → Nat} {S : Ps} {k : Nat} {m : Nat × Nat} (h : Sim PS S k m) : ∀ i, i < pN S → ptOK PS k (tp PS i) (pK S i) (pS S i) (pH S i) (pP S i) := h.2.2.2.2.2.2.1
theorem Sim_c1 {PS : Nat → Nat} {S : Ps} {k : Nat} {m : Nat × Nat} (h : Sim PS S k m) : 1 ≤ pSt S → spkOK PS (tp PS (pN S)) (pS S (pN S)) := h.2.2.2.2.2.2.2.1
theorem Sim_c2 {PS : Nat → Nat} {S : Ps} {k : Nat} {m : Nat × Nat} (h : Sim PS S k m) : 2 ≤ pSt S → heaOK PS (tp PS (pN S)) (pH S (pN S)) := h.2.2.2.2.2.2.2.2.1
theorem Sim_c3 {PS : Nat → Nat} {S : Ps} {k : Nat} {m : Nat × Nat} (h : Sim PS S k m) : 1 ≤ pSt S → pSt S ≤ 2 → pK S (pN S) = 1 := h.2.2.2.2.2.2.2.2.2.1
theorem Sim_c4 {PS : Nat → Nat} {S : Ps} {k : Nat} {m : Nat × Nat} (h : Sim PS S k m) : pSt S = 3 → pK S (pN S) = 2 ∧ PS (tp PS (pN S) + 2) = 45 := h.2.2.2.2.2.2.2.2.2.2
theorem sim_0 (PS : Nat → Nat) (P : Ps) : Sim PS (sc PS P 0) 0 (ms PS 0) := by
  have e0 : pSt (sc PS P 0) = 0 := rfl
  refine ⟨rfl, Nat.zero_le _, rfl, rfl, Nat.zero_le _, rfl, fun i hi => absurd hi (Nat.not_lt_zero _), ?_, ?_, ?_, ?_⟩
  all_goals intro h
  all_goals (exfalso; rw [e0] at h; omega)
theorem opn_63 {PS : Nat → Nat} {k : Nat} (h : PS k = 63) : opnM PS (k + 1) = opnM PS k + 1 := by
  simp only [opnM, cnt, h]; rfl
theorem opn_no {PS : Nat → Nat} {k : Nat} (h : PS k ≠ 63) : opnM PS (k + 1) = opnM PS k := by
  simp [opnM, cnt, h]
theorem up_lt' {f : Nat → Nat} {k v i : Nat} (h : i < k) : va_up f k v i = f i := up_lo h
theorem sim_pla {PS : Nat → Nat} {S : Ps} {k : Nat} {m : Nat × Nat} (h : Sim PS S k m) (hs2 : 2 ≤ pSt S) (hc : pSt S = 2 → PS k ≠ 45) (hv : 48 ≤ PS k ∧ PS k ≤ 53) (m' : Nat) (hm : m' = m.2) : Sim PS (plaP (PS k) S) (k + 1) (0, m') := by
  have hp := (Sim_pos h)
  have hl := (Sim_lt h)
  have hh := (Sim_c2 h) hs2
  have hsp := (Sim_c1 h) (by omega)
  have hn46 : PS (tp PS (pN S)) ≠ 46 := by rcases hsp with q | q <;> omega
  have e : plaP (PS k) S = (0, pN S + 1, pA S, pK S, pS S, pH S, va_up (pP S) (pN S) (PS k - 48)) := by unfold plaP; rw [if_pos hv]
  rw [e]
  have ht : tp PS (pN S + 1) = k + 1 := by
    show tp PS (pN S) + tlen PS (tp PS (pN S)) = k + 1
    unfold tlen; rw [if_neg hn46]
    by_cases q : pSt S = 2
    · rw [if_neg (by have := hc q; rwa [show tp PS (pN S) + 2 = k by omega])]; omega
    · rw [if_pos ((Sim_c4 h) (by omega)).2]; omega
  refine ⟨rfl, Nat.zero_le _, ?_, ?_, (show pA S ≤ 3 from Sim_a3 h), ?_, ?_, ?_, ?_, ?_, ?_⟩
  · show pA S = m'; rw [hm]; exact (Sim_a h)
  · show pA S = _; rw [opn_no (by omega)]; exact (Sim_o h)
  · show tp PS (pN S + 1) + 0 = k + 1; omega
  · intro i hi
    have hi' : i < pN S + 1 := hi
    by_cases q : i = pN S
    · subst q
      show ptOK PS (k + 1) _ (pK S _) (pS S _) (pH S _) (va_up (pP S) (pN S) (PS k - 48) (pN S))
      rw [up_at]
      refine Or.inr ⟨hsp, hh, ?_⟩
      by_cases q : pSt S = 2
      · have e2 : tp PS (pN S) + 2 = k := by omega
        refine Or.inr ?_
        rw [e2]
        exact ⟨hc q, (Sim_c3 h) (by omega) (by omega), hv.1, hv.2, rfl, by omega⟩
      · have e3 : tp PS (pN S) + 3 = k := by omega
        have h4 := (Sim_c4 h) (by omega)
        refine Or.inl ?_
        rw [e3]
        exact ⟨h4.2, h4.1, hv.1, hv.2, rfl, by omega⟩
    · show ptOK PS (k + 1) _ (pK S i) (pS S i) (pH S i) (va_up (pP S) (pN S) (PS k - 48) i)
      rw [up_lo (by omega)]
      exact ptOK_up ((Sim_old h) i (by omega))
  all_goals (intro hx; exfalso; simp [pSt] at hx)
theorem sim_step {PS : Nat → Nat} {P : Ps} {k : Nat} (h : Sim PS (sc PS P k) k (ms PS k)) : (msF PS k = false ∧ pSt (sc PS P (k + 1)) = 4) ∨ (msF PS k = true ∧ pSt (sc PS P (k + 1)) ≠ 4 ∧ Sim PS (sc PS P (k + 1)) (k + 1) (ms PS (k + 1))) := by
  rw [show sc PS P (k + 1) = tk (pSt (sc PS P k)) (PS k) (sc PS P k) from rfl]
  rw [show ms PS (k + 1) = (mst (ms PS k).1 (PS k), mop (ms PS k).1 (ms PS k).2 (PS k)) from rfl]
  unfold msF
  generalize sc PS P k = S at h
  generalize hm : ms PS k = m at h
  have h1 := (Sim_st h)
  have h2 := (Sim_a h)
  have h3 := (Sim_a3 h)
  have h4 := (Sim_lt h)
  have h5 := (Sim_pos h)
  have hbad : pSt (badP S) = 4 := rfl
  rw [← h1, ← h2]
  have hdec : pSt S = 0 ∨ pSt S = 1 ∨ pSt S = 2 ∨ pSt S = 3 := by omega
  rcases hdec with q | q | q | q
  · rw [q] at h1 h5 ⊢
    have hp : tp PS (pN S) = k := by omega
    by_cases c1 : PS k = 46
    · refine Or.inr ⟨by simp [mfit, c1], ?_, ?_⟩
      · rw [show tk 0 (PS k) S = dayP S by unfold tk; rw [if_pos rfl, if_pos c1]]; exact (by decide : ¬ (0:Nat) = 4)
      · rw [show tk 0 (PS k) S = dayP S by unfold tk; rw [if_pos rfl, if_pos c1]]
        rw [show mst 0 (PS k) = 0 by simp [mst, c1], show mop 0 (pA S) (PS k) = pA S by simp [mop, c1]]
        refine ⟨rfl, Nat.zero_le _, rfl, ?_, h3, ?_, ?_, ?_, ?_, ?_, ?_⟩
        · show pA S = _; rw [opn_no (by omega)]; exact (Sim_o h)
        · show tp PS (pN S) + tlen PS (tp PS (pN S)) + 0 = k + 1
          rw [hp]; unfold tlen; rw [if_pos c1]
        · intro i hi
          have hi' : i < pN S + 1 := hi
          by_cases q : i = pN S
          · subst q
            show ptOK PS (k + 1) _ (va_up (pK S) (pN S) 0 (pN S)) (pS S _) (pH S _) (pP S _)
            rw [up_at, hp]
            exact Or.inl ⟨c1, rfl, Nat.le_refl _⟩
          · show ptOK PS (k + 1) _ (va_up (pK S) (pN S) 0 i) (pS S i) (pH S i) (pP S i)
            rw [up_lo (by omega)]
            exact ptOK_up ((Sim_old h) i (by omega))
        all_goals (intro hx; exfalso; simp [dayP, pSt] at hx)
    · rw [show tk 0 (PS k) S = spkP (PS k) S by unfold tk; rw [if_pos rfl, if_neg c1]]
      have hsim : ∀ (A v : Nat), A = opnM PS (k + 1) → A ≤ 3 → spkOK PS (tp PS (pN S)) v → Sim PS (1, pN S, A, va_up (pK S) (pN S) 1, va_up (pS S) (pN S) v, pH S, pP S) (k + 1) (1, A) := by
        intro A v hA hA3 hv
        refine ⟨rfl, (by decide : (1:Nat) ≤ 3), rfl, hA, hA3, ?_, ?_, ?_, ?_, ?_, ?_⟩
        · show tp PS (pN S) + 1 = k + 1; omega
        · intro i hi
          have hi' : i < pN S := hi
          show ptOK PS (k + 1) _ (va_up (pK S) (pN S) 1 i) (va_up (pS S) (pN S) v i) (pH S i) (pP S i)
          rw [up_lo hi', up_lo hi']
          exact ptOK_up ((Sim_old h) i hi')
        · intro _
          show spkOK PS (tp PS (pN S)) (va_up (pS S) (pN S) v (pN S))
          rw [up_at]; exact hv
        · intro hx; exfalso; simp [pSt] at hx
        · intro _ _
          show va_up (pK S) (pN S) 1 (pN S) = 1
          rw [up_at]
        · intro hx; exfalso; simp [pSt] at hx
      have e1 : mst 0 (PS k) = 1 := by simp [mst, c1]
      have ho := (Sim_o h)
      by_cases c2 : PS k = 63 ∧ pA S < 3
      · have hq := opn_63 c2.1
        refine Or.inr ⟨by simp [mfit, c2.1]; omega, ?_, ?_⟩
        · unfold spkP; rw [if_pos c2]; exact (by decide : ¬ (1:Nat) = 4)
        · rw [show spkP (PS k) S = _ from if_pos c2, e1, show mop 0 (pA S) (PS k) = pA S + 1 by simp [mop, c2.1]]
          exact hsim _ _ (by omega) (by omega) (Or.inl ⟨by rw [hp]; exact c2.1, by rw [hp, ← ho], by rw [hp, ← ho]; omega⟩)
      · by_cases c3 : 65 ≤ PS k ∧ PS k ≤ 70
        · have hq : opnM PS (k + 1) = opnM PS k := opn_no (by omega)
          have es : spkP (PS k) S = (1, pN S, pA S, va_up (pK S) (pN S) 1, va_up (pS S) (pN S) (PS k - 65), pH S, pP S) := by unfold spkP; rw [if_neg c2, if_pos c3]
          refine Or.inr ⟨by simp [mfit, c3], ?_, ?_⟩
          · rw [es]; exact (by decide : ¬ (1:Nat) = 4)
          · rw [es, e1, show mop 0 (pA S) (PS k) = pA S by unfold mop; rw [if_neg (by omega)]]
            exact hsim _ _ (by omega) h3 (Or.inr ⟨by rw [hp]; exact c3.1, by rw [hp]; exact c3.2, by rw [hp]⟩)
        · refine Or.inl ⟨?_, by unfold spkP; rw [if_neg c2, if_neg c3]; rfl⟩
          unfold mfit; exact decide_eq_false (by omega)
  · rw [q] at h1 h5 ⊢
    have hp : tp PS (pN S) + 1 = k := by omega
    have hsp := (Sim_c1 h) (by omega)
    have hk1 : k - 1 = tp PS (pN S) := by omega
    rw [show tk 1 (PS k) S = heaP (PS k) S from rfl, show mst 1 (PS k) = 2 from rfl, show mop 1 (pA S) (PS k) = pA S from rfl, hk1]
    by_cases c1 : (65 ≤ PS k ∧ PS k ≤ 70) ∧ PS k - 65 ≠ pS S (pN S)
    · have es : heaP (PS k) S = (2, pN S, pA S, pK S, pS S, va_up (pH S) (pN S) (PS k - 65), pP S) := by unfold heaP; rw [if_pos c1]
      refine Or.inr ⟨?_, ?_, ?_⟩
      · unfold mfit; refine decide_eq_true (Or.inr (Or.inl ⟨rfl, c1.1, ?_⟩)); rcases hsp with z | z <;> omega
      · rw [es]; exact (by decide : ¬ (2:Nat) = 4)
      · rw [es]
        refine ⟨rfl, (by decide : (2:Nat) ≤ 3), rfl, ?_, h3, ?_, ?_, ?_, ?_, ?_, ?_⟩
        · show pA S = _; rw [opn_no (by omega)]; exact (Sim_o h)
        · show tp PS (pN S) + 2 = k + 1; omega
        · intro i hi
          have hi' : i < pN S := hi
          show ptOK PS (k + 1) _ (pK S i) (pS S i) (va_up (pH S) (pN S) (PS k - 65) i) (pP S i)
          rw [up_lo hi']
          exact ptOK_up ((Sim_old h) i hi')
        · intro _; exact hsp
        · intro _
          show heaOK PS (tp PS (pN S)) (va_up (pH S) (pN S) (PS k - 65) (pN S))
          rw [up_at]; unfold heaOK; rw [hp]; exact ⟨c1.1.1, c1.1.2, rfl⟩
        · intro _ _; exact (Sim_c3 h) (by omega) (by omega)
        · intro hx; exfalso; simp [pSt] at hx
    · refine Or.inl ⟨?_, by unfold heaP; rw [if_neg c1]; rfl⟩
      unfold mfit; refine decide_eq_false ?_
      rcases hsp with z | z <;> omega
  · rw [q] at h1 h5 ⊢
    have hp : tp PS (pN S) + 2 = k := by omega
    by_cases c1 : PS k = 45
    · refine Or.inr ⟨by simp [mfit, c1], ?_, ?_⟩
      · rw [show tk 2 (PS k) S = denP S by unfold tk; rw [if_neg (by decide), if_neg (by decide), if_pos rfl, if_pos c1]]; exact (by decide : ¬ (3:Nat) = 4)
      · rw [show tk 2 (PS k) S = denP S by unfold tk; rw [if_neg (by decide), if_neg (by decide), if_pos rfl, if_pos c1], show mst 2 (PS k) = 3 by simp [mst, c1], show mop 2 (pA S) (PS k) = pA S from rfl]
        refine ⟨rfl, Nat.le_refl _, rfl, ?_, h3, ?_, ?_, ?_, ?_, ?_, ?_⟩
        · show pA S = _; rw [opn_no (by omega)]; exact (Sim_o h)
        · show tp PS (pN S) + 3 = k + 1; omega
        · intro i hi
          have hi' : i < pN S := hi
          show ptOK PS (k + 1) _ (va_up (pK S) (pN S) 2 i) (pS S i) (pH S i) (pP S i)
          rw [up_lo hi']
          exact ptOK_up ((Sim_old h) i hi')
        · intro _; exact (Sim_c1 h) (by omega)
        · intro _; exact (Sim_c2 h) (by omega)
        · intro _ hx; exfalso; simp [denP, pSt] at hx
        · intro _
          refine ⟨?_, ?_⟩
          · show va_up (pK S) (pN S) 2 (pN S) = 2
            rw [up_at]
          · show PS (tp PS (pN S) + 2) = 45
            rw [hp]; exact c1
    · rw [show tk 2 (PS k) S = plaP (PS k) S by unfold tk; rw [if_neg (by decide), if_neg (by decide), if_pos rfl, if_neg c1]]
      by_cases c2 : 48 ≤ PS k ∧ PS k ≤ 53
      · refine Or.inr ⟨by unfold mfit; exact decide_eq_true (by omega), by unfold plaP; rw [if_pos c2]; exact (by decide : ¬ (0:Nat) = 4), ?_⟩
        rw [show mst 2 (PS k) = 0 by simp [mst, c1], show mop 2 (pA S) (PS k) = pA S from rfl]
        exact sim_pla h (by omega) (fun _ => c1) c2 _ h2
      · exact Or.inl ⟨by unfold mfit; exact decide_eq_false (by omega), by unfold plaP; rw [if_neg c2]; rfl⟩
  · rw [q] at h1 h5 ⊢
    rw [show tk 3 (PS k) S = plaP (PS k) S by unfold tk; rw [if_neg (by decide), if_neg (by decide), if_neg (by decide)]]
    by_cases c2 : 48 ≤ PS k ∧ PS k ≤ 53
    · refine Or.inr ⟨by unfold mfit; exact decide_eq_true (by omega), by unfold plaP; rw [if_pos c2]; exact (by decide : ¬ (0:Nat) = 4), ?_⟩
      rw [show mst 3 (PS k) = 0 by simp [mst], show mop 3 (pA S) (PS k) = pA S from rfl]
      exact sim_pla h (by omega) (fun z => by omega) c2 _ h2
    · exact Or.inl ⟨by unfold mfit; exact decide_eq_false (by omega), by unfold plaP; rw [if_neg c2]; rfl⟩
theorem sim_all {PS : Nat → Nat} {P : Ps} : ∀ {k : Nat}, (∀ j, j < k → msF PS j = true) → Sim PS (sc PS P k) k (ms PS k)
  | 0, _ => sim_0 PS P
  | k + 1, h => by
    rcases sim_step (sim_all (k := k) (fun j hj => h j (by omega))) with q | q
    · exact absurd (h k (by omega)) (by rw [q.1]; decide)
    · exact q.2.2
theorem firstB_c {f g : Nat → Bool} (h : ∀ k, (∀ j, j < k → f j = false) → f k = g k) : ∀ n, firstB f n = firstB g n
  | 0 => rfl
  | n + 1 => by
    simp only [firstB]
    rw [← firstB_c h n]
    cases e : firstB f n with
    | some i => rfl
    | none => rw [h n (firstB_none_iff e)]
theorem flt_eq {PS : Nat → Nat} (P : Ps) (mn : Nat) : rdv PS P mn = fltM PS mn := by
  have hc : firstB (rdb PS P) mn = firstB (fun k => !msF PS k) mn := by
    symm
    refine firstB_c (fun k hk => ?_) mn
    rcases sim_step (sim_all (P := P) (k := k) (fun j hj => by have := hk j hj; simpa using this)) with q | q
    · rw [q.1]; unfold rdb; rw [q.2]; rfl
    · rw [q.1]; unfold rdb; exact (decide_eq_false q.2.1).symm
  unfold rdv fltM
  rw [← hc]
  cases e : firstB (rdb PS P) mn with
  | some i => rfl
  | none =>
    rw [hc] at e
    have hs := sim_all (P := P) (k := mn) (fun j hj => by have := firstB_none_iff e j hj; simpa using this)
    rw [(Sim_st hs)]
