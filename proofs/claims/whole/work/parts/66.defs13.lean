/-! What the check reads in the i-th part of a sound text. -/
def pwM (PS : Nat → Nat) (A i : Nat) : Nat := 6 ^ (A - 1 - opnM PS (tp PS i))
theorem pwM_pos (PS : Nat → Nat) (A i : Nat) : 0 < pwM PS A i := Nat.pow_pos (by decide)
theorem pwM_le {PS : Nat → Nat} {A i : Nat} (h : A ≤ 3) : pwM PS A i ≤ 216 := by
  unfold pwM; exact pow6_le (by omega)
theorem rd_sim {PS : Nat → Nat} {P : Ps} {mn : Nat} (hmn : mn ≤ 60) (h : rdv PS P mn = -6) : Sim PS (rdp PS P mn) mn (ms PS mn) ∧ pSt (rdp PS P mn) = 0 := by
  obtain ⟨e, e0, -, -, -⟩ := rd_ok hmn h
  rw [e]
  refine ⟨?_, e0⟩
  have hN : ∀ n : Nat, n ≤ 60 → ¬ nI n = -6 := by decide
  rw [flt_eq] at h
  unfold fltM at h
  refine sim_all (fun j hj => ?_)
  cases h2 : firstB (fun k => !msF PS k) mn with
  | some i => rw [h2] at h; exact absurd h (hN i (by have := (firstB_lt h2).1; omega))
  | none => have := firstB_none_iff h2 j hj; simpa using this
theorem tp_end {PS : Nat → Nat} {R : Ps} {mn : Nat} {m : Nat × Nat} (h : Sim PS R mn m) (h0 : pSt R = 0) : tp PS (pN R) = mn := by
  have := Sim_pos h; omega
theorem tp_lt {PS : Nat → Nat} {R : Ps} {mn i : Nat} {m : Nat × Nat} (h : Sim PS R mn m) (hi : i < pN R) : tp PS i < mn := by
  rcases Sim_old h i hi with q | ⟨-, -, q | q⟩ <;> omega
theorem pt_day {PS : Nat → Nat} {R : Ps} {mn i : Nat} {m : Nat × Nat} (h : Sim PS R mn m) (hi : i < pN R) (hc : PS (tp PS i) = 46) : pK R i = 0 ∧ tp PS (i + 1) = tp PS i + 1 ∧ opnM PS (tp PS (i + 1)) = opnM PS (tp PS i) := by
  have e : tp PS (i + 1) = tp PS i + 1 := by show tp PS i + tlen PS (tp PS i) = _; unfold tlen; rw [if_pos hc]
  refine ⟨?_, e, by rw [e, opn_no (by omega)]⟩
  rcases Sim_old h i hi with q | ⟨q, -, -⟩
  · exact q.2.1
  · rcases q with q | q <;> omega
theorem pt_word {PS : Nat → Nat} {R : Ps} {mn i : Nat} {m : Nat × Nat} (h : Sim PS R mn m) (hi : i < pN R) (hc : PS (tp PS i) ≠ 46) : spkOK PS (tp PS i) (pS R i) ∧ heaOK PS (tp PS i) (pH R i) ∧ tp PS i + 3 ≤ mn := by
  rcases Sim_old h i hi with q | ⟨q1, q2, q | q⟩
  · exact absurd q.1 hc
  · exact ⟨q1, q2, by omega⟩
  · exact ⟨q1, q2, by omega⟩
theorem pt_den {PS : Nat → Nat} {R : Ps} {mn i : Nat} {m : Nat × Nat} (h : Sim PS R mn m) (hi : i < pN R) (hc : PS (tp PS i) ≠ 46) (hd : PS (tp PS i + 2) = 45) : pK R i = 2 ∧ 48 ≤ PS (tp PS i + 3) ∧ PS (tp PS i + 3) ≤ 53 ∧ pP R i = PS (tp PS i + 3) - 48 ∧ tp PS i + 4 ≤ mn ∧ tp PS (i + 1) = tp PS i + 4 := by
  have e : tp PS (i + 1) = tp PS i + 4 := by show tp PS i + tlen PS (tp PS i) = _; unfold tlen; rw [if_neg hc, if_pos hd]
  rcases Sim_old h i hi with q | ⟨q1, q2, q | q⟩
  · exact absurd q.1 hc
  · exact ⟨q.2.1, q.2.2.1, q.2.2.2.1, q.2.2.2.2.1, q.2.2.2.2.2, e⟩
  · exact absurd hd q.1
theorem pt_tel {PS : Nat → Nat} {R : Ps} {mn i : Nat} {m : Nat × Nat} (h : Sim PS R mn m) (hi : i < pN R) (hc : PS (tp PS i) ≠ 46) (hd : PS (tp PS i + 2) ≠ 45) : pK R i = 1 ∧ 48 ≤ PS (tp PS i + 2) ∧ PS (tp PS i + 2) ≤ 53 ∧ pP R i = PS (tp PS i + 2) - 48 ∧ tp PS i + 3 ≤ mn ∧ tp PS (i + 1) = tp PS i + 3 := by
  have e : tp PS (i + 1) = tp PS i + 3 := by show tp PS i + tlen PS (tp PS i) = _; unfold tlen; rw [if_neg hc, if_neg hd]
  rcases Sim_old h i hi with q | ⟨q1, q2, q | q⟩
  · exact absurd q.1 hc
  · exact absurd q.1 hd
  · exact ⟨q.2.1, q.2.2.1, q.2.2.2.1, q.2.2.2.2.1, q.2.2.2.2.2, e⟩
theorem pt_opn {PS : Nat → Nat} {R : Ps} {mn i : Nat} {m : Nat × Nat} (h : Sim PS R mn m) (hi : i < pN R) (hc : PS (tp PS i) ≠ 46) : opnM PS (tp PS (i + 1)) = opnM PS (tp PS i + 1) := by
  obtain ⟨-, q2, -⟩ := pt_word h hi hc
  unfold heaOK at q2
  have e1 : opnM PS (tp PS i + 1 + 1) = opnM PS (tp PS i + 1) := opn_no (by omega)
  by_cases hd : PS (tp PS i + 2) = 45
  · obtain ⟨-, a1, a2, -, -, e⟩ := pt_den h hi hc hd
    rw [e, show tp PS i + 4 = tp PS i + 3 + 1 by omega, opn_no (by omega), show tp PS i + 3 = tp PS i + 2 + 1 by omega, opn_no (by omega), ← e1]
  · obtain ⟨-, a1, a2, -, -, e⟩ := pt_tel h hi hc hd
    rw [e, show tp PS i + 3 = tp PS i + 2 + 1 by omega, opn_no (by omega), ← e1]
theorem pt_sp1 {PS GU : Nat → Nat} {R : Ps} {mn i f : Nat} {m : Nat × Nat} (h : Sim PS R mn m) (hi : i < pN R) (hc : PS (tp PS i) = 63) (hA : opnM PS (tp PS i) < pA R) (hg : ∀ j, j < pA R → GU j = f / 6 ^ (pA R - 1 - j) % 6) : f / pwM PS (pA R) i % 6 = spkr GU R i := by
  obtain ⟨q, -, -⟩ := pt_word h hi (by omega)
  rcases q with q | q
  · unfold spkr; rw [if_neg (by omega), q.2.1, show 6 + opnM PS (tp PS i) - 6 = opnM PS (tp PS i) by omega, hg _ hA]; rfl
  · exfalso; omega
theorem pt_sp2 {PS GU : Nat → Nat} {R : Ps} {mn i : Nat} {m : Nat × Nat} (h : Sim PS R mn m) (hi : i < pN R) (h6 : PS (tp PS i) ≠ 46) (hc : PS (tp PS i) ≠ 63) : PS (tp PS i) - 65 = spkr GU R i := by
  obtain ⟨q, -, -⟩ := pt_word h hi h6
  rcases q with q | q
  · exact absurd q.1 hc
  · unfold spkr; rw [if_pos (by omega)]; exact q.2.2.symm
theorem opn_mono (PS : Nat → Nat) {a b : Nat} (h : a ≤ b) : opnM PS a ≤ opnM PS b := by
  induction b with
  | zero => rw [show a = 0 by omega]; exact Nat.le_refl _
  | succ b ih =>
    by_cases q : a = b + 1
    · rw [q]; exact Nat.le_refl _
    · have := ih (by omega)
      by_cases z : PS b = 63
      · rw [opn_63 z]; omega
      · rw [opn_no z]; exact this
theorem pt_A {PS : Nat → Nat} {R : Ps} {mn i : Nat} {m : Nat × Nat} (h : Sim PS R mn m) (hi : i < pN R) (hc : PS (tp PS i) = 63) : opnM PS (tp PS i) < pA R := by
  have h1 := tp_lt h hi
  have h2 := opn_mono PS (a := tp PS i + 1) (b := mn) (by omega)
  rw [opn_63 hc] at h2
  rw [Sim_o h]; omega
theorem pw_same {PS : Nat → Nat} {A i : Nat} (h : opnM PS (tp PS (i + 1)) = opnM PS (tp PS i)) : pwM PS A i = pwM PS A (i + 1) := by unfold pwM; rw [h]
theorem pw_div {PS : Nat → Nat} {A i : Nat} (h : opnM PS (tp PS (i + 1)) = opnM PS (tp PS i) + 1) (h1 : 1 < pwM PS A i) : pwM PS A i / 6 = pwM PS A (i + 1) := by
  unfold pwM at *
  rw [h]
  cases e : A - 1 - opnM PS (tp PS i) with
  | zero => rw [e] at h1; exact absurd h1 (by decide)
  | succ n => rw [show A - 1 - (opnM PS (tp PS i) + 1) = n by omega, Nat.pow_succ, Nat.mul_div_cancel _ (by decide)]
theorem pw_one {PS : Nat → Nat} {A i : Nat} (h : opnM PS (tp PS (i + 1)) = opnM PS (tp PS i) + 1) (h1 : ¬ 1 < pwM PS A i) : pwM PS A i = pwM PS A (i + 1) := by
  unfold pwM at *
  rw [h]
  cases e : A - 1 - opnM PS (tp PS i) with
  | zero => rw [show A - 1 - (opnM PS (tp PS i) + 1) = 0 by omega]
  | succ n => rw [e, Nat.pow_succ] at h1; have := Nat.pow_pos (n := n) (show 0 < 6 by decide); exfalso; omega
theorem ef_day {O T K : Nat → Nat} {fd : Nat} {GU : Nat → Nat} {R : Ps} {B : Nat → Nat → Nat} {i : Nat} (h : pK R i = 0) : true = efOK O T K GU R (plyB O T K fd GU R B i) i ∧ plyB O T K fd GU R B (i + 1) = fdB (plyB O T K fd GU R B i) := by
  refine ⟨?_, ?_⟩
  · unfold efOK; rw [if_pos h]
  · show efB _ _ _ _ _ _ _ _ = _
    unfold efB; rw [if_pos h]
theorem ef_den {O T K : Nat → Nat} {fd : Nat} {GU : Nat → Nat} {R : Ps} {B : Nat → Nat → Nat} {i a b c : Nat} (h : pK R i = 2) (ha : a = spkr GU R i) (hb : b = pH R i) (hc : c = pP R i) : denyOK T (plyB O T K fd GU R B i) a b c = efOK O T K GU R (plyB O T K fd GU R B i) i ∧ plyB O T K fd GU R B (i + 1) = denyB T (plyB O T K fd GU R B i) a b c := by
  subst ha hb hc
  refine ⟨?_, ?_⟩
  · unfold efOK; rw [if_neg (by omega), if_neg (by omega)]
  · show efB _ _ _ _ _ _ _ _ = _
    unfold efB; rw [if_neg (by omega), if_neg (by omega)]
theorem ef_tel {O T K : Nat → Nat} {fd : Nat} {GU : Nat → Nat} {R : Ps} {B : Nat → Nat → Nat} {i a b c : Nat} (h : pK R i = 1) (ha : a = spkr GU R i) (hb : b = pH R i) (hc : c = pP R i) : tellOK O T K (plyB O T K fd GU R B i) a b c = efOK O T K GU R (plyB O T K fd GU R B i) i ∧ plyB O T K fd GU R B (i + 1) = tellB O T K fd (plyB O T K fd GU R B i) a b c := by
  subst ha hb hc
  refine ⟨?_, ?_⟩
  · unfold efOK; rw [if_neg (by omega), if_pos h]
  · show efB _ _ _ _ _ _ _ _ = _
    unfold efB; rw [if_neg (by omega), if_pos h]
theorem spkOK_lt {PS : Nat → Nat} {t s : Nat} (h : spkOK PS t s) : PS t ≤ 70 ∧ (PS t ≠ 63 → 65 ≤ PS t) := by
  rcases h with q | q
  · exact ⟨by omega, fun z => absurd q.1 z⟩
  · exact ⟨q.2.1, fun _ => q.1⟩
theorem pt_k {PS : Nat → Nat} {R : Ps} {mn i : Nat} {m : Nat × Nat} (h : Sim PS R mn m) (hi : i < pN R) (hc : PS (tp PS i) ≠ 46) : ¬ pK R i = 0 := by
  by_cases hd : PS (tp PS i + 2) = 45
  · rw [(pt_den h hi hc hd).1]; decide
  · rw [(pt_tel h hi hc hd).1]; decide
theorem tp_in {PS : Nat → Nat} {R : Ps} {mn i : Nat} {m : Nat × Nat} (h : Sim PS R mn m) (h0 : pSt R = 0) (hi : i ≤ pN R) (hc : tp PS i < mn) : i < pN R := by
  rcases Nat.lt_or_ge i (pN R) with z | z
  · exact z
  · have e := tp_end h h0
    rw [show i = pN R by omega] at hc
    omega
theorem tp_out {PS : Nat → Nat} {R : Ps} {mn i : Nat} {m : Nat × Nat} (h : Sim PS R mn m) (hi : i ≤ pN R) (hc : mn ≤ tp PS i) : i = pN R := by
  rcases Nat.lt_or_ge i (pN R) with z | z
  · have := tp_lt h z; omega
  · omega
theorem tp_le {PS : Nat → Nat} {R : Ps} {mn i : Nat} {m : Nat × Nat} (h : Sim PS R mn m) (h0 : pSt R = 0) (hi : i ≤ pN R) : tp PS i ≤ mn := by
  rcases Nat.lt_or_ge i (pN R) with z | z
  · have := tp_lt h z; omega
  · have e := tp_end h h0
    rw [show i = pN R by omega]
    omega
