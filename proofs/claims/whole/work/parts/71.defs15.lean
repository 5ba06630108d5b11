/-! The check's count of fillings. -/
def sgT (B : Nat → Nat → Nat) (SP SL : Nat → Nat) (q : Nat) : Bool := (firstB (fun j => !decide (ld B (SP j) 0 = SL j)) q).isNone
theorem sgT_step (B : Nat → Nat → Nat) (SP SL : Nat → Nat) (q : Nat) : sgT B SP SL (q + 1) = (sgT B SP SL q && decide (ld B (SP q) 0 = SL q)) := by
  unfold sgT; simp only [firstB]
  cases e : firstB (fun j => !decide (ld B (SP j) 0 = SL j)) q with
  | some i => rfl
  | none => by_cases h : ld B (SP q) 0 = SL q
            · simp [h]
            · simp [h]
theorem sgT_f {B : Nat → Nat → Nat} {SP SL : Nat → Nat} {q : Nat} (h : sgT B SP SL q = false) : ∀ n, sgT B SP SL (q + n) = false
  | 0 => h
  | n + 1 => by rw [show q + (n + 1) = q + n + 1 by omega, sgT_step, sgT_f h n]; rfl
theorem sgT_all {B : Nat → Nat → Nat} {SP SL : Nat → Nat} {q sg : Nat} (hq : q ≤ sg) (h : sgT B SP SL q = false) : sgT B SP SL sg = false := by
  have := sgT_f h (sg - q); rwa [show q + (sg - q) = sg by omega] at this
theorem vnC_zero {O T K : Nat → Nat} {fd : Nat} {GU : Nat → Nat} {P : Ps} {B : Nat → Nat → Nat} : ∀ n, decide (vnC O T K fd GU P B n = 0) = (firstB (fun i => !efOK O T K GU P (plyB O T K fd GU P B i) i) n).isNone
  | 0 => rfl
  | n + 1 => by
    have ih := vnC_zero (O := O) (T := T) (K := K) (fd := fd) (GU := GU) (P := P) (B := B) n
    simp only [vnC, firstB]
    cases e : firstB (fun i => !efOK O T K GU P (plyB O T K fd GU P B i) i) n with
    | some i =>
      rw [e] at ih
      have : ¬ vnC O T K fd GU P B n = 0 := of_decide_eq_false ih
      split
      · exact decide_eq_false this
      · exact decide_eq_false (by omega)
    | none =>
      rw [e] at ih
      have : vnC O T K fd GU P B n = 0 := of_decide_eq_true ih
      by_cases h : efOK O T K GU P (plyB O T K fd GU P B n) n = true
      · simp [h, this]
      · simp [h]
theorem ft_fit (O T K : Nat → Nat) (fd : Nat) (GU : Nat → Nat) (P : Ps) (B : Nat → Nat → Nat) (SP SL : Nat → Nat) (sg : Nat) : ftOK O T K fd GU P B SP SL sg = (decide (vnC O T K fd GU P B (pN P) = 0) && sgT (plyB O T K fd GU P B (pN P)) SP SL sg) := by
  rw [vnC_zero]; rfl
def fsI (gd : Nat → Bool) (f : Nat) : Int32 := if cnt gd f = 0 then -6 else nI (fsG gd f)
theorem flS_0 (SP SL : Nat → Nat) (q : Nat) : rN (flS SP SL) (2 * q) = nI (SP q) := by
  refine congrArg nI ?_; show (if 2 * q % 2 = 0 then SP (2 * q / 2) else SL (2 * q / 2)) = SP q; rw [if_pos (by omega), show 2 * q / 2 = q by omega]
theorem flS_1 (SP SL : Nat → Nat) (q : Nat) : rN (flS SP SL) (2 * q + 1) = nI (SL q) := by
  refine congrArg nI ?_; show (if (2 * q + 1) % 2 = 0 then SP ((2 * q + 1) / 2) else SL ((2 * q + 1) / 2)) = SL q; rw [if_neg (by omega), show (2 * q + 1) / 2 = q by omega]
theorem fsI_lt {gd : Nat → Bool} {f : Nat} (hf : f ≤ 216) (h : (fsI gd f).toInt < 0) : cnt gd f = 0 := by
  unfold fsI at h
  by_cases q : cnt gd f = 0
  · exact q
  · rw [if_neg q, nI_tI (by have := fsG_le gd f; omega)] at h; omega
theorem fsI_ge {gd : Nat → Bool} {f : Nat} (h : ¬ (fsI gd f).toInt < 0) : 0 < cnt gd f ∧ fsI gd f = nI (fsG gd f) := by
  unfold fsI at *
  by_cases q : cnt gd f = 0
  · rw [if_pos q] at h; exact absurd (by decide) h
  · exact ⟨by omega, if_neg q⟩
theorem fsI_up1 {gd : Nat → Bool} {f : Nat} (h : gd f = true) (h0 : cnt gd f = 0) : nI f = fsI gd (f + 1) := by
  have e := fl_t1 h h0
  unfold fsI; rw [if_neg (by omega), ← e.2]
theorem fsI_up2 {gd : Nat → Bool} {f : Nat} (h : gd f = true) (h0 : 0 < cnt gd f) : fsI gd f = fsI gd (f + 1) := by
  have e := fl_t2 h h0
  unfold fsI; rw [if_neg (by omega), if_neg (by omega), ← e.2]
theorem fsI_no {gd : Nat → Bool} {f : Nat} (h : gd f = false) : fsI gd f = fsI gd (f + 1) := by
  have e := fl_f h
  unfold fsI; rw [← e.1, ← e.2]
theorem flt_neg {PS : Nat → Nat} {P : Ps} {mn : Nat} (hmn : mn ≤ 60) : ((fltM PS mn).toInt < 0 → rdv PS P mn = -6) ∧ (¬ (fltM PS mn).toInt < 0 → ¬ rdv PS P mn = -6) := by
  rw [flt_eq]
  have hN : ∀ n : Nat, n ≤ 60 → 0 ≤ (nI n).toInt ∧ ¬ nI n = -6 := by decide
  have h6 : (-6 : Int32).toInt < 0 := by decide
  unfold fltM
  cases h2 : firstB (fun k => !msF PS k) mn with
  | some i => exact ⟨fun z => absurd (hN i (by have := (firstB_lt h2).1; omega)).1 (Int.not_le.mpr z), fun _ => (hN i (by have := (firstB_lt h2).1; omega)).2⟩
  | none => by_cases q : (ms PS mn).1 = 0
            · simp only [if_pos q]; exact ⟨fun _ => trivial, fun z => absurd h6 z⟩
            · simp only [if_neg q]; exact ⟨fun z => absurd (hN mn hmn).1 (Int.not_le.mpr z), fun _ => (hN mn hmn).2⟩
theorem sgT_stop {a : Bool} {B : Nat → Nat → Nat} {SP SL : Nat → Nat} {q sg : Nat} (hq : q ≤ sg) (h : (a && sgT B SP SL q) = false) : (a && sgT B SP SL q) = (a && sgT B SP SL sg) := by
  rw [h]
  cases a with
  | false => rfl
  | true => rw [Bool.true_and] at h; rw [Bool.true_and, sgT_all hq h]
