/-! The check's reading of a text. -/
def mop (st op s : Nat) : Nat := if st = 0 ∧ s = 63 then op + 1 else op
def mst (st s : Nat) : Nat := if st = 0 then (if s = 46 then 0 else 1) else if st = 1 then 2 else if st = 2 ∧ s = 45 then 3 else 0
def mfit (st op s pv : Nat) : Bool := decide ((st = 0 ∧ (s = 46 ∨ (65 ≤ s ∧ s ≤ 70) ∨ (s = 63 ∧ op + 1 < 4))) ∨ (st = 1 ∧ (65 ≤ s ∧ s ≤ 70) ∧ s ≠ pv) ∨ (st = 2 ∧ s = 45) ∨ (((st = 2 ∧ s ≠ 45) ∨ st = 3) ∧ 48 ≤ s ∧ s ≤ 53))
/-- the check's state and its count of ? behind the first k signs -/
def ms (PS : Nat → Nat) : Nat → Nat × Nat
  | 0 => (0, 0)
  | k + 1 => (mst (ms PS k).1 (PS k), mop (ms PS k).1 (ms PS k).2 (PS k))
def msF (PS : Nat → Nat) (k : Nat) : Bool := mfit (ms PS k).1 (ms PS k).2 (PS k) (PS (k - 1))
def fltM (PS : Nat → Nat) (mn : Nat) : Int32 := match firstB (fun k => !msF PS k) mn with
  | some i => nI i
  | none => if (ms PS mn).1 = 0 then -6 else nI mn
theorem inN_t {lo hi : Int} {n : Nat} (hn : n < 2147483648) (h : inR lo hi (nI n) = true) : lo ≤ (n : Int) ∧ (n : Int) ≤ hi := by
  rw [inR_nI_iff hn] at h; exact of_decide_eq_true h
theorem inN_f {lo hi : Int} {n : Nat} (hn : n < 2147483648) (h : inR lo hi (nI n) = false) : ¬ (lo ≤ (n : Int) ∧ (n : Int) ≤ hi) := by
  rw [inR_nI_iff hn] at h; exact of_decide_eq_false h
theorem mst_le (st s : Nat) : mst st s ≤ 3 := by
  unfold mst
  repeat' split
  all_goals omega
theorem ms_st (PS : Nat → Nat) : ∀ k, (ms PS k).1 ≤ 3
  | 0 => Nat.zero_le _
  | k + 1 => mst_le _ _
theorem mop_le (st op s : Nat) : mop st op s ≤ op + 1 := by unfold mop; split <;> omega
theorem ms_op (PS : Nat → Nat) : ∀ k, (ms PS k).2 ≤ k
  | 0 => Nat.zero_le _
  | k + 1 => by
    have h1 := ms_op PS k
    have h2 := mop_le (ms PS k).1 (ms PS k).2 (PS k)
    show mop _ _ _ ≤ k + 1
    omega
theorem flt_hit {PS : Nat → Nat} {mn i : Nat} (hq : ∀ j, j < i → msF PS j = true) (hi : i < mn) (h : msF PS i = false) : fltM PS mn = nI i := by
  unfold fltM; rw [firstB_some (i := i) (by rw [h]; rfl) (fun j hj => by rw [hq j hj]; rfl) hi]
theorem flt_all {PS : Nat → Nat} {mn : Nat} (hq : ∀ j, j < mn → msF PS j = true) : fltM PS mn = if (ms PS mn).1 = 0 then -6 else nI mn := by
  unfold fltM; rw [firstB_none (fun j hj => by rw [hq j hj]; rfl)]
def opnM (PS : Nat → Nat) : Nat → Nat := cnt (fun k => decide (PS k = 63))
def barR (PS : Nat → Nat) (mn : Nat) : Int32 := if 0 ≤ (fltM PS mn).toInt then -5 else if 0 < opnM PS mn then -3 else nI 0
