/-! What the simple calls answer, of both sides. -/
def nn (x : Int32) : Nat := x.toNatClampNeg
theorem nn_nI {n : Nat} (h : n < 1000000) : nn (nI n) = n := nI_clamp (by omega)
def okPl (p i j w : Int32) : Bool := inR 0 5 p && inR 0 5 i && inR 0 5 j && inR 0 5 w && !decide (i = j)
def plL (p i j w : Int32) (L : Nat → Nat) : Nat → Nat := if okPl p i j w then va_up L (nn p) (if nn i < nn j then nn i else nn j) else L
def plG (p i j w : Int32) (L : Nat → Nat) : Nat → Nat := if okPl p i j w then va_up L (nn p) (if nn i < nn j then nn j else nn i) else L
def plO (p i j w : Int32) (O : Nat → Nat) : Nat → Nat := if okPl p i j w then va_up O (nn p) (nn w) else O
def plK (p i j w : Int32) (K : Nat → Nat) : Nat → Nat := if okPl p i j w then clrK K (nn p) else K
def plB (p i j w : Int32) (B : Nat → Nat → Nat) : Nat → Nat → Nat := if okPl p i j w then wipeB B (nn p) else B
theorem ne_nI {b c : Nat} (hb : b < 1000000) (hc : c < 1000000) (h : ¬ b = c) : ¬ nI b = nI c := fun z => h ((nI_eq (by omega) (by omega)).mp z)
theorem okPl_t {a b c e : Nat} (ha : a < 6) (hb : b < 6) (hc : c < 6) (he : e < 6) (h : ¬ b = c) : okPl (nI a) (nI b) (nI c) (nI e) = true := by
  unfold okPl; rw [in6_nI ha, in6_nI hb, in6_nI hc, in6_nI he, decide_eq_false (ne_nI (by omega) (by omega) h)]; rfl
def okTr (p o : Int32) : Bool := inR 0 5 p && inR 0 5 o && !decide (p = o)
def trT (p o : Int32) (on : Bool) (T : Nat → Nat) : Nat → Nat := if okTr p o then va_up T (nn p) (setb (T (nn p)) (nn o) on) else T
theorem okTr_t {a b : Nat} (ha : a < 6) (hb : b < 6) (h : ¬ a = b) : okTr (nI a) (nI b) = true := by
  unfold okTr; rw [in6_nI ha, in6_nI hb, decide_eq_false (ne_nI (by omega) (by omega) h)]; rfl
def okKn (a p : Int32) : Bool := inR 0 5 a && inR 0 5 p
def knK (a p : Int32) (on : Bool) (K : Nat → Nat) : Nat → Nat := if okKn a p then va_up K (nn a) (setb (K (nn a)) (nn p) on) else K
def knB (a p : Int32) (on : Bool) (B : Nat → Nat → Nat) : Nat → Nat → Nat := if okKn a p then (if on then up2 B (nn a) (nn p) 0 else B) else B
theorem okKn_t {a b : Nat} (ha : a < 6) (hb : b < 6) : okKn (nI a) (nI b) = true := by
  unfold okKn; rw [in6_nI ha, in6_nI hb]; rfl
theorem up2_same (B : Nat → Nat → Nat) (a p : Nat) : up2 B a p (B a p) = B := by
  funext x y; unfold up2; split
  · next h => rw [h.1, h.2]
  · rfl
/-- an answer by a condition -/
def pick (b : Bool) (x y : Int32) : Int32 := if b then x else y
theorem pick_t {b : Bool} {x y : Int32} (h : b = true) : pick b x y = x := by rw [h]; rfl
theorem pick_f {b : Bool} {x y : Int32} (h : b = false) : pick b x y = y := by rw [h]; rfl
def sayR (s : Int32) (mn : Nat) : Int32 := pick (inR 33 126 s) (pick (decide (mn < 60)) (nI (mn + 1)) (-4)) (-2)
def sayP (s : Int32) (mn : Nat) (PS : Nat → Nat) : Nat → Nat := if inR 33 126 s = true ∧ mn < 60 then va_up PS mn (nn s) else PS
def sayM (s : Int32) (mn : Nat) : Nat := if inR 33 126 s = true ∧ mn < 60 then mn + 1 else mn
def isPA (a : Int32) : Bool := decide (a = -1) || inR 0 5 a
def blR (B : Nat → Nat → Nat) (p : Nat) (a : Int32) : Int32 := if a = -1 then nI (ld B p 0) else nI (B (nn a) p)
def beR (B : Nat → Nat → Nat) (p a : Int32) : Int32 := pick (inR 0 5 p && isPA a) (blR B (nn p) a) (-1)
def tnR (p v : Int32) (S : Nat → Nat) : Int32 := pick (inR 0 5 p) (pick (inR 0 10 v) (nI (S (nn p))) (-2)) (-1)
def tnS (p v : Int32) (S : Nat → Nat) : Nat → Nat := if inR 0 5 p && inR 0 10 v then va_up S (nn p) (nn v) else S
def snR (p v : Int32) (sg : Nat) : Int32 := pick (inR 0 5 p) (pick (inR 0 6 v) (pick (decide (sg < 6)) (nI (sg + 1)) (-4)) (-2)) (-1)
def okSn (p v : Int32) (sg : Nat) : Bool := inR 0 5 p && inR 0 6 v && decide (sg < 6)
def snP (p v : Int32) (sg : Nat) (f : Nat → Nat) : Nat → Nat := if okSn p v sg then va_up f sg (nn p) else f
def snL (p v : Int32) (sg : Nat) (f : Nat → Nat) : Nat → Nat := if okSn p v sg then va_up f sg (nn v) else f
def snG (p v : Int32) (sg : Nat) : Nat := if okSn p v sg then sg + 1 else sg
def flS (SP SL : Nat → Nat) : Nat → Nat := fun i => if i % 2 = 0 then SP (i / 2) else SL (i / 2)
theorem flS_up {SP SL : Nat → Nat} {g p v : Nat} : va_up (va_up (flS SP SL) (2 * g) p) (2 * g + 1) v = flS (va_up SP g p) (va_up SL g v) := by
  funext i
  unfold va_up flS
  by_cases h1 : i = 2 * g + 1
  · rw [if_pos h1, if_neg (by omega)]; dsimp only; rw [if_pos (by omega)]
  · rw [if_neg h1]
    by_cases h2 : i = 2 * g
    · rw [if_pos h2, if_pos (by omega)]; dsimp only; rw [if_pos (by omega)]
    · rw [if_neg h2]
      by_cases h3 : i % 2 = 0
      · rw [if_pos h3, if_pos h3]; dsimp only; rw [if_neg (by omega)]
      · rw [if_neg h3, if_neg h3]; dsimp only; rw [if_neg (by omega)]
def noSelf (T : Nat → Nat) : Prop := ∀ a, a < 6 → (T a).testBit a = false
def ovr (L Gr : Nat → Nat) (p i : Nat) : Int32 := match nxt L Gr p i with
  | some j => nI j
  | none => -6
theorem flM_le {B : Nat → Nat → Nat} (hB : okB B) {i : Nat} (hi : i < 36) : flM B i ≤ 9 := hB _ _ (by omega) (by omega)
theorem fdm_lo {F D : Nat → Nat} {i j : Nat} (h1 : ∀ j, j < i → D j = F j - 1) (h2 : ∀ j, i ≤ j → D j = F j) (hj : j < i + 1) : va_up D i (D i - 1) j = F j - 1 := by
  unfold va_up
  by_cases h : j = i
  · rw [if_pos h, h, h2 i (Nat.le_refl _)]
  · rw [if_neg h]; exact h1 j (by omega)
theorem fdm_lo0 {F D : Nat → Nat} {i j : Nat} (h1 : ∀ j, j < i → D j = F j - 1) (h2 : ∀ j, i ≤ j → D j = F j) (h0 : D i = 0) (hj : j < i + 1) : va_up D i (D i - 0) j = F j - 1 := by
  unfold va_up
  by_cases h : j = i
  · rw [if_pos h, h0, h]; have := h2 i (Nat.le_refl _); omega
  · rw [if_neg h]; exact h1 j (by omega)
theorem fdm_hi {F D : Nat → Nat} {i j v : Nat} (h2 : ∀ j, i ≤ j → D j = F j) (hj : i + 1 ≤ j) : va_up D i v j = F j := by
  unfold va_up
  rw [if_neg (by omega)]; exact h2 j (by omega)
theorem isPA_ne {a : Int32} (h : isPA a = true) (h1 : ¬ a = -1) : ∃ j, j < 6 ∧ a = nI j := by
  unfold isPA at h
  rw [decide_eq_false h1] at h
  exact in6_of (by simpa using h)
theorem lay_WM {B B1 : Nat → Nat → Nat} {p e z : Nat} (h2 : ∀ a q, B1 a q = if q = p ∧ a < e then 0 else B a q) (he : 6 ≤ e) (hz : z < 36) : flM B1 z = flM (wipeB B p) z := by
  unfold flM wipeB
  rw [h2]
  by_cases h : z % 6 = p
  · rw [if_pos ⟨h, by omega⟩, if_pos h]
  · rw [if_neg (fun q => h q.1), if_neg h]
theorem neg1_toInt : (-1 : Int32).toInt = -1 := by decide
theorem isPA_iff (a : Int32) : isPA a = inR (-1) 5 a := by
  unfold isPA inR
  by_cases h : a = -1
  · subst h; decide
  · rw [decide_eq_false h, Bool.false_or]
    apply decide_eq_decide.mpr
    have : ¬ a.toInt = -1 := fun z => h (Int32.toInt_inj.mp (by rw [z, neg1_toInt]))
    omega
theorem isPA_in (a : Int32) (h : inR (-1) 5 a = false) : isPA a = false := by
  rw [isPA_iff]; exact h
theorem isPA_in' (a : Int32) (h : inR (-1) 5 a = true) : isPA a = true := by
  rw [isPA_iff]; exact h
/-- told -/
def tdR (x : Int32) (mn fd sg : Nat) (T K O L Gr S : Nat → Nat) : Int32 := if x = 0 then nI mn else if x = nI 1 then nI fd else if x = nI 2 then nI sg else if 10 ≤ x.toInt ∧ x.toInt ≤ 49 ∧ nn x % 10 < 6 then
  (if nn x / 10 = 1 then nI (T (nn x % 10)) else if nn x / 10 = 2 then nI (K (nn x % 10)) else if nn x / 10 = 3 then nI (100 * O (nn x % 10) + 10 * L (nn x % 10) + Gr (nn x % 10)) else nI (S (nn x % 10))) else -2
theorem ten_toInt : (nI 10).toInt = 10 := by decide
theorem ge10_of {x : Int32} (h : (nI 10).toInt ≤ x.toInt) : ∃ t : Nat, 10 ≤ t ∧ t < 2147483648 ∧ x = nI t := by
  rw [ten_toInt] at h
  have h1 : x.toInt < 2147483648 := by have := Int32.toInt_lt x; omega
  obtain ⟨n, hn⟩ : ∃ n : Nat, x.toInt = (n : Int) := ⟨x.toInt.toNat, by omega⟩
  exact ⟨n, by omega, by omega, nI_back (by omega) hn⟩
theorem le49_of {t : Nat} (ht : t < 2147483648) (h : (nI t).toInt ≤ (nI 49).toInt) : t ≤ 49 := by
  rw [nI_tI ht, nI_tI (by decide)] at h; omega
theorem td_no1 {x : Int32} (h : x.toInt < (nI 10).toInt) : ¬ (10 ≤ x.toInt ∧ x.toInt ≤ 49 ∧ nn x % 10 < 6) := by
  rw [ten_toInt] at h; omega
theorem td_no2 {t : Nat} (ht : t < 2147483648) (h : 6 ≤ t % 10) : ¬ (10 ≤ (nI t).toInt ∧ (nI t).toInt ≤ 49 ∧ nn (nI t) % 10 < 6) := by
  have : nn (nI t) = t := nI_clamp ht
  rw [this]; omega
theorem td_no3 {t : Nat} (ht : t < 2147483648) (h : 4 < t / 10) : ¬ (10 ≤ (nI t).toInt ∧ (nI t).toInt ≤ 49 ∧ nn (nI t) % 10 < 6) := by
  rw [nI_tI ht]; omega
theorem td_c {t : Nat} (ht : t < 2147483648) (h1 : 1 ≤ t / 10) (h4 : t / 10 ≤ 4) (hm : t % 10 < 6) : 10 ≤ (nI t).toInt ∧ (nI t).toInt ≤ 49 ∧ nn (nI t) % 10 < 6 := by
  have : nn (nI t) = t := nI_clamp ht
  rw [this, nI_tI ht]; omega
theorem td_v1 {t mn fd sg : Nat} {T K O L Gr S : Nat → Nat} (e0 : ¬ nI t = 0) (e1 : ¬ nI t = nI 1) (e2 : ¬ nI t = nI 2) (ht : t < 2147483648) (hd : t / 10 = 1) (hm : t % 10 < 6) : some (Value.int (nI (T (t % 10)))) = some (Value.int (tdR (nI t) mn fd sg T K O L Gr S)) := by
  have e : nn (nI t) = t := nI_clamp ht
  rw [tdR, if_neg e0, if_neg e1, if_neg e2, if_pos (td_c ht (by omega) (by omega) hm), e, if_pos hd]
theorem td_v2 {t mn fd sg : Nat} {T K O L Gr S : Nat → Nat} (e0 : ¬ nI t = 0) (e1 : ¬ nI t = nI 1) (e2 : ¬ nI t = nI 2) (ht : t < 2147483648) (hd : t / 10 = 2) (hm : t % 10 < 6) : some (Value.int (nI (K (t % 10)))) = some (Value.int (tdR (nI t) mn fd sg T K O L Gr S)) := by
  have e : nn (nI t) = t := nI_clamp ht
  rw [tdR, if_neg e0, if_neg e1, if_neg e2, if_pos (td_c ht (by omega) (by omega) hm), e, if_neg (by omega), if_pos hd]
theorem td_v3 {t mn fd sg : Nat} {T K O L Gr S : Nat → Nat} (e0 : ¬ nI t = 0) (e1 : ¬ nI t = nI 1) (e2 : ¬ nI t = nI 2) (ht : t < 2147483648) (hd : t / 10 = 3) (hm : t % 10 < 6) : some (Value.int (nI (100 * O (t % 10) + 10 * L (t % 10) + Gr (t % 10)))) = some (Value.int (tdR (nI t) mn fd sg T K O L Gr S)) := by
  have e : nn (nI t) = t := nI_clamp ht
  rw [tdR, if_neg e0, if_neg e1, if_neg e2, if_pos (td_c ht (by omega) (by omega) hm), e, if_neg (by omega), if_neg (by omega), if_pos hd]
theorem td_v4 {t mn fd sg : Nat} {T K O L Gr S : Nat → Nat} (e0 : ¬ nI t = 0) (e1 : ¬ nI t = nI 1) (e2 : ¬ nI t = nI 2) (ht : t < 2147483648) (hd : t / 10 = 4) (hm : t % 10 < 6) : some (Value.int (nI (S (t % 10)))) = some (Value.int (tdR (nI t) mn fd sg T K O L Gr S)) := by
  have e : nn (nI t) = t := nI_clamp ht
  rw [tdR, if_neg e0, if_neg e1, if_neg e2, if_pos (td_c ht (by omega) (by omega) hm), e, if_neg (by omega), if_neg (by omega), if_neg (by omega)]
theorem t10_ne0 {t : Nat} (h : 10 ≤ t) (ht : t < 2147483648) : ¬ nI t = 0 := nI_ne0 (by omega) ht
theorem t10_ne1 {t : Nat} (h : 10 ≤ t) (ht : t < 2147483648) : ¬ nI t = nI 1 := fun z => by have := (nI_eq ht (by decide)).mp z; omega
theorem t10_ne2 {t : Nat} (h : 10 ≤ t) (ht : t < 2147483648) : ¬ nI t = nI 2 := fun z => by have := (nI_eq ht (by decide)).mp z; omega
theorem td_hi {x : Int32} {mn fd sg : Nat} {T K O L Gr S : Nat → Nat} (h10 : (nI 10).toInt ≤ x.toInt) (h : (nI 49).toInt < x.toInt) : some (Value.int (-2)) = some (Value.int (tdR x mn fd sg T K O L Gr S)) := by
  obtain ⟨t, ht0, ht, rfl⟩ := ge10_of h10
  rw [nI_tI ht, nI_tI (by decide)] at h
  rw [tdR, if_neg (t10_ne0 ht0 ht), if_neg (t10_ne1 ht0 ht), if_neg (t10_ne2 ht0 ht), if_neg (by rw [nI_tI ht]; omega)]
theorem td_r6 {t mn fd sg : Nat} {T K O L Gr S : Nat → Nat} (ht0 : 10 ≤ t) (ht : t < 2147483648) (h : inR 0 5 (nI (t % 10)) = false) : some (Value.int (-2)) = some (Value.int (tdR (nI t) mn fd sg T K O L Gr S)) := by
  have h6 : 6 ≤ t % 10 := by rcases Nat.lt_or_ge (t % 10) 6 with q | q; rw [in6_nI q] at h; cases h; exact q
  rw [tdR, if_neg (t10_ne0 ht0 ht), if_neg (t10_ne1 ht0 ht), if_neg (t10_ne2 ht0 ht), if_neg (td_no2 ht h6)]
