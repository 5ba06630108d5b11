/-! The words in which the contracts speak: ranges, masks, tables of beliefs. -/
def inR (lo hi : Int) (v : Int32) : Bool := decide (lo ≤ v.toInt ∧ v.toInt ≤ hi)
theorem nI_tI {n : Nat} (h : n < 2147483648) : (nI n).toInt = (n : Int) := nI_toInt h
theorem inR_nI {lo hi : Int} {n : Nat} (hn : n < 2147483648) (h : lo ≤ n ∧ (n : Int) ≤ hi) : inR lo hi (nI n) = true := by
  unfold inR; rw [nI_tI hn]; exact decide_eq_true h
theorem inR_nI_iff {lo hi : Int} {n : Nat} (hn : n < 2147483648) : inR lo hi (nI n) = decide (lo ≤ (n : Int) ∧ (n : Int) ≤ hi) := by
  unfold inR; rw [nI_tI hn]
theorem nI_back {v : Int32} {n : Nat} (hn : n < 2147483648) (h : v.toInt = (n : Int)) : v = nI n := by
  apply Int32.toInt_inj.mp
  rw [h, nI_tI hn]
theorem inR_of {k : Nat} {hi : Int} {v : Int32} (hk : hi = (k : Int)) (hk2 : k < 2147483648) (h : inR 0 hi v = true) : ∃ j : Nat, j ≤ k ∧ v = nI j := by
  have h1 : (0 : Int) ≤ v.toInt ∧ v.toInt ≤ hi := of_decide_eq_true h
  obtain ⟨n, hn⟩ : ∃ n : Nat, v.toInt = (n : Int) := ⟨v.toInt.toNat, by omega⟩
  exact ⟨n, by omega, nI_back (by omega) hn⟩
theorem inR_of' {lo k : Nat} {low hi : Int} {v : Int32} (hl : low = (lo : Int)) (hk : hi = (k : Int)) (hk2 : k < 2147483648) (h : inR low hi v = true) : ∃ j : Nat, lo ≤ j ∧ j ≤ k ∧ v = nI j := by
  have h1 : low ≤ v.toInt ∧ v.toInt ≤ hi := of_decide_eq_true h
  obtain ⟨n, hn⟩ : ∃ n : Nat, v.toInt = (n : Int) := ⟨v.toInt.toNat, by omega⟩
  exact ⟨n, by omega, by omega, nI_back (by omega) hn⟩
theorem in6_of {v : Int32} (h : inR 0 5 v = true) : ∃ j : Nat, j < 6 ∧ v = nI j := by
  obtain ⟨j, h1, h2⟩ := inR_of (k := 5) rfl (by decide) h
  exact ⟨j, by omega, h2⟩
theorem in6_nI {j : Nat} (h : j < 6) : inR 0 5 (nI j) = true := inR_nI (by omega) (by omega)
/-- masks of six bits -/
def setb (m b : Nat) (on : Bool) : Nat := if on then m ||| 2 ^ b else m &&& (63 ^^^ 2 ^ b)
theorem shl1 : ∀ b, b < 6 → nI 1 <<< (nI b &&& 31) = nI (2 ^ b) := by decide +kernel
theorem clrb : ∀ m, m < 64 → ∀ b, b < 6 → nI m &&& (nI (2 ^ b) ^^^ (-1)) = nI (setb m b false) := by decide +kernel
theorem orb0 : ∀ m, m < 64 → ∀ b, b < 6 → nI (setb m b false) ||| nI (2 ^ b) = nI (setb m b true) := by decide +kernel
theorem orb1 : ∀ m, m < 64 → ∀ b, b < 6 → nI m ||| nI (2 ^ b) = nI (setb m b true) := by decide +kernel
theorem hasb : ∀ m, m < 64 → ∀ b, b < 6 → nI m >>> (nI b &&& 31) &&& nI 1 = if m.testBit b then nI 1 else nI 0 := by decide +kernel
theorem setb_lt : ∀ m, m < 64 → ∀ b, b < 6 → ∀ on : Bool, setb m b on < 64 := by decide +kernel
theorem setb_bit : ∀ m, m < 64 → ∀ b, b < 6 → ∀ on : Bool, ∀ c, c < 6 → (setb m b on).testBit c = if c = b then on else m.testBit c := by decide +kernel
/-- how many of the first n hold -/
def cnt (f : Nat → Bool) : Nat → Nat
  | 0 => 0
  | n + 1 => cnt f n + if f n then 1 else 0
theorem cnt_le (f : Nat → Bool) : ∀ n, cnt f n ≤ n
  | 0 => Nat.le_refl _
  | n + 1 => by have := cnt_le f n; simp only [cnt]; split <;> omega
theorem cnt_congr {f g : Nat → Bool} : ∀ n, (∀ j, j < n → f j = g j) → cnt f n = cnt g n
  | 0, _ => rfl
  | n + 1, h => by simp only [cnt]; rw [cnt_congr n (fun j hj => h j (by omega)), h n (by omega)]
/-- the table of beliefs: B a p, the days of person a in plank p; as the class keeps it, as the check does -/
def flC (B : Nat → Nat → Nat) : Nat → Nat := fun i => B (i % 6) (i / 6)
def flM (B : Nat → Nat → Nat) : Nat → Nat := fun i => B (i / 6) (i % 6)
def up2 (B : Nat → Nat → Nat) (a p v : Nat) : Nat → Nat → Nat := fun x y => if x = a ∧ y = p then v else B x y
def fdB (B : Nat → Nat → Nat) : Nat → Nat → Nat := fun a p => B a p - 1
def ld (B : Nat → Nat → Nat) (p g : Nat) : Nat := cnt (fun a => decide (g < B a p)) 6
theorem flC_at {B : Nat → Nat → Nat} {a p : Nat} (ha : a < 6) : flC B (p * 6 + a) = B a p := by
  unfold flC; rw [show (p * 6 + a) % 6 = a by omega, show (p * 6 + a) / 6 = p by omega]
theorem flM_at {B : Nat → Nat → Nat} {a p : Nat} (hp : p < 6) : flM B (6 * a + p) = B a p := by
  unfold flM; rw [show (6 * a + p) % 6 = p by omega, show (6 * a + p) / 6 = a by omega]
theorem flC_up {B : Nat → Nat → Nat} {a p v : Nat} (ha : a < 6) : va_up (flC B) (p * 6 + a) v = flC (up2 B a p v) := by
  funext i
  unfold flC up2 va_up
  by_cases h : i = p * 6 + a
  · rw [if_pos h, if_pos ⟨by omega, by omega⟩]
  · rw [if_neg h, if_neg (by omega)]
theorem flM_up {B : Nat → Nat → Nat} {a p v : Nat} (hp : p < 6) : va_up (flM B) (6 * a + p) v = flM (up2 B a p v) := by
  funext i
  unfold flM up2 va_up
  by_cases h : i = 6 * a + p
  · rw [if_pos h, if_pos ⟨by omega, by omega⟩]
  · rw [if_neg h, if_neg (by omega)]
theorem rN_flC_up {B : Nat → Nat → Nat} {a p v : Nat} (ha : a < 6) : upd (rN (flC B)) (p * 6 + a) (nI v) = rN (flC (up2 B a p v)) := by rw [rN_upd, flC_up ha]
def okB (B : Nat → Nat → Nat) : Prop := ∀ a p, a < 6 → p < 6 → B a p ≤ 9
def okP (O : Nat → Nat) : Prop := ∀ p, p < 6 → O p < 6
def okM (T : Nat → Nat) : Prop := ∀ a, a < 6 → T a < 64
theorem flC_le {B : Nat → Nat → Nat} (hB : okB B) {i : Nat} (hi : i < 36) : flC B i ≤ 9 := hB _ _ (by omega) (by omega)
theorem fd_lo {B : Nat → Nat → Nat} {D : Nat → Nat} {i j : Nat} (h1 : ∀ j, j < i → D j = flC B j - 1) (h2 : ∀ j, i ≤ j → D j = flC B j) (hj : j < i + 1) : va_up D i (D i - 1) j = flC B j - 1 := by
  unfold va_up
  by_cases h : j = i
  · rw [if_pos h, h, h2 i (Nat.le_refl _)]
  · rw [if_neg h]; exact h1 j (by omega)
theorem fd_lo0 {B : Nat → Nat → Nat} {D : Nat → Nat} {i j : Nat} (h1 : ∀ j, j < i → D j = flC B j - 1) (h2 : ∀ j, i ≤ j → D j = flC B j) (h0 : D i = 0) (hj : j < i + 1) : D j = flC B j - 1 := by
  by_cases h : j = i
  · rw [h, h0]; have := h2 i (Nat.le_refl _); omega
  · exact h1 j (by omega)
theorem fd_hi {B : Nat → Nat → Nat} {D : Nat → Nat} {i j v : Nat} (h2 : ∀ j, i ≤ j → D j = flC B j) (hj : i + 1 ≤ j) : va_up D i v j = flC B j := by
  unfold va_up
  rw [if_neg (by omega)]; exact h2 j (by omega)
/-- who may tell, whether a telling, a denial is heard, and the beliefs behind it -/
def mayT (O : Nat → Nat) (B : Nat → Nat → Nat) (a p : Nat) : Bool := decide (O p = a) || decide (0 < B a p)
def tellOK (O T K : Nat → Nat) (B : Nat → Nat → Nat) (a b p : Nat) : Bool := mayT O B a p && (T b).testBit a && !decide (O p = b) && !(K b).testBit p && decide (B b p = 0)
def tellB (O T K : Nat → Nat) (fd : Nat) (B : Nat → Nat → Nat) (a b p : Nat) : Nat → Nat → Nat := if tellOK O T K B a b p then up2 B b p fd else B
def denyOK (T : Nat → Nat) (B : Nat → Nat → Nat) (a b p : Nat) : Bool := (T b).testBit a && decide (0 < B b p)
def denyB (T : Nat → Nat) (B : Nat → Nat → Nat) (a b p : Nat) : Nat → Nat → Nat := if denyOK T B a b p then up2 B b p 0 else B
theorem cp_up {f g : Nat → Int32} {i j : Nat} (hg : ∀ j, j < i → g j = f j) (hj : j < i + 1) : upd g i (f i) j = f j := by
  unfold upd
  by_cases h : j = i
  · rw [if_pos h, h]
  · rw [if_neg h]; exact hg j (by omega)
def clrK (K : Nat → Nat) (p : Nat) : Nat → Nat := fun a => setb (K a) p false
def wipeB (B : Nat → Nat → Nat) (p : Nat) : Nat → Nat → Nat := fun a q => if q = p then 0 else B a q
/-- the island at the other end of plank p beside island i, and as the class says it -/
def nxt (L Gr : Nat → Nat) (p i : Nat) : Option Nat := if L p = i then some (Gr p) else if Gr p = i then some (L p) else none
def acr (L Gr : Nat → Nat) (p i : Nat) : Int32 := if p < 6 then (if L p = i then nI (Gr p) else if Gr p = i then nI (L p) else -1) else -1
theorem in6_lt {p : Nat} (h : inR 0 5 (nI p) = true) (hp : p < 2147483648) : p < 6 := by
  rw [inR_nI_iff hp] at h
  have := of_decide_eq_true h
  omega
theorem acr_some {L Gr : Nat → Nat} {p i : Nat} (hL : okP L) (hG : okP Gr) (h : ¬ acr L Gr p i = -1) : ∃ j, j < 6 ∧ p < 6 ∧ acr L Gr p i = nI j ∧ nxt L Gr p i = some j := by
  unfold acr at h ⊢
  unfold nxt
  by_cases hp : p < 6
  · rw [if_pos hp] at h ⊢
    by_cases h1 : L p = i
    · rw [if_pos h1, if_pos h1]; exact ⟨_, hG p hp, hp, rfl, rfl⟩
    · rw [if_neg h1, if_neg h1]
      rw [if_neg h1] at h
      by_cases h2 : Gr p = i
      · rw [if_pos h2, if_pos h2]; exact ⟨_, hL p hp, hp, rfl, rfl⟩
      · rw [if_neg h2] at h; exact absurd rfl h
  · rw [if_neg hp] at h; exact absurd rfl h
theorem nI_neg1 {n : Nat} (h : n < 2147483648) : ¬ nI n = -1 := fun z => by
  have h1 := congrArg Int32.toInt z
  rw [nI_tI h] at h1
  have : (-1 : Int32).toInt = -1 := by decide
  omega
theorem acr_none {L Gr : Nat → Nat} {p i : Nat} (hL : okP L) (hG : okP Gr) (h : acr L Gr p i = -1) : p < 6 → nxt L Gr p i = none := by
  intro hp
  unfold acr at h
  unfold nxt
  rw [if_pos hp] at h
  by_cases h1 : L p = i
  · rw [if_pos h1] at h; exact absurd h (nI_neg1 (by have := hG p hp; omega))
  · rw [if_neg h1] at h ⊢
    by_cases h2 : Gr p = i
    · rw [if_pos h2] at h; exact absurd h (nI_neg1 (by have := hL p hp; omega))
    · rw [if_neg h2]
theorem lay_K {K K1 : Nat → Nat} {p e : Nat} (h1 : ∀ a, K1 a = if a < e then setb (K a) p false else K a) : ∀ a, va_up K1 e (setb (K1 e) p false) a = if a < e + 1 then setb (K a) p false else K a := by
  intro a
  unfold va_up
  by_cases h : a = e
  · rw [if_pos h, if_pos (by omega), h1 e, if_neg (by omega), h]
  · rw [if_neg h, h1 a]
    by_cases h3 : a < e
    · rw [if_pos h3, if_pos (by omega)]
    · rw [if_neg h3, if_neg (by omega)]
theorem lay_B {B B1 : Nat → Nat → Nat} {p e : Nat} (h2 : ∀ a q, B1 a q = if q = p ∧ a < e then 0 else B a q) : ∀ a q, up2 B1 e p 0 a q = if q = p ∧ a < e + 1 then 0 else B a q := by
  intro a q
  unfold up2
  by_cases h : a = e ∧ q = p
  · rw [if_pos h, if_pos (by omega)]
  · rw [if_neg h, h2 a q]
    by_cases h3 : q = p ∧ a < e
    · rw [if_pos h3, if_pos (by omega)]
    · rw [if_neg h3, if_neg (by omega)]
theorem lay_W {B B1 : Nat → Nat → Nat} {p e z : Nat} (h2 : ∀ a q, B1 a q = if q = p ∧ a < e then 0 else B a q) (he : 6 ≤ e) (hz : z < 36) : flC B1 z = flC (wipeB B p) z := by
  unfold flC wipeB
  rw [h2]
  by_cases h : z / 6 = p
  · rw [if_pos ⟨h, by omega⟩, if_pos h]
  · rw [if_neg (by omega), if_neg h]
