/-! The law: its rows over V, its world. -/
def Scx : Cx → Nat → Nat → (Nat → Int32) → Prop
  | (p, l, e, R, s, m, args, below, meth, c, Q, A), b, Ln, xs => va_X b Ln xs s s.heap ∧ b < s.heap.size ∧ ¬ A b
theorem k_sld {x : Cx} {G : Gx} {nL : Nat} {cc : ByteArray} {Ts : List Cond} {y0 : MethodName} {rm : Room} (O : Okx x G nL cc Ts y0 rm) {b Ln : Nat} {xs : Nat → Int32} (hs : Scx x b Ln xs) {n1 n2 pc : Nat} {lv : List (Nat × Value)} {st : List Value} {ws : va_W} {i : Nat} (hi : i < Ln) (hL : Ln ≤ 3072) (hd : decode cc pc = .ok (.iaload, 1)) (g : V x G nL n1 n2 (pc + 1) lv (.int (xs i) :: st) ws) : V x G nL n1 n2 pc lv (.int (nI i) :: .ref b :: st) ws := by
  obtain ⟨p, l, e, R, s, m, args, below, meth, c, Q, A⟩ := x
  obtain ⟨hx, hb, hml, hts, hown, hKS, hA, hR, hnm⟩ := O
  obtain ⟨hX, hbl, hbA⟩ := hs
  intro H locs ls hP hD hS hl
  exact va_sld hx hb hX hbl hbA hS (vp_in_nI hi (by omega)) hd (by rw [nI_clamp (by omega)]; exact g H locs ls hP hD hS hl)
theorem k_slen {x : Cx} {G : Gx} {nL : Nat} {cc : ByteArray} {Ts : List Cond} {y0 : MethodName} {rm : Room} (O : Okx x G nL cc Ts y0 rm) {b Ln : Nat} {xs : Nat → Int32} (hs : Scx x b Ln xs) {n1 n2 pc : Nat} {lv : List (Nat × Value)} {st : List Value} {ws : va_W} (hd : decode cc pc = .ok (.arraylength, 1)) (g : V x G nL n1 n2 (pc + 1) lv (.int (nI Ln) :: st) ws) : V x G nL n1 n2 pc lv (.ref b :: st) ws := by
  obtain ⟨p, l, e, R, s, m, args, below, meth, c, Q, A⟩ := x
  obtain ⟨hx, hb, hml, hts, hown, hKS, hA, hR, hnm⟩ := O
  obtain ⟨hX, hbl, hbA⟩ := hs
  intro H locs ls hP hD hS hl
  exact va_slen hx hb hX hbl hbA hS hd (g H locs ls hP hD hS hl)
theorem k_nil {x : Cx} {G : Gx} {nL n1 n2 pc : Nat} {lv : List (Nat × Value)} {st : List Value} {ws : va_W} (g : V x G nL n1 n2 pc lv st ws) : V x G nL n1 n2 pc lv st (ws ++ []) := by
  rw [List.append_nil]; exact g
theorem k_swap {x : Cx} {G : Gx} {nL n1 n2 pc : Nat} {lv : List (Nat × Value)} {st : List Value} {ws : va_W} (is : List Nat) (ws' : va_W) (hn : va_nd is = true) (hs : is.map (fun i => ws[i]?) = ws'.map some) (g : V x G nL n1 n2 pc lv st ws') : V x G nL n1 n2 pc lv st ws := by
  obtain ⟨p, l, e, R, s, m, args, below, meth, c, Q, A⟩ := x
  intro H locs ls hP hD hS hl
  have hk : ∀ (k : Nat) (q : Nat × va_E), ws'[k]? = some q → ∃ i, is[k]? = some i ∧ ws[i]? = some q := by
    intro k q hk
    have h1 : (is.map (fun i => ws[i]?))[k]? = some (some q) := by rw [hs, List.getElem?_map, hk]; rfl
    rw [List.getElem?_map] at h1
    cases hi : is[k]? with
    | none => rw [hi] at h1; cases h1
    | some i => rw [hi] at h1; exact ⟨i, rfl, Option.some.inj h1⟩
  refine g H locs ls (fun k q h => ?_) ⟨fun i j a b hi hj hab => ?_, fun k q h => ?_⟩ hS hl
  · obtain ⟨i, -, h2⟩ := hk k q h
    exact hP i q h2
  · obtain ⟨i1, h1, h2⟩ := hk i a hi
    obtain ⟨j1, h3, h4⟩ := hk j b hj
    have h5 := hD.1 i1 j1 a b h2 h4 hab
    subst h5
    exact va_nd_inj is hn i j i1 h1 h3
  · obtain ⟨i, -, h2⟩ := hk k q h
    exact hD.2 i q h2
def cW (G : Gx) (ad : Nat → Nat) (L : Nat → Nat) (Gr : Nat → Nat) (O : Nat → Nat) (S : Nat → Nat) (T : Nat → Nat) (K : Nat → Nat) (SP : Nat → Nat) (SL : Nat → Nat) (B : Nat → Nat → Nat) (fd : Nat) (sg : Nat) (fi : Nat → Option Nat) (mn : Nat) (PS : Nat → Nat) (P : Ps) (W : Nat → Option Nat) (s : Ws) (z1 : Int32) (z2 : Int32) (g : Nat → Int32) (GU : Nat → Nat) (RO : Nat → Nat) : va_W := [((ad 0), cO 4 [.ref (ad 1), .ref (ad 12), .ref (ad 13), .ref (ad 19), .ref (ad 23), .ref (ad 25), .ref (ad 26)]), ((ad 1), cO 1 [.ref (ad 2), .ref (ad 3), .ref (ad 4), .ref (ad 5), .ref (ad 6), .ref (ad 7), .ref (ad 8), .ref (ad 9), .ref (ad 10), .int (nI fd), .int (nI sg)]), ((ad 2), cI G 6 (rN L)), ((ad 3), cI G 6 (rN Gr)), ((ad 4), cI G 6 (rN O)), ((ad 5), cI G 6 (rN S)), ((ad 6), cI G 6 (rN T)), ((ad 7), cI G 6 (rN K)), ((ad 8), cI G 6 (rN SP)), ((ad 9), cI G 6 (rN SL)), ((ad 10), cO 0 [.ref (ad 11)]), ((ad 11), cI G 36 (rN (flC B))), ((ad 12), cQ G 2 fi), ((ad 13), cO 2 [.ref (ad 14), .int (nI mn), .ref (ad 15), .ref (ad 16), .ref (ad 17), .ref (ad 18), .int (nI (pN P)), .int (nI (pA P))]), ((ad 14), cI G 60 (rN PS)), ((ad 15), cI G 60 (rN (pK P))), ((ad 16), cI G 60 (rN (pS P))), ((ad 17), cI G 60 (rN (pH P))), ((ad 18), cI G 60 (rN (pP P))), ((ad 19), cO 3 [.ref (ad 20), .ref (ad 21), .ref (ad 22), .int z1, .int z2, .int (lnI (wL s)), .long (lI (wV s))]), ((ad 20), cI G 6 (rW W)), ((ad 21), cI G 6 (rN (wT s))), ((ad 22), cI G 6 (rN (wB s))), ((ad 23), cO 0 [.ref (ad 24)]), ((ad 24), cI G 36 g), ((ad 25), cI G 3 (rN GU)), ((ad 26), cI G 6 (rN RO))]
def mW (G : Gx) (ad : Nat → Nat) (L : Nat → Nat) (Gr : Nat → Nat) (O : Nat → Nat) (S : Nat → Nat) (T : Nat → Nat) (K : Nat → Nat) (SP : Nat → Nat) (SL : Nat → Nat) (B : Nat → Nat → Nat) (fd : Nat) (sg : Nat) (mn : Nat) (PS : Nat → Nat) (gM : Nat → Int32) (gc : Nat → Int32) (fI : Nat → Int32) (kf : Nat → Bool) (w1 : Int32) (w2 : Int32) (w3 : Int32) (w4 : Int32) (w5 : Int32) (w6 : Int32) : va_W := [((ad 27), cO 5 [.ref (ad 28), .ref (ad 29), .ref (ad 30), .ref (ad 31), .ref (ad 32), .ref (ad 33), .ref (ad 34), .int (nI fd), .int (nI sg), .ref (ad 35), .int (nI mn), .ref (ad 36), .ref (ad 37), .int w1, .int w2, .ref (ad 38), .int w3, .int w4, .int w5, .int w6, .ref (ad 39), .ref (ad 40)]), ((ad 28), cI G 6 (rN L)), ((ad 29), cI G 6 (rN Gr)), ((ad 30), cI G 6 (rN O)), ((ad 31), cI G 6 (rN T)), ((ad 32), cI G 6 (rN K)), ((ad 33), cI G 36 (rN (flM B))), ((ad 34), cI G 6 (rN S)), ((ad 35), cI G 12 (rN (flS SP SL))), ((ad 36), cI G 60 (rN PS)), ((ad 37), cI G 36 gM), ((ad 38), cI G 6 gc), ((ad 39), cI G 200 fI), ((ad 40), cZ G 2 (bN kf))]
def iW (G : Gx) (ia : Nat → Nat) (L : Nat → Nat) (Gr : Nat → Nat) (O : Nat → Nat) (S : Nat → Nat) (T : Nat → Nat) (K : Nat → Nat) (SP : Nat → Nat) (SL : Nat → Nat) (B : Nat → Nat → Nat) (fd : Nat) (sg : Nat) : va_W := [((ia 0), cO 1 [.ref (ia 1), .ref (ia 2), .ref (ia 3), .ref (ia 4), .ref (ia 5), .ref (ia 6), .ref (ia 7), .ref (ia 8), .ref (ia 9), .int (nI fd), .int (nI sg)]), ((ia 1), cI G 6 (rN L)), ((ia 2), cI G 6 (rN Gr)), ((ia 3), cI G 6 (rN O)), ((ia 4), cI G 6 (rN S)), ((ia 5), cI G 6 (rN T)), ((ia 6), cI G 6 (rN K)), ((ia 7), cI G 6 (rN SP)), ((ia 8), cI G 6 (rN SL)), ((ia 9), cO 0 [.ref (ia 10)]), ((ia 10), cI G 36 (rN (flC B)))]
/-- one image: not kept, or kept on both sides alike -/
def Im1 (G : Gx) (fi : Nat → Option Nat) (kf : Nat → Bool) (fI : Nat → Int32) (n : Nat) (w : va_W) : Prop := (fi n = none ∧ kf n = false ∧ w = []) ∨ (∃ ia : Nat → Nat, ∃ L : Nat → Nat, ∃ Gr : Nat → Nat, ∃ O : Nat → Nat, ∃ S : Nat → Nat, ∃ T : Nat → Nat, ∃ K : Nat → Nat, ∃ SP : Nat → Nat, ∃ SL : Nat → Nat, ∃ B : Nat → Nat → Nat, ∃ fd : Nat, ∃ sg : Nat, fi n = some (ia 0) ∧ kf n = true ∧ InvC L Gr O S T K SP SL B fd sg ∧ imOK fI (100 * n) (pk0 L Gr O T K S B SP SL fd sg) ∧ w = iW G ia L Gr O S T K SP SL B fd sg)
/-- the world at the head of the loop -/
def LoopI (G : Gx) (ad : Nat → Nat) (ws : va_W) : Prop := ∃ L : Nat → Nat, ∃ Gr : Nat → Nat, ∃ O : Nat → Nat, ∃ S : Nat → Nat, ∃ T : Nat → Nat, ∃ K : Nat → Nat, ∃ SP : Nat → Nat, ∃ SL : Nat → Nat, ∃ B : Nat → Nat → Nat, ∃ fd : Nat, ∃ sg : Nat, ∃ fi : Nat → Option Nat, ∃ mn : Nat, ∃ PS : Nat → Nat, ∃ P : Ps, ∃ W : Nat → Option Nat, ∃ s : Ws, ∃ z1 : Int32, ∃ z2 : Int32, ∃ g : Nat → Int32, ∃ GU : Nat → Nat, ∃ RO : Nat → Nat, ∃ gM : Nat → Int32, ∃ gc : Nat → Int32, ∃ fI : Nat → Int32, ∃ kf : Nat → Bool, ∃ w1 : Int32, ∃ w2 : Int32, ∃ w3 : Int32, ∃ w4 : Int32, ∃ w5 : Int32, ∃ w6 : Int32, ∃ r0 : va_W, ∃ r1 : va_W, ws = cW G ad L Gr O S T K SP SL B fd sg fi mn PS P W s z1 z2 g GU RO ++ (mW G ad L Gr O S T K SP SL B fd sg mn PS gM gc fI kf w1 w2 w3 w4 w5 w6 ++ (r0 ++ r1)) ∧ InvC L Gr O S T K SP SL B fd sg ∧ InvT mn PS W s ∧ Im1 G fi kf fI 0 r0 ∧ Im1 G fi kf fI 1 r1
