/-! More rows of V: null in locals, a boolean row's cell put. -/
theorem k_aload_nN {x : Cx} {G : Gx} {nL : Nat} {cc : ByteArray} {Ts : List Cond} {y0 : MethodName} {rm : Room} (O : Okx x G nL cc Ts y0 rm) {n1 n2 pc : Nat} {lv : List (Nat × Value)} {st : List Value} {ws : va_W} {f : Fin 4} {i : Nat} (hd : decode cc pc = .ok (.aload_n f, 1)) (hi : (f : Nat) = i) (k : Nat) (hk : lv[k]? = some (i, .null)) (g : V x G nL n1 n2 (pc + 1) lv (.null :: st) ws) : V x G nL n1 n2 pc lv st ws := by
  obtain ⟨p, l, e, R, s, m, args, below, meth, c, Q, A⟩ := x
  obtain ⟨hx, hb, hml, hts, hown, hKS, hA, hR, hnm⟩ := O
  intro H locs ls hP hD hS hl
  exact lv_aload_nN hx hb hd hi (lv_at hl k hk) (g H locs ls hP hD hS hl)
theorem k_astore_nN {x : Cx} {G : Gx} {nL : Nat} {cc : ByteArray} {Ts : List Cond} {y0 : MethodName} {rm : Room} (O : Okx x G nL cc Ts y0 rm) {n1 n2 pc : Nat} {lv : List (Nat × Value)} {st : List Value} {ws : va_W} {f : Fin 4} {i : Nat} (lv' : List (Nat × Value)) (hd : decode cc pc = .ok (.astore_n f, 1)) (hi : (f : Nat) = i) (hn : i < nL) (hl' : (i, Value.null) :: lv.filter (fun q => !(q.1 == i) && !(q.1 + 1 == i && q.2.category == 2)) = lv') (g : V x G nL n1 n2 (pc + 1) lv' st ws) : V x G nL n1 n2 pc lv (.null :: st) ws := by
  obtain ⟨p, l, e, R, s, m, args, below, meth, c, Q, A⟩ := x
  obtain ⟨hx, hb, hml, hts, hown, hKS, hA, hR, hnm⟩ := O
  intro H locs ls hP hD hS hl
  exact lv_astore_nN hx hb hd hi hl hn hl' (fun ls' h' => g H locs ls' hP hD hS h')
theorem k_zast {x : Cx} {G : Gx} {nL : Nat} {cc : ByteArray} {Ts : List Cond} {y0 : MethodName} {rm : Room} (O : Okx x G nL cc Ts y0 rm) {n1 n2 pc : Nat} {lv : List (Nat × Value)} {st : List Value} {ws : va_W} {a n : Nat} {f : Nat → Int32} (q0 : Nat) (he : ws[q0]? = some (a, cZ G n f)) {i : Nat} {v : Int32} (hi : i < n) (hn : n < 2147483648) (hv : vp_nar .boolean v = v) (ws' : va_W) (hws : ws.set q0 (a, cZ G n (upd f i v)) = ws') (hd : decode cc pc = .ok (.bastore, 1)) (g : V x G nL n1 n2 (pc + 1) lv st ws') : V x G nL n1 n2 pc lv (.int v :: .int (nI i) :: .ref a :: st) ws := by
  obtain ⟨p, l, e, R, s, m, args, below, meth, c, Q, A⟩ := x
  obtain ⟨hx, hb, hml, hts, hown, hKS, hA, hR, hnm⟩ := O
  intro H locs ls hP hD hS hl
  subst hws
  refine va_zast hx hb hKS.1 hP hD hS q0 1 he rfl (vp_in_nI hi hn) hd (fun H locs hP hD hS => ?_)
  rw [nI_clamp (Nat.lt_trans hi hn), hv] at hP hD
  exact g H locs ls hP hD hS hl
/-- a row's cells read otherwise, the row of booleans too -/
theorem k_cellZ {x : Cx} {G : Gx} {nL n1 n2 pc : Nat} {lv : List (Nat × Value)} {st : List Value} {ws : va_W} {g0 f : Nat → Int32} (h : g0 = f) {k a n : Nat} (he : ws[k]? = some (a, cZ G n g0)) (ws' : va_W) (hws : ws.set k (a, cZ G n f) = ws') (g : V x G nL n1 n2 pc lv st ws') : V x G nL n1 n2 pc lv st ws := by
  subst h
  have e : ws.set k (a, cZ G n g0) = ws := by
    apply List.ext_getElem?
    intro j
    by_cases q : k = j
    · subst q
      rw [List.getElem?_set_self (List.getElem?_eq_some_iff.mp he).1, he]
    · rw [List.getElem?_set_ne q]
  rw [e] at hws
  subst hws
  exact g
def bN (kf : Nat → Bool) : Nat → Int32 := fun i => bI (kf i)
theorem bN_up (kf : Nat → Bool) (i : Nat) : upd (bN kf) i (nI 1) = bN (va_up kf i true) := by
  funext j
  by_cases h : j = i
  · subst h; simp [upd, bN, va_up]; rfl
  · simp [upd, bN, va_up, h]
