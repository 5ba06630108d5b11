/-! V: the kit's W with heap, locals and frame facts inside: a world ws (a list of cells), locals lv, a stack st. -/
abbrev Gx : Type := va_G × ClassId × ClassId × ClassId
abbrev tyL (G : Gx) : List (ClassId × FieldType) := [(G.2.1, .int), (G.2.2.1, .boolean), (G.2.2.2, .object "LieBridges$Delta")]
def nestL : List (String × Nat × MethodName) := [("LieBridges", 22, yX2_init), ("LieBridges", 29, yX3_init), ("LieBridges", 36, yX0_init), ("LieBridges$Beliefs", 15, yX4_put), ("LieBridges$Beliefs", 23, yX4_copy), ("LieBridges$Delta", 38, yX0_init), ("LieBridges$Delta", 51, yX4_put), ("LieBridges$Delta", 59, yX4_putBit), ("LieBridges$Delta", 63, yX4_at), ("LieBridges$Delta", 75, yX4_hasBit), ("LieBridges$Delta", 79, yX4_within), ("LieBridges$Delta", 83, yX4_copy), ("LieBridges$Pad", 31, yX4_put), ("LieBridges$Pad", 41, yX4_at), ("LieBridges$Pad", 66, yX4_isPerson), ("LieBridges$Pad", 70, yX4_isPlank), ("LieBridges$Ways", 21, yX4_put), ("LieBridges$Ways", 39, yX4_at), ("LieBridges$Ways", 74, yX4_copy)]
def KS (G : Gx) (U : State) : Prop := va_K G.1 vwCl (tyL G) U ∧ (∀ q ∈ nestL, va_Nw (.methodLinkNest q.1 q.2.1 q.2.2 "LieBridges") U) ∧ va_AO "LieBridges$Delta" U
theorem KS.warm {G : Gx} {s U : State} (hW : s.WarmedH U.vm) (h : KS G s) : KS G U :=
  ⟨va_K.moved hW.alike h.1, fun q hq => va_Nw.warmM hW (h.2.1 q hq), va_AO.moved hW.alike h.2.2⟩
theorem KS.calling {G : Gx} {U : State} {g : JFrame} {mk : MethodId} {a : Array Value} (h : KS G U) : KS G (U.calling g mk a) :=
  ⟨va_K.moved (u := U) (U := U.calling g mk a) (Vm.Alike.refl U.vm) h.1, fun q hq => va_Nw.same rfl rfl (h.2.1 q hq), va_AO.moved (u := U) (U := U.calling g mk a) (Vm.Alike.refl U.vm) h.2.2⟩
abbrev cI (G : Gx) (n : Nat) (f : Nat → Int32) : va_E := .inl (G.2.1, n, .inl f)
abbrev cZ (G : Gx) (n : Nat) (f : Nat → Int32) : va_E := .inl (G.2.2.1, n, .inl f)
abbrev cQ (G : Gx) (n : Nat) (f : Nat → Option Nat) : va_E := .inl (G.2.2.2, n, .inr (.inr (.inr (.inr f))))
abbrev cO (k : Nat) (fs : List Value) : va_E := .inr (k, fs)
abbrev Cx : Type := Program × Launch × Env × Room × State × MethodId × Array Value × List Frame × Method × Code × (State → Prop) × (Nat → Prop)
def V : Cx → Gx → Nat → Nat → Nat → Nat → List (Nat × Value) → List Value → va_W → Prop
  | (p, l, e, R, s, m, args, below, meth, c, Q, A), G, nL, n1, n2, pc, lv, st, ws =>
    ∀ (H : Heap) (locs : List Loc) (ls : Array Slot), va_P G.1 vwCl ws H → va_D A ws → va_S A s.heap H locs → lv_has ls nL lv → W p l e R s m args below meth c H locs n1 n2 Q (F0 m pc ls st)
def Okx : Cx → Gx → Nat → ByteArray → List Cond → MethodName → Room → Prop
  | (p, l, e, R, s, m, args, below, meth, c, Q, A), G, nL, cc, Ts, y, rm =>
    p.tables.exec = Jvm.exec ∧ c.code = cc ∧ c.maxLocals = nL ∧ (∀ w ∈ Ts, w.before args s = true) ∧ s.vm.findClass y.cls = some m.cls ∧ KS G s ∧ (∀ q : Nat, s.heap.size ≤ q → A q) ∧ R = rm ∧ meth.name = y.name
def QxN (G : Gx) (wc : va_W) (post : Option Value → va_W → va_W → Prop) (A : Nat → Prop) : Array Value → State → Outcome → State → Prop := fun _ st oc t =>
  (∃ (r : Option Value) (wa wb : va_W), oc = .returned r ∧ post r wa wb ∧ wa.map (fun q => q.1) = wc.map (fun q => q.1) ∧ va_P G.1 vwCl (wa ++ wb) t.heap ∧ va_D A (wa ++ wb)) ∧ va_F A st t
def Rtx : Cx → Gx → va_W → (Option Value → va_W → va_W → Prop) → Nat → Nat → Option FieldType → Prop
  | (p, l, e, R, s, m, args, below, meth, c, Q, A), G, wc, post, mc, ms, ret =>
    Q = MQ below (QxN G wc post A) args s mc ms A ∧ meth.sig.returnType = ret ∧ meth.locks = false
def CtN (G : Gx) (y : MethodName) (ws : List Cond) (rm : Room) (args : List Value) (wc : va_W) (post : Option Value → va_W → va_W → Prop) (mc ms : Nat) : Prop :=
  ∀ (l : Launch) (sz : Nat), Met l y ws rm (va_Pc args (fun U => U.heap.size = sz ∧ va_P G.1 vwCl wc U.heap ∧ KS G U ∧ va_D (fun _ => True) wc)) (QxN G wc post (va_A wc sz)) mc ms (va_A wc sz)
abbrev Ct (G : Gx) (y : MethodName) (ws : List Cond) (rm : Room) (args : List Value) (wc : va_W) (post : Option Value → va_W → Prop) : Prop :=
  CtN G y ws rm args wc (fun r wa wb => post r wa ∧ wb = []) 0 0
theorem CtN.of {G : Gx} {y : MethodName} {ws ws' : List Cond} {rm : Room} {cc : ByteArray} {nL : Nat} {ret : Option FieldType} {args : List Value} {wc : va_W} {post : Option Value → va_W → va_W → Prop} {mc ms : Nat} (lv : List (Nat × Value))
    (hy : plainName y.cls = true) (hw : ws = Cond.code y cc nL ret :: ws') (hn : Nat.ble (lg_sl args).length nL = true) (hlv : lv_args 0 args = lv) (hrm : (headSpec ws rm).room = rm := by rfl)
    (body : ∀ x : Cx, Okx x G nL cc ws y rm → Rtx x G wc post mc ms ret → V x G nL 0 0 0 lv [] wc) : CtN G y ws rm args wc post mc ms := by
  intro l sz
  refine Met.ofW (cc := cc) (maxL := nL) (ret := ret) hy hw ?_
  intro p e s m args2 below meth c s₁ B hml hv
  obtain ⟨rfl, hsz, hP, hK, hD0⟩ := hv
  have hts := atoms_spec (ws := ws) B.pre
  have hD := hD0.self (sz := sz)
  subst hsz
  have hl := lv_entry args (n := nL) (Nat.le_of_ble_eq_true hn)
  rw [lg_entry_eq]
  rw [hlv] at hl
  exact body (p, l, e, (headSpec ws rm).room, s, m, args.toArray, below, meth, c, MQ below (QxN G wc post (va_A wc s.heap.size)) args.toArray s mc ms (va_A wc s.heap.size), va_A wc s.heap.size)
    ⟨B.exec, B.bytes, hml, hts, findClass_of_methodNamed B.named, hK, fun q h => Or.inr h, hrm, (name_of_methodNamed B.named B.method).1⟩ ⟨rfl, B.returns, B.notSynchronized⟩ s.heap [] _ hP hD va_S.rf hl
/-- a run of cells set at places -/
def repl : va_W → List Nat → va_W → va_W
  | ws, i :: is, q :: qs => repl (ws.set i q) is qs
  | ws, _, _ => ws
theorem repl_get : ∀ (is : List Nat) (qs ws : va_W) (k : Nat) (q : Nat × va_E), (repl ws is qs)[k]? = some q → (∃ j : Nat, is[j]? = some k ∧ qs[j]? = some q) ∨ (ws[k]? = some q ∧ ∀ j : Nat, is[j]? = some k → qs.length ≤ j) := by
  intro is
  induction is with
  | nil =>
    intro qs ws k q h
    exact Or.inr ⟨by simpa [repl] using h, fun j hj => by simp at hj⟩
  | cons i is ih =>
    intro qs ws k q h
    cases qs with
    | nil => exact Or.inr ⟨by simpa [repl] using h, fun j _ => Nat.zero_le _⟩
    | cons q0 qs =>
      rcases ih qs (ws.set i q0) k q h with ⟨j, h1, h2⟩ | ⟨h1, h2⟩
      · exact Or.inl ⟨j + 1, by simpa using h1, by simpa using h2⟩
      · by_cases hk : i = k
        · subst hk
          have hl : i < ws.length := by
            have := (List.getElem?_eq_some_iff.mp h1).1
            simpa using this
          rw [List.getElem?_set_self hl] at h1
          exact Or.inl ⟨0, by simp, by simpa using h1⟩
        · rw [List.getElem?_set_ne hk] at h1
          refine Or.inr ⟨h1, fun j hj => ?_⟩
          cases j with
          | zero => simp at hj; exact absurd hj hk
          | succ j => have := h2 j (by simpa using hj); simp only [List.length_cons]; omega
theorem repl_fst : ∀ (is : List Nat) (qs ws : va_W), (∀ (j i : Nat) (q : Nat × va_E), is[j]? = some i → qs[j]? = some q → (ws.map (fun q => q.1))[i]? = some q.1) → (repl ws is qs).map (fun q => q.1) = ws.map (fun q => q.1) := by
  intro is
  induction is with
  | nil => intro qs ws h; simp [repl]
  | cons i is ih =>
    intro qs ws h
    cases qs with
    | nil => simp [repl]
    | cons q0 qs =>
      have h0 := h 0 i q0 (by simp) (by simp)
      have e : (ws.set i q0).map (fun q => q.1) = ws.map (fun q => q.1) := by
        rw [List.map_set]
        apply List.ext_getElem?
        intro k
        by_cases hk : i = k
        · subst hk
          have hl := (List.getElem?_eq_some_iff.mp h0).1
          rw [List.getElem?_set_self hl, h0]
        · rw [List.getElem?_set_ne hk]
      show (repl (ws.set i q0) is qs).map _ = _
      rw [ih qs (ws.set i q0) (fun j i' q h1 h2 => by rw [e]; exact h (j + 1) i' q (by simpa using h1) (by simpa using h2)), e]
theorem va_D.fst {A : Nat → Prop} {w1 w2 : va_W} (h : va_D A w1) (e : w2.map (fun q => q.1) = w1.map (fun q => q.1)) : va_D A w2 := by
  have key : ∀ (k : Nat) (q : Nat × va_E), w2[k]? = some q → ∃ q0 : Nat × va_E, w1[k]? = some q0 ∧ q0.1 = q.1 := by
    intro k q hk
    have h1 : (w2.map (fun q => q.1))[k]? = some q.1 := by rw [List.getElem?_map, hk]; rfl
    rw [e, List.getElem?_map] at h1
    cases h2 : w1[k]? with
    | none => rw [h2] at h1; cases h1
    | some q0 => rw [h2] at h1; exact ⟨q0, rfl, Option.some.inj h1⟩
  refine ⟨fun i j a b hi hj hab => ?_, fun k q hk => ?_⟩
  · obtain ⟨a0, e1, e2⟩ := key i a hi
    obtain ⟨b0, e3, e4⟩ := key j b hj
    exact h.1 i j a0 b0 e1 e3 (by rw [e2, e4, hab])
  · obtain ⟨q0, e1, e2⟩ := key k q hk
    rw [← e2]
    exact h.2 k q0 e1
section RUN
variable {p : Program} {l : Launch} {e : Env} {R : Room} {s : State} {m : MethodId} {args : Array Value} {below : List Frame} {meth : Method} {c : Code} {H : Heap} {locs : List Loc} {cells slots : Nat} {Q : State → Prop}
variable {pc : Nat} {ls : Array Slot} {rest st0 : List Value} {a : Array Value} {A0 A1 : Nat → Prop} {H0 : Heap} {mc ms : Nat} {free : Addr → Prop}
theorem va_useN {G : Gx} {wc : va_W} {post : Option Value → va_W → va_W → Prop} (hr : va_Run p l e R s m args below meth c H locs cells slots mc ms (F0 m pc ls st0) rest (QxN G wc post A1 a) free) (hS : va_S A0 H0 H locs) (hA : ∀ q, q < H.size → A1 q → A0 q) (hf : ∀ q, free q → A0 q)
    (kk : ∀ (r : Option Value) (wa wb : va_W) (H1 : Heap) (locs1 : List Loc), post r wa wb → wa.map (fun q => q.1) = wc.map (fun q => q.1) → va_P G.1 vwCl (wa ++ wb) H1 → va_D A1 (wa ++ wb) → H.size ≤ H1.size → (∀ q : Nat, q < H.size → ¬ A1 q → H1[q]? = H[q]?) → va_S A0 H0 H1 locs1 → W p l e R s m args below meth c H1 locs1 (cells + mc) (slots + ms) Q (F0 m (pc + 3) ls (r.toList ++ rest))) : W p l e R s m args below meth c H locs cells slots Q (F0 m pc ls st0) := by
  intro T hT X
  obtain ⟨v, st₀, t, T', L, h0, X', hL, e1, e2, ⟨⟨r, wa, wb, hv, hp, hm, hPP, hDD⟩, hz, hk⟩, st⟩ := hr T hT X
  cases hv
  rw [h0] at hz hk
  obtain ⟨t2, a1, b1⟩ := kk v wa wb T'.heap (locs ++ L) hp hm (by rw [e1]; exact hPP) hDD (by rw [e1]; exact hz) (fun q h1 h2 => by rw [e1]; exact hk q h1 h2)
    ⟨Nat.le_trans hS.1 (by rw [e1]; exact hz), fun q h1 h2 => by rw [e1, hk q (Nat.lt_of_lt_of_le h1 hS.1) (fun z => h2 (hA q (Nat.lt_of_lt_of_le h1 hS.1) z))]; exact hS.2.1 q h1 h2, fun q hq => by
      rcases List.mem_append.mp hq with h | h
      · exact hS.2.2 q h
      · exact hf _ (hL q h)⟩ T' rfl X'
  exact ⟨t2, st t2 a1, b1⟩
end RUN
/-- the worlds behind a call, in the caller's order -/
theorem va_back {A0 : Nat → Prop} {D : va_G} {cl : List vw_C} {ws wc wa wb : va_W} {H H1 : Heap} (hP : va_P D cl ws H) (hD : va_D A0 ws) (isC : List Nat) (hC : isC.map (fun i => ws[i]?) = wc.map some)
    (hm : wa.map (fun q => q.1) = wc.map (fun q => q.1)) (hk : ∀ q : Nat, q < H.size → ¬ va_A wc H.size q → H1[q]? = H[q]?) (hF : ∀ q, va_A wc H.size q → A0 q) (hP1 : va_P D cl (wa ++ wb) H1) (hD1 : va_D (va_A wc H.size) (wa ++ wb)) : va_P D cl (repl ws isC wa ++ wb) H1 ∧ va_D A0 (repl ws isC wa ++ wb) := by
  have hlen : isC.length = wa.length := by
    have h1 := congrArg List.length hC
    have h2 := congrArg List.length hm
    simp only [List.length_map] at h1 h2
    omega
  have hat : ∀ (j i : Nat), isC[j]? = some i → ∃ q : Nat × va_E, ws[i]? = some q ∧ wc[j]? = some q := by
    intro j i hj
    have h1 : (isC.map (fun i => ws[i]?))[j]? = some (ws[i]?) := by rw [List.getElem?_map, hj]; rfl
    rw [hC, List.getElem?_map] at h1
    cases h2 : wc[j]? with
    | none => rw [h2] at h1; cases h1
    | some q => rw [h2] at h1; exact ⟨q, (Option.some.inj h1).symm, rfl⟩
  have hfst : (repl ws isC wa).map (fun q => q.1) = ws.map (fun q => q.1) := by
    refine repl_fst isC wa ws (fun j i q h1 h2 => ?_)
    obtain ⟨q0, h3, h4⟩ := hat j i h1
    have h5 : (wa.map (fun q => q.1))[j]? = some q.1 := by rw [List.getElem?_map, h2]; rfl
    rw [hm, List.getElem?_map, h4] at h5
    rw [List.getElem?_map, h3]
    exact h5
  have hwaP : va_P D cl wa H1 := fun k q hq => hP1 k q (by rw [List.getElem?_append_left (List.getElem?_eq_some_iff.mp hq).1]; exact hq)
  have hwbP : va_P D cl wb H1 := fun k q hq => hP1 (wa.length + k) q (by rw [List.getElem?_append_right (by omega), Nat.add_sub_cancel_left]; exact hq)
  have hrP : va_P D cl (repl ws isC wa) H1 := by
    intro k q hq
    rcases repl_get isC wa ws k q hq with ⟨j, h1, h2⟩ | ⟨h1, h2⟩
    · exact hwaP j q h2
    · have hni : ∀ j : Nat, isC[j]? = some k → False := by
        intro j hj
        have h3 := h2 j hj
        have h4 := (List.getElem?_eq_some_iff.mp hj).1
        omega
      have hl := (hP k q h1).lt
      refine (hP k q h1).kept (hk q.1 hl (fun h => ?_))
      rcases h with ⟨k2, e, h⟩ | h
      · have hk2 : k2 < isC.length := by
          have h5 := (List.getElem?_eq_some_iff.mp h).1
          have h6 := congrArg List.length hC
          simp only [List.length_map] at h6
          omega
        have h7 : isC[k2]? = some (isC[k2]'hk2) := List.getElem?_eq_getElem hk2
        obtain ⟨q2, h8, h9⟩ := hat k2 _ h7
        have h10 : q2 = (q.1, e) := Option.some.inj (h9.symm.trans h)
        have h11 := hD.1 k _ q q2 h1 h8 (by rw [h10])
        rw [← h11] at h7
        exact hni k2 h7
      · omega
  refine ⟨hrP.app hwbP, (hD.fst hfst).app ?_ ?_⟩
  · refine ⟨fun i j a b hi hj hab => ?_, fun k q hq => ?_⟩
    · have := hD1.1 (wa.length + i) (wa.length + j) a b (by rw [List.getElem?_append_right (by omega), Nat.add_sub_cancel_left]; exact hi) (by rw [List.getElem?_append_right (by omega), Nat.add_sub_cancel_left]; exact hj) hab
      omega
    · exact hF q.1 (hD1.2 (wa.length + k) q (by rw [List.getElem?_append_right (by omega), Nat.add_sub_cancel_left]; exact hq))
  · intro i j a b hi hj hab
    have hb := hD1.2 (wa.length + j) b (by rw [List.getElem?_append_right (by omega), Nat.add_sub_cancel_left]; exact hj)
    have ha : a.1 < H.size := by
      have h1 : ((repl ws isC wa).map (fun q => q.1))[i]? = some a.1 := by rw [List.getElem?_map, hi]; rfl
      rw [hfst, List.getElem?_map] at h1
      cases h2 : ws[i]? with
      | none => rw [h2] at h1; cases h1
      | some q0 => rw [h2] at h1; have := (hP i q0 h2).lt; have h3 : q0.1 = a.1 := Option.some.inj h1; omega
    rcases hb with ⟨k, e, h⟩ | h
    · have h1 : (wc.map (fun q => q.1))[k]? = some b.1 := by rw [List.getElem?_map, h]; rfl
      rw [← hm, List.getElem?_map] at h1
      cases h2 : wa[k]? with
      | none => rw [h2] at h1; cases h1
      | some q0 =>
        rw [h2] at h1
        have hkl := (List.getElem?_eq_some_iff.mp h2).1
        have := hD1.1 k (wa.length + j) q0 b (by rw [List.getElem?_append_left hkl]; exact h2) (by rw [List.getElem?_append_right (by omega), Nat.add_sub_cancel_left]; exact hj) (Option.some.inj h1)
        omega
    · omega
theorem va_freeC {A0 : Nat → Prop} {ws wc : va_W} {H0 H : Heap} {locs : List Loc} (hD : va_D A0 ws) (hS : va_S A0 H0 H locs) (hA : ∀ q, H0.size ≤ q → A0 q) (isC : List Nat) (hC : isC.map (fun i => ws[i]?) = wc.map some) : ∀ q, va_A wc H.size q → A0 q := va_free hD hS hA isC hC
theorem va_PC {D : va_G} {cl : List vw_C} {ws wc : va_W} {H : Heap} (hP : va_P D cl ws H) (isC : List Nat) (hC : isC.map (fun i => ws[i]?) = wc.map some) : va_P D cl wc H := by
  intro k q hk
  have h1 : (isC.map (fun i => ws[i]?))[k]? = some (some q) := by rw [hC, List.getElem?_map, hk]; rfl
  rw [List.getElem?_map] at h1
  cases hi : isC[k]? with
  | none => rw [hi] at h1; cases h1
  | some i => rw [hi] at h1; exact hP i q (Option.some.inj h1)

theorem k_iconst {x : Cx} {G : Gx} {nL : Nat} {cc : ByteArray} {Ts : List Cond} {y0 : MethodName} {rm : Room} (O : Okx x G nL cc Ts y0 rm) {n1 n2 pc : Nat} {lv : List (Nat × Value)} {st : List Value} {ws : va_W} {n : Int} {v : Int32} (hd : decode cc pc = .ok (.iconst n, 1)) (hv : Int32.ofInt n = v) (g : V x G nL n1 n2 (pc + 1) lv (.int v :: st) ws) : V x G nL n1 n2 pc lv st ws := by
  obtain ⟨p, l, e, R, s, m, args, below, meth, c, Q, A⟩ := x
  obtain ⟨hx, hb, hml, hts, hown, hKS, hA, hR, hnm⟩ := O
  intro H locs ls hP hD hS hl
  exact lv_iconst hx hb hd hv (g H locs ls hP hD hS hl)
theorem k_bipush {x : Cx} {G : Gx} {nL : Nat} {cc : ByteArray} {Ts : List Cond} {y0 : MethodName} {rm : Room} (O : Okx x G nL cc Ts y0 rm) {n1 n2 pc : Nat} {lv : List (Nat × Value)} {st : List Value} {ws : va_W} {n : Int} {v : Int32} (hd : decode cc pc = .ok (.bipush n, 2)) (hv : (Int8.ofInt n).toInt32 = v) (g : V x G nL n1 n2 (pc + 2) lv (.int v :: st) ws) : V x G nL n1 n2 pc lv st ws := by
  obtain ⟨p, l, e, R, s, m, args, below, meth, c, Q, A⟩ := x
  obtain ⟨hx, hb, hml, hts, hown, hKS, hA, hR, hnm⟩ := O
  intro H locs ls hP hD hS hl
  exact lv_bipush hx hb hd hv (g H locs ls hP hD hS hl)
theorem k_sipush {x : Cx} {G : Gx} {nL : Nat} {cc : ByteArray} {Ts : List Cond} {y0 : MethodName} {rm : Room} (O : Okx x G nL cc Ts y0 rm) {n1 n2 pc : Nat} {lv : List (Nat × Value)} {st : List Value} {ws : va_W} {n : Int} {v : Int32} (hd : decode cc pc = .ok (.sipush n, 3)) (hv : (Int16.ofInt n).toInt32 = v) (g : V x G nL n1 n2 (pc + 3) lv (.int v :: st) ws) : V x G nL n1 n2 pc lv st ws := by
  obtain ⟨p, l, e, R, s, m, args, below, meth, c, Q, A⟩ := x
  obtain ⟨hx, hb, hml, hts, hown, hKS, hA, hR, hnm⟩ := O
  intro H locs ls hP hD hS hl
  exact lv_sipush hx hb hd hv (g H locs ls hP hD hS hl)
theorem k_ldc {x : Cx} {G : Gx} {nL : Nat} {cc : ByteArray} {Ts : List Cond} {y0 : MethodName} {rm : Room} (O : Okx x G nL cc Ts y0 rm) {n1 n2 pc : Nat} {lv : List (Nat × Value)} {st : List Value} {ws : va_W} {i : Nat} (v : Int32) (hd : decode cc pc = .ok (.ldc i, 2)) (hc : (Jvm.Cond.constant y0.cls i v) ∈ Ts) (g : V x G nL n1 n2 (pc + 2) lv (.int v :: st) ws) : V x G nL n1 n2 pc lv st ws := by
  obtain ⟨p, l, e, R, s, m, args, below, meth, c, Q, A⟩ := x
  obtain ⟨hx, hb, hml, hts, hown, hKS, hA, hR, hnm⟩ := O
  intro H locs ls hP hD hS hl
  exact lv_ldc hx hb hown (hts _ hc) hd (g H locs ls hP hD hS hl)
theorem k_ldc2 {x : Cx} {G : Gx} {nL : Nat} {cc : ByteArray} {Ts : List Cond} {y0 : MethodName} {rm : Room} (O : Okx x G nL cc Ts y0 rm) {n1 n2 pc : Nat} {lv : List (Nat × Value)} {st : List Value} {ws : va_W} {i : Nat} (v : Int64) (hd : decode cc pc = .ok (.ldc2_w i, 3)) (hc : (Jvm.Cond.constantLong y0.cls i v) ∈ Ts) (g : V x G nL n1 n2 (pc + 3) lv (.long v :: st) ws) : V x G nL n1 n2 pc lv st ws := by
  obtain ⟨p, l, e, R, s, m, args, below, meth, c, Q, A⟩ := x
  obtain ⟨hx, hb, hml, hts, hown, hKS, hA, hR, hnm⟩ := O
  intro H locs ls hP hD hS hl
  exact lv_ldc2 hx hb hown (hts _ hc) hd (g H locs ls hP hD hS hl)
theorem k_lconst {x : Cx} {G : Gx} {nL : Nat} {cc : ByteArray} {Ts : List Cond} {y0 : MethodName} {rm : Room} (O : Okx x G nL cc Ts y0 rm) {n1 n2 pc : Nat} {lv : List (Nat × Value)} {st : List Value} {ws : va_W} {n : Fin 2} {v : Int64} (hd : decode cc pc = .ok (.lconst n, 1)) (hv : Int64.ofNat (n : Nat) = v) (g : V x G nL n1 n2 (pc + 1) lv (.long v :: st) ws) : V x G nL n1 n2 pc lv st ws := by
  obtain ⟨p, l, e, R, s, m, args, below, meth, c, Q, A⟩ := x
  obtain ⟨hx, hb, hml, hts, hown, hKS, hA, hR, hnm⟩ := O
  intro H locs ls hP hD hS hl
  exact lv_lconst hx hb hd hv (g H locs ls hP hD hS hl)
theorem k_iload {x : Cx} {G : Gx} {nL : Nat} {cc : ByteArray} {Ts : List Cond} {y0 : MethodName} {rm : Room} (O : Okx x G nL cc Ts y0 rm) {n1 n2 pc : Nat} {lv : List (Nat × Value)} {st : List Value} {ws : va_W} {i : Nat} {v : Int32} (hd : decode cc pc = .ok (.iload i, 2)) (k : Nat) (hk : lv[k]? = some (i, .int v)) (g : V x G nL n1 n2 (pc + 2) lv (.int v :: st) ws) : V x G nL n1 n2 pc lv st ws := by
  obtain ⟨p, l, e, R, s, m, args, below, meth, c, Q, A⟩ := x
  obtain ⟨hx, hb, hml, hts, hown, hKS, hA, hR, hnm⟩ := O
  intro H locs ls hP hD hS hl
  exact lv_iload hx hb hd (lv_at hl k hk) (g H locs ls hP hD hS hl)
theorem k_iload_n {x : Cx} {G : Gx} {nL : Nat} {cc : ByteArray} {Ts : List Cond} {y0 : MethodName} {rm : Room} (O : Okx x G nL cc Ts y0 rm) {n1 n2 pc : Nat} {lv : List (Nat × Value)} {st : List Value} {ws : va_W} {f : Fin 4} {i : Nat} {v : Int32} (hd : decode cc pc = .ok (.iload_n f, 1)) (hi : (f : Nat) = i) (k : Nat) (hk : lv[k]? = some (i, .int v)) (g : V x G nL n1 n2 (pc + 1) lv (.int v :: st) ws) : V x G nL n1 n2 pc lv st ws := by
  obtain ⟨p, l, e, R, s, m, args, below, meth, c, Q, A⟩ := x
  obtain ⟨hx, hb, hml, hts, hown, hKS, hA, hR, hnm⟩ := O
  intro H locs ls hP hD hS hl
  exact lv_iload_n hx hb hd hi (lv_at hl k hk) (g H locs ls hP hD hS hl)
theorem k_aload {x : Cx} {G : Gx} {nL : Nat} {cc : ByteArray} {Ts : List Cond} {y0 : MethodName} {rm : Room} (O : Okx x G nL cc Ts y0 rm) {n1 n2 pc : Nat} {lv : List (Nat × Value)} {st : List Value} {ws : va_W} {i : Nat} {v : Nat} (hd : decode cc pc = .ok (.aload i, 2)) (k : Nat) (hk : lv[k]? = some (i, .ref v)) (g : V x G nL n1 n2 (pc + 2) lv (.ref v :: st) ws) : V x G nL n1 n2 pc lv st ws := by
  obtain ⟨p, l, e, R, s, m, args, below, meth, c, Q, A⟩ := x
  obtain ⟨hx, hb, hml, hts, hown, hKS, hA, hR, hnm⟩ := O
  intro H locs ls hP hD hS hl
  exact lv_aload hx hb hd (lv_at hl k hk) (g H locs ls hP hD hS hl)
theorem k_aload_n {x : Cx} {G : Gx} {nL : Nat} {cc : ByteArray} {Ts : List Cond} {y0 : MethodName} {rm : Room} (O : Okx x G nL cc Ts y0 rm) {n1 n2 pc : Nat} {lv : List (Nat × Value)} {st : List Value} {ws : va_W} {f : Fin 4} {i : Nat} {v : Nat} (hd : decode cc pc = .ok (.aload_n f, 1)) (hi : (f : Nat) = i) (k : Nat) (hk : lv[k]? = some (i, .ref v)) (g : V x G nL n1 n2 (pc + 1) lv (.ref v :: st) ws) : V x G nL n1 n2 pc lv st ws := by
  obtain ⟨p, l, e, R, s, m, args, below, meth, c, Q, A⟩ := x
  obtain ⟨hx, hb, hml, hts, hown, hKS, hA, hR, hnm⟩ := O
  intro H locs ls hP hD hS hl
  exact lv_aload_n hx hb hd hi (lv_at hl k hk) (g H locs ls hP hD hS hl)
theorem k_lload {x : Cx} {G : Gx} {nL : Nat} {cc : ByteArray} {Ts : List Cond} {y0 : MethodName} {rm : Room} (O : Okx x G nL cc Ts y0 rm) {n1 n2 pc : Nat} {lv : List (Nat × Value)} {st : List Value} {ws : va_W} {i : Nat} {v : Int64} (hd : decode cc pc = .ok (.lload i, 2)) (k : Nat) (hk : lv[k]? = some (i, .long v)) (g : V x G nL n1 n2 (pc + 2) lv (.long v :: st) ws) : V x G nL n1 n2 pc lv st ws := by
  obtain ⟨p, l, e, R, s, m, args, below, meth, c, Q, A⟩ := x
  obtain ⟨hx, hb, hml, hts, hown, hKS, hA, hR, hnm⟩ := O
  intro H locs ls hP hD hS hl
  exact lv_lload hx hb hd (lv_at hl k hk) (g H locs ls hP hD hS hl)
theorem k_lload_n {x : Cx} {G : Gx} {nL : Nat} {cc : ByteArray} {Ts : List Cond} {y0 : MethodName} {rm : Room} (O : Okx x G nL cc Ts y0 rm) {n1 n2 pc : Nat} {lv : List (Nat × Value)} {st : List Value} {ws : va_W} {f : Fin 4} {i : Nat} {v : Int64} (hd : decode cc pc = .ok (.lload_n f, 1)) (hi : (f : Nat) = i) (k : Nat) (hk : lv[k]? = some (i, .long v)) (g : V x G nL n1 n2 (pc + 1) lv (.long v :: st) ws) : V x G nL n1 n2 pc lv st ws := by
  obtain ⟨p, l, e, R, s, m, args, below, meth, c, Q, A⟩ := x
  obtain ⟨hx, hb, hml, hts, hown, hKS, hA, hR, hnm⟩ := O
  intro H locs ls hP hD hS hl
  exact lv_lload_n hx hb hd hi (lv_at hl k hk) (g H locs ls hP hD hS hl)
theorem k_istore {x : Cx} {G : Gx} {nL : Nat} {cc : ByteArray} {Ts : List Cond} {y0 : MethodName} {rm : Room} (O : Okx x G nL cc Ts y0 rm) {n1 n2 pc : Nat} {lv : List (Nat × Value)} {st : List Value} {ws : va_W} {i : Nat} {v : Int32} (lv' : List (Nat × Value)) (hd : decode cc pc = .ok (.istore i, 2)) (hn : i < nL) (hl' : (i, Value.int v) :: lv.filter (fun q => !(q.1 == i) && !(q.1 + 1 == i && q.2.category == 2)) = lv') (g : V x G nL n1 n2 (pc + 2) lv' st ws) : V x G nL n1 n2 pc lv (.int v :: st) ws := by
  obtain ⟨p, l, e, R, s, m, args, below, meth, c, Q, A⟩ := x
  obtain ⟨hx, hb, hml, hts, hown, hKS, hA, hR, hnm⟩ := O
  intro H locs ls hP hD hS hl
  exact lv_istore hx hb hd hl hn hl' (fun ls' h' => g H locs ls' hP hD hS h')
theorem k_istore_n {x : Cx} {G : Gx} {nL : Nat} {cc : ByteArray} {Ts : List Cond} {y0 : MethodName} {rm : Room} (O : Okx x G nL cc Ts y0 rm) {n1 n2 pc : Nat} {lv : List (Nat × Value)} {st : List Value} {ws : va_W} {f : Fin 4} {i : Nat} {v : Int32} (lv' : List (Nat × Value)) (hd : decode cc pc = .ok (.istore_n f, 1)) (hi : (f : Nat) = i) (hn : i < nL) (hl' : (i, Value.int v) :: lv.filter (fun q => !(q.1 == i) && !(q.1 + 1 == i && q.2.category == 2)) = lv') (g : V x G nL n1 n2 (pc + 1) lv' st ws) : V x G nL n1 n2 pc lv (.int v :: st) ws := by
  obtain ⟨p, l, e, R, s, m, args, below, meth, c, Q, A⟩ := x
  obtain ⟨hx, hb, hml, hts, hown, hKS, hA, hR, hnm⟩ := O
  intro H locs ls hP hD hS hl
  exact lv_istore_n hx hb hd hi hl hn hl' (fun ls' h' => g H locs ls' hP hD hS h')
theorem k_astore {x : Cx} {G : Gx} {nL : Nat} {cc : ByteArray} {Ts : List Cond} {y0 : MethodName} {rm : Room} (O : Okx x G nL cc Ts y0 rm) {n1 n2 pc : Nat} {lv : List (Nat × Value)} {st : List Value} {ws : va_W} {i : Nat} {v : Nat} (lv' : List (Nat × Value)) (hd : decode cc pc = .ok (.astore i, 2)) (hn : i < nL) (hl' : (i, Value.ref v) :: lv.filter (fun q => !(q.1 == i) && !(q.1 + 1 == i && q.2.category == 2)) = lv') (g : V x G nL n1 n2 (pc + 2) lv' st ws) : V x G nL n1 n2 pc lv (.ref v :: st) ws := by
  obtain ⟨p, l, e, R, s, m, args, below, meth, c, Q, A⟩ := x
  obtain ⟨hx, hb, hml, hts, hown, hKS, hA, hR, hnm⟩ := O
  intro H locs ls hP hD hS hl
  exact lv_astore hx hb hd hl hn hl' (fun ls' h' => g H locs ls' hP hD hS h')
theorem k_astore_n {x : Cx} {G : Gx} {nL : Nat} {cc : ByteArray} {Ts : List Cond} {y0 : MethodName} {rm : Room} (O : Okx x G nL cc Ts y0 rm) {n1 n2 pc : Nat} {lv : List (Nat × Value)} {st : List Value} {ws : va_W} {f : Fin 4} {i : Nat} {v : Nat} (lv' : List (Nat × Value)) (hd : decode cc pc = .ok (.astore_n f, 1)) (hi : (f : Nat) = i) (hn : i < nL) (hl' : (i, Value.ref v) :: lv.filter (fun q => !(q.1 == i) && !(q.1 + 1 == i && q.2.category == 2)) = lv') (g : V x G nL n1 n2 (pc + 1) lv' st ws) : V x G nL n1 n2 pc lv (.ref v :: st) ws := by
  obtain ⟨p, l, e, R, s, m, args, below, meth, c, Q, A⟩ := x
  obtain ⟨hx, hb, hml, hts, hown, hKS, hA, hR, hnm⟩ := O
  intro H locs ls hP hD hS hl
  exact lv_astore_n hx hb hd hi hl hn hl' (fun ls' h' => g H locs ls' hP hD hS h')
theorem k_lstore {x : Cx} {G : Gx} {nL : Nat} {cc : ByteArray} {Ts : List Cond} {y0 : MethodName} {rm : Room} (O : Okx x G nL cc Ts y0 rm) {n1 n2 pc : Nat} {lv : List (Nat × Value)} {st : List Value} {ws : va_W} {i : Nat} {v : Int64} (lv' : List (Nat × Value)) (hd : decode cc pc = .ok (.lstore i, 2)) (hn : i + 1 < nL) (hl' : (i, Value.long v) :: lv.filter (fun q => !(q.1 == i) && (!(q.1 == i + 1) && !(q.1 + 1 == i && q.2.category == 2))) = lv') (g : V x G nL n1 n2 (pc + 2) lv' st ws) : V x G nL n1 n2 pc lv (.long v :: st) ws := by
  obtain ⟨p, l, e, R, s, m, args, below, meth, c, Q, A⟩ := x
  obtain ⟨hx, hb, hml, hts, hown, hKS, hA, hR, hnm⟩ := O
  intro H locs ls hP hD hS hl
  exact lv_lstore hx hb hd hl hn hl' (fun ls' h' => g H locs ls' hP hD hS h')
theorem k_iinc {x : Cx} {G : Gx} {nL : Nat} {cc : ByteArray} {Ts : List Cond} {y0 : MethodName} {rm : Room} (O : Okx x G nL cc Ts y0 rm) {n1 n2 pc : Nat} {lv : List (Nat × Value)} {st : List Value} {ws : va_W} {i k : Nat} {n : Int} {v w : Int32} (lv' : List (Nat × Value)) (hd : decode cc pc = .ok (.iinc i n, 3)) (hk : lv[k]? = some (i, .int v)) (hv : v + Int32.ofInt n = w) (hn : i < nL) (hl' : (i, Value.int w) :: lv.filter (fun q => !(q.1 == i) && !(q.1 + 1 == i && q.2.category == 2)) = lv') (g : V x G nL n1 n2 (pc + 3) lv' st ws) : V x G nL n1 n2 pc lv st ws := by
  obtain ⟨p, l, e, R, s, m, args, below, meth, c, Q, A⟩ := x
  obtain ⟨hx, hb, hml, hts, hown, hKS, hA, hR, hnm⟩ := O
  intro H locs ls hP hD hS hl
  exact lv_iinc hx hb hd hl hk hv hn hl' (fun ls' h' => g H locs ls' hP hD hS h')
theorem k_sub {x : Cx} {G : Gx} {nL n1 n2 pc : Nat} {lv : List (Nat × Value)} {st : List Value} {ws : va_W} (ks : List Nat) (lv' : List (Nat × Value)) (h : lv_pick lv ks = lv') (g : V x G nL n1 n2 pc lv' st ws) : V x G nL n1 n2 pc lv st ws := by
  obtain ⟨p, l, e, R, s, m, args, below, meth, c, Q, A⟩ := x
  intro H locs ls hP hD hS hl
  exact g H locs ls hP hD hS (lv_sub hl ks h)
theorem k_widen {x : Cx} {G : Gx} {nL n1 n2 pc : Nat} {lv : List (Nat × Value)} {st : List Value} {ws : va_W} (k n : Nat) (h1 : n1 ≤ k) (h2 : n2 ≤ n) (g : V x G nL k n pc lv st ws) : V x G nL n1 n2 pc lv st ws := by
  obtain ⟨p, l, e, R, s, m, args, below, meth, c, Q, A⟩ := x
  intro H locs ls hP hD hS hl
  exact W.widen h1 h2 (g H locs ls hP hD hS hl)
theorem k_world {x : Cx} {G : Gx} {nL n1 n2 pc : Nat} {lv : List (Nat × Value)} {st : List Value} {ws : va_W} (ws' : va_W) (h : ∀ H : Heap, va_P G.1 vwCl ws H → va_P G.1 vwCl ws' H) (hf : ws'.map (fun q => q.1) = ws.map (fun q => q.1)) (g : V x G nL n1 n2 pc lv st ws') : V x G nL n1 n2 pc lv st ws := by
  obtain ⟨p, l, e, R, s, m, args, below, meth, c, Q, A⟩ := x
  intro H locs ls hP hD hS hl
  exact g H locs ls (h H hP) (hD.fst hf) hS hl
theorem k_goto {x : Cx} {G : Gx} {nL : Nat} {cc : ByteArray} {Ts : List Cond} {y0 : MethodName} {rm : Room} (O : Okx x G nL cc Ts y0 rm) {n1 n2 pc : Nat} {lv : List (Nat × Value)} {st : List Value} {ws : va_W} {off : Int} (tgt : Nat) (hd : decode cc pc = .ok (.goto off, 3)) (ht : (pc : Int) + off = (tgt : Int)) (g : V x G nL n1 n2 tgt lv st ws) : V x G nL n1 n2 pc lv st ws := by
  obtain ⟨p, l, e, R, s, m, args, below, meth, c, Q, A⟩ := x
  obtain ⟨hx, hb, hml, hts, hown, hKS, hA, hR, hnm⟩ := O
  intro H locs ls hP hD hS hl
  exact lv_goto hx hb hd ht (g H locs ls hP hD hS hl)
theorem k_dup {x : Cx} {G : Gx} {nL : Nat} {cc : ByteArray} {Ts : List Cond} {y0 : MethodName} {rm : Room} (O : Okx x G nL cc Ts y0 rm) {n1 n2 pc : Nat} {lv : List (Nat × Value)} {st : List Value} {ws : va_W} {v : Value} (hd : decode cc pc = .ok (.dup, 1)) (hv : v.category = 1) (g : V x G nL n1 n2 (pc + 1) lv (v :: v :: st) ws) : V x G nL n1 n2 pc lv (v :: st) ws := by
  obtain ⟨p, l, e, R, s, m, args, below, meth, c, Q, A⟩ := x
  obtain ⟨hx, hb, hml, hts, hown, hKS, hA, hR, hnm⟩ := O
  intro H locs ls hP hD hS hl
  exact lv_dup hx hb hd hv (g H locs ls hP hD hS hl)
theorem k_pop {x : Cx} {G : Gx} {nL : Nat} {cc : ByteArray} {Ts : List Cond} {y0 : MethodName} {rm : Room} (O : Okx x G nL cc Ts y0 rm) {n1 n2 pc : Nat} {lv : List (Nat × Value)} {st : List Value} {ws : va_W} {v : Value} (hd : decode cc pc = .ok (.pop, 1)) (hv : v.category = 1) (g : V x G nL n1 n2 (pc + 1) lv st ws) : V x G nL n1 n2 pc lv (v :: st) ws := by
  obtain ⟨p, l, e, R, s, m, args, below, meth, c, Q, A⟩ := x
  obtain ⟨hx, hb, hml, hts, hown, hKS, hA, hR, hnm⟩ := O
  intro H locs ls hP hD hS hl
  exact lv_pop hx hb hd hv (g H locs ls hP hD hS hl)
theorem k_iadd {x : Cx} {G : Gx} {nL : Nat} {cc : ByteArray} {Ts : List Cond} {y0 : MethodName} {rm : Room} (O : Okx x G nL cc Ts y0 rm) {n1 n2 pc : Nat} {lv : List (Nat × Value)} {st : List Value} {ws : va_W} {a b : Int32} (hd : decode cc pc = .ok (.iadd, 1)) (g : V x G nL n1 n2 (pc + 1) lv (.int (a + b) :: st) ws) : V x G nL n1 n2 pc lv (.int b :: .int a :: st) ws := by
  obtain ⟨p, l, e, R, s, m, args, below, meth, c, Q, A⟩ := x
  obtain ⟨hx, hb, hml, hts, hown, hKS, hA, hR, hnm⟩ := O
  intro H locs ls hP hD hS hl
  exact lv_iadd hx hb hd (g H locs ls hP hD hS hl)
theorem k_isub {x : Cx} {G : Gx} {nL : Nat} {cc : ByteArray} {Ts : List Cond} {y0 : MethodName} {rm : Room} (O : Okx x G nL cc Ts y0 rm) {n1 n2 pc : Nat} {lv : List (Nat × Value)} {st : List Value} {ws : va_W} {a b : Int32} (hd : decode cc pc = .ok (.isub, 1)) (g : V x G nL n1 n2 (pc + 1) lv (.int (a - b) :: st) ws) : V x G nL n1 n2 pc lv (.int b :: .int a :: st) ws := by
  obtain ⟨p, l, e, R, s, m, args, below, meth, c, Q, A⟩ := x
  obtain ⟨hx, hb, hml, hts, hown, hKS, hA, hR, hnm⟩ := O
  intro H locs ls hP hD hS hl
  exact lv_isub hx hb hd (g H locs ls hP hD hS hl)
theorem k_imul {x : Cx} {G : Gx} {nL : Nat} {cc : ByteArray} {Ts : List Cond} {y0 : MethodName} {rm : Room} (O : Okx x G nL cc Ts y0 rm) {n1 n2 pc : Nat} {lv : List (Nat × Value)} {st : List Value} {ws : va_W} {a b : Int32} (hd : decode cc pc = .ok (.imul, 1)) (g : V x G nL n1 n2 (pc + 1) lv (.int (a * b) :: st) ws) : V x G nL n1 n2 pc lv (.int b :: .int a :: st) ws := by
  obtain ⟨p, l, e, R, s, m, args, below, meth, c, Q, A⟩ := x
  obtain ⟨hx, hb, hml, hts, hown, hKS, hA, hR, hnm⟩ := O
  intro H locs ls hP hD hS hl
  exact lv_imul hx hb hd (g H locs ls hP hD hS hl)
theorem k_iand {x : Cx} {G : Gx} {nL : Nat} {cc : ByteArray} {Ts : List Cond} {y0 : MethodName} {rm : Room} (O : Okx x G nL cc Ts y0 rm) {n1 n2 pc : Nat} {lv : List (Nat × Value)} {st : List Value} {ws : va_W} {a b : Int32} (hd : decode cc pc = .ok (.iand, 1)) (g : V x G nL n1 n2 (pc + 1) lv (.int (a &&& b) :: st) ws) : V x G nL n1 n2 pc lv (.int b :: .int a :: st) ws := by
  obtain ⟨p, l, e, R, s, m, args, below, meth, c, Q, A⟩ := x
  obtain ⟨hx, hb, hml, hts, hown, hKS, hA, hR, hnm⟩ := O
  intro H locs ls hP hD hS hl
  exact lv_iand hx hb hd (g H locs ls hP hD hS hl)
theorem k_ior {x : Cx} {G : Gx} {nL : Nat} {cc : ByteArray} {Ts : List Cond} {y0 : MethodName} {rm : Room} (O : Okx x G nL cc Ts y0 rm) {n1 n2 pc : Nat} {lv : List (Nat × Value)} {st : List Value} {ws : va_W} {a b : Int32} (hd : decode cc pc = .ok (.ior, 1)) (g : V x G nL n1 n2 (pc + 1) lv (.int (a ||| b) :: st) ws) : V x G nL n1 n2 pc lv (.int b :: .int a :: st) ws := by
  obtain ⟨p, l, e, R, s, m, args, below, meth, c, Q, A⟩ := x
  obtain ⟨hx, hb, hml, hts, hown, hKS, hA, hR, hnm⟩ := O
  intro H locs ls hP hD hS hl
  exact lv_ior hx hb hd (g H locs ls hP hD hS hl)
theorem k_ixor {x : Cx} {G : Gx} {nL : Nat} {cc : ByteArray} {Ts : List Cond} {y0 : MethodName} {rm : Room} (O : Okx x G nL cc Ts y0 rm) {n1 n2 pc : Nat} {lv : List (Nat × Value)} {st : List Value} {ws : va_W} {a b : Int32} (hd : decode cc pc = .ok (.ixor, 1)) (g : V x G nL n1 n2 (pc + 1) lv (.int (a ^^^ b) :: st) ws) : V x G nL n1 n2 pc lv (.int b :: .int a :: st) ws := by
  obtain ⟨p, l, e, R, s, m, args, below, meth, c, Q, A⟩ := x
  obtain ⟨hx, hb, hml, hts, hown, hKS, hA, hR, hnm⟩ := O
  intro H locs ls hP hD hS hl
  exact lv_ixor hx hb hd (g H locs ls hP hD hS hl)
theorem k_ishl {x : Cx} {G : Gx} {nL : Nat} {cc : ByteArray} {Ts : List Cond} {y0 : MethodName} {rm : Room} (O : Okx x G nL cc Ts y0 rm) {n1 n2 pc : Nat} {lv : List (Nat × Value)} {st : List Value} {ws : va_W} {a b : Int32} (hd : decode cc pc = .ok (.ishl, 1)) (g : V x G nL n1 n2 (pc + 1) lv (.int (a <<< (b &&& 31)) :: st) ws) : V x G nL n1 n2 pc lv (.int b :: .int a :: st) ws := by
  obtain ⟨p, l, e, R, s, m, args, below, meth, c, Q, A⟩ := x
  obtain ⟨hx, hb, hml, hts, hown, hKS, hA, hR, hnm⟩ := O
  intro H locs ls hP hD hS hl
  exact lv_ishl hx hb hd (g H locs ls hP hD hS hl)
theorem k_ishr {x : Cx} {G : Gx} {nL : Nat} {cc : ByteArray} {Ts : List Cond} {y0 : MethodName} {rm : Room} (O : Okx x G nL cc Ts y0 rm) {n1 n2 pc : Nat} {lv : List (Nat × Value)} {st : List Value} {ws : va_W} {a b : Int32} (hd : decode cc pc = .ok (.ishr, 1)) (g : V x G nL n1 n2 (pc + 1) lv (.int (a >>> (b &&& 31)) :: st) ws) : V x G nL n1 n2 pc lv (.int b :: .int a :: st) ws := by
  obtain ⟨p, l, e, R, s, m, args, below, meth, c, Q, A⟩ := x
  obtain ⟨hx, hb, hml, hts, hown, hKS, hA, hR, hnm⟩ := O
  intro H locs ls hP hD hS hl
  exact lv_ishr hx hb hd (g H locs ls hP hD hS hl)
theorem k_idiv {x : Cx} {G : Gx} {nL : Nat} {cc : ByteArray} {Ts : List Cond} {y0 : MethodName} {rm : Room} (O : Okx x G nL cc Ts y0 rm) {n1 n2 pc : Nat} {lv : List (Nat × Value)} {st : List Value} {ws : va_W} {a b : Int32} (hd : decode cc pc = .ok (.idiv, 1)) (h0 : ¬ b = 0) (g : V x G nL n1 n2 (pc + 1) lv (.int (a / b) :: st) ws) : V x G nL n1 n2 pc lv (.int b :: .int a :: st) ws := by
  obtain ⟨p, l, e, R, s, m, args, below, meth, c, Q, A⟩ := x
  obtain ⟨hx, hb, hml, hts, hown, hKS, hA, hR, hnm⟩ := O
  intro H locs ls hP hD hS hl
  exact lv_idiv hx hb hd h0 (g H locs ls hP hD hS hl)
theorem k_irem {x : Cx} {G : Gx} {nL : Nat} {cc : ByteArray} {Ts : List Cond} {y0 : MethodName} {rm : Room} (O : Okx x G nL cc Ts y0 rm) {n1 n2 pc : Nat} {lv : List (Nat × Value)} {st : List Value} {ws : va_W} {a b : Int32} (hd : decode cc pc = .ok (.irem, 1)) (h0 : ¬ b = 0) (g : V x G nL n1 n2 (pc + 1) lv (.int (a - a / b * b) :: st) ws) : V x G nL n1 n2 pc lv (.int b :: .int a :: st) ws := by
  obtain ⟨p, l, e, R, s, m, args, below, meth, c, Q, A⟩ := x
  obtain ⟨hx, hb, hml, hts, hown, hKS, hA, hR, hnm⟩ := O
  intro H locs ls hP hD hS hl
  exact lv_irem hx hb hd h0 (g H locs ls hP hD hS hl)
theorem k_lmul {x : Cx} {G : Gx} {nL : Nat} {cc : ByteArray} {Ts : List Cond} {y0 : MethodName} {rm : Room} (O : Okx x G nL cc Ts y0 rm) {n1 n2 pc : Nat} {lv : List (Nat × Value)} {st : List Value} {ws : va_W} {a b : Int64} (hd : decode cc pc = .ok (.lmul, 1)) (g : V x G nL n1 n2 (pc + 1) lv (.long (a * b) :: st) ws) : V x G nL n1 n2 pc lv (.long b :: .long a :: st) ws := by
  obtain ⟨p, l, e, R, s, m, args, below, meth, c, Q, A⟩ := x
  obtain ⟨hx, hb, hml, hts, hown, hKS, hA, hR, hnm⟩ := O
  intro H locs ls hP hD hS hl
  exact lv_lmul hx hb hd (g H locs ls hP hD hS hl)
theorem k_lsub {x : Cx} {G : Gx} {nL : Nat} {cc : ByteArray} {Ts : List Cond} {y0 : MethodName} {rm : Room} (O : Okx x G nL cc Ts y0 rm) {n1 n2 pc : Nat} {lv : List (Nat × Value)} {st : List Value} {ws : va_W} {a b : Int64} (hd : decode cc pc = .ok (.lsub, 1)) (g : V x G nL n1 n2 (pc + 1) lv (.long (a - b) :: st) ws) : V x G nL n1 n2 pc lv (.long b :: .long a :: st) ws := by
  obtain ⟨p, l, e, R, s, m, args, below, meth, c, Q, A⟩ := x
  obtain ⟨hx, hb, hml, hts, hown, hKS, hA, hR, hnm⟩ := O
  intro H locs ls hP hD hS hl
  exact lv_lsub hx hb hd (g H locs ls hP hD hS hl)
theorem k_ldiv {x : Cx} {G : Gx} {nL : Nat} {cc : ByteArray} {Ts : List Cond} {y0 : MethodName} {rm : Room} (O : Okx x G nL cc Ts y0 rm) {n1 n2 pc : Nat} {lv : List (Nat × Value)} {st : List Value} {ws : va_W} {a b : Int64} (hd : decode cc pc = .ok (.ldiv, 1)) (h0 : ¬ b = 0) (g : V x G nL n1 n2 (pc + 1) lv (.long (a / b) :: st) ws) : V x G nL n1 n2 pc lv (.long b :: .long a :: st) ws := by
  obtain ⟨p, l, e, R, s, m, args, below, meth, c, Q, A⟩ := x
  obtain ⟨hx, hb, hml, hts, hown, hKS, hA, hR, hnm⟩ := O
  intro H locs ls hP hD hS hl
  exact lv_ldiv hx hb hd h0 (g H locs ls hP hD hS hl)
theorem k_lrem {x : Cx} {G : Gx} {nL : Nat} {cc : ByteArray} {Ts : List Cond} {y0 : MethodName} {rm : Room} (O : Okx x G nL cc Ts y0 rm) {n1 n2 pc : Nat} {lv : List (Nat × Value)} {st : List Value} {ws : va_W} {a b : Int64} (hd : decode cc pc = .ok (.lrem, 1)) (h0 : ¬ b = 0) (g : V x G nL n1 n2 (pc + 1) lv (.long (a - a / b * b) :: st) ws) : V x G nL n1 n2 pc lv (.long b :: .long a :: st) ws := by
  obtain ⟨p, l, e, R, s, m, args, below, meth, c, Q, A⟩ := x
  obtain ⟨hx, hb, hml, hts, hown, hKS, hA, hR, hnm⟩ := O
  intro H locs ls hP hD hS hl
  exact lv_lrem hx hb hd h0 (g H locs ls hP hD hS hl)
theorem k_lneg {x : Cx} {G : Gx} {nL : Nat} {cc : ByteArray} {Ts : List Cond} {y0 : MethodName} {rm : Room} (O : Okx x G nL cc Ts y0 rm) {n1 n2 pc : Nat} {lv : List (Nat × Value)} {st : List Value} {ws : va_W} {a : Int64} (hd : decode cc pc = .ok (.lneg, 1)) (g : V x G nL n1 n2 (pc + 1) lv (.long (-a) :: st) ws) : V x G nL n1 n2 pc lv (.long a :: st) ws := by
  obtain ⟨p, l, e, R, s, m, args, below, meth, c, Q, A⟩ := x
  obtain ⟨hx, hb, hml, hts, hown, hKS, hA, hR, hnm⟩ := O
  intro H locs ls hP hD hS hl
  exact lv_lneg hx hb hd (g H locs ls hP hD hS hl)
theorem k_lcmp {x : Cx} {G : Gx} {nL : Nat} {cc : ByteArray} {Ts : List Cond} {y0 : MethodName} {rm : Room} (O : Okx x G nL cc Ts y0 rm) {n1 n2 pc : Nat} {lv : List (Nat × Value)} {st : List Value} {ws : va_W} {a b : Int64} (hd : decode cc pc = .ok (.lcmp, 1)) (g : V x G nL n1 n2 (pc + 1) lv (.int (lg_cmp a b) :: st) ws) : V x G nL n1 n2 pc lv (.long b :: .long a :: st) ws := by
  obtain ⟨p, l, e, R, s, m, args, below, meth, c, Q, A⟩ := x
  obtain ⟨hx, hb, hml, hts, hown, hKS, hA, hR, hnm⟩ := O
  intro H locs ls hP hD hS hl
  exact W.lcmp hx hb hd (g H locs ls hP hD hS hl)
theorem k_i2l {x : Cx} {G : Gx} {nL : Nat} {cc : ByteArray} {Ts : List Cond} {y0 : MethodName} {rm : Room} (O : Okx x G nL cc Ts y0 rm) {n1 n2 pc : Nat} {lv : List (Nat × Value)} {st : List Value} {ws : va_W} {a : Int32} {v : Int64} (hd : decode cc pc = .ok (.i2l, 1)) (hv : a.toInt64 = v) (g : V x G nL n1 n2 (pc + 1) lv (.long v :: st) ws) : V x G nL n1 n2 pc lv (.int a :: st) ws := by
  obtain ⟨p, l, e, R, s, m, args, below, meth, c, Q, A⟩ := x
  obtain ⟨hx, hb, hml, hts, hown, hKS, hA, hR, hnm⟩ := O
  intro H locs ls hP hD hS hl
  exact lv_i2l hx hb hd hv (g H locs ls hP hD hS hl)
theorem k_l2i {x : Cx} {G : Gx} {nL : Nat} {cc : ByteArray} {Ts : List Cond} {y0 : MethodName} {rm : Room} (O : Okx x G nL cc Ts y0 rm) {n1 n2 pc : Nat} {lv : List (Nat × Value)} {st : List Value} {ws : va_W} {a : Int64} {v : Int32} (hd : decode cc pc = .ok (.l2i, 1)) (hv : a.toInt32 = v) (g : V x G nL n1 n2 (pc + 1) lv (.int v :: st) ws) : V x G nL n1 n2 pc lv (.long a :: st) ws := by
  obtain ⟨p, l, e, R, s, m, args, below, meth, c, Q, A⟩ := x
  obtain ⟨hx, hb, hml, hts, hown, hKS, hA, hR, hnm⟩ := O
  intro H locs ls hP hD hS hl
  exact lv_l2i hx hb hd hv (g H locs ls hP hD hS hl)
theorem k_iaddN {x : Cx} {G : Gx} {nL : Nat} {cc : ByteArray} {Ts : List Cond} {y0 : MethodName} {rm : Room} (O : Okx x G nL cc Ts y0 rm) {n1 n2 pc : Nat} {lv : List (Nat × Value)} {st : List Value} {ws : va_W} {a b : Nat} (hd : decode cc pc = .ok (.iadd, 1)) (g : V x G nL n1 n2 (pc + 1) lv (.int (nI (a + b)) :: st) ws) : V x G nL n1 n2 pc lv (.int (nI b) :: .int (nI a) :: st) ws := by
  obtain ⟨p, l, e, R, s, m, args, below, meth, c, Q, A⟩ := x
  obtain ⟨hx, hb, hml, hts, hown, hKS, hA, hR, hnm⟩ := O
  intro H locs ls hP hD hS hl
  exact lv_iadd hx hb hd (by rw [nI_add]; exact g H locs ls hP hD hS hl)
theorem k_imulN {x : Cx} {G : Gx} {nL : Nat} {cc : ByteArray} {Ts : List Cond} {y0 : MethodName} {rm : Room} (O : Okx x G nL cc Ts y0 rm) {n1 n2 pc : Nat} {lv : List (Nat × Value)} {st : List Value} {ws : va_W} {a b : Nat} (hd : decode cc pc = .ok (.imul, 1)) (g : V x G nL n1 n2 (pc + 1) lv (.int (nI (a * b)) :: st) ws) : V x G nL n1 n2 pc lv (.int (nI b) :: .int (nI a) :: st) ws := by
  obtain ⟨p, l, e, R, s, m, args, below, meth, c, Q, A⟩ := x
  obtain ⟨hx, hb, hml, hts, hown, hKS, hA, hR, hnm⟩ := O
  intro H locs ls hP hD hS hl
  exact lv_imul hx hb hd (by rw [pk_mul]; exact g H locs ls hP hD hS hl)
theorem k_isubN {x : Cx} {G : Gx} {nL : Nat} {cc : ByteArray} {Ts : List Cond} {y0 : MethodName} {rm : Room} (O : Okx x G nL cc Ts y0 rm) {n1 n2 pc : Nat} {lv : List (Nat × Value)} {st : List Value} {ws : va_W} {a b : Nat} (hd : decode cc pc = .ok (.isub, 1)) (h : b ≤ a) (g : V x G nL n1 n2 (pc + 1) lv (.int (nI (a - b)) :: st) ws) : V x G nL n1 n2 pc lv (.int (nI b) :: .int (nI a) :: st) ws := by
  obtain ⟨p, l, e, R, s, m, args, below, meth, c, Q, A⟩ := x
  obtain ⟨hx, hb, hml, hts, hown, hKS, hA, hR, hnm⟩ := O
  intro H locs ls hP hD hS hl
  exact lv_isub hx hb hd (by rw [pk_sub h]; exact g H locs ls hP hD hS hl)
theorem k_idivN {x : Cx} {G : Gx} {nL : Nat} {cc : ByteArray} {Ts : List Cond} {y0 : MethodName} {rm : Room} (O : Okx x G nL cc Ts y0 rm) {n1 n2 pc : Nat} {lv : List (Nat × Value)} {st : List Value} {ws : va_W} {a b : Nat} (hd : decode cc pc = .ok (.idiv, 1)) (ha : a < 2147483648) (h0 : 0 < b) (hb2 : b < 2147483648) (g : V x G nL n1 n2 (pc + 1) lv (.int (nI (a / b)) :: st) ws) : V x G nL n1 n2 pc lv (.int (nI b) :: .int (nI a) :: st) ws := by
  obtain ⟨p, l, e, R, s, m, args, below, meth, c, Q, A⟩ := x
  obtain ⟨hx, hb, hml, hts, hown, hKS, hA, hR, hnm⟩ := O
  intro H locs ls hP hD hS hl
  exact lv_idiv hx hb hd (nI_ne0 h0 hb2) (by rw [pk_div ha h0 hb2]; exact g H locs ls hP hD hS hl)
theorem k_iremN {x : Cx} {G : Gx} {nL : Nat} {cc : ByteArray} {Ts : List Cond} {y0 : MethodName} {rm : Room} (O : Okx x G nL cc Ts y0 rm) {n1 n2 pc : Nat} {lv : List (Nat × Value)} {st : List Value} {ws : va_W} {a b : Nat} (hd : decode cc pc = .ok (.irem, 1)) (ha : a < 2147483648) (h0 : 0 < b) (hb2 : b < 2147483648) (g : V x G nL n1 n2 (pc + 1) lv (.int (nI (a % b)) :: st) ws) : V x G nL n1 n2 pc lv (.int (nI b) :: .int (nI a) :: st) ws := by
  obtain ⟨p, l, e, R, s, m, args, below, meth, c, Q, A⟩ := x
  obtain ⟨hx, hb, hml, hts, hown, hKS, hA, hR, hnm⟩ := O
  intro H locs ls hP hD hS hl
  exact lv_irem hx hb hd (nI_ne0 h0 hb2) (by rw [pk_rem ha h0 hb2]; exact g H locs ls hP hD hS hl)
theorem k_top {x : Cx} {G : Gx} {nL n1 n2 pc : Nat} {lv : List (Nat × Value)} {st : List Value} {ws : va_W} {v : Int32} (w : Int32) (h : v = w) (g : V x G nL n1 n2 pc lv (.int w :: st) ws) : V x G nL n1 n2 pc lv (.int v :: st) ws := h ▸ g
theorem k_topl {x : Cx} {G : Gx} {nL n1 n2 pc : Nat} {lv : List (Nat × Value)} {st : List Value} {ws : va_W} {v : Int64} (w : Int64) (h : v = w) (g : V x G nL n1 n2 pc lv (.long w :: st) ws) : V x G nL n1 n2 pc lv (.long v :: st) ws := h ▸ g
theorem nI_int {n : Nat} (h : n < 2147483648) : (nI n).toInt = (n : Int) := nI_toInt h
theorem k_icmp_eq {x : Cx} {G : Gx} {nL : Nat} {cc : ByteArray} {Ts : List Cond} {y0 : MethodName} {rm : Room} (O : Okx x G nL cc Ts y0 rm) {n1 n2 pc : Nat} {lv : List (Nat × Value)} {st : List Value} {ws : va_W} {a b : Int32} {off : Int} (tgt : Nat) (hd : decode cc pc = .ok (.if_icmp .eq off, 3)) (ht : (pc : Int) + off = (tgt : Int)) (kt : a = b → V x G nL n1 n2 tgt lv st ws) (kf : ¬ a = b → V x G nL n1 n2 (pc + 3) lv st ws) : V x G nL n1 n2 pc lv (.int b :: .int a :: st) ws := by
  obtain ⟨p, l, e, R, s, m, args, below, meth, c, Q, A⟩ := x
  obtain ⟨hx, hb, hml, hts, hown, hKS, hA, hR, hnm⟩ := O
  intro H locs ls hP hD hS hl
  exact lv_icmp_eq hx hb hd ht (fun h => kt h H locs ls hP hD hS hl) (fun h => kf h H locs ls hP hD hS hl)
theorem k_icmp_eqN {x : Cx} {G : Gx} {nL : Nat} {cc : ByteArray} {Ts : List Cond} {y0 : MethodName} {rm : Room} (O : Okx x G nL cc Ts y0 rm) {n1 n2 pc : Nat} {lv : List (Nat × Value)} {st : List Value} {ws : va_W} {a b : Nat} {off : Int} (tgt : Nat) (hd : decode cc pc = .ok (.if_icmp .eq off, 3)) (ht : (pc : Int) + off = (tgt : Int)) (h1 : a < 2147483648) (h2 : b < 2147483648) (kt : a = b → V x G nL n1 n2 tgt lv st ws) (kf : ¬ a = b → V x G nL n1 n2 (pc + 3) lv st ws) : V x G nL n1 n2 pc lv (.int (nI b) :: .int (nI a) :: st) ws := by
  obtain ⟨p, l, e, R, s, m, args, below, meth, c, Q, A⟩ := x
  obtain ⟨hx, hb, hml, hts, hown, hKS, hA, hR, hnm⟩ := O
  intro H locs ls hP hD hS hl
  exact lv_icmp_eq hx hb hd ht (fun h => kt ((nI_eq h1 h2).mp h) H locs ls hP hD hS hl) (fun h => kf (fun z => h ((nI_eq h1 h2).mpr z)) H locs ls hP hD hS hl)
theorem k_if_eq {x : Cx} {G : Gx} {nL : Nat} {cc : ByteArray} {Ts : List Cond} {y0 : MethodName} {rm : Room} (O : Okx x G nL cc Ts y0 rm) {n1 n2 pc : Nat} {lv : List (Nat × Value)} {st : List Value} {ws : va_W} {a : Int32} {off : Int} (tgt : Nat) (hd : decode cc pc = .ok (.ifCond .eq off, 3)) (ht : (pc : Int) + off = (tgt : Int)) (kt : a = 0 → V x G nL n1 n2 tgt lv st ws) (kf : ¬ a = 0 → V x G nL n1 n2 (pc + 3) lv st ws) : V x G nL n1 n2 pc lv (.int a :: st) ws := by
  obtain ⟨p, l, e, R, s, m, args, below, meth, c, Q, A⟩ := x
  obtain ⟨hx, hb, hml, hts, hown, hKS, hA, hR, hnm⟩ := O
  intro H locs ls hP hD hS hl
  exact lv_if_eq hx hb hd ht (fun h => kt h H locs ls hP hD hS hl) (fun h => kf h H locs ls hP hD hS hl)
theorem nI_z {n : Nat} (h1 : n < 2147483648) : nI n = 0 ↔ n = 0 := nI_eq (b := 0) h1 (by decide)
theorem k_if_eqN {x : Cx} {G : Gx} {nL : Nat} {cc : ByteArray} {Ts : List Cond} {y0 : MethodName} {rm : Room} (O : Okx x G nL cc Ts y0 rm) {n1 n2 pc : Nat} {lv : List (Nat × Value)} {st : List Value} {ws : va_W} {a : Nat} {off : Int} (tgt : Nat) (hd : decode cc pc = .ok (.ifCond .eq off, 3)) (ht : (pc : Int) + off = (tgt : Int)) (h1 : a < 2147483648) (kt : a = 0 → V x G nL n1 n2 tgt lv st ws) (kf : 0 < a → V x G nL n1 n2 (pc + 3) lv st ws) : V x G nL n1 n2 pc lv (.int (nI a) :: st) ws := by
  obtain ⟨p, l, e, R, s, m, args, below, meth, c, Q, A⟩ := x
  obtain ⟨hx, hb, hml, hts, hown, hKS, hA, hR, hnm⟩ := O
  intro H locs ls hP hD hS hl
  exact lv_if_eq hx hb hd ht (fun h => kt ((nI_z h1).mp h) H locs ls hP hD hS hl) (fun h => kf (Nat.pos_of_ne_zero (fun z => h ((nI_z h1).mpr z))) H locs ls hP hD hS hl)
theorem k_icmp_ne {x : Cx} {G : Gx} {nL : Nat} {cc : ByteArray} {Ts : List Cond} {y0 : MethodName} {rm : Room} (O : Okx x G nL cc Ts y0 rm) {n1 n2 pc : Nat} {lv : List (Nat × Value)} {st : List Value} {ws : va_W} {a b : Int32} {off : Int} (tgt : Nat) (hd : decode cc pc = .ok (.if_icmp .ne off, 3)) (ht : (pc : Int) + off = (tgt : Int)) (kt : ¬ a = b → V x G nL n1 n2 tgt lv st ws) (kf : a = b → V x G nL n1 n2 (pc + 3) lv st ws) : V x G nL n1 n2 pc lv (.int b :: .int a :: st) ws := by
  obtain ⟨p, l, e, R, s, m, args, below, meth, c, Q, A⟩ := x
  obtain ⟨hx, hb, hml, hts, hown, hKS, hA, hR, hnm⟩ := O
  intro H locs ls hP hD hS hl
  exact lv_icmp_ne hx hb hd ht (fun h => kt h H locs ls hP hD hS hl) (fun h => kf h H locs ls hP hD hS hl)
theorem k_icmp_neN {x : Cx} {G : Gx} {nL : Nat} {cc : ByteArray} {Ts : List Cond} {y0 : MethodName} {rm : Room} (O : Okx x G nL cc Ts y0 rm) {n1 n2 pc : Nat} {lv : List (Nat × Value)} {st : List Value} {ws : va_W} {a b : Nat} {off : Int} (tgt : Nat) (hd : decode cc pc = .ok (.if_icmp .ne off, 3)) (ht : (pc : Int) + off = (tgt : Int)) (h1 : a < 2147483648) (h2 : b < 2147483648) (kt : ¬ a = b → V x G nL n1 n2 tgt lv st ws) (kf : a = b → V x G nL n1 n2 (pc + 3) lv st ws) : V x G nL n1 n2 pc lv (.int (nI b) :: .int (nI a) :: st) ws := by
  obtain ⟨p, l, e, R, s, m, args, below, meth, c, Q, A⟩ := x
  obtain ⟨hx, hb, hml, hts, hown, hKS, hA, hR, hnm⟩ := O
  intro H locs ls hP hD hS hl
  exact lv_icmp_ne hx hb hd ht (fun h => kt (fun z => h ((nI_eq h1 h2).mpr z)) H locs ls hP hD hS hl) (fun h => kf ((nI_eq h1 h2).mp h) H locs ls hP hD hS hl)
theorem k_if_ne {x : Cx} {G : Gx} {nL : Nat} {cc : ByteArray} {Ts : List Cond} {y0 : MethodName} {rm : Room} (O : Okx x G nL cc Ts y0 rm) {n1 n2 pc : Nat} {lv : List (Nat × Value)} {st : List Value} {ws : va_W} {a : Int32} {off : Int} (tgt : Nat) (hd : decode cc pc = .ok (.ifCond .ne off, 3)) (ht : (pc : Int) + off = (tgt : Int)) (kt : ¬ a = 0 → V x G nL n1 n2 tgt lv st ws) (kf : a = 0 → V x G nL n1 n2 (pc + 3) lv st ws) : V x G nL n1 n2 pc lv (.int a :: st) ws := by
  obtain ⟨p, l, e, R, s, m, args, below, meth, c, Q, A⟩ := x
  obtain ⟨hx, hb, hml, hts, hown, hKS, hA, hR, hnm⟩ := O
  intro H locs ls hP hD hS hl
  exact lv_if_ne hx hb hd ht (fun h => kt h H locs ls hP hD hS hl) (fun h => kf h H locs ls hP hD hS hl)
theorem k_if_neN {x : Cx} {G : Gx} {nL : Nat} {cc : ByteArray} {Ts : List Cond} {y0 : MethodName} {rm : Room} (O : Okx x G nL cc Ts y0 rm) {n1 n2 pc : Nat} {lv : List (Nat × Value)} {st : List Value} {ws : va_W} {a : Nat} {off : Int} (tgt : Nat) (hd : decode cc pc = .ok (.ifCond .ne off, 3)) (ht : (pc : Int) + off = (tgt : Int)) (h1 : a < 2147483648) (kt : 0 < a → V x G nL n1 n2 tgt lv st ws) (kf : a = 0 → V x G nL n1 n2 (pc + 3) lv st ws) : V x G nL n1 n2 pc lv (.int (nI a) :: st) ws := by
  obtain ⟨p, l, e, R, s, m, args, below, meth, c, Q, A⟩ := x
  obtain ⟨hx, hb, hml, hts, hown, hKS, hA, hR, hnm⟩ := O
  intro H locs ls hP hD hS hl
  exact lv_if_ne hx hb hd ht (fun h => kt (Nat.pos_of_ne_zero (fun z => h ((nI_z h1).mpr z))) H locs ls hP hD hS hl) (fun h => kf ((nI_z h1).mp h) H locs ls hP hD hS hl)
theorem k_icmp_lt {x : Cx} {G : Gx} {nL : Nat} {cc : ByteArray} {Ts : List Cond} {y0 : MethodName} {rm : Room} (O : Okx x G nL cc Ts y0 rm) {n1 n2 pc : Nat} {lv : List (Nat × Value)} {st : List Value} {ws : va_W} {a b : Int32} {off : Int} (tgt : Nat) (hd : decode cc pc = .ok (.if_icmp .lt off, 3)) (ht : (pc : Int) + off = (tgt : Int)) (kt : a.toInt < b.toInt → V x G nL n1 n2 tgt lv st ws) (kf : b.toInt ≤ a.toInt → V x G nL n1 n2 (pc + 3) lv st ws) : V x G nL n1 n2 pc lv (.int b :: .int a :: st) ws := by
  obtain ⟨p, l, e, R, s, m, args, below, meth, c, Q, A⟩ := x
  obtain ⟨hx, hb, hml, hts, hown, hKS, hA, hR, hnm⟩ := O
  intro H locs ls hP hD hS hl
  exact lv_icmp_lt hx hb hd ht (fun h => kt (by first | exact Int32.lt_iff_toInt_lt.mp h | exact Int32.le_iff_toInt_le.mp h) H locs ls hP hD hS hl) (fun h => kf (by first | (rw [Int32.lt_iff_toInt_lt] at h; omega) | (rw [Int32.le_iff_toInt_le] at h; omega)) H locs ls hP hD hS hl)
theorem k_icmp_ltN {x : Cx} {G : Gx} {nL : Nat} {cc : ByteArray} {Ts : List Cond} {y0 : MethodName} {rm : Room} (O : Okx x G nL cc Ts y0 rm) {n1 n2 pc : Nat} {lv : List (Nat × Value)} {st : List Value} {ws : va_W} {a b : Nat} {off : Int} (tgt : Nat) (hd : decode cc pc = .ok (.if_icmp .lt off, 3)) (ht : (pc : Int) + off = (tgt : Int)) (h1 : a < 2147483648) (h2 : b < 2147483648) (kt : a < b → V x G nL n1 n2 tgt lv st ws) (kf : b ≤ a → V x G nL n1 n2 (pc + 3) lv st ws) : V x G nL n1 n2 pc lv (.int (nI b) :: .int (nI a) :: st) ws := by
  obtain ⟨p, l, e, R, s, m, args, below, meth, c, Q, A⟩ := x
  obtain ⟨hx, hb, hml, hts, hown, hKS, hA, hR, hnm⟩ := O
  intro H locs ls hP hD hS hl
  exact lv_icmp_lt hx hb hd ht (fun h => kt (by rw [Int32.lt_iff_toInt_lt, nI_toInt h1, nI_toInt h2] at h; omega) H locs ls hP hD hS hl) (fun h => kf (by rw [Int32.lt_iff_toInt_lt, nI_toInt h1, nI_toInt h2] at h; omega) H locs ls hP hD hS hl)
theorem k_if_lt {x : Cx} {G : Gx} {nL : Nat} {cc : ByteArray} {Ts : List Cond} {y0 : MethodName} {rm : Room} (O : Okx x G nL cc Ts y0 rm) {n1 n2 pc : Nat} {lv : List (Nat × Value)} {st : List Value} {ws : va_W} {a : Int32} {off : Int} (tgt : Nat) (hd : decode cc pc = .ok (.ifCond .lt off, 3)) (ht : (pc : Int) + off = (tgt : Int)) (kt : a.toInt < 0 → V x G nL n1 n2 tgt lv st ws) (kf : 0 ≤ a.toInt → V x G nL n1 n2 (pc + 3) lv st ws) : V x G nL n1 n2 pc lv (.int a :: st) ws := by
  obtain ⟨p, l, e, R, s, m, args, below, meth, c, Q, A⟩ := x
  obtain ⟨hx, hb, hml, hts, hown, hKS, hA, hR, hnm⟩ := O
  intro H locs ls hP hD hS hl
  have z0 : (0 : Int32).toInt = 0 := rfl
  exact lv_if_lt hx hb hd ht (fun h => kt (by first | (rw [Int32.lt_iff_toInt_lt] at h; omega) | (rw [Int32.le_iff_toInt_le] at h; omega)) H locs ls hP hD hS hl) (fun h => kf (by first | (rw [Int32.lt_iff_toInt_lt] at h; omega) | (rw [Int32.le_iff_toInt_le] at h; omega)) H locs ls hP hD hS hl)
theorem k_icmp_ge {x : Cx} {G : Gx} {nL : Nat} {cc : ByteArray} {Ts : List Cond} {y0 : MethodName} {rm : Room} (O : Okx x G nL cc Ts y0 rm) {n1 n2 pc : Nat} {lv : List (Nat × Value)} {st : List Value} {ws : va_W} {a b : Int32} {off : Int} (tgt : Nat) (hd : decode cc pc = .ok (.if_icmp .ge off, 3)) (ht : (pc : Int) + off = (tgt : Int)) (kt : b.toInt ≤ a.toInt → V x G nL n1 n2 tgt lv st ws) (kf : a.toInt < b.toInt → V x G nL n1 n2 (pc + 3) lv st ws) : V x G nL n1 n2 pc lv (.int b :: .int a :: st) ws := by
  obtain ⟨p, l, e, R, s, m, args, below, meth, c, Q, A⟩ := x
  obtain ⟨hx, hb, hml, hts, hown, hKS, hA, hR, hnm⟩ := O
  intro H locs ls hP hD hS hl
  exact lv_icmp_ge hx hb hd ht (fun h => kt (by first | exact Int32.lt_iff_toInt_lt.mp h | exact Int32.le_iff_toInt_le.mp h) H locs ls hP hD hS hl) (fun h => kf (by first | (rw [Int32.lt_iff_toInt_lt] at h; omega) | (rw [Int32.le_iff_toInt_le] at h; omega)) H locs ls hP hD hS hl)
theorem k_icmp_geN {x : Cx} {G : Gx} {nL : Nat} {cc : ByteArray} {Ts : List Cond} {y0 : MethodName} {rm : Room} (O : Okx x G nL cc Ts y0 rm) {n1 n2 pc : Nat} {lv : List (Nat × Value)} {st : List Value} {ws : va_W} {a b : Nat} {off : Int} (tgt : Nat) (hd : decode cc pc = .ok (.if_icmp .ge off, 3)) (ht : (pc : Int) + off = (tgt : Int)) (h1 : a < 2147483648) (h2 : b < 2147483648) (kt : b ≤ a → V x G nL n1 n2 tgt lv st ws) (kf : a < b → V x G nL n1 n2 (pc + 3) lv st ws) : V x G nL n1 n2 pc lv (.int (nI b) :: .int (nI a) :: st) ws := by
  obtain ⟨p, l, e, R, s, m, args, below, meth, c, Q, A⟩ := x
  obtain ⟨hx, hb, hml, hts, hown, hKS, hA, hR, hnm⟩ := O
  intro H locs ls hP hD hS hl
  exact lv_icmp_ge hx hb hd ht (fun h => kt (by rw [Int32.le_iff_toInt_le, nI_toInt h1, nI_toInt h2] at h; omega) H locs ls hP hD hS hl) (fun h => kf (by rw [Int32.le_iff_toInt_le, nI_toInt h1, nI_toInt h2] at h; omega) H locs ls hP hD hS hl)
theorem k_if_ge {x : Cx} {G : Gx} {nL : Nat} {cc : ByteArray} {Ts : List Cond} {y0 : MethodName} {rm : Room} (O : Okx x G nL cc Ts y0 rm) {n1 n2 pc : Nat} {lv : List (Nat × Value)} {st : List Value} {ws : va_W} {a : Int32} {off : Int} (tgt : Nat) (hd : decode cc pc = .ok (.ifCond .ge off, 3)) (ht : (pc : Int) + off = (tgt : Int)) (kt : 0 ≤ a.toInt → V x G nL n1 n2 tgt lv st ws) (kf : a.toInt < 0 → V x G nL n1 n2 (pc + 3) lv st ws) : V x G nL n1 n2 pc lv (.int a :: st) ws := by
  obtain ⟨p, l, e, R, s, m, args, below, meth, c, Q, A⟩ := x
  obtain ⟨hx, hb, hml, hts, hown, hKS, hA, hR, hnm⟩ := O
  intro H locs ls hP hD hS hl
  have z0 : (0 : Int32).toInt = 0 := rfl
  exact lv_if_ge hx hb hd ht (fun h => kt (by first | (rw [Int32.lt_iff_toInt_lt] at h; omega) | (rw [Int32.le_iff_toInt_le] at h; omega)) H locs ls hP hD hS hl) (fun h => kf (by first | (rw [Int32.lt_iff_toInt_lt] at h; omega) | (rw [Int32.le_iff_toInt_le] at h; omega)) H locs ls hP hD hS hl)
theorem k_icmp_gt {x : Cx} {G : Gx} {nL : Nat} {cc : ByteArray} {Ts : List Cond} {y0 : MethodName} {rm : Room} (O : Okx x G nL cc Ts y0 rm) {n1 n2 pc : Nat} {lv : List (Nat × Value)} {st : List Value} {ws : va_W} {a b : Int32} {off : Int} (tgt : Nat) (hd : decode cc pc = .ok (.if_icmp .gt off, 3)) (ht : (pc : Int) + off = (tgt : Int)) (kt : b.toInt < a.toInt → V x G nL n1 n2 tgt lv st ws) (kf : a.toInt ≤ b.toInt → V x G nL n1 n2 (pc + 3) lv st ws) : V x G nL n1 n2 pc lv (.int b :: .int a :: st) ws := by
  obtain ⟨p, l, e, R, s, m, args, below, meth, c, Q, A⟩ := x
  obtain ⟨hx, hb, hml, hts, hown, hKS, hA, hR, hnm⟩ := O
  intro H locs ls hP hD hS hl
  exact lv_icmp_gt hx hb hd ht (fun h => kt (by first | exact Int32.lt_iff_toInt_lt.mp h | exact Int32.le_iff_toInt_le.mp h) H locs ls hP hD hS hl) (fun h => kf (by first | (rw [Int32.lt_iff_toInt_lt] at h; omega) | (rw [Int32.le_iff_toInt_le] at h; omega)) H locs ls hP hD hS hl)
theorem k_icmp_gtN {x : Cx} {G : Gx} {nL : Nat} {cc : ByteArray} {Ts : List Cond} {y0 : MethodName} {rm : Room} (O : Okx x G nL cc Ts y0 rm) {n1 n2 pc : Nat} {lv : List (Nat × Value)} {st : List Value} {ws : va_W} {a b : Nat} {off : Int} (tgt : Nat) (hd : decode cc pc = .ok (.if_icmp .gt off, 3)) (ht : (pc : Int) + off = (tgt : Int)) (h1 : a < 2147483648) (h2 : b < 2147483648) (kt : b < a → V x G nL n1 n2 tgt lv st ws) (kf : a ≤ b → V x G nL n1 n2 (pc + 3) lv st ws) : V x G nL n1 n2 pc lv (.int (nI b) :: .int (nI a) :: st) ws := by
  obtain ⟨p, l, e, R, s, m, args, below, meth, c, Q, A⟩ := x
  obtain ⟨hx, hb, hml, hts, hown, hKS, hA, hR, hnm⟩ := O
  intro H locs ls hP hD hS hl
  exact lv_icmp_gt hx hb hd ht (fun h => kt (by rw [Int32.lt_iff_toInt_lt, nI_toInt h1, nI_toInt h2] at h; omega) H locs ls hP hD hS hl) (fun h => kf (by rw [Int32.lt_iff_toInt_lt, nI_toInt h1, nI_toInt h2] at h; omega) H locs ls hP hD hS hl)
theorem k_if_gt {x : Cx} {G : Gx} {nL : Nat} {cc : ByteArray} {Ts : List Cond} {y0 : MethodName} {rm : Room} (O : Okx x G nL cc Ts y0 rm) {n1 n2 pc : Nat} {lv : List (Nat × Value)} {st : List Value} {ws : va_W} {a : Int32} {off : Int} (tgt : Nat) (hd : decode cc pc = .ok (.ifCond .gt off, 3)) (ht : (pc : Int) + off = (tgt : Int)) (kt : 0 < a.toInt → V x G nL n1 n2 tgt lv st ws) (kf : a.toInt ≤ 0 → V x G nL n1 n2 (pc + 3) lv st ws) : V x G nL n1 n2 pc lv (.int a :: st) ws := by
  obtain ⟨p, l, e, R, s, m, args, below, meth, c, Q, A⟩ := x
  obtain ⟨hx, hb, hml, hts, hown, hKS, hA, hR, hnm⟩ := O
  intro H locs ls hP hD hS hl
  have z0 : (0 : Int32).toInt = 0 := rfl
  exact lv_if_gt hx hb hd ht (fun h => kt (by first | (rw [Int32.lt_iff_toInt_lt] at h; omega) | (rw [Int32.le_iff_toInt_le] at h; omega)) H locs ls hP hD hS hl) (fun h => kf (by first | (rw [Int32.lt_iff_toInt_lt] at h; omega) | (rw [Int32.le_iff_toInt_le] at h; omega)) H locs ls hP hD hS hl)
theorem k_if_gtN {x : Cx} {G : Gx} {nL : Nat} {cc : ByteArray} {Ts : List Cond} {y0 : MethodName} {rm : Room} (O : Okx x G nL cc Ts y0 rm) {n1 n2 pc : Nat} {lv : List (Nat × Value)} {st : List Value} {ws : va_W} {a : Nat} {off : Int} (tgt : Nat) (hd : decode cc pc = .ok (.ifCond .gt off, 3)) (ht : (pc : Int) + off = (tgt : Int)) (h1 : a < 2147483648) (kt : 0 < a → V x G nL n1 n2 tgt lv st ws) (kf : a = 0 → V x G nL n1 n2 (pc + 3) lv st ws) : V x G nL n1 n2 pc lv (.int (nI a) :: st) ws := by
  obtain ⟨p, l, e, R, s, m, args, below, meth, c, Q, A⟩ := x
  obtain ⟨hx, hb, hml, hts, hown, hKS, hA, hR, hnm⟩ := O
  intro H locs ls hP hD hS hl
  exact lv_if_gt hx hb hd ht (fun h => kt (by rw [Int32.lt_iff_toInt_lt, nI_toInt h1] at h; have z0 : (0 : Int32).toInt = 0 := rfl; omega) H locs ls hP hD hS hl) (fun h => kf (by rw [Int32.lt_iff_toInt_lt, nI_toInt h1] at h; have z0 : (0 : Int32).toInt = 0 := rfl; omega) H locs ls hP hD hS hl)
theorem k_icmp_le {x : Cx} {G : Gx} {nL : Nat} {cc : ByteArray} {Ts : List Cond} {y0 : MethodName} {rm : Room} (O : Okx x G nL cc Ts y0 rm) {n1 n2 pc : Nat} {lv : List (Nat × Value)} {st : List Value} {ws : va_W} {a b : Int32} {off : Int} (tgt : Nat) (hd : decode cc pc = .ok (.if_icmp .le off, 3)) (ht : (pc : Int) + off = (tgt : Int)) (kt : a.toInt ≤ b.toInt → V x G nL n1 n2 tgt lv st ws) (kf : b.toInt < a.toInt → V x G nL n1 n2 (pc + 3) lv st ws) : V x G nL n1 n2 pc lv (.int b :: .int a :: st) ws := by
  obtain ⟨p, l, e, R, s, m, args, below, meth, c, Q, A⟩ := x
  obtain ⟨hx, hb, hml, hts, hown, hKS, hA, hR, hnm⟩ := O
  intro H locs ls hP hD hS hl
  exact lv_icmp_le hx hb hd ht (fun h => kt (by first | exact Int32.lt_iff_toInt_lt.mp h | exact Int32.le_iff_toInt_le.mp h) H locs ls hP hD hS hl) (fun h => kf (by first | (rw [Int32.lt_iff_toInt_lt] at h; omega) | (rw [Int32.le_iff_toInt_le] at h; omega)) H locs ls hP hD hS hl)
theorem k_icmp_leN {x : Cx} {G : Gx} {nL : Nat} {cc : ByteArray} {Ts : List Cond} {y0 : MethodName} {rm : Room} (O : Okx x G nL cc Ts y0 rm) {n1 n2 pc : Nat} {lv : List (Nat × Value)} {st : List Value} {ws : va_W} {a b : Nat} {off : Int} (tgt : Nat) (hd : decode cc pc = .ok (.if_icmp .le off, 3)) (ht : (pc : Int) + off = (tgt : Int)) (h1 : a < 2147483648) (h2 : b < 2147483648) (kt : a ≤ b → V x G nL n1 n2 tgt lv st ws) (kf : b < a → V x G nL n1 n2 (pc + 3) lv st ws) : V x G nL n1 n2 pc lv (.int (nI b) :: .int (nI a) :: st) ws := by
  obtain ⟨p, l, e, R, s, m, args, below, meth, c, Q, A⟩ := x
  obtain ⟨hx, hb, hml, hts, hown, hKS, hA, hR, hnm⟩ := O
  intro H locs ls hP hD hS hl
  exact lv_icmp_le hx hb hd ht (fun h => kt (by rw [Int32.le_iff_toInt_le, nI_toInt h1, nI_toInt h2] at h; omega) H locs ls hP hD hS hl) (fun h => kf (by rw [Int32.le_iff_toInt_le, nI_toInt h1, nI_toInt h2] at h; omega) H locs ls hP hD hS hl)
theorem k_if_le {x : Cx} {G : Gx} {nL : Nat} {cc : ByteArray} {Ts : List Cond} {y0 : MethodName} {rm : Room} (O : Okx x G nL cc Ts y0 rm) {n1 n2 pc : Nat} {lv : List (Nat × Value)} {st : List Value} {ws : va_W} {a : Int32} {off : Int} (tgt : Nat) (hd : decode cc pc = .ok (.ifCond .le off, 3)) (ht : (pc : Int) + off = (tgt : Int)) (kt : a.toInt ≤ 0 → V x G nL n1 n2 tgt lv st ws) (kf : 0 < a.toInt → V x G nL n1 n2 (pc + 3) lv st ws) : V x G nL n1 n2 pc lv (.int a :: st) ws := by
  obtain ⟨p, l, e, R, s, m, args, below, meth, c, Q, A⟩ := x
  obtain ⟨hx, hb, hml, hts, hown, hKS, hA, hR, hnm⟩ := O
  intro H locs ls hP hD hS hl
  have z0 : (0 : Int32).toInt = 0 := rfl
  exact lv_if_le hx hb hd ht (fun h => kt (by first | (rw [Int32.lt_iff_toInt_lt] at h; omega) | (rw [Int32.le_iff_toInt_le] at h; omega)) H locs ls hP hD hS hl) (fun h => kf (by first | (rw [Int32.lt_iff_toInt_lt] at h; omega) | (rw [Int32.le_iff_toInt_le] at h; omega)) H locs ls hP hD hS hl)
theorem k_if_leN {x : Cx} {G : Gx} {nL : Nat} {cc : ByteArray} {Ts : List Cond} {y0 : MethodName} {rm : Room} (O : Okx x G nL cc Ts y0 rm) {n1 n2 pc : Nat} {lv : List (Nat × Value)} {st : List Value} {ws : va_W} {a : Nat} {off : Int} (tgt : Nat) (hd : decode cc pc = .ok (.ifCond .le off, 3)) (ht : (pc : Int) + off = (tgt : Int)) (h1 : a < 2147483648) (kt : a = 0 → V x G nL n1 n2 tgt lv st ws) (kf : 0 < a → V x G nL n1 n2 (pc + 3) lv st ws) : V x G nL n1 n2 pc lv (.int (nI a) :: st) ws := by
  obtain ⟨p, l, e, R, s, m, args, below, meth, c, Q, A⟩ := x
  obtain ⟨hx, hb, hml, hts, hown, hKS, hA, hR, hnm⟩ := O
  intro H locs ls hP hD hS hl
  exact lv_if_le hx hb hd ht (fun h => kt (by rw [Int32.le_iff_toInt_le, nI_toInt h1] at h; have z0 : (0 : Int32).toInt = 0 := rfl; omega) H locs ls hP hD hS hl) (fun h => kf (by rw [Int32.le_iff_toInt_le, nI_toInt h1] at h; have z0 : (0 : Int32).toInt = 0 := rfl; omega) H locs ls hP hD hS hl)
theorem k_if_ltN {x : Cx} {G : Gx} {nL : Nat} {cc : ByteArray} {Ts : List Cond} {y0 : MethodName} {rm : Room} (O : Okx x G nL cc Ts y0 rm) {n1 n2 pc : Nat} {lv : List (Nat × Value)} {st : List Value} {ws : va_W} {a : Nat} {off : Int} (tgt : Nat) (hd : decode cc pc = .ok (.ifCond .lt off, 3)) (ht : (pc : Int) + off = (tgt : Int)) (h1 : a < 2147483648) (g : V x G nL n1 n2 (pc + 3) lv st ws) : V x G nL n1 n2 pc lv (.int (nI a) :: st) ws := by
  obtain ⟨p, l, e, R, s, m, args, below, meth, c, Q, A⟩ := x
  obtain ⟨hx, hb, hml, hts, hown, hKS, hA, hR, hnm⟩ := O
  intro H locs ls hP hD hS hl
  exact lv_if_lt hx hb hd ht (fun h => absurd h (nI_pos h1)) (fun _ => g H locs ls hP hD hS hl)
theorem k_if_geN {x : Cx} {G : Gx} {nL : Nat} {cc : ByteArray} {Ts : List Cond} {y0 : MethodName} {rm : Room} (O : Okx x G nL cc Ts y0 rm) {n1 n2 pc : Nat} {lv : List (Nat × Value)} {st : List Value} {ws : va_W} {a : Nat} {off : Int} (tgt : Nat) (hd : decode cc pc = .ok (.ifCond .ge off, 3)) (ht : (pc : Int) + off = (tgt : Int)) (h1 : a < 2147483648) (g : V x G nL n1 n2 tgt lv st ws) : V x G nL n1 n2 pc lv (.int (nI a) :: st) ws := by
  obtain ⟨p, l, e, R, s, m, args, below, meth, c, Q, A⟩ := x
  obtain ⟨hx, hb, hml, hts, hown, hKS, hA, hR, hnm⟩ := O
  intro H locs ls hP hD hS hl
  exact lv_if_ge hx hb hd ht (fun _ => g H locs ls hP hD hS hl) (fun h => absurd (nI_pos' h1) h)
theorem k_dup2 {x : Cx} {G : Gx} {nL : Nat} {cc : ByteArray} {Ts : List Cond} {y0 : MethodName} {rm : Room} (O : Okx x G nL cc Ts y0 rm) {n1 n2 pc : Nat} {lv : List (Nat × Value)} {st : List Value} {ws : va_W} {u v : Value} (hd : decode cc pc = .ok (.dup2, 1)) (hu : u.category = 1) (hv : v.category = 1) (g : V x G nL n1 n2 (pc + 1) lv (u :: v :: u :: v :: st) ws) : V x G nL n1 n2 pc lv (u :: v :: st) ws := by
  obtain ⟨p, l, e, R, s, m, args, below, meth, c, Q, A⟩ := x
  obtain ⟨hx, hb, hml, hts, hown, hKS, hA, hR, hnm⟩ := O
  intro H locs ls hP hD hS hl
  exact lv_dup2_11 hx hb hd hu hv (g H locs ls hP hD hS hl)
theorem va_P_cell {D : va_G} {cl : List vw_C} {ws : va_W} {H : Heap} {k a : Nat} {cA : ClassId} {n : Nat} {g f : Nat → Int32} (hP : va_P D cl ws H) (he : ws[k]? = some (a, .inl (cA, n, .inl g))) (h : ∀ j, j < n → g j = f j) : va_P D cl (ws.set k (a, .inl (cA, n, .inl f))) H := by
  intro i q hq
  by_cases hi : i = k
  · subst hi
    have hl := (List.getElem?_eq_some_iff.mp he).1
    rw [List.getElem?_set_self hl] at hq
    cases hq
    have h1 := hP i _ he
    show H[a]? = some (vp_cell cA (n, .inl f))
    have h2 : vp_cell cA (n, .inl f) = vp_cell cA (n, .inl g) := by
      show arrV cA n (fun j => .int (f j)) = arrV cA n (fun j => .int (g j))
      unfold arrV
      congr 1
      apply Array.ext
      · simp
      · intro j h3 h4
        have h5 : j < n := by simpa using h3
        simp [h j h5]
    rw [h2]
    exact h1
  · rw [List.getElem?_set_ne (Ne.symm hi)] at hq
    exact hP i q hq
theorem k_cell {x : Cx} {G : Gx} {nL n1 n2 pc : Nat} {lv : List (Nat × Value)} {st : List Value} {ws : va_W} (k : Nat) {a n : Nat} {g0 : Nat → Int32} (f : Nat → Int32) (he : ws[k]? = some (a, cI G n g0)) (h : ∀ j, j < n → g0 j = f j) (ws' : va_W) (hws : ws.set k (a, cI G n f) = ws') (g : V x G nL n1 n2 pc lv st ws') : V x G nL n1 n2 pc lv st ws := by
  subst hws
  refine k_world _ (fun H hP => va_P_cell hP he h) ?_ g
  rw [List.map_set]
  apply List.ext_getElem?
  intro i
  by_cases hi : k = i
  · subst hi
    have h0 : (ws.map (fun q => q.1))[k]? = some a := by rw [List.getElem?_map, he]; rfl
    have hl := (List.getElem?_eq_some_iff.mp h0).1
    rw [List.getElem?_set_self hl, h0]
  · rw [List.getElem?_set_ne hi]
def bI (b : Bool) : Int32 := if b then nI 1 else nI 0
theorem k_if_eqB {x : Cx} {G : Gx} {nL : Nat} {cc : ByteArray} {Ts : List Cond} {y0 : MethodName} {rm : Room} (O : Okx x G nL cc Ts y0 rm) {n1 n2 pc : Nat} {lv : List (Nat × Value)} {st : List Value} {ws : va_W} {b : Bool} {off : Int} (tgt : Nat) (hd : decode cc pc = .ok (.ifCond .eq off, 3)) (ht : (pc : Int) + off = (tgt : Int)) (kt : b = false → V x G nL n1 n2 tgt lv st ws) (kf : b = true → V x G nL n1 n2 (pc + 3) lv st ws) : V x G nL n1 n2 pc lv (.int (bI b) :: st) ws := by
  obtain ⟨p, l, e, R, s, m, args, below, meth, c, Q, A⟩ := x
  obtain ⟨hx, hb, hml, hts, hown, hKS, hA, hR, hnm⟩ := O
  intro H locs ls hP hD hS hl
  exact lv_if_eq hx hb hd ht (fun h => kt (by cases b; rfl; exact absurd h (by decide)) H locs ls hP hD hS hl) (fun h => kf (by cases b; exact absurd rfl h; rfl) H locs ls hP hD hS hl)
theorem k_if_neB {x : Cx} {G : Gx} {nL : Nat} {cc : ByteArray} {Ts : List Cond} {y0 : MethodName} {rm : Room} (O : Okx x G nL cc Ts y0 rm) {n1 n2 pc : Nat} {lv : List (Nat × Value)} {st : List Value} {ws : va_W} {b : Bool} {off : Int} (tgt : Nat) (hd : decode cc pc = .ok (.ifCond .ne off, 3)) (ht : (pc : Int) + off = (tgt : Int)) (kt : b = true → V x G nL n1 n2 tgt lv st ws) (kf : b = false → V x G nL n1 n2 (pc + 3) lv st ws) : V x G nL n1 n2 pc lv (.int (bI b) :: st) ws := by
  obtain ⟨p, l, e, R, s, m, args, below, meth, c, Q, A⟩ := x
  obtain ⟨hx, hb, hml, hts, hown, hKS, hA, hR, hnm⟩ := O
  intro H locs ls hP hD hS hl
  exact lv_if_ne hx hb hd ht (fun h => kt (by cases b; exact absurd rfl h; rfl) H locs ls hP hD hS hl) (fun h => kf (by cases b; rfl; exact absurd h (by decide)) H locs ls hP hD hS hl)
theorem k_ifnonnull {x : Cx} {G : Gx} {nL : Nat} {cc : ByteArray} {Ts : List Cond} {y0 : MethodName} {rm : Room} (O : Okx x G nL cc Ts y0 rm) {n1 n2 pc : Nat} {lv : List (Nat × Value)} {st : List Value} {ws : va_W} {a : Nat} {off : Int} (tgt : Nat) (hd : decode cc pc = .ok (.ifnonnull off, 3)) (ht : (pc : Int) + off = (tgt : Int)) (g : V x G nL n1 n2 tgt lv st ws) : V x G nL n1 n2 pc lv (.ref a :: st) ws := by
  obtain ⟨p, l, e, R, s, m, args, below, meth, c, Q, A⟩ := x
  obtain ⟨hx, hb, hml, hts, hown, hKS, hA, hR, hnm⟩ := O
  intro H locs ls hP hD hS hl
  exact lv_ifnonnull hx hb hd ht (g H locs ls hP hD hS hl)
theorem k_ifnonnullN {x : Cx} {G : Gx} {nL : Nat} {cc : ByteArray} {Ts : List Cond} {y0 : MethodName} {rm : Room} (O : Okx x G nL cc Ts y0 rm) {n1 n2 pc : Nat} {lv : List (Nat × Value)} {st : List Value} {ws : va_W} {off : Int} (hd : decode cc pc = .ok (.ifnonnull off, 3)) (g : V x G nL n1 n2 (pc + 3) lv st ws) : V x G nL n1 n2 pc lv (.null :: st) ws := by
  obtain ⟨p, l, e, R, s, m, args, below, meth, c, Q, A⟩ := x
  obtain ⟨hx, hb, hml, hts, hown, hKS, hA, hR, hnm⟩ := O
  intro H locs ls hP hD hS hl
  exact lv_ifnonnullN hx hb hd (g H locs ls hP hD hS hl)
theorem k_tableIn {x : Cx} {G : Gx} {nL : Nat} {cc : ByteArray} {Ts : List Cond} {y0 : MethodName} {rm : Room} (O : Okx x G nL cc Ts y0 rm) {n1 n2 pc : Nat} {lv : List (Nat × Value)} {st : List Value} {ws : va_W} {dflt lo hi : Int} {offs : Array Int} {len : Nat} {v : Int32} {off : Int} (tgt : Nat) (hd : decode cc pc = .ok (.tableswitch dflt lo hi offs, len)) (h1 : ¬ v.toInt < lo) (h2 : ¬ hi < v.toInt) (ho : offs[(v.toInt - lo).toNat]? = some off) (ht : (pc : Int) + off = (tgt : Int)) (g : V x G nL n1 n2 tgt lv st ws) : V x G nL n1 n2 pc lv (.int v :: st) ws := by
  obtain ⟨p, l, e, R, s, m, args, below, meth, c, Q, A⟩ := x
  obtain ⟨hx, hb, hml, hts, hown, hKS, hA, hR, hnm⟩ := O
  intro H locs ls hP hD hS hl
  exact lv_tableIn hx hb hd h1 h2 ho ht (g H locs ls hP hD hS hl)
theorem k_tableOut {x : Cx} {G : Gx} {nL : Nat} {cc : ByteArray} {Ts : List Cond} {y0 : MethodName} {rm : Room} (O : Okx x G nL cc Ts y0 rm) {n1 n2 pc : Nat} {lv : List (Nat × Value)} {st : List Value} {ws : va_W} {dflt lo hi : Int} {offs : Array Int} {len : Nat} {v : Int32} (tgt : Nat) (hd : decode cc pc = .ok (.tableswitch dflt lo hi offs, len)) (h : v.toInt < lo ∨ hi < v.toInt) (ht : (pc : Int) + dflt = (tgt : Int)) (g : V x G nL n1 n2 tgt lv st ws) : V x G nL n1 n2 pc lv (.int v :: st) ws := by
  obtain ⟨p, l, e, R, s, m, args, below, meth, c, Q, A⟩ := x
  obtain ⟨hx, hb, hml, hts, hown, hKS, hA, hR, hnm⟩ := O
  intro H locs ls hP hD hS hl
  exact lv_tableOut hx hb hd h ht (g H locs ls hP hD hS hl)
theorem k_get {x : Cx} {G : Gx} {nL : Nat} {cc : ByteArray} {Ts : List Cond} {y0 : MethodName} {rm : Room} (O : Okx x G nL cc Ts y0 rm) {n1 n2 pc : Nat} {lv : List (Nat × Value)} {st : List Value} {ws : va_W} {C : String} {T : u_T} {N ci ix : Nat} {a : Nat} (q0 : Nat) {fs : List Value} (he : ws[q0]? = some (a, cO ci fs)) (hc : vwCl[ci]? = some (C, T, N)) (hin : ∀ w ∈ u_ws C T N, w ∈ Ts) (k : Nat) (hk : Nat.blt k N = true) (hlink : Cond.fieldLink y0.cls ix C (T k).2.1 (T k).2.2.1 ∈ Ts) (hsame : (T k).1 = C) {v : Value} (hv : fs[k]? = some v) (hd : decode cc pc = .ok (.getfield ix, 3)) (g : V x G nL n1 n2 (pc + 3) lv (v :: st) ws) : V x G nL n1 n2 pc lv (.ref a :: st) ws := by
  obtain ⟨p, l, e, R, s, m, args, below, meth, c, Q, A⟩ := x
  obtain ⟨hx, hb, hml, hts, hown, hKS, hA, hR, hnm⟩ := O
  intro H locs ls hP hD hS hl
  exact va_get hx hb hts hin hown hKS.1 hP q0 he hc k (Nat.le_of_ble_eq_true hk) (hts _ hlink) (fun _ h9 => by rw [hsame] at h9; exact h9) hv hd (g H locs ls hP hD hS hl)
theorem k_put {x : Cx} {G : Gx} {nL : Nat} {cc : ByteArray} {Ts : List Cond} {y0 : MethodName} {rm : Room} (O : Okx x G nL cc Ts y0 rm) {n1 n2 pc : Nat} {lv : List (Nat × Value)} {st : List Value} {ws : va_W} {C : String} {T : u_T} {N ci ix : Nat} {a : Nat} (q0 : Nat) {fs : List Value} (he : ws[q0]? = some (a, cO ci fs)) (hc : vwCl[ci]? = some (C, T, N)) (hin : ∀ w ∈ u_ws C T N, w ∈ Ts) (k : Nat) (hk : Nat.blt k N = true) (hlink : Cond.fieldLink y0.cls ix C (T k).2.1 (T k).2.2.1 ∈ Ts) (hsame : (T k).1 = C) (ty0 : Nat → FieldType) (hty : ∀ k, k < N → parseFieldDescriptor (T k).2.2.1 = some (ty0 k)) (hnames : ∀ a, a < N → ∀ b, b < N → a ≠ b → (T a).2.1 ≠ (T b).2.1) (hfin : (T k).2.2.2 = false)  {v : Value} (hn : narrow (ty0 k) v = v) (hfit : fits (ty0 k) v = true) (hlen : Nat.blt k fs.length = true) (fs' : List Value) (hfs : fs.set k v = fs') (ws' : va_W) (hws : ws.set q0 (a, cO ci fs') = ws') (hd : decode cc pc = .ok (.putfield ix, 3)) (g : V x G nL n1 n2 (pc + 3) lv st ws') : V x G nL n1 n2 pc lv (v :: .ref a :: st) ws := by
  obtain ⟨p, l, e, R, s, m, args, below, meth, c, Q, A⟩ := x
  obtain ⟨hx, hb, hml, hts, hown, hKS, hA, hR, hnm⟩ := O
  intro H locs ls hP hD hS hl
  subst hws
  subst hfs
  exact va_put hx hb hts hin ty0 hty hnames hown hKS.1 hP hD hS q0 he hc k (Nat.le_of_ble_eq_true hk) (hts _ hlink) (fun _ h9 => by rw [hsame] at h9; exact h9) hfin (hty k (Nat.le_of_ble_eq_true hk)) hn hfit (Nat.le_of_ble_eq_true hlen) hd (fun H locs hP hD hS => g H locs ls hP hD hS hl)
theorem k_putF {x : Cx} {G : Gx} {nL : Nat} {cc : ByteArray} {Ts : List Cond} {y0 : MethodName} {rm : Room} (O : Okx x G nL cc Ts y0 rm) {n1 n2 pc : Nat} {lv : List (Nat × Value)} {st : List Value} {ws : va_W} {C : String} {T : u_T} {N ci ix : Nat} {a : Nat} (q0 : Nat) {fs : List Value} (he : ws[q0]? = some (a, cO ci fs)) (hc : vwCl[ci]? = some (C, T, N)) (hin : ∀ w ∈ u_ws C T N, w ∈ Ts) (k : Nat) (hk : Nat.blt k N = true) (hlink : Cond.fieldLink y0.cls ix C (T k).2.1 (T k).2.2.1 ∈ Ts) (hsame : (T k).1 = C) (ty0 : Nat → FieldType) (hty : ∀ k, k < N → parseFieldDescriptor (T k).2.2.1 = some (ty0 k)) (hnames : ∀ a, a < N → ∀ b, b < N → a ≠ b → (T a).2.1 ≠ (T b).2.1) (hfin : (T k).2.2.2 = true) (hini : y0.name = "<init>") (hdecl : (T k).1 = y0.cls) {v : Value} (hn : narrow (ty0 k) v = v) (hfit : fits (ty0 k) v = true) (hlen : Nat.blt k fs.length = true) (fs' : List Value) (hfs : fs.set k v = fs') (ws' : va_W) (hws : ws.set q0 (a, cO ci fs') = ws') (hd : decode cc pc = .ok (.putfield ix, 3)) (g : V x G nL n1 n2 (pc + 3) lv st ws') : V x G nL n1 n2 pc lv (v :: .ref a :: st) ws := by
  obtain ⟨p, l, e, R, s, m, args, below, meth, c, Q, A⟩ := x
  obtain ⟨hx, hb, hml, hts, hown, hKS, hA, hR, hnm⟩ := O
  intro H locs ls hP hD hS hl
  subst hws
  subst hfs
  exact va_putF hx hb hts hin ty0 hty hnames hown hKS.1 hP hD hS q0 he hc k (Nat.le_of_ble_eq_true hk) (hts _ hlink) (fun _ h9 => by rw [hsame] at h9; exact h9) hfin (hnm.trans hini) hdecl (hty k (Nat.le_of_ble_eq_true hk)) hn hfit (Nat.le_of_ble_eq_true hlen) hd (fun H locs hP hD hS => g H locs ls hP hD hS hl)
theorem k_iald {x : Cx} {G : Gx} {nL : Nat} {cc : ByteArray} {Ts : List Cond} {y0 : MethodName} {rm : Room} (O : Okx x G nL cc Ts y0 rm) {n1 n2 pc : Nat} {lv : List (Nat × Value)} {st : List Value} {ws : va_W} {a n : Nat} {f : Nat → Int32} (q0 : Nat) (he : ws[q0]? = some (a, cI G n f)) {i : Nat} (hi : i < n) (hn : n < 2147483648) (hd : decode cc pc = .ok (.iaload, 1)) (g : V x G nL n1 n2 (pc + 1) lv (.int (f i) :: st) ws) : V x G nL n1 n2 pc lv (.int (nI i) :: .ref a :: st) ws := by
  obtain ⟨p, l, e, R, s, m, args, below, meth, c, Q, A⟩ := x
  obtain ⟨hx, hb, hml, hts, hown, hKS, hA, hR, hnm⟩ := O
  intro H locs ls hP hD hS hl
  exact va_iald hx hb hKS.1 hP q0 0 he rfl (vp_in_nI hi hn) hd (by rw [nI_clamp (Nat.lt_trans hi hn)]; exact g H locs ls hP hD hS hl)
theorem k_iast {x : Cx} {G : Gx} {nL : Nat} {cc : ByteArray} {Ts : List Cond} {y0 : MethodName} {rm : Room} (O : Okx x G nL cc Ts y0 rm) {n1 n2 pc : Nat} {lv : List (Nat × Value)} {st : List Value} {ws : va_W} {a n : Nat} {f : Nat → Int32} (q0 : Nat) (he : ws[q0]? = some (a, cI G n f)) {i : Nat} {v : Int32} (hi : i < n) (hn : n < 2147483648) (ws' : va_W) (hws : ws.set q0 (a, cI G n (upd f i v)) = ws') (hd : decode cc pc = .ok (.iastore, 1)) (g : V x G nL n1 n2 (pc + 1) lv st ws') : V x G nL n1 n2 pc lv (.int v :: .int (nI i) :: .ref a :: st) ws := by
  obtain ⟨p, l, e, R, s, m, args, below, meth, c, Q, A⟩ := x
  obtain ⟨hx, hb, hml, hts, hown, hKS, hA, hR, hnm⟩ := O
  intro H locs ls hP hD hS hl
  subst hws
  refine va_iast hx hb hKS.1 hP hD hS q0 0 he rfl (vp_in_nI hi hn) hd (fun H locs hP hD hS => ?_)
  rw [nI_clamp (Nat.lt_trans hi hn)] at hP hD
  exact g H locs ls hP hD hS hl
theorem k_zald {x : Cx} {G : Gx} {nL : Nat} {cc : ByteArray} {Ts : List Cond} {y0 : MethodName} {rm : Room} (O : Okx x G nL cc Ts y0 rm) {n1 n2 pc : Nat} {lv : List (Nat × Value)} {st : List Value} {ws : va_W} {a n : Nat} {f : Nat → Int32} (q0 : Nat) (he : ws[q0]? = some (a, cZ G n f)) {i : Nat} (hi : i < n) (hn : n < 2147483648) (hd : decode cc pc = .ok (.baload, 1)) (g : V x G nL n1 n2 (pc + 1) lv (.int (f i) :: st) ws) : V x G nL n1 n2 pc lv (.int (nI i) :: .ref a :: st) ws := by
  obtain ⟨p, l, e, R, s, m, args, below, meth, c, Q, A⟩ := x
  obtain ⟨hx, hb, hml, hts, hown, hKS, hA, hR, hnm⟩ := O
  intro H locs ls hP hD hS hl
  exact va_zald hx hb hKS.1 hP q0 1 he rfl (vp_in_nI hi hn) hd (by rw [nI_clamp (Nat.lt_trans hi hn)]; exact g H locs ls hP hD hS hl)
theorem k_alen {x : Cx} {G : Gx} {nL : Nat} {cc : ByteArray} {Ts : List Cond} {y0 : MethodName} {rm : Room} (O : Okx x G nL cc Ts y0 rm) {n1 n2 pc : Nat} {lv : List (Nat × Value)} {st : List Value} {ws : va_W} {a n : Nat} {ci : ClassId} {q : (Nat → Int32) ⊕ (Nat → Int64) ⊕ (Nat → UInt32) ⊕ (Nat → UInt64) ⊕ (Nat → Option Nat)} (q0 t0 : Nat) (he : ws[q0]? = some (a, .inl (ci, (n, q)))) {ty : FieldType} (ht : (tyL G)[t0]? = some (ci, ty)) (hd : decode cc pc = .ok (.arraylength, 1)) (g : V x G nL n1 n2 (pc + 1) lv (.int (nI n) :: st) ws) : V x G nL n1 n2 pc lv (.ref a :: st) ws := by
  obtain ⟨p, l, e, R, s, m, args, below, meth, c, Q, A⟩ := x
  obtain ⟨hx, hb, hml, hts, hown, hKS, hA, hR, hnm⟩ := O
  intro H locs ls hP hD hS hl
  exact va_alen hx hb hKS.1 hP q0 t0 he ht rfl hd (g H locs ls hP hD hS hl)
theorem k_aald {x : Cx} {G : Gx} {nL : Nat} {cc : ByteArray} {Ts : List Cond} {y0 : MethodName} {rm : Room} (O : Okx x G nL cc Ts y0 rm) {n1 n2 pc : Nat} {lv : List (Nat × Value)} {st : List Value} {ws : va_W} {a n : Nat} {f : Nat → Option Nat} (q0 : Nat) (he : ws[q0]? = some (a, cQ G n f)) {i : Nat} (hi : i < n) (hn : n < 2147483648) (hd : decode cc pc = .ok (.aaload, 1)) (g : V x G nL n1 n2 (pc + 1) lv (va_rf (f i) :: st) ws) : V x G nL n1 n2 pc lv (.int (nI i) :: .ref a :: st) ws := by
  obtain ⟨p, l, e, R, s, m, args, below, meth, c, Q, A⟩ := x
  obtain ⟨hx, hb, hml, hts, hown, hKS, hA, hR, hnm⟩ := O
  intro H locs ls hP hD hS hl
  exact va_aldq hx hb hKS.1 hP q0 2 he rfl (vp_in_nI hi hn) hd (by rw [nI_clamp (Nat.lt_trans hi hn)]; exact g H locs ls hP hD hS hl)
theorem k_aast {x : Cx} {G : Gx} {nL : Nat} {cc : ByteArray} {Ts : List Cond} {y0 : MethodName} {rm : Room} (O : Okx x G nL cc Ts y0 rm) {n1 n2 pc : Nat} {lv : List (Nat × Value)} {st : List Value} {ws : va_W} {a n v : Nat} {f : Nat → Option Nat} (q0 qk : Nat) (he : ws[q0]? = some (a, cQ G n f)) {vs : List Value} (hv : ws[qk]? = some (v, cO 1 vs)) {i : Nat} (hi : i < n) (hn : n < 2147483648) (ws' : va_W) (hws : ws.set q0 (a, cQ G n (va_up f i (some v))) = ws') (hd : decode cc pc = .ok (.aastore, 1)) (g : V x G nL n1 n2 (pc + 1) lv st ws') : V x G nL n1 n2 pc lv (.ref v :: .int (nI i) :: .ref a :: st) ws := by
  obtain ⟨p, l, e, R, s, m, args, below, meth, c, Q, A⟩ := x
  obtain ⟨hx, hb, hml, hts, hown, hKS, hA, hR, hnm⟩ := O
  intro H locs ls hP hD hS hl
  subst hws
  refine va_astq hx hb hKS.1 hP hD hS q0 2 qk 1 (r := (RX1, TX1, 11)) he rfl hv rfl (vp_in_nI hi hn) hd (fun H locs hP hD hS => ?_)
  rw [nI_clamp (Nat.lt_trans hi hn)] at hP hD
  exact g H locs ls hP hD hS hl
theorem k_newa {x : Cx} {G : Gx} {nL : Nat} {cc : ByteArray} {Ts : List Cond} {y0 : MethodName} {rm : Room} (O : Okx x G nL cc Ts y0 rm) {n1 n2 pc : Nat} {lv : List (Nat × Value)} {st : List Value} {ws : va_W} {n : Nat} (hd : decode cc pc = .ok (.newarray .int, 2)) (harr : Cond.arrayClass .int ∈ Ts) (hn : Nat.ble n 1000 = true) (hf : n1 + 1 ≤ rm.cells ∧ n2 + n ≤ rm.slots) (g : ∀ q : Nat, V x G nL (n1 + 1) (n2 + n) (pc + 2) lv (.ref q :: st) (ws ++ [(q, cI G n (fun _ => nI 0))])) : V x G nL n1 n2 pc lv (.int (nI n) :: st) ws := by
  obtain ⟨p, l, e, R, s, m, args, below, meth, c, Q, A⟩ := x
  obtain ⟨hx, hb, hml, hts, hown, hKS, hA, hR, hnm⟩ := O
  intro H locs ls hP hD hS hl
  subst hR
  have hn2 := Nat.le_of_ble_eq_true hn
  refine va_newa (atype := .int) (ty := .int) (N' := n) (a0 := (n, .inl (fun _ => nI 0))) hx hb (hts _ harr) rfl hKS.1 hP hD hS hA (fun cA => rfl) (nI_pos (by omega)) (nI_clamp (by omega)) (by show n * 4 ≤ _; omega) hf.1 hf.2 hd (fun q cA H1 hK1 hP1 hD1 hS1 => ?_)
  have e1 : s.vm.findClass _ = some cA := (hK1.2 3 (cA, .int) rfl).2
  have e2 : s.vm.findClass _ = some G.2.1 := (hKS.1.2 0 (G.2.1, .int) rfl).2
  have e3 : cA = G.2.1 := Option.some.inj (e1.symm.trans e2)
  subst e3
  exact g q H1 locs ls hP1 hD1 hS1 hl
theorem k_newz {x : Cx} {G : Gx} {nL : Nat} {cc : ByteArray} {Ts : List Cond} {y0 : MethodName} {rm : Room} (O : Okx x G nL cc Ts y0 rm) {n1 n2 pc : Nat} {lv : List (Nat × Value)} {st : List Value} {ws : va_W} {n : Nat} (hd : decode cc pc = .ok (.newarray .boolean, 2)) (harr : Cond.arrayClass .boolean ∈ Ts) (hn : Nat.ble n 1000 = true) (hf : n1 + 1 ≤ rm.cells ∧ n2 + n ≤ rm.slots) (g : ∀ q : Nat, V x G nL (n1 + 1) (n2 + n) (pc + 2) lv (.ref q :: st) (ws ++ [(q, cZ G n (fun _ => nI 0))])) : V x G nL n1 n2 pc lv (.int (nI n) :: st) ws := by
  obtain ⟨p, l, e, R, s, m, args, below, meth, c, Q, A⟩ := x
  obtain ⟨hx, hb, hml, hts, hown, hKS, hA, hR, hnm⟩ := O
  intro H locs ls hP hD hS hl
  subst hR
  have hn2 := Nat.le_of_ble_eq_true hn
  refine va_newa (atype := .boolean) (ty := .boolean) (N' := n) (a0 := (n, .inl (fun _ => nI 0))) hx hb (hts _ harr) rfl hKS.1 hP hD hS hA (fun cA => rfl) (nI_pos (by omega)) (nI_clamp (by omega)) (by show n * 1 ≤ _; omega) hf.1 hf.2 hd (fun q cA H1 hK1 hP1 hD1 hS1 => ?_)
  have e1 : s.vm.findClass _ = some cA := (hK1.2 3 (cA, .boolean) rfl).2
  have e2 : s.vm.findClass _ = some G.2.2.1 := (hKS.1.2 1 (G.2.2.1, .boolean) rfl).2
  have e3 : cA = G.2.2.1 := Option.some.inj (e1.symm.trans e2)
  subst e3
  exact g q H1 locs ls hP1 hD1 hS1 hl
theorem k_newq {x : Cx} {G : Gx} {nL : Nat} {cc : ByteArray} {Ts : List Cond} {y0 : MethodName} {rm : Room} (O : Okx x G nL cc Ts y0 rm) {n1 n2 pc : Nat} {lv : List (Nat × Value)} {st : List Value} {ws : va_W} {n ix : Nat} (hd : decode cc pc = .ok (.anewarray ix, 3)) (hlink : Cond.classLink y0.cls ix "LieBridges$Delta" ∈ Ts) (hn : Nat.ble n 1000 = true) (hf : n1 + 1 ≤ rm.cells ∧ n2 + n ≤ rm.slots) (g : ∀ q : Nat, V x G nL (n1 + 1) (n2 + n) (pc + 3) lv (.ref q :: st) (ws ++ [(q, cQ G n (fun _ => none))])) : V x G nL n1 n2 pc lv (.int (nI n) :: st) ws := by
  obtain ⟨p, l, e, R, s, m, args, below, meth, c, Q, A⟩ := x
  obtain ⟨hx, hb, hml, hts, hown, hKS, hA, hR, hnm⟩ := O
  intro H locs ls hP hD hS hl
  subst hR
  have hn2 := Nat.le_of_ble_eq_true hn
  refine va_newq (C := "LieBridges$Delta") (N' := n) hx hb hown (hts _ hlink) hKS.2.2 hKS.1 hP hD hS hA (nI_pos (by omega)) (nI_clamp (by omega)) (by omega) hf.1 hf.2 hd (fun q cA H1 hK1 hP1 hD1 hS1 => ?_)
  obtain ⟨_, _, _, _, _, e1⟩ := (hK1.2 3 (cA, .object "LieBridges$Delta") rfl).2
  obtain ⟨_, _, _, _, _, e2⟩ := (hKS.1.2 2 (G.2.2.2, .object "LieBridges$Delta") rfl).2
  have e3 : cA = G.2.2.2 := Option.some.inj (e1.symm.trans e2)
  subst e3
  exact g q H1 locs ls hP1 hD1 hS1 hl
theorem k_new {x : Cx} {G : Gx} {nL : Nat} {cc : ByteArray} {Ts : List Cond} {y0 : MethodName} {rm : Room} (O : Okx x G nL cc Ts y0 rm) {n1 n2 pc : Nat} {lv : List (Nat × Value)} {st : List Value} {ws : va_W} {C : String} {T : u_T} {N ci ix : Nat} (hc : vwCl[ci]? = some (C, T, N)) (hin : ∀ w ∈ u_ws C T N, w ∈ Ts) (ty0 : Nat → FieldType) (hty : ∀ k, k < N → parseFieldDescriptor (T k).2.2.1 = some (ty0 k)) (hcl : Cond.classLink y0.cls ix C ∈ Ts) (hinst : Cond.instantiable C N ∈ Ts) (hini : Cond.initialized C ∈ Ts) (fs : List Value) (hfs : ∀ j, j < N → defaultValue (ty0 j) = vp_V fs j) (hf : n1 + 1 ≤ rm.cells ∧ n2 + N ≤ rm.slots) (hd : decode cc pc = .ok (.new ix, 3)) (g : ∀ q : Nat, V x G nL (n1 + 1) (n2 + N) (pc + 3) lv (.ref q :: st) (ws ++ [(q, cO ci fs)])) : V x G nL n1 n2 pc lv st ws := by
  obtain ⟨p, l, e, R, s, m, args, below, meth, c, Q, A⟩ := x
  obtain ⟨hx, hb, hml, hts, hown, hKS, hA, hR, hnm⟩ := O
  intro H locs ls hP hD hS hl
  subst hR
  exact va_new hx hb hts hin ty0 hty hown (hts _ hcl) (hts _ hinst) (hts _ hini) hKS.1 hP hD hS hA hc hfs hf.1 hf.2 hd (fun q H1 hP1 hD1 hS1 => g q H1 locs ls hP1 hD1 hS1 hl)
theorem k_objInit {x : Cx} {G : Gx} {nL : Nat} {cc : ByteArray} {Ts : List Cond} {y0 : MethodName} {rm : Room} (O : Okx x G nL cc Ts y0 rm) {n1 n2 pc : Nat} {lv : List (Nat × Value)} {st : List Value} {ws : va_W} {a ix : Nat} (hlink : Cond.methodLink y0.cls ix objectInit ∈ Ts) (hinst : Cond.instanceMethod objectInit ∈ Ts) (hcode : Cond.code objectInit ⟨#[0xb1]⟩ 1 none ∈ Ts) (hd : decode cc pc = .ok (.invokespecial ix, 3)) (hf : 1 ≤ rm.frames) (hlo : (st.map fun v => v.category).sum + 12 ≤ rm.locals) (g : V x G nL n1 n2 (pc + 3) lv st ws) : V x G nL n1 n2 pc lv (.ref a :: st) ws := by
  obtain ⟨p, l, e, R, s, m, args, below, meth, c, Q, A⟩ := x
  obtain ⟨hx, hb, hml, hts, hown, hKS, hA, hR, hnm⟩ := O
  intro H locs ls hP hD hS hl
  subst hR
  refine W.objInit hx hb hown (hts _ hlink) (hts _ hinst) (hts _ hcode) rfl (hl.1.trans hml.symm) rfl hd hf (by show 2 * 0 + _ + 12 ≤ _; omega) ?_
  exact g H locs ls hP hD hS hl
theorem k_iret {x : Cx} {G : Gx} {nL : Nat} {cc : ByteArray} {Ts : List Cond} {y0 : MethodName} {rm : Room} (O : Okx x G nL cc Ts y0 rm) {wc : va_W} {post : Option Value → va_W → va_W → Prop} {mc ms : Nat} (Rt : Rtx x G wc post mc ms (some .int)) {n1 n2 pc : Nat} {lv : List (Nat × Value)} {ws wb : va_W} {v : Int32} (hd : decode cc pc = .ok (.ireturn, 1)) (h1 : n1 ≤ mc) (h2 : n2 ≤ ms) (hm : ws.map (fun q => q.1) = wc.map (fun q => q.1)) (hp : post (some (.int v)) ws wb) : V x G nL n1 n2 pc lv [.int v] (ws ++ wb) := by
  obtain ⟨p, l, e, R, s, m, args, below, meth, c, Q, A⟩ := x
  obtain ⟨hx, hb, -⟩ := O
  obtain ⟨rfl, hr, hlk⟩ := Rt
  intro H locs ls hP hD hS hl
  refine W.widen h1 h2 ?_
  exact W.iret (v := v) hx hb hr (fun t ht hW => ⟨⟨_, ws, wb, rfl, hp, hm, by rw [ht]; exact hP, hD⟩, hS.F ht⟩) hS.2.2 hd hlk
theorem k_lret {x : Cx} {G : Gx} {nL : Nat} {cc : ByteArray} {Ts : List Cond} {y0 : MethodName} {rm : Room} (O : Okx x G nL cc Ts y0 rm) {wc : va_W} {post : Option Value → va_W → va_W → Prop} {mc ms : Nat} (Rt : Rtx x G wc post mc ms (some .long)) {n1 n2 pc : Nat} {lv : List (Nat × Value)} {ws wb : va_W} {v : Int64} (hd : decode cc pc = .ok (.lreturn, 1)) (h1 : n1 ≤ mc) (h2 : n2 ≤ ms) (hm : ws.map (fun q => q.1) = wc.map (fun q => q.1)) (hp : post (some (.long v)) ws wb) : V x G nL n1 n2 pc lv [.long v] (ws ++ wb) := by
  obtain ⟨p, l, e, R, s, m, args, below, meth, c, Q, A⟩ := x
  obtain ⟨hx, hb, -⟩ := O
  obtain ⟨rfl, hr, hlk⟩ := Rt
  intro H locs ls hP hD hS hl
  refine W.widen h1 h2 ?_
  exact W.lret (v := v) hx hb hr (fun t ht hW => ⟨⟨_, ws, wb, rfl, hp, hm, by rw [ht]; exact hP, hD⟩, hS.F ht⟩) hS.2.2 hd hlk
theorem k_zret {x : Cx} {G : Gx} {nL : Nat} {cc : ByteArray} {Ts : List Cond} {y0 : MethodName} {rm : Room} (O : Okx x G nL cc Ts y0 rm) {wc : va_W} {post : Option Value → va_W → va_W → Prop} {mc ms : Nat} (Rt : Rtx x G wc post mc ms (some .boolean)) {n1 n2 pc : Nat} {lv : List (Nat × Value)} {ws wb : va_W} {v : Int32} (hd : decode cc pc = .ok (.ireturn, 1)) (hn : narrow .boolean (.int v) = .int v) (h1 : n1 ≤ mc) (h2 : n2 ≤ ms) (hm : ws.map (fun q => q.1) = wc.map (fun q => q.1)) (hp : post (some (.int v)) ws wb) : V x G nL n1 n2 pc lv [.int v] (ws ++ wb) := by
  obtain ⟨p, l, e, R, s, m, args, below, meth, c, Q, A⟩ := x
  obtain ⟨hx, hb, -⟩ := O
  obtain ⟨rfl, hr, hlk⟩ := Rt
  intro H locs ls hP hD hS hl
  refine W.widen h1 h2 ?_
  exact W.zret (v := v) hx hb hr hn (fun t ht hW => ⟨⟨_, ws, wb, rfl, hp, hm, by rw [ht]; exact hP, hD⟩, hS.F ht⟩) hS.2.2 hd hlk
theorem k_vret {x : Cx} {G : Gx} {nL : Nat} {cc : ByteArray} {Ts : List Cond} {y0 : MethodName} {rm : Room} (O : Okx x G nL cc Ts y0 rm) {wc : va_W} {post : Option Value → va_W → va_W → Prop} {mc ms : Nat} (Rt : Rtx x G wc post mc ms none) {n1 n2 pc : Nat} {lv : List (Nat × Value)} {ws wb : va_W} (hd : decode cc pc = .ok (.return_, 1)) (h1 : n1 ≤ mc) (h2 : n2 ≤ ms) (hm : ws.map (fun q => q.1) = wc.map (fun q => q.1)) (hp : post none ws wb) : V x G nL n1 n2 pc lv [] (ws ++ wb) := by
  obtain ⟨p, l, e, R, s, m, args, below, meth, c, Q, A⟩ := x
  obtain ⟨hx, hb, -⟩ := O
  obtain ⟨rfl, hr, hlk⟩ := Rt
  intro H locs ls hP hD hS hl
  refine W.widen h1 h2 ?_
  exact W.vret hx hb hr (fun t ht hW => ⟨⟨_, ws, wb, rfl, hp, hm, by rw [ht]; exact hP, hD⟩, hS.F ht⟩) hS.2.2 hd hlk
theorem k_iret0 {x : Cx} {G : Gx} {nL : Nat} {cc : ByteArray} {Ts : List Cond} {y0 : MethodName} {rm : Room} (O : Okx x G nL cc Ts y0 rm) {wc : va_W} {post : Option Value → va_W → va_W → Prop} {mc ms : Nat} (Rt : Rtx x G wc post mc ms (some .int)) {n1 n2 pc : Nat} {lv : List (Nat × Value)} {ws : va_W} {v : Int32} (hd : decode cc pc = .ok (.ireturn, 1)) (h1 : n1 ≤ mc) (h2 : n2 ≤ ms) (hm : ws.map (fun q => q.1) = wc.map (fun q => q.1)) (hp : post (some (.int v)) ws []) : V x G nL n1 n2 pc lv [.int v] ws := by
  have h := k_iret (wb := []) O Rt (lv := lv) hd h1 h2 hm hp
  rwa [List.append_nil] at h
theorem k_lret0 {x : Cx} {G : Gx} {nL : Nat} {cc : ByteArray} {Ts : List Cond} {y0 : MethodName} {rm : Room} (O : Okx x G nL cc Ts y0 rm) {wc : va_W} {post : Option Value → va_W → va_W → Prop} {mc ms : Nat} (Rt : Rtx x G wc post mc ms (some .long)) {n1 n2 pc : Nat} {lv : List (Nat × Value)} {ws : va_W} {v : Int64} (hd : decode cc pc = .ok (.lreturn, 1)) (h1 : n1 ≤ mc) (h2 : n2 ≤ ms) (hm : ws.map (fun q => q.1) = wc.map (fun q => q.1)) (hp : post (some (.long v)) ws []) : V x G nL n1 n2 pc lv [.long v] ws := by
  have h := k_lret (wb := []) O Rt (lv := lv) hd h1 h2 hm hp
  rwa [List.append_nil] at h
theorem k_zret0 {x : Cx} {G : Gx} {nL : Nat} {cc : ByteArray} {Ts : List Cond} {y0 : MethodName} {rm : Room} (O : Okx x G nL cc Ts y0 rm) {wc : va_W} {post : Option Value → va_W → va_W → Prop} {mc ms : Nat} (Rt : Rtx x G wc post mc ms (some .boolean)) {n1 n2 pc : Nat} {lv : List (Nat × Value)} {ws : va_W} {v : Int32} (hd : decode cc pc = .ok (.ireturn, 1)) (hn : narrow .boolean (.int v) = .int v) (h1 : n1 ≤ mc) (h2 : n2 ≤ ms) (hm : ws.map (fun q => q.1) = wc.map (fun q => q.1)) (hp : post (some (.int v)) ws []) : V x G nL n1 n2 pc lv [.int v] ws := by
  have h := k_zret (wb := []) O Rt (lv := lv) hd hn h1 h2 hm hp
  rwa [List.append_nil] at h
theorem k_vret0 {x : Cx} {G : Gx} {nL : Nat} {cc : ByteArray} {Ts : List Cond} {y0 : MethodName} {rm : Room} (O : Okx x G nL cc Ts y0 rm) {wc : va_W} {post : Option Value → va_W → va_W → Prop} {mc ms : Nat} (Rt : Rtx x G wc post mc ms none) {n1 n2 pc : Nat} {lv : List (Nat × Value)} {ws : va_W} (hd : decode cc pc = .ok (.return_, 1)) (h1 : n1 ≤ mc) (h2 : n2 ≤ ms) (hm : ws.map (fun q => q.1) = wc.map (fun q => q.1)) (hp : post none ws []) : V x G nL n1 n2 pc lv [] ws := by
  have h := k_vret (wb := []) O Rt (lv := lv) hd h1 h2 hm hp
  rwa [List.append_nil] at h
theorem k_iincN {x : Cx} {G : Gx} {nL : Nat} {cc : ByteArray} {Ts : List Cond} {y0 : MethodName} {rm : Room} (O : Okx x G nL cc Ts y0 rm) {n1 n2 pc : Nat} {lv : List (Nat × Value)} {st : List Value} {ws : va_W} {i k m a : Nat} {n : Int} (lv' : List (Nat × Value)) (hd : decode cc pc = .ok (.iinc i n, 3)) (hk : lv[k]? = some (i, .int (nI a))) (hv : Int32.ofInt n = nI m) (hn : i < nL) (hl' : (i, Value.int (nI (a + m))) :: lv.filter (fun q => !(q.1 == i) && !(q.1 + 1 == i && q.2.category == 2)) = lv') (g : V x G nL n1 n2 (pc + 3) lv' st ws) : V x G nL n1 n2 pc lv st ws := by
  obtain ⟨p, l, e, R, s, m, args, below, meth, c, Q, A⟩ := x
  obtain ⟨hx, hb, hml, hts, hown, hKS, hA, hR, hnm⟩ := O
  intro H locs ls hP hD hS hl
  exact lv_iinc hx hb hd hl hk (by rw [hv, nI_add]) hn hl' (fun ls' h' => g H locs ls' hP hD hS h')
/-- rows of numbers -/
abbrev rN (f : Nat → Nat) : Nat → Int32 := fun i => nI (f i)
theorem rN_upd (f : Nat → Nat) (i v : Nat) : upd (rN f) i (nI v) = rN (va_up f i v) := by
  funext j
  by_cases h : j = i
  · subst h; simp [rN, upd, va_up]
  · simp [rN, upd, va_up, h]
theorem k_iastN {x : Cx} {G : Gx} {nL : Nat} {cc : ByteArray} {Ts : List Cond} {y0 : MethodName} {rm : Room} (O : Okx x G nL cc Ts y0 rm) {n1 n2 pc : Nat} {lv : List (Nat × Value)} {st : List Value} {ws : va_W} {a n : Nat} {f : Nat → Nat} (q0 : Nat) (he : ws[q0]? = some (a, cI G n (rN f))) {i v : Nat} (hi : i < n) (hn : n < 2147483648) (ws' : va_W) (hws : ws.set q0 (a, cI G n (rN (va_up f i v))) = ws') (hd : decode cc pc = .ok (.iastore, 1)) (g : V x G nL n1 n2 (pc + 1) lv st ws') : V x G nL n1 n2 pc lv (.int (nI v) :: .int (nI i) :: .ref a :: st) ws := by
  obtain ⟨p, l, e, R, s, m, args, below, meth, c, Q, A⟩ := x
  obtain ⟨hx, hb, hml, hts, hown, hKS, hA, hR, hnm⟩ := O
  intro H locs ls hP hD hS hl
  subst hws
  refine va_iast hx hb hKS.1 hP hD hS q0 0 he rfl (vp_in_nI hi hn) hd (fun H locs hP hD hS => ?_)
  rw [nI_clamp (Nat.lt_trans hi hn), rN_upd] at hP hD
  exact g H locs ls hP hD hS hl
theorem bI_nar (b : Bool) : narrow .boolean (.int (bI b)) = .int (bI b) := by cases b <;> decide
theorem k_callS {x : Cx} {G : Gx} {nL : Nat} {cc : ByteArray} {Ts : List Cond} {y0 : MethodName} {rm : Room} (O : Okx x G nL cc Ts y0 rm) {n1 n2 pc : Nat} {lv : List (Nat × Value)} {ws : va_W} {y : MethodName} {wsy ws' : List Cond} {rmy : Room} {cy : ByteArray} {nLy : Nat} {ret : Option FieldType} {As rest st0 : List Value} {wc : va_W} {post : Option Value → va_W → va_W → Prop} {mc ms ix : Nat}  (isC : List Nat) (hM : CtN G y wsy rmy As wc post mc ms) (n : Nat) (hw : wsy = Cond.code y cy nLy ret :: ws') (hrc : rmy.cells = mc) (hrs : rmy.slots = ms) (hR : Nat.ble (rmy.frames + 1) rm.frames = true ∧ Nat.ble (8 + (nLy + 11) + rmy.locals) rm.locals = true) (hn : As.length = n) (hnd : va_nd isC = true) (hT : GoodIn Ts (va_wsS y0.cls ix y wsy)) (hyc : y.cls ≠ "java/lang/invoke/MethodHandle" ∧ y.cls ≠ "java/lang/invoke/VarHandle" ∧ (parseMethodDescriptor y.desc).map (fun d => d.parameters.length) = some n) (hst : st0 = As.reverse ++ rest) (hd : decode cc pc = .ok (.invokestatic ix, 3)) (hroom : (rest.map fun v => v.category).sum ≤ 8) (hC : isC.map (fun i => ws[i]?) = wc.map some) (hf : n1 + mc ≤ rm.cells ∧ n2 + ms ≤ rm.slots) (g : ∀ (r : Option Value) (wa wb : va_W), post r wa wb → V x G nL (n1 + mc) (n2 + ms) (pc + 3) lv (r.toList ++ rest) (repl ws isC wa ++ wb)) : V x G nL n1 n2 pc lv st0 ws := by
  obtain ⟨p, l, e, R, s, m, args, below, meth, c, Q, A⟩ := x
  obtain ⟨hx, hb, hml, hts, hown, hKS, hA, hR2, hnm⟩ := O
  subst hR2
  intro H locs ls hP hD hS hl
  have hPc := va_PC hP isC hC
  have hFc := va_freeC hD hS hA isC hC
  have hDc : va_D (fun _ => True) wc := by
    have e : ∀ (k : Nat) (q : Nat × va_E), wc[k]? = some q → ∃ i, isC[k]? = some i ∧ ws[i]? = some q := by
      intro k q hk
      have h1 : (isC.map (fun i => ws[i]?))[k]? = some (some q) := by rw [hC, List.getElem?_map, hk]; rfl
      rw [List.getElem?_map] at h1
      cases hi : isC[k]? with
      | none => rw [hi] at h1; cases h1
      | some i => rw [hi] at h1; exact ⟨i, rfl, Option.some.inj h1⟩
    refine ⟨fun i j a b hi hj hab => ?_, fun _ _ _ => trivial⟩
    obtain ⟨i1, h1, h2⟩ := e i a hi
    obtain ⟨j1, h3, h4⟩ := e j b hj
    have h5 := hD.1 i1 j1 a b h2 h4 hab
    subst h5
    exact va_nd_inj isC hnd i j i1 h1 h3
  have hfr : rmy.frames + 1 ≤ R.frames ∧ 8 + (nLy + 11) + rmy.locals ≤ R.locals := ⟨Nat.le_of_ble_eq_true hR.1, Nat.le_of_ble_eq_true hR.2⟩
  refine va_useN (va_runS (As := As) (rest := rest) ⟨hx, hb, hml, hown, hts⟩ (hM l H.size) (va_cwS n hts hT hw hrc hrs hyc hfr) ⟨fun a U gg mk q => by obtain ⟨q0, q1, qP, qK, qD⟩ := q; exact ⟨q0, q1, qP, qK.calling, qD⟩, fun U hU hW => ⟨rfl, by rw [hU], by rw [hU]; exact hPc, hKS.warm hW, hDc⟩⟩ rfl hn hl.1 hst (lv_room hroom) hd hf) hS (fun q _ h => hFc q h) hFc (fun r wa wb H1 locs1 hp hm hP1 hD1 hz hk hS1 => ?_)
  obtain ⟨h1, h2⟩ := va_back hP hD isC hC hm hk hFc hP1 hD1
  exact g r wa wb hp H1 locs1 ls h1 h2 hS1 hl
theorem k_callSN {x : Cx} {G : Gx} {nL : Nat} {cc : ByteArray} {Ts : List Cond} {y0 : MethodName} {rm : Room} (O : Okx x G nL cc Ts y0 rm) {n1 n2 pc : Nat} {lv : List (Nat × Value)} {ws : va_W} {y : MethodName} {wsy ws' : List Cond} {rmy : Room} {cy : ByteArray} {nLy : Nat} {ret : Option FieldType} {As rest st0 : List Value} {wc : va_W} {post : Option Value → va_W → va_W → Prop} {mc ms ix : Nat}  (isC : List Nat) (hM : CtN G y wsy rmy As wc post mc ms) (n : Nat) (hw : wsy = Cond.code y cy nLy ret :: ws') (hrc : rmy.cells = mc) (hrs : rmy.slots = ms) (hR : Nat.ble (rmy.frames + 1) rm.frames = true ∧ Nat.ble (8 + (nLy + 11) + rmy.locals) rm.locals = true) (hn : As.length = n) (hnd : va_nd isC = true) (hT : GoodIn Ts wsy) (hnest : (y0.cls, ix, y) ∈ nestL) (hstat : Cond.static y ∈ Ts) (hinit : Cond.initialized y.cls ∈ Ts) (hyc : y.cls ≠ "java/lang/invoke/MethodHandle" ∧ y.cls ≠ "java/lang/invoke/VarHandle" ∧ (parseMethodDescriptor y.desc).map (fun d => d.parameters.length) = some n) (hst : st0 = As.reverse ++ rest) (hd : decode cc pc = .ok (.invokestatic ix, 3)) (hroom : (rest.map fun v => v.category).sum ≤ 8) (hC : isC.map (fun i => ws[i]?) = wc.map some) (hf : n1 + mc ≤ rm.cells ∧ n2 + ms ≤ rm.slots) (g : ∀ (r : Option Value) (wa wb : va_W), post r wa wb → V x G nL (n1 + mc) (n2 + ms) (pc + 3) lv (r.toList ++ rest) (repl ws isC wa ++ wb)) : V x G nL n1 n2 pc lv st0 ws := by
  obtain ⟨p, l, e, R, s, m, args, below, meth, c, Q, A⟩ := x
  obtain ⟨hx, hb, hml, hts, hown, hKS, hA, hR2, hnm⟩ := O
  subst hR2
  intro H locs ls hP hD hS hl
  have hPc := va_PC hP isC hC
  have hFc := va_freeC hD hS hA isC hC
  have hDc : va_D (fun _ => True) wc := by
    have e : ∀ (k : Nat) (q : Nat × va_E), wc[k]? = some q → ∃ i, isC[k]? = some i ∧ ws[i]? = some q := by
      intro k q hk
      have h1 : (isC.map (fun i => ws[i]?))[k]? = some (some q) := by rw [hC, List.getElem?_map, hk]; rfl
      rw [List.getElem?_map] at h1
      cases hi : isC[k]? with
      | none => rw [hi] at h1; cases h1
      | some i => rw [hi] at h1; exact ⟨i, rfl, Option.some.inj h1⟩
    refine ⟨fun i j a b hi hj hab => ?_, fun _ _ _ => trivial⟩
    obtain ⟨i1, h1, h2⟩ := e i a hi
    obtain ⟨j1, h3, h4⟩ := e j b hj
    have h5 := hD.1 i1 j1 a b h2 h4 hab
    subst h5
    exact va_nd_inj isC hnd i j i1 h1 h3
  have hfr : rmy.frames + 1 ≤ R.frames ∧ 8 + (nLy + 11) + rmy.locals ≤ R.locals := ⟨Nat.le_of_ble_eq_true hR.1, Nat.le_of_ble_eq_true hR.2⟩
  refine va_useN (va_runSN (As := As) (rest := rest) ⟨hx, hb, hml, hown, hts⟩ (hM l H.size) ⟨va_cnB (host := "LieBridges") n hts hT hw hrc hrs (hKS.2.1 _ hnest) (hts _ hinit) hyc hfr, hts _ hstat, trivial⟩ ⟨fun a U gg mk q => by obtain ⟨q0, q1, qP, qK, qD⟩ := q; exact ⟨q0, q1, qP, qK.calling, qD⟩, fun U hU hW => ⟨rfl, by rw [hU], by rw [hU]; exact hPc, hKS.warm hW, hDc⟩⟩ rfl hn hl.1 hst (lv_room hroom) hd hf) hS (fun q _ h => hFc q h) hFc (fun r wa wb H1 locs1 hp hm hP1 hD1 hz hk hS1 => ?_)
  obtain ⟨h1, h2⟩ := va_back hP hD isC hC hm hk hFc hP1 hD1
  exact g r wa wb hp H1 locs1 ls h1 h2 hS1 hl
theorem k_callV {x : Cx} {G : Gx} {nL : Nat} {cc : ByteArray} {Ts : List Cond} {y0 : MethodName} {rm : Room} (O : Okx x G nL cc Ts y0 rm) {n1 n2 pc : Nat} {lv : List (Nat × Value)} {ws : va_W} {y : MethodName} {wsy ws' : List Cond} {rmy : Room} {cy : ByteArray} {nLy : Nat} {ret : Option FieldType} {As rest st0 : List Value} {wc : va_W} {post : Option Value → va_W → va_W → Prop} {mc ms ix : Nat} {b ci : Nat} {C : String} {T : u_T} {N : Nat} {fs : List Value} (isC : List Nat) (hM : CtN G y wsy rmy (.ref b :: As) wc post mc ms) (n : Nat) (hw : wsy = Cond.code y cy nLy ret :: ws') (hrc : rmy.cells = mc) (hrs : rmy.slots = ms) (hR : Nat.ble (rmy.frames + 1) rm.frames = true ∧ Nat.ble (8 + (nLy + 11) + rmy.locals) rm.locals = true) (hn : As.length = n) (hnd : va_nd isC = true) (hT : GoodIn Ts (wsV y0.cls ix C y wsy)) (hc : vwCl[ci]? = some (C, T, N)) (q0 : Nat) (he : ws[q0]? = some (b, cO ci fs)) (hyc : y.cls = C ∧ y.cls ≠ "java/lang/invoke/MethodHandle" ∧ y.cls ≠ "java/lang/invoke/VarHandle" ∧ (parseMethodDescriptor y.desc).map (fun d => d.parameters.length) = some n) (hst : st0 = As.reverse ++ .ref b :: rest) (hd : decode cc pc = .ok (.invokevirtual ix, 3)) (hroom : (rest.map fun v => v.category).sum ≤ 8) (hC : isC.map (fun i => ws[i]?) = wc.map some) (hf : n1 + mc ≤ rm.cells ∧ n2 + ms ≤ rm.slots) (g : ∀ (r : Option Value) (wa wb : va_W), post r wa wb → V x G nL (n1 + mc) (n2 + ms) (pc + 3) lv (r.toList ++ rest) (repl ws isC wa ++ wb)) : V x G nL n1 n2 pc lv st0 ws := by
  obtain ⟨p, l, e, R, s, m, args, below, meth, c, Q, A⟩ := x
  obtain ⟨hx, hb, hml, hts, hown, hKS, hA, hR2, hnm⟩ := O
  subst hR2
  intro H locs ls hP hD hS hl
  have hPc := va_PC hP isC hC
  have hFc := va_freeC hD hS hA isC hC
  have hDc : va_D (fun _ => True) wc := by
    have e : ∀ (k : Nat) (q : Nat × va_E), wc[k]? = some q → ∃ i, isC[k]? = some i ∧ ws[i]? = some q := by
      intro k q hk
      have h1 : (isC.map (fun i => ws[i]?))[k]? = some (some q) := by rw [hC, List.getElem?_map, hk]; rfl
      rw [List.getElem?_map] at h1
      cases hi : isC[k]? with
      | none => rw [hi] at h1; cases h1
      | some i => rw [hi] at h1; exact ⟨i, rfl, Option.some.inj h1⟩
    refine ⟨fun i j a b hi hj hab => ?_, fun _ _ _ => trivial⟩
    obtain ⟨i1, h1, h2⟩ := e i a hi
    obtain ⟨j1, h3, h4⟩ := e j b hj
    have h5 := hD.1 i1 j1 a b h2 h4 hab
    subst h5
    exact va_nd_inj isC hnd i j i1 h1 h3
  have hfr : rmy.frames + 1 ≤ R.frames ∧ 8 + (nLy + 11) + rmy.locals ≤ R.locals := ⟨Nat.le_of_ble_eq_true hR.1, Nat.le_of_ble_eq_true hR.2⟩
  refine va_useN (va_runV (As := As) (rest := rest) (b := b) (C := C) ⟨hx, hb, hml, hown, hts⟩ (hM l H.size) (cwV n hts hT hw hrc hrs hyc hfr) ⟨fun a U gg mk q => by obtain ⟨q0, q1, qP, qK, qD⟩ := q; exact ⟨q0, q1, qP, qK.calling, qD⟩, va_recv hKS.1 hP hc he, fun U hU hW => ⟨rfl, by rw [hU], by rw [hU]; exact hPc, hKS.warm hW, hDc⟩⟩ rfl hn hl.1 hst (lv_room hroom) hd hf) hS (fun q _ h => hFc q h) hFc (fun r wa wb H1 locs1 hp hm hP1 hD1 hz hk hS1 => ?_)
  obtain ⟨h1, h2⟩ := va_back hP hD isC hC hm hk hFc hP1 hD1
  exact g r wa wb hp H1 locs1 ls h1 h2 hS1 hl
theorem k_callI {x : Cx} {G : Gx} {nL : Nat} {cc : ByteArray} {Ts : List Cond} {y0 : MethodName} {rm : Room} (O : Okx x G nL cc Ts y0 rm) {n1 n2 pc : Nat} {lv : List (Nat × Value)} {ws : va_W} {y : MethodName} {wsy ws' : List Cond} {rmy : Room} {cy : ByteArray} {nLy : Nat} {ret : Option FieldType} {As rest st0 : List Value} {wc : va_W} {post : Option Value → va_W → va_W → Prop} {mc ms ix : Nat} {b : Nat} (isC : List Nat) (hM : CtN G y wsy rmy (.ref b :: As) wc post mc ms) (n : Nat) (hw : wsy = Cond.code y cy nLy ret :: ws') (hrc : rmy.cells = mc) (hrs : rmy.slots = ms) (hR : Nat.ble (rmy.frames + 1) rm.frames = true ∧ Nat.ble (8 + (nLy + 11) + rmy.locals) rm.locals = true) (hn : As.length = n) (hnd : va_nd isC = true) (hT : GoodIn Ts wsy) (hinit : Cond.initialized y.cls ∈ Ts) (hlink : Cond.methodLink y0.cls ix y ∈ Ts) (hinst : Cond.instanceMethod y ∈ Ts) (hyn : y.name = "<init>") (hret : ret = none) (hyc : y.cls ≠ "java/lang/invoke/MethodHandle" ∧ y.cls ≠ "java/lang/invoke/VarHandle" ∧ (parseMethodDescriptor y.desc).map (fun d => d.parameters.length) = some n) (hst : st0 = As.reverse ++ .ref b :: rest) (hd : decode cc pc = .ok (.invokespecial ix, 3)) (hroom : (rest.map fun v => v.category).sum ≤ 8) (hC : isC.map (fun i => ws[i]?) = wc.map some) (hf : n1 + mc ≤ rm.cells ∧ n2 + ms ≤ rm.slots) (g : ∀ (r : Option Value) (wa wb : va_W), post r wa wb → V x G nL (n1 + mc) (n2 + ms) (pc + 3) lv (r.toList ++ rest) (repl ws isC wa ++ wb)) : V x G nL n1 n2 pc lv st0 ws := by
  obtain ⟨p, l, e, R, s, m, args, below, meth, c, Q, A⟩ := x
  obtain ⟨hx, hb, hml, hts, hown, hKS, hA, hR2, hnm⟩ := O
  subst hR2
  intro H locs ls hP hD hS hl
  have hPc := va_PC hP isC hC
  have hFc := va_freeC hD hS hA isC hC
  have hDc : va_D (fun _ => True) wc := by
    have e : ∀ (k : Nat) (q : Nat × va_E), wc[k]? = some q → ∃ i, isC[k]? = some i ∧ ws[i]? = some q := by
      intro k q hk
      have h1 : (isC.map (fun i => ws[i]?))[k]? = some (some q) := by rw [hC, List.getElem?_map, hk]; rfl
      rw [List.getElem?_map] at h1
      cases hi : isC[k]? with
      | none => rw [hi] at h1; cases h1
      | some i => rw [hi] at h1; exact ⟨i, rfl, Option.some.inj h1⟩
    refine ⟨fun i j a b hi hj hab => ?_, fun _ _ _ => trivial⟩
    obtain ⟨i1, h1, h2⟩ := e i a hi
    obtain ⟨j1, h3, h4⟩ := e j b hj
    have h5 := hD.1 i1 j1 a b h2 h4 hab
    subst h5
    exact va_nd_inj isC hnd i j i1 h1 h3
  have hfr : rmy.frames + 1 ≤ R.frames ∧ 8 + (nLy + 11) + rmy.locals ≤ R.locals := ⟨Nat.le_of_ble_eq_true hR.1, Nat.le_of_ble_eq_true hR.2⟩
  subst hret
  refine va_useN (va_runI (As := As) (rest := rest) (b := b) ⟨hx, hb, hml, hown, hts⟩ (hM l H.size) (cwI n hts hT hw hrc hrs (hts _ hinit) (hts _ hlink) (hts _ hinst) hyn hyc hfr) ⟨fun a U gg mk q => by obtain ⟨q0, q1, qP, qK, qD⟩ := q; exact ⟨q0, q1, qP, qK.calling, qD⟩, fun U hU hW => ⟨rfl, by rw [hU], by rw [hU]; exact hPc, hKS.warm hW, hDc⟩⟩ rfl hn hl.1 hst (lv_room hroom) hd hf) hS (fun q _ h => hFc q h) hFc (fun r wa wb H1 locs1 hp hm hP1 hD1 hz hk hS1 => ?_)
  obtain ⟨h1, h2⟩ := va_back hP hD isC hC hm hk hFc hP1 hD1
  exact g r wa wb hp H1 locs1 ls h1 h2 hS1 hl
theorem k_callIN {x : Cx} {G : Gx} {nL : Nat} {cc : ByteArray} {Ts : List Cond} {y0 : MethodName} {rm : Room} (O : Okx x G nL cc Ts y0 rm) {n1 n2 pc : Nat} {lv : List (Nat × Value)} {ws : va_W} {y : MethodName} {wsy ws' : List Cond} {rmy : Room} {cy : ByteArray} {nLy : Nat} {ret : Option FieldType} {As rest st0 : List Value} {wc : va_W} {post : Option Value → va_W → va_W → Prop} {mc ms ix : Nat} {b : Nat} (isC : List Nat) (hM : CtN G y wsy rmy (.ref b :: As) wc post mc ms) (n : Nat) (hw : wsy = Cond.code y cy nLy ret :: ws') (hrc : rmy.cells = mc) (hrs : rmy.slots = ms) (hR : Nat.ble (rmy.frames + 1) rm.frames = true ∧ Nat.ble (8 + (nLy + 11) + rmy.locals) rm.locals = true) (hn : As.length = n) (hnd : va_nd isC = true) (hT : GoodIn Ts wsy) (hinit : Cond.initialized y.cls ∈ Ts) (hnest : (y0.cls, ix, y) ∈ nestL) (hinst : Cond.instanceMethod y ∈ Ts) (hyn : y.name = "<init>") (hret : ret = none) (hyc : y.cls ≠ "java/lang/invoke/MethodHandle" ∧ y.cls ≠ "java/lang/invoke/VarHandle" ∧ (parseMethodDescriptor y.desc).map (fun d => d.parameters.length) = some n) (hst : st0 = As.reverse ++ .ref b :: rest) (hd : decode cc pc = .ok (.invokespecial ix, 3)) (hroom : (rest.map fun v => v.category).sum ≤ 8) (hC : isC.map (fun i => ws[i]?) = wc.map some) (hf : n1 + mc ≤ rm.cells ∧ n2 + ms ≤ rm.slots) (g : ∀ (r : Option Value) (wa wb : va_W), post r wa wb → V x G nL (n1 + mc) (n2 + ms) (pc + 3) lv (r.toList ++ rest) (repl ws isC wa ++ wb)) : V x G nL n1 n2 pc lv st0 ws := by
  obtain ⟨p, l, e, R, s, m, args, below, meth, c, Q, A⟩ := x
  obtain ⟨hx, hb, hml, hts, hown, hKS, hA, hR2, hnm⟩ := O
  subst hR2
  intro H locs ls hP hD hS hl
  have hPc := va_PC hP isC hC
  have hFc := va_freeC hD hS hA isC hC
  have hDc : va_D (fun _ => True) wc := by
    have e : ∀ (k : Nat) (q : Nat × va_E), wc[k]? = some q → ∃ i, isC[k]? = some i ∧ ws[i]? = some q := by
      intro k q hk
      have h1 : (isC.map (fun i => ws[i]?))[k]? = some (some q) := by rw [hC, List.getElem?_map, hk]; rfl
      rw [List.getElem?_map] at h1
      cases hi : isC[k]? with
      | none => rw [hi] at h1; cases h1
      | some i => rw [hi] at h1; exact ⟨i, rfl, Option.some.inj h1⟩
    refine ⟨fun i j a b hi hj hab => ?_, fun _ _ _ => trivial⟩
    obtain ⟨i1, h1, h2⟩ := e i a hi
    obtain ⟨j1, h3, h4⟩ := e j b hj
    have h5 := hD.1 i1 j1 a b h2 h4 hab
    subst h5
    exact va_nd_inj isC hnd i j i1 h1 h3
  have hfr : rmy.frames + 1 ≤ R.frames ∧ 8 + (nLy + 11) + rmy.locals ≤ R.locals := ⟨Nat.le_of_ble_eq_true hR.1, Nat.le_of_ble_eq_true hR.2⟩
  subst hret
  refine va_useN (va_runIN (As := As) (rest := rest) (b := b) ⟨hx, hb, hml, hown, hts⟩ (hM l H.size) ⟨va_cnB (host := "LieBridges") n hts hT hw hrc hrs (hKS.2.1 _ hnest) (hts _ hinit) hyc hfr, hyn, hts _ hinst⟩ ⟨fun a U gg mk q => by obtain ⟨q0, q1, qP, qK, qD⟩ := q; exact ⟨q0, q1, qP, qK.calling, qD⟩, fun U hU hW => ⟨rfl, by rw [hU], by rw [hU]; exact hPc, hKS.warm hW, hDc⟩⟩ rfl hn hl.1 hst (lv_room hroom) hd hf) hS (fun q _ h => hFc q h) hFc (fun r wa wb H1 locs1 hp hm hP1 hD1 hz hk hS1 => ?_)
  obtain ⟨h1, h2⟩ := va_back hP hD isC hC hm hk hFc hP1 hD1
  exact g r wa wb hp H1 locs1 ls h1 h2 hS1 hl
