/-! Cells put back, a rewriting at a time. -/
theorem repl_cons (ws : va_W) (i : Nat) (is : List Nat) (q : Nat × va_E) (qs : va_W) : repl ws (i :: is) (q :: qs) = repl (ws.set i q) is qs := rfl
theorem repl_nil (ws : va_W) : repl ws [] [] = ws := rfl
