theorem pst_app (n : Nat) {ws w1 w2 : va_W} {ps ps1 ps2 : List Nat} (hp : ps = ps1 ++ ps2) : ∀ (h1 : w1.length = n) (h2 : ps1.length = n), pst ws ps (w1 ++ w2) = pst (pst ws ps1 w1) ps2 w2 := by
  subst hp
  induction n generalizing ws w1 ps1 with
  | zero =>
    intro h1 h2
    cases w1 with
    | nil => cases ps1 with
      | nil =>
        have e : ∀ ws : va_W, pst ws [] [] = ws := fun _ => rfl
        rw [e, List.nil_append, List.nil_append]
      | cons => cases h2
    | cons => cases h1
  | succ n ih =>
    intro h1 h2
    cases w1 with
    | nil => cases h1
    | cons d w1 => cases ps1 with
      | nil => cases h2
      | cons i ps1 => exact ih (ws := ws.set i d) (w1 := w1) (ps1 := ps1) (Nat.succ.inj h1) (Nat.succ.inj h2)
