theorem caught_no {a : FSt} {i : Nat} (h : ∀ k, k < qN a → catches a i k = false) : (0 : Int32) = bi (caughtA a i) := by
  have h1 : caughtA a i = false := by
    cases hc : caughtA a i
    · rfl
    · obtain ⟨k, hk, hc⟩ := (any_iff _).mp hc
      rw [h k hk] at hc
      cases hc
  rw [h1]
  rfl
def OK (g : Nat → Int32) (o : Nat → Nat) (n : Nat) : Prop := ∀ j, j < n → g j = nI (o j)
def OH (g : Nat → Int32) (o : Nat → Nat) (m t i : Nat) : Prop := ∀ j, j ≤ m → j ≠ t → g j = nI (o j) ∧ o j < i
theorem OH_start {a : FSt} {g : Nat → Int32} {i : Nat} (hv : ∀ j, j < (sortN a i).1 → (sortN a i).2 j < i ∧ qSt a ((sortN a i).2 j) = 0) (h : OK g (sortN a i).2 (sortN a i).1) : OH g (sortN a i).2 (sortN a i).1 (sortN a i).1 i := fun j h1 h2 => ⟨h j (by omega), (hv j (by omega)).1⟩
theorem OH_step {g : Nat → Int32} {o : Nat → Nat} {m t i : Nat} (ht : t + 1 ≤ m) (h : OH g o m (t + 1) i) : OH (up g (t + 1) (g t)) (up o (t + 1) (o t)) m t i := fun j h1 h2 => by
  have h3 := h t (by omega) (by omega)
  rcases up_cases o (t + 1) (o t) j with ⟨ej, e⟩ | ⟨ej, e⟩
  · subst ej
    rw [e, up_s]
    exact h3
  · rw [e, up_n ej]
    exact h j h1 ej
theorem OH_end {g : Nat → Int32} {o : Nat → Nat} {m t i : Nat} (h : OH g o m t i) {P : Nat → Bool} {g0 : Nat → Nat} (he : shiftO P m g0 = (t, o)) : OK (up g t (nI i)) (insO P i m g0) (m + 1) := fun j hj => by
  unfold insO
  rw [he]
  rcases up_cases o t i j with ⟨ej, e⟩ | ⟨ej, e⟩
  · rw [e, ej, up_s]
  · rw [e, up_n ej]
    exact (h j (by omega) ej).1
