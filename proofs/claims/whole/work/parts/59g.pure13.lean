/-! what is kept by each call -/
theorem WFb_cu {b : BSt} {l c : Nat} (h : WFb b) (h1 : 1 ≤ c) (h5 : c ≤ 5) : WFb (vCu b (up (bCu b) l c)) := ⟨fun j hj => by
  show 1 ≤ up (bCu b) l c j ∧ up (bCu b) l c j ≤ 5
  unfold up; split
  · exact ⟨h1, h5⟩
  · exact h.1 j hj, h.2.1, h.2.2⟩
theorem WFb_weir {b : BSt} {f : Nat → Int32} (h : WFb b) (h6 : ¬ bW b = 6) : WFb (vW (vSp b f) (bW b + 1)) := ⟨h.1, by have := h.2.1; show bW b + 1 ≤ 6; omega, h.2.2⟩
theorem WFb_net {b : BSt} {f : Nat → Bool} (h : WFb b) (h4 : ¬ bK b = 4) : WFb (vK (vNe b f) (bK b + 1)) := ⟨h.1, h.2.1, by have := h.2.2; show bK b + 1 ≤ 4; omega⟩
theorem WFn_cu {b : BSt} {a : FSt} {f : Nat → Nat} (h : WFn b a) : WFn (vCu b f) a := h
theorem WFn_weir {b : BSt} {a : FSt} {f : Nat → Int32} {n : Nat} (h : WFn b a) : WFn (vW (vSp b f) n) a := h
theorem WFn_net {b : BSt} {a : FSt} {j n : Nat} (h : WFn b a) : WFn (vK (vNe b (up (bNe b) j true)) n) a := fun i hi hs => by
  show up (bNe b) j true (qLa a i * 60 + qPl a i) = true
  unfold up; split
  · rfl
  · exact h i hi hs
theorem WFn_zero {b : BSt} : WFn b zF := fun i hi => absurd hi (Nat.not_lt_zero i)
theorem WFa_zero : WFa zF := ⟨Nat.zero_le _, fun i hi => absurd hi (Nat.not_lt_zero i)⟩
theorem WFb_zero : WFb zB := ⟨fun l hl => by rcases (show l = 0 ∨ l = 1 ∨ l = 2 by omega) with rfl | rfl | rfl <;> exact ⟨by decide, by decide⟩, by decide, by decide⟩
theorem WFn_burn {b : BSt} {a : FSt} (h : WFn b a) (m : Nat) : WFn b (burnA m a) := fun i hi hs => by
  obtain ⟨b1, b2, b3, b4, b5, b6⟩ := burn_same a m
  rw [b1] at hi
  simp only [b2, b3, b4, b5, b6] at hs ⊢
  exact h i hi hs
