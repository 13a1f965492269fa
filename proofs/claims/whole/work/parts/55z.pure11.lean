theorem isW_1 {k n : Nat} (h1 : 1 ≤ k) (h2 : k ≤ n) (hn : n < 2 ^ 31) : isW (nI k) 1 (nI n) = true :=
  isW_iff.mpr ⟨(nI_leI (a := 1) (b := k) (by decide) (by omega)).mpr h1, (nI_leI (a := k) (b := n) (by omega) hn).mpr h2⟩
theorem isW_no {x hi : Int32} (h : isW x 0 hi = false) : isW x 1 hi = false := by
  cases e : isW x 1 hi
  · rfl
  · rw [isW_0 e] at h; exact absurd h (by decide)
