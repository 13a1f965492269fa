theorem isW_02 {x hi : Int32} (h : isW x 2 hi = true) : isW x 0 hi = true := by
  obtain ⟨h1, h2⟩ := isW_iff.mp h
  refine isW_iff.mpr ⟨?_, h2⟩
  rw [Int32.le_iff_toInt_le] at h1 ⊢
  have e1 : (2 : Int32).toInt = 2 := rfl
  have e0 : (0 : Int32).toInt = 0 := rfl
  omega
theorem isW_2 {k : Nat} {hi : Int32} (h : isW (nI k) 2 hi = true) (hk : k < 2 ^ 31) : 2 ≤ k := by
  obtain ⟨h1, -⟩ := isW_iff.mp h
  exact (nI_leI (a := 2) (b := k) (by decide) hk).mp h1
theorem burns_go {b : BSt} {k f m : Nat} {a : FSt} (h : qBu a k = true) : burnsF b k (f + 1) m a = burnsF b k f (m + 1) (minA b a) := if_pos h
theorem burns_at {b : BSt} {k f m : Nat} {a : FSt} (h : qBu a k = false) : burnsF b k (f + 1) m a = nI m := if_neg (by rw [h]; decide)
theorem comesF_le {b : BSt} {k : Nat} : ∀ (f m : Nat) (a : FSt), m + f ≤ 61 → comesF b k f m a ≤ 61
  | 0, _, _, _ => Nat.le_refl 61
  | f + 1, m, a, h => by
    show (if qSt (minA b a) k = 1 ∧ qBu (minA b a) k = true then m else comesF b k f (m + 1) (minA b a)) ≤ 61
    split
    · omega
    · exact comesF_le f (m + 1) _ (by omega)
theorem comes_le {b : BSt} {a : FSt} {f l : Nat} : comesA b a f l ≤ 61 := comesF_le 60 1 _ (by decide)
theorem best_le {g : Nat → Nat} (h : ∀ l, g l ≤ 61) : ∀ l : Nat, (bestA g l).2 ≤ 61
  | 0 => Nat.le_refl 61
  | l + 1 => by
    show (if g l < (bestA g l).2 then (nI l, g l) else bestA g l).2 ≤ 61
    split
    · exact h l
    · exact best_le h l
theorem best_in {g : Nat → Nat} {l : Nat} (h : g l < (bestA g l).2) : bestA g (l + 1) = (nI l, g l) := if_pos h
theorem best_out {g : Nat → Nat} {l : Nat} (h : ¬ g l < (bestA g l).2) : bestA g (l + 1) = bestA g l := if_neg h
