theorem WFa_push {a : FSt} {k l : Nat} (h : WFa a) (hl : l < 3) : WFa (uLa a (up (qLa a) k l)) := by
  refine ⟨h.1, fun i hi => ?_⟩
  obtain ⟨h1, h2, h3, h4, h5, h6, h7, h8⟩ := h.2 i hi
  refine ⟨h1, ?_, h3, h4, h5, h6, h7, h8⟩
  show up (qLa a) k l i < 3
  rcases up_cases (qLa a) k l i with ⟨-, e⟩ | ⟨-, e⟩ <;> rw [e]
  · exact hl
  · exact h2
theorem WFn_push {b : BSt} {a : FSt} {k l : Nat} (h : WFn b a) (hs : qSt a k = 0) : WFn b (uLa a (up (qLa a) k l)) :=
  WFn_of k h rfl (fun i hi => ⟨rfl, up_n hi, rfl⟩) (fun q => by
    have q2 : qSt a k = 1 := q
    rw [hs] at q2; exact absurd q2 (by decide))
theorem WFa_light {a : FSt} {k : Nat} (h : WFa a) (hs : qSt a k = 0) (hx : 0 < qWx a k) : WFa (uBu a (up (qBu a) k true)) := by
  refine ⟨h.1, fun i hi => ?_⟩
  obtain ⟨h1, h2, h3, h4, h5, h6, h7, h8⟩ := h.2 i hi
  refine ⟨h1, h2, h3, h4, h5, ?_, h7, ?_⟩
  · intro q
    have q2 : qSt a i = 2 := q
    show up (qBu a) k true i = false
    rcases up_cases (qBu a) k true i with ⟨e0, -⟩ | ⟨-, e⟩
    · rw [e0, hs] at q2; exact absurd q2 (by decide)
    · rw [e]; exact h6 q2
  · intro q1 q2
    have q3 : up (qBu a) k true i = true := q2
    show 0 < qWx a i
    rcases up_cases (qBu a) k true i with ⟨e0, -⟩ | ⟨-, e⟩
    · rw [e0]; exact hx
    · rw [e] at q3; exact h8 q1 q3
theorem WFa_out {a : FSt} {k : Nat} (h : WFa a) : WFa (outA a k) := by
  refine ⟨h.1, fun i hi => ?_⟩
  obtain ⟨h1, h2, h3, h4, h5, h6, h7, h8⟩ := h.2 i hi
  refine ⟨h1, h2, h3, h4, h5, ?_, h7, ?_⟩
  · intro q
    show up (qBu a) k false i = false
    rcases up_cases (qBu a) k false i with ⟨-, e⟩ | ⟨-, e⟩ <;> rw [e]
    exact h6 q
  · intro q1 q2
    have q3 : up (qBu a) k false i = true := q2
    rcases up_cases (qBu a) k false i with ⟨-, e⟩ | ⟨-, e⟩ <;> rw [e] at q3
    · exact absurd q3 (by decide)
    · exact h8 q1 q3
theorem WFn_bu {b : BSt} {a : FSt} {f : Nat → Bool} (h : WFn b a) : WFn b (uBu a f) := h
theorem CRa_bu {a : FSt} {c : Nat → Int32} {f : Nat → Bool} (h : CRa a c) : CRa (uBu a f) c := h
theorem WFn_add {b : BSt} {a : FSt} {f l p : Nat} {w : Int32} (h : WFn b a) : WFn b (addA a f w l p) := fun i hi hs => by
  by_cases e : i = qN a
  · subst e
    have q : up (qSt a) (qN a) 0 (qN a) = 1 := hs
    rw [up_s] at q; exact absurd q (by decide)
  · have q : up (qSt a) (qN a) 0 i = 1 := hs
    rw [up_n e] at q
    have hi2 : i < qN a + 1 := hi
    show bNe b (up (qLa a) (qN a) l i * 60 + up (qPl a) (qN a) p i) = true
    rw [up_n e, up_n e]
    exact h i (by omega) q
theorem CRa_zero : CRa zF (fun _ => 0) := fun _ _ _ _ _ _ => rfl
