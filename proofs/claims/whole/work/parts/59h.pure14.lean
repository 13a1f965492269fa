theorem WFn_of {b : BSt} {a a' : FSt} (k : Nat) (h : WFn b a) (hN : qN a' = qN a) (ho : ∀ i, i ≠ k → qSt a' i = qSt a i ∧ qLa a' i = qLa a i ∧ qPl a' i = qPl a i) (hk : qSt a' k = 1 → bNe b (qLa a' k * 60 + qPl a' k) = true) : WFn b a' := fun i hi hs => by
  by_cases e : i = k
  · subst e; exact hk hs
  · obtain ⟨o1, o2, o3⟩ := ho i e
    rw [o1] at hs; rw [o2, o3]; rw [hN] at hi
    exact h i hi hs
theorem WFn_step {b : BSt} {a : FSt} {k : Nat} (hw : WFn b a) (hs : qSt a k = 0) : WFn b (stepA b a k) := by
  by_cases h : qPl a k + 1 = 60
  · rw [step_lost h]
    refine WFn_of k hw rfl (fun i hi => ⟨up_n hi, rfl, up_n hi⟩) (fun q => ?_)
    have e : qSt (outA (endA (movA a k) k 2) k) k = 2 := up_s
    rw [e] at q; exact absurd q (by decide)
  · obtain ⟨e1, e2, e3, e4, e5, -, e7⟩ := met_same (bSp b (qPl a k + 1)) (movA a k) k
    rw [step_on h]
    cases hn : bNe b (qLa a k * 60 + (qPl a k + 1))
    · rw [net_no _ hn]
      refine WFn_of k hw e1 (fun i hi => ⟨by rw [e5]; rfl, by rw [e3]; rfl, by rw [e4]; exact up_n hi⟩) (fun q => ?_)
      rw [e5] at q
      have q2 : qSt a k = 1 := q
      rw [hs] at q2; exact absurd q2 (by decide)
    · rw [net_at _ hn]
      have p1 : ∀ i, qPl (endA (metA (bSp b (qPl a k + 1)) (movA a k) k) k 1) i = up (qPl a) k (qPl a k + 1) i := fun i => by
        show qPl (metA (bSp b (qPl a k + 1)) (movA a k) k) i = _
        rw [e4]; rfl
      have p2 : ∀ i, qLa (endA (metA (bSp b (qPl a k + 1)) (movA a k) k) k 1) i = qLa a i := fun i => by
        show qLa (metA (bSp b (qPl a k + 1)) (movA a k) k) i = _
        rw [e3]; rfl
      have p3 : ∀ i, i ≠ k → qSt (endA (metA (bSp b (qPl a k + 1)) (movA a k) k) k 1) i = qSt a i := fun i hi => by
        show up (qSt (metA (bSp b (qPl a k + 1)) (movA a k) k)) k 1 i = _
        rw [up_n hi, e5]; rfl
      exact WFn_of k hw e1 (fun i hi => ⟨p3 i hi, p2 i, by rw [p1]; exact up_n hi⟩) (fun _ => by rw [p1, p2, up_s]; exact hn)
theorem WFn_drift {b : BSt} {k : Nat} : ∀ (n : Nat) (a : FSt), WFn b a → WFn b (driftN b n a k)
  | 0, _, hw => hw
  | n + 1, a, hw => by
    unfold driftN
    split
    · next hs =>
      split
      · exact hw
      · exact WFn_drift n _ (WFn_step hw hs)
    · exact hw
theorem WFn_float {b : BSt} {o : Nat → Nat} {a : FSt} (hw : WFn b a) : ∀ m : Nat, WFn b (floatA b o m a)
  | 0 => hw
  | m + 1 => WFn_drift _ _ (WFn_float hw m)
theorem WFn_min {b : BSt} {a : FSt} (hw : WFn b a) : WFn b (minA b a) := WFn_burn (WFn_float hw (ordM a)) (qN a)
theorem WFn_mins {b : BSt} {a : FSt} (hw : WFn b a) : ∀ m : Nat, WFn b (minsA b m a)
  | 0 => hw
  | m + 1 => WFn_min (WFn_mins hw m)
