/-! a step, a drift, a minute: what they keep -/
theorem met_same (v : Int32) (a : FSt) (k : Nat) : qN (metA v a k) = qN a ∧ qFr (metA v a k) = qFr a ∧ qLa (metA v a k) = qLa a ∧ qPl (metA v a k) = qPl a ∧ qSt (metA v a k) = qSt a ∧ qWx (metA v a k) = qWx a ∧ qM (metA v a k) = qM a := by
  unfold metA dryA
  split
  · split <;> exact ⟨rfl, rfl, rfl, rfl, rfl, rfl, rfl⟩
  · exact ⟨rfl, rfl, rfl, rfl, rfl, rfl, rfl⟩
theorem met_bu (v : Int32) (a : FSt) (k i : Nat) : qBu (metA v a k) i = true → qBu a i = true := by
  unfold metA dryA
  split
  · split
    · intro h
      change up (qBu a) k false i = true at h
      rcases up_cases (qBu a) k false i with ⟨-, e⟩ | ⟨-, e⟩ <;> rw [e] at h
      · cases h
      · exact h
    · exact fun h => h
  · exact fun h => h
theorem bu_f {x : Bool} {P : Prop} (h : x = true → P) (hn : ¬ P) : x = false := by cases x with
  | false => rfl
  | true => exact absurd (h rfl) hn
theorem WFa_met {a : FSt} (v : Int32) (k : Nat) (h : WFa a) : WFa (metA v a k) := by
  obtain ⟨e1, e2, e3, e4, e5, e6, -⟩ := met_same v a k
  refine ⟨by rw [e1]; exact h.1, fun i hi => ?_⟩
  rw [e1] at hi
  obtain ⟨h1, h2, h3, h4, h5, h6, h7, h8⟩ := h.2 i hi
  rw [e2, e3, e4, e5, e6]
  exact ⟨h1, h2, h3, h4, h5, fun hs => bu_f (met_bu v a k i) (by rw [h6 hs]; exact Bool.noConfusion), h7, fun hs hb => h8 hs (met_bu v a k i hb)⟩
theorem WFa_mov {a : FSt} {k : Nat} (h : WFa a) (h6 : qPl a k + 1 < 60) : WFa (movA a k) := by
  refine ⟨h.1, fun i hi => ?_⟩
  obtain ⟨h1, h2, h3, h4, h5, h6', h7, h8⟩ := h.2 i hi
  refine ⟨h1, h2, ?_, h4, ?_, h6', h7, h8⟩
  · show up (qPl a) k (qPl a k + 1) i ≤ 60
    rcases up_cases (qPl a) k (qPl a k + 1) i with ⟨-, e⟩ | ⟨-, e⟩ <;> rw [e] <;> omega
  · intro hs
    show up (qPl a) k (qPl a k + 1) i < 60
    rcases up_cases (qPl a) k (qPl a k + 1) i with ⟨-, e⟩ | ⟨-, e⟩ <;> rw [e]
    · exact h6
    · exact h5 hs
theorem WFa_end1 {a : FSt} {k : Nat} (h : WFa a) : WFa (endA a k 1) := by
  refine ⟨h.1, fun i hi => ?_⟩
  obtain ⟨h1, h2, h3, h4, h5, h6, h7, h8⟩ := h.2 i hi
  have hc : (i = k ∧ qSt (endA a k 1) i = 1) ∨ (i ≠ k ∧ qSt (endA a k 1) i = qSt a i) := up_cases (qSt a) k 1 i
  refine ⟨h1, h2, h3, ?_, ?_, ?_, h7, ?_⟩ <;> rcases hc with ⟨-, e⟩ | ⟨-, e⟩ <;> rw [e]
  · decide
  · exact h4
  · exact fun q => absurd q (by decide)
  · exact h5
  · exact fun q => absurd q (by decide)
  · exact h6
  · exact fun q => absurd q (by decide)
  · exact h8
theorem WFa_lost {a : FSt} {k : Nat} (h : WFa a) (h6 : qPl a k + 1 = 60) : WFa (outA (endA (movA a k) k 2) k) := by
  refine ⟨h.1, fun i hi => ?_⟩
  obtain ⟨h1, h2, h3, h4, h5, h6', h7, h8⟩ := h.2 i hi
  by_cases hik : i = k
  · subst hik
    refine ⟨h1, h2, ?_, ?_, ?_, ?_, h7, ?_⟩
    · show up (qPl a) i (qPl a i + 1) i ≤ 60
      rw [up_s]; omega
    · show up (qSt a) i 2 i < 3
      rw [up_s]; decide
    · intro q
      change up (qSt a) i 2 i = 0 at q
      rw [up_s] at q
      exact absurd q (by decide)
    · intro _
      show up (qBu a) i false i = false
      rw [up_s]
    · intro q
      change up (qSt a) i 2 i = 0 at q
      rw [up_s] at q
      exact absurd q (by decide)
  · have e1 : qPl (outA (endA (movA a k) k 2) k) i = qPl a i := up_n hik
    have e2 : qSt (outA (endA (movA a k) k 2) k) i = qSt a i := up_n hik
    have e3 : qBu (outA (endA (movA a k) k 2) k) i = qBu a i := up_n hik
    rw [e1, e2, e3]
    exact ⟨h1, h2, h3, h4, h5, h6', h7, h8⟩
theorem mov_at (a : FSt) (k : Nat) : qPl (movA a k) k = qPl a k + 1 := up_s
theorem step_lost {b : BSt} {a : FSt} {k : Nat} (h : qPl a k + 1 = 60) : stepA b a k = outA (endA (movA a k) k 2) k := if_pos h
theorem step_on {b : BSt} {a : FSt} {k : Nat} (h : ¬ qPl a k + 1 = 60) : stepA b a k = netA b (metA (bSp b (qPl a k + 1)) (movA a k) k) k := by
  unfold stepA
  rw [if_neg h, ← met_weir, mov_at]
theorem net_at {b : BSt} {a : FSt} {k : Nat} (v : Int32) (h : bNe b (qLa a k * 60 + (qPl a k + 1)) = true) : netA b (metA v (movA a k) k) k = endA (metA v (movA a k) k) k 1 := by
  obtain ⟨-, -, e3, e4, -⟩ := met_same v (movA a k) k
  unfold netA
  rw [e3, e4, mov_at, show qLa (movA a k) = qLa a from rfl, if_pos h]
theorem net_no {b : BSt} {a : FSt} {k : Nat} (v : Int32) (h : bNe b (qLa a k * 60 + (qPl a k + 1)) = false) : netA b (metA v (movA a k) k) k = metA v (movA a k) k := by
  obtain ⟨-, -, e3, e4, -⟩ := met_same v (movA a k) k
  unfold netA
  rw [e3, e4, mov_at, show qLa (movA a k) = qLa a from rfl, h]
  rfl
theorem step_keep {b : BSt} {a : FSt} {k : Nat} (hw : WFa a) (hk : k < qN a) (hs : qSt a k = 0) : WFa (stepA b a k) ∧ qN (stepA b a k) = qN a ∧ qLa (stepA b a k) = qLa a ∧ qFr (stepA b a k) = qFr a ∧ qM (stepA b a k) = qM a := by
  by_cases h : qPl a k + 1 = 60
  · rw [step_lost h]
    exact ⟨WFa_lost hw h, rfl, rfl, rfl, rfl⟩
  · have h5 := (hw.2 k hk).2.2.2.2.1 hs
    have hm := WFa_met (bSp b (qPl a k + 1)) k (WFa_mov (k := k) hw (by omega))
    obtain ⟨e1, e2, e3, -, -, -, e7⟩ := met_same (bSp b (qPl a k + 1)) (movA a k) k
    rw [step_on h]
    cases hn : bNe b (qLa a k * 60 + (qPl a k + 1))
    · rw [net_no _ hn]
      exact ⟨hm, e1, e3, e2, e7⟩
    · rw [net_at _ hn]
      exact ⟨WFa_end1 hm, e1, e3, e2, e7⟩
theorem drift_keep {b : BSt} {k : Nat} : ∀ (n : Nat) (a : FSt), WFa a → k < qN a → WFa (driftN b n a k) ∧ qN (driftN b n a k) = qN a ∧ qLa (driftN b n a k) = qLa a ∧ qFr (driftN b n a k) = qFr a ∧ qM (driftN b n a k) = qM a
  | 0, a, hw, _ => ⟨hw, rfl, rfl, rfl, rfl⟩
  | n + 1, a, hw, hk => by
    unfold driftN
    split
    · next hs =>
      split
      · exact ⟨hw, rfl, rfl, rfl, rfl⟩
      · obtain ⟨g1, g2, g3, g4, g5⟩ := step_keep (b := b) hw hk hs
        obtain ⟨r1, r2, r3, r4, r5⟩ := drift_keep n (stepA b a k) g1 (by rw [g2]; exact hk)
        exact ⟨r1, r2.trans g2, r3.trans g3, r4.trans g4, r5.trans g5⟩
    · exact ⟨hw, rfl, rfl, rfl, rfl⟩
theorem drift_stop {b : BSt} {k : Nat} {a : FSt} (h : ¬ qSt a k = 0 ∨ caughtA a k = true) : ∀ n : Nat, driftN b n a k = a
  | 0 => rfl
  | n + 1 => by
    unfold driftN
    rcases h with h | h
    · rw [if_neg h]
    · split
      · first | rfl | rw [if_pos h]
      · rfl
theorem drift_go {b : BSt} {k n : Nat} {a : FSt} (h1 : qSt a k = 0) (h2 : caughtA a k = false) : driftN b (n + 1) a k = driftN b n (stepA b a k) k := by
  show (if qSt a k = 0 then (if caughtA a k = true then a else driftN b n (stepA b a k) k) else a) = _
  rw [if_pos h1, h2]
  rfl
theorem float_keep {b : BSt} {o : Nat → Nat} {a : FSt} : ∀ (m : Nat), WFa a → (∀ j, j < m → o j < qN a) → WFa (floatA b o m a) ∧ qN (floatA b o m a) = qN a ∧ qFr (floatA b o m a) = qFr a ∧ qM (floatA b o m a) = qM a
  | 0, hw, _ => ⟨hw, rfl, rfl, rfl⟩
  | m + 1, hw, ho => by
    obtain ⟨g1, g2, g3, g4⟩ := float_keep (b := b) m hw (fun j hj => ho j (by omega))
    obtain ⟨r1, r2, -, r4, r5⟩ := drift_keep (b := b) (k := o m) (bCu b (qLa (floatA b o m a) (o m))) (floatA b o m a) g1 (by rw [g2]; exact ho m (by omega))
    exact ⟨r1, r2.trans g2, r4.trans g3, r5.trans g4⟩
/-! the order's places are lanterns that are afloat -/
theorem shift_ok {P : Nat → Bool} {V : Nat → Prop} : ∀ (m : Nat) (g : Nat → Nat), (∀ j, j < m → V (g j)) → (shiftO P m g).1 ≤ m ∧ ∀ j, j ≤ m → j ≠ (shiftO P m g).1 → V ((shiftO P m g).2 j)
  | 0, g, _ => ⟨Nat.le_refl 0, fun j hj hn => absurd (Nat.le_zero.mp hj) hn⟩
  | m + 1, g, h => by
    unfold shiftO
    split
    · obtain ⟨h1, h2⟩ := shift_ok (P := P) m (up g (m + 1) (g m)) (fun j hj => by rw [up_n (by omega)]; exact h j (by omega))
      refine ⟨by omega, fun j hj hn => ?_⟩
      by_cases e : j = m + 1
      · subst e
        have h3 : ∀ (t : Nat) (g' : Nat → Nat), t ≤ m → (shiftO P t g').2 (m + 1) = g' (m + 1) := by
          intro t
          induction t with
          | zero => intro g' _; rfl
          | succ t ih =>
            intro g' ht
            unfold shiftO
            split
            · rw [ih _ (by omega), up_n (by omega)]
            · rfl
        rw [h3 m _ (Nat.le_refl m), up_s]
        exact h m (by omega)
      · exact h2 j (by omega) hn
    · exact ⟨Nat.le_refl _, fun j hj hn => h j (by simp only at hn; omega)⟩
theorem ins_ok {P : Nat → Bool} {V : Nat → Prop} {k m : Nat} {g : Nat → Nat} (h : ∀ j, j < m → V (g j)) (hk : V k) : ∀ j, j < m + 1 → V (insO P k m g j) := fun j hj => by
  obtain ⟨-, h2⟩ := shift_ok (P := P) m g h
  unfold insO
  rcases up_cases (shiftO P m g).2 (shiftO P m g).1 k j with ⟨-, e⟩ | ⟨en, e⟩ <;> rw [e]
  · exact hk
  · exact h2 j (by omega) en
theorem sort_ok {a : FSt} : ∀ i : Nat, (sortN a i).1 ≤ i ∧ ∀ j, j < (sortN a i).1 → (sortN a i).2 j < i ∧ qSt a ((sortN a i).2 j) = 0
  | 0 => ⟨Nat.le_refl 0, fun j hj => absurd hj (Nat.not_lt_zero j)⟩
  | i + 1 => by
    obtain ⟨h1, h2⟩ := sort_ok (a := a) i
    unfold sortN
    split
    · next hs =>
      refine ⟨by simp only; omega, fun j hj => ?_⟩
      exact ins_ok (V := fun x => x < i + 1 ∧ qSt a x = 0) (fun j hj => ⟨Nat.lt_succ_of_lt (h2 j hj).1, (h2 j hj).2⟩) ⟨Nat.lt_succ_self i, hs⟩ j hj
    · exact ⟨by omega, fun j hj => ⟨Nat.lt_succ_of_lt (h2 j hj).1, (h2 j hj).2⟩⟩
theorem ord_ok (a : FSt) : ordM a ≤ qN a ∧ ∀ j, j < ordM a → ordF a j < qN a ∧ qSt a (ordF a j) = 0 := sort_ok (qN a)
theorem WFa_tick {a : FSt} (h : WFa a) : WFa (tickA a) := h
theorem min_keep {b : BSt} {a : FSt} (hw : WFa a) : WFa (minA b a) ∧ qN (minA b a) = qN a ∧ qFr (minA b a) = qFr a := by
  obtain ⟨g1, g2, g3, g4⟩ := float_keep (b := b) (ordM a) hw (fun j hj => ((ord_ok a).2 j hj).1)
  obtain ⟨r1, r2, -⟩ := burn_same (floatA b (ordF a) (ordM a) a) (qN a)
  exact ⟨WFa_tick (WFa_burn g1 (qN a)), r1.trans g2, r2.trans g3⟩
theorem mins_keep {b : BSt} {a : FSt} (hw : WFa a) : ∀ m : Nat, WFa (minsA b m a) ∧ qN (minsA b m a) = qN a
  | 0 => ⟨hw, rfl⟩
  | m + 1 => by
    obtain ⟨g1, g2⟩ := mins_keep (b := b) hw m
    obtain ⟨r1, r2, -⟩ := min_keep (b := b) g1
    exact ⟨r1, r2.trans g2⟩
theorem shift_0 {P : Nat → Bool} {g : Nat → Nat} : shiftO P 0 g = (0, g) := rfl
theorem shift_go {P : Nat → Bool} {t : Nat} {g : Nat → Nat} (h : P (g t) = true) : shiftO P (t + 1) g = shiftO P t (up g (t + 1) (g t)) := by
  show (if P (g t) = true then _ else _) = _
  rw [if_pos h]
theorem shift_stop {P : Nat → Bool} {t : Nat} {g : Nat → Nat} (h : ¬ P (g t) = true) : shiftO P (t + 1) g = (t + 1, g) := by
  show (if P (g t) = true then _ else _) = _
  rw [if_neg h]
theorem sort_in {a : FSt} {i : Nat} (h : qSt a i = 0) : sortN a (i + 1) = ((sortN a i).1 + 1, insO (aheadA a i) i (sortN a i).1 (sortN a i).2) := by
  show (if qSt a i = 0 then _ else _) = _
  rw [if_pos h]
theorem sort_out {a : FSt} {i : Nat} (h : ¬ qSt a i = 0) : sortN a (i + 1) = sortN a i := by
  show (if qSt a i = 0 then _ else _) = _
  rw [if_neg h]
/-- the queue holds the order's keys, as far as n -/
def QK (a : FSt) (g : Nat → Int32) (o : Nat → Nat) (n : Nat) : Prop := ∀ j, j < n → g j = nI (keyA a (o j))
/-- .. with a hole at t -/
def QH (a : FSt) (g : Nat → Int32) (o : Nat → Nat) (m t i : Nat) : Prop := ∀ j, j ≤ m → j ≠ t → g j = nI (keyA a (o j)) ∧ o j < i ∧ qSt a (o j) = 0
theorem QH_start {a : FSt} {g : Nat → Int32} {i : Nat} (h : QK a g (sortN a i).2 (sortN a i).1) : QH a g (sortN a i).2 (sortN a i).1 (sortN a i).1 i := fun j h1 h2 => ⟨h j (by omega), (sort_ok i).2 j (by omega)⟩
theorem QH_step {a : FSt} {g : Nat → Int32} {o : Nat → Nat} {m t i : Nat} (ht : t + 1 ≤ m) (h : QH a g o m (t + 1) i) : QH a (up g (t + 1) (g t)) (up o (t + 1) (o t)) m t i := fun j h1 h2 => by
  have h3 := h t (by omega) (by omega)
  rcases up_cases o (t + 1) (o t) j with ⟨ej, e⟩ | ⟨ej, e⟩
  · subst ej
    rw [e, up_s]
    exact h3
  · rw [e, up_n ej]
    exact h j h1 ej
theorem QH_end {a : FSt} {g : Nat → Int32} {o : Nat → Nat} {m t i : Nat} (h : QH a g o m t i) {P : Nat → Bool} {g0 : Nat → Nat} (he : shiftO P m g0 = (t, o)) : QK a (up g t (nI (keyA a i))) (insO P i m g0) (m + 1) := fun j hj => by
  unfold insO
  rw [he]
  rcases up_cases o t i j with ⟨ej, e⟩ | ⟨ej, e⟩
  · rw [e, ej, up_s]
  · rw [e, up_n ej]
    exact (h j (by omega) ej).1
