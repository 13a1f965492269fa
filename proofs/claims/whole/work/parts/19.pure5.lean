/-! what the class's own reads need -/
theorem river_3 {a : FSt} {b : BSt} {l p : Nat} (hwn : WFn b a) (h : bNe b (l * 60 + p) = false) : (0 : Int32) = nI (atA a l p 1) := by
  have h0 : atA a l p 1 = 0 := cnt_zero (fun k hk => by
    cases hs : spotA a l p 1 k
    · rfl
    · obtain ⟨h1, h2, h3⟩ := spotA_iff.mp hs
      have := hwn k hk h1
      rw [h2, h3, h] at this
      cases this)
  rw [h0]
  rfl
theorem next_go {b : BSt} {f p : Nat} (h : ¬ 0 < bSp b p) : nextF b (f + 1) p = nextF b f (p + 1) := if_neg h
theorem next_at {b : BSt} {f p : Nat} (h : 0 < bSp b p) : nextF b (f + 1) p = nI p := if_pos h
theorem nlt0 {x : Int32} : x ≤ 0 ↔ ¬ 0 < x := (nlt_iff 0 x).symm
theorem sum2 (a : FSt) : ∀ n : Nat, sumA a 2 n = nI (cnt n (fun k => qSt a k == 0))
  | 0 => rfl
  | n + 1 => by
    show sumA a 2 n + shareA a 2 n = _
    rw [sum2 a n]
    simp only [cnt]
    by_cases h : qSt a n = 0
    · simp [shareA, h]
      exact nI_1 _
    · simp [shareA, h]
theorem mean_le {a : FSt} (hw : WFa a) : sumA a 2 (qN a) ≤ 0 ↔ sumA a 2 (qN a) = 0 := by
  have h := cnt_small hw (fun k => qSt a k == 0)
  rw [sum2]
  constructor
  · intro h1
    rcases Nat.eq_zero_or_pos (cnt (qN a) (fun k => qSt a k == 0)) with e | e
    · rw [e]; rfl
    · exact absurd h1 (nI_nle e (by omega))
  · intro h1
    rw [h1]
    decide
theorem mean_0 {a : FSt} (hw : WFa a) (h : sumA a 2 (qN a) ≤ 0) : FP.dconst0 = meanA a := by
  unfold meanA tallyA
  rw [if_pos ((mean_le hw).mp h)]
  rfl
theorem mean_1 {a : FSt} (hw : WFa a) (h : ¬ sumA a 2 (qN a) ≤ 0) : FP.ddiv (FP.i2d (placesA a (qN a))) (FP.i2d (sumA a 2 (qN a))) = meanA a := by
  unfold meanA tallyA
  rw [if_neg (fun q => h ((mean_le hw).mpr q))]
theorem sum2_in {a : FSt} {i : Nat} (h : qSt a i = 0) : sumA a 2 (i + 1) = sumA a 2 i + 1 := by
  show sumA a 2 i + shareA a 2 i = _
  simp [shareA, h]
theorem sum2_out {a : FSt} {i : Nat} (h : ¬ qSt a i = 0) : sumA a 2 (i + 1) = sumA a 2 i := by
  show sumA a 2 i + shareA a 2 i = _
  simp [shareA, h]
theorem plc_in {a : FSt} {i : Nat} (h : qSt a i = 0) : placesA a (i + 1) = placesA a i + nI (qPl a i) := by
  show placesA a i + (if qSt a i = 0 then nI (qPl a i) else 0) = _
  rw [if_pos h]
theorem plc_out {a : FSt} {i : Nat} (h : ¬ qSt a i = 0) : placesA a (i + 1) = placesA a i := by
  show placesA a i + (if qSt a i = 0 then nI (qPl a i) else 0) = _
  rw [if_neg h, Int32.add_zero]
/-! what goes out stays out -/
theorem out_met {v : Int32} {a : FSt} {k i : Nat} (h : qBu a i = false) : qBu (metA v a k) i = false := bu_f (met_bu v a k i) (by rw [h]; exact Bool.noConfusion)
theorem out_step {b : BSt} {a : FSt} {k i : Nat} (h : qBu a i = false) : qBu (stepA b a k) i = false := by
  by_cases h60 : qPl a k + 1 = 60
  · rw [step_lost h60]
    show up (qBu a) k false i = false
    rcases up_cases (qBu a) k false i with ⟨-, e⟩ | ⟨-, e⟩ <;> rw [e]
    exact h
  · rw [step_on h60]
    have hm : qBu (metA (bSp b (qPl a k + 1)) (movA a k) k) i = false := out_met (show qBu (movA a k) i = false from h)
    unfold netA
    split
    · exact hm
    · exact hm
theorem out_drift {b : BSt} {k i : Nat} : ∀ (n : Nat) (a : FSt), qBu a i = false → qBu (driftN b n a k) i = false
  | 0, _, h => h
  | n + 1, a, h => by
    unfold driftN
    split
    · split
      · exact h
      · exact out_drift n _ (out_step h)
    · exact h
theorem out_float {b : BSt} {o : Nat → Nat} {a : FSt} {i : Nat} (h : qBu a i = false) : ∀ m : Nat, qBu (floatA b o m a) i = false
  | 0 => h
  | m + 1 => out_drift _ _ (out_float h m)
theorem out_wax {a : FSt} {k i : Nat} (h : qBu a i = false) : qBu (waxA a k) i = false := by
  unfold waxA
  split
  · split
    · show up (qBu a) k false i = false
      rcases up_cases (qBu a) k false i with ⟨-, e⟩ | ⟨-, e⟩ <;> rw [e]
      exact h
    · exact h
  · exact h
theorem out_burn {a : FSt} {i : Nat} (h : qBu a i = false) : ∀ m : Nat, qBu (burnA m a) i = false
  | 0 => h
  | m + 1 => out_wax (out_burn h m)
theorem out_min {b : BSt} {a : FSt} {i : Nat} (h : qBu a i = false) : qBu (minA b a) i = false := out_burn (out_float h _) _
theorem comes_out {b : BSt} {k : Nat} : ∀ (f m : Nat) (a : FSt), qBu a k = false → comesF b k f m a = 61
  | 0, _, _, _ => rfl
  | f + 1, m, a, h => by
    have h1 := out_min (b := b) h
    show (if qSt (minA b a) k = 1 ∧ qBu (minA b a) k = true then m else comesF b k f (m + 1) (minA b a)) = 61
    rw [if_neg (fun q => by rw [h1] at q; exact absurd q.2 (by decide)), comes_out f (m + 1) _ h1]
theorem comes_go {b : BSt} {k f m : Nat} {a : FSt} (h : ¬ (qSt (minA b a) k = 1 ∧ qBu (minA b a) k = true)) : comesF b k (f + 1) m a = comesF b k f (m + 1) (minA b a) := if_neg h
theorem comes_at {b : BSt} {k f m : Nat} {a : FSt} (h1 : qBu (minA b a) k = true) (h2 : qSt (minA b a) k = 1) : comesF b k (f + 1) m a = m := if_pos ⟨h2, h1⟩
theorem WFa_add {a : FSt} {f l p : Nat} {w : Int32} (h : WFa a) (hn : qN a ≤ 40) (hf : f < 3) (hl : l < 3) (hp : p < 60) : WFa (addA a f w l p) := by
  refine ⟨by show qN a + 1 ≤ 41; omega, fun i hi => ?_⟩
  change i < qN a + 1 at hi
  have e1 : qFr (addA a f w l p) i = up (qFr a) (qN a) f i := rfl
  have e2 : qLa (addA a f w l p) i = up (qLa a) (qN a) l i := rfl
  have e3 : qPl (addA a f w l p) i = up (qPl a) (qN a) p i := rfl
  have e4 : qSt (addA a f w l p) i = up (qSt a) (qN a) 0 i := rfl
  have e5 : qBu (addA a f w l p) i = up (qBu a) (qN a) true i := rfl
  have e6 : qWx (addA a f w l p) i = up (qWx a) (qN a) (waxOf f) i := rfl
  rw [e1, e2, e3, e4, e5, e6]
  by_cases hi2 : i = qN a
  · subst hi2
    rw [up_s, up_s, up_s, up_s, up_s, up_s]
    have hx : 0 < waxOf f ∧ waxOf f ≤ 45 := by unfold waxOf; split <;> (try split) <;> decide
    exact ⟨hf, hl, by omega, by decide, fun _ => hp, fun q => absurd q (by decide), hx.2, fun _ _ => hx.1⟩
  · rw [up_n hi2, up_n hi2, up_n hi2, up_n hi2, up_n hi2, up_n hi2]
    exact h.2 i (by omega)
theorem CRa_add {a : FSt} {c : Nat → Int32} {f l p : Nat} {w : Int32} (h : CRa a c) (hf : f < 3) (hl : l < 3) : CRa (addA a f w l p) (cby (addA a f w l p) c (qN a) 1) := by
  have ha : ∀ j, j ≠ qN a → ∀ l' p' f', spotF (addA a f w l p) l' p' f' j = spotF a l' p' f' j := fun j hj l' p' f' => by
    have e1 : qFr (addA a f w l p) j = qFr a j := up_n hj
    have e2 : qLa (addA a f w l p) j = qLa a j := up_n hj
    have e3 : qPl (addA a f w l p) j = qPl a j := up_n hj
    have e4 : qSt (addA a f w l p) j = qSt a j := up_n hj
    unfold spotF
    rw [e1, e2, e3, e4]
  have hx : CRx (addA a f w l p) c (qN a) := fun l' p' f' h1 h2 h3 => by
    rw [h l' p' f' h1 h2 h3]
    congr 1
    show cnt (qN a) _ = cnt (qN a) _ + (if (spotF (addA a f w l p) l' p' f' (qN a) && qN a != qN a) = true then 1 else 0)
    rw [if_neg (by simp), Nat.add_zero]
    exact cnt_congr _ (fun j hj => by rw [ha j (by omega)]; simp [show j ≠ qN a by omega])
  refine CR_in hx rfl (fun _ _ _ _ _ => rfl) ⟨?_, ?_⟩ (Nat.lt_succ_self _) ?_
  · show up (qLa a) (qN a) l (qN a) < 3; rw [up_s]; exact hl
  · show up (qFr a) (qN a) f (qN a) < 3; rw [up_s]; exact hf
  · show up (qSt a) (qN a) 0 (qN a) = 0; rw [up_s]
