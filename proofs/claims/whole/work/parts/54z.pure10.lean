def cnt0 (a : FSt) (b : BSt) : Nat → Int32 := fun j => if j = 0 then qM a else if j = 1 then nI (qN a) else if j = 7 then nI (bW b) else if j = 8 then nI (bK b) else 0
theorem cnt0_base (a : FSt) (b : BSt) : ∀ j, j < 10 → (upd (upd (upd (upd (upd (upd (upd (upd (upd (upd (fun _ => 0) 0 (qM a)) 1 (nI (qN a))) 2 0) 3 0) 4 0) 5 0) 6 0) 7 (nI (bW b))) 8 (nI (bK b))) 9 0) j = cnt0 a b j := fun j hj => by
  rcases (show j = 0 ∨ j = 1 ∨ j = 2 ∨ j = 3 ∨ j = 4 ∨ j = 5 ∨ j = 6 ∨ j = 7 ∨ j = 8 ∨ j = 9 by omega) with rfl | rfl | rfl | rfl | rfl | rfl | rfl | rfl | rfl | rfl <;> rfl
def cntS (a : FSt) (k : Nat) (g : Nat → Int32) : Nat → Int32 :=
  if qBu a k = true then upd (upd (upd g (2 + qSt a k) (g (2 + qSt a k) + 1)) (5 + qSt a k) ((upd g (2 + qSt a k) (g (2 + qSt a k) + 1)) (5 + qSt a k) + 1)) 9 ((upd (upd g (2 + qSt a k) (g (2 + qSt a k) + 1)) (5 + qSt a k) ((upd g (2 + qSt a k) (g (2 + qSt a k) + 1)) (5 + qSt a k) + 1)) 9 + (if qSt a k = 1 then qWi a k else 0))
  else upd g (2 + qSt a k) (g (2 + qSt a k) + 1)
def cntR (a : FSt) (b : BSt) (k : Nat) : Nat → Int32 := itr (fun k g => cntS a k g) k (cnt0 a b)
def isT (j : Nat) : Bool := j == 2 || j == 3 || j == 4 || j == 5 || j == 6 || j == 9
theorem cntR_at {a : FSt} {b : BSt} (hw : WFa a) : ∀ k : Nat, k ≤ qN a → ∀ j, j < 10 → cntR a b k j = if isT j = true then sumA a j k else cnt0 a b j
  | 0, _, j, hj => by
    rcases (show j = 0 ∨ j = 1 ∨ j = 2 ∨ j = 3 ∨ j = 4 ∨ j = 5 ∨ j = 6 ∨ j = 7 ∨ j = 8 ∨ j = 9 by omega) with rfl | rfl | rfl | rfl | rfl | rfl | rfl | rfl | rfl | rfl <;> rfl
  | k + 1, hk, j, hj => by
    have ih := cntR_at (b := b) hw k (by omega)
    obtain ⟨w1, w2, w3, w4, w5, w6, w7, w8⟩ := hw.2 k (by omega)
    have hs : ∀ j, sumA a j (k + 1) = sumA a j k + shareA a j k := fun _ => rfl
    show cntS a k (cntR a b k) j = _
    rw [hs]
    have ihj := ih j hj
    have i2 := ih 2 (by decide)
    have i3 := ih 3 (by decide)
    have i4 := ih 4 (by decide)
    have i5 := ih 5 (by decide)
    have i6 := ih 6 (by decide)
    have i9 := ih 9 (by decide)
    rcases (show qSt a k = 0 ∨ qSt a k = 1 ∨ qSt a k = 2 by omega) with e | e | e
    · cases hb : qBu a k
      · rcases (show j = 0 ∨ j = 1 ∨ j = 2 ∨ j = 3 ∨ j = 4 ∨ j = 5 ∨ j = 6 ∨ j = 7 ∨ j = 8 ∨ j = 9 by omega) with rfl | rfl | rfl | rfl | rfl | rfl | rfl | rfl | rfl | rfl <;> simp_all [cntS, upd, isT, shareA, bi]
      · rcases (show j = 0 ∨ j = 1 ∨ j = 2 ∨ j = 3 ∨ j = 4 ∨ j = 5 ∨ j = 6 ∨ j = 7 ∨ j = 8 ∨ j = 9 by omega) with rfl | rfl | rfl | rfl | rfl | rfl | rfl | rfl | rfl | rfl <;> simp_all [cntS, upd, isT, shareA, bi]
    · cases hb : qBu a k
      · rcases (show j = 0 ∨ j = 1 ∨ j = 2 ∨ j = 3 ∨ j = 4 ∨ j = 5 ∨ j = 6 ∨ j = 7 ∨ j = 8 ∨ j = 9 by omega) with rfl | rfl | rfl | rfl | rfl | rfl | rfl | rfl | rfl | rfl <;> simp_all [cntS, upd, isT, shareA, bi]
      · rcases (show j = 0 ∨ j = 1 ∨ j = 2 ∨ j = 3 ∨ j = 4 ∨ j = 5 ∨ j = 6 ∨ j = 7 ∨ j = 8 ∨ j = 9 by omega) with rfl | rfl | rfl | rfl | rfl | rfl | rfl | rfl | rfl | rfl <;> simp_all [cntS, upd, isT, shareA, bi]
    · have hb := w6 e
      rcases (show j = 0 ∨ j = 1 ∨ j = 2 ∨ j = 3 ∨ j = 4 ∨ j = 5 ∨ j = 6 ∨ j = 7 ∨ j = 8 ∨ j = 9 by omega) with rfl | rfl | rfl | rfl | rfl | rfl | rfl | rfl | rfl | rfl <;> simp_all [cntS, upd, isT, shareA, bi]
theorem cntR_count {a : FSt} {b : BSt} {w : Nat} (hw : WFa a) (h : w ≤ 9) : cntR a b (qN a) w = countA a b w := by
  rw [cntR_at hw (qN a) (Nat.le_refl _) w (by omega)]
  rcases (show w = 0 ∨ w = 1 ∨ w = 2 ∨ w = 3 ∨ w = 4 ∨ w = 5 ∨ w = 6 ∨ w = 7 ∨ w = 8 ∨ w = 9 by omega) with rfl | rfl | rfl | rfl | rfl | rfl | rfl | rfl | rfl | rfl <;> rfl
