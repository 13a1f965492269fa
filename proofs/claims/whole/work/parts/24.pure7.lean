/-! the numbers of a throw -/
theorem isW_iff {x lo hi : Int32} : isW x lo hi = true ↔ lo ≤ x ∧ x ≤ hi := by simp [isW]
theorem isW_nat {x : Int32} {n : Nat} (h : isW x 0 (nI n) = true) (hn : n < 2 ^ 31) : ∃ k : Nat, k ≤ n ∧ x = nI k := by
  obtain ⟨h1, h2⟩ := isW_iff.mp h
  exact nI_of2 (nI_toInt hn) ((nlt_iff x 0).mpr h1) h2
theorem isW_0 {x hi : Int32} (h : isW x 1 hi = true) : isW x 0 hi = true := by
  obtain ⟨h1, h2⟩ := isW_iff.mp h
  refine isW_iff.mpr ⟨?_, h2⟩
  rw [Int32.le_iff_toInt_le] at h1 ⊢
  have e1 : (1 : Int32).toInt = 1 := rfl
  have e0 : (0 : Int32).toInt = 0 := rfl
  omega
theorem isW_pos {k n : Nat} (h : isW (nI k) 1 (nI n) = true) (hk : k < 2 ^ 31) : 1 ≤ k := by
  obtain ⟨h1, -⟩ := isW_iff.mp h
  exact (nI_leI (a := 1) (b := k) (by decide) hk).mp h1
def cdCurrent (la cu : Int32) : Nat := if isW la 0 2 = false then 1 else if isW cu 1 5 = false then 2 else 0
def cdWeir (b : BSt) (pl v : Int32) : Nat := if isW pl 1 59 = false then 1 else if isW v 1 9 = false then 2 else if bW b = 6 ∨ 0 < bSp b pl.toNatClampNeg then 3 else 0
def cdNet (b : BSt) (la pl : Int32) : Nat := if isW la 0 2 = false ∨ isW pl 1 59 = false then 1 else if bK b = 4 ∨ bNe b (la.toNatClampNeg * 60 + pl.toNatClampNeg) = true then 2 else 0
def cdRiver (la pl w : Int32) : Nat := if isW la 0 2 = false ∨ isW pl 0 59 = false ∨ isW w 0 3 = false then 1 else 0
def cdLaunch (a : FSt) (f w la pl : Int32) : Nat := if isW f 0 2 = false ∨ isW la 0 2 = false ∨ isW pl 0 59 = false then 1 else if isW w 0 999 = false then 2 else if qN a = 40 then 3 else 0
def isLan (a : FSt) (k : Int32) : Bool := isW k 0 (nI (qN a) - 1)
def cdPush (a : FSt) (k la : Int32) : Nat := if isLan a k = false ∨ isW la 0 2 = false then 1 else if qSt a k.toNatClampNeg = 0 then 0 else 2
def cdLight (a : FSt) (k : Int32) : Nat := if isLan a k = false then 1 else if qSt a k.toNatClampNeg = 0 ∧ litA a k.toNatClampNeg = true then 0 else 2
def cdBlow (a : FSt) (k : Int32) : Nat := if isLan a k = false then 1 else if qSt a k.toNatClampNeg = 0 ∧ qBu a k.toNatClampNeg = true then 0 else 2
def cdTold (a : FSt) (k w : Int32) : Nat := if isLan a k = false ∨ isW w 0 8 = false then 1 else 0
def cdLan (a : FSt) (k : Int32) : Nat := if isLan a k = false then 1 else 0
def cdCount (w : Int32) : Nat := if isW w 0 9 = false then 1 else 0
def cdPass (m : Int32) : Nat := if isW m 1 90 = false then 1 else 0
def cdForesee (m w : Int32) : Nat := if isW m 1 90 = false then 1 else if isW w 2 6 = false ∧ ¬ w = 9 then 2 else 0
def cdFrame (f : Int32) : Nat := if isW f 0 2 = false then 1 else 0
theorem lan_nat {a : FSt} {k : Int32} (h : isLan a k = true) (hn : qN a ≤ 41) : ∃ i : Nat, i < qN a ∧ k = nI i := by
  obtain ⟨h1, h2⟩ := isW_iff.mp h
  rcases Nat.eq_zero_or_pos (qN a) with e | e
  · rw [e] at h2
    have h3 : nI 0 - 1 = (-1 : Int32) := by decide
    rw [h3, Int32.le_iff_toInt_le] at h2
    rw [Int32.le_iff_toInt_le] at h1
    have e1 : (-1 : Int32).toInt = -1 := rfl
    have e0 : (0 : Int32).toInt = 0 := rfl
    omega
  · obtain ⟨n, hn1⟩ : ∃ n, qN a = n + 1 := ⟨qN a - 1, by omega⟩
    rw [hn1, nI_pred] at h2
    obtain ⟨j, hj, ej⟩ := nI_of2 (nI_toInt (n := n) (by omega)) ((nlt_iff k 0).mpr h1) h2
    exact ⟨j, by omega, ej⟩
