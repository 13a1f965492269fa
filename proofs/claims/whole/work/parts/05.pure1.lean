/-! small facts of numbers and rows -/
theorem nlt_iff (x y : Int32) : ¬ x < y ↔ y ≤ x := by rw [Int32.lt_iff_toInt_lt, Int32.le_iff_toInt_le]; omega
theorem nle_iff (x y : Int32) : ¬ x ≤ y ↔ y < x := by rw [Int32.lt_iff_toInt_lt, Int32.le_iff_toInt_le]; omega
theorem ix_of {x : Int32} {n : Nat} (hn : n < 2 ^ 31) (h0 : ¬ x < 0) (h : ¬ nI n ≤ x) : ∃ j : Nat, j < n ∧ x = nI j := by
  rcases pk_ix x hn with h1 | h1 | h1
  · exact absurd h1 h0
  · exact absurd h1 h
  · exact h1
theorem rg_neg {n : Nat} {f : Nat → Int32} {x : Int32} (h : x < 0) : rg n f x = 0 := if_neg (fun q => (nlt_iff x 0).mpr q.1 h)
theorem rg_big {n : Nat} {f : Nat → Int32} {x : Int32} (h : nI n ≤ x) : rg n f x = 0 := if_neg (fun q => (nlt_iff x (nI n)).mpr h q.2)
theorem rp_neg {n : Nat} {f : Nat → Int32} {x v : Int32} (h : x < 0) : rp n f x v = f := if_neg (fun q => (nlt_iff x 0).mpr q.1 h)
theorem rp_big {n : Nat} {f : Nat → Int32} {x v : Int32} (h : nI n ≤ x) : rp n f x v = f := if_neg (fun q => (nlt_iff x (nI n)).mpr h q.2)
theorem cpy_step {i : Nat} {g f2 : Nat → Int32} (h : ∀ j, j < i → g j = f2 j) : ∀ j, j < i + 1 → upd g i (f2 i) j = f2 j := fun j hj => by
  unfold upd
  split
  · next e => rw [e]
  · next e => exact h j (by omega)
def isW (x lo hi : Int32) : Bool := decide (lo ≤ x) && decide (x ≤ hi)
theorem isW_lt {x lo hi : Int32} (h : x < lo) : bi (isW x lo hi) = 0 := by
  have h1 : ¬ lo ≤ x := (nle_iff lo x).mpr h
  simp [isW, h1, bi]
theorem isW_gt {x lo hi : Int32} (h : hi < x) : bi (isW x lo hi) = 0 := by
  have h1 : ¬ x ≤ hi := (nle_iff x hi).mpr h
  simp [isW, h1, bi]
theorem isW_in {x lo hi : Int32} (h1 : ¬ x < lo) (h2 : ¬ hi < x) : bi (isW x lo hi) = 1 := by
  have h1 := (nlt_iff x lo).mp h1
  have h2 := (nlt_iff hi x).mp h2
  simp [isW, h1, h2, bi]
theorem upd_I {f : Nat → Int32} {k : Nat} {v : Int32} (j : Nat) : upd f k v j = up f k v j := rfl
theorem upd_N {f : Nat → Nat} {k v : Nat} (j : Nat) : upd (fun i => nI (f i)) k (nI v) j = nI (up f k v j) := by
  unfold upd up
  split <;> rfl
theorem upd_B {f : Nat → Bool} {k : Nat} {v : Bool} (j : Nat) : upd (fun i => bi (f i)) k (bi v) j = bi (up f k v j) := by
  unfold upd up
  split <;> rfl
