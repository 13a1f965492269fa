theorem itr_s {α : Type} (f : Nat → α → α) (n : Nat) (x : α) : itr f (n + 1) x = f n (itr f n x) := rfl
theorem dgC_0 (a : FSt) (b : BSt) (d : Int64) : dgC a b 0 d = d := rfl
theorem dgU_0 (b : BSt) (d : Int64) : dgU b 0 d = d := rfl
theorem dgR_0 (a : FSt) (b : BSt) (d : Int64) : dgR a b 0 d = d := rfl
theorem dgR2_0 (a : FSt) (b : BSt) (p : Nat) (d : Int64) : dgR2 a b p 0 d = d := rfl
theorem dgR3_0 (a : FSt) (b : BSt) (l p : Nat) (d : Int64) : dgR3 a b l p 0 d = d := rfl
theorem dgL_0 (a : FSt) (b : BSt) (d : Int64) : dgL a b 0 d = d := rfl
theorem dgL1_0 (a : FSt) (k : Nat) (d : Int64) : dgL1 a k 0 d = d := rfl
theorem dgC_s (a : FSt) (b : BSt) (n : Nat) (d : Int64) : dgC a b (n + 1) d = dgC a b n d * 31 + (countA a b n).toInt64 := rfl
theorem dgU_s (b : BSt) (n : Nat) (d : Int64) : dgU b (n + 1) d = dgU b n d * 31 + (nI (bCu b n)).toInt64 := rfl
theorem dgR_s (a : FSt) (b : BSt) (n : Nat) (d : Int64) : dgR a b (n + 1) d = dgR2 a b n 3 (dgR a b n d) := itr_s (fun p d => dgR2 a b p 3 d) n d
theorem dgR2_s (a : FSt) (b : BSt) (p n : Nat) (d : Int64) : dgR2 a b p (n + 1) d = dgR3 a b n p 4 (dgR2 a b p n d) := itr_s (fun l d => dgR3 a b l p 4 d) n d
theorem dgR3_s (a : FSt) (b : BSt) (l p n : Nat) (d : Int64) : dgR3 a b l p (n + 1) d = dgR3 a b l p n d * 31 + (riverA a b l p n).toInt64 := rfl
theorem dgL_s (a : FSt) (b : BSt) (n : Nat) (d : Int64) : dgL a b (n + 1) d = dgL1 a n 9 (dgL a b n d) * 31 + (nextA a b n).toInt64 := rfl
theorem dgL1_s (a : FSt) (k n : Nat) (d : Int64) : dgL1 a k (n + 1) d = dgL1 a k n d * 31 + (factA a k n).toInt64 := rfl
