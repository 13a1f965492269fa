/-! small facts of numbers and rows -/
theorem nlt_iff (x y : Int32) : ¬ x < y ↔ y ≤ x := by rw [Int32.lt_iff_toInt_lt, Int32.le_iff_toInt_le]; omega
theorem nle_iff (x y : Int32) : ¬ x ≤ y ↔ y < x := by rw [Int32.lt_iff_toInt_lt, Int32.le_iff_toInt_le]; omega
theorem ix_of {x : Int32} {n : Nat} (hn : n < 2 ^ 31) (h0 : ¬ x < 0) (h : ¬ nI n ≤ x) : ∃ j : Nat, j < n ∧ x = nI j := by
  rcases pk_ix x hn with h1 | h1 | h1
  · exact absurd h1 h0
  · exact absurd h1 h
  · exact h1
theorem rg_neg {n : Nat} {f : Nat → Int32} {x : Int32} (h : x < 0) : rg n f x = 0 := if_neg (fun q => (nlt_iff x 0).mpr q.1 h)
theorem rg_big {n : Nat} {f : Nat → Int32} {x : Int32} (h : nI n ≤ x) : rg n f x = 0 := if_neg (fun q => (nlt_iff x (nI n)).mpr h q.2)
theorem rp_neg {n : Nat} {f : Nat → Int32} {x v : Int32} (h : x < 0) : rp n f x v = f := if_neg (fun q => (nlt_iff x 0).mpr q.1 h)
theorem rp_big {n : Nat} {f : Nat → Int32} {x v : Int32} (h : nI n ≤ x) : rp n f x v = f := if_neg (fun q => (nlt_iff x (nI n)).mpr h q.2)
theorem cpy_step {i : Nat} {g f2 : Nat → Int32} (h : ∀ j, j < i → g j = f2 j) : ∀ j, j < i + 1 → upd g i (f2 i) j = f2 j := fun j hj => by
  unfold upd
  split
  · next e => rw [e]
  · next e => exact h j (by omega)
def isW (x lo hi : Int32) : Bool := decide (lo ≤ x) && decide (x ≤ hi)
theorem isW_lt {x lo hi : Int32} (h : x < lo) : bi (isW x lo hi) = 0 := by
  have h1 : ¬ lo ≤ x := (nle_iff lo x).mpr h
  simp [isW, h1, bi]
theorem isW_gt {x lo hi : Int32} (h : hi < x) : bi (isW x lo hi) = 0 := by
  have h1 : ¬ x ≤ hi := (nle_iff x hi).mpr h
  simp [isW, h1, bi]
theorem isW_in {x lo hi : Int32} (h1 : ¬ x < lo) (h2 : ¬ hi < x) : bi (isW x lo hi) = 1 := by
  have h1 := (nlt_iff x lo).mp h1
  have h2 := (nlt_iff hi x).mp h2
  simp [isW, h1, h2, bi]
theorem upd_I {f : Nat → Int32} {k : Nat} {v : Int32} (j : Nat) : upd f k v j = up f k v j := rfl
theorem upd_N {f : Nat → Nat} {k v : Nat} (j : Nat) : upd (fun i => nI (f i)) k (nI v) j = nI (up f k v j) := by
  unfold upd up
  split <;> rfl
theorem upd_B {f : Nat → Bool} {k : Nat} {v : Bool} (j : Nat) : upd (fun i => bi (f i)) k (bi v) j = bi (up f k v j) := by
  unfold upd up
  split <;> rfl
theorem ck_out {l p f : Nat} (h : 60 ≤ p) : (-1 : Int32) = ck l p f := (if_neg (by omega)).symm
theorem ck_in {l p f : Nat} (h : ¬ 60 ≤ p) : nI ((l * 60 + p) * 3 + f) = ck l p f := (if_pos (by omega)).symm
theorem isW_lan {i n : Nat} (h : i < n) (hn : n ≤ 41) : isW (nI i) 0 (nI n - 1) = true := by
  obtain ⟨k, rfl⟩ : ∃ k, n = k + 1 := ⟨n - 1, by omega⟩
  rw [nI_pred]
  have h1 : (0 : Int32) ≤ nI i := nI_pos' (by omega)
  have h2 : nI i ≤ nI k := nI_le (by omega) (by omega)
  simp [isW, h1, h2]
theorem beq_t {x y : Nat} (h : x = y) : (1 : Int32) = bi (x == y) := by simp [bi, h]
theorem beq_f {x y : Nat} (h : ¬ x = y) : (0 : Int32) = bi (x == y) := by simp [bi, h]
theorem sk_f {a : FSt} {k : Nat} (h : qWe a k ≤ takes (qFr a k)) : (0 : Int32) = bi (soaked a k) := by
  have h1 := (nlt_iff (takes (qFr a k)) (qWe a k)).mpr h
  simp [bi, soaked, h1]
theorem sk_t {a : FSt} {k : Nat} (h : ¬ qWe a k ≤ takes (qFr a k)) : (1 : Int32) = bi (soaked a k) := by
  have h1 := (nle_iff (qWe a k) (takes (qFr a k))).mp h
  simp [bi, soaked, h1]
def litA (a : FSt) (k : Nat) : Bool := !qBu a k && (!soaked a k && decide (0 < qWx a k))
def mvA (a : FSt) (k l p : Nat) : FSt := uPl (uLa a (up (qLa a) k l)) (up (qPl a) k p)
theorem up_same {α : Type} (f : Nat → α) (k : Nat) : up f k (f k) = f := funext fun j => by
  unfold up
  split
  · next e => rw [e]
  · rfl
theorem mv_mov (a : FSt) (k : Nat) : mvA a k (qLa a k) (qPl a k + 1) = movA a k := by
  unfold mvA movA
  rw [up_same]
  rfl
def metA (v : Int32) (a : FSt) (k : Nat) : FSt := if 0 < v then dryA (uWe a (up (qWe a) k (qWe a k + imax1 (v - nI (belowA a k))))) k else a
theorem met_weir (b : BSt) (a : FSt) (k : Nat) : metA (bSp b (qPl a k)) a k = weirA b a k := rfl
theorem cnt_congr {P P' : Nat → Bool} : ∀ n : Nat, (∀ k, k < n → P k = P' k) → cnt n P = cnt n P'
  | 0, _ => rfl
  | n + 1, h => by
    simp only [cnt]
    rw [cnt_congr n (fun k hk => h k (by omega)), h n (by omega)]
theorem cnt_le (P : Nat → Bool) : ∀ n : Nat, cnt n P ≤ n
  | 0 => Nat.le_refl 0
  | n + 1 => by
    have h := cnt_le P n
    simp only [cnt]
    split <;> omega
/-- those at a spot, by their frames -/
theorem cnt_frames {a : FSt} {l p : Nat} : ∀ n : Nat, (∀ k, k < n → qFr a k < 3) → cnt n (spotF a l p 0) + cnt n (spotF a l p 1) + cnt n (spotF a l p 2) = cnt n (spotA a l p 0)
  | 0, _ => rfl
  | n + 1, h => by
    have h1 := cnt_frames (a := a) (l := l) (p := p) n (fun k hk => h k (by omega))
    have h2 := h n (by omega)
    simp only [cnt]
    have h3 : ∀ f, spotF a l p f n = (spotA a l p 0 n && qFr a n == f) := fun f => by simp only [spotF, spotA, Bool.and_assoc]
    rw [h3, h3, h3]
    cases hs : spotA a l p 0 n
    · simp; omega
    · rcases (show qFr a n = 0 ∨ qFr a n = 1 ∨ qFr a n = 2 by omega) with e | e | e <;> simp [e] <;> omega
theorem ck_at {c : Nat → Int32} {a : FSt} {l p f : Nat} (hcr : CRa a c) (h3 : l < 3) (h6 : p < 60) (hf : f < 3) : rg 540 c (ck l p f) = nI (cnt (qN a) (spotF a l p f)) := by
  unfold ck
  rw [if_pos h6, rg_nI (by unfold ckA; omega) (by decide), hcr l p f h3 h6 hf]
theorem float_at {c : Nat → Int32} {a : FSt} {l p : Nat} (hw : WFa a) (hcr : CRa a c) (h3 : l < 3) (h6 : p < 60) : (0 : Int32) + rg 540 c (ck l p 0) + rg 540 c (ck l p 1) + rg 540 c (ck l p 2) = nI (atA a l p 0) := by
  rw [ck_at hcr h3 h6 (by decide), ck_at hcr h3 h6 (by decide), ck_at hcr h3 h6 (by decide)]
  rw [show (0 : Int32) = nI 0 from rfl, nI_add, nI_add, nI_add]
  unfold atA
  rw [← cnt_frames (qN a) (fun k hk => (hw.2 k hk).1)]
  congr 1
  omega
