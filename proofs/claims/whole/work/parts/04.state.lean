/-! the lanterns: frame, wish, lane, place, wax, wet, burns, state, end (a number for each lantern), how many, the minute -/
abbrev FSt : Type := (Nat → Nat) × (Nat → Int32) × (Nat → Nat) × (Nat → Nat) × (Nat → Nat) × (Nat → Int32) × (Nat → Bool) × (Nat → Nat) × (Nat → Int32) × (Nat) × (Int32)
def qFr (a : FSt) : Nat → Nat := a.1
def qWi (a : FSt) : Nat → Int32 := a.2.1
def qLa (a : FSt) : Nat → Nat := a.2.2.1
def qPl (a : FSt) : Nat → Nat := a.2.2.2.1
def qWx (a : FSt) : Nat → Nat := a.2.2.2.2.1
def qWe (a : FSt) : Nat → Int32 := a.2.2.2.2.2.1
def qBu (a : FSt) : Nat → Bool := a.2.2.2.2.2.2.1
def qSt (a : FSt) : Nat → Nat := a.2.2.2.2.2.2.2.1
def qEn (a : FSt) : Nat → Int32 := a.2.2.2.2.2.2.2.2.1
def qN (a : FSt) : Nat := a.2.2.2.2.2.2.2.2.2.1
def qM (a : FSt) : Int32 := a.2.2.2.2.2.2.2.2.2.2
def uFr (a : FSt) (x : Nat → Nat) : FSt := (x, a.2)
def uWi (a : FSt) (x : Nat → Int32) : FSt := (a.1, x, a.2.2)
def uLa (a : FSt) (x : Nat → Nat) : FSt := (a.1, a.2.1, x, a.2.2.2)
def uPl (a : FSt) (x : Nat → Nat) : FSt := (a.1, a.2.1, a.2.2.1, x, a.2.2.2.2)
def uWx (a : FSt) (x : Nat → Nat) : FSt := (a.1, a.2.1, a.2.2.1, a.2.2.2.1, x, a.2.2.2.2.2)
def uWe (a : FSt) (x : Nat → Int32) : FSt := (a.1, a.2.1, a.2.2.1, a.2.2.2.1, a.2.2.2.2.1, x, a.2.2.2.2.2.2)
def uBu (a : FSt) (x : Nat → Bool) : FSt := (a.1, a.2.1, a.2.2.1, a.2.2.2.1, a.2.2.2.2.1, a.2.2.2.2.2.1, x, a.2.2.2.2.2.2.2)
def uSt (a : FSt) (x : Nat → Nat) : FSt := (a.1, a.2.1, a.2.2.1, a.2.2.2.1, a.2.2.2.2.1, a.2.2.2.2.2.1, a.2.2.2.2.2.2.1, x, a.2.2.2.2.2.2.2.2)
def uEn (a : FSt) (x : Nat → Int32) : FSt := (a.1, a.2.1, a.2.2.1, a.2.2.2.1, a.2.2.2.2.1, a.2.2.2.2.2.1, a.2.2.2.2.2.2.1, a.2.2.2.2.2.2.2.1, x, a.2.2.2.2.2.2.2.2.2)
def uN (a : FSt) (x : Nat) : FSt := (a.1, a.2.1, a.2.2.1, a.2.2.2.1, a.2.2.2.2.1, a.2.2.2.2.2.1, a.2.2.2.2.2.2.1, a.2.2.2.2.2.2.2.1, a.2.2.2.2.2.2.2.2.1, x, a.2.2.2.2.2.2.2.2.2.2)
def uM (a : FSt) (x : Int32) : FSt := (a.1, a.2.1, a.2.2.1, a.2.2.2.1, a.2.2.2.2.1, a.2.2.2.2.2.1, a.2.2.2.2.2.2.1, a.2.2.2.2.2.2.2.1, a.2.2.2.2.2.2.2.2.1, a.2.2.2.2.2.2.2.2.2.1, x)
/-! the river: currents, sprays, nets, how many weirs, how many nets -/
abbrev BSt : Type := (Nat → Nat) × (Nat → Int32) × (Nat → Bool) × (Nat) × (Nat)
def bCu (b : BSt) : Nat → Nat := b.1
def bSp (b : BSt) : Nat → Int32 := b.2.1
def bNe (b : BSt) : Nat → Bool := b.2.2.1
def bW (b : BSt) : Nat := b.2.2.2.1
def bK (b : BSt) : Nat := b.2.2.2.2
def vCu (b : BSt) (x : Nat → Nat) : BSt := (x, b.2)
def vSp (b : BSt) (x : Nat → Int32) : BSt := (b.1, x, b.2.2)
def vNe (b : BSt) (x : Nat → Bool) : BSt := (b.1, b.2.1, x, b.2.2.2)
def vW (b : BSt) (x : Nat) : BSt := (b.1, b.2.1, b.2.2.1, x, b.2.2.2.2)
def vK (b : BSt) (x : Nat) : BSt := (b.1, b.2.1, b.2.2.1, b.2.2.2.1, x)
def takes (f : Nat) : Int32 := if f = 0 then 12 else if f = 1 then 8 else 5
def waxOf (f : Nat) : Nat := if f = 0 then 20 else if f = 1 then 30 else 45
def soaked (a : FSt) (k : Nat) : Bool := decide (takes (qFr a k) < qWe a k)
def cnt : Nat → (Nat → Bool) → Nat
  | 0, _ => 0
  | n + 1, P => cnt n P + (if P n then 1 else 0)
def anyN : Nat → (Nat → Bool) → Bool
  | 0, _ => false
  | n + 1, P => anyN n P || P n
def itr {α : Type} (f : Nat → α → α) : Nat → α → α
  | 0, x => x
  | n + 1, x => f n (itr f n x)
def spotA (a : FSt) (l p so k : Nat) : Bool := qSt a k == so && (qLa a k == l && qPl a k == p)
def atA (a : FSt) (l p so : Nat) : Nat := cnt (qN a) (spotA a l p so)
def catches (a : FSt) (k o : Nat) : Bool := qSt a o == 0 && (qLa a o == qLa a k && (qPl a o == qPl a k + 1 && qFr a o != qFr a k))
def caughtA (a : FSt) (k : Nat) : Bool := anyN (qN a) (catches a k)
def imax1 (x : Int32) : Int32 := if 1 < x then x else 1
def belowA (a : FSt) (k : Nat) : Nat := atA a (qLa a k) (qPl a k + 1) 0 + atA a (qLa a k) (qPl a k + 2) 0 + atA a (qLa a k) (qPl a k + 3) 0
def endA (a : FSt) (k so : Nat) : FSt := uEn (uSt a (up (qSt a) k so)) (up (qEn a) k (qM a))
def outA (a : FSt) (k : Nat) : FSt := uBu a (up (qBu a) k false)
def wetA (b : BSt) (a : FSt) (k : Nat) : FSt := uWe a (up (qWe a) k (qWe a k + imax1 (bSp b (qPl a k) - nI (belowA a k))))
def dryA (a : FSt) (k : Nat) : FSt := if soaked a k = true then outA a k else a
def weirA (b : BSt) (a : FSt) (k : Nat) : FSt := if 0 < bSp b (qPl a k) then dryA (wetA b a k) k else a
def netA (b : BSt) (a : FSt) (k : Nat) : FSt := if bNe b (qLa a k * 60 + qPl a k) = true then endA a k 1 else a
def movA (a : FSt) (k : Nat) : FSt := uPl a (up (qPl a) k (qPl a k + 1))
def stepA (b : BSt) (a : FSt) (k : Nat) : FSt := if qPl a k + 1 = 60 then outA (endA (movA a k) k 2) k else netA b (weirA b (movA a k) k) k
def driftN (b : BSt) : Nat → FSt → Nat → FSt
  | 0, a, _ => a
  | n + 1, a, k => if qSt a k = 0 then (if caughtA a k = true then a else driftN b n (stepA b a k) k) else a
def driftA (b : BSt) (a : FSt) (k : Nat) : FSt := driftN b (bCu b (qLa a k)) a k
def aheadA (a : FSt) (i j : Nat) : Bool := if qPl a i = qPl a j then (if qLa a i = qLa a j then decide (i < j) else decide (qLa a i < qLa a j)) else decide (qPl a j < qPl a i)
def shiftO (P : Nat → Bool) : Nat → (Nat → Nat) → Nat × (Nat → Nat)
  | 0, g => (0, g)
  | t + 1, g => if P (g t) = true then shiftO P t (up g (t + 1) (g t)) else (t + 1, g)
def insO (P : Nat → Bool) (k m : Nat) (g : Nat → Nat) : Nat → Nat := up (shiftO P m g).2 (shiftO P m g).1 k
def sortN (a : FSt) : Nat → Nat × (Nat → Nat)
  | 0 => (0, fun _ => 0)
  | i + 1 => if qSt a i = 0 then ((sortN a i).1 + 1, insO (aheadA a i) i (sortN a i).1 (sortN a i).2) else sortN a i
def ordM (a : FSt) : Nat := (sortN a (qN a)).1
def ordF (a : FSt) : Nat → Nat := (sortN a (qN a)).2
def waxA (a : FSt) (k : Nat) : FSt := if qSt a k = 0 ∧ qBu a k = true then (if qWx a k - 1 = 0 then outA (uWx a (up (qWx a) k (qWx a k - 1))) k else uWx a (up (qWx a) k (qWx a k - 1))) else a
def floatA (b : BSt) (o : Nat → Nat) (m : Nat) (a : FSt) : FSt := itr (fun j a => driftA b a (o j)) m a
def burnA (m : Nat) (a : FSt) : FSt := itr (fun k a => waxA a k) m a
def tickA (a : FSt) : FSt := uM a (qM a + 1)
def minA (b : BSt) (a : FSt) : FSt := tickA (burnA (qN a) (floatA b (ordF a) (ordM a) a))
def minsA (b : BSt) (m : Nat) (a : FSt) : FSt := itr (fun _ a => minA b a) m a
def shareA (a : FSt) (what k : Nat) : Int32 := match what with
  | 2 => if qSt a k = 0 then 1 else 0
  | 3 => if qSt a k = 1 then 1 else 0
  | 4 => if qSt a k = 2 then 1 else 0
  | 5 => if qSt a k = 0 then bi (qBu a k) else 0
  | 6 => if qSt a k = 1 then bi (qBu a k) else 0
  | _ => if qSt a k = 1 then bi (qBu a k) * qWi a k else 0
def sumA (a : FSt) (what n : Nat) : Int32 := itr (fun k z => z + shareA a what k) n 0
def tallyA (a : FSt) (what : Nat) : Int32 := sumA a what (qN a)
def countA (a : FSt) (b : BSt) (what : Nat) : Int32 := match what with
  | 0 => qM a
  | 1 => nI (qN a)
  | 7 => nI (bW b)
  | 8 => nI (bK b)
  | _ => tallyA a what
def riverA (a : FSt) (b : BSt) (l p what : Nat) : Int32 := match what with
  | 0 => nI (atA a l p 0)
  | 1 => bSp b p
  | 2 => bi (bNe b (l * 60 + p))
  | _ => nI (atA a l p 1)
def nextF (b : BSt) : Nat → Nat → Int32
  | 0, _ => -1
  | f + 1, p => if 0 < bSp b p then nI p else nextF b f (p + 1)
def nextA (a : FSt) (b : BSt) (k : Nat) : Int32 := if qSt a k = 0 then nextF b (59 - qPl a k) (qPl a k + 1) else -1
def factA (a : FSt) (k what : Nat) : Int32 := match what with
  | 0 => nI (qFr a k)
  | 1 => qWi a k
  | 2 => nI (qLa a k)
  | 3 => nI (qPl a k)
  | 4 => nI (qWx a k)
  | 5 => qWe a k
  | 6 => bi (qBu a k)
  | 7 => nI (qSt a k)
  | _ => qEn a k
def addA (a : FSt) (f : Nat) (w : Int32) (l p : Nat) : FSt := (up (qFr a) (qN a) f, up (qWi a) (qN a) w, up (qLa a) (qN a) l, up (qPl a) (qN a) p, up (qWx a) (qN a) (waxOf f), up (qWe a) (qN a) 0, up (qBu a) (qN a) true, up (qSt a) (qN a) 0, up (qEn a) (qN a) (-1), qN a + 1, qM a)
def comesF (b : BSt) (k : Nat) : Nat → Nat → FSt → Nat
  | 0, _, _ => 61
  | f + 1, m, a => if qSt (minA b a) k = 1 ∧ qBu (minA b a) k = true then m else comesF b k f (m + 1) (minA b a)
def comesA (b : BSt) (a : FSt) (f l : Nat) : Nat := comesF b (qN a) 60 1 (addA a f 0 l 0)
def bestA (g : Nat → Nat) : Nat → Int32 × Nat
  | 0 => (-1, 61)
  | l + 1 => if g l < (bestA g l).2 then (nI l, g l) else bestA g l
def adviseA (b : BSt) (a : FSt) (f : Nat) : Int32 := (bestA (comesA b a f) 3).1
def burnsF (b : BSt) (k : Nat) : Nat → Nat → FSt → Int32
  | 0, _, _ => -1
  | f + 1, m, a => if qBu a k = true then burnsF b k f (m + 1) (minA b a) else nI m
def burnsA (b : BSt) (a : FSt) (k : Nat) : Int32 := burnsF b k 61 0 a
def placesA (a : FSt) (n : Nat) : Int32 := itr (fun k z => z + (if qSt a k = 0 then nI (qPl a k) else 0)) n 0
def meanA (a : FSt) : UInt64 := if tallyA a 2 = 0 then 0 else FP.ddiv (FP.i2d (placesA a (qN a))) (FP.i2d (tallyA a 2))
def dg (d : Int64) (x : Int32) : Int64 := d * 31 + x.toInt64
def dgC (a : FSt) (b : BSt) (n : Nat) (d : Int64) : Int64 := itr (fun w d => dg d (countA a b w)) n d
def dgU (b : BSt) (n : Nat) (d : Int64) : Int64 := itr (fun i d => dg d (nI (bCu b i))) n d
def dgR3 (a : FSt) (b : BSt) (l p n : Nat) (d : Int64) : Int64 := itr (fun w d => dg d (riverA a b l p w)) n d
def dgR2 (a : FSt) (b : BSt) (p n : Nat) (d : Int64) : Int64 := itr (fun l d => dgR3 a b l p 4 d) n d
def dgR (a : FSt) (b : BSt) (n : Nat) (d : Int64) : Int64 := itr (fun p d => dgR2 a b p 3 d) n d
def dgL1 (a : FSt) (k n : Nat) (d : Int64) : Int64 := itr (fun w d => dg d (factA a k w)) n d
def dgL (a : FSt) (b : BSt) (n : Nat) (d : Int64) : Int64 := itr (fun k d => dg (dgL1 a k 9 d) (nextA a b k)) n d
def digA (a : FSt) (b : BSt) : Int64 := dgL a b (qN a) (dgR a b 60 (dgU b 3 (dgC a b 10 1297)))
/-- what is kept of the lanterns -/
def WFa (a : FSt) : Prop := qN a ≤ 41 ∧ ∀ i, i < qN a → qFr a i < 3 ∧ qLa a i < 3 ∧ qPl a i ≤ 60 ∧ qSt a i < 3 ∧ (qSt a i = 0 → qPl a i < 60) ∧ (qSt a i = 2 → qBu a i = false) ∧ qWx a i ≤ 45 ∧ (qSt a i = 0 → qBu a i = true → 0 < qWx a i)
/-- .. of the river -/
def WFb (b : BSt) : Prop := (∀ l, l < 3 → 1 ≤ bCu b l ∧ bCu b l ≤ 5) ∧ bW b ≤ 6 ∧ bK b ≤ 4
/-- .. of both -/
def WFn (b : BSt) (a : FSt) : Prop := ∀ i, i < qN a → qSt a i = 1 → bNe b (qLa a i * 60 + qPl a i) = true
/-- the crowd's place of a spot -/
def ckA (l p f : Nat) : Nat := (l * 60 + p) * 3 + f
def ck (l p f : Nat) : Int32 := if p < 60 then nI (ckA l p f) else -1
def spotF (a : FSt) (l p f k : Nat) : Bool := qSt a k == 0 && (qLa a k == l && (qPl a k == p && qFr a k == f))
def CRa (a : FSt) (c : Nat → Int32) : Prop := ∀ l p f, l < 3 → p < 60 → f < 3 → c (ckA l p f) = nI (cnt (qN a) (spotF a l p f))
def cby (a : FSt) (c : Nat → Int32) (k : Nat) (v : Int32) : Nat → Int32 := rp 540 c (ck (qLa a k) (qPl a k) (qFr a k)) (rg 540 c (ck (qLa a k) (qPl a k) (qFr a k)) + v)
/-! the worlds -/
abbrev wR (cA : ClassId) (r b n : Nat) (f : Nat → Int32) : va_W := [(r, .inr (2, [.ref b])), (b, .inl (cA, n, .inl f))]
abbrev wF (cA : ClassId) (F : Nat → Nat) (a : FSt) (c q : Nat → Int32) : va_W := [(F 0, .inr (1, [.ref (F 1), .ref (F 2), .ref (F 3), .ref (F 4), .ref (F 5), .ref (F 6), .ref (F 7), .ref (F 8), .ref (F 9), .ref (F 10), .ref (F 11), .int (nI (qN a)), .int (qM a)])), (F 1, .inr (2, [.ref (F 12)])), (F 2, .inr (2, [.ref (F 13)])), (F 3, .inr (2, [.ref (F 14)])), (F 4, .inr (2, [.ref (F 15)])), (F 5, .inr (2, [.ref (F 16)])), (F 6, .inr (2, [.ref (F 17)])), (F 7, .inr (2, [.ref (F 18)])), (F 8, .inr (2, [.ref (F 19)])), (F 9, .inr (2, [.ref (F 20)])), (F 10, .inr (2, [.ref (F 21)])), (F 11, .inr (2, [.ref (F 22)])), (F 12, .inl (cA, 41, .inl (fun i => nI (qFr a i)))), (F 13, .inl (cA, 41, .inl (qWi a))), (F 14, .inl (cA, 41, .inl (fun i => nI (qLa a i)))), (F 15, .inl (cA, 41, .inl (fun i => nI (qPl a i)))), (F 16, .inl (cA, 41, .inl (fun i => nI (qWx a i)))), (F 17, .inl (cA, 41, .inl (qWe a))), (F 18, .inl (cA, 41, .inl (fun i => bi (qBu a i)))), (F 19, .inl (cA, 41, .inl (fun i => nI (qSt a i)))), (F 20, .inl (cA, 41, .inl (qEn a))), (F 21, .inl (cA, 540, .inl c)), (F 22, .inl (cA, 41, .inl q))]
abbrev wB (cA : ClassId) (B : Nat → Nat) (b : BSt) : va_W := [(B 0, .inr (0, [.ref (B 1), .ref (B 2), .ref (B 3), .int (nI (bW b)), .int (nI (bK b))])), (B 1, .inr (2, [.ref (B 4)])), (B 2, .inr (2, [.ref (B 5)])), (B 3, .inr (2, [.ref (B 6)])), (B 4, .inl (cA, 3, .inl (fun i => nI (bCu b i)))), (B 5, .inl (cA, 60, .inl (bSp b))), (B 6, .inl (cA, 180, .inl (fun i => bi (bNe b i))))]
abbrev wX (cA : ClassId) (x : Nat) (B F G : Nat → Nat) (b : BSt) (a : FSt) (c q : Nat → Int32) (a2 : FSt) (c2 q2 : Nat → Int32) : va_W := [(x, .inr (3, [.ref (B 0), .ref (F 0), .ref (G 0)]))] ++ (wB cA B b ++ (wF cA F a c q ++ wF cA G a2 c2 q2))
abbrev wS (cA : ClassId) (S : Nat → Nat) (y : Nat) (a : FSt) (q : Nat → Int32) : va_W := [(S 0, .inr (4, [.int (qM a), .int (nI (qN a)), .ref (S 1), .ref (S 2), .ref (S 3), .ref (S 4), .ref (S 5), .ref (S 6), .ref (S 7), .ref (S 8), .ref (S 9), .ref (S 10), .ref y])), (S 1, .inl (cA, 41, .inl (fun i => nI (qFr a i)))), (S 2, .inl (cA, 41, .inl (qWi a))), (S 3, .inl (cA, 41, .inl (fun i => nI (qLa a i)))), (S 4, .inl (cA, 41, .inl (fun i => nI (qPl a i)))), (S 5, .inl (cA, 41, .inl (fun i => nI (qWx a i)))), (S 6, .inl (cA, 41, .inl (qWe a))), (S 7, .inl (cA, 41, .inl (fun i => bi (qBu a i)))), (S 8, .inl (cA, 41, .inl (fun i => nI (qSt a i)))), (S 9, .inl (cA, 41, .inl (qEn a))), (S 10, .inl (cA, 41, .inl q))]
abbrev wM (cA : ClassId) (y : Nat) (E : Nat → Nat) (s1 s2 : Nat) (th : Int32) (b : BSt) : va_W := [(y, .inr (5, [.int th, .ref (E 0), .int (nI (bW b)), .ref (E 1), .int (nI (bK b)), .ref (E 2), .ref s1, .ref s2])), (E 0, .inl (cA, 3, .inl (fun i => nI (bCu b i)))), (E 1, .inl (cA, 60, .inl (bSp b))), (E 2, .inl (cA, 180, .inl (fun i => bi (bNe b i))))]
abbrev wY (cA : ClassId) (y : Nat) (E S T : Nat → Nat) (th : Int32) (b : BSt) (a : FSt) (q : Nat → Int32) (a2 : FSt) (q2 : Nat → Int32) : va_W := wM cA y E (S 0) (T 0) th b ++ (wS cA S y a q ++ wS cA T y a2 q2)
