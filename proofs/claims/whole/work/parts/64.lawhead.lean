/-- the two objects and the law's own row, side by side -/
abbrev wAll (cA cL : ClassId) (x : Nat) (B F G : Nat → Nat) (o y : Nat) (E S T : Nat → Nat) (b : BSt) (a : FSt) (c9 q : Nat → Int32) (a2 : FSt) (c2 q2 : Nat → Int32) (v : Nat → Int64) (th : Int32) (qm : Nat → Int32) (a3 : FSt) (q3 : Nat → Int32) : va_W :=
  (wX cA x B F G b a c9 q a2 c2 q2 ++ wO cL o v) ++ wY cA y E S T th b a qm a3 q3
/-- what holds all through the law's run -/
def LEnv (p : Program) (l : Launch) (s : State) (m : MethodId) (c : Code) (sb L : Nat) (xs : Nat → Int32) (D : va_G) (cA cL : ClassId) (sa : Nat → Nat) (z1 z2 : Nat) : Prop :=
  p.tables.exec = Jvm.exec ∧ c.code = code ∧ c.maxLocals = 9 ∧ s.vm.findClass RL = some m.cls ∧ (∀ w ∈ wsL_law, w.before #[Value.ref sb] s = true) ∧ EK D cA s ∧ LX sa D cL (fun q : Nat => s.heap.size ≤ q) s ∧ SX z1 z2 (fun q : Nat => s.heap.size ≤ q) s ∧ va_X sb L xs s s.heap ∧ sb < s.heap.size ∧ l.stackTraces = false ∧ L ≤ 2560
/-- the law goes on from its loop's head, behind j calls -/
def LHead (p : Program) (l : Launch) (e : Env) (s : State) (m : MethodId) (below : List Frame) (meth : Method) (c : Code) (sb : Nat) (D : va_G) (cA cL : ClassId) (x : Nat) (B F G : Nat → Nat) (o y : Nat) (E S T : Nat → Nat) (Q : State → Prop) (j : Nat) : Prop :=
  ∀ (b : BSt) (a : FSt) (c9 q : Nat → Int32) (a2 : FSt) (c2 q2 : Nat → Int32) (v : Nat → Int64) (th : Int32) (qm : Nat → Int32) (a3 : FSt) (q3 : Nat → Int32) (H : Heap) (locs : List Loc) (ls : Array Slot), LI b a c9 →
    va_P D vwCl (wAll cA cL x B F G o y E S T b a c9 q a2 c2 q2 v th qm a3 q3) H → va_D (fun q : Nat => s.heap.size ≤ q) (wAll cA cL x B F G o y E S T b a c9 q a2 c2 q2 v th qm a3 q3) → va_S (fun q : Nat => s.heap.size ≤ q) s.heap H locs →
    lv_has ls 9 [(4, .int (nI (5 * j))), (0, .ref sb), (1, .ref x), (2, .ref y), (3, .ref o)] → W p l e room_1 s m #[Value.ref sb] below meth c H locs (100 + 371 * j) (4000 + 3346 * j) Q (F0 m 23 ls [])
