section
-- ===== PART A: goes FIRST, ahead of the names: the tables' words, and 'selects' of the private methods out of them =====
/-- a private method of a class that the tables say can be made, by its rows of tables_1 -/
def lw_okq (q : MethodName × Nat) : Prop := (q.1.cls ≠ "java/lang/invoke/MethodHandle" ∧ q.1.cls ≠ "java/lang/invoke/VarHandle") ∧ Cond.instantiable q.1.cls q.2 ∈ tables_1 ∧ Cond.privateMethod q.1 ∈ tables_1 ∧ Cond.instanceMethod q.1 ∈ tables_1
theorem lw_p0 : lw_okq (⟨"LanternWeirs", "counted", "(I)I"⟩, 3) := ⟨⟨by decide +kernel, by decide +kernel⟩, List.mem_of_getElem? (i := 16) (by decide +kernel), List.mem_of_getElem? (i := 158) (by decide +kernel), List.mem_of_getElem? (i := 159) (by decide +kernel)⟩
theorem lw_p1 : lw_okq (⟨"LanternWeirs$Fleet", "share", "(II)I"⟩, 13) := ⟨⟨by decide +kernel, by decide +kernel⟩, List.mem_of_getElem? (i := 67) (by decide +kernel), List.mem_of_getElem? (i := 166) (by decide +kernel), List.mem_of_getElem? (i := 167) (by decide +kernel)⟩
theorem lw_p2 : lw_okq (⟨"LanternWeirs", "riverFact", "(III)I"⟩, 3) := ⟨⟨by decide +kernel, by decide +kernel⟩, List.mem_of_getElem? (i := 16) (by decide +kernel), List.mem_of_getElem? (i := 170) (by decide +kernel), List.mem_of_getElem? (i := 171) (by decide +kernel)⟩
theorem lw_p3 : lw_okq (⟨"LanternWeirs", "nextWeir", "(I)I"⟩, 3) := ⟨⟨by decide +kernel, by decide +kernel⟩, List.mem_of_getElem? (i := 16) (by decide +kernel), List.mem_of_getElem? (i := 194) (by decide +kernel), List.mem_of_getElem? (i := 195) (by decide +kernel)⟩
theorem lw_p4 : lw_okq (⟨"java/lang/Throwable", "fillInStackTrace", "(I)Ljava/lang/Throwable;"⟩, 6) := ⟨⟨by decide +kernel, by decide +kernel⟩, List.mem_of_getElem? (i := 249) (by decide +kernel), List.mem_of_getElem? (i := 247) (by decide +kernel), List.mem_of_getElem? (i := 248) (by decide +kernel)⟩
theorem lw_p5 : lw_okq (⟨"LanternWeirs$Fleet", "crowdBy", "(II)V"⟩, 13) := ⟨⟨by decide +kernel, by decide +kernel⟩, List.mem_of_getElem? (i := 67) (by decide +kernel), List.mem_of_getElem? (i := 371) (by decide +kernel), List.mem_of_getElem? (i := 372) (by decide +kernel)⟩
theorem lw_p6 : lw_okq (⟨"LanternWeirs$Fleet", "lineUp", "()I"⟩, 13) := ⟨⟨by decide +kernel, by decide +kernel⟩, List.mem_of_getElem? (i := 67) (by decide +kernel), List.mem_of_getElem? (i := 457) (by decide +kernel), List.mem_of_getElem? (i := 458) (by decide +kernel)⟩
theorem lw_p7 : lw_okq (⟨"LanternWeirs$Fleet", "drift", "(ILLanternWeirs$Bed;)V"⟩, 13) := ⟨⟨by decide +kernel, by decide +kernel⟩, List.mem_of_getElem? (i := 67) (by decide +kernel), List.mem_of_getElem? (i := 462) (by decide +kernel), List.mem_of_getElem? (i := 463) (by decide +kernel)⟩
theorem lw_p8 : lw_okq (⟨"LanternWeirs$Fleet", "catchesAhead", "(I)Z"⟩, 13) := ⟨⟨by decide +kernel, by decide +kernel⟩, List.mem_of_getElem? (i := 67) (by decide +kernel), List.mem_of_getElem? (i := 466) (by decide +kernel), List.mem_of_getElem? (i := 467) (by decide +kernel)⟩
theorem lw_p9 : lw_okq (⟨"LanternWeirs$Fleet", "leave", "(II)V"⟩, 13) := ⟨⟨by decide +kernel, by decide +kernel⟩, List.mem_of_getElem? (i := 67) (by decide +kernel), List.mem_of_getElem? (i := 471) (by decide +kernel), List.mem_of_getElem? (i := 472) (by decide +kernel)⟩
theorem lw_p10 : lw_okq (⟨"LanternWeirs$Fleet", "meetWeir", "(II)V"⟩, 13) := ⟨⟨by decide +kernel, by decide +kernel⟩, List.mem_of_getElem? (i := 67) (by decide +kernel), List.mem_of_getElem? (i := 475) (by decide +kernel), List.mem_of_getElem? (i := 476) (by decide +kernel)⟩
theorem lw_p11 : lw_okq (⟨"LanternWeirs$Fleet", "useWax", "()V"⟩, 13) := ⟨⟨by decide +kernel, by decide +kernel⟩, List.mem_of_getElem? (i := 67) (by decide +kernel), List.mem_of_getElem? (i := 480) (by decide +kernel), List.mem_of_getElem? (i := 481) (by decide +kernel)⟩
theorem lw_p12 : lw_okq (⟨"LanternWeirs", "minutesToNet", "(II)I"⟩, 3) := ⟨⟨by decide +kernel, by decide +kernel⟩, List.mem_of_getElem? (i := 16) (by decide +kernel), List.mem_of_getElem? (i := 516) (by decide +kernel), List.mem_of_getElem? (i := 517) (by decide +kernel)⟩
theorem lw_p13 : lw_okq (⟨"LanternWeirsModel", "no", "(I)I"⟩, 8) := ⟨⟨by decide +kernel, by decide +kernel⟩, List.mem_of_getElem? (i := 520) (by decide +kernel), List.mem_of_getElem? (i := 626) (by decide +kernel), List.mem_of_getElem? (i := 627) (by decide +kernel)⟩
theorem lw_p14 : lw_okq (⟨"LanternWeirsModel", "riverTold", "(III)I"⟩, 8) := ⟨⟨by decide +kernel, by decide +kernel⟩, List.mem_of_getElem? (i := 520) (by decide +kernel), List.mem_of_getElem? (i := 645) (by decide +kernel), List.mem_of_getElem? (i := 646) (by decide +kernel)⟩
theorem lw_p15 : lw_okq (⟨"LanternWeirsModel", "isLantern", "(I)Z"⟩, 8) := ⟨⟨by decide +kernel, by decide +kernel⟩, List.mem_of_getElem? (i := 520) (by decide +kernel), List.mem_of_getElem? (i := 667) (by decide +kernel), List.mem_of_getElem? (i := 668) (by decide +kernel)⟩
def lw_privs_1 : List (MethodName × Nat) := [(⟨"LanternWeirs", "counted", "(I)I"⟩, 3), (⟨"LanternWeirs$Fleet", "share", "(II)I"⟩, 13), (⟨"LanternWeirs", "riverFact", "(III)I"⟩, 3), (⟨"LanternWeirs", "nextWeir", "(I)I"⟩, 3), (⟨"java/lang/Throwable", "fillInStackTrace", "(I)Ljava/lang/Throwable;"⟩, 6), (⟨"LanternWeirs$Fleet", "crowdBy", "(II)V"⟩, 13), (⟨"LanternWeirs$Fleet", "lineUp", "()I"⟩, 13), (⟨"LanternWeirs$Fleet", "drift", "(ILLanternWeirs$Bed;)V"⟩, 13), (⟨"LanternWeirs$Fleet", "catchesAhead", "(I)Z"⟩, 13), (⟨"LanternWeirs$Fleet", "leave", "(II)V"⟩, 13), (⟨"LanternWeirs$Fleet", "meetWeir", "(II)V"⟩, 13), (⟨"LanternWeirs$Fleet", "useWax", "()V"⟩, 13), (⟨"LanternWeirs", "minutesToNet", "(II)I"⟩, 3), (⟨"LanternWeirsModel", "no", "(I)I"⟩, 8), (⟨"LanternWeirsModel", "riverTold", "(III)I"⟩, 8), (⟨"LanternWeirsModel", "isLantern", "(I)Z"⟩, 8)]
theorem lw_r1 : ∀ q ∈ lw_privs_1, lw_okq q := List.forall_mem_cons.mpr ⟨lw_p0, List.forall_mem_cons.mpr ⟨lw_p1, List.forall_mem_cons.mpr ⟨lw_p2, List.forall_mem_cons.mpr ⟨lw_p3, List.forall_mem_cons.mpr ⟨lw_p4, List.forall_mem_cons.mpr ⟨lw_p5, List.forall_mem_cons.mpr ⟨lw_p6, List.forall_mem_cons.mpr ⟨lw_p7, List.forall_mem_cons.mpr ⟨lw_p8, List.forall_mem_cons.mpr ⟨lw_p9, List.forall_mem_cons.mpr ⟨lw_p10, List.forall_mem_cons.mpr ⟨lw_p11, List.forall_mem_cons.mpr ⟨lw_p12, List.forall_mem_cons.mpr ⟨lw_p13, List.forall_mem_cons.mpr ⟨lw_p14, List.forall_mem_cons.mpr ⟨lw_p15, fun _ h => absurd h List.not_mem_nil⟩⟩⟩⟩⟩⟩⟩⟩⟩⟩⟩⟩⟩⟩⟩⟩
theorem lw_p16 : lw_okq (⟨"LanternWeirsModel", "lanternTold", "(II)I"⟩, 8) := ⟨⟨by decide +kernel, by decide +kernel⟩, List.mem_of_getElem? (i := 520) (by decide +kernel), List.mem_of_getElem? (i := 689) (by decide +kernel), List.mem_of_getElem? (i := 690) (by decide +kernel)⟩
theorem lw_p17 : lw_okq (⟨"LanternWeirsModel", "nextOf", "(I)I"⟩, 8) := ⟨⟨by decide +kernel, by decide +kernel⟩, List.mem_of_getElem? (i := 520) (by decide +kernel), List.mem_of_getElem? (i := 697) (by decide +kernel), List.mem_of_getElem? (i := 698) (by decide +kernel)⟩
theorem lw_p18 : lw_okq (⟨"LanternWeirsModel$State", "sort", "()I"⟩, 13) := ⟨⟨by decide +kernel, by decide +kernel⟩, List.mem_of_getElem? (i := 526) (by decide +kernel), List.mem_of_getElem? (i := 717) (by decide +kernel), List.mem_of_getElem? (i := 718) (by decide +kernel)⟩
theorem lw_p19 : lw_okq (⟨"LanternWeirsModel$State", "isAhead", "(II)Z"⟩, 13) := ⟨⟨by decide +kernel, by decide +kernel⟩, List.mem_of_getElem? (i := 526) (by decide +kernel), List.mem_of_getElem? (i := 721) (by decide +kernel), List.mem_of_getElem? (i := 722) (by decide +kernel)⟩
theorem lw_p20 : lw_okq (⟨"LanternWeirsModel$State", "drift", "(I)V"⟩, 13) := ⟨⟨by decide +kernel, by decide +kernel⟩, List.mem_of_getElem? (i := 526) (by decide +kernel), List.mem_of_getElem? (i := 725) (by decide +kernel), List.mem_of_getElem? (i := 726) (by decide +kernel)⟩
theorem lw_p21 : lw_okq (⟨"LanternWeirsModel$State", "isCaught", "(I)Z"⟩, 13) := ⟨⟨by decide +kernel, by decide +kernel⟩, List.mem_of_getElem? (i := 526) (by decide +kernel), List.mem_of_getElem? (i := 729) (by decide +kernel), List.mem_of_getElem? (i := 730) (by decide +kernel)⟩
theorem lw_p22 : lw_okq (⟨"LanternWeirsModel$State", "end", "(II)V"⟩, 13) := ⟨⟨by decide +kernel, by decide +kernel⟩, List.mem_of_getElem? (i := 526) (by decide +kernel), List.mem_of_getElem? (i := 733) (by decide +kernel), List.mem_of_getElem? (i := 734) (by decide +kernel)⟩
theorem lw_p23 : lw_okq (⟨"LanternWeirsModel$State", "pass", "(I)V"⟩, 13) := ⟨⟨by decide +kernel, by decide +kernel⟩, List.mem_of_getElem? (i := 526) (by decide +kernel), List.mem_of_getElem? (i := 737) (by decide +kernel), List.mem_of_getElem? (i := 738) (by decide +kernel)⟩
theorem lw_p24 : lw_okq (⟨"LanternWeirsModel$State", "copy", "([I[I)V"⟩, 13) := ⟨⟨by decide +kernel, by decide +kernel⟩, List.mem_of_getElem? (i := 526) (by decide +kernel), List.mem_of_getElem? (i := 754) (by decide +kernel), List.mem_of_getElem? (i := 755) (by decide +kernel)⟩
theorem lw_p25 : lw_okq (⟨"LanternWeirsModel", "comes", "(II)I"⟩, 8) := ⟨⟨by decide +kernel, by decide +kernel⟩, List.mem_of_getElem? (i := 520) (by decide +kernel), List.mem_of_getElem? (i := 769) (by decide +kernel), List.mem_of_getElem? (i := 770) (by decide +kernel)⟩
def lw_privs_2 : List (MethodName × Nat) := [(⟨"LanternWeirsModel", "lanternTold", "(II)I"⟩, 8), (⟨"LanternWeirsModel", "nextOf", "(I)I"⟩, 8), (⟨"LanternWeirsModel$State", "sort", "()I"⟩, 13), (⟨"LanternWeirsModel$State", "isAhead", "(II)Z"⟩, 13), (⟨"LanternWeirsModel$State", "drift", "(I)V"⟩, 13), (⟨"LanternWeirsModel$State", "isCaught", "(I)Z"⟩, 13), (⟨"LanternWeirsModel$State", "end", "(II)V"⟩, 13), (⟨"LanternWeirsModel$State", "pass", "(I)V"⟩, 13), (⟨"LanternWeirsModel$State", "copy", "([I[I)V"⟩, 13), (⟨"LanternWeirsModel", "comes", "(II)I"⟩, 8)]
theorem lw_r2 : ∀ q ∈ lw_privs_2, lw_okq q := List.forall_mem_cons.mpr ⟨lw_p16, List.forall_mem_cons.mpr ⟨lw_p17, List.forall_mem_cons.mpr ⟨lw_p18, List.forall_mem_cons.mpr ⟨lw_p19, List.forall_mem_cons.mpr ⟨lw_p20, List.forall_mem_cons.mpr ⟨lw_p21, List.forall_mem_cons.mpr ⟨lw_p22, List.forall_mem_cons.mpr ⟨lw_p23, List.forall_mem_cons.mpr ⟨lw_p24, List.forall_mem_cons.mpr ⟨lw_p25, fun _ h => absurd h List.not_mem_nil⟩⟩⟩⟩⟩⟩⟩⟩⟩⟩
def lw_privs : List (MethodName × Nat) := lw_privs_1 ++ (lw_privs_2)
def lw_tbl : List Cond := k2_sels lw_privs ++ tables_1
theorem lw_privs_ok : ∀ q ∈ lw_privs, lw_okq q := by
  show ∀ q ∈ lw_privs_1 ++ (lw_privs_2), lw_okq q
  exact List.forall_mem_append.mpr ⟨lw_r1, lw_r2⟩
/-- the streams that the claim lets the run draw from -/
abbrev lw_cs : List Choice := [Jvm.Choice.named "NaN.bits"]
theorem lw_bits : nanBits ∈ lw_cs := by first | decide | exact List.mem_cons_self | simp [lw_cs, nanBits]
-- ===== end of PART A; then your names; then what follows =====
/-! ===== BEGIN words of one list among another's, by their places ===== -/
theorem goodIn_r {big : List Cond} (ws : List Cond) (ps : List Nat) (hp : ws = ps.filterMap (fun i => big[i]?)) (h : ws.all goodWord = true) : GoodIn big ws := by
  intro w hw
  have h1 := List.all_eq_true.mp h w hw
  rw [hp] at hw
  obtain ⟨i, -, hi⟩ := List.mem_filterMap.mp hw
  have hm : w ∈ big := by first | exact List.mem_of_getElem? hi | exact List.getElem?_mem hi
  exact ⟨hm, good_of_word h1⟩
theorem goodIn_app {big a b : List Cond} (ha : GoodIn big a) (hb : GoodIn big b) : GoodIn big (a ++ b) := fun w h => (List.mem_append.mp h).elim (ha w) (hb w)
theorem goodIn_ca {big a b : List Cond} {c : Cond} (ha : GoodIn big (c :: a)) (hb : GoodIn big b) : GoodIn big (c :: (a ++ b)) := fun w h => (List.mem_cons.mp h).elim (fun e => ha w (List.mem_cons.mpr (Or.inl e))) (fun h => (List.mem_append.mp h).elim (fun h => ha w (List.mem_cons.mpr (Or.inr h))) (hb w))
theorem goodIn_sub {big ws : List Cond} (hm : ∀ w ∈ ws, w ∈ big) (h : ws.all goodWord = true) : GoodIn big ws := fun w hw => ⟨hm w hw, good_of_word (List.all_eq_true.mp h w hw)⟩
/-! ===== END ===== -/

/-! ===== BEGIN exceptions that leave a method, and their catching by the caller (launches without stack traces) ===== -/
section VXA
/-! The laws vx_back, vx_callV, vx_callS, vx_callSW, vx_throw0, vx_throwS follow proofs of the library, with one case more: JvmDerived/Free/Laws.lean (Back.of_free), Shelf42/LK1.lean (callV, callS), Shelf/KitTraced.lean (throwNew0V, throwNewS). -/
/-- where a method has thrown q: the class by its name, the cell, what was written, the world -/
def vx_T (XC : String → State → State → Prop) (st : State) (q : Addr) (t : State) (mc ms : Nat) (free : Addr → Prop) : Prop :=
  ∃ (E : String) (ce : Cell) (L : List Loc), XC E st t ∧ t.heap[q]? = some ce ∧ ce.vm = .none ∧ st.vm.findClass E = some ce.cls ∧ st.WarmedH t.vm ∧ st.sameButNew ({ t with vm := st.vm } : State) L mc ms ∧ ∀ z ∈ L, free z.base
def vx_Q (Qc : Array Value → State → Outcome → State → Prop) (XC : String → State → State → Prop) (mc ms : Nat) (free : Addr → Prop) : Array Value → State → Outcome → State → Prop := fun a st o t =>
  (Qc a st o t ∧ ∃ L, FrameEnd st o t L mc ms ∧ ∀ q ∈ L, free q.base) ∨ ∃ q, o = .threw q ∧ vx_T XC st q t mc ms free
/-- a callee that returns or throws -/
def vx_Met (l : Launch) (y : MethodName) (ws : List Cond) (rm : Room) (Pc : Array Value → State → Prop) (Qc : Array Value → State → Outcome → State → Prop) (XC : String → State → State → Prop) (mc ms : Nat) (free : Addr → Prop) : Prop :=
  MetFree l y (headSpec ws rm) Pc (fun _ _ _ _ _ => True) (vx_Q Qc XC mc ms free)
def vx_Post (XC : String → State → State → Prop) (mc ms : Nat) (free : Addr → Prop) : Pt → Array Value → Addr → Pt → Prop := fun A a q B =>
  ∃ (g : JFrame) (mk : MethodId) (t : State) (L : List Loc) (E : String) (ce : Cell), B.U.heap = t.heap ∧ B.U.vm = t.vm ∧ XC E (A.U.calling g mk a) t ∧ t.heap[q]? = some ce ∧ ce.vm = .none ∧ A.U.vm.findClass E = some ce.cls ∧ B.locs = A.locs ++ L ∧ (∀ z ∈ L, free z.base) ∧ B.cells = A.cells + mc ∧ B.slots = A.slots + ms
def vx_Back (l : Launch) (R : Room) (p : Program) (e : Env) (below : List Frame) (s : State) (sargs : Array Value) (y : MethodName) (len W9 : Nat)
    (Pre : Pt → Array Value → Prop) (Post : Pt → Array Value → Option Value → Pt → Prop) (PostX : Pt → Array Value → Addr → Pt → Prop) : Prop :=
  ∀ (m : MethodId) (meth : Method) (c : Code) (A : Pt) (g : JFrame) (ig : Instr) (mk : MethodId) (a : Array Value),
    Stand p l e R s m sargs below meth c A.U A.locs A.cells A.slots → g.method = m → g.locals.size = c.maxLocals → decode c.code g.pc = .ok (ig, len) →
    2 * g.monitorRoom + (g.stack.map fun v => v.category).sum ≤ W9 → A.U.methodNamed? y = some mk → Pre A a →
    (∃ (v : Option Value) (B : Pt), Stand p l e R s m sargs below meth c B.U B.locs B.cells B.slots ∧ Post A a v B ∧
      Steps p.tables e below (doInvoke e (A.U.setTop g) [] mk a).1 (B.U.setTop { g with pc := g.pc + len, stack := v.toList ++ g.stack })) ∨
    (∃ (q : Addr) (B : Pt), Stand p l e R s m sargs below meth c B.U B.locs B.cells B.slots ∧ PostX A a q B ∧
      Steps p.tables e below (doInvoke e (A.U.setTop g) [] mk a).1 ((B.U.setTop g).pushFrame (.throwing q)))
section Payer
variable {l : Launch} {R : Room} {p : Program} {e : Env} {below : List Frame} {s : State} {sargs : Array Value} {y : MethodName} {len W9 : Nat}
theorem vx_back {ws : List Cond} {rm : Room} {Pc : Array Value → State → Prop} {Qc : Array Value → State → Outcome → State → Prop} {XC : String → State → State → Prop} {mc ms : Nat} {free : Addr → Prop} {bytes : ByteArray} {maxL : Nat} {ret : Option FieldType}
    (hM : vx_Met l y ws rm Pc Qc XC mc ms free) (hblind : FrameBlind Pc) (hrc : rm.cells = mc) (hrs : rm.slots = ms)
    (hframes : rm.frames + 1 ≤ R.frames) (hlocals : W9 + (maxL + 11) + rm.locals ≤ R.locals)
    (hws : ∀ w ∈ ws, ∀ a' U, s.WarmedH U.vm → w.before a' U = true) (hcode : Cond.code y bytes maxL ret ∈ ws) (hinit : ∀ a' U, s.WarmedH U.vm → (Cond.initialized y.cls).before a' U = true) :
    vx_Back l R p e below s sargs y len W9 (PreOf R mc ms Pc) (PostOf Qc mc ms free) (vx_Post XC mc ms free) := by
  intro m meth c A g ig mk a X hg hsize hdg hW hn hp
  have h1 : (headSpec ws rm).pre.before a A.U = true := atoms_intro fun w hw => hws w hw _ _ X.warmed
  have h2 : (Cond.code y bytes maxL ret).before a A.U = true := hws _ hcode _ _ X.warmed
  have h3 : (Cond.initialized y.cls).before a A.U = true := hinit _ _ X.warmed
  have h4 : A.cells + (headSpec ws rm).room.cells ≤ R.cells := by rw [show (headSpec ws rm).room.cells = mc from hrc]; exact hp.1
  have h5 : A.slots + (headSpec ws rm).room.slots ≤ R.slots := by rw [show (headSpec ws rm).room.slots = ms from hrs]; exact hp.2.1
  have hPc : Pc a (A.U.calling g mk a) := hblind _ _ _ _ hp.2.2
  obtain ⟨U, Ls, c0, s0⟩ := A
  dsimp only [Pt.U, Pt.locs, Pt.cells, Pt.slots] at h1 h2 h3 h4 h5 X hn hPc ⊢
  obtain ⟨methY, cY, hmY, hcY, -, hlY, -, -, -, -⟩ := Cond.code_spec hn h2
  obtain ⟨kY, hkY, -⟩ := className_of_methodNamed hn
  have hinitY : kY.init = .initialized := Cond.initialized_spec (findClass_of_methodNamed hn) hkY h3
  have h : At U g.method c below := by rw [hg]; exact X.here
  have hlocals9 : W9 + (maxL + 11) + (headSpec ws rm).room.locals ≤ R.locals := hlocals
  have happ : (headSpec ws rm).appliesLoose y e.platform (U.calling g mk a) = true :=
    Spec.appliesLoose_calling (g := g) h hdg hn hkY hinitY
      (X.room_calling (g := g) (R' := (headSpec ws rm).room) hsize hmY hcY hframes (by rw [hlY]; omega) h4 h5) h1
  obtain ⟨mid, hmid⟩ := h.above
  have hfr : (U.setTop g).frames = (.java g :: mid) ++ below := by rw [State.frames_setTop' g h.top, hmid]; rfl
  obtain ⟨o, s₂, hsteps, -, hend, hq⟩ := Steps.callFree hM p X.admits X.cas X.clock (acts := []) hfr happ hPc trivial
  have hq' : vx_Q Qc XC mc ms free a (U.calling g mk a) o s₂ := hq
  rw [State.frames_setTop' g h.top] at hend
  obtain ⟨g₀, hg0⟩ := Option.isSome_iff_exists.mp h.top
  obtain ⟨r, hr⟩ := State.topJava?_eq_some.mp hg0
  have hr' : (({ U with heap := s₂.heap, slotsUsed := s₂.slotsUsed } : State).setVm s₂.vm).frames = .java g₀ :: r := hr
  rcases hq' with ⟨hqc, L, hfe, hL⟩ | ⟨q, rfl, E, ce, L, hx, hce, hcv, hcl, hW₂, hsm, hL⟩
  · obtain ⟨⟨v, rfl⟩, hW₂, e2, q2, q3, q4, q5, q6⟩ := id hfe
    have e3 : s₂ = ({ (U.calling g mk a).setFrames s₂.frames with heap := s₂.heap, slotsUsed := s₂.slotsUsed } : State).setVm s₂.vm := by
      have : s₂ = ({ s₂ with vm := (U.calling g mk a).vm } : State).setVm s₂.vm := rfl
      rw [e2] at this
      exact this
    obtain ⟨c₂, i₂, len₂, hc₂, hd₂, hf₂⟩ := hend
    have hW' : U.WarmedH s₂.vm := hW₂
    have hcc : c₂ = c := by
      have h1 : s₂.code? g.method = U.code? g.method := by
        rw [State.code?_eq, State.code?_eq, hW'.alike.method?]
      exact Option.some.inj (hc₂.symm.trans (h1.trans h.code))
    subst hcc
    have hlen : len₂ = len := by rw [hdg] at hd₂; cases hd₂; rfl
    subst hlen
    have hs₂ : s₂ = (({ U with heap := s₂.heap, slotsUsed := s₂.slotsUsed } : State).setVm s₂.vm).setTop { g with pc := g.pc + len₂, stack := v.toList ++ g.stack } := by
      refine e3.trans ?_
      rw [hf₂, State.calling_eq h.top, State.setFrames_setFrames, State.setTop_of_frames _ hr', hr]
      rfl
    have hsame : U.sameButNew ({ U with heap := s₂.heap, slotsUsed := s₂.slotsUsed } : State) L mc ms := by
      refine ⟨?_, q2, q3, q4, q5, q6⟩
      obtain ⟨t, ht, -⟩ := State.frames_cons hr
      show ({ U with heap := s₂.heap, slotsUsed := s₂.slotsUsed } : State) = { U.setFrames U.frames with heap := s₂.heap, slotsUsed := s₂.slotsUsed }
      rw [State.setFrames_self ht]
    subst hg
    refine Or.inl ⟨v, ⟨(({ U with heap := s₂.heap, slotsUsed := s₂.slotsUsed } : State).setVm s₂.vm), Ls ++ L, c0 + mc, s0 + ms⟩,
      ⟨X.admits, X.cas, X.clock, X.frames, X.room, X.hears, X.method, X.code, (X.here.setHeapUsed s₂.heap s₂.slotsUsed).setVm hW'.alike, X.tail, State.WarmedH.trans X.warmed hW', X.limits, X.bytes, X.same.trans (hsame.setVm s.vm)⟩,
      ⟨g, mk, s₂, L, rfl, rfl, hqc, rfl, hL, rfl, rfl⟩, ?_⟩
    show Steps p.tables e below _ ((({ U with heap := s₂.heap, slotsUsed := s₂.slotsUsed } : State).setVm s₂.vm).setTop { g with pc := g.pc + len₂, stack := v.toList ++ g.stack })
    rw [← hs₂]
    exact hsteps
  · obtain ⟨e2, q2, q3, q4, q5, q6⟩ := id hsm
    have e3 : s₂ = ({ (U.calling g mk a).setFrames s₂.frames with heap := s₂.heap, slotsUsed := s₂.slotsUsed } : State).setVm s₂.vm := by
      have : s₂ = ({ s₂ with vm := (U.calling g mk a).vm } : State).setVm s₂.vm := rfl
      rw [e2] at this
      exact this
    have hf₂ : s₂.frames = .throwing q :: .java g :: U.frames.tail := hend
    have hW' : U.WarmedH s₂.vm := hW₂
    have hs₂ : s₂ = ((({ U with heap := s₂.heap, slotsUsed := s₂.slotsUsed } : State).setVm s₂.vm).setTop g).pushFrame (.throwing q) := by
      refine e3.trans ?_
      rw [hf₂, State.calling_eq h.top, State.setFrames_setFrames, State.pushFrame, State.frames_setTop _ hr', State.setTop_of_frames _ hr', State.setFrames_setFrames, hr]
      rfl
    have hsame : U.sameButNew ({ U with heap := s₂.heap, slotsUsed := s₂.slotsUsed } : State) L mc ms := by
      refine ⟨?_, q2, q3, q4, q5, q6⟩
      obtain ⟨t, ht, -⟩ := State.frames_cons hr
      show ({ U with heap := s₂.heap, slotsUsed := s₂.slotsUsed } : State) = { U.setFrames U.frames with heap := s₂.heap, slotsUsed := s₂.slotsUsed }
      rw [State.setFrames_self ht]
    subst hg
    refine Or.inr ⟨q, ⟨(({ U with heap := s₂.heap, slotsUsed := s₂.slotsUsed } : State).setVm s₂.vm), Ls ++ L, c0 + mc, s0 + ms⟩,
      ⟨X.admits, X.cas, X.clock, X.frames, X.room, X.hears, X.method, X.code, (X.here.setHeapUsed s₂.heap s₂.slotsUsed).setVm hW'.alike, X.tail, State.WarmedH.trans X.warmed hW', X.limits, X.bytes, X.same.trans (hsame.setVm s.vm)⟩,
      ⟨g, mk, s₂, L, E, ce, rfl, rfl, hx, hce, hcv, hcl, rfl, hL, rfl, rfl⟩, ?_⟩
    show Steps p.tables e below _ (((({ U with heap := s₂.heap, slotsUsed := s₂.slotsUsed } : State).setVm s₂.vm).setTop g).pushFrame (.throwing q))
    rw [← hs₂]
    exact hsteps
end Payer
section Calls
variable {p : Program} {l : Launch} {e : Env} {R : Room} {s : State} {m : MethodId} {args : Array Value} {below : List Frame} {meth : Method} {c : Code} {T : State} {locs : List Loc} {cells slots : Nat}
theorem vx_callV (X : Stand p l e R s m args below meth c T locs cells slots) (hexec : p.tables.exec = Jvm.exec) {own C : String} {index : Nat} {y : MethodName} {bytes : ByteArray} {maxL : Nat} {ret : Option FieldType}
    (hown : s.vm.findClass own = some m.cls) (hlink : (Cond.methodLink own index y).before args s = true) (hinst : (Cond.instanceMethod y).before args s = true) (hsel : (Cond.selects C y y).before args s = true)
    (hcode : (Cond.code y bytes maxL ret).before args s = true) (hy : y.cls ≠ "java/lang/invoke/MethodHandle" ∧ y.cls ≠ "java/lang/invoke/VarHandle")
    {W9 : Nat} {Pre : Pt → Array Value → Prop} {Post : Pt → Array Value → Option Value → Pt → Prop} {PostX : Pt → Array Value → Addr → Pt → Prop} (hK : vx_Back l R p e below s args y 3 W9 Pre Post PostX)
    {b : Addr} {cellB : Cell} (hcell : T.heap[b]? = some cellB) (hobj : cellB.vm.isStatics = false) (hcls : s.vm.findClass C = some cellB.cls)
    {g : JFrame} (hg : g.method = m) (hsize : g.locals.size = c.maxLocals) {argsL rest : List Value} (hlen : ∀ sig, parseMethodDescriptor y.desc = some sig → argsL.length = sig.parameters.length)
    (hstack : g.stack = argsL.reverse ++ .ref b :: rest) (hW : 2 * g.monitorRoom + (rest.map fun v => v.category).sum ≤ W9) (hdg : decode c.code g.pc = .ok (.invokevirtual index, 3))
    (hpre : ∀ vm₁, s.WarmedH vm₁ → Pre ⟨T.setVm vm₁, locs, cells, slots⟩ (Value.ref b :: argsL).toArray) :
    (∃ (v : Option Value) (vm₁ : Vm) (B : Pt), s.WarmedH vm₁ ∧ Stand p l e R s m args below meth c B.U B.locs B.cells B.slots ∧ Post ⟨T.setVm vm₁, locs, cells, slots⟩ (Value.ref b :: argsL).toArray v B ∧
      ∀ target, Steps p.tables e below (B.U.setTop { g with pc := g.pc + 3, stack := v.toList ++ rest }) target → Steps p.tables e below (T.setTop g) target) ∨
    (∃ (q : Addr) (vm₁ : Vm) (B : Pt), s.WarmedH vm₁ ∧ Stand p l e R s m args below meth c B.U B.locs B.cells B.slots ∧ PostX ⟨T.setVm vm₁, locs, cells, slots⟩ (Value.ref b :: argsL).toArray q B ∧
      Steps p.tables e below (T.setTop g) ((B.U.setTop { g with stack := rest }).pushFrame (.throwing q))) := by
  obtain ⟨mk, methM, hnamed, hmethM, hstM, habM⟩ := Cond.instanceMethod_spec hinst
  obtain ⟨methM', cM, hmethM', -, -, -, -, -, -, hsigM⟩ := Cond.code_spec hnamed hcode
  cases hmethM.symm.trans hmethM'
  obtain ⟨c2, r2, m2, q1, q2, q3, q4, kP, hkP, hkPi⟩ := Cond.selects_spec hsel
  cases hcls.symm.trans q1
  cases (State.methodFound?_of_named hnamed hy).symm.trans q2
  cases hnamed.symm.trans q3
  have hselP : selectMethod e.platform s.vm cellB.cls mk = .method mk := by rw [Launch.admits_selectMethod X.admits]; exact q4
  obtain ⟨vm₁, X₁, hstep₁⟩ := X.invokevirtual hexec hown hlink hnamed hmethM hstM hkP hkPi hy (a := b) (cell := cellB) hcell
    (fun z h => by rw [h] at hobj; cases hobj) hselP hmethM habM hkP hkPi (g := g) hg (argsL := argsL) (rest := rest) (hlen _ hsigM) hstack hdg
  rcases hK m meth c ⟨T.setVm vm₁, locs, cells, slots⟩ { g with stack := rest } (.invokevirtual index) mk (Value.ref b :: argsL).toArray X₁ hg hsize hdg hW (X₁.named hnamed) (hpre vm₁ X₁.warmed) with ⟨v, B, X', hpost, hsteps⟩ | ⟨q, B, X', hpost, hsteps⟩
  · exact Or.inl ⟨v, vm₁, B, X₁.warmed, X', hpost, fun target h => hstep₁ _ fun acts => by rw [doInvoke_state]; exact hsteps.trans h⟩
  · exact Or.inr ⟨q, vm₁, B, X₁.warmed, X', hpost, hstep₁ _ fun acts => by rw [doInvoke_state]; exact hsteps⟩
theorem vx_callS (X : Stand p l e R s m args below meth c T locs cells slots) (hexec : p.tables.exec = Jvm.exec) {own : String} {index : Nat} {y : MethodName} {bytes : ByteArray} {maxL : Nat} {ret : Option FieldType}
    (hown : s.vm.findClass own = some m.cls) (hlink : (Cond.methodLink own index y).before args s = true) (hstat : (Cond.static y).before args s = true) (hinit : (Cond.initialized y.cls).before args s = true)
    (hcode : (Cond.code y bytes maxL ret).before args s = true) (hy : y.cls ≠ "java/lang/invoke/MethodHandle" ∧ y.cls ≠ "java/lang/invoke/VarHandle")
    {W9 : Nat} {Pre : Pt → Array Value → Prop} {Post : Pt → Array Value → Option Value → Pt → Prop} {PostX : Pt → Array Value → Addr → Pt → Prop} (hK : vx_Back l R p e below s args y 3 W9 Pre Post PostX)
    {g : JFrame} (hg : g.method = m) (hsize : g.locals.size = c.maxLocals) {argsL rest : List Value} (hlen : ∀ sig, parseMethodDescriptor y.desc = some sig → argsL.length = sig.parameters.length)
    (hstack : g.stack = argsL.reverse ++ rest) (hW : 2 * g.monitorRoom + (rest.map fun v => v.category).sum ≤ W9) (hdg : decode c.code g.pc = .ok (.invokestatic index, 3))
    (hpre : ∀ vm₁, s.WarmedH vm₁ → Pre ⟨T.setVm vm₁, locs, cells, slots⟩ argsL.toArray) :
    (∃ (v : Option Value) (vm₁ : Vm) (B : Pt), s.WarmedH vm₁ ∧ Stand p l e R s m args below meth c B.U B.locs B.cells B.slots ∧ Post ⟨T.setVm vm₁, locs, cells, slots⟩ argsL.toArray v B ∧
      ∀ target, Steps p.tables e below (B.U.setTop { g with pc := g.pc + 3, stack := v.toList ++ rest }) target → Steps p.tables e below (T.setTop g) target) ∨
    (∃ (q : Addr) (vm₁ : Vm) (B : Pt), s.WarmedH vm₁ ∧ Stand p l e R s m args below meth c B.U B.locs B.cells B.slots ∧ PostX ⟨T.setVm vm₁, locs, cells, slots⟩ argsL.toArray q B ∧
      Steps p.tables e below (T.setTop g) ((B.U.setTop { g with stack := rest }).pushFrame (.throwing q))) := by
  obtain ⟨mk, hnamed⟩ := Cond.code_named hcode
  obtain ⟨methM, cM, hmethM, -, -, -, -, -, -, hsigM⟩ := Cond.code_spec hnamed hcode
  have hstatic : methM.isStatic = true := Cond.static_spec hnamed hmethM hstat
  obtain ⟨kP, hkP, -⟩ := className_of_methodNamed hnamed
  have hinitP : kP.init = .initialized := Cond.initialized_spec (findClass_of_methodNamed hnamed) hkP hinit
  obtain ⟨vm₁, X₁, hstep₁⟩ := X.invokestatic hexec hown hlink hnamed hmethM hstatic hkP hinitP hy (g := g) hg (argsL := argsL) (rest := rest) (hlen _ hsigM) hstack hdg
  rcases hK m meth c ⟨T.setVm vm₁, locs, cells, slots⟩ { g with stack := rest } (.invokestatic index) mk argsL.toArray X₁ hg hsize hdg hW (X₁.named hnamed) (hpre vm₁ X₁.warmed) with ⟨v, B, X', hpost, hsteps⟩ | ⟨q, B, X', hpost, hsteps⟩
  · exact Or.inl ⟨v, vm₁, B, X₁.warmed, X', hpost, fun target h => hstep₁ _ fun acts => by rw [doInvoke_state]; exact hsteps.trans h⟩
  · exact Or.inr ⟨q, vm₁, B, X₁.warmed, X', hpost, hstep₁ _ fun acts => by rw [doInvoke_state]; exact hsteps⟩
end Calls
theorem vx_cls {s : State} {T : State} {vm₁ : Vm} {E : String} {k : ClassId} (hW : s.WarmedH vm₁) (h : (T.setVm vm₁).vm.findClass E = some k) : s.vm.findClass E = some k := by
  have h1 : vm₁.findClass E = some k := h
  rw [hW.alike.findClass] at h1
  exact h1
/-- the method's frame g, with q thrown over it -/
def vx_W (p : Program) (l : Launch) (e : Env) (R : Room) (s : State) (m : MethodId) (args : Array Value) (below : List Frame) (meth : Method) (c : Code) (H : Heap) (locs : List Loc) (cells slots : Nat) (Q : State → Prop) (g : JFrame) (q : Addr) : Prop :=
  ∀ T : State, T.heap = H → Stand p l e R s m args below meth c T locs cells slots → ∃ t, Steps p.tables e below ((T.setTop g).pushFrame (.throwing q)) t ∧ Q t
def vx_Run (p : Program) (l : Launch) (e : Env) (R : Room) (s : State) (m : MethodId) (args : Array Value) (below : List Frame) (meth : Method) (c : Code) (H : Heap) (locs : List Loc) (cells slots mc ms : Nat) (g : JFrame) (rest : List Value) (Qa : State → Outcome → State → Prop) (XC : String → State → State → Prop) (free : Addr → Prop) : Prop :=
  ∀ T : State, T.heap = H → Stand p l e R s m args below meth c T locs cells slots →
    (∃ (v : Option Value) (st₀ t T' : State) (L : List Loc), st₀.heap = H ∧ Stand p l e R s m args below meth c T' (locs ++ L) (cells + mc) (slots + ms) ∧ (∀ q ∈ L, free q.base) ∧ T'.heap = t.heap ∧ T'.vm = t.vm ∧ Qa st₀ (.returned v) t ∧
      Goes p e below T g T' { g with pc := g.pc + 3, stack := v.toList ++ rest }) ∨
    (∃ (q : Addr) (st₀ t T' : State) (L : List Loc) (E : String) (ce : Cell), st₀.heap = H ∧ Stand p l e R s m args below meth c T' (locs ++ L) (cells + mc) (slots + ms) ∧ (∀ z ∈ L, free z.base) ∧ T'.heap = t.heap ∧ T'.vm = t.vm ∧ XC E st₀ t ∧ t.heap[q]? = some ce ∧ ce.vm = .none ∧ s.vm.findClass E = some ce.cls ∧
      Steps p.tables e below (T.setTop g) ((T'.setTop { g with stack := rest }).pushFrame (.throwing q)))
def vx_X {S : Type} (px : S → Prop) (B : String → S → State → Prop) (A : Nat → Prop) : String → State → State → Prop := fun E st t => ∃ u : S, px u ∧ B E u t ∧ va_F A st t
section Runs
variable {p : Program} {l : Launch} {e : Env} {R : Room} {s : State} {m : MethodId} {args : Array Value} {below : List Frame} {meth : Method} {c : Code} {H : Heap} {locs : List Loc} {cells slots : Nat}
variable {y : MethodName} {bytes cc : ByteArray} {maxL nL mc ms n index : Nat} {ret : Option FieldType} {ws : List Cond} {rm : Room} {Pc : Array Value → State → Prop} {Qc : Array Value → State → Outcome → State → Prop} {XC : String → State → State → Prop} {free : Addr → Prop} {Ts : List Cond} {own C : String} {b : Addr} {As rest : List Value} {g : JFrame}
theorem vx_callBack (cb : CallB R s args own index y bytes maxL ret ws rm mc ms n) (hM : vx_Met l y ws rm Pc Qc XC mc ms free) (hbl : FrameBlind Pc) : vx_Back l R p e below s args y 3 8 (PreOf R mc ms Pc) (PostOf Qc mc ms free) (vx_Post XC mc ms free) := by
  obtain ⟨hrc, hrs, hfr, hlo, hws, hcw, -, hini, -⟩ := cb
  exact vx_back (bytes := bytes) (maxL := maxL) (ret := ret) hM hbl hrc hrs hfr hlo hws hcw (fun a' U hW => word_at hW (Or.inl (by first | rfl | simp [Cond.onTables, Cond.keeps, Cond.steady])) hini)
theorem vx_runV (S : CallFix p m c cc nL s args Ts own) (hM : vx_Met l y ws rm Pc Qc XC mc ms free) (cw : CallW R s args own C index y bytes maxL ret ws rm mc ms n) (hp : PreV s H C b Pc As)
    (hg : g.method = m) (hn : As.length = n) (hsize : g.locals.size = nL) (hstack : g.stack = As.reverse ++ .ref b :: rest) (hW : 2 * g.monitorRoom + (rest.map fun v => v.category).sum ≤ 8) (hdg : decode cc g.pc = .ok (.invokevirtual index, 3)) (hf : cells + mc ≤ R.cells ∧ slots + ms ≤ R.slots) :
    vx_Run p l e R s m args below meth c H locs cells slots mc ms g rest (Qc (Value.ref b :: As).toArray) XC free := by
  have hK : vx_Back l R p e below s args y 3 8 (PreOf R mc ms Pc) (PostOf Qc mc ms free) (vx_Post XC mc ms free) := vx_callBack cw.1 hM hp.1
  obtain ⟨⟨-, -, -, -, -, -, hcode, -, hy, hlen, hl⟩, hin, hse⟩ := cw
  obtain ⟨hx, hb, hml, ho, -⟩ := S
  obtain ⟨-, ⟨cellB, hcB, hoB, hclB⟩, hPc⟩ := hp
  intro T hT X
  rcases vx_callV X hx (C := C) (bytes := bytes) (maxL := maxL) (ret := ret) ho hl hin hse hcode hy hK (by rw [hT]; exact hcB) hoB hclB hg (hsize.trans hml.symm) (argsL := As) (rest := rest) (fun sig h => hn.trans (hlen sig h)) hstack hW (by rw [hb]; exact hdg)
    (fun vm₁ hW₁ => ⟨hf.1, hf.2, hPc (T.setVm vm₁) hT hW₁⟩) with ⟨v, vm₁, ⟨U', l2, c2, s2⟩, hW₁, X', ⟨g', mk, t, L, e1, e2, hq, h1, hL, h2, h3⟩, st⟩ | ⟨q, vm₁, ⟨U', l2, c2, s2⟩, hW₁, X', ⟨g', mk, t, L, E, ce, e1, e2, hq, hce, hcv, hcl, h1, hL, h2, h3⟩, st⟩
  · dsimp only [Pt.U, Pt.locs, Pt.cells, Pt.slots] at X' e1 e2 h1 h2 h3 st
    subst h1; subst h2; subst h3
    exact Or.inl ⟨v, (T.setVm vm₁).calling g' mk (Value.ref b :: As).toArray, t, U', L, hT, X', hL, e1, e2, hq, st⟩
  · dsimp only [Pt.U, Pt.locs, Pt.cells, Pt.slots] at X' e1 e2 h1 h2 h3 st hcl
    subst h1; subst h2; subst h3
    exact Or.inr ⟨q, (T.setVm vm₁).calling g' mk (Value.ref b :: As).toArray, t, U', L, E, ce, hT, X', hL, e1, e2, hq, hce, hcv, vx_cls hW₁ hcl, st⟩
theorem vx_runS (S : CallFix p m c cc nL s args Ts own) (hM : vx_Met l y ws rm Pc Qc XC mc ms free) (cw : CallB R s args own index y bytes maxL ret ws rm mc ms n ∧ (Cond.static y).before args s = true) (hp : PreS s H Pc As)
    (hg : g.method = m) (hn : As.length = n) (hsize : g.locals.size = nL) (hstack : g.stack = As.reverse ++ rest) (hW : 2 * g.monitorRoom + (rest.map fun v => v.category).sum ≤ 8) (hdg : decode cc g.pc = .ok (.invokestatic index, 3)) (hf : cells + mc ≤ R.cells ∧ slots + ms ≤ R.slots) :
    vx_Run p l e R s m args below meth c H locs cells slots mc ms g rest (Qc As.toArray) XC free := by
  have hK : vx_Back l R p e below s args y 3 8 (PreOf R mc ms Pc) (PostOf Qc mc ms free) (vx_Post XC mc ms free) := vx_callBack cw.1 hM hp.1
  obtain ⟨⟨-, -, -, -, -, -, hcode, hini, hy, hlen, hl⟩, hstt⟩ := cw
  obtain ⟨hx, hb, hml, ho, -⟩ := S
  intro T hT X
  rcases vx_callS X hx (bytes := bytes) (maxL := maxL) (ret := ret) ho hl hstt hini hcode hy hK hg (hsize.trans hml.symm) (argsL := As) (rest := rest) (fun sig h => hn.trans (hlen sig h)) hstack hW (by rw [hb]; exact hdg)
    (fun vm₁ hW₁ => ⟨hf.1, hf.2, hp.2 (T.setVm vm₁) hT hW₁⟩) with ⟨v, vm₁, ⟨U', l2, c2, s2⟩, hW₁, X', ⟨g', mk, t, L, e1, e2, hq, h1, hL, h2, h3⟩, st⟩ | ⟨q, vm₁, ⟨U', l2, c2, s2⟩, hW₁, X', ⟨g', mk, t, L, E, ce, e1, e2, hq, hce, hcv, hcl, h1, hL, h2, h3⟩, st⟩
  · dsimp only [Pt.U, Pt.locs, Pt.cells, Pt.slots] at X' e1 e2 h1 h2 h3 st
    subst h1; subst h2; subst h3
    exact Or.inl ⟨v, (T.setVm vm₁).calling g' mk As.toArray, t, U', L, hT, X', hL, e1, e2, hq, st⟩
  · dsimp only [Pt.U, Pt.locs, Pt.cells, Pt.slots] at X' e1 e2 h1 h2 h3 st hcl
    subst h1; subst h2; subst h3
    exact Or.inr ⟨q, (T.setVm vm₁).calling g' mk As.toArray, t, U', L, E, ce, hT, X', hL, e1, e2, hq, hce, hcv, vx_cls hW₁ hcl, st⟩
end Runs
section Rows
variable {p : Program} {l : Launch} {e : Env} {R : Room} {s : State} {m : MethodId} {args : Array Value} {below : List Frame} {meth : Method} {c : Code} {H : Heap} {locs : List Loc} {cells slots : Nat} {Q : State → Prop}
variable {mc ms : Nat} {free : Addr → Prop} {A0 A1 : Nat → Prop} {H0 : Heap} {a : Array Value} {pc : Nat} {ls : Array Slot} {st0 rest : List Value}
theorem vx_keep {st₀ t T' : State} {L : List Loc} (h0 : st₀.heap = H) (e1 : T'.heap = t.heap) (hS : va_S A0 H0 H locs) (hA : ∀ q, q < H.size → A1 q → A0 q) (hf : ∀ q, free q → A0 q) (hL : ∀ q ∈ L, free q.base) (hF : va_F A1 st₀ t) :
    H.size ≤ T'.heap.size ∧ (∀ q : Nat, q < H.size → ¬ A1 q → T'.heap[q]? = H[q]?) ∧ va_S A0 H0 T'.heap (locs ++ L) := by
  obtain ⟨hz, hk⟩ := hF
  rw [h0] at hz hk
  exact ⟨by rw [e1]; exact hz, fun q h1 h2 => by rw [e1]; exact hk q h1 h2,
    ⟨Nat.le_trans hS.1 (by rw [e1]; exact hz), fun q h1 h2 => by rw [e1, hk q (Nat.lt_of_lt_of_le h1 hS.1) (fun z => h2 (hA q (Nat.lt_of_lt_of_le h1 hS.1) z))]; exact hS.2.1 q h1 h2, fun q hq => by
      rcases List.mem_append.mp hq with h | h
      · exact hS.2.2 q h
      · exact hf _ (hL q h)⟩⟩
theorem vx_calli {S SX : Type} {post : Int32 → S → Prop} {px : SX → Prop} {B : S → State → Prop} {BX : String → SX → State → Prop} {AX : Nat → Prop} (hr : vx_Run p l e R s m args below meth c H locs cells slots mc ms (F0 m pc ls st0) rest (va_Qi post B A1 a) (vx_X px BX AX) free) (hS : va_S A0 H0 H locs) (hA : ∀ q, q < H.size → A1 q → A0 q) (hf : ∀ q, free q → A0 q) (hAX : ∀ q, q < H.size → AX q → A0 q)
    (kx : ∀ (E : String) (ce : Cell) (q9 : Addr) (u : SX) (t : State) (H1 : Heap) (locs1 : List Loc), t.heap = H1 → s.vm.Alike t.vm → px u → BX E u t → H.size ≤ H1.size → (∀ q : Nat, q < H.size → ¬ AX q → H1[q]? = H[q]?) → va_S A0 H0 H1 locs1 → H1[q9]? = some ce → ce.vm = .none → s.vm.findClass E = some ce.cls → vx_W p l e R s m args below meth c H1 locs1 (cells + mc) (slots + ms) Q (F0 m pc ls rest) q9)
    (kk : ∀ (r : Int32) (u : S) (t : State) (H1 : Heap) (locs1 : List Loc), t.heap = H1 → s.vm.Alike t.vm → post r u → B u t → H.size ≤ H1.size → (∀ q : Nat, q < H.size → ¬ A1 q → H1[q]? = H[q]?) → va_S A0 H0 H1 locs1 → W p l e R s m args below meth c H1 locs1 (cells + mc) (slots + ms) Q (F0 m (pc + 3) ls (.int r :: rest))) : W p l e R s m args below meth c H locs cells slots Q (F0 m pc ls st0) := by
  intro T hT X
  rcases hr T hT X with ⟨v, st₀, t, T', L, h0, X', hL, e1, e2, ⟨⟨r, u, hv, hp, hb⟩, hF⟩, st⟩ | ⟨q, st₀, t, T', L, E, ce, h0, X', hL, e1, e2, ⟨u, hp, hb, hF⟩, hce, hcv, hcl, st⟩
  · cases hv
    obtain ⟨k1, k2, k3⟩ := vx_keep h0 e1 hS hA hf hL hF
    obtain ⟨t2, a1, b1⟩ := kk r u t T'.heap (locs ++ L) e1.symm (by rw [← e2]; exact X'.warmed.alike) hp hb k1 k2 k3 T' rfl X'
    exact ⟨t2, st t2 a1, b1⟩
  · obtain ⟨k1, k2, k3⟩ := vx_keep h0 e1 hS hAX hf hL hF
    obtain ⟨t2, a1, b1⟩ := kx E ce q u t T'.heap (locs ++ L) e1.symm (by rw [← e2]; exact X'.warmed.alike) hp hb k1 k2 k3 (by rw [e1]; exact hce) hcv hcl T' rfl X'
    exact ⟨t2, st.trans a1, b1⟩
theorem vx_calll {S SX : Type} {post : Int64 → S → Prop} {px : SX → Prop} {B : S → State → Prop} {BX : String → SX → State → Prop} {AX : Nat → Prop} (hr : vx_Run p l e R s m args below meth c H locs cells slots mc ms (F0 m pc ls st0) rest (va_Ql post B A1 a) (vx_X px BX AX) free) (hS : va_S A0 H0 H locs) (hA : ∀ q, q < H.size → A1 q → A0 q) (hf : ∀ q, free q → A0 q) (hAX : ∀ q, q < H.size → AX q → A0 q)
    (kx : ∀ (E : String) (ce : Cell) (q9 : Addr) (u : SX) (t : State) (H1 : Heap) (locs1 : List Loc), t.heap = H1 → s.vm.Alike t.vm → px u → BX E u t → H.size ≤ H1.size → (∀ q : Nat, q < H.size → ¬ AX q → H1[q]? = H[q]?) → va_S A0 H0 H1 locs1 → H1[q9]? = some ce → ce.vm = .none → s.vm.findClass E = some ce.cls → vx_W p l e R s m args below meth c H1 locs1 (cells + mc) (slots + ms) Q (F0 m pc ls rest) q9)
    (kk : ∀ (r : Int64) (u : S) (t : State) (H1 : Heap) (locs1 : List Loc), t.heap = H1 → s.vm.Alike t.vm → post r u → B u t → H.size ≤ H1.size → (∀ q : Nat, q < H.size → ¬ A1 q → H1[q]? = H[q]?) → va_S A0 H0 H1 locs1 → W p l e R s m args below meth c H1 locs1 (cells + mc) (slots + ms) Q (F0 m (pc + 3) ls (.long r :: rest))) : W p l e R s m args below meth c H locs cells slots Q (F0 m pc ls st0) := by
  intro T hT X
  rcases hr T hT X with ⟨v, st₀, t, T', L, h0, X', hL, e1, e2, ⟨⟨r, u, hv, hp, hb⟩, hF⟩, st⟩ | ⟨q, st₀, t, T', L, E, ce, h0, X', hL, e1, e2, ⟨u, hp, hb, hF⟩, hce, hcv, hcl, st⟩
  · cases hv
    obtain ⟨k1, k2, k3⟩ := vx_keep h0 e1 hS hA hf hL hF
    obtain ⟨t2, a1, b1⟩ := kk r u t T'.heap (locs ++ L) e1.symm (by rw [← e2]; exact X'.warmed.alike) hp hb k1 k2 k3 T' rfl X'
    exact ⟨t2, st t2 a1, b1⟩
  · obtain ⟨k1, k2, k3⟩ := vx_keep h0 e1 hS hAX hf hL hF
    obtain ⟨t2, a1, b1⟩ := kx E ce q u t T'.heap (locs ++ L) e1.symm (by rw [← e2]; exact X'.warmed.alike) hp hb k1 k2 k3 (by rw [e1]; exact hce) hcv hcl T' rfl X'
    exact ⟨t2, st.trans a1, b1⟩
theorem vx_callf {S SX : Type} {post : UInt32 → S → Prop} {px : SX → Prop} {B : S → State → Prop} {BX : String → SX → State → Prop} {AX : Nat → Prop} (hr : vx_Run p l e R s m args below meth c H locs cells slots mc ms (F0 m pc ls st0) rest (va_Qf post B A1 a) (vx_X px BX AX) free) (hS : va_S A0 H0 H locs) (hA : ∀ q, q < H.size → A1 q → A0 q) (hf : ∀ q, free q → A0 q) (hAX : ∀ q, q < H.size → AX q → A0 q)
    (kx : ∀ (E : String) (ce : Cell) (q9 : Addr) (u : SX) (t : State) (H1 : Heap) (locs1 : List Loc), t.heap = H1 → s.vm.Alike t.vm → px u → BX E u t → H.size ≤ H1.size → (∀ q : Nat, q < H.size → ¬ AX q → H1[q]? = H[q]?) → va_S A0 H0 H1 locs1 → H1[q9]? = some ce → ce.vm = .none → s.vm.findClass E = some ce.cls → vx_W p l e R s m args below meth c H1 locs1 (cells + mc) (slots + ms) Q (F0 m pc ls rest) q9)
    (kk : ∀ (r : UInt32) (u : S) (t : State) (H1 : Heap) (locs1 : List Loc), t.heap = H1 → s.vm.Alike t.vm → post r u → B u t → H.size ≤ H1.size → (∀ q : Nat, q < H.size → ¬ A1 q → H1[q]? = H[q]?) → va_S A0 H0 H1 locs1 → W p l e R s m args below meth c H1 locs1 (cells + mc) (slots + ms) Q (F0 m (pc + 3) ls (.float r :: rest))) : W p l e R s m args below meth c H locs cells slots Q (F0 m pc ls st0) := by
  intro T hT X
  rcases hr T hT X with ⟨v, st₀, t, T', L, h0, X', hL, e1, e2, ⟨⟨r, u, hv, hp, hb⟩, hF⟩, st⟩ | ⟨q, st₀, t, T', L, E, ce, h0, X', hL, e1, e2, ⟨u, hp, hb, hF⟩, hce, hcv, hcl, st⟩
  · cases hv
    obtain ⟨k1, k2, k3⟩ := vx_keep h0 e1 hS hA hf hL hF
    obtain ⟨t2, a1, b1⟩ := kk r u t T'.heap (locs ++ L) e1.symm (by rw [← e2]; exact X'.warmed.alike) hp hb k1 k2 k3 T' rfl X'
    exact ⟨t2, st t2 a1, b1⟩
  · obtain ⟨k1, k2, k3⟩ := vx_keep h0 e1 hS hAX hf hL hF
    obtain ⟨t2, a1, b1⟩ := kx E ce q u t T'.heap (locs ++ L) e1.symm (by rw [← e2]; exact X'.warmed.alike) hp hb k1 k2 k3 (by rw [e1]; exact hce) hcv hcl T' rfl X'
    exact ⟨t2, st.trans a1, b1⟩
theorem vx_calld {S SX : Type} {post : UInt64 → S → Prop} {px : SX → Prop} {B : S → State → Prop} {BX : String → SX → State → Prop} {AX : Nat → Prop} (hr : vx_Run p l e R s m args below meth c H locs cells slots mc ms (F0 m pc ls st0) rest (va_Qd post B A1 a) (vx_X px BX AX) free) (hS : va_S A0 H0 H locs) (hA : ∀ q, q < H.size → A1 q → A0 q) (hf : ∀ q, free q → A0 q) (hAX : ∀ q, q < H.size → AX q → A0 q)
    (kx : ∀ (E : String) (ce : Cell) (q9 : Addr) (u : SX) (t : State) (H1 : Heap) (locs1 : List Loc), t.heap = H1 → s.vm.Alike t.vm → px u → BX E u t → H.size ≤ H1.size → (∀ q : Nat, q < H.size → ¬ AX q → H1[q]? = H[q]?) → va_S A0 H0 H1 locs1 → H1[q9]? = some ce → ce.vm = .none → s.vm.findClass E = some ce.cls → vx_W p l e R s m args below meth c H1 locs1 (cells + mc) (slots + ms) Q (F0 m pc ls rest) q9)
    (kk : ∀ (r : UInt64) (u : S) (t : State) (H1 : Heap) (locs1 : List Loc), t.heap = H1 → s.vm.Alike t.vm → post r u → B u t → H.size ≤ H1.size → (∀ q : Nat, q < H.size → ¬ A1 q → H1[q]? = H[q]?) → va_S A0 H0 H1 locs1 → W p l e R s m args below meth c H1 locs1 (cells + mc) (slots + ms) Q (F0 m (pc + 3) ls (.double r :: rest))) : W p l e R s m args below meth c H locs cells slots Q (F0 m pc ls st0) := by
  intro T hT X
  rcases hr T hT X with ⟨v, st₀, t, T', L, h0, X', hL, e1, e2, ⟨⟨r, u, hv, hp, hb⟩, hF⟩, st⟩ | ⟨q, st₀, t, T', L, E, ce, h0, X', hL, e1, e2, ⟨u, hp, hb, hF⟩, hce, hcv, hcl, st⟩
  · cases hv
    obtain ⟨k1, k2, k3⟩ := vx_keep h0 e1 hS hA hf hL hF
    obtain ⟨t2, a1, b1⟩ := kk r u t T'.heap (locs ++ L) e1.symm (by rw [← e2]; exact X'.warmed.alike) hp hb k1 k2 k3 T' rfl X'
    exact ⟨t2, st t2 a1, b1⟩
  · obtain ⟨k1, k2, k3⟩ := vx_keep h0 e1 hS hAX hf hL hF
    obtain ⟨t2, a1, b1⟩ := kx E ce q u t T'.heap (locs ++ L) e1.symm (by rw [← e2]; exact X'.warmed.alike) hp hb k1 k2 k3 (by rw [e1]; exact hce) hcv hcl T' rfl X'
    exact ⟨t2, st.trans a1, b1⟩
theorem vx_callv {S SX : Type} {post : S → Prop} {px : SX → Prop} {B : S → State → Prop} {BX : String → SX → State → Prop} {AX : Nat → Prop} (hr : vx_Run p l e R s m args below meth c H locs cells slots mc ms (F0 m pc ls st0) rest (va_Qv post B A1 a) (vx_X px BX AX) free) (hS : va_S A0 H0 H locs) (hA : ∀ q, q < H.size → A1 q → A0 q) (hf : ∀ q, free q → A0 q) (hAX : ∀ q, q < H.size → AX q → A0 q)
    (kx : ∀ (E : String) (ce : Cell) (q9 : Addr) (u : SX) (t : State) (H1 : Heap) (locs1 : List Loc), t.heap = H1 → s.vm.Alike t.vm → px u → BX E u t → H.size ≤ H1.size → (∀ q : Nat, q < H.size → ¬ AX q → H1[q]? = H[q]?) → va_S A0 H0 H1 locs1 → H1[q9]? = some ce → ce.vm = .none → s.vm.findClass E = some ce.cls → vx_W p l e R s m args below meth c H1 locs1 (cells + mc) (slots + ms) Q (F0 m pc ls rest) q9)
    (kk : ∀ (u : S) (t : State) (H1 : Heap) (locs1 : List Loc), t.heap = H1 → s.vm.Alike t.vm → post u → B u t → H.size ≤ H1.size → (∀ q : Nat, q < H.size → ¬ A1 q → H1[q]? = H[q]?) → va_S A0 H0 H1 locs1 → W p l e R s m args below meth c H1 locs1 (cells + mc) (slots + ms) Q (F0 m (pc + 3) ls (rest))) : W p l e R s m args below meth c H locs cells slots Q (F0 m pc ls st0) := by
  intro T hT X
  rcases hr T hT X with ⟨v, st₀, t, T', L, h0, X', hL, e1, e2, ⟨⟨u, hv, hp, hb⟩, hF⟩, st⟩ | ⟨q, st₀, t, T', L, E, ce, h0, X', hL, e1, e2, ⟨u, hp, hb, hF⟩, hce, hcv, hcl, st⟩
  · cases hv
    obtain ⟨k1, k2, k3⟩ := vx_keep h0 e1 hS hA hf hL hF
    obtain ⟨t2, a1, b1⟩ := kk u t T'.heap (locs ++ L) e1.symm (by rw [← e2]; exact X'.warmed.alike) hp hb k1 k2 k3 T' rfl X'
    exact ⟨t2, st t2 a1, b1⟩
  · obtain ⟨k1, k2, k3⟩ := vx_keep h0 e1 hS hAX hf hL hF
    obtain ⟨t2, a1, b1⟩ := kx E ce q u t T'.heap (locs ++ L) e1.symm (by rw [← e2]; exact X'.warmed.alike) hp hb k1 k2 k3 (by rw [e1]; exact hce) hcv hcl T' rfl X'
    exact ⟨t2, st.trans a1, b1⟩
/-- caught by the row x of this method's table; the rows ahead don't take it -/
theorem vx_catch {own name : String} {E : String} {ce : Cell} {q : Addr} (hown : s.vm.findClass own = some m.cls) (pre : List ExceptionTableEntry) (x : ExceptionTableEntry) (suf : List ExceptionTableEntry) (hsplit : c.exceptionTable.toList = pre ++ x :: suf)
    (hpass : ∀ z ∈ pre, covers z pc = false ∨ (z.catchType ≠ 0 ∧ ∃ nm : String, (Cond.classLink own z.catchType nm).before args s = true ∧ va_Nc E nm s)) (hx : covers x pc = true) (h0 : x.catchType ≠ 0)
    (hlink : (Cond.classLink own x.catchType name).before args s = true) (hcast : (Cond.castable E name).before args s = true) (hcell : H[q]? = some ce) (hv : ce.vm = .none) (hcl : s.vm.findClass E = some ce.cls)
    (kk : W p l e R s m args below meth c H locs cells slots Q (F0 m x.handlerPc ls [.ref q])) : vx_W p l e R s m args below meth c H locs cells slots Q (F0 m pc ls rest) q := by
  intro T hT X
  have hpl : e.platform.magicAccessors = ({} : Platform).magicAccessors := by rw [X.admits.platform]
  obtain ⟨c3, c4, hc3, hc4, hasg⟩ := Cond.castable_spec hcast
  cases Option.some.inj (hc3.symm.trans hcl)
  obtain ⟨c5, hc5, hcl5⟩ := Cond.classLink_spec hown hlink e.platform hpl
  cases Option.some.inj (hc4.symm.trans hc5)
  obtain ⟨vm', X', st⟩ := X.thenCaughtThrough q (g := F0 m pc ls rest) rfl (Steps.refl _) (by rw [hT]; exact hcell) (by rw [hv]; rfl) (by obtain ⟨k9, h9, -⟩ := Vm.findClass_spec hcl; exact ⟨k9, h9⟩) pre x suf hsplit
    (fun z hz => by
      rcases hpass z hz with h | ⟨hz0, nm, hl1, hn1⟩
      · exact Or.inl h
      · obtain ⟨c6, hc6, hcl6⟩ := Cond.classLink_spec hown hl1 e.platform hpl
        obtain ⟨a8, b8, h1, h2, h3⟩ := hn1
        cases Option.some.inj (h1.symm.trans hcl)
        cases Option.some.inj (h2.symm.trans hc6)
        exact Or.inr ⟨hz0, _, hcl6, h3⟩) hx (Or.inr ⟨h0, c4, hcl5, hasg⟩)
  obtain ⟨t, a1, b1⟩ := kk (T.setVm vm') hT X'
  exact ⟨t, st.trans a1, b1⟩
end Rows
section Ends
variable {p : Program} {l : Launch} {e : Env} {R : Room} {s : State} {m : MethodId} {args : Array Value} {below : List Frame} {meth : Method} {c : Code} {H : Heap} {locs : List Loc} {cells slots : Nat} {Q : State → Prop}
variable {mc ms : Nat} {free : Addr → Prop} {A0 A1 : Nat → Prop} {H0 : Heap} {a : Array Value} {ls : Array Slot} {st0 rest : List Value}
variable {Qc : Array Value → State → Outcome → State → Prop} {XC : String → State → State → Prop}
/-- what a body that may throw owes at its end -/
def vx_MQ (below : List Frame) (Qc : Array Value → State → Outcome → State → Prop) (XC : String → State → State → Prop) (a : Array Value) (s : State) (mc ms : Nat) (free : Addr → Prop) : State → Prop := fun t =>
  ∃ o, t.status = .running ∧ Ended t below o ∧ vx_Q Qc XC mc ms free a s o t
theorem vx_ret {g : JFrame} {mc ms : Nat} (k : W p l e R s m args below meth c H locs cells slots (MQ below Qc args s mc ms free) g) : W p l e R s m args below meth c H locs cells slots (vx_MQ below Qc XC args s mc ms free) g := by
  intro T hT X
  obtain ⟨t, a1, o, b1, b2, b3, b4⟩ := k T hT X
  exact ⟨t, a1, o, b1, b2, Or.inl ⟨b3, b4⟩⟩
/-- not caught here: it goes on to the caller -/
theorem vx_widen {g : JFrame} {q : Addr} {k n : Nat} (h1 : cells ≤ k) (h2 : slots ≤ n) (kk : vx_W p l e R s m args below meth c H locs k n Q g q) : vx_W p l e R s m args below meth c H locs cells slots Q g q := fun T hT X => kk T hT (stand_widen X h1 h2)
theorem vx_out {pc : Nat} {E : String} {ce : Cell} {q : Addr} {mc ms : Nat} (hout : ∀ x ∈ c.exceptionTable.toList, covers x pc = false) (hlocks : meth.locks = false) (hcell : H[q]? = some ce) (hv : ce.vm = .none) (hcl : s.vm.findClass E = some ce.cls)
    (hx : ∀ t : State, t.heap = H → s.vm.Alike t.vm → XC E s t) (hf : ∀ z ∈ locs, free z.base) (hc : cells ≤ mc) (hs : slots ≤ ms) :
    vx_W p l e R s m args below meth c H locs cells slots (vx_MQ below Qc XC args s mc ms free) (F0 m pc ls rest) q := by
  intro T hT X
  obtain ⟨st1, hrun, hend, hW, hsm⟩ := X.leaveThrown q (g := F0 m pc ls rest) rfl rfl rfl hout hlocks
  have hcell9 : (T.setFrames (.throwing q :: below)).heap[q]? = some ce := by
    show T.heap[q]? = some ce
    rw [hT]; exact hcell
  exact ⟨_, st1, .threw q, hrun, hend, Or.inr ⟨q, rfl, E, ce, locs, hx _ hT hW.alike, hcell9, hv, hcl, hW, hsm.mono hc hs, hf⟩⟩
theorem vx_frame {U : State} {k n : Nat} (h : s.sameButNew ({ U with vm := s.vm } : State) locs k n) : s.heap.size ≤ U.heap.size ∧ ∀ q : Nat, q < s.heap.size → (∀ z ∈ locs, z.base ≠ q) → U.heap[q]? = s.heap[q]? := by
  obtain ⟨-, h2, -, -, -, h6⟩ := h
  refine ⟨h2, fun q hq hz => ?_⟩
  obtain ⟨c9, e1, e2, e3, e4⟩ := h6 q _ (Array.getElem?_eq_getElem hq)
  have hs : c9.slots = (s.heap[q]).slots := Array.ext_getElem? fun i => e4 i fun hm => hz _ hm rfl
  have h9 : c9 = s.heap[q] := by
    rw [hs] at e2
    exact e2
  have e5 : U.heap[q]? = some c9 := e1
  rw [e5, h9, Array.getElem?_eq_getElem hq]
/-- the words of a throw but the four that speak of the heap -/
def vx_no (w : Cond) : Bool := decide (w ≠ .isRef (.static Bundle.tN "UNASSIGNED_STACK" Bundle.steD)) && decide (w ≠ .isRef (.static Bundle.tN "SUPPRESSED_SENTINEL" Bundle.listD)) && decide (w ≠ .laysStatic Bundle.tN "UNASSIGNED_STACK" Bundle.steD) && decide (w ≠ .laysStatic Bundle.tN "SUPPRESSED_SENTINEL" Bundle.listD)
def vx_at0 (own : String) (ic : Nat) (X : String) (names : List String) : List Cond := (Bundle.ownAtoms0 own ic X names).filter vx_no
def vx_atS (own : String) (ic : Nat) (X : String) (names : List String) : List Cond := (Bundle.ownAtoms own ic X names).filter vx_no
/-- a word that the tables alone decide, or a good one -/
def vx_ot (w : Cond) : Bool := w.onTables || goodWord w
theorem vx_ot_at {args a' : Array Value} {s U : State} {w : Cond} (hW : s.WarmedH U.vm) (hvm : s.vm = U.vm) (hg : vx_ot w = true) (h : w.before args s = true) : w.before a' U = true := by
  simp only [vx_ot, Bool.or_eq_true] at hg
  rcases hg with hg | hg
  · exact va_tabs hg hvm h
  · exact word_at hW (good_of_word hg) h
/-- a list's words: the good ones out of the method's own list, the others by premises of their own -/
theorem vx_hat {args : Array Value} {s : State} {L B : List Cond} (h1 : ∀ w ∈ L.filter goodWord, w.before args s = true) (h2 : ∀ w ∈ L.filter (fun w => !goodWord w), w ∈ B) (h3 : ∀ w ∈ B, w.before args s = true) : ∀ w ∈ L, w.before args s = true := by
  intro w hw
  by_cases g : goodWord w = true
  · exact h1 w (List.mem_filter.mpr ⟨hw, g⟩)
  · refine h3 w (h2 w (List.mem_filter.mpr ⟨hw, ?_⟩))
    show (!goodWord w) = true
    cases hgw : goodWord w
    · rfl
    · exact absurd hgw g
theorem vx_c {args : Array Value} {s : State} {w : Cond} {B : List Cond} (h : w.before args s = true) (t : ∀ w ∈ B, w.before args s = true) : ∀ w' ∈ w :: B, w'.before args s = true := fun w' h' => (List.mem_cons.mp h').elim (fun e => by rw [e]; exact h) (t w')
theorem vx_n {args : Array Value} {s : State} : ∀ w ∈ ([] : List Cond), w.before args s = true := fun _ h => nomatch h
theorem vx_own {args : Array Value} {s : State} {L : List Cond} (h1 : ∀ w ∈ L.filter vx_no, w.before args s = true)
    (hU : (Cond.isRef (.static Bundle.tN "UNASSIGNED_STACK" Bundle.steD)).before args s = true) (hN : (Cond.isRef (.static Bundle.tN "SUPPRESSED_SENTINEL" Bundle.listD)).before args s = true)
    (lU : (Cond.laysStatic Bundle.tN "UNASSIGNED_STACK" Bundle.steD).before args s = true) (lN : (Cond.laysStatic Bundle.tN "SUPPRESSED_SENTINEL" Bundle.listD).before args s = true) : ∀ w ∈ L, w.before args s = true := by
  intro w hw
  by_cases e1 : w = .isRef (.static Bundle.tN "UNASSIGNED_STACK" Bundle.steD)
  · rw [e1]; exact hU
  · by_cases e2 : w = .isRef (.static Bundle.tN "SUPPRESSED_SENTINEL" Bundle.listD)
    · rw [e2]; exact hN
    · by_cases e3 : w = .laysStatic Bundle.tN "UNASSIGNED_STACK" Bundle.steD
      · rw [e3]; exact lU
      · by_cases e4 : w = .laysStatic Bundle.tN "SUPPRESSED_SENTINEL" Bundle.listD
        · rw [e4]; exact lN
        · exact h1 w (List.mem_filter.mpr ⟨hw, by unfold vx_no; rw [decide_eq_true e1, decide_eq_true e2, decide_eq_true e3, decide_eq_true e4]; rfl⟩)
/-- where a static field lies, its class's statics cell in H -/
def vx_L (C n d : String) (A : Nat → Prop) (U : State) (H : Heap) : Prop := ∃ (c : ClassId) (k : Class) (i : Nat) (f : Field) (a : Nat) (cell : Cell), U.vm.findClass C = some c ∧ U.fieldFound? C n d = some (c, k, i, f) ∧ f.isStatic = true ∧ k.statics = some a ∧ H[a]? = some cell ∧ cell.vm.isStatics = true ∧ cell.cls = c ∧ f.slot < cell.slots.size ∧ k.staticTypes[f.slot]? = some f.type ∧ ¬ A a
theorem vx_L.moved {C n d : String} {A : Nat → Prop} {u U : State} {H : Heap} (hvm : u.vm.Alike U.vm) (h : vx_L C n d A u H) : vx_L C n d A U H := by
  obtain ⟨c, k, i, f, a, cell, h1, h2, h3, h4, h5, h6, h7, h8, h9, h10⟩ := h
  obtain ⟨k', hi', he⟩ := State.fieldFound?_setVm hvm h2
  exact ⟨c, k', i, f, a, cell, by rw [hvm.findClass]; exact h1, hi', h3, by rw [he]; exact h4, h5, h6, h7, h8, by rw [he]; exact h9, h10⟩
theorem vx_L.kept {C n d : String} {A : Nat → Prop} {U : State} {H H1 : Heap} (h : vx_L C n d A U H) (hq : ∀ a : Nat, a < H.size → ¬ A a → H1[a]? = H[a]?) : vx_L C n d A U H1 := by
  obtain ⟨c, k, i, f, a, cell, h1, h2, h3, h4, h5, h6, h7, h8, h9, h10⟩ := h
  exact ⟨c, k, i, f, a, cell, h1, h2, h3, h4, by rw [hq a (Array.getElem?_eq_some_iff.mp h5).1 h10]; exact h5, h6, h7, h8, h9, h10⟩
theorem vx_L.narrow {C n d : String} {A B : Nat → Prop} {U : State} {H : Heap} (h : vx_L C n d A U H) (hAB : ∀ q, B q → A q) : vx_L C n d B U H := by
  obtain ⟨c, k, i, f, a, cell, h1, h2, h3, h4, h5, h6, h7, h8, h9, h10⟩ := h
  exact ⟨c, k, i, f, a, cell, h1, h2, h3, h4, h5, h6, h7, h8, h9, fun z => h10 (hAB _ z)⟩
theorem vx_L.word {C n d : String} {A : Nat → Prop} {s : State} {args : Array Value} (h : vx_L C n d A s s.heap) : (Cond.laysStatic C n d).before args s = true := by
  obtain ⟨c, k, i, f, a, cell, h1, h2, h3, h4, h5, h6, h7, h8, h9, -⟩ := h
  show (Cond.laysStatic C n d).holds args s none s [] = true
  exact Cond.laysStatic_of h1 h2 h3 h4 h5 h6 h7 h8 h9
/-- .. and what it holds: null or some reference -/
def vx_Zq (C n d : String) (A : Nat → Prop) (U : State) (H : Heap) : Prop := va_Zq C n d A U H ∧ vx_L C n d A U H
theorem vx_Zq.moved {C n d : String} {A : Nat → Prop} {u U : State} {H : Heap} (hvm : u.vm.Alike U.vm) (h : vx_Zq C n d A u H) : vx_Zq C n d A U H := ⟨va_Zq.moved hvm h.1, vx_L.moved hvm h.2⟩
theorem vx_Zq.kept {C n d : String} {A : Nat → Prop} {U : State} {H H1 : Heap} (h : vx_Zq C n d A U H) (hq : ∀ a : Nat, a < H.size → ¬ A a → H1[a]? = H[a]?) : vx_Zq C n d A U H1 := ⟨va_Zq.kept h.1 hq, vx_L.kept h.2 hq⟩
theorem vx_Zq.narrow {C n d : String} {A B : Nat → Prop} {U : State} {H : Heap} (h : vx_Zq C n d A U H) (hAB : ∀ q, B q → A q) : vx_Zq C n d B U H := ⟨va_Zq.narrow h.1 hAB, vx_L.narrow h.2 hAB⟩
theorem vx_Zqof {args : Array Value} {s : State} {C n d : String} {A : Nat → Prop} (hl : (Cond.laysStatic C n d).before args s = true) (hini : (Cond.initialized C).before args s = true) (h : (Cond.isRef (.static C n d)).before args s = true) (hA : ∀ a : Nat, a < s.heap.size → ¬ A a) : vx_Zq C n d A s s.heap := by
  refine ⟨va_Zqof hl hini h hA, ?_⟩
  obtain ⟨c, k, i, f, a, cell, h1, h2, h3, h4, h5, h6, h7, h8, h9⟩ := Cond.laysStatic_spec hl
  exact ⟨c, k, i, f, a, cell, h1, h2, h3, h4, h5, h6, h7, h8, h9, hA a (Array.getElem?_eq_some_iff.mp h5).1⟩
theorem vx_isRef {C n d : String} {v : Value} {A : Nat → Prop} {s : State} {args : Array Value} (h : va_Z C n d v A s s.heap) (hv : v.isRef = true) : (Cond.isRef (.static C n d)).before args s = true := by
  obtain ⟨cf, kf, fi, f, a, cell, h1, h2, h3, h4, h5, h6, h7, -⟩ := h
  have he : (Term.static C n d).eval args s none [] s = some v := by
    simp [Term.eval, State.fieldNamed?, h1, h2, h4, h5, h6, h7]
  simp only [Cond.before, Cond.holds, Cond.value, he]
  cases v <;> simp_all [Value.isRef]
theorem vx_isRefq {C n d : String} {A : Nat → Prop} {s : State} {args : Array Value} (h : va_Zq C n d A s s.heap) : (Cond.isRef (.static C n d)).before args s = true := by
  rcases h with h | ⟨t, h⟩
  · exact vx_isRef h rfl
  · exact vx_isRef h rfl
/-- the same frame, seen from here: as if the method were called anew in this heap -/
theorem vx_rebase {T : State} (X : Stand p l e R s m args below meth c T locs cells slots) {R' : Room} (hf : R'.frames ≤ R.frames) (hl : R'.locals ≤ R.locals) (hc : cells + R'.cells ≤ R.cells) (hs : slots + R'.slots ≤ R.slots) :
    Stand p l e R' ((T.setVm s.vm).setFrames (.invoking m args :: below)) m args below meth c T [] 0 0 := by
  have htop : (T.setVm s.vm).topJava?.isSome := X.here.top
  have hF : ((T.setVm s.vm).setFrames (.invoking m args :: below)).frames = .invoking m args :: below := State.frames_setFrames _ (State.cur_lt_of_top htop)
  obtain ⟨g₀, hg0⟩ := Option.isSome_iff_exists.mp htop
  obtain ⟨r, hr⟩ := State.topJava?_eq_some.mp hg0
  have hl9 : e.platform.stackLimits (T.setVm s.vm).me = e.platform.stackLimits s.me := X.limits
  have hb9 : (T.setVm s.vm).me.stackBytes = s.me.stackBytes := X.bytes
  refine ⟨X.admits, X.cas, X.clock, hF, ?_, X.hears, X.method, X.code, X.here, X.tail, X.warmed, ?_, ?_, ?_⟩
  · have h := X.room
    have hU : ((T.setVm s.vm).setFrames (.invoking m args :: below)).localsInUse = s.localsInUse := by
      rw [State.localsInUse_invoking hF (meth := meth) (c := c) X.method X.code, State.localsInUse_invoking X.frames X.method X.code]
    simp only [State.hasRoom, Bool.and_eq_true, decide_eq_true_eq] at h ⊢
    obtain ⟨⟨⟨⟨h1, h2, h3, h4, h5, h6⟩, h7⟩, h8⟩, h9⟩ := h
    rw [X.frames, List.length_cons] at h2 h3
    have q1 := X.heapSize
    have q2 := X.used
    simp only [hF, hU, List.length_cons, State.stackLimits_setFrames, State.stackBytes_setFrames, hl9, hb9]
    refine ⟨⟨⟨⟨by omega, by omega, by omega, by omega, by omega, h6⟩, ?_⟩, ?_⟩, X.book⟩
    · show T.heap.size + R'.cells ≤ e.platform.maxCells
      omega
    · show T.slotsUsed + R'.slots ≤ e.platform.maxSlots
      omega
  · rw [State.stackLimits_setFrames]; rfl
  · rw [State.stackBytes_setFrames]; rfl
  · refine ⟨?_, Nat.le_refl _, Nat.le_refl _, ?_, ?_, fun a c9 h9 => ⟨c9, h9, rfl, rfl, fun _ _ => rfl⟩⟩
    · obtain ⟨t, ht, -⟩ := State.frames_cons hr
      show T.setVm s.vm = { ((T.setVm s.vm).setFrames (.invoking m args :: below)).setFrames (T.setVm s.vm).frames with heap := T.heap, slotsUsed := T.slotsUsed }
      rw [State.setFrames_setFrames, State.setFrames_self ht]
      rfl
    · show T.slotsUsed = T.slotsUsed + ((T.heap.toList.drop T.heap.size).map (·.slots.size)).sum
      rw [List.drop_eq_nil_of_le (Nat.le_of_eq Array.length_toList)]
      rfl
    · show ((T.heap.toList.drop T.heap.size).map (·.slots.size)).sum ≤ 0
      rw [List.drop_eq_nil_of_le (Nat.le_of_eq Array.length_toList)]
      exact Nat.le_refl _
/-- 'throw new E()': new; dup; invokespecial; athrow -/
theorem vx_throw0 {cc : ByteArray} {pc : Nat} (hexec : p.tables.exec = Jvm.exec) (hb : c.code = cc) (hl : l.stackTraces = false) {own cls : String} {names : List String} {ik ic mc ms : Nat} {A : Nat → Prop}
    (hown : s.vm.findClass own = some m.cls) (hcls : Bundle.fit cls = true) (hnames : ∀ n ∈ names, Bundle.fit n = true)
    (hk : (Cond.classLink own ik cls).before args s = true) (hini : (Cond.initialized cls).before args s = true) (hat : ∀ w ∈ vx_at0 own ic cls names, w.before args s = true)
    (hgood : ∀ w ∈ Cond.classLink own ik cls :: Cond.initialized cls :: vx_at0 own ic cls names, vx_ot w = true)
    (hU : vx_Zq Bundle.tN "UNASSIGNED_STACK" Bundle.steD A s s.heap) (hN : vx_Zq Bundle.tN "SUPPRESSED_SENTINEL" Bundle.listD A s s.heap) (hS : va_S A s.heap H locs) (hsize : ls.size = c.maxLocals)
    (d0 : decode cc pc = .ok (.new ik, 3)) (d3 : decode cc (pc + 3) = .ok (.dup, 1)) (d4 : decode cc (pc + 4) = .ok (.invokespecial ic, 3)) (d7 : decode cc (pc + 7) = .ok (.athrow, 1))
    (hout : ∀ x ∈ c.exceptionTable.toList, covers x (pc + 7) = false)
    (hRframes : names.length + 3 < R.frames) (hRlocals : (rest.map fun v => v.category).sum + (13 * (names.length + 1) + 42) ≤ R.locals) (hRcells : cells + 1 ≤ R.cells) (hRslots : slots + 6 ≤ R.slots) (hlocks : meth.locks = false)
    (hx : ∀ t : State, s.vm.Alike t.vm → H.size ≤ t.heap.size → (∀ q : Nat, q < H.size → t.heap[q]? = H[q]?) → XC cls s t)
    (hf : ∀ z ∈ locs, free z.base) (hc : cells + 1 ≤ mc) (hs : slots + 6 ≤ ms) :
    W p l e R s m args below meth c H locs cells slots (vx_MQ below Qc XC args s mc ms free) (F0 m pc ls rest) := by
  intro T hT X
  have htr : e.platform.stackTraces = false := (show e.platform.stackTraces = l.stackTraces by rw [X.admits.platform]).trans hl
  have Y := vx_rebase X (R' := { frames := R.frames, locals := R.locals, cells := 1, slots := 6 }) (Nat.le_refl _) (Nat.le_refl _) hRcells hRslots
  obtain ⟨s', hA⟩ : ∃ z, z = (T.setVm s.vm).setFrames (.invoking m args :: below) := ⟨_, rfl⟩
  rw [← hA] at Y
  have hvm : s'.vm = s.vm := by rw [hA]; rfl
  have hhp : s'.heap = H := by rw [hA]; exact hT
  have hW0 : s.WarmedH s'.vm := by rw [hvm]; exact State.WarmedH.refl s
  have hat' : ∀ w ∈ vx_at0 own ic cls names, w.before args s' = true := fun w hw => vx_ot_at hW0 hvm.symm (hgood w (List.mem_cons_of_mem _ (List.mem_cons_of_mem _ hw))) (hat w hw)
  have hk' : (Cond.classLink own ik cls).before args s' = true := vx_ot_at hW0 hvm.symm (hgood _ List.mem_cons_self) hk
  have hini' : (Cond.initialized cls).before args s' = true := vx_ot_at hW0 hvm.symm (hgood _ (List.mem_cons_of_mem _ List.mem_cons_self)) hini
  have hU' : vx_Zq Bundle.tN "UNASSIGNED_STACK" Bundle.steD A s' s'.heap := by rw [hhp]; exact vx_Zq.moved hW0.alike (hU.kept hS.2.1)
  have hN' : vx_Zq Bundle.tN "SUPPRESSED_SENTINEL" Bundle.listD A s' s'.heap := by rw [hhp]; exact vx_Zq.moved hW0.alike (hN.kept hS.2.1)
  have h : ∀ w ∈ Bundle.ownAtoms0 own ic cls names, w.before args s' = true := vx_own hat' (vx_isRefq hU'.1) (vx_isRefq hN'.1) hU'.2.word hN'.2.word
  have hown' : s'.vm.findClass own = some m.cls := by rw [hvm]; exact hown
  have hins : (Cond.instantiable cls 6).before args s' = true := h _ (by simp [Bundle.ownAtoms0])
  obtain ⟨vm₁, cX, kX, hfX, hkX, -, -, X₁, st1⟩ := Y.newCold hexec (own := own) (C := cls) (index := ik) (n := 6) hown' hk' hins hini'
    (g := F0 m pc ls rest) rfl (by rw [hb]; exact d0) (Nat.le_refl _) (Nat.le_refl _)
  generalize hT1 : (T.setVm vm₁).pushCell { cls := cX, slots := kX.instanceTypes.map defaultValue, vm := .none } = T1 at X₁ st1
  have hcat : (Value.ref T.heap.size).category = 1 := rfl
  have hcellA : T1.heap[T.heap.size]? = some (freshCell cX kX) := by rw [← hT1]; exact State.heap_pushCell_size _ _
  have d3' : decode c.code (pc + 3) = .ok (.dup, 1) := by rw [hb]; exact d3
  obtain ⟨U, hsteps, hrun, hend, hW, hsame, ce, hce, hO⟩ := X₁.ctorThrow0 hexec htr (own := own) (cls := cls) (names := names) (ic := ic) hown' hcls hnames h (fun x hx => nomatch hx) hfX hkX hcellA (by rw [hhp, hT]; exact Nat.le_refl _)
    (g := { method := m, pc := pc + 4, locals := ls, stack := .ref T.heap.size :: .ref T.heap.size :: rest, locked := none }) rfl hsize rfl rfl (rest := rest) rfl
    (by rw [hb]; exact d4) (by rw [hb]; exact d7) hout hRframes (by simp only [List.map_cons, List.sum_cons, hcat]; omega) hlocks
  obtain ⟨f1, f2⟩ := vx_frame hsame
  rw [hhp] at f1 f2
  have hWs : s.WarmedH U.vm := State.WarmedH.trans hW0 hW
  have hcl : s.vm.findClass cls = some ce.cls := by
    have h9 := hO.cls
    rw [hvm] at h9
    exact h9
  have hall : s.sameButNew ({ U with vm := s.vm } : State) locs mc ms := by
    subst hA
    obtain ⟨e1, e2⟩ := hsame
    rw [State.setFrames_setFrames] at e1
    have h2 : (T.setVm s.vm).sameButNew ({ U with vm := s.vm } : State) [] (0 + 1) (0 + 6) := ⟨e1, e2⟩
    have h3 := X.same.trans h2
    rw [List.append_nil] at h3
    exact h3.mono hc hs
  refine ⟨U, ?_, .threw T.heap.size, hrun, hend, Or.inr ⟨T.heap.size, rfl, cls, ce, locs, hx U hWs.alike f1 (fun q hq => f2 q hq (fun z hz => nomatch hz)), hce, hO.vm, hcl, hWs, hall, hf⟩⟩
  refine st1 _ ?_
  show Steps p.tables e below (T1.setTop { method := m, pc := pc + 3, locals := ls, stack := .ref T.heap.size :: rest, locked := none }) _
  jvm_step X₁.here [X₁.here.top, hexec, d3', Value.category]
  exact hsteps
/-- 'throw new E("text")': new; dup; ldc; invokespecial; athrow -/
theorem vx_throwS {cc : ByteArray} {pc : Nat} (hexec : p.tables.exec = Jvm.exec) (hb : c.code = cc) (hl : l.stackTraces = false) {own cls text : String} {names : List String} {ik is ic mc ms sa : Nat} {A : Nat → Prop}
    (hown : s.vm.findClass own = some m.cls) (hcls : Bundle.fit cls = true) (hnames : ∀ n ∈ names, Bundle.fit n = true)
    (hk : (Cond.classLink own ik cls).before args s = true) (hini : (Cond.initialized cls).before args s = true) (hstr : vk_R own is text sa s) (hat : ∀ w ∈ vx_atS own ic cls names, w.before args s = true)
    (hgood : ∀ w ∈ Cond.classLink own ik cls :: Cond.initialized cls :: vx_atS own ic cls names, vx_ot w = true)
    (hU : vx_Zq Bundle.tN "UNASSIGNED_STACK" Bundle.steD A s s.heap) (hN : vx_Zq Bundle.tN "SUPPRESSED_SENTINEL" Bundle.listD A s s.heap) (hS : va_S A s.heap H locs) (hsize : ls.size = c.maxLocals)
    (d0 : decode cc pc = .ok (.new ik, 3)) (d3 : decode cc (pc + 3) = .ok (.dup, 1)) (d4 : decode cc (pc + 4) = .ok (.ldc is, 2)) (d6 : decode cc (pc + 6) = .ok (.invokespecial ic, 3)) (d9 : decode cc (pc + 9) = .ok (.athrow, 1))
    (hout : ∀ x ∈ c.exceptionTable.toList, covers x (pc + 9) = false)
    (hRframes : names.length + 3 < R.frames) (hRlocals : (rest.map fun v => v.category).sum + (13 * (names.length + 1) + 43) ≤ R.locals) (hRcells : cells + 1 ≤ R.cells) (hRslots : slots + 6 ≤ R.slots) (hlocks : meth.locks = false)
    (hx : ∀ t : State, s.vm.Alike t.vm → H.size ≤ t.heap.size → (∀ q : Nat, q < H.size → t.heap[q]? = H[q]?) → XC cls s t)
    (hf : ∀ z ∈ locs, free z.base) (hc : cells + 1 ≤ mc) (hs : slots + 6 ≤ ms) :
    W p l e R s m args below meth c H locs cells slots (vx_MQ below Qc XC args s mc ms free) (F0 m pc ls rest) := by
  intro T hT X
  have htr : e.platform.stackTraces = false := (show e.platform.stackTraces = l.stackTraces by rw [X.admits.platform]).trans hl
  have Y := vx_rebase X (R' := { frames := R.frames, locals := R.locals, cells := 1, slots := 6 }) (Nat.le_refl _) (Nat.le_refl _) hRcells hRslots
  obtain ⟨s', hA⟩ : ∃ z, z = (T.setVm s.vm).setFrames (.invoking m args :: below) := ⟨_, rfl⟩
  rw [← hA] at Y
  have hvm : s'.vm = s.vm := by rw [hA]; rfl
  have hhp : s'.heap = H := by rw [hA]; exact hT
  have hW0 : s.WarmedH s'.vm := by rw [hvm]; exact State.WarmedH.refl s
  have hat' : ∀ w ∈ vx_atS own ic cls names, w.before args s' = true := fun w hw => vx_ot_at hW0 hvm.symm (hgood w (List.mem_cons_of_mem _ (List.mem_cons_of_mem _ hw))) (hat w hw)
  have hk' : (Cond.classLink own ik cls).before args s' = true := vx_ot_at hW0 hvm.symm (hgood _ List.mem_cons_self) hk
  have hini' : (Cond.initialized cls).before args s' = true := vx_ot_at hW0 hvm.symm (hgood _ (List.mem_cons_of_mem _ List.mem_cons_self)) hini
  have hU' : vx_Zq Bundle.tN "UNASSIGNED_STACK" Bundle.steD A s' s'.heap := by rw [hhp]; exact vx_Zq.moved hW0.alike (hU.kept hS.2.1)
  have hN' : vx_Zq Bundle.tN "SUPPRESSED_SENTINEL" Bundle.listD A s' s'.heap := by rw [hhp]; exact vx_Zq.moved hW0.alike (hN.kept hS.2.1)
  have h : ∀ w ∈ Bundle.ownAtoms own ic cls names, w.before args s' = true := vx_own hat' (vx_isRefq hU'.1) (vx_isRefq hN'.1) hU'.2.word hN'.2.word
  have hown' : s'.vm.findClass own = some m.cls := by rw [hvm]; exact hown
  have hins : (Cond.instantiable cls 6).before args s' = true := h _ (by simp [Bundle.ownAtoms])
  obtain ⟨vm₁, cX, kX, hfX, hkX, -, -, X₁, st1⟩ := Y.newCold hexec (own := own) (C := cls) (index := ik) (n := 6) hown' hk' hins hini'
    (g := F0 m pc ls rest) rfl (by rw [hb]; exact d0) (Nat.le_refl _) (Nat.le_refl _)
  generalize hT1 : (T.setVm vm₁).pushCell { cls := cX, slots := kX.instanceTypes.map defaultValue, vm := .none } = T1 at X₁ st1
  have hcat : (Value.ref T.heap.size).category = 1 := rfl
  have hcellA : T1.heap[T.heap.size]? = some (freshCell cX kX) := by rw [← hT1]; exact State.heap_pushCell_size _ _
  have d3' : decode c.code (pc + 3) = .ok (.dup, 1) := by rw [hb]; exact d3
  have d4' : decode c.code (pc + 4) = .ok (.ldc is, 2) := by rw [hb]; exact d4
  have hstr' : vk_R own is text sa s' := vk_R.warm hW0 hstr
  obtain ⟨U, hsteps, hrun, hend, hW, hsame, ce, hce, hO⟩ := X₁.ctorThrowS hexec htr (own := own) (cls := cls) (names := names) (ic := ic) hown' hcls hnames h (fun x hx => nomatch hx) hfX hkX hcellA (by rw [hhp, hT]; exact Nat.le_refl _) (msg := .ref sa) rfl
    (g := { method := m, pc := pc + 6, locals := ls, stack := .ref sa :: .ref T.heap.size :: .ref T.heap.size :: rest, locked := none }) rfl hsize rfl rfl (rest := rest) rfl
    (by rw [hb]; exact d6) (by rw [hb]; exact d9) hout hRframes (by simp only [List.map_cons, List.sum_cons, hcat]; omega) hlocks
  obtain ⟨f1, f2⟩ := vx_frame hsame
  rw [hhp] at f1 f2
  have hWs : s.WarmedH U.vm := State.WarmedH.trans hW0 hW
  have hcl : s.vm.findClass cls = some ce.cls := by
    have h9 := hO.cls
    rw [hvm] at h9
    exact h9
  have hall : s.sameButNew ({ U with vm := s.vm } : State) locs mc ms := by
    subst hA
    obtain ⟨e1, e2⟩ := hsame
    rw [State.setFrames_setFrames] at e1
    have h2 : (T.setVm s.vm).sameButNew ({ U with vm := s.vm } : State) [] (0 + 1) (0 + 6) := ⟨e1, e2⟩
    have h3 := X.same.trans h2
    rw [List.append_nil] at h3
    exact h3.mono hc hs
  refine ⟨U, ?_, .threw T.heap.size, hrun, hend, Or.inr ⟨T.heap.size, rfl, cls, ce, locs, hx U hWs.alike f1 (fun q hq => f2 q hq (fun z hz => nomatch hz)), hce, hO.vm, hcl, hWs, hall, hf⟩⟩
  refine st1 _ ?_
  show Steps p.tables e below (T1.setTop { method := m, pc := pc + 3, locals := ls, stack := .ref T.heap.size :: rest, locked := none }) _
  jvm_step X₁.here [X₁.here.top, hexec, d3', Value.category]
  exact X₁.ldcString hexec (own := own) (text := text) (index := is) (a := sa) hown' hstr'.1 hstr'.2
    (g := { method := m, pc := pc + 4, locals := ls, stack := .ref T.heap.size :: .ref T.heap.size :: rest, locked := none }) rfl d4' _ hsteps
/-- 'throw new E("text")', the text by a wide index -/
theorem vx_throwSW {cc : ByteArray} {pc : Nat} (hexec : p.tables.exec = Jvm.exec) (hb : c.code = cc) (hl : l.stackTraces = false) {own cls text : String} {names : List String} {ik is ic mc ms sa : Nat} {A : Nat → Prop}
    (hown : s.vm.findClass own = some m.cls) (hcls : Bundle.fit cls = true) (hnames : ∀ n ∈ names, Bundle.fit n = true)
    (hk : (Cond.classLink own ik cls).before args s = true) (hini : (Cond.initialized cls).before args s = true) (hstr : vk_R own is text sa s) (hat : ∀ w ∈ vx_atS own ic cls names, w.before args s = true)
    (hgood : ∀ w ∈ Cond.classLink own ik cls :: Cond.initialized cls :: vx_atS own ic cls names, vx_ot w = true)
    (hU : vx_Zq Bundle.tN "UNASSIGNED_STACK" Bundle.steD A s s.heap) (hN : vx_Zq Bundle.tN "SUPPRESSED_SENTINEL" Bundle.listD A s s.heap) (hS : va_S A s.heap H locs) (hsize : ls.size = c.maxLocals)
    (d0 : decode cc pc = .ok (.new ik, 3)) (d3 : decode cc (pc + 3) = .ok (.dup, 1)) (d4 : decode cc (pc + 4) = .ok (.ldc_w is, 3)) (d7 : decode cc (pc + 7) = .ok (.invokespecial ic, 3)) (d10 : decode cc (pc + 10) = .ok (.athrow, 1))
    (hout : ∀ x ∈ c.exceptionTable.toList, covers x (pc + 10) = false)
    (hRframes : names.length + 3 < R.frames) (hRlocals : (rest.map fun v => v.category).sum + (13 * (names.length + 1) + 43) ≤ R.locals) (hRcells : cells + 1 ≤ R.cells) (hRslots : slots + 6 ≤ R.slots) (hlocks : meth.locks = false)
    (hx : ∀ t : State, s.vm.Alike t.vm → H.size ≤ t.heap.size → (∀ q : Nat, q < H.size → t.heap[q]? = H[q]?) → XC cls s t)
    (hf : ∀ z ∈ locs, free z.base) (hc : cells + 1 ≤ mc) (hs : slots + 6 ≤ ms) :
    W p l e R s m args below meth c H locs cells slots (vx_MQ below Qc XC args s mc ms free) (F0 m pc ls rest) := by
  intro T hT X
  have htr : e.platform.stackTraces = false := (show e.platform.stackTraces = l.stackTraces by rw [X.admits.platform]).trans hl
  have Y := vx_rebase X (R' := { frames := R.frames, locals := R.locals, cells := 1, slots := 6 }) (Nat.le_refl _) (Nat.le_refl _) hRcells hRslots
  obtain ⟨s', hA⟩ : ∃ z, z = (T.setVm s.vm).setFrames (.invoking m args :: below) := ⟨_, rfl⟩
  rw [← hA] at Y
  have hvm : s'.vm = s.vm := by rw [hA]; rfl
  have hhp : s'.heap = H := by rw [hA]; exact hT
  have hW0 : s.WarmedH s'.vm := by rw [hvm]; exact State.WarmedH.refl s
  have hat' : ∀ w ∈ vx_atS own ic cls names, w.before args s' = true := fun w hw => vx_ot_at hW0 hvm.symm (hgood w (List.mem_cons_of_mem _ (List.mem_cons_of_mem _ hw))) (hat w hw)
  have hk' : (Cond.classLink own ik cls).before args s' = true := vx_ot_at hW0 hvm.symm (hgood _ List.mem_cons_self) hk
  have hini' : (Cond.initialized cls).before args s' = true := vx_ot_at hW0 hvm.symm (hgood _ (List.mem_cons_of_mem _ List.mem_cons_self)) hini
  have hU' : vx_Zq Bundle.tN "UNASSIGNED_STACK" Bundle.steD A s' s'.heap := by rw [hhp]; exact vx_Zq.moved hW0.alike (hU.kept hS.2.1)
  have hN' : vx_Zq Bundle.tN "SUPPRESSED_SENTINEL" Bundle.listD A s' s'.heap := by rw [hhp]; exact vx_Zq.moved hW0.alike (hN.kept hS.2.1)
  have h : ∀ w ∈ Bundle.ownAtoms own ic cls names, w.before args s' = true := vx_own hat' (vx_isRefq hU'.1) (vx_isRefq hN'.1) hU'.2.word hN'.2.word
  have hown' : s'.vm.findClass own = some m.cls := by rw [hvm]; exact hown
  have hins : (Cond.instantiable cls 6).before args s' = true := h _ (by simp [Bundle.ownAtoms])
  obtain ⟨vm₁, cX, kX, hfX, hkX, -, -, X₁, st1⟩ := Y.newCold hexec (own := own) (C := cls) (index := ik) (n := 6) hown' hk' hins hini'
    (g := F0 m pc ls rest) rfl (by rw [hb]; exact d0) (Nat.le_refl _) (Nat.le_refl _)
  generalize hT1 : (T.setVm vm₁).pushCell { cls := cX, slots := kX.instanceTypes.map defaultValue, vm := .none } = T1 at X₁ st1
  have hcat : (Value.ref T.heap.size).category = 1 := rfl
  have hcellA : T1.heap[T.heap.size]? = some (freshCell cX kX) := by rw [← hT1]; exact State.heap_pushCell_size _ _
  have d3' : decode c.code (pc + 3) = .ok (.dup, 1) := by rw [hb]; exact d3
  have d4' : decode c.code (pc + 4) = .ok (.ldc_w is, 3) := by rw [hb]; exact d4
  have hstr' : vk_R own is text sa s' := vk_R.warm hW0 hstr
  obtain ⟨U, hsteps, hrun, hend, hW, hsame, ce, hce, hO⟩ := X₁.ctorThrowS hexec htr (own := own) (cls := cls) (names := names) (ic := ic) hown' hcls hnames h (fun x hx => nomatch hx) hfX hkX hcellA (by rw [hhp, hT]; exact Nat.le_refl _) (msg := .ref sa) rfl
    (g := { method := m, pc := pc + 7, locals := ls, stack := .ref sa :: .ref T.heap.size :: .ref T.heap.size :: rest, locked := none }) rfl hsize rfl rfl (rest := rest) rfl
    (by rw [hb]; exact d7) (by rw [hb]; exact d10) hout hRframes (by simp only [List.map_cons, List.sum_cons, hcat]; omega) hlocks
  obtain ⟨f1, f2⟩ := vx_frame hsame
  rw [hhp] at f1 f2
  have hWs : s.WarmedH U.vm := State.WarmedH.trans hW0 hW
  have hcl : s.vm.findClass cls = some ce.cls := by
    have h9 := hO.cls
    rw [hvm] at h9
    exact h9
  have hall : s.sameButNew ({ U with vm := s.vm } : State) locs mc ms := by
    subst hA
    obtain ⟨e1, e2⟩ := hsame
    rw [State.setFrames_setFrames] at e1
    have h2 : (T.setVm s.vm).sameButNew ({ U with vm := s.vm } : State) [] (0 + 1) (0 + 6) := ⟨e1, e2⟩
    have h3 := X.same.trans h2
    rw [List.append_nil] at h3
    exact h3.mono hc hs
  refine ⟨U, ?_, .threw T.heap.size, hrun, hend, Or.inr ⟨T.heap.size, rfl, cls, ce, locs, hx U hWs.alike f1 (fun q hq => f2 q hq (fun z hz => nomatch hz)), hce, hO.vm, hcl, hWs, hall, hf⟩⟩
  refine st1 _ ?_
  show Steps p.tables e below (T1.setTop { method := m, pc := pc + 3, locals := ls, stack := .ref T.heap.size :: rest, locked := none }) _
  jvm_step X₁.here [X₁.here.top, hexec, d3', Value.category]
  exact X₁.ldcStringW hexec (own := own) (text := text) (index := is) (a := sa) hown' hstr'.1 hstr'.2
    (g := { method := m, pc := pc + 4, locals := ls, stack := .ref T.heap.size :: .ref T.heap.size :: rest, locked := none }) rfl d4' _ hsteps
end Ends
section Bodies
variable {l : Launch}
theorem vx_ofW {y : MethodName} {ws ws' : List Cond} {rm : Room} {Pc : Array Value → State → Prop} {Qc : Array Value → State → Outcome → State → Prop} {XC : String → State → State → Prop} {mc ms : Nat} {free : Addr → Prop} {cc : ByteArray} {maxL : Nat} {ret : Option FieldType}
    (hy : plainName y.cls = true) (hw : ws = Cond.code y cc maxL ret :: ws')
    (body : ∀ p e s m args below meth c s₁, BodyLoose p l y (headSpec ws rm) cc maxL ret e s m args below meth c s₁ → c.maxLocals = maxL → (∀ x ∈ c.exceptionTable.toList, False) → Pc args s →
      W p l e (headSpec ws rm).room s m args below meth c s.heap [] 0 0 (vx_MQ below Qc XC args s mc ms free) (entryFrame m args maxL)) : vx_Met l y ws rm Pc Qc XC mc ms free := by
  refine MetFree.of_bodyS (code := cc) (maxLocals := maxL) (ret := ret) hy ?_ ?_
  · intro args s m h hn
    obtain ⟨meth, c, h1, h2, h3, h4, h5, h6, -, -⟩ := Cond.code_spec hn (atoms_spec (ws := ws) h _ (by rw [hw]; exact List.mem_cons_self))
    exact ⟨meth, c, h1, h2, h3, h4, h5, h6⟩
  · intro p e s m args below meth c s₁ B hml hP _
    have hh0 : s₁.heap = s.heap := by rw [B.state]; rfl
    have ht : ∀ x ∈ c.exceptionTable.toList, False := by
      obtain ⟨meth9, c9, h1, h2, -, -, -, -, h7, -⟩ := Cond.code_spec B.named (atoms_spec (ws := ws) B.pre _ (by rw [hw]; exact List.mem_cons_self))
      cases Option.some.inj (h1.symm.trans B.method)
      cases Option.some.inj (h2.symm.trans (Stand.of_body B).code)
      intro x hx
      rw [Array.isEmpty_iff.mp h7] at hx
      cases hx
    obtain ⟨t, a1, o, b1, b2, b3⟩ := body p e s m args below meth c s₁ B hml ht hP s₁ hh0 (Stand.of_body B)
    exact ⟨t, o, a1, b1, b2, b3⟩
/-- the table of a body with handlers -/
theorem vx_table {p : Program} {x y : MethodName} {S : Spec} {cc bytes : ByteArray} {maxL maxL' : Nat} {ret ret' : Option FieldType} {e : Env} {s s₁ : State} {m : MethodId} {args : Array Value} {below : List Frame} {meth : Method} {c : Code} {hh : List (Nat × Nat × Nat × Nat)}
    (B : BodyLoose p l y S cc maxL ret e s m args below meth c s₁) (h : (Cond.codeWith y bytes maxL' ret' hh).before args s = true) : c.exceptionTable.toList = tableOf hh := by
  obtain ⟨m9, meth9, c9, hn9, h1, h2, -, -, h6, -⟩ := Cond.codeWith_spec h
  cases Option.some.inj (hn9.symm.trans B.named)
  cases Option.some.inj (h1.symm.trans B.method)
  cases Option.some.inj (h2.symm.trans (Stand.of_body B).code)
  rw [← h6, table_eq]
end Bodies
end VXA
/-! ===== END ===== -/
/-! ===== BEGIN a static call of a method with an exception table ===== -/
section VXS
variable {p : Program} {l : Launch} {e : Env} {R : Room} {s : State} {m : MethodId} {args : Array Value} {below : List Frame} {meth : Method} {c : Code} {T : State} {H : Heap} {locs : List Loc} {cells slots : Nat}
abbrev vx_CSW (R : Room) (s : State) (args : Array Value) (own : String) (index : Nat) (y : MethodName) (bytes : ByteArray) (maxL : Nat) (ret : Option FieldType) (hh : List (Nat × Nat × Nat × Nat)) (ws : List Cond) (rm : Room) (mc ms n : Nat) : Prop :=
  (rm.cells = mc ∧ rm.slots = ms ∧ rm.frames + 1 ≤ R.frames ∧ 8 + (maxL + 11) + rm.locals ≤ R.locals ∧ (∀ w ∈ ws, ∀ (a' : Array Value) (U : State), s.WarmedH U.vm → w.before a' U = true) ∧ Cond.codeWith y bytes maxL ret hh ∈ ws) ∧
  (Cond.codeWith y bytes maxL ret hh).before args s = true ∧ (Cond.initialized y.cls).before args s = true ∧ (y.cls ≠ "java/lang/invoke/MethodHandle" ∧ y.cls ≠ "java/lang/invoke/VarHandle") ∧
  (∀ sig, parseMethodDescriptor y.desc = some sig → n = sig.parameters.length) ∧ (Cond.methodLink own index y).before args s = true ∧ (Cond.static y).before args s = true
theorem vx_cwSW {own : String} {index maxL mc ms : Nat} {y : MethodName} {bytes : ByteArray} {ret : Option FieldType} {hh : List (Nat × Nat × Nat × Nat)} {Ts ws ws' : List Cond} {rm : Room} (n : Nat) (ht : ∀ w ∈ Ts, w.before args s = true) (hT : GoodIn Ts (va_wsS own index y ws)) (hw : ws = Cond.codeWith y bytes maxL ret hh :: ws') (hrc : rm.cells = mc) (hrs : rm.slots = ms)
    (hd : y.cls ≠ "java/lang/invoke/MethodHandle" ∧ y.cls ≠ "java/lang/invoke/VarHandle" ∧ (parseMethodDescriptor y.desc).map (fun d => d.parameters.length) = some n) (hR : rm.frames + 1 ≤ R.frames ∧ 8 + (maxL + 11) + rm.locals ≤ R.locals) :
    vx_CSW R s args own index y bytes maxL ret hh ws rm mc ms n := by
  have ok : ∀ w ∈ va_wsS own index y ws, w.before args s = true := fun w h => ht w (hT w h).1
  have hG : GoodIn Ts ws := fun w h => hT w (by unfold va_wsS; exact List.mem_append_right _ h)
  have hc : Cond.codeWith y bytes maxL ret hh ∈ ws := by rw [hw]; exact List.mem_cons_self
  refine ⟨⟨hrc, hrs, hR.1, hR.2, pay_in ht hG, hc⟩, ht _ (hG _ hc).1, ok _ (by simp [va_wsS]), ⟨hd.1, hd.2.1⟩, fun sig h => ?_, ok _ (by simp [va_wsS]), ok _ (by simp [va_wsS])⟩
  have h2 := hd.2.2
  rw [h] at h2
  exact (Option.some.inj h2).symm
theorem vx_callSW (X : Stand p l e R s m args below meth c T locs cells slots) (hexec : p.tables.exec = Jvm.exec) {own : String} {index : Nat} {y : MethodName} {bytes : ByteArray} {maxL : Nat} {ret : Option FieldType} {hh : List (Nat × Nat × Nat × Nat)}
    (hown : s.vm.findClass own = some m.cls) (hlink : (Cond.methodLink own index y).before args s = true) (hstat : (Cond.static y).before args s = true) (hinit : (Cond.initialized y.cls).before args s = true)
    (hcode : (Cond.codeWith y bytes maxL ret hh).before args s = true) (hy : y.cls ≠ "java/lang/invoke/MethodHandle" ∧ y.cls ≠ "java/lang/invoke/VarHandle")
    {W9 : Nat} {Pre : Pt → Array Value → Prop} {Post : Pt → Array Value → Option Value → Pt → Prop} (hK : Back l R p e below s args y 3 W9 Pre Post)
    {g : JFrame} (hg : g.method = m) (hsize : g.locals.size = c.maxLocals) {argsL rest : List Value} (hlen : ∀ sig, parseMethodDescriptor y.desc = some sig → argsL.length = sig.parameters.length)
    (hstack : g.stack = argsL.reverse ++ rest) (hW : 2 * g.monitorRoom + (rest.map fun v => v.category).sum ≤ W9) (hdg : decode c.code g.pc = .ok (.invokestatic index, 3))
    (hpre : ∀ vm₁, s.WarmedH vm₁ → Pre ⟨T.setVm vm₁, locs, cells, slots⟩ argsL.toArray) :
    ∃ (v : Option Value) (vm₁ : Vm) (B : Pt), s.WarmedH vm₁ ∧ Stand p l e R s m args below meth c B.U B.locs B.cells B.slots ∧ Post ⟨T.setVm vm₁, locs, cells, slots⟩ argsL.toArray v B ∧
      ∀ target, Steps p.tables e below (B.U.setTop { g with pc := g.pc + 3, stack := v.toList ++ rest }) target → Steps p.tables e below (T.setTop g) target := by
  obtain ⟨mk, methM, cM, hnamed, hmethM, -, -, -, -, -, -, hsigM⟩ := Cond.codeWith_spec hcode
  have hstatic : methM.isStatic = true := Cond.static_spec hnamed hmethM hstat
  obtain ⟨kP, hkP, -⟩ := className_of_methodNamed hnamed
  have hinitP : kP.init = .initialized := Cond.initialized_spec (findClass_of_methodNamed hnamed) hkP hinit
  obtain ⟨vm₁, X₁, hstep₁⟩ := X.invokestatic hexec hown hlink hnamed hmethM hstatic hkP hinitP hy (g := g) hg (argsL := argsL) (rest := rest) (hlen _ hsigM) hstack hdg
  obtain ⟨v, B, X', hpost, hsteps⟩ := hK m meth c ⟨T.setVm vm₁, locs, cells, slots⟩ { g with stack := rest } (.invokestatic index) mk argsL.toArray X₁ hg hsize hdg hW (X₁.named hnamed) (hpre vm₁ X₁.warmed)
  exact ⟨v, vm₁, B, X₁.warmed, X', hpost, fun target h => hstep₁ _ fun acts => by rw [doInvoke_state]; exact hsteps.trans h⟩
theorem vx_runSW {y : MethodName} {bytes cc : ByteArray} {maxL nL mc ms n index : Nat} {ret : Option FieldType} {hh : List (Nat × Nat × Nat × Nat)} {ws : List Cond} {rm : Room} {Pc : Array Value → State → Prop} {Qc : Array Value → State → Outcome → State → Prop} {free : Addr → Prop} {Ts : List Cond} {own : String} {As rest : List Value} {g : JFrame}
    (S : CallFix p m c cc nL s args Ts own) (hM : Met l y ws rm Pc Qc mc ms free) (cw : vx_CSW R s args own index y bytes maxL ret hh ws rm mc ms n) (hp : PreS s H Pc As)
    (hg : g.method = m) (hn : As.length = n) (hsize : g.locals.size = nL) (hstack : g.stack = As.reverse ++ rest) (hW : 2 * g.monitorRoom + (rest.map fun v => v.category).sum ≤ 8) (hdg : decode cc g.pc = .ok (.invokestatic index, 3)) (hf : cells + mc ≤ R.cells ∧ slots + ms ≤ R.slots) :
    va_Run p l e R s m args below meth c H locs cells slots mc ms g rest (Qc As.toArray) (free) := by
  obtain ⟨⟨hrc, hrs, hfr, hlo, hws, hcw⟩, hcode, hini, hy, hlen, hl, hstt⟩ := cw
  have hK : Back l R p e below s args y 3 8 (PreOf R mc ms Pc) (PostOf Qc mc ms free) := va_backW (hh := hh) (bytes := bytes) (maxL := maxL) (ret := ret) hM hp.1 hrc hrs hfr hlo hws hcw (fun a' U hW => word_at hW (Or.inl (by first | rfl | simp [Cond.onTables, Cond.keeps, Cond.steady])) hini)
  obtain ⟨hx, hb, hml, ho, -⟩ := S
  intro T hT X
  obtain ⟨v, vm₁, ⟨U', l2, c2, s2⟩, hW₁, X', ⟨g', mk, t, L, e1, e2, hq, h1, hL, h2, h3⟩, st⟩ := vx_callSW X hx (hh := hh) (bytes := bytes) (maxL := maxL) (ret := ret) ho hl hstt hini hcode hy hK hg (hsize.trans hml.symm) (argsL := As) (rest := rest) (fun sig h => hn.trans (hlen sig h)) hstack hW (by rw [hb]; exact hdg)
    (fun vm₁ hW₁ => ⟨hf.1, hf.2, hp.2 (T.setVm vm₁) hT hW₁⟩)
  dsimp only [Pt.U, Pt.locs, Pt.cells, Pt.slots] at X' e1 e2 h1 h2 h3 st
  subst h1; subst h2; subst h3
  exact ⟨v, (T.setVm vm₁).calling g' mk As.toArray, t, U', L, hT, X', hL, e1, e2, hq, st⟩
/-- not caught here, past rows that name other classes: it goes on to the caller -/
theorem vx_outP {p : Program} {l : Launch} {e : Env} {R : Room} {s : State} {m : MethodId} {args : Array Value} {below : List Frame} {meth : Method} {c : Code} {H : Heap} {locs : List Loc} {cells slots : Nat} {free : Addr → Prop} {ls : Array Slot} {rest : List Value} {Qc : Array Value → State → Outcome → State → Prop} {XC : String → State → State → Prop}
    {pc : Nat} {own E : String} {ce : Cell} {q : Addr} {mc ms : Nat} (hown : s.vm.findClass own = some m.cls) (hlocks : meth.locks = false)
    (hpass : ∀ z ∈ c.exceptionTable.toList, covers z pc = false ∨ (z.catchType ≠ 0 ∧ ∃ nm : String, (Cond.classLink own z.catchType nm).before args s = true ∧ va_Nc E nm s)) (hcell : H[q]? = some ce) (hv : ce.vm = .none) (hcl : s.vm.findClass E = some ce.cls)
    (hx : ∀ t : State, t.heap = H → s.vm.Alike t.vm → XC E s t) (hf : ∀ z ∈ locs, free z.base) (hc : cells ≤ mc) (hs : slots ≤ ms) :
    vx_W p l e R s m args below meth c H locs cells slots (vx_MQ below Qc XC args s mc ms free) (F0 m pc ls rest) q := by
  intro T hT X
  have hpl : e.platform.magicAccessors = ({} : Platform).magicAccessors := by rw [X.admits.platform]
  obtain ⟨vm', hW', X', st⟩ := X.outThrough hlocks q (g := F0 m pc ls rest) rfl rfl rfl (cell := ce) (by rw [hT]; exact hcell) (by rw [hv]; rfl)
    (by obtain ⟨k9, h9, -⟩ := Vm.findClass_spec hcl; exact ⟨k9, h9⟩) (fun z hz => by
      rcases hpass z hz with h | ⟨hz0, nm, hl1, hn1⟩
      · exact Or.inl h
      · obtain ⟨c6, hc6, hcl6⟩ := Cond.classLink_spec hown hl1 e.platform hpl
        obtain ⟨a8, b8, h1, h2, h3⟩ := hn1
        cases Option.some.inj (h1.symm.trans hcl)
        cases Option.some.inj (h2.symm.trans hc6)
        exact Or.inr ⟨hz0, _, hcl6, h3⟩)
  obtain ⟨g₀, hfr⟩ := X'.frames_eq
  have hcell9 : ((T.setVm vm').setFrames (.throwing q :: below)).heap[q]? = some ce := by
    show T.heap[q]? = some ce
    rw [hT]; exact hcell
  have hend : Ended ((T.setVm vm').setFrames (.throwing q :: below)) below (.threw q) := State.frames_setFrames _ (State.cur_lt_of_frames hfr)
  refine ⟨(T.setVm vm').setFrames (.throwing q :: below), ?_, .threw q, X'.here.running, hend, Or.inr ⟨q, rfl, E, ce, locs, hx _ hT (X'.ends _).1.alike, hcell9, hv, hcl, (X'.ends _).1, (X'.ends _).2.mono hc hs, hf⟩⟩
  rw [X.pushThrowing_eq]
  exact st
/-- a thing of a world lies in the heap -/
theorem vx_lt {D : va_G} {cl : List vw_C} {ws : va_W} {H1 : Heap} (h : va_P D cl ws H1) {k : Nat} {q : Nat × va_E} (hk : ws[k]? = some q) : q.1 < H1.size := (h k q hk).lt
end VXS
/-! ===== END ===== -/
/-! ===== BEGIN methods with a table of their own: called by a name, returning or throwing ===== -/
section VXH
/-! vx_backW, vx_callVX, vx_callSX, vx_callVW, vx_runVW, vx_runVX, vx_runSX, vx_ofWH follow the same proofs as their sisters above (Free/Laws.lean, Shelf42/LK1.lean); vx_outP calls Shelf42/NT130.lean (outThrough). -/
section
variable {l : Launch} {R : Room} {p : Program} {e : Env} {below : List Frame} {s : State} {sargs : Array Value} {y : MethodName} {len W9 : Nat}
theorem vx_backW {ws : List Cond} {rm : Room} {Pc : Array Value → State → Prop} {Qc : Array Value → State → Outcome → State → Prop} {XC : String → State → State → Prop} {mc ms : Nat} {free : Addr → Prop} {bytes : ByteArray} {maxL : Nat} {ret : Option FieldType} {hh : List (Nat × Nat × Nat × Nat)}
    (hM : vx_Met l y ws rm Pc Qc XC mc ms free) (hblind : FrameBlind Pc) (hrc : rm.cells = mc) (hrs : rm.slots = ms)
    (hframes : rm.frames + 1 ≤ R.frames) (hlocals : W9 + (maxL + 11) + rm.locals ≤ R.locals)
    (hws : ∀ w ∈ ws, ∀ a' U, s.WarmedH U.vm → w.before a' U = true) (hcode : Cond.codeWith y bytes maxL ret hh ∈ ws) (hinit : ∀ a' U, s.WarmedH U.vm → (Cond.initialized y.cls).before a' U = true) :
    vx_Back l R p e below s sargs y len W9 (PreOf R mc ms Pc) (PostOf Qc mc ms free) (vx_Post XC mc ms free) := by
  intro m meth c A g ig mk a X hg hsize hdg hW hn hp
  have h1 : (headSpec ws rm).pre.before a A.U = true := atoms_intro fun w hw => hws w hw _ _ X.warmed
  have h2 : (Cond.codeWith y bytes maxL ret hh).before a A.U = true := hws _ hcode _ _ X.warmed
  have h3 : (Cond.initialized y.cls).before a A.U = true := hinit _ _ X.warmed
  have h4 : A.cells + (headSpec ws rm).room.cells ≤ R.cells := by rw [show (headSpec ws rm).room.cells = mc from hrc]; exact hp.1
  have h5 : A.slots + (headSpec ws rm).room.slots ≤ R.slots := by rw [show (headSpec ws rm).room.slots = ms from hrs]; exact hp.2.1
  have hPc : Pc a (A.U.calling g mk a) := hblind _ _ _ _ hp.2.2
  obtain ⟨U, Ls, c0, s0⟩ := A
  dsimp only [Pt.U, Pt.locs, Pt.cells, Pt.slots] at h1 h2 h3 h4 h5 X hn hPc ⊢
  obtain ⟨m9, methY, cY, hn9, hmY, hcY, -, hlY, -⟩ := Cond.codeWith_spec h2
  cases Option.some.inj (hn9.symm.trans hn)
  obtain ⟨kY, hkY, -⟩ := className_of_methodNamed hn
  have hinitY : kY.init = .initialized := Cond.initialized_spec (findClass_of_methodNamed hn) hkY h3
  have h : At U g.method c below := by rw [hg]; exact X.here
  have hlocals9 : W9 + (maxL + 11) + (headSpec ws rm).room.locals ≤ R.locals := hlocals
  have happ : (headSpec ws rm).appliesLoose y e.platform (U.calling g mk a) = true :=
    Spec.appliesLoose_calling (g := g) h hdg hn hkY hinitY
      (X.room_calling (g := g) (R' := (headSpec ws rm).room) hsize hmY hcY hframes (by rw [hlY]; omega) h4 h5) h1
  obtain ⟨mid, hmid⟩ := h.above
  have hfr : (U.setTop g).frames = (.java g :: mid) ++ below := by rw [State.frames_setTop' g h.top, hmid]; rfl
  obtain ⟨o, s₂, hsteps, -, hend, hq⟩ := Steps.callFree hM p X.admits X.cas X.clock (acts := []) hfr happ hPc trivial
  have hq' : vx_Q Qc XC mc ms free a (U.calling g mk a) o s₂ := hq
  rw [State.frames_setTop' g h.top] at hend
  obtain ⟨g₀, hg0⟩ := Option.isSome_iff_exists.mp h.top
  obtain ⟨r, hr⟩ := State.topJava?_eq_some.mp hg0
  have hr' : (({ U with heap := s₂.heap, slotsUsed := s₂.slotsUsed } : State).setVm s₂.vm).frames = .java g₀ :: r := hr
  rcases hq' with ⟨hqc, L, hfe, hL⟩ | ⟨q, rfl, E, ce, L, hx, hce, hcv, hcl, hW₂, hsm, hL⟩
  · obtain ⟨⟨v, rfl⟩, hW₂, e2, q2, q3, q4, q5, q6⟩ := id hfe
    have e3 : s₂ = ({ (U.calling g mk a).setFrames s₂.frames with heap := s₂.heap, slotsUsed := s₂.slotsUsed } : State).setVm s₂.vm := by
      have : s₂ = ({ s₂ with vm := (U.calling g mk a).vm } : State).setVm s₂.vm := rfl
      rw [e2] at this
      exact this
    obtain ⟨c₂, i₂, len₂, hc₂, hd₂, hf₂⟩ := hend
    have hW' : U.WarmedH s₂.vm := hW₂
    have hcc : c₂ = c := by
      have h1 : s₂.code? g.method = U.code? g.method := by
        rw [State.code?_eq, State.code?_eq, hW'.alike.method?]
      exact Option.some.inj (hc₂.symm.trans (h1.trans h.code))
    subst hcc
    have hlen : len₂ = len := by rw [hdg] at hd₂; cases hd₂; rfl
    subst hlen
    have hs₂ : s₂ = (({ U with heap := s₂.heap, slotsUsed := s₂.slotsUsed } : State).setVm s₂.vm).setTop { g with pc := g.pc + len₂, stack := v.toList ++ g.stack } := by
      refine e3.trans ?_
      rw [hf₂, State.calling_eq h.top, State.setFrames_setFrames, State.setTop_of_frames _ hr', hr]
      rfl
    have hsame : U.sameButNew ({ U with heap := s₂.heap, slotsUsed := s₂.slotsUsed } : State) L mc ms := by
      refine ⟨?_, q2, q3, q4, q5, q6⟩
      obtain ⟨t, ht, -⟩ := State.frames_cons hr
      show ({ U with heap := s₂.heap, slotsUsed := s₂.slotsUsed } : State) = { U.setFrames U.frames with heap := s₂.heap, slotsUsed := s₂.slotsUsed }
      rw [State.setFrames_self ht]
    subst hg
    refine Or.inl ⟨v, ⟨(({ U with heap := s₂.heap, slotsUsed := s₂.slotsUsed } : State).setVm s₂.vm), Ls ++ L, c0 + mc, s0 + ms⟩,
      ⟨X.admits, X.cas, X.clock, X.frames, X.room, X.hears, X.method, X.code, (X.here.setHeapUsed s₂.heap s₂.slotsUsed).setVm hW'.alike, X.tail, State.WarmedH.trans X.warmed hW', X.limits, X.bytes, X.same.trans (hsame.setVm s.vm)⟩,
      ⟨g, mk, s₂, L, rfl, rfl, hqc, rfl, hL, rfl, rfl⟩, ?_⟩
    show Steps p.tables e below _ ((({ U with heap := s₂.heap, slotsUsed := s₂.slotsUsed } : State).setVm s₂.vm).setTop { g with pc := g.pc + len₂, stack := v.toList ++ g.stack })
    rw [← hs₂]
    exact hsteps
  · obtain ⟨e2, q2, q3, q4, q5, q6⟩ := id hsm
    have e3 : s₂ = ({ (U.calling g mk a).setFrames s₂.frames with heap := s₂.heap, slotsUsed := s₂.slotsUsed } : State).setVm s₂.vm := by
      have : s₂ = ({ s₂ with vm := (U.calling g mk a).vm } : State).setVm s₂.vm := rfl
      rw [e2] at this
      exact this
    have hf₂ : s₂.frames = .throwing q :: .java g :: U.frames.tail := hend
    have hW' : U.WarmedH s₂.vm := hW₂
    have hs₂ : s₂ = ((({ U with heap := s₂.heap, slotsUsed := s₂.slotsUsed } : State).setVm s₂.vm).setTop g).pushFrame (.throwing q) := by
      refine e3.trans ?_
      rw [hf₂, State.calling_eq h.top, State.setFrames_setFrames, State.pushFrame, State.frames_setTop _ hr', State.setTop_of_frames _ hr', State.setFrames_setFrames, hr]
      rfl
    have hsame : U.sameButNew ({ U with heap := s₂.heap, slotsUsed := s₂.slotsUsed } : State) L mc ms := by
      refine ⟨?_, q2, q3, q4, q5, q6⟩
      obtain ⟨t, ht, -⟩ := State.frames_cons hr
      show ({ U with heap := s₂.heap, slotsUsed := s₂.slotsUsed } : State) = { U.setFrames U.frames with heap := s₂.heap, slotsUsed := s₂.slotsUsed }
      rw [State.setFrames_self ht]
    subst hg
    refine Or.inr ⟨q, ⟨(({ U with heap := s₂.heap, slotsUsed := s₂.slotsUsed } : State).setVm s₂.vm), Ls ++ L, c0 + mc, s0 + ms⟩,
      ⟨X.admits, X.cas, X.clock, X.frames, X.room, X.hears, X.method, X.code, (X.here.setHeapUsed s₂.heap s₂.slotsUsed).setVm hW'.alike, X.tail, State.WarmedH.trans X.warmed hW', X.limits, X.bytes, X.same.trans (hsame.setVm s.vm)⟩,
      ⟨g, mk, s₂, L, E, ce, rfl, rfl, hx, hce, hcv, hcl, rfl, hL, rfl, rfl⟩, ?_⟩
    show Steps p.tables e below _ (((({ U with heap := s₂.heap, slotsUsed := s₂.slotsUsed } : State).setVm s₂.vm).setTop g).pushFrame (.throwing q))
    rw [← hs₂]
    exact hsteps
end
variable {p : Program} {l : Launch} {e : Env} {R : Room} {s : State} {m : MethodId} {args : Array Value} {below : List Frame} {meth : Method} {c : Code} {T : State} {H : Heap} {locs : List Loc} {cells slots : Nat}
theorem vx_callVX (X : Stand p l e R s m args below meth c T locs cells slots) (hexec : p.tables.exec = Jvm.exec) {own C : String} {index : Nat} {y : MethodName} {bytes : ByteArray} {maxL : Nat} {ret : Option FieldType} {hh : List (Nat × Nat × Nat × Nat)}
    (hown : s.vm.findClass own = some m.cls) (hlink : (Cond.methodLink own index y).before args s = true) (hinst : (Cond.instanceMethod y).before args s = true) (hsel : (Cond.selects C y y).before args s = true)
    (hcode : (Cond.codeWith y bytes maxL ret hh).before args s = true) (hy : y.cls ≠ "java/lang/invoke/MethodHandle" ∧ y.cls ≠ "java/lang/invoke/VarHandle")
    {W9 : Nat} {Pre : Pt → Array Value → Prop} {Post : Pt → Array Value → Option Value → Pt → Prop} {PostX : Pt → Array Value → Addr → Pt → Prop} (hK : vx_Back l R p e below s args y 3 W9 Pre Post PostX)
    {b : Addr} {cellB : Cell} (hcell : T.heap[b]? = some cellB) (hobj : cellB.vm.isStatics = false) (hcls : s.vm.findClass C = some cellB.cls)
    {g : JFrame} (hg : g.method = m) (hsize : g.locals.size = c.maxLocals) {argsL rest : List Value} (hlen : ∀ sig, parseMethodDescriptor y.desc = some sig → argsL.length = sig.parameters.length)
    (hstack : g.stack = argsL.reverse ++ .ref b :: rest) (hW : 2 * g.monitorRoom + (rest.map fun v => v.category).sum ≤ W9) (hdg : decode c.code g.pc = .ok (.invokevirtual index, 3))
    (hpre : ∀ vm₁, s.WarmedH vm₁ → Pre ⟨T.setVm vm₁, locs, cells, slots⟩ (Value.ref b :: argsL).toArray) :
    (∃ (v : Option Value) (vm₁ : Vm) (B : Pt), s.WarmedH vm₁ ∧ Stand p l e R s m args below meth c B.U B.locs B.cells B.slots ∧ Post ⟨T.setVm vm₁, locs, cells, slots⟩ (Value.ref b :: argsL).toArray v B ∧
      ∀ target, Steps p.tables e below (B.U.setTop { g with pc := g.pc + 3, stack := v.toList ++ rest }) target → Steps p.tables e below (T.setTop g) target) ∨
    (∃ (q : Addr) (vm₁ : Vm) (B : Pt), s.WarmedH vm₁ ∧ Stand p l e R s m args below meth c B.U B.locs B.cells B.slots ∧ PostX ⟨T.setVm vm₁, locs, cells, slots⟩ (Value.ref b :: argsL).toArray q B ∧
      Steps p.tables e below (T.setTop g) ((B.U.setTop { g with stack := rest }).pushFrame (.throwing q))) := by
  obtain ⟨mk, methM, hnamed, hmethM, hstM, habM⟩ := Cond.instanceMethod_spec hinst
  obtain ⟨m8, methM', cM, hn8, hmethM', -, -, -, -, -, -, hsigM⟩ := Cond.codeWith_spec hcode
  cases Option.some.inj (hn8.symm.trans hnamed)
  cases hmethM.symm.trans hmethM'
  obtain ⟨c2, r2, m2, q1, q2, q3, q4, kP, hkP, hkPi⟩ := Cond.selects_spec hsel
  cases hcls.symm.trans q1
  cases (State.methodFound?_of_named hnamed hy).symm.trans q2
  cases hnamed.symm.trans q3
  have hselP : selectMethod e.platform s.vm cellB.cls mk = .method mk := by rw [Launch.admits_selectMethod X.admits]; exact q4
  obtain ⟨vm₁, X₁, hstep₁⟩ := X.invokevirtual hexec hown hlink hnamed hmethM hstM hkP hkPi hy (a := b) (cell := cellB) hcell
    (fun z h => by rw [h] at hobj; cases hobj) hselP hmethM habM hkP hkPi (g := g) hg (argsL := argsL) (rest := rest) (hlen _ hsigM) hstack hdg
  rcases hK m meth c ⟨T.setVm vm₁, locs, cells, slots⟩ { g with stack := rest } (.invokevirtual index) mk (Value.ref b :: argsL).toArray X₁ hg hsize hdg hW (X₁.named hnamed) (hpre vm₁ X₁.warmed) with ⟨v, B, X', hpost, hsteps⟩ | ⟨q, B, X', hpost, hsteps⟩
  · exact Or.inl ⟨v, vm₁, B, X₁.warmed, X', hpost, fun target h => hstep₁ _ fun acts => by rw [doInvoke_state]; exact hsteps.trans h⟩
  · exact Or.inr ⟨q, vm₁, B, X₁.warmed, X', hpost, hstep₁ _ fun acts => by rw [doInvoke_state]; exact hsteps⟩
theorem vx_callSX (X : Stand p l e R s m args below meth c T locs cells slots) (hexec : p.tables.exec = Jvm.exec) {own : String} {index : Nat} {y : MethodName} {bytes : ByteArray} {maxL : Nat} {ret : Option FieldType} {hh : List (Nat × Nat × Nat × Nat)}
    (hown : s.vm.findClass own = some m.cls) (hlink : (Cond.methodLink own index y).before args s = true) (hstat : (Cond.static y).before args s = true) (hinit : (Cond.initialized y.cls).before args s = true)
    (hcode : (Cond.codeWith y bytes maxL ret hh).before args s = true) (hy : y.cls ≠ "java/lang/invoke/MethodHandle" ∧ y.cls ≠ "java/lang/invoke/VarHandle")
    {W9 : Nat} {Pre : Pt → Array Value → Prop} {Post : Pt → Array Value → Option Value → Pt → Prop} {PostX : Pt → Array Value → Addr → Pt → Prop} (hK : vx_Back l R p e below s args y 3 W9 Pre Post PostX)
    {g : JFrame} (hg : g.method = m) (hsize : g.locals.size = c.maxLocals) {argsL rest : List Value} (hlen : ∀ sig, parseMethodDescriptor y.desc = some sig → argsL.length = sig.parameters.length)
    (hstack : g.stack = argsL.reverse ++ rest) (hW : 2 * g.monitorRoom + (rest.map fun v => v.category).sum ≤ W9) (hdg : decode c.code g.pc = .ok (.invokestatic index, 3))
    (hpre : ∀ vm₁, s.WarmedH vm₁ → Pre ⟨T.setVm vm₁, locs, cells, slots⟩ argsL.toArray) :
    (∃ (v : Option Value) (vm₁ : Vm) (B : Pt), s.WarmedH vm₁ ∧ Stand p l e R s m args below meth c B.U B.locs B.cells B.slots ∧ Post ⟨T.setVm vm₁, locs, cells, slots⟩ argsL.toArray v B ∧
      ∀ target, Steps p.tables e below (B.U.setTop { g with pc := g.pc + 3, stack := v.toList ++ rest }) target → Steps p.tables e below (T.setTop g) target) ∨
    (∃ (q : Addr) (vm₁ : Vm) (B : Pt), s.WarmedH vm₁ ∧ Stand p l e R s m args below meth c B.U B.locs B.cells B.slots ∧ PostX ⟨T.setVm vm₁, locs, cells, slots⟩ argsL.toArray q B ∧
      Steps p.tables e below (T.setTop g) ((B.U.setTop { g with stack := rest }).pushFrame (.throwing q))) := by
  obtain ⟨mk, methM, cM, hnamed, hmethM, -, -, -, -, -, -, hsigM⟩ := Cond.codeWith_spec hcode
  have hstatic : methM.isStatic = true := Cond.static_spec hnamed hmethM hstat
  obtain ⟨kP, hkP, -⟩ := className_of_methodNamed hnamed
  have hinitP : kP.init = .initialized := Cond.initialized_spec (findClass_of_methodNamed hnamed) hkP hinit
  obtain ⟨vm₁, X₁, hstep₁⟩ := X.invokestatic hexec hown hlink hnamed hmethM hstatic hkP hinitP hy (g := g) hg (argsL := argsL) (rest := rest) (hlen _ hsigM) hstack hdg
  rcases hK m meth c ⟨T.setVm vm₁, locs, cells, slots⟩ { g with stack := rest } (.invokestatic index) mk argsL.toArray X₁ hg hsize hdg hW (X₁.named hnamed) (hpre vm₁ X₁.warmed) with ⟨v, B, X', hpost, hsteps⟩ | ⟨q, B, X', hpost, hsteps⟩
  · exact Or.inl ⟨v, vm₁, B, X₁.warmed, X', hpost, fun target h => hstep₁ _ fun acts => by rw [doInvoke_state]; exact hsteps.trans h⟩
  · exact Or.inr ⟨q, vm₁, B, X₁.warmed, X', hpost, hstep₁ _ fun acts => by rw [doInvoke_state]; exact hsteps⟩
theorem vx_callVW (X : Stand p l e R s m args below meth c T locs cells slots) (hexec : p.tables.exec = Jvm.exec) {own C : String} {index : Nat} {y : MethodName} {bytes : ByteArray} {maxL : Nat} {ret : Option FieldType} {hh : List (Nat × Nat × Nat × Nat)}
    (hown : s.vm.findClass own = some m.cls) (hlink : (Cond.methodLink own index y).before args s = true) (hinst : (Cond.instanceMethod y).before args s = true) (hsel : (Cond.selects C y y).before args s = true)
    (hcode : (Cond.codeWith y bytes maxL ret hh).before args s = true) (hy : y.cls ≠ "java/lang/invoke/MethodHandle" ∧ y.cls ≠ "java/lang/invoke/VarHandle")
    {W9 : Nat} {Pre : Pt → Array Value → Prop} {Post : Pt → Array Value → Option Value → Pt → Prop} (hK : Back l R p e below s args y 3 W9 Pre Post)
    {b : Addr} {cellB : Cell} (hcell : T.heap[b]? = some cellB) (hobj : cellB.vm.isStatics = false) (hcls : s.vm.findClass C = some cellB.cls)
    {g : JFrame} (hg : g.method = m) (hsize : g.locals.size = c.maxLocals) {argsL rest : List Value} (hlen : ∀ sig, parseMethodDescriptor y.desc = some sig → argsL.length = sig.parameters.length)
    (hstack : g.stack = argsL.reverse ++ .ref b :: rest) (hW : 2 * g.monitorRoom + (rest.map fun v => v.category).sum ≤ W9) (hdg : decode c.code g.pc = .ok (.invokevirtual index, 3))
    (hpre : ∀ vm₁, s.WarmedH vm₁ → Pre ⟨T.setVm vm₁, locs, cells, slots⟩ (Value.ref b :: argsL).toArray) :
    ∃ (v : Option Value) (vm₁ : Vm) (B : Pt), s.WarmedH vm₁ ∧ Stand p l e R s m args below meth c B.U B.locs B.cells B.slots ∧ Post ⟨T.setVm vm₁, locs, cells, slots⟩ (Value.ref b :: argsL).toArray v B ∧
      ∀ target, Steps p.tables e below (B.U.setTop { g with pc := g.pc + 3, stack := v.toList ++ rest }) target → Steps p.tables e below (T.setTop g) target := by
  obtain ⟨mk, methM, hnamed, hmethM, hstM, habM⟩ := Cond.instanceMethod_spec hinst
  obtain ⟨m8, methM', cM, hn8, hmethM', -, -, -, -, -, -, hsigM⟩ := Cond.codeWith_spec hcode
  cases Option.some.inj (hn8.symm.trans hnamed)
  cases hmethM.symm.trans hmethM'
  obtain ⟨c2, r2, m2, q1, q2, q3, q4, kP, hkP, hkPi⟩ := Cond.selects_spec hsel
  cases hcls.symm.trans q1
  cases (State.methodFound?_of_named hnamed hy).symm.trans q2
  cases hnamed.symm.trans q3
  have hselP : selectMethod e.platform s.vm cellB.cls mk = .method mk := by rw [Launch.admits_selectMethod X.admits]; exact q4
  obtain ⟨vm₁, X₁, hstep₁⟩ := X.invokevirtual hexec hown hlink hnamed hmethM hstM hkP hkPi hy (a := b) (cell := cellB) hcell
    (fun z h => by rw [h] at hobj; cases hobj) hselP hmethM habM hkP hkPi (g := g) hg (argsL := argsL) (rest := rest) (hlen _ hsigM) hstack hdg
  obtain ⟨v, B, X', hpost, hsteps⟩ := hK m meth c ⟨T.setVm vm₁, locs, cells, slots⟩ { g with stack := rest } (.invokevirtual index) mk (Value.ref b :: argsL).toArray X₁ hg hsize hdg hW (X₁.named hnamed) (hpre vm₁ X₁.warmed)
  exact ⟨v, vm₁, B, X₁.warmed, X', hpost, fun target h => hstep₁ _ fun acts => by rw [doInvoke_state]; exact hsteps.trans h⟩
abbrev vx_CVW (R : Room) (s : State) (args : Array Value) (own C : String) (index : Nat) (y : MethodName) (bytes : ByteArray) (maxL : Nat) (ret : Option FieldType) (hh : List (Nat × Nat × Nat × Nat)) (ws : List Cond) (rm : Room) (mc ms n : Nat) : Prop :=
  (rm.cells = mc ∧ rm.slots = ms ∧ rm.frames + 1 ≤ R.frames ∧ 8 + (maxL + 11) + rm.locals ≤ R.locals ∧ (∀ w ∈ ws, ∀ (a' : Array Value) (U : State), s.WarmedH U.vm → w.before a' U = true) ∧ Cond.codeWith y bytes maxL ret hh ∈ ws) ∧
  (Cond.codeWith y bytes maxL ret hh).before args s = true ∧ (Cond.initialized y.cls).before args s = true ∧ (y.cls ≠ "java/lang/invoke/MethodHandle" ∧ y.cls ≠ "java/lang/invoke/VarHandle") ∧
  (∀ sig, parseMethodDescriptor y.desc = some sig → n = sig.parameters.length) ∧ (Cond.methodLink own index y).before args s = true ∧ (Cond.instanceMethod y).before args s = true ∧ (Cond.selects C y y).before args s = true
theorem vx_cwVW {own C : String} {index maxL mc ms : Nat} {y : MethodName} {bytes : ByteArray} {ret : Option FieldType} {hh : List (Nat × Nat × Nat × Nat)} {Ts ws ws' : List Cond} {rm : Room} (n : Nat) (ht : ∀ w ∈ Ts, w.before args s = true) (hT : GoodIn Ts (wsV own index C y ws)) (hw : ws = Cond.codeWith y bytes maxL ret hh :: ws') (hrc : rm.cells = mc) (hrs : rm.slots = ms)
    (hd : y.cls = C ∧ y.cls ≠ "java/lang/invoke/MethodHandle" ∧ y.cls ≠ "java/lang/invoke/VarHandle" ∧ (parseMethodDescriptor y.desc).map (fun d => d.parameters.length) = some n) (hR : rm.frames + 1 ≤ R.frames ∧ 8 + (maxL + 11) + rm.locals ≤ R.locals) :
    vx_CVW R s args own C index y bytes maxL ret hh ws rm mc ms n := by
  obtain ⟨hC, hd⟩ := hd
  subst hC
  have ok : ∀ w ∈ wsV own index y.cls y ws, w.before args s = true := fun w h => ht w (hT w h).1
  have hG : GoodIn Ts ws := fun w h => hT w (by unfold wsV; exact List.mem_append_right _ h)
  have hc : Cond.codeWith y bytes maxL ret hh ∈ ws := by rw [hw]; exact List.mem_cons_self
  refine ⟨⟨hrc, hrs, hR.1, hR.2, pay_in ht hG, hc⟩, ht _ (hG _ hc).1, ok _ (by simp [wsV]), ⟨hd.1, hd.2.1⟩, fun sig h => ?_, ok _ (by simp [wsV]), ok _ (by simp [wsV]), ok _ (by simp [wsV])⟩
  have h2 := hd.2.2
  rw [h] at h2
  exact (Option.some.inj h2).symm
theorem vx_runVW {y : MethodName} {bytes cc : ByteArray} {maxL nL mc ms n index : Nat} {ret : Option FieldType} {hh : List (Nat × Nat × Nat × Nat)} {ws : List Cond} {rm : Room} {Pc : Array Value → State → Prop} {Qc : Array Value → State → Outcome → State → Prop} {free : Addr → Prop} {Ts : List Cond} {own C : String} {b : Addr} {As rest : List Value} {g : JFrame}
    (S : CallFix p m c cc nL s args Ts own) (hM : Met l y ws rm Pc Qc mc ms free) (cw : vx_CVW R s args own C index y bytes maxL ret hh ws rm mc ms n) (hp : PreV s H C b Pc As)
    (hg : g.method = m) (hn : As.length = n) (hsize : g.locals.size = nL) (hstack : g.stack = As.reverse ++ .ref b :: rest) (hW : 2 * g.monitorRoom + (rest.map fun v => v.category).sum ≤ 8) (hdg : decode cc g.pc = .ok (.invokevirtual index, 3)) (hf : cells + mc ≤ R.cells ∧ slots + ms ≤ R.slots) :
    va_Run p l e R s m args below meth c H locs cells slots mc ms g rest (Qc (Value.ref b :: As).toArray) free := by
  obtain ⟨⟨hrc, hrs, hfr, hlo, hws, hcw⟩, hcode, hini, hy, hlen, hl, hin, hse⟩ := cw
  have hK : Back l R p e below s args y 3 8 (PreOf R mc ms Pc) (PostOf Qc mc ms free) := va_backW (hh := hh) (bytes := bytes) (maxL := maxL) (ret := ret) hM hp.1 hrc hrs hfr hlo hws hcw (fun a' U hW => word_at hW (Or.inl (by first | rfl | simp [Cond.onTables, Cond.keeps, Cond.steady])) hini)
  obtain ⟨hx, hb, hml, ho, -⟩ := S
  obtain ⟨-, ⟨cellB, hcB, hoB, hclB⟩, hPc⟩ := hp
  intro T hT X
  obtain ⟨v, vm₁, ⟨U', l2, c2, s2⟩, hW₁, X', ⟨g', mk, t, L, e1, e2, hq, h1, hL, h2, h3⟩, st⟩ := vx_callVW X hx (C := C) (hh := hh) (bytes := bytes) (maxL := maxL) (ret := ret) ho hl hin hse hcode hy hK (by rw [hT]; exact hcB) hoB hclB hg (hsize.trans hml.symm) (argsL := As) (rest := rest) (fun sig h => hn.trans (hlen sig h)) hstack hW (by rw [hb]; exact hdg)
    (fun vm₁ hW₁ => ⟨hf.1, hf.2, hPc (T.setVm vm₁) hT hW₁⟩)
  dsimp only [Pt.U, Pt.locs, Pt.cells, Pt.slots] at X' e1 e2 h1 h2 h3 st
  subst h1; subst h2; subst h3
  exact ⟨v, (T.setVm vm₁).calling g' mk (Value.ref b :: As).toArray, t, U', L, hT, X', hL, e1, e2, hq, st⟩
section
variable {y : MethodName} {bytes cc : ByteArray} {maxL nL mc ms n index : Nat} {ret : Option FieldType} {ws : List Cond} {rm : Room} {Pc : Array Value → State → Prop} {Qc : Array Value → State → Outcome → State → Prop} {XC : String → State → State → Prop} {free : Addr → Prop} {Ts : List Cond} {own C : String} {b : Addr} {As rest : List Value} {g : JFrame}
theorem vx_runVX {hh : List (Nat × Nat × Nat × Nat)} (S : CallFix p m c cc nL s args Ts own) (hM : vx_Met l y ws rm Pc Qc XC mc ms free) (cw : vx_CVW R s args own C index y bytes maxL ret hh ws rm mc ms n) (hp : PreV s H C b Pc As)
    (hg : g.method = m) (hn : As.length = n) (hsize : g.locals.size = nL) (hstack : g.stack = As.reverse ++ .ref b :: rest) (hW : 2 * g.monitorRoom + (rest.map fun v => v.category).sum ≤ 8) (hdg : decode cc g.pc = .ok (.invokevirtual index, 3)) (hf : cells + mc ≤ R.cells ∧ slots + ms ≤ R.slots) :
    vx_Run p l e R s m args below meth c H locs cells slots mc ms g rest (Qc (Value.ref b :: As).toArray) XC free := by
  obtain ⟨⟨hrc, hrs, hfr, hlo, hws, hcw⟩, hcode, hini, hy, hlen, hl, hin, hse⟩ := cw
  have hK : vx_Back l R p e below s args y 3 8 (PreOf R mc ms Pc) (PostOf Qc mc ms free) (vx_Post XC mc ms free) := vx_backW (hh := hh) (bytes := bytes) (maxL := maxL) (ret := ret) hM hp.1 hrc hrs hfr hlo hws hcw (fun a' U hW => word_at hW (Or.inl (by first | rfl | simp [Cond.onTables, Cond.keeps, Cond.steady])) hini)
  obtain ⟨hx, hb, hml, ho, -⟩ := S
  obtain ⟨-, ⟨cellB, hcB, hoB, hclB⟩, hPc⟩ := hp
  intro T hT X
  rcases vx_callVX X hx (C := C) (hh := hh) (bytes := bytes) (maxL := maxL) (ret := ret) ho hl hin hse hcode hy hK (by rw [hT]; exact hcB) hoB hclB hg (hsize.trans hml.symm) (argsL := As) (rest := rest) (fun sig h => hn.trans (hlen sig h)) hstack hW (by rw [hb]; exact hdg)
    (fun vm₁ hW₁ => ⟨hf.1, hf.2, hPc (T.setVm vm₁) hT hW₁⟩) with ⟨v, vm₁, ⟨U', l2, c2, s2⟩, hW₁, X', ⟨g', mk, t, L, e1, e2, hq, h1, hL, h2, h3⟩, st⟩ | ⟨q, vm₁, ⟨U', l2, c2, s2⟩, hW₁, X', ⟨g', mk, t, L, E, ce, e1, e2, hq, hce, hcv, hcl, h1, hL, h2, h3⟩, st⟩
  · dsimp only [Pt.U, Pt.locs, Pt.cells, Pt.slots] at X' e1 e2 h1 h2 h3 st
    subst h1; subst h2; subst h3
    exact Or.inl ⟨v, (T.setVm vm₁).calling g' mk (Value.ref b :: As).toArray, t, U', L, hT, X', hL, e1, e2, hq, st⟩
  · dsimp only [Pt.U, Pt.locs, Pt.cells, Pt.slots] at X' e1 e2 h1 h2 h3 st hcl
    subst h1; subst h2; subst h3
    exact Or.inr ⟨q, (T.setVm vm₁).calling g' mk (Value.ref b :: As).toArray, t, U', L, E, ce, hT, X', hL, e1, e2, hq, hce, hcv, vx_cls hW₁ hcl, st⟩
theorem vx_runSX {hh : List (Nat × Nat × Nat × Nat)} (S : CallFix p m c cc nL s args Ts own) (hM : vx_Met l y ws rm Pc Qc XC mc ms free) (cw : vx_CSW R s args own index y bytes maxL ret hh ws rm mc ms n) (hp : PreS s H Pc As)
    (hg : g.method = m) (hn : As.length = n) (hsize : g.locals.size = nL) (hstack : g.stack = As.reverse ++ rest) (hW : 2 * g.monitorRoom + (rest.map fun v => v.category).sum ≤ 8) (hdg : decode cc g.pc = .ok (.invokestatic index, 3)) (hf : cells + mc ≤ R.cells ∧ slots + ms ≤ R.slots) :
    vx_Run p l e R s m args below meth c H locs cells slots mc ms g rest (Qc As.toArray) XC free := by
  obtain ⟨⟨hrc, hrs, hfr, hlo, hws, hcw⟩, hcode, hini, hy, hlen, hl, hstt⟩ := cw
  have hK : vx_Back l R p e below s args y 3 8 (PreOf R mc ms Pc) (PostOf Qc mc ms free) (vx_Post XC mc ms free) := vx_backW (hh := hh) (bytes := bytes) (maxL := maxL) (ret := ret) hM hp.1 hrc hrs hfr hlo hws hcw (fun a' U hW => word_at hW (Or.inl (by first | rfl | simp [Cond.onTables, Cond.keeps, Cond.steady])) hini)
  obtain ⟨hx, hb, hml, ho, -⟩ := S
  intro T hT X
  rcases vx_callSX X hx (hh := hh) (bytes := bytes) (maxL := maxL) (ret := ret) ho hl hstt hini hcode hy hK hg (hsize.trans hml.symm) (argsL := As) (rest := rest) (fun sig h => hn.trans (hlen sig h)) hstack hW (by rw [hb]; exact hdg)
    (fun vm₁ hW₁ => ⟨hf.1, hf.2, hp.2 (T.setVm vm₁) hT hW₁⟩) with ⟨v, vm₁, ⟨U', l2, c2, s2⟩, hW₁, X', ⟨g', mk, t, L, e1, e2, hq, h1, hL, h2, h3⟩, st⟩ | ⟨q, vm₁, ⟨U', l2, c2, s2⟩, hW₁, X', ⟨g', mk, t, L, E, ce, e1, e2, hq, hce, hcv, hcl, h1, hL, h2, h3⟩, st⟩
  · dsimp only [Pt.U, Pt.locs, Pt.cells, Pt.slots] at X' e1 e2 h1 h2 h3 st
    subst h1; subst h2; subst h3
    exact Or.inl ⟨v, (T.setVm vm₁).calling g' mk As.toArray, t, U', L, hT, X', hL, e1, e2, hq, st⟩
  · dsimp only [Pt.U, Pt.locs, Pt.cells, Pt.slots] at X' e1 e2 h1 h2 h3 st hcl
    subst h1; subst h2; subst h3
    exact Or.inr ⟨q, (T.setVm vm₁).calling g' mk As.toArray, t, U', L, E, ce, hT, X', hL, e1, e2, hq, hce, hcv, vx_cls hW₁ hcl, st⟩
end
end VXH
theorem vx_ofWH {l : Launch} {y : MethodName} {ws ws' : List Cond} {rm : Room} {Pc : Array Value → State → Prop} {Qc : Array Value → State → Outcome → State → Prop} {XC : String → State → State → Prop} {mc ms : Nat} {free : Addr → Prop} {cc : ByteArray} {maxL : Nat} {ret : Option FieldType} {hh : List (Nat × Nat × Nat × Nat)}
    (hy : plainName y.cls = true) (hw : ws = Cond.codeWith y cc maxL ret hh :: ws')
    (body : ∀ p e s m args below meth c s₁, BodyLoose p l y (headSpec ws rm) cc maxL ret e s m args below meth c s₁ → c.maxLocals = maxL → Pc args s →
      W p l e (headSpec ws rm).room s m args below meth c s.heap [] 0 0 (vx_MQ below Qc XC args s mc ms free) (entryFrame m args maxL)) : vx_Met l y ws rm Pc Qc XC mc ms free := by
  refine MetFree.of_bodyS (code := cc) (maxLocals := maxL) (ret := ret) hy ?_ ?_
  · intro args s m h hn
    obtain ⟨m9, meth, c, hn9, h1, h2, h3, h4, -, h5, h6, -⟩ := Cond.codeWith_spec (atoms_spec (ws := ws) h _ (by rw [hw]; exact List.mem_cons_self))
    cases hn.symm.trans hn9
    exact ⟨meth, c, h1, h2, h3, h4, h5, h6⟩
  · intro p e s m args below meth c s₁ B hml hP _
    have hh0 : s₁.heap = s.heap := by rw [B.state]; rfl
    obtain ⟨t, a1, o, b1, b2, b3⟩ := body p e s m args below meth c s₁ B hml hP s₁ hh0 (Stand.of_body B)
    exact ⟨t, o, a1, b1, b2, b3⟩
/-! ===== END ===== -/
end
section
/-! ===== BEGIN printed: names, fields, word lists, decode rows ===== -/
def RX0 : String := "LanternWeirs$Bed"
def TX0 : u_T := fun k => match k with
  | 0 => ("LanternWeirs$Bed", "currents", "LLanternWeirs$Row;", true)
  | 1 => ("LanternWeirs$Bed", "sprays", "LLanternWeirs$Row;", true)
  | 2 => ("LanternWeirs$Bed", "nets", "LLanternWeirs$Row;", true)
  | 3 => ("LanternWeirs$Bed", "weirs", "I", false)
  | _ => ("LanternWeirs$Bed", "netCount", "I", false)
def tyX0 : Nat → FieldType := fun k => match k with
  | 0 => .object "LanternWeirs$Row"
  | 1 => .object "LanternWeirs$Row"
  | 2 => .object "LanternWeirs$Row"
  | 3 => .int
  | _ => .int
abbrev wsX00 : List Cond := u_ws RX0 TX0 5
theorem nmX0 : ∀ a, a < 5 → ∀ b, b < 5 → a ≠ b → (TX0 a).2.1 ≠ (TX0 b).2.1 := by decide +kernel
theorem tyX0_ok : ∀ k, k < 5 → parseFieldDescriptor (TX0 k).2.2.1 = some (tyX0 k) := by decide +kernel
abbrev cX0_init : ByteArray := prog_2_method_1_code
def yX0_init : MethodName := ⟨RX0, "<init>", "()V"⟩
abbrev cX0_addWeir : ByteArray := prog_2_method_2_code
def yX0_addWeir : MethodName := ⟨RX0, "addWeir", "(II)I"⟩
abbrev cX0_addNet : ByteArray := prog_2_method_3_code
def yX0_addNet : MethodName := ⟨RX0, "addNet", "(II)I"⟩
abbrev cX0_hasNet : ByteArray := prog_2_method_4_code
def yX0_hasNet : MethodName := ⟨RX0, "hasNet", "(II)Z"⟩
def RX1 : String := "LanternWeirs$Fleet"
def TX1 : u_T := fun k => match k with
  | 0 => ("LanternWeirs$Fleet", "frames", "LLanternWeirs$Row;", true)
  | 1 => ("LanternWeirs$Fleet", "wishes", "LLanternWeirs$Row;", true)
  | 2 => ("LanternWeirs$Fleet", "lanes", "LLanternWeirs$Row;", true)
  | 3 => ("LanternWeirs$Fleet", "places", "LLanternWeirs$Row;", true)
  | 4 => ("LanternWeirs$Fleet", "waxes", "LLanternWeirs$Row;", true)
  | 5 => ("LanternWeirs$Fleet", "wets", "LLanternWeirs$Row;", true)
  | 6 => ("LanternWeirs$Fleet", "burning", "LLanternWeirs$Row;", true)
  | 7 => ("LanternWeirs$Fleet", "states", "LLanternWeirs$Row;", true)
  | 8 => ("LanternWeirs$Fleet", "ends", "LLanternWeirs$Row;", true)
  | 9 => ("LanternWeirs$Fleet", "crowd", "LLanternWeirs$Row;", true)
  | 10 => ("LanternWeirs$Fleet", "queue", "LLanternWeirs$Row;", true)
  | 11 => ("LanternWeirs$Fleet", "size", "I", false)
  | _ => ("LanternWeirs$Fleet", "minute", "I", false)
def tyX1 : Nat → FieldType := fun k => match k with
  | 0 => .object "LanternWeirs$Row"
  | 1 => .object "LanternWeirs$Row"
  | 2 => .object "LanternWeirs$Row"
  | 3 => .object "LanternWeirs$Row"
  | 4 => .object "LanternWeirs$Row"
  | 5 => .object "LanternWeirs$Row"
  | 6 => .object "LanternWeirs$Row"
  | 7 => .object "LanternWeirs$Row"
  | 8 => .object "LanternWeirs$Row"
  | 9 => .object "LanternWeirs$Row"
  | 10 => .object "LanternWeirs$Row"
  | 11 => .int
  | _ => .int
abbrev wsX10 : List Cond := u_ws RX1 TX1 13
theorem nmX1 : ∀ a, a < 13 → ∀ b, b < 13 → a ≠ b → (TX1 a).2.1 ≠ (TX1 b).2.1 := by decide +kernel
theorem tyX1_ok : ∀ k, k < 13 → parseFieldDescriptor (TX1 k).2.2.1 = some (tyX1 k) := by decide +kernel
abbrev cX1_init : ByteArray := prog_3_method_1_code
def yX1_init : MethodName := ⟨RX1, "<init>", "()V"⟩
abbrev cX1_copy : ByteArray := prog_3_method_2_code
def yX1_copy : MethodName := ⟨RX1, "copy", "(LLanternWeirs$Fleet;)V"⟩
abbrev cX1_add : ByteArray := prog_3_method_3_code
def yX1_add : MethodName := ⟨RX1, "add", "(IIII)I"⟩
abbrev cX1_has : ByteArray := prog_3_method_4_code
def yX1_has : MethodName := ⟨RX1, "has", "(I)Z"⟩
abbrev cX1_isAfloat : ByteArray := prog_3_method_5_code
def yX1_isAfloat : MethodName := ⟨RX1, "isAfloat", "(I)Z"⟩
abbrev cX1_isBurning : ByteArray := prog_3_method_6_code
def yX1_isBurning : MethodName := ⟨RX1, "isBurning", "(I)Z"⟩
abbrev cX1_isSoaked : ByteArray := prog_3_method_7_code
def yX1_isSoaked : MethodName := ⟨RX1, "isSoaked", "(I)Z"⟩
abbrev cX1_canBeLit : ByteArray := prog_3_method_8_code
def yX1_canBeLit : MethodName := ⟨RX1, "canBeLit", "(I)Z"⟩
abbrev cX1_moveTo : ByteArray := prog_3_method_9_code
def yX1_moveTo : MethodName := ⟨RX1, "moveTo", "(III)V"⟩
abbrev cX1_fact : ByteArray := prog_3_method_10_code
def yX1_fact : MethodName := ⟨RX1, "fact", "(II)I"⟩
abbrev cX1_floatingAt : ByteArray := prog_3_method_11_code
def yX1_floatingAt : MethodName := ⟨RX1, "floatingAt", "(II)I"⟩
abbrev cX1_caughtAt : ByteArray := prog_3_method_12_code
def yX1_caughtAt : MethodName := ⟨RX1, "caughtAt", "(II)I"⟩
abbrev cX1_tally : ByteArray := prog_3_method_13_code
def yX1_tally : MethodName := ⟨RX1, "tally", "(I)I"⟩
abbrev cX1_share : ByteArray := prog_3_method_14_code
def yX1_share : MethodName := ⟨RX1, "share", "(II)I"⟩
abbrev cX1_passMinutes : ByteArray := prog_3_method_15_code
def yX1_passMinutes : MethodName := ⟨RX1, "passMinutes", "(ILLanternWeirs$Bed;)V"⟩
abbrev cX1_lineUp : ByteArray := prog_3_method_16_code
def yX1_lineUp : MethodName := ⟨RX1, "lineUp", "()I"⟩
abbrev cX1_drift : ByteArray := prog_3_method_17_code
def yX1_drift : MethodName := ⟨RX1, "drift", "(ILLanternWeirs$Bed;)V"⟩
abbrev cX1_catchesAhead : ByteArray := prog_3_method_18_code
def yX1_catchesAhead : MethodName := ⟨RX1, "catchesAhead", "(I)Z"⟩
abbrev cX1_meetWeir : ByteArray := prog_3_method_19_code
def yX1_meetWeir : MethodName := ⟨RX1, "meetWeir", "(II)V"⟩
abbrev cX1_leave : ByteArray := prog_3_method_20_code
def yX1_leave : MethodName := ⟨RX1, "leave", "(II)V"⟩
abbrev cX1_useWax : ByteArray := prog_3_method_21_code
def yX1_useWax : MethodName := ⟨RX1, "useWax", "()V"⟩
abbrev cX1_crowdBy : ByteArray := prog_3_method_22_code
def yX1_crowdBy : MethodName := ⟨RX1, "crowdBy", "(II)V"⟩
abbrev cX1_cell : ByteArray := prog_3_method_23_code
def yX1_cell : MethodName := ⟨RX1, "cell", "(III)I"⟩
def RX2 : String := "LanternWeirs$Row"
def TX2 : u_T := fun k => match k with
  | _ => ("LanternWeirs$Row", "cells", "[I", true)
def tyX2 : Nat → FieldType := fun k => match k with
  | _ => .array .int
abbrev wsX20 : List Cond := u_ws RX2 TX2 1
theorem nmX2 : ∀ a, a < 1 → ∀ b, b < 1 → a ≠ b → (TX2 a).2.1 ≠ (TX2 b).2.1 := by decide +kernel
theorem tyX2_ok : ∀ k, k < 1 → parseFieldDescriptor (TX2 k).2.2.1 = some (tyX2 k) := by decide +kernel
abbrev cX2_init : ByteArray := prog_4_method_1_code
def yX2_init : MethodName := ⟨RX2, "<init>", "(I)V"⟩
abbrev cX2_get : ByteArray := prog_4_method_2_code
def yX2_get : MethodName := ⟨RX2, "get", "(I)I"⟩
abbrev cX2_put : ByteArray := prog_4_method_3_code
def yX2_put : MethodName := ⟨RX2, "put", "(II)V"⟩
abbrev cX2_copy : ByteArray := prog_4_method_4_code
def yX2_copy : MethodName := ⟨RX2, "copy", "(LLanternWeirs$Row;)V"⟩
def RX3 : String := "LanternWeirs"
def TX3 : u_T := fun k => match k with
  | 0 => ("LanternWeirs", "bed", "LLanternWeirs$Bed;", true)
  | 1 => ("LanternWeirs", "fleet", "LLanternWeirs$Fleet;", true)
  | _ => ("LanternWeirs", "dream", "LLanternWeirs$Fleet;", true)
def tyX3 : Nat → FieldType := fun k => match k with
  | 0 => .object "LanternWeirs$Bed"
  | 1 => .object "LanternWeirs$Fleet"
  | _ => .object "LanternWeirs$Fleet"
abbrev wsX30 : List Cond := u_ws RX3 TX3 3
theorem nmX3 : ∀ a, a < 3 → ∀ b, b < 3 → a ≠ b → (TX3 a).2.1 ≠ (TX3 b).2.1 := by decide +kernel
theorem tyX3_ok : ∀ k, k < 3 → parseFieldDescriptor (TX3 k).2.2.1 = some (tyX3 k) := by decide +kernel
abbrev cX3_init : ByteArray := prog_1_method_1_code
def yX3_init : MethodName := ⟨RX3, "<init>", "()V"⟩
abbrev cX3_setCurrent : ByteArray := prog_1_method_2_code
def yX3_setCurrent : MethodName := ⟨RX3, "setCurrent", "(II)I"⟩
abbrev cX3_weir : ByteArray := prog_1_method_3_code
def yX3_weir : MethodName := ⟨RX3, "weir", "(II)I"⟩
abbrev cX3_net : ByteArray := prog_1_method_4_code
def yX3_net : MethodName := ⟨RX3, "net", "(II)I"⟩
abbrev cX3_river : ByteArray := prog_1_method_5_code
def yX3_river : MethodName := ⟨RX3, "river", "(III)I"⟩
abbrev cX3_launch : ByteArray := prog_1_method_6_code
def yX3_launch : MethodName := ⟨RX3, "launch", "(IIII)I"⟩
abbrev cX3_push : ByteArray := prog_1_method_7_code
def yX3_push : MethodName := ⟨RX3, "push", "(II)I"⟩
abbrev cX3_light : ByteArray := prog_1_method_8_code
def yX3_light : MethodName := ⟨RX3, "light", "(I)I"⟩
abbrev cX3_blow : ByteArray := prog_1_method_9_code
def yX3_blow : MethodName := ⟨RX3, "blow", "(I)I"⟩
abbrev cX3_told : ByteArray := prog_1_method_10_code
def yX3_told : MethodName := ⟨RX3, "told", "(II)I"⟩
abbrev cX3_next : ByteArray := prog_1_method_11_code
def yX3_next : MethodName := ⟨RX3, "next", "(I)I"⟩
abbrev cX3_count : ByteArray := prog_1_method_12_code
def yX3_count : MethodName := ⟨RX3, "count", "(I)I"⟩
abbrev cX3_pass : ByteArray := prog_1_method_13_code
def yX3_pass : MethodName := ⟨RX3, "pass", "(I)I"⟩
abbrev cX3_burns : ByteArray := prog_1_method_14_code
def yX3_burns : MethodName := ⟨RX3, "burns", "(I)I"⟩
abbrev cX3_foresee : ByteArray := prog_1_method_15_code
def yX3_foresee : MethodName := ⟨RX3, "foresee", "(II)I"⟩
abbrev cX3_advise : ByteArray := prog_1_method_16_code
def yX3_advise : MethodName := ⟨RX3, "advise", "(I)I"⟩
abbrev cX3_mean : ByteArray := prog_1_method_17_code
def yX3_mean : MethodName := ⟨RX3, "mean", "()D"⟩
abbrev cX3_digest : ByteArray := prog_1_method_18_code
def yX3_digest : MethodName := ⟨RX3, "digest", "()J"⟩
abbrev cX3_isWithin : ByteArray := prog_1_method_19_code
def yX3_isWithin : MethodName := ⟨RX3, "isWithin", "(III)Z"⟩
abbrev cX3_isLane : ByteArray := prog_1_method_20_code
def yX3_isLane : MethodName := ⟨RX3, "isLane", "(I)Z"⟩
abbrev cX3_isPlace : ByteArray := prog_1_method_21_code
def yX3_isPlace : MethodName := ⟨RX3, "isPlace", "(I)Z"⟩
abbrev cX3_isFrame : ByteArray := prog_1_method_22_code
def yX3_isFrame : MethodName := ⟨RX3, "isFrame", "(I)Z"⟩
abbrev cX3_waxOf : ByteArray := prog_1_method_23_code
def yX3_waxOf : MethodName := ⟨RX3, "waxOf", "(I)I"⟩
abbrev cX3_sprayTakenBy : ByteArray := prog_1_method_24_code
def yX3_sprayTakenBy : MethodName := ⟨RX3, "sprayTakenBy", "(I)I"⟩
abbrev cX3_riverFact : ByteArray := prog_1_method_25_code
def yX3_riverFact : MethodName := ⟨RX3, "riverFact", "(III)I"⟩
abbrev cX3_nextWeir : ByteArray := prog_1_method_26_code
def yX3_nextWeir : MethodName := ⟨RX3, "nextWeir", "(I)I"⟩
abbrev cX3_counted : ByteArray := prog_1_method_27_code
def yX3_counted : MethodName := ⟨RX3, "counted", "(I)I"⟩
abbrev cX3_minutesToNet : ByteArray := prog_1_method_28_code
def yX3_minutesToNet : MethodName := ⟨RX3, "minutesToNet", "(II)I"⟩
def RX4 : String := "LanternWeirsModel$State"
def TX4 : u_T := fun k => match k with
  | 0 => ("LanternWeirsModel$State", "minute", "I", false)
  | 1 => ("LanternWeirsModel$State", "lanterns", "I", false)
  | 2 => ("LanternWeirsModel$State", "frame", "[I", true)
  | 3 => ("LanternWeirsModel$State", "wish", "[I", true)
  | 4 => ("LanternWeirsModel$State", "lane", "[I", true)
  | 5 => ("LanternWeirsModel$State", "place", "[I", true)
  | 6 => ("LanternWeirsModel$State", "wax", "[I", true)
  | 7 => ("LanternWeirsModel$State", "wet", "[I", true)
  | 8 => ("LanternWeirsModel$State", "burns", "[I", true)
  | 9 => ("LanternWeirsModel$State", "state", "[I", true)
  | 10 => ("LanternWeirsModel$State", "ended", "[I", true)
  | 11 => ("LanternWeirsModel$State", "order", "[I", true)
  | _ => ("LanternWeirsModel$State", "this$0", "LLanternWeirsModel;", true)
def tyX4 : Nat → FieldType := fun k => match k with
  | 0 => .int
  | 1 => .int
  | 2 => .array .int
  | 3 => .array .int
  | 4 => .array .int
  | 5 => .array .int
  | 6 => .array .int
  | 7 => .array .int
  | 8 => .array .int
  | 9 => .array .int
  | 10 => .array .int
  | 11 => .array .int
  | _ => .object "LanternWeirsModel"
abbrev wsX40 : List Cond := u_ws RX4 TX4 13
theorem nmX4 : ∀ a, a < 13 → ∀ b, b < 13 → a ≠ b → (TX4 a).2.1 ≠ (TX4 b).2.1 := by decide +kernel
theorem tyX4_ok : ∀ k, k < 13 → parseFieldDescriptor (TX4 k).2.2.1 = some (tyX4 k) := by decide +kernel
abbrev cX4_init : ByteArray := prog_7_method_1_code
def yX4_init : MethodName := ⟨RX4, "<init>", "(LLanternWeirsModel;)V"⟩
abbrev cX4_copy : ByteArray := prog_7_method_2_code
def yX4_copy : MethodName := ⟨RX4, "copy", "([I[I)V"⟩
abbrev cX4_become : ByteArray := prog_7_method_3_code
def yX4_become : MethodName := ⟨RX4, "become", "(LLanternWeirsModel$State;)V"⟩
abbrev cX4_launch : ByteArray := prog_7_method_4_code
def yX4_launch : MethodName := ⟨RX4, "launch", "(IIII)I"⟩
abbrev cX4_isSoaked : ByteArray := prog_7_method_5_code
def yX4_isSoaked : MethodName := ⟨RX4, "isSoaked", "(I)Z"⟩
abbrev cX4_at : ByteArray := prog_7_method_6_code
def yX4_at : MethodName := ⟨RX4, "at", "(III)I"⟩
abbrev cX4_isAhead : ByteArray := prog_7_method_7_code
def yX4_isAhead : MethodName := ⟨RX4, "isAhead", "(II)Z"⟩
abbrev cX4_sort : ByteArray := prog_7_method_8_code
def yX4_sort : MethodName := ⟨RX4, "sort", "()I"⟩
abbrev cX4_isCaught : ByteArray := prog_7_method_9_code
def yX4_isCaught : MethodName := ⟨RX4, "isCaught", "(I)Z"⟩
abbrev cX4_end : ByteArray := prog_7_method_10_code
def yX4_end : MethodName := ⟨RX4, "end", "(II)V"⟩
abbrev cX4_drift : ByteArray := prog_7_method_11_code
def yX4_drift : MethodName := ⟨RX4, "drift", "(I)V"⟩
abbrev cX4_pass : ByteArray := prog_7_method_12_code
def yX4_pass : MethodName := ⟨RX4, "pass", "(I)V"⟩
abbrev cX4_pass_ : ByteArray := prog_7_method_13_code
def yX4_pass_ : MethodName := ⟨RX4, "pass", "()V"⟩
abbrev cX4_counted : ByteArray := prog_7_method_14_code
def yX4_counted : MethodName := ⟨RX4, "counted", "(I)I"⟩
def RX5 : String := "LanternWeirsModel"
def TX5 : u_T := fun k => match k with
  | 0 => ("LanternWeirsModel", "thrown", "I", false)
  | 1 => ("LanternWeirsModel", "current", "[I", true)
  | 2 => ("LanternWeirsModel", "weirs", "I", false)
  | 3 => ("LanternWeirsModel", "spray", "[I", true)
  | 4 => ("LanternWeirsModel", "nets", "I", false)
  | 5 => ("LanternWeirsModel", "net", "[I", true)
  | 6 => ("LanternWeirsModel", "s", "LLanternWeirsModel$State;", true)
  | _ => ("LanternWeirsModel", "ahead", "LLanternWeirsModel$State;", true)
def tyX5 : Nat → FieldType := fun k => match k with
  | 0 => .int
  | 1 => .array .int
  | 2 => .int
  | 3 => .array .int
  | 4 => .int
  | 5 => .array .int
  | 6 => .object "LanternWeirsModel$State"
  | _ => .object "LanternWeirsModel$State"
abbrev wsX50 : List Cond := u_ws RX5 TX5 8
theorem nmX5 : ∀ a, a < 8 → ∀ b, b < 8 → a ≠ b → (TX5 a).2.1 ≠ (TX5 b).2.1 := by decide +kernel
theorem tyX5_ok : ∀ k, k < 8 → parseFieldDescriptor (TX5 k).2.2.1 = some (tyX5 k) := by decide +kernel
abbrev cX5_init : ByteArray := prog_6_method_1_code
def yX5_init : MethodName := ⟨RX5, "<init>", "()V"⟩
abbrev cX5_thrown : ByteArray := prog_6_method_2_code
def yX5_thrown : MethodName := ⟨RX5, "thrown", "()I"⟩
abbrev cX5_no : ByteArray := prog_6_method_3_code
def yX5_no : MethodName := ⟨RX5, "no", "(I)I"⟩
abbrev cX5_isIn : ByteArray := prog_6_method_4_code
def yX5_isIn : MethodName := ⟨RX5, "isIn", "(III)Z"⟩
abbrev cX5_isLane : ByteArray := prog_6_method_5_code
def yX5_isLane : MethodName := ⟨RX5, "isLane", "(I)Z"⟩
abbrev cX5_isPlace : ByteArray := prog_6_method_6_code
def yX5_isPlace : MethodName := ⟨RX5, "isPlace", "(I)Z"⟩
abbrev cX5_isLantern : ByteArray := prog_6_method_7_code
def yX5_isLantern : MethodName := ⟨RX5, "isLantern", "(I)Z"⟩
abbrev cX5_setCurrent : ByteArray := prog_6_method_8_code
def yX5_setCurrent : MethodName := ⟨RX5, "setCurrent", "(II)I"⟩
abbrev cX5_weir : ByteArray := prog_6_method_9_code
def yX5_weir : MethodName := ⟨RX5, "weir", "(II)I"⟩
abbrev cX5_net : ByteArray := prog_6_method_10_code
def yX5_net : MethodName := ⟨RX5, "net", "(II)I"⟩
abbrev cX5_riverTold : ByteArray := prog_6_method_11_code
def yX5_riverTold : MethodName := ⟨RX5, "riverTold", "(III)I"⟩
abbrev cX5_river : ByteArray := prog_6_method_12_code
def yX5_river : MethodName := ⟨RX5, "river", "(III)I"⟩
abbrev cX5_launch : ByteArray := prog_6_method_13_code
def yX5_launch : MethodName := ⟨RX5, "launch", "(IIII)I"⟩
abbrev cX5_push : ByteArray := prog_6_method_14_code
def yX5_push : MethodName := ⟨RX5, "push", "(II)I"⟩
abbrev cX5_light : ByteArray := prog_6_method_15_code
def yX5_light : MethodName := ⟨RX5, "light", "(I)I"⟩
abbrev cX5_blow : ByteArray := prog_6_method_16_code
def yX5_blow : MethodName := ⟨RX5, "blow", "(I)I"⟩
abbrev cX5_lanternTold : ByteArray := prog_6_method_17_code
def yX5_lanternTold : MethodName := ⟨RX5, "lanternTold", "(II)I"⟩
abbrev cX5_told : ByteArray := prog_6_method_18_code
def yX5_told : MethodName := ⟨RX5, "told", "(II)I"⟩
abbrev cX5_nextOf : ByteArray := prog_6_method_19_code
def yX5_nextOf : MethodName := ⟨RX5, "nextOf", "(I)I"⟩
abbrev cX5_next : ByteArray := prog_6_method_20_code
def yX5_next : MethodName := ⟨RX5, "next", "(I)I"⟩
abbrev cX5_count : ByteArray := prog_6_method_21_code
def yX5_count : MethodName := ⟨RX5, "count", "(I)I"⟩
abbrev cX5_pass : ByteArray := prog_6_method_22_code
def yX5_pass : MethodName := ⟨RX5, "pass", "(I)I"⟩
abbrev cX5_burns : ByteArray := prog_6_method_23_code
def yX5_burns : MethodName := ⟨RX5, "burns", "(I)I"⟩
abbrev cX5_foresee : ByteArray := prog_6_method_24_code
def yX5_foresee : MethodName := ⟨RX5, "foresee", "(II)I"⟩
abbrev cX5_comes : ByteArray := prog_6_method_25_code
def yX5_comes : MethodName := ⟨RX5, "comes", "(II)I"⟩
abbrev cX5_advise : ByteArray := prog_6_method_26_code
def yX5_advise : MethodName := ⟨RX5, "advise", "(I)I"⟩
abbrev cX5_mean : ByteArray := prog_6_method_27_code
def yX5_mean : MethodName := ⟨RX5, "mean", "()D"⟩
abbrev cX5_digest : ByteArray := prog_6_method_28_code
def yX5_digest : MethodName := ⟨RX5, "digest", "()J"⟩
def RJ9 : String := "java/lang/Math"
def TJ9 : u_T := fun k => match k with
  | _ => ("", "", "", false)
def tyJ9 : Nat → FieldType := fun k => match k with
  | _ => .int
abbrev wsJ90 : List Cond := u_ws RJ9 TJ9 0
theorem nmJ9 : ∀ a, a < 0 → ∀ b, b < 0 → a ≠ b → (TJ9 a).2.1 ≠ (TJ9 b).2.1 := by decide +kernel
theorem tyJ9_ok : ∀ k, k < 0 → parseFieldDescriptor (TJ9 k).2.2.1 = some (tyJ9 k) := by decide +kernel
abbrev cJ9_max_7cf53 : ByteArray := prog_12_method_65_code
def yJ9_max_7cf53 : MethodName := ⟨RJ9, "max", "(II)I"⟩
def RJ0 : String := "java/lang/String"
def TJ0 : u_T := fun k => match k with
  | _ => ("", "", "", false)
def tyJ0 : Nat → FieldType := fun k => match k with
  | _ => .int
abbrev wsJ00 : List Cond := u_ws RJ0 TJ0 0
theorem nmJ0 : ∀ a, a < 0 → ∀ b, b < 0 → a ≠ b → (TJ0 a).2.1 ≠ (TJ0 b).2.1 := by decide +kernel
theorem tyJ0_ok : ∀ k, k < 0 → parseFieldDescriptor (TJ0 k).2.2.1 = some (tyJ0 k) := by decide +kernel
def RJ10 : String := "java/lang/System"
def TJ10 : u_T := fun k => match k with
  | _ => ("", "", "", false)
def tyJ10 : Nat → FieldType := fun k => match k with
  | _ => .int
abbrev wsJ100 : List Cond := u_ws RJ10 TJ10 0
theorem nmJ10 : ∀ a, a < 0 → ∀ b, b < 0 → a ≠ b → (TJ10 a).2.1 ≠ (TJ10 b).2.1 := by decide +kernel
theorem tyJ10_ok : ∀ k, k < 0 → parseFieldDescriptor (TJ10 k).2.2.1 = some (tyJ10 k) := by decide +kernel
def RL : String := "LanternWeirsLaw"
abbrev cL_setCurrent : ByteArray := method_3_code
def yL_setCurrent : MethodName := ⟨RL, "setCurrent", "(LLanternWeirs;II[J)I"⟩
abbrev cL_weir : ByteArray := method_4_code
def yL_weir : MethodName := ⟨RL, "weir", "(LLanternWeirs;II[J)I"⟩
abbrev cL_net : ByteArray := method_5_code
def yL_net : MethodName := ⟨RL, "net", "(LLanternWeirs;II[J)I"⟩
abbrev cL_river : ByteArray := method_6_code
def yL_river : MethodName := ⟨RL, "river", "(LLanternWeirs;III[J)I"⟩
abbrev cL_launch : ByteArray := method_7_code
def yL_launch : MethodName := ⟨RL, "launch", "(LLanternWeirs;IIII[J)I"⟩
abbrev cL_push : ByteArray := method_8_code
def yL_push : MethodName := ⟨RL, "push", "(LLanternWeirs;II[J)I"⟩
abbrev cL_light : ByteArray := method_9_code
def yL_light : MethodName := ⟨RL, "light", "(LLanternWeirs;I[J)I"⟩
abbrev cL_blow : ByteArray := method_10_code
def yL_blow : MethodName := ⟨RL, "blow", "(LLanternWeirs;I[J)I"⟩
abbrev cL_told : ByteArray := method_11_code
def yL_told : MethodName := ⟨RL, "told", "(LLanternWeirs;II[J)I"⟩
abbrev cL_next : ByteArray := method_12_code
def yL_next : MethodName := ⟨RL, "next", "(LLanternWeirs;I[J)I"⟩
abbrev cL_count : ByteArray := method_13_code
def yL_count : MethodName := ⟨RL, "count", "(LLanternWeirs;I[J)I"⟩
abbrev cL_pass : ByteArray := method_14_code
def yL_pass : MethodName := ⟨RL, "pass", "(LLanternWeirs;I[J)I"⟩
abbrev cL_burns : ByteArray := method_15_code
def yL_burns : MethodName := ⟨RL, "burns", "(LLanternWeirs;I[J)I"⟩
abbrev cL_foresee : ByteArray := method_16_code
def yL_foresee : MethodName := ⟨RL, "foresee", "(LLanternWeirs;II[J)I"⟩
abbrev cL_advise : ByteArray := method_17_code
def yL_advise : MethodName := ⟨RL, "advise", "(LLanternWeirs;I[J)I"⟩
abbrev cL_law : ByteArray := code
def yL_law : MethodName := ⟨RL, "law", "([I)Z"⟩
def wsX2_init : List Cond := .code yX2_init cX2_init 2 none :: ([.methodLink RX2 1 objectInit, .instanceMethod objectInit, .code objectInit ⟨#[0xb1]⟩ 1 none, .arrayClass .int, .fieldLink RX2 7 "LanternWeirs$Row" "cells" "[I"] ++ wsX20)
def wsX2_put : List Cond := .code yX2_put cX2_put 3 none :: ([.fieldLink RX2 7 "LanternWeirs$Row" "cells" "[I"] ++ wsX20)
def wsX0_init : List Cond := .code yX0_init cX0_init 1 none :: ([.methodLink RX0 3 objectInit, .instanceMethod objectInit, .code objectInit ⟨#[0xb1]⟩ 1 none, .classLink RX0 9 RX2, .instantiable RX2 1, .initialized RX2, .fieldLink RX0 14 "LanternWeirs$Bed" "currents" "LLanternWeirs$Row;", .fieldLink RX0 20 "LanternWeirs$Bed" "sprays" "LLanternWeirs$Row;", .fieldLink RX0 23 "LanternWeirs$Bed" "nets" "LLanternWeirs$Row;", .methodLink RX0 11 yX2_init, .instanceMethod yX2_init, .code yX2_init cX2_init 2 none, .methodLink RX2 1 objectInit, .arrayClass .int, .fieldLink RX2 7 "LanternWeirs$Row" "cells" "[I", .methodLink RX0 26 yX2_put, .instanceMethod yX2_put, .selects RX2 yX2_put yX2_put, .code yX2_put cX2_put 3 none] ++ wsX20 ++ wsX00)
def wsX0_addWeir : List Cond := .code yX0_addWeir cX0_addWeir 3 (some .int) :: ([.fieldLink RX0 20 "LanternWeirs$Bed" "sprays" "LLanternWeirs$Row;", .fieldLink RX0 30 "LanternWeirs$Bed" "weirs" "I", .methodLink RX0 26 yX2_put, .instanceMethod yX2_put, .selects RX2 yX2_put yX2_put, .initialized RX2, .code yX2_put cX2_put 3 none, .fieldLink RX2 7 "LanternWeirs$Row" "cells" "[I"] ++ wsX00 ++ wsX20)
def wsX0_addNet : List Cond := .code yX0_addNet cX0_addNet 3 (some .int) :: ([.fieldLink RX0 23 "LanternWeirs$Bed" "nets" "LLanternWeirs$Row;", .fieldLink RX0 34 "LanternWeirs$Bed" "netCount" "I", .methodLink RX0 26 yX2_put, .instanceMethod yX2_put, .selects RX2 yX2_put yX2_put, .initialized RX2, .code yX2_put cX2_put 3 none, .fieldLink RX2 7 "LanternWeirs$Row" "cells" "[I"] ++ wsX00 ++ wsX20)
def wsX2_get : List Cond := .code yX2_get cX2_get 2 (some .int) :: ([.fieldLink RX2 7 "LanternWeirs$Row" "cells" "[I"] ++ wsX20)
def wsX0_hasNet : List Cond := .code yX0_hasNet cX0_hasNet 3 (some .boolean) :: ([.fieldLink RX0 23 "LanternWeirs$Bed" "nets" "LLanternWeirs$Row;", .methodLink RX0 37 yX2_get, .instanceMethod yX2_get, .selects RX2 yX2_get yX2_get, .initialized RX2, .code yX2_get cX2_get 2 (some .int), .fieldLink RX2 7 "LanternWeirs$Row" "cells" "[I"] ++ wsX00 ++ wsX20)
def wsX1_init : List Cond := .code yX1_init cX1_init 1 none :: ([.methodLink RX1 3 objectInit, .instanceMethod objectInit, .code objectInit ⟨#[0xb1]⟩ 1 none, .classLink RX1 9 RX2, .instantiable RX2 1, .initialized RX2, .fieldLink RX1 16 "LanternWeirs$Fleet" "frames" "LLanternWeirs$Row;", .fieldLink RX1 20 "LanternWeirs$Fleet" "wishes" "LLanternWeirs$Row;", .fieldLink RX1 23 "LanternWeirs$Fleet" "lanes" "LLanternWeirs$Row;", .fieldLink RX1 26 "LanternWeirs$Fleet" "places" "LLanternWeirs$Row;", .fieldLink RX1 29 "LanternWeirs$Fleet" "waxes" "LLanternWeirs$Row;", .fieldLink RX1 32 "LanternWeirs$Fleet" "wets" "LLanternWeirs$Row;", .fieldLink RX1 35 "LanternWeirs$Fleet" "burning" "LLanternWeirs$Row;", .fieldLink RX1 38 "LanternWeirs$Fleet" "states" "LLanternWeirs$Row;", .fieldLink RX1 41 "LanternWeirs$Fleet" "ends" "LLanternWeirs$Row;", .fieldLink RX1 44 "LanternWeirs$Fleet" "crowd" "LLanternWeirs$Row;", .fieldLink RX1 47 "LanternWeirs$Fleet" "queue" "LLanternWeirs$Row;", .methodLink RX1 13 yX2_init, .instanceMethod yX2_init, .code yX2_init cX2_init 2 none, .methodLink RX2 1 objectInit, .arrayClass .int, .fieldLink RX2 7 "LanternWeirs$Row" "cells" "[I"] ++ wsX20 ++ wsX10)
def wsX2_copy : List Cond := .code yX2_copy cX2_copy 3 none :: ([.fieldLink RX2 7 "LanternWeirs$Row" "cells" "[I", .methodLink RX2 13 yX2_get, .instanceMethod yX2_get, .selects RX2 yX2_get yX2_get, .initialized RX2, .code yX2_get cX2_get 2 (some .int)] ++ wsX20)
def wsX1_copy : List Cond := .code yX1_copy cX1_copy 2 none :: ([.fieldLink RX1 16 "LanternWeirs$Fleet" "frames" "LLanternWeirs$Row;", .fieldLink RX1 20 "LanternWeirs$Fleet" "wishes" "LLanternWeirs$Row;", .fieldLink RX1 23 "LanternWeirs$Fleet" "lanes" "LLanternWeirs$Row;", .fieldLink RX1 26 "LanternWeirs$Fleet" "places" "LLanternWeirs$Row;", .fieldLink RX1 29 "LanternWeirs$Fleet" "waxes" "LLanternWeirs$Row;", .fieldLink RX1 32 "LanternWeirs$Fleet" "wets" "LLanternWeirs$Row;", .fieldLink RX1 35 "LanternWeirs$Fleet" "burning" "LLanternWeirs$Row;", .fieldLink RX1 38 "LanternWeirs$Fleet" "states" "LLanternWeirs$Row;", .fieldLink RX1 41 "LanternWeirs$Fleet" "ends" "LLanternWeirs$Row;", .fieldLink RX1 44 "LanternWeirs$Fleet" "crowd" "LLanternWeirs$Row;", .fieldLink RX1 54 "LanternWeirs$Fleet" "size" "I", .fieldLink RX1 58 "LanternWeirs$Fleet" "minute" "I", .methodLink RX1 50 yX2_copy, .instanceMethod yX2_copy, .selects RX2 yX2_copy yX2_copy, .initialized RX2, .code yX2_copy cX2_copy 3 none, .fieldLink RX2 7 "LanternWeirs$Row" "cells" "[I", .methodLink RX2 13 yX2_get, .instanceMethod yX2_get, .selects RX2 yX2_get yX2_get, .code yX2_get cX2_get 2 (some .int)] ++ wsX10 ++ wsX20)
def wsX3_waxOf : List Cond := .code yX3_waxOf cX3_waxOf 1 (some .int) :: ([])
def wsX1_cell : List Cond := .code yX1_cell cX1_cell 3 (some .int) :: ([])
def wsX1_crowdBy : List Cond := .code yX1_crowdBy cX1_crowdBy 4 none :: ([.fieldLink RX1 23 "LanternWeirs$Fleet" "lanes" "LLanternWeirs$Row;", .fieldLink RX1 26 "LanternWeirs$Fleet" "places" "LLanternWeirs$Row;", .fieldLink RX1 16 "LanternWeirs$Fleet" "frames" "LLanternWeirs$Row;", .fieldLink RX1 44 "LanternWeirs$Fleet" "crowd" "LLanternWeirs$Row;", .methodLink RX1 80 yX2_get, .instanceMethod yX2_get, .selects RX2 yX2_get yX2_get, .initialized RX2, .code yX2_get cX2_get 2 (some .int), .fieldLink RX2 7 "LanternWeirs$Row" "cells" "[I", .methodLink RX1 92 yX1_cell, .static yX1_cell, .initialized RX1, .code yX1_cell cX1_cell 3 (some .int), .methodLink RX1 61 yX2_put, .instanceMethod yX2_put, .selects RX2 yX2_put yX2_put, .code yX2_put cX2_put 3 none] ++ wsX10 ++ wsX20)
def wsX1_add_r1 : List Cond := [Cond.fieldLink RX1 54 "LanternWeirs$Fleet" "size" "I", Cond.fieldLink RX1 16 "LanternWeirs$Fleet" "frames" "LLanternWeirs$Row;", Cond.fieldLink RX1 20 "LanternWeirs$Fleet" "wishes" "LLanternWeirs$Row;", Cond.fieldLink RX1 23 "LanternWeirs$Fleet" "lanes" "LLanternWeirs$Row;", Cond.fieldLink RX1 26 "LanternWeirs$Fleet" "places" "LLanternWeirs$Row;", Cond.fieldLink RX1 29 "LanternWeirs$Fleet" "waxes" "LLanternWeirs$Row;", Cond.fieldLink RX1 32 "LanternWeirs$Fleet" "wets" "LLanternWeirs$Row;", Cond.fieldLink RX1 35 "LanternWeirs$Fleet" "burning" "LLanternWeirs$Row;", Cond.fieldLink RX1 38 "LanternWeirs$Fleet" "states" "LLanternWeirs$Row;", Cond.fieldLink RX1 41 "LanternWeirs$Fleet" "ends" "LLanternWeirs$Row;", Cond.methodLink RX1 61 yX2_put, Cond.instanceMethod yX2_put, Cond.selects RX2 yX2_put yX2_put, Cond.initialized RX2, Cond.code yX2_put cX2_put 3 none, Cond.fieldLink RX2 7 "LanternWeirs$Row" "cells" "[I", Cond.static yX3_waxOf, Cond.initialized RX3, Cond.code yX3_waxOf cX3_waxOf 1 (some .int), Cond.methodLink RX1 69 yX1_crowdBy, Cond.instanceMethod yX1_crowdBy, Cond.selects RX1 yX1_crowdBy yX1_crowdBy, Cond.initialized RX1, Cond.code yX1_crowdBy cX1_crowdBy 4 none]
def wsX1_add_r2 : List Cond := [Cond.fieldLink RX1 44 "LanternWeirs$Fleet" "crowd" "LLanternWeirs$Row;", Cond.methodLink RX1 80 yX2_get, Cond.instanceMethod yX2_get, Cond.selects RX2 yX2_get yX2_get, Cond.code yX2_get cX2_get 2 (some .int), Cond.methodLink RX1 92 yX1_cell, Cond.static yX1_cell, Cond.code yX1_cell cX1_cell 3 (some .int)]
def wsX1_add : List Cond := .code yX1_add cX1_add 6 (some .int) :: ((wsX1_add_r1 ++ wsX1_add_r2) ++ wsX10 ++ wsX20)
def wsX3_isWithin : List Cond := .code yX3_isWithin cX3_isWithin 3 (some .boolean) :: ([])
def wsX1_has : List Cond := .code yX1_has cX1_has 2 (some .boolean) :: ([.fieldLink RX1 54 "LanternWeirs$Fleet" "size" "I", .static yX3_isWithin, .initialized RX3, .code yX3_isWithin cX3_isWithin 3 (some .boolean)] ++ wsX10)
def wsX1_isAfloat : List Cond := .code yX1_isAfloat cX1_isAfloat 2 (some .boolean) :: ([.fieldLink RX1 38 "LanternWeirs$Fleet" "states" "LLanternWeirs$Row;", .methodLink RX1 76 yX1_has, .instanceMethod yX1_has, .selects RX1 yX1_has yX1_has, .initialized RX1, .code yX1_has cX1_has 2 (some .boolean), .fieldLink RX1 54 "LanternWeirs$Fleet" "size" "I", .static yX3_isWithin, .initialized RX3, .code yX3_isWithin cX3_isWithin 3 (some .boolean), .methodLink RX1 80 yX2_get, .instanceMethod yX2_get, .selects RX2 yX2_get yX2_get, .initialized RX2, .code yX2_get cX2_get 2 (some .int), .fieldLink RX2 7 "LanternWeirs$Row" "cells" "[I"] ++ wsX10 ++ wsX20)
def wsX1_isBurning : List Cond := .code yX1_isBurning cX1_isBurning 2 (some .boolean) :: ([.fieldLink RX1 35 "LanternWeirs$Fleet" "burning" "LLanternWeirs$Row;", .methodLink RX1 76 yX1_has, .instanceMethod yX1_has, .selects RX1 yX1_has yX1_has, .initialized RX1, .code yX1_has cX1_has 2 (some .boolean), .fieldLink RX1 54 "LanternWeirs$Fleet" "size" "I", .static yX3_isWithin, .initialized RX3, .code yX3_isWithin cX3_isWithin 3 (some .boolean), .methodLink RX1 80 yX2_get, .instanceMethod yX2_get, .selects RX2 yX2_get yX2_get, .initialized RX2, .code yX2_get cX2_get 2 (some .int), .fieldLink RX2 7 "LanternWeirs$Row" "cells" "[I"] ++ wsX10 ++ wsX20)
def wsX3_sprayTakenBy : List Cond := .code yX3_sprayTakenBy cX3_sprayTakenBy 1 (some .int) :: ([])
def wsX1_isSoaked : List Cond := .code yX1_isSoaked cX1_isSoaked 2 (some .boolean) :: ([.fieldLink RX1 32 "LanternWeirs$Fleet" "wets" "LLanternWeirs$Row;", .fieldLink RX1 16 "LanternWeirs$Fleet" "frames" "LLanternWeirs$Row;", .methodLink RX1 80 yX2_get, .instanceMethod yX2_get, .selects RX2 yX2_get yX2_get, .initialized RX2, .code yX2_get cX2_get 2 (some .int), .fieldLink RX2 7 "LanternWeirs$Row" "cells" "[I", .static yX3_sprayTakenBy, .initialized RX3, .code yX3_sprayTakenBy cX3_sprayTakenBy 1 (some .int)] ++ wsX10 ++ wsX20)
def wsX1_canBeLit_r1 : List Cond := [Cond.fieldLink RX1 29 "LanternWeirs$Fleet" "waxes" "LLanternWeirs$Row;", Cond.methodLink RX1 86 yX1_isBurning, Cond.instanceMethod yX1_isBurning, Cond.selects RX1 yX1_isBurning yX1_isBurning, Cond.initialized RX1, Cond.code yX1_isBurning cX1_isBurning 2 (some .boolean), Cond.fieldLink RX1 35 "LanternWeirs$Fleet" "burning" "LLanternWeirs$Row;", Cond.methodLink RX1 76 yX1_has, Cond.instanceMethod yX1_has, Cond.selects RX1 yX1_has yX1_has, Cond.code yX1_has cX1_has 2 (some .boolean), Cond.fieldLink RX1 54 "LanternWeirs$Fleet" "size" "I", Cond.static yX3_isWithin, Cond.initialized RX3, Cond.code yX3_isWithin cX3_isWithin 3 (some .boolean), Cond.methodLink RX1 80 yX2_get, Cond.instanceMethod yX2_get, Cond.selects RX2 yX2_get yX2_get, Cond.initialized RX2, Cond.code yX2_get cX2_get 2 (some .int), Cond.fieldLink RX2 7 "LanternWeirs$Row" "cells" "[I", Cond.methodLink RX1 89 yX1_isSoaked, Cond.instanceMethod yX1_isSoaked, Cond.selects RX1 yX1_isSoaked yX1_isSoaked]
def wsX1_canBeLit_r2 : List Cond := [Cond.code yX1_isSoaked cX1_isSoaked 2 (some .boolean), Cond.fieldLink RX1 32 "LanternWeirs$Fleet" "wets" "LLanternWeirs$Row;", Cond.fieldLink RX1 16 "LanternWeirs$Fleet" "frames" "LLanternWeirs$Row;", Cond.static yX3_sprayTakenBy, Cond.code yX3_sprayTakenBy cX3_sprayTakenBy 1 (some .int)]
def wsX1_canBeLit : List Cond := .code yX1_canBeLit cX1_canBeLit 2 (some .boolean) :: ((wsX1_canBeLit_r1 ++ wsX1_canBeLit_r2) ++ wsX10 ++ wsX20)
def wsX1_moveTo : List Cond := .code yX1_moveTo cX1_moveTo 4 none :: ([.fieldLink RX1 23 "LanternWeirs$Fleet" "lanes" "LLanternWeirs$Row;", .fieldLink RX1 26 "LanternWeirs$Fleet" "places" "LLanternWeirs$Row;", .methodLink RX1 69 yX1_crowdBy, .instanceMethod yX1_crowdBy, .selects RX1 yX1_crowdBy yX1_crowdBy, .initialized RX1, .code yX1_crowdBy cX1_crowdBy 4 none, .fieldLink RX1 16 "LanternWeirs$Fleet" "frames" "LLanternWeirs$Row;", .fieldLink RX1 44 "LanternWeirs$Fleet" "crowd" "LLanternWeirs$Row;", .methodLink RX1 80 yX2_get, .instanceMethod yX2_get, .selects RX2 yX2_get yX2_get, .initialized RX2, .code yX2_get cX2_get 2 (some .int), .fieldLink RX2 7 "LanternWeirs$Row" "cells" "[I", .methodLink RX1 92 yX1_cell, .static yX1_cell, .code yX1_cell cX1_cell 3 (some .int), .methodLink RX1 61 yX2_put, .instanceMethod yX2_put, .selects RX2 yX2_put yX2_put, .code yX2_put cX2_put 3 none] ++ wsX10 ++ wsX20)
def wsX1_fact : List Cond := .code yX1_fact cX1_fact 3 (some .int) :: ([.fieldLink RX1 16 "LanternWeirs$Fleet" "frames" "LLanternWeirs$Row;", .fieldLink RX1 20 "LanternWeirs$Fleet" "wishes" "LLanternWeirs$Row;", .fieldLink RX1 23 "LanternWeirs$Fleet" "lanes" "LLanternWeirs$Row;", .fieldLink RX1 26 "LanternWeirs$Fleet" "places" "LLanternWeirs$Row;", .fieldLink RX1 29 "LanternWeirs$Fleet" "waxes" "LLanternWeirs$Row;", .fieldLink RX1 32 "LanternWeirs$Fleet" "wets" "LLanternWeirs$Row;", .fieldLink RX1 35 "LanternWeirs$Fleet" "burning" "LLanternWeirs$Row;", .fieldLink RX1 38 "LanternWeirs$Fleet" "states" "LLanternWeirs$Row;", .fieldLink RX1 41 "LanternWeirs$Fleet" "ends" "LLanternWeirs$Row;", .methodLink RX1 80 yX2_get, .instanceMethod yX2_get, .selects RX2 yX2_get yX2_get, .initialized RX2, .code yX2_get cX2_get 2 (some .int), .fieldLink RX2 7 "LanternWeirs$Row" "cells" "[I"] ++ wsX10 ++ wsX20)
def wsX1_floatingAt : List Cond := .code yX1_floatingAt cX1_floatingAt 5 (some .int) :: ([.fieldLink RX1 44 "LanternWeirs$Fleet" "crowd" "LLanternWeirs$Row;", .methodLink RX1 92 yX1_cell, .static yX1_cell, .initialized RX1, .code yX1_cell cX1_cell 3 (some .int), .methodLink RX1 80 yX2_get, .instanceMethod yX2_get, .selects RX2 yX2_get yX2_get, .initialized RX2, .code yX2_get cX2_get 2 (some .int), .fieldLink RX2 7 "LanternWeirs$Row" "cells" "[I"] ++ wsX10 ++ wsX20)
def wsX1_caughtAt : List Cond := .code yX1_caughtAt cX1_caughtAt 5 (some .int) :: ([.fieldLink RX1 54 "LanternWeirs$Fleet" "size" "I", .fieldLink RX1 38 "LanternWeirs$Fleet" "states" "LLanternWeirs$Row;", .fieldLink RX1 23 "LanternWeirs$Fleet" "lanes" "LLanternWeirs$Row;", .fieldLink RX1 26 "LanternWeirs$Fleet" "places" "LLanternWeirs$Row;", .methodLink RX1 80 yX2_get, .instanceMethod yX2_get, .selects RX2 yX2_get yX2_get, .initialized RX2, .code yX2_get cX2_get 2 (some .int), .fieldLink RX2 7 "LanternWeirs$Row" "cells" "[I"] ++ wsX10 ++ wsX20)
def wsX1_share : List Cond := .code yX1_share cX1_share 5 (some .int) :: ([.fieldLink RX1 38 "LanternWeirs$Fleet" "states" "LLanternWeirs$Row;", .fieldLink RX1 35 "LanternWeirs$Fleet" "burning" "LLanternWeirs$Row;", .fieldLink RX1 20 "LanternWeirs$Fleet" "wishes" "LLanternWeirs$Row;", .methodLink RX1 80 yX2_get, .instanceMethod yX2_get, .selects RX2 yX2_get yX2_get, .initialized RX2, .code yX2_get cX2_get 2 (some .int), .fieldLink RX2 7 "LanternWeirs$Row" "cells" "[I"] ++ wsX10 ++ wsX20)
def wsX1_tally : List Cond := .code yX1_tally cX1_tally 4 (some .int) :: ([.fieldLink RX1 54 "LanternWeirs$Fleet" "size" "I", .methodLink RX1 96 yX1_share, .instanceMethod yX1_share, .selects RX1 yX1_share yX1_share, .initialized RX1, .code yX1_share cX1_share 5 (some .int), .fieldLink RX1 38 "LanternWeirs$Fleet" "states" "LLanternWeirs$Row;", .fieldLink RX1 35 "LanternWeirs$Fleet" "burning" "LLanternWeirs$Row;", .fieldLink RX1 20 "LanternWeirs$Fleet" "wishes" "LLanternWeirs$Row;", .methodLink RX1 80 yX2_get, .instanceMethod yX2_get, .selects RX2 yX2_get yX2_get, .initialized RX2, .code yX2_get cX2_get 2 (some .int), .fieldLink RX2 7 "LanternWeirs$Row" "cells" "[I"] ++ wsX10 ++ wsX20)
def wsX1_lineUp_r1 : List Cond := [Cond.fieldLink RX1 54 "LanternWeirs$Fleet" "size" "I", Cond.fieldLink RX1 26 "LanternWeirs$Fleet" "places" "LLanternWeirs$Row;", Cond.fieldLink RX1 23 "LanternWeirs$Fleet" "lanes" "LLanternWeirs$Row;", Cond.fieldLink RX1 47 "LanternWeirs$Fleet" "queue" "LLanternWeirs$Row;", Cond.methodLink RX1 111 yX1_isAfloat, Cond.instanceMethod yX1_isAfloat, Cond.selects RX1 yX1_isAfloat yX1_isAfloat, Cond.initialized RX1, Cond.code yX1_isAfloat cX1_isAfloat 2 (some .boolean), Cond.fieldLink RX1 38 "LanternWeirs$Fleet" "states" "LLanternWeirs$Row;", Cond.methodLink RX1 76 yX1_has, Cond.instanceMethod yX1_has, Cond.selects RX1 yX1_has yX1_has, Cond.code yX1_has cX1_has 2 (some .boolean), Cond.static yX3_isWithin, Cond.initialized RX3, Cond.code yX3_isWithin cX3_isWithin 3 (some .boolean), Cond.methodLink RX1 80 yX2_get, Cond.instanceMethod yX2_get, Cond.selects RX2 yX2_get yX2_get, Cond.initialized RX2, Cond.code yX2_get cX2_get 2 (some .int), Cond.fieldLink RX2 7 "LanternWeirs$Row" "cells" "[I", Cond.methodLink RX1 61 yX2_put]
def wsX1_lineUp_r2 : List Cond := [Cond.instanceMethod yX2_put, Cond.selects RX2 yX2_put yX2_put, Cond.code yX2_put cX2_put 3 none]
def wsX1_lineUp : List Cond := .code yX1_lineUp cX1_lineUp 6 (some .int) :: ((wsX1_lineUp_r1 ++ wsX1_lineUp_r2) ++ wsX10 ++ wsX20)
def wsX1_catchesAhead : List Cond := .code yX1_catchesAhead cX1_catchesAhead 4 (some .boolean) :: ([.fieldLink RX1 26 "LanternWeirs$Fleet" "places" "LLanternWeirs$Row;", .fieldLink RX1 16 "LanternWeirs$Fleet" "frames" "LLanternWeirs$Row;", .fieldLink RX1 44 "LanternWeirs$Fleet" "crowd" "LLanternWeirs$Row;", .fieldLink RX1 23 "LanternWeirs$Fleet" "lanes" "LLanternWeirs$Row;", .methodLink RX1 80 yX2_get, .instanceMethod yX2_get, .selects RX2 yX2_get yX2_get, .initialized RX2, .code yX2_get cX2_get 2 (some .int), .fieldLink RX2 7 "LanternWeirs$Row" "cells" "[I", .methodLink RX1 92 yX1_cell, .static yX1_cell, .initialized RX1, .code yX1_cell cX1_cell 3 (some .int)] ++ wsX10 ++ wsX20)
def wsX1_leave_r1 : List Cond := [Cond.fieldLink RX1 38 "LanternWeirs$Fleet" "states" "LLanternWeirs$Row;", Cond.fieldLink RX1 41 "LanternWeirs$Fleet" "ends" "LLanternWeirs$Row;", Cond.fieldLink RX1 58 "LanternWeirs$Fleet" "minute" "I", Cond.methodLink RX1 69 yX1_crowdBy, Cond.instanceMethod yX1_crowdBy, Cond.selects RX1 yX1_crowdBy yX1_crowdBy, Cond.initialized RX1, Cond.code yX1_crowdBy cX1_crowdBy 4 none, Cond.fieldLink RX1 23 "LanternWeirs$Fleet" "lanes" "LLanternWeirs$Row;", Cond.fieldLink RX1 26 "LanternWeirs$Fleet" "places" "LLanternWeirs$Row;", Cond.fieldLink RX1 16 "LanternWeirs$Fleet" "frames" "LLanternWeirs$Row;", Cond.fieldLink RX1 44 "LanternWeirs$Fleet" "crowd" "LLanternWeirs$Row;", Cond.methodLink RX1 80 yX2_get, Cond.instanceMethod yX2_get, Cond.selects RX2 yX2_get yX2_get, Cond.initialized RX2, Cond.code yX2_get cX2_get 2 (some .int), Cond.fieldLink RX2 7 "LanternWeirs$Row" "cells" "[I", Cond.methodLink RX1 92 yX1_cell, Cond.static yX1_cell, Cond.code yX1_cell cX1_cell 3 (some .int), Cond.methodLink RX1 61 yX2_put, Cond.instanceMethod yX2_put, Cond.selects RX2 yX2_put yX2_put]
def wsX1_leave_r2 : List Cond := [Cond.code yX2_put cX2_put 3 none]
def wsX1_leave : List Cond := .code yX1_leave cX1_leave 3 none :: ((wsX1_leave_r1 ++ wsX1_leave_r2) ++ wsX10 ++ wsX20)
def wsX1_meetWeir_r1 : List Cond := [Cond.fieldLink RX1 44 "LanternWeirs$Fleet" "crowd" "LLanternWeirs$Row;", Cond.fieldLink RX1 23 "LanternWeirs$Fleet" "lanes" "LLanternWeirs$Row;", Cond.fieldLink RX1 26 "LanternWeirs$Fleet" "places" "LLanternWeirs$Row;", Cond.fieldLink RX1 32 "LanternWeirs$Fleet" "wets" "LLanternWeirs$Row;", Cond.fieldLink RX1 35 "LanternWeirs$Fleet" "burning" "LLanternWeirs$Row;", Cond.methodLink RX1 80 yX2_get, Cond.instanceMethod yX2_get, Cond.selects RX2 yX2_get yX2_get, Cond.initialized RX2, Cond.code yX2_get cX2_get 2 (some .int), Cond.fieldLink RX2 7 "LanternWeirs$Row" "cells" "[I", Cond.methodLink RX1 92 yX1_cell, Cond.static yX1_cell, Cond.initialized RX1, Cond.code yX1_cell cX1_cell 3 (some .int), Cond.methodLink RX1 61 yX2_put, Cond.instanceMethod yX2_put, Cond.selects RX2 yX2_put yX2_put, Cond.code yX2_put cX2_put 3 none, Cond.methodLink RX1 89 yX1_isSoaked, Cond.instanceMethod yX1_isSoaked, Cond.selects RX1 yX1_isSoaked yX1_isSoaked, Cond.code yX1_isSoaked cX1_isSoaked 2 (some .boolean), Cond.fieldLink RX1 16 "LanternWeirs$Fleet" "frames" "LLanternWeirs$Row;"]
def wsX1_meetWeir_r2 : List Cond := [Cond.static yX3_sprayTakenBy, Cond.initialized RX3, Cond.code yX3_sprayTakenBy cX3_sprayTakenBy 1 (some .int)]
def wsX1_meetWeir : List Cond := .code yX1_meetWeir cX1_meetWeir 6 none :: ((wsX1_meetWeir_r1 ++ wsX1_meetWeir_r2) ++ wsX10 ++ wsX20)
def wsX1_drift_r1 : List Cond := [Cond.fieldLink RX1 23 "LanternWeirs$Fleet" "lanes" "LLanternWeirs$Row;", Cond.fieldLink RX1 114 "LanternWeirs$Bed" "currents" "LLanternWeirs$Row;", Cond.fieldLink RX1 26 "LanternWeirs$Fleet" "places" "LLanternWeirs$Row;", Cond.fieldLink RX1 35 "LanternWeirs$Fleet" "burning" "LLanternWeirs$Row;", Cond.fieldLink RX1 129 "LanternWeirs$Bed" "sprays" "LLanternWeirs$Row;", Cond.methodLink RX1 80 yX2_get, Cond.instanceMethod yX2_get, Cond.selects RX2 yX2_get yX2_get, Cond.initialized RX2, Cond.code yX2_get cX2_get 2 (some .int), Cond.fieldLink RX2 7 "LanternWeirs$Row" "cells" "[I", Cond.methodLink RX1 111 yX1_isAfloat, Cond.instanceMethod yX1_isAfloat, Cond.selects RX1 yX1_isAfloat yX1_isAfloat, Cond.initialized RX1, Cond.code yX1_isAfloat cX1_isAfloat 2 (some .boolean), Cond.fieldLink RX1 38 "LanternWeirs$Fleet" "states" "LLanternWeirs$Row;", Cond.methodLink RX1 76 yX1_has, Cond.instanceMethod yX1_has, Cond.selects RX1 yX1_has yX1_has, Cond.code yX1_has cX1_has 2 (some .boolean), Cond.fieldLink RX1 54 "LanternWeirs$Fleet" "size" "I", Cond.static yX3_isWithin, Cond.initialized RX3]
def wsX1_drift_r2 : List Cond := [Cond.code yX3_isWithin cX3_isWithin 3 (some .boolean), Cond.methodLink RX1 119 yX1_catchesAhead, Cond.instanceMethod yX1_catchesAhead, Cond.selects RX1 yX1_catchesAhead yX1_catchesAhead, Cond.code yX1_catchesAhead cX1_catchesAhead 4 (some .boolean), Cond.fieldLink RX1 16 "LanternWeirs$Fleet" "frames" "LLanternWeirs$Row;", Cond.fieldLink RX1 44 "LanternWeirs$Fleet" "crowd" "LLanternWeirs$Row;", Cond.methodLink RX1 92 yX1_cell, Cond.static yX1_cell, Cond.code yX1_cell cX1_cell 3 (some .int), Cond.methodLink RX1 122 yX1_moveTo, Cond.instanceMethod yX1_moveTo, Cond.selects RX1 yX1_moveTo yX1_moveTo, Cond.code yX1_moveTo cX1_moveTo 4 none, Cond.methodLink RX1 69 yX1_crowdBy, Cond.instanceMethod yX1_crowdBy, Cond.selects RX1 yX1_crowdBy yX1_crowdBy, Cond.code yX1_crowdBy cX1_crowdBy 4 none, Cond.methodLink RX1 61 yX2_put, Cond.instanceMethod yX2_put, Cond.selects RX2 yX2_put yX2_put, Cond.code yX2_put cX2_put 3 none, Cond.methodLink RX1 126 yX1_leave, Cond.instanceMethod yX1_leave]
def wsX1_drift_r3 : List Cond := [Cond.selects RX1 yX1_leave yX1_leave, Cond.code yX1_leave cX1_leave 3 none, Cond.fieldLink RX1 41 "LanternWeirs$Fleet" "ends" "LLanternWeirs$Row;", Cond.fieldLink RX1 58 "LanternWeirs$Fleet" "minute" "I", Cond.methodLink RX1 132 yX1_meetWeir, Cond.instanceMethod yX1_meetWeir, Cond.selects RX1 yX1_meetWeir yX1_meetWeir, Cond.code yX1_meetWeir cX1_meetWeir 6 none, Cond.fieldLink RX1 32 "LanternWeirs$Fleet" "wets" "LLanternWeirs$Row;", Cond.methodLink RX1 89 yX1_isSoaked, Cond.instanceMethod yX1_isSoaked, Cond.selects RX1 yX1_isSoaked yX1_isSoaked, Cond.code yX1_isSoaked cX1_isSoaked 2 (some .boolean), Cond.static yX3_sprayTakenBy, Cond.code yX3_sprayTakenBy cX3_sprayTakenBy 1 (some .int), Cond.methodLink RX1 135 yX0_hasNet, Cond.instanceMethod yX0_hasNet, Cond.selects RX0 yX0_hasNet yX0_hasNet, Cond.initialized RX0, Cond.code yX0_hasNet cX0_hasNet 3 (some .boolean), Cond.fieldLink RX0 23 "LanternWeirs$Bed" "nets" "LLanternWeirs$Row;", Cond.methodLink RX0 37 yX2_get]
def wsX1_drift : List Cond := .code yX1_drift cX1_drift 7 none :: ((wsX1_drift_r1 ++ (wsX1_drift_r2 ++ wsX1_drift_r3)) ++ wsX10 ++ wsX00 ++ wsX20)
def wsX1_useWax_r1 : List Cond := [Cond.fieldLink RX1 54 "LanternWeirs$Fleet" "size" "I", Cond.fieldLink RX1 29 "LanternWeirs$Fleet" "waxes" "LLanternWeirs$Row;", Cond.fieldLink RX1 35 "LanternWeirs$Fleet" "burning" "LLanternWeirs$Row;", Cond.methodLink RX1 111 yX1_isAfloat, Cond.instanceMethod yX1_isAfloat, Cond.selects RX1 yX1_isAfloat yX1_isAfloat, Cond.initialized RX1, Cond.code yX1_isAfloat cX1_isAfloat 2 (some .boolean), Cond.fieldLink RX1 38 "LanternWeirs$Fleet" "states" "LLanternWeirs$Row;", Cond.methodLink RX1 76 yX1_has, Cond.instanceMethod yX1_has, Cond.selects RX1 yX1_has yX1_has, Cond.code yX1_has cX1_has 2 (some .boolean), Cond.static yX3_isWithin, Cond.initialized RX3, Cond.code yX3_isWithin cX3_isWithin 3 (some .boolean), Cond.methodLink RX1 80 yX2_get, Cond.instanceMethod yX2_get, Cond.selects RX2 yX2_get yX2_get, Cond.initialized RX2, Cond.code yX2_get cX2_get 2 (some .int), Cond.fieldLink RX2 7 "LanternWeirs$Row" "cells" "[I", Cond.methodLink RX1 86 yX1_isBurning, Cond.instanceMethod yX1_isBurning]
def wsX1_useWax_r2 : List Cond := [Cond.selects RX1 yX1_isBurning yX1_isBurning, Cond.code yX1_isBurning cX1_isBurning 2 (some .boolean), Cond.methodLink RX1 61 yX2_put, Cond.instanceMethod yX2_put, Cond.selects RX2 yX2_put yX2_put, Cond.code yX2_put cX2_put 3 none]
def wsX1_useWax : List Cond := .code yX1_useWax cX1_useWax 3 none :: ((wsX1_useWax_r1 ++ wsX1_useWax_r2) ++ wsX10 ++ wsX20)
def wsX1_passMinutes_r1 : List Cond := [Cond.fieldLink RX1 47 "LanternWeirs$Fleet" "queue" "LLanternWeirs$Row;", Cond.fieldLink RX1 58 "LanternWeirs$Fleet" "minute" "I", Cond.methodLink RX1 100 yX1_lineUp, Cond.instanceMethod yX1_lineUp, Cond.selects RX1 yX1_lineUp yX1_lineUp, Cond.initialized RX1, Cond.code yX1_lineUp cX1_lineUp 6 (some .int), Cond.fieldLink RX1 54 "LanternWeirs$Fleet" "size" "I", Cond.fieldLink RX1 26 "LanternWeirs$Fleet" "places" "LLanternWeirs$Row;", Cond.fieldLink RX1 23 "LanternWeirs$Fleet" "lanes" "LLanternWeirs$Row;", Cond.methodLink RX1 111 yX1_isAfloat, Cond.instanceMethod yX1_isAfloat, Cond.selects RX1 yX1_isAfloat yX1_isAfloat, Cond.code yX1_isAfloat cX1_isAfloat 2 (some .boolean), Cond.fieldLink RX1 38 "LanternWeirs$Fleet" "states" "LLanternWeirs$Row;", Cond.methodLink RX1 76 yX1_has, Cond.instanceMethod yX1_has, Cond.selects RX1 yX1_has yX1_has, Cond.code yX1_has cX1_has 2 (some .boolean), Cond.static yX3_isWithin, Cond.initialized RX3, Cond.code yX3_isWithin cX3_isWithin 3 (some .boolean), Cond.methodLink RX1 80 yX2_get, Cond.instanceMethod yX2_get]
def wsX1_passMinutes_r2 : List Cond := [Cond.selects RX2 yX2_get yX2_get, Cond.initialized RX2, Cond.code yX2_get cX2_get 2 (some .int), Cond.fieldLink RX2 7 "LanternWeirs$Row" "cells" "[I", Cond.methodLink RX1 61 yX2_put, Cond.instanceMethod yX2_put, Cond.selects RX2 yX2_put yX2_put, Cond.code yX2_put cX2_put 3 none, Cond.methodLink RX1 104 yX1_drift, Cond.instanceMethod yX1_drift, Cond.selects RX1 yX1_drift yX1_drift, Cond.code yX1_drift cX1_drift 7 none, Cond.fieldLink RX1 114 "LanternWeirs$Bed" "currents" "LLanternWeirs$Row;", Cond.fieldLink RX1 35 "LanternWeirs$Fleet" "burning" "LLanternWeirs$Row;", Cond.fieldLink RX1 129 "LanternWeirs$Bed" "sprays" "LLanternWeirs$Row;", Cond.methodLink RX1 119 yX1_catchesAhead, Cond.instanceMethod yX1_catchesAhead, Cond.selects RX1 yX1_catchesAhead yX1_catchesAhead, Cond.code yX1_catchesAhead cX1_catchesAhead 4 (some .boolean), Cond.fieldLink RX1 16 "LanternWeirs$Fleet" "frames" "LLanternWeirs$Row;", Cond.fieldLink RX1 44 "LanternWeirs$Fleet" "crowd" "LLanternWeirs$Row;", Cond.methodLink RX1 92 yX1_cell, Cond.static yX1_cell, Cond.code yX1_cell cX1_cell 3 (some .int)]
def wsX1_passMinutes_r3 : List Cond := [Cond.methodLink RX1 122 yX1_moveTo, Cond.instanceMethod yX1_moveTo, Cond.selects RX1 yX1_moveTo yX1_moveTo, Cond.code yX1_moveTo cX1_moveTo 4 none, Cond.methodLink RX1 69 yX1_crowdBy, Cond.instanceMethod yX1_crowdBy, Cond.selects RX1 yX1_crowdBy yX1_crowdBy, Cond.code yX1_crowdBy cX1_crowdBy 4 none, Cond.methodLink RX1 126 yX1_leave, Cond.instanceMethod yX1_leave, Cond.selects RX1 yX1_leave yX1_leave, Cond.code yX1_leave cX1_leave 3 none, Cond.fieldLink RX1 41 "LanternWeirs$Fleet" "ends" "LLanternWeirs$Row;", Cond.methodLink RX1 132 yX1_meetWeir, Cond.instanceMethod yX1_meetWeir, Cond.selects RX1 yX1_meetWeir yX1_meetWeir, Cond.code yX1_meetWeir cX1_meetWeir 6 none, Cond.fieldLink RX1 32 "LanternWeirs$Fleet" "wets" "LLanternWeirs$Row;", Cond.methodLink RX1 89 yX1_isSoaked, Cond.instanceMethod yX1_isSoaked, Cond.selects RX1 yX1_isSoaked yX1_isSoaked, Cond.code yX1_isSoaked cX1_isSoaked 2 (some .boolean), Cond.static yX3_sprayTakenBy, Cond.code yX3_sprayTakenBy cX3_sprayTakenBy 1 (some .int)]
def wsX1_passMinutes_r4 : List Cond := [Cond.methodLink RX1 135 yX0_hasNet, Cond.instanceMethod yX0_hasNet, Cond.selects RX0 yX0_hasNet yX0_hasNet, Cond.initialized RX0, Cond.code yX0_hasNet cX0_hasNet 3 (some .boolean), Cond.fieldLink RX0 23 "LanternWeirs$Bed" "nets" "LLanternWeirs$Row;", Cond.methodLink RX0 37 yX2_get, Cond.methodLink RX1 108 yX1_useWax, Cond.instanceMethod yX1_useWax, Cond.selects RX1 yX1_useWax yX1_useWax, Cond.code yX1_useWax cX1_useWax 3 none, Cond.fieldLink RX1 29 "LanternWeirs$Fleet" "waxes" "LLanternWeirs$Row;", Cond.methodLink RX1 86 yX1_isBurning, Cond.instanceMethod yX1_isBurning, Cond.selects RX1 yX1_isBurning yX1_isBurning, Cond.code yX1_isBurning cX1_isBurning 2 (some .boolean)]
def wsX1_passMinutes : List Cond := .code yX1_passMinutes cX1_passMinutes 6 none :: ((wsX1_passMinutes_r1 ++ (wsX1_passMinutes_r2 ++ (wsX1_passMinutes_r3 ++ wsX1_passMinutes_r4))) ++ wsX10 ++ wsX20 ++ wsX00)
def wsX3_init_r1 : List Cond := [Cond.methodLink RX3 1 objectInit, Cond.instanceMethod objectInit, Cond.code objectInit ⟨#[0xb1]⟩ 1 none, Cond.classLink RX3 7 RX0, Cond.instantiable RX0 5, Cond.initialized RX0, Cond.fieldLink RX3 10 "LanternWeirs" "bed" "LLanternWeirs$Bed;", Cond.classLink RX3 16 RX1, Cond.instantiable RX1 13, Cond.initialized RX1, Cond.fieldLink RX3 19 "LanternWeirs" "fleet" "LLanternWeirs$Fleet;", Cond.fieldLink RX3 23 "LanternWeirs" "dream" "LLanternWeirs$Fleet;", Cond.methodLink RX3 9 yX0_init, Cond.instanceMethod yX0_init, Cond.code yX0_init cX0_init 1 none, Cond.methodLink RX0 3 objectInit, Cond.classLink RX0 9 RX2, Cond.instantiable RX2 1, Cond.initialized RX2, Cond.fieldLink RX0 14 "LanternWeirs$Bed" "currents" "LLanternWeirs$Row;", Cond.fieldLink RX0 20 "LanternWeirs$Bed" "sprays" "LLanternWeirs$Row;", Cond.fieldLink RX0 23 "LanternWeirs$Bed" "nets" "LLanternWeirs$Row;", Cond.methodLink RX0 11 yX2_init, Cond.instanceMethod yX2_init]
def wsX3_init_r2 : List Cond := [Cond.code yX2_init cX2_init 2 none, Cond.methodLink RX2 1 objectInit, Cond.arrayClass .int, Cond.fieldLink RX2 7 "LanternWeirs$Row" "cells" "[I", Cond.methodLink RX0 26 yX2_put, Cond.instanceMethod yX2_put, Cond.selects RX2 yX2_put yX2_put, Cond.code yX2_put cX2_put 3 none, Cond.instanceMethod yX1_init, Cond.code yX1_init cX1_init 1 none, Cond.methodLink RX1 3 objectInit, Cond.classLink RX1 9 RX2, Cond.fieldLink RX1 16 "LanternWeirs$Fleet" "frames" "LLanternWeirs$Row;", Cond.fieldLink RX1 20 "LanternWeirs$Fleet" "wishes" "LLanternWeirs$Row;", Cond.fieldLink RX1 23 "LanternWeirs$Fleet" "lanes" "LLanternWeirs$Row;", Cond.fieldLink RX1 26 "LanternWeirs$Fleet" "places" "LLanternWeirs$Row;", Cond.fieldLink RX1 29 "LanternWeirs$Fleet" "waxes" "LLanternWeirs$Row;", Cond.fieldLink RX1 32 "LanternWeirs$Fleet" "wets" "LLanternWeirs$Row;", Cond.fieldLink RX1 35 "LanternWeirs$Fleet" "burning" "LLanternWeirs$Row;", Cond.fieldLink RX1 38 "LanternWeirs$Fleet" "states" "LLanternWeirs$Row;", Cond.fieldLink RX1 41 "LanternWeirs$Fleet" "ends" "LLanternWeirs$Row;", Cond.fieldLink RX1 44 "LanternWeirs$Fleet" "crowd" "LLanternWeirs$Row;", Cond.fieldLink RX1 47 "LanternWeirs$Fleet" "queue" "LLanternWeirs$Row;", Cond.methodLink RX1 13 yX2_init]
def wsX3_init : List Cond := .code yX3_init cX3_init 1 none :: ((wsX3_init_r1 ++ wsX3_init_r2) ++ wsX00 ++ wsX30 ++ wsX10 ++ wsX20)
def wsX3_isLane : List Cond := .code yX3_isLane cX3_isLane 1 (some .boolean) :: ([.methodLink RX3 37 yX3_isWithin, .static yX3_isWithin, .initialized RX3, .code yX3_isWithin cX3_isWithin 3 (some .boolean)])
def wsX3_setCurrent : List Cond := .code yX3_setCurrent cX3_setCurrent 4 (some .int) :: ([.classLink RX3 30 "java/lang/IndexOutOfBoundsException", .initialized "java/lang/IndexOutOfBoundsException", .classLink RX3 41 "java/lang/IllegalArgumentException", .initialized "java/lang/IllegalArgumentException", .fieldLink RX3 10 "LanternWeirs" "bed" "LLanternWeirs$Bed;", .fieldLink RX3 46 "LanternWeirs$Bed" "currents" "LLanternWeirs$Row;", .methodLink RX3 26 yX3_isLane, .static yX3_isLane, .initialized RX3, .code yX3_isLane cX3_isLane 1 (some .boolean), .methodLink RX3 37 yX3_isWithin, .static yX3_isWithin, .code yX3_isWithin cX3_isWithin 3 (some .boolean), .methodLink RX3 50 yX2_get, .instanceMethod yX2_get, .selects RX2 yX2_get yX2_get, .initialized RX2, .code yX2_get cX2_get 2 (some .int), .fieldLink RX2 7 "LanternWeirs$Row" "cells" "[I", .methodLink RX3 56 yX2_put, .instanceMethod yX2_put, .selects RX2 yX2_put yX2_put, .code yX2_put cX2_put 3 none] ++ wsX30 ++ wsX00 ++ wsX20 ++ (vx_atS RX3 34 "java/lang/IndexOutOfBoundsException" ["java/lang/RuntimeException", "java/lang/Exception"]).filter goodWord ++ (vx_atS RX3 45 "java/lang/IllegalArgumentException" ["java/lang/RuntimeException", "java/lang/Exception"]).filter goodWord)
def wsX3_weir_r1 : List Cond := [Cond.classLink RX3 30 "java/lang/IndexOutOfBoundsException", Cond.initialized "java/lang/IndexOutOfBoundsException", Cond.classLink RX3 41 "java/lang/IllegalArgumentException", Cond.initialized "java/lang/IllegalArgumentException", Cond.classLink RX3 71 "java/lang/IllegalStateException", Cond.initialized "java/lang/IllegalStateException", Cond.fieldLink RX3 10 "LanternWeirs" "bed" "LLanternWeirs$Bed;", Cond.fieldLink RX3 64 "LanternWeirs$Bed" "weirs" "I", Cond.fieldLink RX3 68 "LanternWeirs$Bed" "sprays" "LLanternWeirs$Row;", Cond.methodLink RX3 37 yX3_isWithin, Cond.static yX3_isWithin, Cond.initialized RX3, Cond.code yX3_isWithin cX3_isWithin 3 (some .boolean), Cond.methodLink RX3 50 yX2_get, Cond.instanceMethod yX2_get, Cond.selects RX2 yX2_get yX2_get, Cond.initialized RX2, Cond.code yX2_get cX2_get 2 (some .int), Cond.fieldLink RX2 7 "LanternWeirs$Row" "cells" "[I", Cond.methodLink RX3 76 yX0_addWeir, Cond.instanceMethod yX0_addWeir, Cond.selects RX0 yX0_addWeir yX0_addWeir, Cond.initialized RX0, Cond.code yX0_addWeir cX0_addWeir 3 (some .int)]
def wsX3_weir_r2 : List Cond := [Cond.fieldLink RX0 20 "LanternWeirs$Bed" "sprays" "LLanternWeirs$Row;", Cond.fieldLink RX0 30 "LanternWeirs$Bed" "weirs" "I", Cond.methodLink RX0 26 yX2_put, Cond.instanceMethod yX2_put, Cond.selects RX2 yX2_put yX2_put, Cond.code yX2_put cX2_put 3 none]
def wsX3_weir : List Cond := .code yX3_weir cX3_weir 3 (some .int) :: ((wsX3_weir_r1 ++ wsX3_weir_r2) ++ wsX30 ++ wsX00 ++ wsX20 ++ (vx_atS RX3 34 "java/lang/IndexOutOfBoundsException" ["java/lang/RuntimeException", "java/lang/Exception"]).filter goodWord ++ (vx_atS RX3 45 "java/lang/IllegalArgumentException" ["java/lang/RuntimeException", "java/lang/Exception"]).filter goodWord ++ (vx_atS RX3 75 "java/lang/IllegalStateException" ["java/lang/RuntimeException", "java/lang/Exception"]).filter goodWord)
def wsX3_net_r1 : List Cond := [Cond.classLink RX3 30 "java/lang/IndexOutOfBoundsException", Cond.initialized "java/lang/IndexOutOfBoundsException", Cond.classLink RX3 71 "java/lang/IllegalStateException", Cond.initialized "java/lang/IllegalStateException", Cond.fieldLink RX3 10 "LanternWeirs" "bed" "LLanternWeirs$Bed;", Cond.fieldLink RX3 82 "LanternWeirs$Bed" "netCount" "I", Cond.methodLink RX3 26 yX3_isLane, Cond.static yX3_isLane, Cond.initialized RX3, Cond.code yX3_isLane cX3_isLane 1 (some .boolean), Cond.methodLink RX3 37 yX3_isWithin, Cond.static yX3_isWithin, Cond.code yX3_isWithin cX3_isWithin 3 (some .boolean), Cond.methodLink RX3 85 yX0_hasNet, Cond.instanceMethod yX0_hasNet, Cond.selects RX0 yX0_hasNet yX0_hasNet, Cond.initialized RX0, Cond.code yX0_hasNet cX0_hasNet 3 (some .boolean), Cond.fieldLink RX0 23 "LanternWeirs$Bed" "nets" "LLanternWeirs$Row;", Cond.methodLink RX0 37 yX2_get, Cond.instanceMethod yX2_get, Cond.selects RX2 yX2_get yX2_get, Cond.initialized RX2, Cond.code yX2_get cX2_get 2 (some .int)]
def wsX3_net_r2 : List Cond := [Cond.fieldLink RX2 7 "LanternWeirs$Row" "cells" "[I", Cond.methodLink RX3 91 yX0_addNet, Cond.instanceMethod yX0_addNet, Cond.selects RX0 yX0_addNet yX0_addNet, Cond.code yX0_addNet cX0_addNet 3 (some .int), Cond.fieldLink RX0 34 "LanternWeirs$Bed" "netCount" "I", Cond.methodLink RX0 26 yX2_put, Cond.instanceMethod yX2_put, Cond.selects RX2 yX2_put yX2_put, Cond.code yX2_put cX2_put 3 none]
def wsX3_net : List Cond := .code yX3_net cX3_net 3 (some .int) :: ((wsX3_net_r1 ++ wsX3_net_r2) ++ wsX30 ++ wsX00 ++ wsX20 ++ (vx_atS RX3 34 "java/lang/IndexOutOfBoundsException" ["java/lang/RuntimeException", "java/lang/Exception"]).filter goodWord ++ (vx_atS RX3 75 "java/lang/IllegalStateException" ["java/lang/RuntimeException", "java/lang/Exception"]).filter goodWord)
def wsX3_isPlace : List Cond := .code yX3_isPlace cX3_isPlace 1 (some .boolean) :: ([.methodLink RX3 37 yX3_isWithin, .static yX3_isWithin, .initialized RX3, .code yX3_isWithin cX3_isWithin 3 (some .boolean)])
def wsX3_riverFact_r1 : List Cond := [Cond.fieldLink RX3 19 "LanternWeirs" "fleet" "LLanternWeirs$Fleet;", Cond.fieldLink RX3 10 "LanternWeirs" "bed" "LLanternWeirs$Bed;", Cond.fieldLink RX3 68 "LanternWeirs$Bed" "sprays" "LLanternWeirs$Row;", Cond.methodLink RX3 194 yX1_floatingAt, Cond.instanceMethod yX1_floatingAt, Cond.selects RX1 yX1_floatingAt yX1_floatingAt, Cond.initialized RX1, Cond.code yX1_floatingAt cX1_floatingAt 5 (some .int), Cond.fieldLink RX1 44 "LanternWeirs$Fleet" "crowd" "LLanternWeirs$Row;", Cond.methodLink RX1 92 yX1_cell, Cond.static yX1_cell, Cond.code yX1_cell cX1_cell 3 (some .int), Cond.methodLink RX1 80 yX2_get, Cond.instanceMethod yX2_get, Cond.selects RX2 yX2_get yX2_get, Cond.initialized RX2, Cond.code yX2_get cX2_get 2 (some .int), Cond.fieldLink RX2 7 "LanternWeirs$Row" "cells" "[I", Cond.methodLink RX3 50 yX2_get, Cond.methodLink RX3 85 yX0_hasNet, Cond.instanceMethod yX0_hasNet, Cond.selects RX0 yX0_hasNet yX0_hasNet, Cond.initialized RX0, Cond.code yX0_hasNet cX0_hasNet 3 (some .boolean)]
def wsX3_riverFact_r2 : List Cond := [Cond.fieldLink RX0 23 "LanternWeirs$Bed" "nets" "LLanternWeirs$Row;", Cond.methodLink RX0 37 yX2_get, Cond.methodLink RX3 197 yX1_caughtAt, Cond.instanceMethod yX1_caughtAt, Cond.selects RX1 yX1_caughtAt yX1_caughtAt, Cond.code yX1_caughtAt cX1_caughtAt 5 (some .int), Cond.fieldLink RX1 54 "LanternWeirs$Fleet" "size" "I", Cond.fieldLink RX1 38 "LanternWeirs$Fleet" "states" "LLanternWeirs$Row;", Cond.fieldLink RX1 23 "LanternWeirs$Fleet" "lanes" "LLanternWeirs$Row;", Cond.fieldLink RX1 26 "LanternWeirs$Fleet" "places" "LLanternWeirs$Row;"]
def wsX3_riverFact : List Cond := .code yX3_riverFact cX3_riverFact 4 (some .int) :: ((wsX3_riverFact_r1 ++ wsX3_riverFact_r2) ++ wsX30 ++ wsX00 ++ wsX10 ++ wsX20)
def wsX3_river_r1 : List Cond := [Cond.classLink RX3 30 "java/lang/IndexOutOfBoundsException", Cond.initialized "java/lang/IndexOutOfBoundsException", Cond.methodLink RX3 26 yX3_isLane, Cond.static yX3_isLane, Cond.initialized RX3, Cond.code yX3_isLane cX3_isLane 1 (some .boolean), Cond.methodLink RX3 37 yX3_isWithin, Cond.static yX3_isWithin, Cond.code yX3_isWithin cX3_isWithin 3 (some .boolean), Cond.methodLink RX3 94 yX3_isPlace, Cond.static yX3_isPlace, Cond.code yX3_isPlace cX3_isPlace 1 (some .boolean), Cond.methodLink RX3 99 yX3_riverFact, Cond.instanceMethod yX3_riverFact, Cond.selects RX3 yX3_riverFact yX3_riverFact, Cond.code yX3_riverFact cX3_riverFact 4 (some .int), Cond.fieldLink RX3 19 "LanternWeirs" "fleet" "LLanternWeirs$Fleet;", Cond.fieldLink RX3 10 "LanternWeirs" "bed" "LLanternWeirs$Bed;", Cond.fieldLink RX3 68 "LanternWeirs$Bed" "sprays" "LLanternWeirs$Row;", Cond.methodLink RX3 194 yX1_floatingAt, Cond.instanceMethod yX1_floatingAt, Cond.selects RX1 yX1_floatingAt yX1_floatingAt, Cond.initialized RX1, Cond.code yX1_floatingAt cX1_floatingAt 5 (some .int)]
def wsX3_river_r2 : List Cond := [Cond.fieldLink RX1 44 "LanternWeirs$Fleet" "crowd" "LLanternWeirs$Row;", Cond.methodLink RX1 92 yX1_cell, Cond.static yX1_cell, Cond.code yX1_cell cX1_cell 3 (some .int), Cond.methodLink RX1 80 yX2_get, Cond.instanceMethod yX2_get, Cond.selects RX2 yX2_get yX2_get, Cond.initialized RX2, Cond.code yX2_get cX2_get 2 (some .int), Cond.fieldLink RX2 7 "LanternWeirs$Row" "cells" "[I", Cond.methodLink RX3 50 yX2_get, Cond.methodLink RX3 85 yX0_hasNet, Cond.instanceMethod yX0_hasNet, Cond.selects RX0 yX0_hasNet yX0_hasNet, Cond.initialized RX0, Cond.code yX0_hasNet cX0_hasNet 3 (some .boolean), Cond.fieldLink RX0 23 "LanternWeirs$Bed" "nets" "LLanternWeirs$Row;", Cond.methodLink RX0 37 yX2_get, Cond.methodLink RX3 197 yX1_caughtAt, Cond.instanceMethod yX1_caughtAt, Cond.selects RX1 yX1_caughtAt yX1_caughtAt, Cond.code yX1_caughtAt cX1_caughtAt 5 (some .int), Cond.fieldLink RX1 54 "LanternWeirs$Fleet" "size" "I", Cond.fieldLink RX1 38 "LanternWeirs$Fleet" "states" "LLanternWeirs$Row;"]
def wsX3_river_r3 : List Cond := [Cond.fieldLink RX1 23 "LanternWeirs$Fleet" "lanes" "LLanternWeirs$Row;", Cond.fieldLink RX1 26 "LanternWeirs$Fleet" "places" "LLanternWeirs$Row;"]
def wsX3_river : List Cond := .code yX3_river cX3_river 4 (some .int) :: ((wsX3_river_r1 ++ (wsX3_river_r2 ++ wsX3_river_r3)) ++ wsX30 ++ wsX00 ++ wsX10 ++ wsX20 ++ (vx_atS RX3 34 "java/lang/IndexOutOfBoundsException" ["java/lang/RuntimeException", "java/lang/Exception"]).filter goodWord)
def wsX3_isFrame : List Cond := .code yX3_isFrame cX3_isFrame 1 (some .boolean) :: ([.methodLink RX3 37 yX3_isWithin, .static yX3_isWithin, .initialized RX3, .code yX3_isWithin cX3_isWithin 3 (some .boolean)])
def wsX3_launch_r1 : List Cond := [Cond.classLink RX3 30 "java/lang/IndexOutOfBoundsException", Cond.initialized "java/lang/IndexOutOfBoundsException", Cond.classLink RX3 41 "java/lang/IllegalArgumentException", Cond.initialized "java/lang/IllegalArgumentException", Cond.classLink RX3 71 "java/lang/IllegalStateException", Cond.initialized "java/lang/IllegalStateException", Cond.fieldLink RX3 19 "LanternWeirs" "fleet" "LLanternWeirs$Fleet;", Cond.fieldLink RX3 110 "LanternWeirs$Fleet" "size" "I", Cond.methodLink RX3 103 yX3_isFrame, Cond.static yX3_isFrame, Cond.initialized RX3, Cond.code yX3_isFrame cX3_isFrame 1 (some .boolean), Cond.methodLink RX3 37 yX3_isWithin, Cond.static yX3_isWithin, Cond.code yX3_isWithin cX3_isWithin 3 (some .boolean), Cond.methodLink RX3 26 yX3_isLane, Cond.static yX3_isLane, Cond.code yX3_isLane cX3_isLane 1 (some .boolean), Cond.methodLink RX3 94 yX3_isPlace, Cond.static yX3_isPlace, Cond.code yX3_isPlace cX3_isPlace 1 (some .boolean), Cond.methodLink RX3 115 yX1_add, Cond.instanceMethod yX1_add, Cond.selects RX1 yX1_add yX1_add]
def wsX3_launch_r2 : List Cond := [Cond.initialized RX1, Cond.code yX1_add cX1_add 6 (some .int), Cond.fieldLink RX1 54 "LanternWeirs$Fleet" "size" "I", Cond.fieldLink RX1 16 "LanternWeirs$Fleet" "frames" "LLanternWeirs$Row;", Cond.fieldLink RX1 20 "LanternWeirs$Fleet" "wishes" "LLanternWeirs$Row;", Cond.fieldLink RX1 23 "LanternWeirs$Fleet" "lanes" "LLanternWeirs$Row;", Cond.fieldLink RX1 26 "LanternWeirs$Fleet" "places" "LLanternWeirs$Row;", Cond.fieldLink RX1 29 "LanternWeirs$Fleet" "waxes" "LLanternWeirs$Row;", Cond.fieldLink RX1 32 "LanternWeirs$Fleet" "wets" "LLanternWeirs$Row;", Cond.fieldLink RX1 35 "LanternWeirs$Fleet" "burning" "LLanternWeirs$Row;", Cond.fieldLink RX1 38 "LanternWeirs$Fleet" "states" "LLanternWeirs$Row;", Cond.fieldLink RX1 41 "LanternWeirs$Fleet" "ends" "LLanternWeirs$Row;", Cond.methodLink RX1 61 yX2_put, Cond.instanceMethod yX2_put, Cond.selects RX2 yX2_put yX2_put, Cond.initialized RX2, Cond.code yX2_put cX2_put 3 none, Cond.fieldLink RX2 7 "LanternWeirs$Row" "cells" "[I", Cond.static yX3_waxOf, Cond.code yX3_waxOf cX3_waxOf 1 (some .int), Cond.methodLink RX1 69 yX1_crowdBy, Cond.instanceMethod yX1_crowdBy, Cond.selects RX1 yX1_crowdBy yX1_crowdBy, Cond.code yX1_crowdBy cX1_crowdBy 4 none]
def wsX3_launch_r3 : List Cond := [Cond.fieldLink RX1 44 "LanternWeirs$Fleet" "crowd" "LLanternWeirs$Row;", Cond.methodLink RX1 80 yX2_get, Cond.instanceMethod yX2_get, Cond.selects RX2 yX2_get yX2_get, Cond.code yX2_get cX2_get 2 (some .int), Cond.methodLink RX1 92 yX1_cell, Cond.static yX1_cell, Cond.code yX1_cell cX1_cell 3 (some .int)]
def wsX3_launch : List Cond := .code yX3_launch cX3_launch 5 (some .int) :: ((wsX3_launch_r1 ++ (wsX3_launch_r2 ++ wsX3_launch_r3)) ++ wsX30 ++ wsX10 ++ wsX20 ++ (vx_atS RX3 34 "java/lang/IndexOutOfBoundsException" ["java/lang/RuntimeException", "java/lang/Exception"]).filter goodWord ++ (vx_atS RX3 45 "java/lang/IllegalArgumentException" ["java/lang/RuntimeException", "java/lang/Exception"]).filter goodWord ++ (vx_atS RX3 75 "java/lang/IllegalStateException" ["java/lang/RuntimeException", "java/lang/Exception"]).filter goodWord)
def wsX3_push_r1 : List Cond := [Cond.classLink RX3 30 "java/lang/IndexOutOfBoundsException", Cond.initialized "java/lang/IndexOutOfBoundsException", Cond.classLink RX3 71 "java/lang/IllegalStateException", Cond.initialized "java/lang/IllegalStateException", Cond.fieldLink RX3 19 "LanternWeirs" "fleet" "LLanternWeirs$Fleet;", Cond.fieldLink RX3 129 "LanternWeirs$Fleet" "lanes" "LLanternWeirs$Row;", Cond.fieldLink RX3 132 "LanternWeirs$Fleet" "places" "LLanternWeirs$Row;", Cond.methodLink RX3 119 yX1_has, Cond.instanceMethod yX1_has, Cond.selects RX1 yX1_has yX1_has, Cond.initialized RX1, Cond.code yX1_has cX1_has 2 (some .boolean), Cond.fieldLink RX1 54 "LanternWeirs$Fleet" "size" "I", Cond.static yX3_isWithin, Cond.initialized RX3, Cond.code yX3_isWithin cX3_isWithin 3 (some .boolean), Cond.methodLink RX3 26 yX3_isLane, Cond.static yX3_isLane, Cond.code yX3_isLane cX3_isLane 1 (some .boolean), Cond.methodLink RX3 37 yX3_isWithin, Cond.methodLink RX3 124 yX1_isAfloat, Cond.instanceMethod yX1_isAfloat, Cond.selects RX1 yX1_isAfloat yX1_isAfloat, Cond.code yX1_isAfloat cX1_isAfloat 2 (some .boolean)]
def wsX3_push_r2 : List Cond := [Cond.fieldLink RX1 38 "LanternWeirs$Fleet" "states" "LLanternWeirs$Row;", Cond.methodLink RX1 76 yX1_has, Cond.methodLink RX1 80 yX2_get, Cond.instanceMethod yX2_get, Cond.selects RX2 yX2_get yX2_get, Cond.initialized RX2, Cond.code yX2_get cX2_get 2 (some .int), Cond.fieldLink RX2 7 "LanternWeirs$Row" "cells" "[I", Cond.methodLink RX3 50 yX2_get, Cond.methodLink RX3 135 yX1_moveTo, Cond.instanceMethod yX1_moveTo, Cond.selects RX1 yX1_moveTo yX1_moveTo, Cond.code yX1_moveTo cX1_moveTo 4 none, Cond.fieldLink RX1 23 "LanternWeirs$Fleet" "lanes" "LLanternWeirs$Row;", Cond.fieldLink RX1 26 "LanternWeirs$Fleet" "places" "LLanternWeirs$Row;", Cond.methodLink RX1 69 yX1_crowdBy, Cond.instanceMethod yX1_crowdBy, Cond.selects RX1 yX1_crowdBy yX1_crowdBy, Cond.code yX1_crowdBy cX1_crowdBy 4 none, Cond.fieldLink RX1 16 "LanternWeirs$Fleet" "frames" "LLanternWeirs$Row;", Cond.fieldLink RX1 44 "LanternWeirs$Fleet" "crowd" "LLanternWeirs$Row;", Cond.methodLink RX1 92 yX1_cell, Cond.static yX1_cell, Cond.code yX1_cell cX1_cell 3 (some .int)]
def wsX3_push_r3 : List Cond := [Cond.methodLink RX1 61 yX2_put, Cond.instanceMethod yX2_put, Cond.selects RX2 yX2_put yX2_put, Cond.code yX2_put cX2_put 3 none]
def wsX3_push : List Cond := .code yX3_push cX3_push 4 (some .int) :: ((wsX3_push_r1 ++ (wsX3_push_r2 ++ wsX3_push_r3)) ++ wsX30 ++ wsX10 ++ wsX20 ++ (vx_atS RX3 34 "java/lang/IndexOutOfBoundsException" ["java/lang/RuntimeException", "java/lang/Exception"]).filter goodWord ++ (vx_atS RX3 75 "java/lang/IllegalStateException" ["java/lang/RuntimeException", "java/lang/Exception"]).filter goodWord)
def wsX3_light_r1 : List Cond := [Cond.classLink RX3 30 "java/lang/IndexOutOfBoundsException", Cond.initialized "java/lang/IndexOutOfBoundsException", Cond.classLink RX3 71 "java/lang/IllegalStateException", Cond.initialized "java/lang/IllegalStateException", Cond.fieldLink RX3 19 "LanternWeirs" "fleet" "LLanternWeirs$Fleet;", Cond.fieldLink RX3 146 "LanternWeirs$Fleet" "burning" "LLanternWeirs$Row;", Cond.fieldLink RX3 149 "LanternWeirs$Fleet" "waxes" "LLanternWeirs$Row;", Cond.methodLink RX3 119 yX1_has, Cond.instanceMethod yX1_has, Cond.selects RX1 yX1_has yX1_has, Cond.initialized RX1, Cond.code yX1_has cX1_has 2 (some .boolean), Cond.fieldLink RX1 54 "LanternWeirs$Fleet" "size" "I", Cond.static yX3_isWithin, Cond.initialized RX3, Cond.code yX3_isWithin cX3_isWithin 3 (some .boolean), Cond.methodLink RX3 124 yX1_isAfloat, Cond.instanceMethod yX1_isAfloat, Cond.selects RX1 yX1_isAfloat yX1_isAfloat, Cond.code yX1_isAfloat cX1_isAfloat 2 (some .boolean), Cond.fieldLink RX1 38 "LanternWeirs$Fleet" "states" "LLanternWeirs$Row;", Cond.methodLink RX1 76 yX1_has, Cond.methodLink RX1 80 yX2_get, Cond.instanceMethod yX2_get]
def wsX3_light_r2 : List Cond := [Cond.selects RX2 yX2_get yX2_get, Cond.initialized RX2, Cond.code yX2_get cX2_get 2 (some .int), Cond.fieldLink RX2 7 "LanternWeirs$Row" "cells" "[I", Cond.methodLink RX3 141 yX1_canBeLit, Cond.instanceMethod yX1_canBeLit, Cond.selects RX1 yX1_canBeLit yX1_canBeLit, Cond.code yX1_canBeLit cX1_canBeLit 2 (some .boolean), Cond.fieldLink RX1 29 "LanternWeirs$Fleet" "waxes" "LLanternWeirs$Row;", Cond.methodLink RX1 86 yX1_isBurning, Cond.instanceMethod yX1_isBurning, Cond.selects RX1 yX1_isBurning yX1_isBurning, Cond.code yX1_isBurning cX1_isBurning 2 (some .boolean), Cond.fieldLink RX1 35 "LanternWeirs$Fleet" "burning" "LLanternWeirs$Row;", Cond.methodLink RX1 89 yX1_isSoaked, Cond.instanceMethod yX1_isSoaked, Cond.selects RX1 yX1_isSoaked yX1_isSoaked, Cond.code yX1_isSoaked cX1_isSoaked 2 (some .boolean), Cond.fieldLink RX1 32 "LanternWeirs$Fleet" "wets" "LLanternWeirs$Row;", Cond.fieldLink RX1 16 "LanternWeirs$Fleet" "frames" "LLanternWeirs$Row;", Cond.static yX3_sprayTakenBy, Cond.code yX3_sprayTakenBy cX3_sprayTakenBy 1 (some .int), Cond.methodLink RX3 56 yX2_put, Cond.instanceMethod yX2_put]
def wsX3_light_r3 : List Cond := [Cond.selects RX2 yX2_put yX2_put, Cond.code yX2_put cX2_put 3 none, Cond.methodLink RX3 50 yX2_get]
def wsX3_light : List Cond := .code yX3_light cX3_light 2 (some .int) :: ((wsX3_light_r1 ++ (wsX3_light_r2 ++ wsX3_light_r3)) ++ wsX30 ++ wsX10 ++ wsX20 ++ (vx_atS RX3 34 "java/lang/IndexOutOfBoundsException" ["java/lang/RuntimeException", "java/lang/Exception"]).filter goodWord ++ (vx_atS RX3 75 "java/lang/IllegalStateException" ["java/lang/RuntimeException", "java/lang/Exception"]).filter goodWord)
def wsX3_blow_r1 : List Cond := [Cond.classLink RX3 30 "java/lang/IndexOutOfBoundsException", Cond.initialized "java/lang/IndexOutOfBoundsException", Cond.classLink RX3 71 "java/lang/IllegalStateException", Cond.initialized "java/lang/IllegalStateException", Cond.fieldLink RX3 19 "LanternWeirs" "fleet" "LLanternWeirs$Fleet;", Cond.fieldLink RX3 146 "LanternWeirs$Fleet" "burning" "LLanternWeirs$Row;", Cond.fieldLink RX3 149 "LanternWeirs$Fleet" "waxes" "LLanternWeirs$Row;", Cond.methodLink RX3 119 yX1_has, Cond.instanceMethod yX1_has, Cond.selects RX1 yX1_has yX1_has, Cond.initialized RX1, Cond.code yX1_has cX1_has 2 (some .boolean), Cond.fieldLink RX1 54 "LanternWeirs$Fleet" "size" "I", Cond.static yX3_isWithin, Cond.initialized RX3, Cond.code yX3_isWithin cX3_isWithin 3 (some .boolean), Cond.methodLink RX3 124 yX1_isAfloat, Cond.instanceMethod yX1_isAfloat, Cond.selects RX1 yX1_isAfloat yX1_isAfloat, Cond.code yX1_isAfloat cX1_isAfloat 2 (some .boolean), Cond.fieldLink RX1 38 "LanternWeirs$Fleet" "states" "LLanternWeirs$Row;", Cond.methodLink RX1 76 yX1_has, Cond.methodLink RX1 80 yX2_get, Cond.instanceMethod yX2_get]
def wsX3_blow_r2 : List Cond := [Cond.selects RX2 yX2_get yX2_get, Cond.initialized RX2, Cond.code yX2_get cX2_get 2 (some .int), Cond.fieldLink RX2 7 "LanternWeirs$Row" "cells" "[I", Cond.methodLink RX3 152 yX1_isBurning, Cond.instanceMethod yX1_isBurning, Cond.selects RX1 yX1_isBurning yX1_isBurning, Cond.code yX1_isBurning cX1_isBurning 2 (some .boolean), Cond.fieldLink RX1 35 "LanternWeirs$Fleet" "burning" "LLanternWeirs$Row;", Cond.methodLink RX3 56 yX2_put, Cond.instanceMethod yX2_put, Cond.selects RX2 yX2_put yX2_put, Cond.code yX2_put cX2_put 3 none, Cond.methodLink RX3 50 yX2_get]
def wsX3_blow : List Cond := .code yX3_blow cX3_blow 2 (some .int) :: ((wsX3_blow_r1 ++ wsX3_blow_r2) ++ wsX30 ++ wsX10 ++ wsX20 ++ (vx_atS RX3 34 "java/lang/IndexOutOfBoundsException" ["java/lang/RuntimeException", "java/lang/Exception"]).filter goodWord ++ (vx_atS RX3 75 "java/lang/IllegalStateException" ["java/lang/RuntimeException", "java/lang/Exception"]).filter goodWord)
def wsX3_told_r1 : List Cond := [Cond.classLink RX3 30 "java/lang/IndexOutOfBoundsException", Cond.initialized "java/lang/IndexOutOfBoundsException", Cond.fieldLink RX3 19 "LanternWeirs" "fleet" "LLanternWeirs$Fleet;", Cond.methodLink RX3 119 yX1_has, Cond.instanceMethod yX1_has, Cond.selects RX1 yX1_has yX1_has, Cond.initialized RX1, Cond.code yX1_has cX1_has 2 (some .boolean), Cond.fieldLink RX1 54 "LanternWeirs$Fleet" "size" "I", Cond.static yX3_isWithin, Cond.initialized RX3, Cond.code yX3_isWithin cX3_isWithin 3 (some .boolean), Cond.methodLink RX3 37 yX3_isWithin, Cond.methodLink RX3 159 yX1_fact, Cond.instanceMethod yX1_fact, Cond.selects RX1 yX1_fact yX1_fact, Cond.code yX1_fact cX1_fact 3 (some .int), Cond.fieldLink RX1 16 "LanternWeirs$Fleet" "frames" "LLanternWeirs$Row;", Cond.fieldLink RX1 20 "LanternWeirs$Fleet" "wishes" "LLanternWeirs$Row;", Cond.fieldLink RX1 23 "LanternWeirs$Fleet" "lanes" "LLanternWeirs$Row;", Cond.fieldLink RX1 26 "LanternWeirs$Fleet" "places" "LLanternWeirs$Row;", Cond.fieldLink RX1 29 "LanternWeirs$Fleet" "waxes" "LLanternWeirs$Row;", Cond.fieldLink RX1 32 "LanternWeirs$Fleet" "wets" "LLanternWeirs$Row;", Cond.fieldLink RX1 35 "LanternWeirs$Fleet" "burning" "LLanternWeirs$Row;"]
def wsX3_told_r2 : List Cond := [Cond.fieldLink RX1 38 "LanternWeirs$Fleet" "states" "LLanternWeirs$Row;", Cond.fieldLink RX1 41 "LanternWeirs$Fleet" "ends" "LLanternWeirs$Row;", Cond.methodLink RX1 80 yX2_get, Cond.instanceMethod yX2_get, Cond.selects RX2 yX2_get yX2_get, Cond.initialized RX2, Cond.code yX2_get cX2_get 2 (some .int), Cond.fieldLink RX2 7 "LanternWeirs$Row" "cells" "[I"]
def wsX3_told : List Cond := .code yX3_told cX3_told 3 (some .int) :: ((wsX3_told_r1 ++ wsX3_told_r2) ++ wsX30 ++ wsX10 ++ wsX20 ++ (vx_atS RX3 34 "java/lang/IndexOutOfBoundsException" ["java/lang/RuntimeException", "java/lang/Exception"]).filter goodWord)
def wsX3_nextWeir_r1 : List Cond := [Cond.fieldLink RX3 19 "LanternWeirs" "fleet" "LLanternWeirs$Fleet;", Cond.fieldLink RX3 132 "LanternWeirs$Fleet" "places" "LLanternWeirs$Row;", Cond.fieldLink RX3 10 "LanternWeirs" "bed" "LLanternWeirs$Bed;", Cond.fieldLink RX3 68 "LanternWeirs$Bed" "sprays" "LLanternWeirs$Row;", Cond.methodLink RX3 124 yX1_isAfloat, Cond.instanceMethod yX1_isAfloat, Cond.selects RX1 yX1_isAfloat yX1_isAfloat, Cond.initialized RX1, Cond.code yX1_isAfloat cX1_isAfloat 2 (some .boolean), Cond.fieldLink RX1 38 "LanternWeirs$Fleet" "states" "LLanternWeirs$Row;", Cond.methodLink RX1 76 yX1_has, Cond.instanceMethod yX1_has, Cond.selects RX1 yX1_has yX1_has, Cond.code yX1_has cX1_has 2 (some .boolean), Cond.fieldLink RX1 54 "LanternWeirs$Fleet" "size" "I", Cond.static yX3_isWithin, Cond.initialized RX3, Cond.code yX3_isWithin cX3_isWithin 3 (some .boolean), Cond.methodLink RX1 80 yX2_get, Cond.instanceMethod yX2_get, Cond.selects RX2 yX2_get yX2_get, Cond.initialized RX2, Cond.code yX2_get cX2_get 2 (some .int), Cond.fieldLink RX2 7 "LanternWeirs$Row" "cells" "[I"]
def wsX3_nextWeir_r2 : List Cond := [Cond.methodLink RX3 50 yX2_get]
def wsX3_nextWeir : List Cond := .code yX3_nextWeir cX3_nextWeir 3 (some .int) :: ((wsX3_nextWeir_r1 ++ wsX3_nextWeir_r2) ++ wsX30 ++ wsX10 ++ wsX00 ++ wsX20)
def wsX3_next_r1 : List Cond := [Cond.classLink RX3 30 "java/lang/IndexOutOfBoundsException", Cond.initialized "java/lang/IndexOutOfBoundsException", Cond.fieldLink RX3 19 "LanternWeirs" "fleet" "LLanternWeirs$Fleet;", Cond.methodLink RX3 119 yX1_has, Cond.instanceMethod yX1_has, Cond.selects RX1 yX1_has yX1_has, Cond.initialized RX1, Cond.code yX1_has cX1_has 2 (some .boolean), Cond.fieldLink RX1 54 "LanternWeirs$Fleet" "size" "I", Cond.static yX3_isWithin, Cond.initialized RX3, Cond.code yX3_isWithin cX3_isWithin 3 (some .boolean), Cond.methodLink RX3 162 yX3_nextWeir, Cond.instanceMethod yX3_nextWeir, Cond.selects RX3 yX3_nextWeir yX3_nextWeir, Cond.code yX3_nextWeir cX3_nextWeir 3 (some .int), Cond.fieldLink RX3 132 "LanternWeirs$Fleet" "places" "LLanternWeirs$Row;", Cond.fieldLink RX3 10 "LanternWeirs" "bed" "LLanternWeirs$Bed;", Cond.fieldLink RX3 68 "LanternWeirs$Bed" "sprays" "LLanternWeirs$Row;", Cond.methodLink RX3 124 yX1_isAfloat, Cond.instanceMethod yX1_isAfloat, Cond.selects RX1 yX1_isAfloat yX1_isAfloat, Cond.code yX1_isAfloat cX1_isAfloat 2 (some .boolean), Cond.fieldLink RX1 38 "LanternWeirs$Fleet" "states" "LLanternWeirs$Row;"]
def wsX3_next_r2 : List Cond := [Cond.methodLink RX1 76 yX1_has, Cond.methodLink RX1 80 yX2_get, Cond.instanceMethod yX2_get, Cond.selects RX2 yX2_get yX2_get, Cond.initialized RX2, Cond.code yX2_get cX2_get 2 (some .int), Cond.fieldLink RX2 7 "LanternWeirs$Row" "cells" "[I", Cond.methodLink RX3 50 yX2_get]
def wsX3_next : List Cond := .code yX3_next cX3_next 2 (some .int) :: ((wsX3_next_r1 ++ wsX3_next_r2) ++ wsX30 ++ wsX10 ++ wsX00 ++ wsX20 ++ (vx_atS RX3 34 "java/lang/IndexOutOfBoundsException" ["java/lang/RuntimeException", "java/lang/Exception"]).filter goodWord)
def wsX3_counted_r1 : List Cond := [Cond.fieldLink RX3 19 "LanternWeirs" "fleet" "LLanternWeirs$Fleet;", Cond.fieldLink RX3 200 "LanternWeirs$Fleet" "minute" "I", Cond.fieldLink RX3 110 "LanternWeirs$Fleet" "size" "I", Cond.fieldLink RX3 10 "LanternWeirs" "bed" "LLanternWeirs$Bed;", Cond.fieldLink RX3 64 "LanternWeirs$Bed" "weirs" "I", Cond.fieldLink RX3 82 "LanternWeirs$Bed" "netCount" "I", Cond.methodLink RX3 172 yX1_tally, Cond.instanceMethod yX1_tally, Cond.selects RX1 yX1_tally yX1_tally, Cond.initialized RX1, Cond.code yX1_tally cX1_tally 4 (some .int), Cond.fieldLink RX1 54 "LanternWeirs$Fleet" "size" "I", Cond.methodLink RX1 96 yX1_share, Cond.instanceMethod yX1_share, Cond.selects RX1 yX1_share yX1_share, Cond.code yX1_share cX1_share 5 (some .int), Cond.fieldLink RX1 38 "LanternWeirs$Fleet" "states" "LLanternWeirs$Row;", Cond.fieldLink RX1 35 "LanternWeirs$Fleet" "burning" "LLanternWeirs$Row;", Cond.fieldLink RX1 20 "LanternWeirs$Fleet" "wishes" "LLanternWeirs$Row;", Cond.methodLink RX1 80 yX2_get, Cond.instanceMethod yX2_get, Cond.selects RX2 yX2_get yX2_get, Cond.initialized RX2, Cond.code yX2_get cX2_get 2 (some .int)]
def wsX3_counted_r2 : List Cond := [Cond.fieldLink RX2 7 "LanternWeirs$Row" "cells" "[I"]
def wsX3_counted : List Cond := .code yX3_counted cX3_counted 2 (some .int) :: ((wsX3_counted_r1 ++ wsX3_counted_r2) ++ wsX30 ++ wsX10 ++ wsX00 ++ wsX20)
def wsX3_count_r1 : List Cond := [Cond.classLink RX3 30 "java/lang/IndexOutOfBoundsException", Cond.initialized "java/lang/IndexOutOfBoundsException", Cond.methodLink RX3 37 yX3_isWithin, Cond.static yX3_isWithin, Cond.initialized RX3, Cond.code yX3_isWithin cX3_isWithin 3 (some .boolean), Cond.methodLink RX3 167 yX3_counted, Cond.instanceMethod yX3_counted, Cond.selects RX3 yX3_counted yX3_counted, Cond.code yX3_counted cX3_counted 2 (some .int), Cond.fieldLink RX3 19 "LanternWeirs" "fleet" "LLanternWeirs$Fleet;", Cond.fieldLink RX3 200 "LanternWeirs$Fleet" "minute" "I", Cond.fieldLink RX3 110 "LanternWeirs$Fleet" "size" "I", Cond.fieldLink RX3 10 "LanternWeirs" "bed" "LLanternWeirs$Bed;", Cond.fieldLink RX3 64 "LanternWeirs$Bed" "weirs" "I", Cond.fieldLink RX3 82 "LanternWeirs$Bed" "netCount" "I", Cond.methodLink RX3 172 yX1_tally, Cond.instanceMethod yX1_tally, Cond.selects RX1 yX1_tally yX1_tally, Cond.initialized RX1, Cond.code yX1_tally cX1_tally 4 (some .int), Cond.fieldLink RX1 54 "LanternWeirs$Fleet" "size" "I", Cond.methodLink RX1 96 yX1_share, Cond.instanceMethod yX1_share]
def wsX3_count_r2 : List Cond := [Cond.selects RX1 yX1_share yX1_share, Cond.code yX1_share cX1_share 5 (some .int), Cond.fieldLink RX1 38 "LanternWeirs$Fleet" "states" "LLanternWeirs$Row;", Cond.fieldLink RX1 35 "LanternWeirs$Fleet" "burning" "LLanternWeirs$Row;", Cond.fieldLink RX1 20 "LanternWeirs$Fleet" "wishes" "LLanternWeirs$Row;", Cond.methodLink RX1 80 yX2_get, Cond.instanceMethod yX2_get, Cond.selects RX2 yX2_get yX2_get, Cond.initialized RX2, Cond.code yX2_get cX2_get 2 (some .int), Cond.fieldLink RX2 7 "LanternWeirs$Row" "cells" "[I"]
def wsX3_count : List Cond := .code yX3_count cX3_count 2 (some .int) :: ((wsX3_count_r1 ++ wsX3_count_r2) ++ wsX30 ++ wsX10 ++ wsX00 ++ wsX20 ++ (vx_atS RX3 34 "java/lang/IndexOutOfBoundsException" ["java/lang/RuntimeException", "java/lang/Exception"]).filter goodWord)
def wsX3_pass_r1 : List Cond := [Cond.classLink RX3 41 "java/lang/IllegalArgumentException", Cond.initialized "java/lang/IllegalArgumentException", Cond.fieldLink RX3 19 "LanternWeirs" "fleet" "LLanternWeirs$Fleet;", Cond.fieldLink RX3 10 "LanternWeirs" "bed" "LLanternWeirs$Bed;", Cond.methodLink RX3 37 yX3_isWithin, Cond.static yX3_isWithin, Cond.initialized RX3, Cond.code yX3_isWithin cX3_isWithin 3 (some .boolean), Cond.methodLink RX3 172 yX1_tally, Cond.instanceMethod yX1_tally, Cond.selects RX1 yX1_tally yX1_tally, Cond.initialized RX1, Cond.code yX1_tally cX1_tally 4 (some .int), Cond.fieldLink RX1 54 "LanternWeirs$Fleet" "size" "I", Cond.methodLink RX1 96 yX1_share, Cond.instanceMethod yX1_share, Cond.selects RX1 yX1_share yX1_share, Cond.code yX1_share cX1_share 5 (some .int), Cond.fieldLink RX1 38 "LanternWeirs$Fleet" "states" "LLanternWeirs$Row;", Cond.fieldLink RX1 35 "LanternWeirs$Fleet" "burning" "LLanternWeirs$Row;", Cond.fieldLink RX1 20 "LanternWeirs$Fleet" "wishes" "LLanternWeirs$Row;", Cond.methodLink RX1 80 yX2_get, Cond.instanceMethod yX2_get, Cond.selects RX2 yX2_get yX2_get]
def wsX3_pass_r2 : List Cond := [Cond.initialized RX2, Cond.code yX2_get cX2_get 2 (some .int), Cond.fieldLink RX2 7 "LanternWeirs$Row" "cells" "[I", Cond.methodLink RX3 175 yX1_passMinutes, Cond.instanceMethod yX1_passMinutes, Cond.selects RX1 yX1_passMinutes yX1_passMinutes, Cond.code yX1_passMinutes cX1_passMinutes 6 none, Cond.fieldLink RX1 47 "LanternWeirs$Fleet" "queue" "LLanternWeirs$Row;", Cond.fieldLink RX1 58 "LanternWeirs$Fleet" "minute" "I", Cond.methodLink RX1 100 yX1_lineUp, Cond.instanceMethod yX1_lineUp, Cond.selects RX1 yX1_lineUp yX1_lineUp, Cond.code yX1_lineUp cX1_lineUp 6 (some .int), Cond.fieldLink RX1 26 "LanternWeirs$Fleet" "places" "LLanternWeirs$Row;", Cond.fieldLink RX1 23 "LanternWeirs$Fleet" "lanes" "LLanternWeirs$Row;", Cond.methodLink RX1 111 yX1_isAfloat, Cond.instanceMethod yX1_isAfloat, Cond.selects RX1 yX1_isAfloat yX1_isAfloat, Cond.code yX1_isAfloat cX1_isAfloat 2 (some .boolean), Cond.methodLink RX1 76 yX1_has, Cond.instanceMethod yX1_has, Cond.selects RX1 yX1_has yX1_has, Cond.code yX1_has cX1_has 2 (some .boolean), Cond.methodLink RX1 61 yX2_put]
def wsX3_pass_r3 : List Cond := [Cond.instanceMethod yX2_put, Cond.selects RX2 yX2_put yX2_put, Cond.code yX2_put cX2_put 3 none, Cond.methodLink RX1 104 yX1_drift, Cond.instanceMethod yX1_drift, Cond.selects RX1 yX1_drift yX1_drift, Cond.code yX1_drift cX1_drift 7 none, Cond.fieldLink RX1 114 "LanternWeirs$Bed" "currents" "LLanternWeirs$Row;", Cond.fieldLink RX1 129 "LanternWeirs$Bed" "sprays" "LLanternWeirs$Row;", Cond.methodLink RX1 119 yX1_catchesAhead, Cond.instanceMethod yX1_catchesAhead, Cond.selects RX1 yX1_catchesAhead yX1_catchesAhead, Cond.code yX1_catchesAhead cX1_catchesAhead 4 (some .boolean), Cond.fieldLink RX1 16 "LanternWeirs$Fleet" "frames" "LLanternWeirs$Row;", Cond.fieldLink RX1 44 "LanternWeirs$Fleet" "crowd" "LLanternWeirs$Row;", Cond.methodLink RX1 92 yX1_cell, Cond.static yX1_cell, Cond.code yX1_cell cX1_cell 3 (some .int), Cond.methodLink RX1 122 yX1_moveTo, Cond.instanceMethod yX1_moveTo, Cond.selects RX1 yX1_moveTo yX1_moveTo, Cond.code yX1_moveTo cX1_moveTo 4 none, Cond.methodLink RX1 69 yX1_crowdBy, Cond.instanceMethod yX1_crowdBy]
def wsX3_pass_r4 : List Cond := [Cond.selects RX1 yX1_crowdBy yX1_crowdBy, Cond.code yX1_crowdBy cX1_crowdBy 4 none, Cond.methodLink RX1 126 yX1_leave, Cond.instanceMethod yX1_leave, Cond.selects RX1 yX1_leave yX1_leave, Cond.code yX1_leave cX1_leave 3 none, Cond.fieldLink RX1 41 "LanternWeirs$Fleet" "ends" "LLanternWeirs$Row;", Cond.methodLink RX1 132 yX1_meetWeir, Cond.instanceMethod yX1_meetWeir, Cond.selects RX1 yX1_meetWeir yX1_meetWeir, Cond.code yX1_meetWeir cX1_meetWeir 6 none, Cond.fieldLink RX1 32 "LanternWeirs$Fleet" "wets" "LLanternWeirs$Row;", Cond.methodLink RX1 89 yX1_isSoaked, Cond.instanceMethod yX1_isSoaked, Cond.selects RX1 yX1_isSoaked yX1_isSoaked, Cond.code yX1_isSoaked cX1_isSoaked 2 (some .boolean), Cond.static yX3_sprayTakenBy, Cond.code yX3_sprayTakenBy cX3_sprayTakenBy 1 (some .int), Cond.methodLink RX1 135 yX0_hasNet, Cond.instanceMethod yX0_hasNet, Cond.selects RX0 yX0_hasNet yX0_hasNet, Cond.initialized RX0, Cond.code yX0_hasNet cX0_hasNet 3 (some .boolean), Cond.fieldLink RX0 23 "LanternWeirs$Bed" "nets" "LLanternWeirs$Row;"]
def wsX3_pass_r5 : List Cond := [Cond.methodLink RX0 37 yX2_get, Cond.methodLink RX1 108 yX1_useWax, Cond.instanceMethod yX1_useWax, Cond.selects RX1 yX1_useWax yX1_useWax, Cond.code yX1_useWax cX1_useWax 3 none, Cond.fieldLink RX1 29 "LanternWeirs$Fleet" "waxes" "LLanternWeirs$Row;", Cond.methodLink RX1 86 yX1_isBurning, Cond.instanceMethod yX1_isBurning, Cond.selects RX1 yX1_isBurning yX1_isBurning, Cond.code yX1_isBurning cX1_isBurning 2 (some .boolean)]
def wsX3_pass : List Cond := .code yX3_pass cX3_pass 3 (some .int) :: ((wsX3_pass_r1 ++ (wsX3_pass_r2 ++ (wsX3_pass_r3 ++ (wsX3_pass_r4 ++ wsX3_pass_r5)))) ++ wsX30 ++ wsX10 ++ wsX20 ++ wsX00 ++ (vx_atS RX3 45 "java/lang/IllegalArgumentException" ["java/lang/RuntimeException", "java/lang/Exception"]).filter goodWord)
def wsX3_burns_r1 : List Cond := [Cond.classLink RX3 30 "java/lang/IndexOutOfBoundsException", Cond.initialized "java/lang/IndexOutOfBoundsException", Cond.fieldLink RX3 19 "LanternWeirs" "fleet" "LLanternWeirs$Fleet;", Cond.fieldLink RX3 23 "LanternWeirs" "dream" "LLanternWeirs$Fleet;", Cond.fieldLink RX3 10 "LanternWeirs" "bed" "LLanternWeirs$Bed;", Cond.methodLink RX3 119 yX1_has, Cond.instanceMethod yX1_has, Cond.selects RX1 yX1_has yX1_has, Cond.initialized RX1, Cond.code yX1_has cX1_has 2 (some .boolean), Cond.fieldLink RX1 54 "LanternWeirs$Fleet" "size" "I", Cond.static yX3_isWithin, Cond.initialized RX3, Cond.code yX3_isWithin cX3_isWithin 3 (some .boolean), Cond.methodLink RX3 179 yX1_copy, Cond.instanceMethod yX1_copy, Cond.selects RX1 yX1_copy yX1_copy, Cond.code yX1_copy cX1_copy 2 none, Cond.fieldLink RX1 16 "LanternWeirs$Fleet" "frames" "LLanternWeirs$Row;", Cond.fieldLink RX1 20 "LanternWeirs$Fleet" "wishes" "LLanternWeirs$Row;", Cond.fieldLink RX1 23 "LanternWeirs$Fleet" "lanes" "LLanternWeirs$Row;", Cond.fieldLink RX1 26 "LanternWeirs$Fleet" "places" "LLanternWeirs$Row;", Cond.fieldLink RX1 29 "LanternWeirs$Fleet" "waxes" "LLanternWeirs$Row;", Cond.fieldLink RX1 32 "LanternWeirs$Fleet" "wets" "LLanternWeirs$Row;"]
def wsX3_burns_r2 : List Cond := [Cond.fieldLink RX1 35 "LanternWeirs$Fleet" "burning" "LLanternWeirs$Row;", Cond.fieldLink RX1 38 "LanternWeirs$Fleet" "states" "LLanternWeirs$Row;", Cond.fieldLink RX1 41 "LanternWeirs$Fleet" "ends" "LLanternWeirs$Row;", Cond.fieldLink RX1 44 "LanternWeirs$Fleet" "crowd" "LLanternWeirs$Row;", Cond.fieldLink RX1 58 "LanternWeirs$Fleet" "minute" "I", Cond.methodLink RX1 50 yX2_copy, Cond.instanceMethod yX2_copy, Cond.selects RX2 yX2_copy yX2_copy, Cond.initialized RX2, Cond.code yX2_copy cX2_copy 3 none, Cond.fieldLink RX2 7 "LanternWeirs$Row" "cells" "[I", Cond.methodLink RX2 13 yX2_get, Cond.instanceMethod yX2_get, Cond.selects RX2 yX2_get yX2_get, Cond.code yX2_get cX2_get 2 (some .int), Cond.methodLink RX3 152 yX1_isBurning, Cond.instanceMethod yX1_isBurning, Cond.selects RX1 yX1_isBurning yX1_isBurning, Cond.code yX1_isBurning cX1_isBurning 2 (some .boolean), Cond.methodLink RX1 76 yX1_has, Cond.methodLink RX1 80 yX2_get, Cond.methodLink RX3 175 yX1_passMinutes, Cond.instanceMethod yX1_passMinutes, Cond.selects RX1 yX1_passMinutes yX1_passMinutes]
def wsX3_burns_r3 : List Cond := [Cond.code yX1_passMinutes cX1_passMinutes 6 none, Cond.fieldLink RX1 47 "LanternWeirs$Fleet" "queue" "LLanternWeirs$Row;", Cond.methodLink RX1 100 yX1_lineUp, Cond.instanceMethod yX1_lineUp, Cond.selects RX1 yX1_lineUp yX1_lineUp, Cond.code yX1_lineUp cX1_lineUp 6 (some .int), Cond.methodLink RX1 111 yX1_isAfloat, Cond.instanceMethod yX1_isAfloat, Cond.selects RX1 yX1_isAfloat yX1_isAfloat, Cond.code yX1_isAfloat cX1_isAfloat 2 (some .boolean), Cond.methodLink RX1 61 yX2_put, Cond.instanceMethod yX2_put, Cond.selects RX2 yX2_put yX2_put, Cond.code yX2_put cX2_put 3 none, Cond.methodLink RX1 104 yX1_drift, Cond.instanceMethod yX1_drift, Cond.selects RX1 yX1_drift yX1_drift, Cond.code yX1_drift cX1_drift 7 none, Cond.fieldLink RX1 114 "LanternWeirs$Bed" "currents" "LLanternWeirs$Row;", Cond.fieldLink RX1 129 "LanternWeirs$Bed" "sprays" "LLanternWeirs$Row;", Cond.methodLink RX1 119 yX1_catchesAhead, Cond.instanceMethod yX1_catchesAhead, Cond.selects RX1 yX1_catchesAhead yX1_catchesAhead, Cond.code yX1_catchesAhead cX1_catchesAhead 4 (some .boolean)]
def wsX3_burns_r4 : List Cond := [Cond.methodLink RX1 92 yX1_cell, Cond.static yX1_cell, Cond.code yX1_cell cX1_cell 3 (some .int), Cond.methodLink RX1 122 yX1_moveTo, Cond.instanceMethod yX1_moveTo, Cond.selects RX1 yX1_moveTo yX1_moveTo, Cond.code yX1_moveTo cX1_moveTo 4 none, Cond.methodLink RX1 69 yX1_crowdBy, Cond.instanceMethod yX1_crowdBy, Cond.selects RX1 yX1_crowdBy yX1_crowdBy, Cond.code yX1_crowdBy cX1_crowdBy 4 none, Cond.methodLink RX1 126 yX1_leave, Cond.instanceMethod yX1_leave, Cond.selects RX1 yX1_leave yX1_leave, Cond.code yX1_leave cX1_leave 3 none, Cond.methodLink RX1 132 yX1_meetWeir, Cond.instanceMethod yX1_meetWeir, Cond.selects RX1 yX1_meetWeir yX1_meetWeir, Cond.code yX1_meetWeir cX1_meetWeir 6 none, Cond.methodLink RX1 89 yX1_isSoaked, Cond.instanceMethod yX1_isSoaked, Cond.selects RX1 yX1_isSoaked yX1_isSoaked, Cond.code yX1_isSoaked cX1_isSoaked 2 (some .boolean), Cond.static yX3_sprayTakenBy]
def wsX3_burns_r5 : List Cond := [Cond.code yX3_sprayTakenBy cX3_sprayTakenBy 1 (some .int), Cond.methodLink RX1 135 yX0_hasNet, Cond.instanceMethod yX0_hasNet, Cond.selects RX0 yX0_hasNet yX0_hasNet, Cond.initialized RX0, Cond.code yX0_hasNet cX0_hasNet 3 (some .boolean), Cond.fieldLink RX0 23 "LanternWeirs$Bed" "nets" "LLanternWeirs$Row;", Cond.methodLink RX0 37 yX2_get, Cond.methodLink RX1 108 yX1_useWax, Cond.instanceMethod yX1_useWax, Cond.selects RX1 yX1_useWax yX1_useWax, Cond.code yX1_useWax cX1_useWax 3 none, Cond.methodLink RX1 86 yX1_isBurning]
def wsX3_burns : List Cond := .code yX3_burns cX3_burns 3 (some .int) :: ((wsX3_burns_r1 ++ (wsX3_burns_r2 ++ (wsX3_burns_r3 ++ (wsX3_burns_r4 ++ wsX3_burns_r5)))) ++ wsX30 ++ wsX10 ++ wsX20 ++ wsX00 ++ (vx_atS RX3 34 "java/lang/IndexOutOfBoundsException" ["java/lang/RuntimeException", "java/lang/Exception"]).filter goodWord)
def wsX3_foresee_r1 : List Cond := [Cond.classLink RX3 41 "java/lang/IllegalArgumentException", Cond.initialized "java/lang/IllegalArgumentException", Cond.classLink RX3 30 "java/lang/IndexOutOfBoundsException", Cond.initialized "java/lang/IndexOutOfBoundsException", Cond.fieldLink RX3 23 "LanternWeirs" "dream" "LLanternWeirs$Fleet;", Cond.fieldLink RX3 19 "LanternWeirs" "fleet" "LLanternWeirs$Fleet;", Cond.fieldLink RX3 10 "LanternWeirs" "bed" "LLanternWeirs$Bed;", Cond.methodLink RX3 37 yX3_isWithin, Cond.static yX3_isWithin, Cond.initialized RX3, Cond.code yX3_isWithin cX3_isWithin 3 (some .boolean), Cond.methodLink RX3 179 yX1_copy, Cond.instanceMethod yX1_copy, Cond.selects RX1 yX1_copy yX1_copy, Cond.initialized RX1, Cond.code yX1_copy cX1_copy 2 none, Cond.fieldLink RX1 16 "LanternWeirs$Fleet" "frames" "LLanternWeirs$Row;", Cond.fieldLink RX1 20 "LanternWeirs$Fleet" "wishes" "LLanternWeirs$Row;", Cond.fieldLink RX1 23 "LanternWeirs$Fleet" "lanes" "LLanternWeirs$Row;", Cond.fieldLink RX1 26 "LanternWeirs$Fleet" "places" "LLanternWeirs$Row;", Cond.fieldLink RX1 29 "LanternWeirs$Fleet" "waxes" "LLanternWeirs$Row;", Cond.fieldLink RX1 32 "LanternWeirs$Fleet" "wets" "LLanternWeirs$Row;", Cond.fieldLink RX1 35 "LanternWeirs$Fleet" "burning" "LLanternWeirs$Row;", Cond.fieldLink RX1 38 "LanternWeirs$Fleet" "states" "LLanternWeirs$Row;"]
def wsX3_foresee_r2 : List Cond := [Cond.fieldLink RX1 41 "LanternWeirs$Fleet" "ends" "LLanternWeirs$Row;", Cond.fieldLink RX1 44 "LanternWeirs$Fleet" "crowd" "LLanternWeirs$Row;", Cond.fieldLink RX1 54 "LanternWeirs$Fleet" "size" "I", Cond.fieldLink RX1 58 "LanternWeirs$Fleet" "minute" "I", Cond.methodLink RX1 50 yX2_copy, Cond.instanceMethod yX2_copy, Cond.selects RX2 yX2_copy yX2_copy, Cond.initialized RX2, Cond.code yX2_copy cX2_copy 3 none, Cond.fieldLink RX2 7 "LanternWeirs$Row" "cells" "[I", Cond.methodLink RX2 13 yX2_get, Cond.instanceMethod yX2_get, Cond.selects RX2 yX2_get yX2_get, Cond.code yX2_get cX2_get 2 (some .int), Cond.methodLink RX3 175 yX1_passMinutes, Cond.instanceMethod yX1_passMinutes, Cond.selects RX1 yX1_passMinutes yX1_passMinutes, Cond.code yX1_passMinutes cX1_passMinutes 6 none, Cond.fieldLink RX1 47 "LanternWeirs$Fleet" "queue" "LLanternWeirs$Row;", Cond.methodLink RX1 100 yX1_lineUp, Cond.instanceMethod yX1_lineUp, Cond.selects RX1 yX1_lineUp yX1_lineUp, Cond.code yX1_lineUp cX1_lineUp 6 (some .int), Cond.methodLink RX1 111 yX1_isAfloat]
def wsX3_foresee_r3 : List Cond := [Cond.instanceMethod yX1_isAfloat, Cond.selects RX1 yX1_isAfloat yX1_isAfloat, Cond.code yX1_isAfloat cX1_isAfloat 2 (some .boolean), Cond.methodLink RX1 76 yX1_has, Cond.instanceMethod yX1_has, Cond.selects RX1 yX1_has yX1_has, Cond.code yX1_has cX1_has 2 (some .boolean), Cond.methodLink RX1 80 yX2_get, Cond.methodLink RX1 61 yX2_put, Cond.instanceMethod yX2_put, Cond.selects RX2 yX2_put yX2_put, Cond.code yX2_put cX2_put 3 none, Cond.methodLink RX1 104 yX1_drift, Cond.instanceMethod yX1_drift, Cond.selects RX1 yX1_drift yX1_drift, Cond.code yX1_drift cX1_drift 7 none, Cond.fieldLink RX1 114 "LanternWeirs$Bed" "currents" "LLanternWeirs$Row;", Cond.fieldLink RX1 129 "LanternWeirs$Bed" "sprays" "LLanternWeirs$Row;", Cond.methodLink RX1 119 yX1_catchesAhead, Cond.instanceMethod yX1_catchesAhead, Cond.selects RX1 yX1_catchesAhead yX1_catchesAhead, Cond.code yX1_catchesAhead cX1_catchesAhead 4 (some .boolean), Cond.methodLink RX1 92 yX1_cell, Cond.static yX1_cell]
def wsX3_foresee_r4 : List Cond := [Cond.code yX1_cell cX1_cell 3 (some .int), Cond.methodLink RX1 122 yX1_moveTo, Cond.instanceMethod yX1_moveTo, Cond.selects RX1 yX1_moveTo yX1_moveTo, Cond.code yX1_moveTo cX1_moveTo 4 none, Cond.methodLink RX1 69 yX1_crowdBy, Cond.instanceMethod yX1_crowdBy, Cond.selects RX1 yX1_crowdBy yX1_crowdBy, Cond.code yX1_crowdBy cX1_crowdBy 4 none, Cond.methodLink RX1 126 yX1_leave, Cond.instanceMethod yX1_leave, Cond.selects RX1 yX1_leave yX1_leave, Cond.code yX1_leave cX1_leave 3 none, Cond.methodLink RX1 132 yX1_meetWeir, Cond.instanceMethod yX1_meetWeir, Cond.selects RX1 yX1_meetWeir yX1_meetWeir, Cond.code yX1_meetWeir cX1_meetWeir 6 none, Cond.methodLink RX1 89 yX1_isSoaked, Cond.instanceMethod yX1_isSoaked, Cond.selects RX1 yX1_isSoaked yX1_isSoaked, Cond.code yX1_isSoaked cX1_isSoaked 2 (some .boolean), Cond.static yX3_sprayTakenBy, Cond.code yX3_sprayTakenBy cX3_sprayTakenBy 1 (some .int), Cond.methodLink RX1 135 yX0_hasNet]
def wsX3_foresee_r5 : List Cond := [Cond.instanceMethod yX0_hasNet, Cond.selects RX0 yX0_hasNet yX0_hasNet, Cond.initialized RX0, Cond.code yX0_hasNet cX0_hasNet 3 (some .boolean), Cond.fieldLink RX0 23 "LanternWeirs$Bed" "nets" "LLanternWeirs$Row;", Cond.methodLink RX0 37 yX2_get, Cond.methodLink RX1 108 yX1_useWax, Cond.instanceMethod yX1_useWax, Cond.selects RX1 yX1_useWax yX1_useWax, Cond.code yX1_useWax cX1_useWax 3 none, Cond.methodLink RX1 86 yX1_isBurning, Cond.instanceMethod yX1_isBurning, Cond.selects RX1 yX1_isBurning yX1_isBurning, Cond.code yX1_isBurning cX1_isBurning 2 (some .boolean), Cond.methodLink RX3 172 yX1_tally, Cond.instanceMethod yX1_tally, Cond.selects RX1 yX1_tally yX1_tally, Cond.code yX1_tally cX1_tally 4 (some .int), Cond.methodLink RX1 96 yX1_share, Cond.instanceMethod yX1_share, Cond.selects RX1 yX1_share yX1_share, Cond.code yX1_share cX1_share 5 (some .int)]
def wsX3_foresee : List Cond := .code yX3_foresee cX3_foresee 3 (some .int) :: ((wsX3_foresee_r1 ++ (wsX3_foresee_r2 ++ (wsX3_foresee_r3 ++ (wsX3_foresee_r4 ++ wsX3_foresee_r5)))) ++ wsX30 ++ wsX10 ++ wsX20 ++ wsX00 ++ (vx_atS RX3 45 "java/lang/IllegalArgumentException" ["java/lang/RuntimeException", "java/lang/Exception"]).filter goodWord ++ (vx_atS RX3 34 "java/lang/IndexOutOfBoundsException" ["java/lang/RuntimeException", "java/lang/Exception"]).filter goodWord)
def wsX3_minutesToNet_r1 : List Cond := [Cond.fieldLink RX3 23 "LanternWeirs" "dream" "LLanternWeirs$Fleet;", Cond.fieldLink RX3 19 "LanternWeirs" "fleet" "LLanternWeirs$Fleet;", Cond.fieldLink RX3 10 "LanternWeirs" "bed" "LLanternWeirs$Bed;", Cond.fieldLink RX3 203 "LanternWeirs$Fleet" "states" "LLanternWeirs$Row;", Cond.methodLink RX3 179 yX1_copy, Cond.instanceMethod yX1_copy, Cond.selects RX1 yX1_copy yX1_copy, Cond.initialized RX1, Cond.code yX1_copy cX1_copy 2 none, Cond.fieldLink RX1 16 "LanternWeirs$Fleet" "frames" "LLanternWeirs$Row;", Cond.fieldLink RX1 20 "LanternWeirs$Fleet" "wishes" "LLanternWeirs$Row;", Cond.fieldLink RX1 23 "LanternWeirs$Fleet" "lanes" "LLanternWeirs$Row;", Cond.fieldLink RX1 26 "LanternWeirs$Fleet" "places" "LLanternWeirs$Row;", Cond.fieldLink RX1 29 "LanternWeirs$Fleet" "waxes" "LLanternWeirs$Row;", Cond.fieldLink RX1 32 "LanternWeirs$Fleet" "wets" "LLanternWeirs$Row;", Cond.fieldLink RX1 35 "LanternWeirs$Fleet" "burning" "LLanternWeirs$Row;", Cond.fieldLink RX1 38 "LanternWeirs$Fleet" "states" "LLanternWeirs$Row;", Cond.fieldLink RX1 41 "LanternWeirs$Fleet" "ends" "LLanternWeirs$Row;", Cond.fieldLink RX1 44 "LanternWeirs$Fleet" "crowd" "LLanternWeirs$Row;", Cond.fieldLink RX1 54 "LanternWeirs$Fleet" "size" "I", Cond.fieldLink RX1 58 "LanternWeirs$Fleet" "minute" "I", Cond.methodLink RX1 50 yX2_copy, Cond.instanceMethod yX2_copy, Cond.selects RX2 yX2_copy yX2_copy]
def wsX3_minutesToNet_r2 : List Cond := [Cond.initialized RX2, Cond.code yX2_copy cX2_copy 3 none, Cond.fieldLink RX2 7 "LanternWeirs$Row" "cells" "[I", Cond.methodLink RX2 13 yX2_get, Cond.instanceMethod yX2_get, Cond.selects RX2 yX2_get yX2_get, Cond.code yX2_get cX2_get 2 (some .int), Cond.methodLink RX3 115 yX1_add, Cond.instanceMethod yX1_add, Cond.selects RX1 yX1_add yX1_add, Cond.code yX1_add cX1_add 6 (some .int), Cond.methodLink RX1 61 yX2_put, Cond.instanceMethod yX2_put, Cond.selects RX2 yX2_put yX2_put, Cond.code yX2_put cX2_put 3 none, Cond.static yX3_waxOf, Cond.initialized RX3, Cond.code yX3_waxOf cX3_waxOf 1 (some .int), Cond.methodLink RX1 69 yX1_crowdBy, Cond.instanceMethod yX1_crowdBy, Cond.selects RX1 yX1_crowdBy yX1_crowdBy, Cond.code yX1_crowdBy cX1_crowdBy 4 none, Cond.methodLink RX1 80 yX2_get, Cond.methodLink RX1 92 yX1_cell]
def wsX3_minutesToNet_r3 : List Cond := [Cond.static yX1_cell, Cond.code yX1_cell cX1_cell 3 (some .int), Cond.methodLink RX3 152 yX1_isBurning, Cond.instanceMethod yX1_isBurning, Cond.selects RX1 yX1_isBurning yX1_isBurning, Cond.code yX1_isBurning cX1_isBurning 2 (some .boolean), Cond.methodLink RX1 76 yX1_has, Cond.instanceMethod yX1_has, Cond.selects RX1 yX1_has yX1_has, Cond.code yX1_has cX1_has 2 (some .boolean), Cond.static yX3_isWithin, Cond.code yX3_isWithin cX3_isWithin 3 (some .boolean), Cond.methodLink RX3 175 yX1_passMinutes, Cond.instanceMethod yX1_passMinutes, Cond.selects RX1 yX1_passMinutes yX1_passMinutes, Cond.code yX1_passMinutes cX1_passMinutes 6 none, Cond.fieldLink RX1 47 "LanternWeirs$Fleet" "queue" "LLanternWeirs$Row;", Cond.methodLink RX1 100 yX1_lineUp, Cond.instanceMethod yX1_lineUp, Cond.selects RX1 yX1_lineUp yX1_lineUp, Cond.code yX1_lineUp cX1_lineUp 6 (some .int), Cond.methodLink RX1 111 yX1_isAfloat, Cond.instanceMethod yX1_isAfloat, Cond.selects RX1 yX1_isAfloat yX1_isAfloat]
def wsX3_minutesToNet_r4 : List Cond := [Cond.code yX1_isAfloat cX1_isAfloat 2 (some .boolean), Cond.methodLink RX1 104 yX1_drift, Cond.instanceMethod yX1_drift, Cond.selects RX1 yX1_drift yX1_drift, Cond.code yX1_drift cX1_drift 7 none, Cond.fieldLink RX1 114 "LanternWeirs$Bed" "currents" "LLanternWeirs$Row;", Cond.fieldLink RX1 129 "LanternWeirs$Bed" "sprays" "LLanternWeirs$Row;", Cond.methodLink RX1 119 yX1_catchesAhead, Cond.instanceMethod yX1_catchesAhead, Cond.selects RX1 yX1_catchesAhead yX1_catchesAhead, Cond.code yX1_catchesAhead cX1_catchesAhead 4 (some .boolean), Cond.methodLink RX1 122 yX1_moveTo, Cond.instanceMethod yX1_moveTo, Cond.selects RX1 yX1_moveTo yX1_moveTo, Cond.code yX1_moveTo cX1_moveTo 4 none, Cond.methodLink RX1 126 yX1_leave, Cond.instanceMethod yX1_leave, Cond.selects RX1 yX1_leave yX1_leave, Cond.code yX1_leave cX1_leave 3 none, Cond.methodLink RX1 132 yX1_meetWeir, Cond.instanceMethod yX1_meetWeir, Cond.selects RX1 yX1_meetWeir yX1_meetWeir, Cond.code yX1_meetWeir cX1_meetWeir 6 none, Cond.methodLink RX1 89 yX1_isSoaked]
def wsX3_minutesToNet_r5 : List Cond := [Cond.instanceMethod yX1_isSoaked, Cond.selects RX1 yX1_isSoaked yX1_isSoaked, Cond.code yX1_isSoaked cX1_isSoaked 2 (some .boolean), Cond.static yX3_sprayTakenBy, Cond.code yX3_sprayTakenBy cX3_sprayTakenBy 1 (some .int), Cond.methodLink RX1 135 yX0_hasNet, Cond.instanceMethod yX0_hasNet, Cond.selects RX0 yX0_hasNet yX0_hasNet, Cond.initialized RX0, Cond.code yX0_hasNet cX0_hasNet 3 (some .boolean), Cond.fieldLink RX0 23 "LanternWeirs$Bed" "nets" "LLanternWeirs$Row;", Cond.methodLink RX0 37 yX2_get, Cond.methodLink RX1 108 yX1_useWax, Cond.instanceMethod yX1_useWax, Cond.selects RX1 yX1_useWax yX1_useWax, Cond.code yX1_useWax cX1_useWax 3 none, Cond.methodLink RX1 86 yX1_isBurning, Cond.methodLink RX3 50 yX2_get]
def wsX3_minutesToNet : List Cond := .code yX3_minutesToNet cX3_minutesToNet 5 (some .int) :: ((wsX3_minutesToNet_r1 ++ (wsX3_minutesToNet_r2 ++ (wsX3_minutesToNet_r3 ++ (wsX3_minutesToNet_r4 ++ wsX3_minutesToNet_r5)))) ++ wsX30 ++ wsX10 ++ wsX20 ++ wsX00)
def wsX3_advise_r1 : List Cond := [Cond.classLink RX3 30 "java/lang/IndexOutOfBoundsException", Cond.initialized "java/lang/IndexOutOfBoundsException", Cond.methodLink RX3 103 yX3_isFrame, Cond.static yX3_isFrame, Cond.initialized RX3, Cond.code yX3_isFrame cX3_isFrame 1 (some .boolean), Cond.methodLink RX3 37 yX3_isWithin, Cond.static yX3_isWithin, Cond.code yX3_isWithin cX3_isWithin 3 (some .boolean), Cond.methodLink RX3 187 yX3_minutesToNet, Cond.instanceMethod yX3_minutesToNet, Cond.selects RX3 yX3_minutesToNet yX3_minutesToNet, Cond.code yX3_minutesToNet cX3_minutesToNet 5 (some .int), Cond.fieldLink RX3 23 "LanternWeirs" "dream" "LLanternWeirs$Fleet;", Cond.fieldLink RX3 19 "LanternWeirs" "fleet" "LLanternWeirs$Fleet;", Cond.fieldLink RX3 10 "LanternWeirs" "bed" "LLanternWeirs$Bed;", Cond.fieldLink RX3 203 "LanternWeirs$Fleet" "states" "LLanternWeirs$Row;", Cond.methodLink RX3 179 yX1_copy, Cond.instanceMethod yX1_copy, Cond.selects RX1 yX1_copy yX1_copy, Cond.initialized RX1, Cond.code yX1_copy cX1_copy 2 none, Cond.fieldLink RX1 16 "LanternWeirs$Fleet" "frames" "LLanternWeirs$Row;", Cond.fieldLink RX1 20 "LanternWeirs$Fleet" "wishes" "LLanternWeirs$Row;"]
def wsX3_advise_r2 : List Cond := [Cond.fieldLink RX1 23 "LanternWeirs$Fleet" "lanes" "LLanternWeirs$Row;", Cond.fieldLink RX1 26 "LanternWeirs$Fleet" "places" "LLanternWeirs$Row;", Cond.fieldLink RX1 29 "LanternWeirs$Fleet" "waxes" "LLanternWeirs$Row;", Cond.fieldLink RX1 32 "LanternWeirs$Fleet" "wets" "LLanternWeirs$Row;", Cond.fieldLink RX1 35 "LanternWeirs$Fleet" "burning" "LLanternWeirs$Row;", Cond.fieldLink RX1 38 "LanternWeirs$Fleet" "states" "LLanternWeirs$Row;", Cond.fieldLink RX1 41 "LanternWeirs$Fleet" "ends" "LLanternWeirs$Row;", Cond.fieldLink RX1 44 "LanternWeirs$Fleet" "crowd" "LLanternWeirs$Row;", Cond.fieldLink RX1 54 "LanternWeirs$Fleet" "size" "I", Cond.fieldLink RX1 58 "LanternWeirs$Fleet" "minute" "I", Cond.methodLink RX1 50 yX2_copy, Cond.instanceMethod yX2_copy, Cond.selects RX2 yX2_copy yX2_copy, Cond.initialized RX2, Cond.code yX2_copy cX2_copy 3 none, Cond.fieldLink RX2 7 "LanternWeirs$Row" "cells" "[I", Cond.methodLink RX2 13 yX2_get, Cond.instanceMethod yX2_get, Cond.selects RX2 yX2_get yX2_get, Cond.code yX2_get cX2_get 2 (some .int), Cond.methodLink RX3 115 yX1_add, Cond.instanceMethod yX1_add, Cond.selects RX1 yX1_add yX1_add, Cond.code yX1_add cX1_add 6 (some .int)]
def wsX3_advise_r3 : List Cond := [Cond.methodLink RX1 61 yX2_put, Cond.instanceMethod yX2_put, Cond.selects RX2 yX2_put yX2_put, Cond.code yX2_put cX2_put 3 none, Cond.static yX3_waxOf, Cond.code yX3_waxOf cX3_waxOf 1 (some .int), Cond.methodLink RX1 69 yX1_crowdBy, Cond.instanceMethod yX1_crowdBy, Cond.selects RX1 yX1_crowdBy yX1_crowdBy, Cond.code yX1_crowdBy cX1_crowdBy 4 none, Cond.methodLink RX1 80 yX2_get, Cond.methodLink RX1 92 yX1_cell, Cond.static yX1_cell, Cond.code yX1_cell cX1_cell 3 (some .int), Cond.methodLink RX3 152 yX1_isBurning, Cond.instanceMethod yX1_isBurning, Cond.selects RX1 yX1_isBurning yX1_isBurning, Cond.code yX1_isBurning cX1_isBurning 2 (some .boolean), Cond.methodLink RX1 76 yX1_has, Cond.instanceMethod yX1_has, Cond.selects RX1 yX1_has yX1_has, Cond.code yX1_has cX1_has 2 (some .boolean), Cond.methodLink RX3 175 yX1_passMinutes, Cond.instanceMethod yX1_passMinutes]
def wsX3_advise_r4 : List Cond := [Cond.selects RX1 yX1_passMinutes yX1_passMinutes, Cond.code yX1_passMinutes cX1_passMinutes 6 none, Cond.fieldLink RX1 47 "LanternWeirs$Fleet" "queue" "LLanternWeirs$Row;", Cond.methodLink RX1 100 yX1_lineUp, Cond.instanceMethod yX1_lineUp, Cond.selects RX1 yX1_lineUp yX1_lineUp, Cond.code yX1_lineUp cX1_lineUp 6 (some .int), Cond.methodLink RX1 111 yX1_isAfloat, Cond.instanceMethod yX1_isAfloat, Cond.selects RX1 yX1_isAfloat yX1_isAfloat, Cond.code yX1_isAfloat cX1_isAfloat 2 (some .boolean), Cond.methodLink RX1 104 yX1_drift, Cond.instanceMethod yX1_drift, Cond.selects RX1 yX1_drift yX1_drift, Cond.code yX1_drift cX1_drift 7 none, Cond.fieldLink RX1 114 "LanternWeirs$Bed" "currents" "LLanternWeirs$Row;", Cond.fieldLink RX1 129 "LanternWeirs$Bed" "sprays" "LLanternWeirs$Row;", Cond.methodLink RX1 119 yX1_catchesAhead, Cond.instanceMethod yX1_catchesAhead, Cond.selects RX1 yX1_catchesAhead yX1_catchesAhead, Cond.code yX1_catchesAhead cX1_catchesAhead 4 (some .boolean), Cond.methodLink RX1 122 yX1_moveTo, Cond.instanceMethod yX1_moveTo, Cond.selects RX1 yX1_moveTo yX1_moveTo]
def wsX3_advise_r5 : List Cond := [Cond.code yX1_moveTo cX1_moveTo 4 none, Cond.methodLink RX1 126 yX1_leave, Cond.instanceMethod yX1_leave, Cond.selects RX1 yX1_leave yX1_leave, Cond.code yX1_leave cX1_leave 3 none, Cond.methodLink RX1 132 yX1_meetWeir, Cond.instanceMethod yX1_meetWeir, Cond.selects RX1 yX1_meetWeir yX1_meetWeir, Cond.code yX1_meetWeir cX1_meetWeir 6 none, Cond.methodLink RX1 89 yX1_isSoaked, Cond.instanceMethod yX1_isSoaked, Cond.selects RX1 yX1_isSoaked yX1_isSoaked, Cond.code yX1_isSoaked cX1_isSoaked 2 (some .boolean), Cond.static yX3_sprayTakenBy, Cond.code yX3_sprayTakenBy cX3_sprayTakenBy 1 (some .int), Cond.methodLink RX1 135 yX0_hasNet, Cond.instanceMethod yX0_hasNet, Cond.selects RX0 yX0_hasNet yX0_hasNet, Cond.initialized RX0, Cond.code yX0_hasNet cX0_hasNet 3 (some .boolean), Cond.fieldLink RX0 23 "LanternWeirs$Bed" "nets" "LLanternWeirs$Row;", Cond.methodLink RX0 37 yX2_get, Cond.methodLink RX1 108 yX1_useWax, Cond.instanceMethod yX1_useWax]
def wsX3_advise_r6 : List Cond := [Cond.selects RX1 yX1_useWax yX1_useWax, Cond.code yX1_useWax cX1_useWax 3 none, Cond.methodLink RX1 86 yX1_isBurning, Cond.methodLink RX3 50 yX2_get]
def wsX3_advise : List Cond := .code yX3_advise cX3_advise 6 (some .int) :: ((wsX3_advise_r1 ++ (wsX3_advise_r2 ++ (wsX3_advise_r3 ++ (wsX3_advise_r4 ++ (wsX3_advise_r5 ++ wsX3_advise_r6))))) ++ wsX30 ++ wsX10 ++ wsX20 ++ wsX00 ++ (vx_atS RX3 34 "java/lang/IndexOutOfBoundsException" ["java/lang/RuntimeException", "java/lang/Exception"]).filter goodWord)
def wsX3_mean : List Cond := .code yX3_mean cX3_mean 4 (some .double) :: ([.fieldLink RX3 19 "LanternWeirs" "fleet" "LLanternWeirs$Fleet;", .fieldLink RX3 110 "LanternWeirs$Fleet" "size" "I", .fieldLink RX3 132 "LanternWeirs$Fleet" "places" "LLanternWeirs$Row;", .methodLink RX3 124 yX1_isAfloat, .instanceMethod yX1_isAfloat, .selects RX1 yX1_isAfloat yX1_isAfloat, .initialized RX1, .code yX1_isAfloat cX1_isAfloat 2 (some .boolean), .fieldLink RX1 38 "LanternWeirs$Fleet" "states" "LLanternWeirs$Row;", .methodLink RX1 76 yX1_has, .instanceMethod yX1_has, .selects RX1 yX1_has yX1_has, .code yX1_has cX1_has 2 (some .boolean), .fieldLink RX1 54 "LanternWeirs$Fleet" "size" "I", .static yX3_isWithin, .initialized RX3, .code yX3_isWithin cX3_isWithin 3 (some .boolean), .methodLink RX1 80 yX2_get, .instanceMethod yX2_get, .selects RX2 yX2_get yX2_get, .initialized RX2, .code yX2_get cX2_get 2 (some .int), .fieldLink RX2 7 "LanternWeirs$Row" "cells" "[I", .methodLink RX3 50 yX2_get] ++ wsX30 ++ wsX10 ++ wsX20)
def wsX3_digest_r1 : List Cond := [Cond.constantLong RX3 190 (1297), Cond.constantLong RX3 192 (31), Cond.fieldLink RX3 10 "LanternWeirs" "bed" "LLanternWeirs$Bed;", Cond.fieldLink RX3 46 "LanternWeirs$Bed" "currents" "LLanternWeirs$Row;", Cond.fieldLink RX3 19 "LanternWeirs" "fleet" "LLanternWeirs$Fleet;", Cond.fieldLink RX3 110 "LanternWeirs$Fleet" "size" "I", Cond.methodLink RX3 167 yX3_counted, Cond.instanceMethod yX3_counted, Cond.selects RX3 yX3_counted yX3_counted, Cond.initialized RX3, Cond.code yX3_counted cX3_counted 2 (some .int), Cond.fieldLink RX3 200 "LanternWeirs$Fleet" "minute" "I", Cond.fieldLink RX3 64 "LanternWeirs$Bed" "weirs" "I", Cond.fieldLink RX3 82 "LanternWeirs$Bed" "netCount" "I", Cond.methodLink RX3 172 yX1_tally, Cond.instanceMethod yX1_tally, Cond.selects RX1 yX1_tally yX1_tally, Cond.initialized RX1, Cond.code yX1_tally cX1_tally 4 (some .int), Cond.fieldLink RX1 54 "LanternWeirs$Fleet" "size" "I", Cond.methodLink RX1 96 yX1_share, Cond.instanceMethod yX1_share, Cond.selects RX1 yX1_share yX1_share, Cond.code yX1_share cX1_share 5 (some .int)]
def wsX3_digest_r2 : List Cond := [Cond.fieldLink RX1 38 "LanternWeirs$Fleet" "states" "LLanternWeirs$Row;", Cond.fieldLink RX1 35 "LanternWeirs$Fleet" "burning" "LLanternWeirs$Row;", Cond.fieldLink RX1 20 "LanternWeirs$Fleet" "wishes" "LLanternWeirs$Row;", Cond.methodLink RX1 80 yX2_get, Cond.instanceMethod yX2_get, Cond.selects RX2 yX2_get yX2_get, Cond.initialized RX2, Cond.code yX2_get cX2_get 2 (some .int), Cond.fieldLink RX2 7 "LanternWeirs$Row" "cells" "[I", Cond.methodLink RX3 50 yX2_get, Cond.methodLink RX3 99 yX3_riverFact, Cond.instanceMethod yX3_riverFact, Cond.selects RX3 yX3_riverFact yX3_riverFact, Cond.code yX3_riverFact cX3_riverFact 4 (some .int), Cond.fieldLink RX3 68 "LanternWeirs$Bed" "sprays" "LLanternWeirs$Row;", Cond.methodLink RX3 194 yX1_floatingAt, Cond.instanceMethod yX1_floatingAt, Cond.selects RX1 yX1_floatingAt yX1_floatingAt, Cond.code yX1_floatingAt cX1_floatingAt 5 (some .int), Cond.fieldLink RX1 44 "LanternWeirs$Fleet" "crowd" "LLanternWeirs$Row;", Cond.methodLink RX1 92 yX1_cell, Cond.static yX1_cell, Cond.code yX1_cell cX1_cell 3 (some .int), Cond.methodLink RX3 85 yX0_hasNet]
def wsX3_digest_r3 : List Cond := [Cond.instanceMethod yX0_hasNet, Cond.selects RX0 yX0_hasNet yX0_hasNet, Cond.initialized RX0, Cond.code yX0_hasNet cX0_hasNet 3 (some .boolean), Cond.fieldLink RX0 23 "LanternWeirs$Bed" "nets" "LLanternWeirs$Row;", Cond.methodLink RX0 37 yX2_get, Cond.methodLink RX3 197 yX1_caughtAt, Cond.instanceMethod yX1_caughtAt, Cond.selects RX1 yX1_caughtAt yX1_caughtAt, Cond.code yX1_caughtAt cX1_caughtAt 5 (some .int), Cond.fieldLink RX1 23 "LanternWeirs$Fleet" "lanes" "LLanternWeirs$Row;", Cond.fieldLink RX1 26 "LanternWeirs$Fleet" "places" "LLanternWeirs$Row;", Cond.methodLink RX3 159 yX1_fact, Cond.instanceMethod yX1_fact, Cond.selects RX1 yX1_fact yX1_fact, Cond.code yX1_fact cX1_fact 3 (some .int), Cond.fieldLink RX1 16 "LanternWeirs$Fleet" "frames" "LLanternWeirs$Row;", Cond.fieldLink RX1 29 "LanternWeirs$Fleet" "waxes" "LLanternWeirs$Row;", Cond.fieldLink RX1 32 "LanternWeirs$Fleet" "wets" "LLanternWeirs$Row;", Cond.fieldLink RX1 41 "LanternWeirs$Fleet" "ends" "LLanternWeirs$Row;", Cond.methodLink RX3 162 yX3_nextWeir, Cond.instanceMethod yX3_nextWeir, Cond.selects RX3 yX3_nextWeir yX3_nextWeir, Cond.code yX3_nextWeir cX3_nextWeir 3 (some .int)]
def wsX3_digest_r4 : List Cond := [Cond.fieldLink RX3 132 "LanternWeirs$Fleet" "places" "LLanternWeirs$Row;", Cond.methodLink RX3 124 yX1_isAfloat, Cond.instanceMethod yX1_isAfloat, Cond.selects RX1 yX1_isAfloat yX1_isAfloat, Cond.code yX1_isAfloat cX1_isAfloat 2 (some .boolean), Cond.methodLink RX1 76 yX1_has, Cond.instanceMethod yX1_has, Cond.selects RX1 yX1_has yX1_has, Cond.code yX1_has cX1_has 2 (some .boolean), Cond.static yX3_isWithin, Cond.code yX3_isWithin cX3_isWithin 3 (some .boolean)]
def wsX3_digest : List Cond := .code yX3_digest cX3_digest 6 (some .long) :: ((wsX3_digest_r1 ++ (wsX3_digest_r2 ++ (wsX3_digest_r3 ++ wsX3_digest_r4))) ++ wsX30 ++ wsX00 ++ wsX10 ++ wsX20)
def wsX4_init : List Cond := .code yX4_init cX4_init 2 none :: ([.fieldLink RX4 3 "LanternWeirsModel$State" "this$0" "LLanternWeirsModel;", .methodLink RX4 9 objectInit, .instanceMethod objectInit, .code objectInit ⟨#[0xb1]⟩ 1 none, .arrayClass .int, .fieldLink RX4 15 "LanternWeirsModel$State" "frame" "[I", .fieldLink RX4 19 "LanternWeirsModel$State" "wish" "[I", .fieldLink RX4 22 "LanternWeirsModel$State" "lane" "[I", .fieldLink RX4 25 "LanternWeirsModel$State" "place" "[I", .fieldLink RX4 28 "LanternWeirsModel$State" "wax" "[I", .fieldLink RX4 31 "LanternWeirsModel$State" "wet" "[I", .fieldLink RX4 34 "LanternWeirsModel$State" "burns" "[I", .fieldLink RX4 37 "LanternWeirsModel$State" "state" "[I", .fieldLink RX4 40 "LanternWeirsModel$State" "ended" "[I", .fieldLink RX4 43 "LanternWeirsModel$State" "order" "[I"] ++ wsX40)
def wsX4_copy : List Cond := .code yX4_copy cX4_copy 3 none :: ([.methodLink RX4 46 arraycopyName, .native arraycopyName, .static arraycopyName, .initialized "java/lang/System"])
def wsX4_become : List Cond := .code yX4_become cX4_become 2 none :: ([.fieldLink RX4 52 "LanternWeirsModel$State" "minute" "I", .fieldLink RX4 56 "LanternWeirsModel$State" "lanterns" "I", .fieldLink RX4 15 "LanternWeirsModel$State" "frame" "[I", .fieldLink RX4 19 "LanternWeirsModel$State" "wish" "[I", .fieldLink RX4 22 "LanternWeirsModel$State" "lane" "[I", .fieldLink RX4 25 "LanternWeirsModel$State" "place" "[I", .fieldLink RX4 28 "LanternWeirsModel$State" "wax" "[I", .fieldLink RX4 31 "LanternWeirsModel$State" "wet" "[I", .fieldLink RX4 34 "LanternWeirsModel$State" "burns" "[I", .fieldLink RX4 37 "LanternWeirsModel$State" "state" "[I", .fieldLink RX4 40 "LanternWeirsModel$State" "ended" "[I", .methodLink RX4 59 yX4_copy, .instanceMethod yX4_copy, .selects RX4 yX4_copy yX4_copy, .initialized RX4, .code yX4_copy cX4_copy 3 none, .methodLink RX4 46 arraycopyName, .native arraycopyName, .static arraycopyName, .initialized "java/lang/System"] ++ wsX40)
def wsX4_launch : List Cond := .code yX4_launch cX4_launch 5 (some .int) :: ([.fieldLink RX4 15 "LanternWeirsModel$State" "frame" "[I", .fieldLink RX4 56 "LanternWeirsModel$State" "lanterns" "I", .fieldLink RX4 19 "LanternWeirsModel$State" "wish" "[I", .fieldLink RX4 22 "LanternWeirsModel$State" "lane" "[I", .fieldLink RX4 25 "LanternWeirsModel$State" "place" "[I", .fieldLink RX4 28 "LanternWeirsModel$State" "wax" "[I", .fieldLink RX4 31 "LanternWeirsModel$State" "wet" "[I", .fieldLink RX4 34 "LanternWeirsModel$State" "burns" "[I", .fieldLink RX4 37 "LanternWeirsModel$State" "state" "[I", .fieldLink RX4 40 "LanternWeirsModel$State" "ended" "[I"] ++ wsX40)
def wsX4_isSoaked : List Cond := .code yX4_isSoaked cX4_isSoaked 2 (some .boolean) :: ([.fieldLink RX4 31 "LanternWeirsModel$State" "wet" "[I", .fieldLink RX4 15 "LanternWeirsModel$State" "frame" "[I"] ++ wsX40)
def wsX4_at : List Cond := .code yX4_at cX4_at 6 (some .int) :: ([.fieldLink RX4 56 "LanternWeirsModel$State" "lanterns" "I", .fieldLink RX4 37 "LanternWeirsModel$State" "state" "[I", .fieldLink RX4 22 "LanternWeirsModel$State" "lane" "[I", .fieldLink RX4 25 "LanternWeirsModel$State" "place" "[I"] ++ wsX40)
def wsX4_isAhead : List Cond := .code yX4_isAhead cX4_isAhead 3 (some .boolean) :: ([.fieldLink RX4 25 "LanternWeirsModel$State" "place" "[I", .fieldLink RX4 22 "LanternWeirsModel$State" "lane" "[I"] ++ wsX40)
def wsX4_sort : List Cond := .code yX4_sort cX4_sort 4 (some .int) :: ([.fieldLink RX4 56 "LanternWeirsModel$State" "lanterns" "I", .fieldLink RX4 37 "LanternWeirsModel$State" "state" "[I", .fieldLink RX4 43 "LanternWeirsModel$State" "order" "[I", .methodLink RX4 69 yX4_isAhead, .instanceMethod yX4_isAhead, .selects RX4 yX4_isAhead yX4_isAhead, .initialized RX4, .code yX4_isAhead cX4_isAhead 3 (some .boolean), .fieldLink RX4 25 "LanternWeirsModel$State" "place" "[I", .fieldLink RX4 22 "LanternWeirsModel$State" "lane" "[I"] ++ wsX40)
def wsX4_isCaught : List Cond := .code yX4_isCaught cX4_isCaught 3 (some .boolean) :: ([.fieldLink RX4 56 "LanternWeirsModel$State" "lanterns" "I", .fieldLink RX4 37 "LanternWeirsModel$State" "state" "[I", .fieldLink RX4 22 "LanternWeirsModel$State" "lane" "[I", .fieldLink RX4 25 "LanternWeirsModel$State" "place" "[I", .fieldLink RX4 15 "LanternWeirsModel$State" "frame" "[I"] ++ wsX40)
def wsX4_end : List Cond := .code yX4_end cX4_end 3 none :: ([.fieldLink RX4 37 "LanternWeirsModel$State" "state" "[I", .fieldLink RX4 40 "LanternWeirsModel$State" "ended" "[I", .fieldLink RX4 52 "LanternWeirsModel$State" "minute" "I"] ++ wsX40)
def wsX4_pass_r1 : List Cond := [Cond.fieldLink RX4 3 "LanternWeirsModel$State" "this$0" "LLanternWeirsModel;", Cond.fieldLink RX4 25 "LanternWeirsModel$State" "place" "[I", Cond.fieldLink RX4 22 "LanternWeirsModel$State" "lane" "[I", Cond.fieldLink RX4 31 "LanternWeirsModel$State" "wet" "[I", Cond.methodLink RX4 95 Lib.Math.max.name, Cond.static Lib.Math.max.name, Cond.initialized "java/lang/Math", Cond.code Lib.Math.max.name Lib.Math.max.code 2 (some .int), Cond.fieldLink RX4 34 "LanternWeirsModel$State" "burns" "[I", Cond.methodLink RX4 91 yX4_at, Cond.instanceMethod yX4_at, Cond.selects RX4 yX4_at yX4_at, Cond.initialized RX4, Cond.code yX4_at cX4_at 6 (some .int), Cond.fieldLink RX4 56 "LanternWeirsModel$State" "lanterns" "I", Cond.fieldLink RX4 37 "LanternWeirsModel$State" "state" "[I", Cond.methodLink RX4 101 yX4_isSoaked, Cond.instanceMethod yX4_isSoaked, Cond.selects RX4 yX4_isSoaked yX4_isSoaked, Cond.code yX4_isSoaked cX4_isSoaked 2 (some .boolean), Cond.fieldLink RX4 15 "LanternWeirsModel$State" "frame" "[I", Cond.methodLink RX4 80 yX4_end, Cond.instanceMethod yX4_end, Cond.selects RX4 yX4_end yX4_end]
def wsX4_pass_r2 : List Cond := [Cond.code yX4_end cX4_end 3 none, Cond.fieldLink RX4 40 "LanternWeirsModel$State" "ended" "[I", Cond.fieldLink RX4 52 "LanternWeirsModel$State" "minute" "I"]
def wsX4_pass : List Cond := .code yX4_pass cX4_pass 4 none :: ((wsX4_pass_r1 ++ wsX4_pass_r2) ++ wsX40 ++ wsX50)
def wsX4_drift_r1 : List Cond := [Cond.fieldLink RX4 3 "LanternWeirsModel$State" "this$0" "LLanternWeirsModel;", Cond.fieldLink RX4 22 "LanternWeirsModel$State" "lane" "[I", Cond.fieldLink RX4 37 "LanternWeirsModel$State" "state" "[I", Cond.fieldLink RX4 25 "LanternWeirsModel$State" "place" "[I", Cond.fieldLink RX4 34 "LanternWeirsModel$State" "burns" "[I", Cond.methodLink RX4 76 yX4_isCaught, Cond.instanceMethod yX4_isCaught, Cond.selects RX4 yX4_isCaught yX4_isCaught, Cond.initialized RX4, Cond.code yX4_isCaught cX4_isCaught 3 (some .boolean), Cond.fieldLink RX4 56 "LanternWeirsModel$State" "lanterns" "I", Cond.fieldLink RX4 15 "LanternWeirsModel$State" "frame" "[I", Cond.methodLink RX4 80 yX4_end, Cond.instanceMethod yX4_end, Cond.selects RX4 yX4_end yX4_end, Cond.code yX4_end cX4_end 3 none, Cond.fieldLink RX4 40 "LanternWeirsModel$State" "ended" "[I", Cond.fieldLink RX4 52 "LanternWeirsModel$State" "minute" "I", Cond.methodLink RX4 84 yX4_pass, Cond.instanceMethod yX4_pass, Cond.selects RX4 yX4_pass yX4_pass, Cond.code yX4_pass cX4_pass 4 none, Cond.fieldLink RX4 31 "LanternWeirsModel$State" "wet" "[I", Cond.methodLink RX4 95 Lib.Math.max.name]
def wsX4_drift_r2 : List Cond := [Cond.static Lib.Math.max.name, Cond.initialized "java/lang/Math", Cond.code Lib.Math.max.name Lib.Math.max.code 2 (some .int), Cond.methodLink RX4 91 yX4_at, Cond.instanceMethod yX4_at, Cond.selects RX4 yX4_at yX4_at, Cond.code yX4_at cX4_at 6 (some .int), Cond.methodLink RX4 101 yX4_isSoaked, Cond.instanceMethod yX4_isSoaked, Cond.selects RX4 yX4_isSoaked yX4_isSoaked, Cond.code yX4_isSoaked cX4_isSoaked 2 (some .boolean)]
def wsX4_drift : List Cond := .code yX4_drift cX4_drift 3 none :: ((wsX4_drift_r1 ++ wsX4_drift_r2) ++ wsX40 ++ wsX50)
def wsX4_pass__r1 : List Cond := [Cond.fieldLink RX4 43 "LanternWeirsModel$State" "order" "[I", Cond.fieldLink RX4 56 "LanternWeirsModel$State" "lanterns" "I", Cond.fieldLink RX4 37 "LanternWeirsModel$State" "state" "[I", Cond.fieldLink RX4 34 "LanternWeirsModel$State" "burns" "[I", Cond.fieldLink RX4 28 "LanternWeirsModel$State" "wax" "[I", Cond.fieldLink RX4 52 "LanternWeirsModel$State" "minute" "I", Cond.methodLink RX4 107 yX4_sort, Cond.instanceMethod yX4_sort, Cond.selects RX4 yX4_sort yX4_sort, Cond.initialized RX4, Cond.code yX4_sort cX4_sort 4 (some .int), Cond.methodLink RX4 69 yX4_isAhead, Cond.instanceMethod yX4_isAhead, Cond.selects RX4 yX4_isAhead yX4_isAhead, Cond.code yX4_isAhead cX4_isAhead 3 (some .boolean), Cond.fieldLink RX4 25 "LanternWeirsModel$State" "place" "[I", Cond.fieldLink RX4 22 "LanternWeirsModel$State" "lane" "[I", Cond.methodLink RX4 111 yX4_drift, Cond.instanceMethod yX4_drift, Cond.selects RX4 yX4_drift yX4_drift, Cond.code yX4_drift cX4_drift 3 none, Cond.fieldLink RX4 3 "LanternWeirsModel$State" "this$0" "LLanternWeirsModel;", Cond.methodLink RX4 76 yX4_isCaught, Cond.instanceMethod yX4_isCaught]
def wsX4_pass__r2 : List Cond := [Cond.selects RX4 yX4_isCaught yX4_isCaught, Cond.code yX4_isCaught cX4_isCaught 3 (some .boolean), Cond.fieldLink RX4 15 "LanternWeirsModel$State" "frame" "[I", Cond.methodLink RX4 80 yX4_end, Cond.instanceMethod yX4_end, Cond.selects RX4 yX4_end yX4_end, Cond.code yX4_end cX4_end 3 none, Cond.fieldLink RX4 40 "LanternWeirsModel$State" "ended" "[I", Cond.methodLink RX4 84 yX4_pass, Cond.instanceMethod yX4_pass, Cond.selects RX4 yX4_pass yX4_pass, Cond.code yX4_pass cX4_pass 4 none, Cond.fieldLink RX4 31 "LanternWeirsModel$State" "wet" "[I", Cond.methodLink RX4 95 Lib.Math.max.name, Cond.static Lib.Math.max.name, Cond.initialized "java/lang/Math", Cond.code Lib.Math.max.name Lib.Math.max.code 2 (some .int), Cond.methodLink RX4 91 yX4_at, Cond.instanceMethod yX4_at, Cond.selects RX4 yX4_at yX4_at, Cond.code yX4_at cX4_at 6 (some .int), Cond.methodLink RX4 101 yX4_isSoaked, Cond.instanceMethod yX4_isSoaked, Cond.selects RX4 yX4_isSoaked yX4_isSoaked]
def wsX4_pass__r3 : List Cond := [Cond.code yX4_isSoaked cX4_isSoaked 2 (some .boolean)]
def wsX4_pass_ : List Cond := .code yX4_pass_ cX4_pass_ 3 none :: ((wsX4_pass__r1 ++ (wsX4_pass__r2 ++ wsX4_pass__r3)) ++ wsX40 ++ wsX50)
def wsX4_counted : List Cond := .code yX4_counted cX4_counted 4 (some .int) :: ([.arrayClass .int, .fieldLink RX4 52 "LanternWeirsModel$State" "minute" "I", .fieldLink RX4 56 "LanternWeirsModel$State" "lanterns" "I", .fieldLink RX4 3 "LanternWeirsModel$State" "this$0" "LLanternWeirsModel;", .fieldLink RX4 37 "LanternWeirsModel$State" "state" "[I", .fieldLink RX4 34 "LanternWeirsModel$State" "burns" "[I", .fieldLink RX4 19 "LanternWeirsModel$State" "wish" "[I"] ++ wsX40 ++ wsX50)
def wsX5_init_r1 : List Cond := [Cond.methodLink RX5 1 objectInit, Cond.instanceMethod objectInit, Cond.code objectInit ⟨#[0xb1]⟩ 1 none, Cond.arrayClass .int, Cond.fieldLink RX5 7 "LanternWeirsModel" "current" "[I", Cond.fieldLink RX5 13 "LanternWeirsModel" "spray" "[I", Cond.fieldLink RX5 16 "LanternWeirsModel" "net" "[I", Cond.classLink RX5 19 RX4, Cond.instantiable RX4 13, Cond.initialized RX4, Cond.fieldLink RX5 24 "LanternWeirsModel" "s" "LLanternWeirsModel$State;", Cond.fieldLink RX5 28 "LanternWeirsModel" "ahead" "LLanternWeirsModel$State;", Cond.instanceMethod yX4_init, Cond.code yX4_init cX4_init 2 none, Cond.fieldLink RX4 3 "LanternWeirsModel$State" "this$0" "LLanternWeirsModel;", Cond.methodLink RX4 9 objectInit, Cond.fieldLink RX4 15 "LanternWeirsModel$State" "frame" "[I", Cond.fieldLink RX4 19 "LanternWeirsModel$State" "wish" "[I", Cond.fieldLink RX4 22 "LanternWeirsModel$State" "lane" "[I", Cond.fieldLink RX4 25 "LanternWeirsModel$State" "place" "[I", Cond.fieldLink RX4 28 "LanternWeirsModel$State" "wax" "[I", Cond.fieldLink RX4 31 "LanternWeirsModel$State" "wet" "[I", Cond.fieldLink RX4 34 "LanternWeirsModel$State" "burns" "[I", Cond.fieldLink RX4 37 "LanternWeirsModel$State" "state" "[I"]
def wsX5_init_r2 : List Cond := [Cond.fieldLink RX4 40 "LanternWeirsModel$State" "ended" "[I", Cond.fieldLink RX4 43 "LanternWeirsModel$State" "order" "[I"]
def wsX5_init : List Cond := .code yX5_init cX5_init 1 none :: ((wsX5_init_r1 ++ wsX5_init_r2) ++ wsX50 ++ wsX40)
def wsX5_thrown : List Cond := .code yX5_thrown cX5_thrown 1 (some .int) :: ([.fieldLink RX5 31 "LanternWeirsModel" "thrown" "I"] ++ wsX50)
def wsX5_no : List Cond := .code yX5_no cX5_no 2 (some .int) :: ([.fieldLink RX5 31 "LanternWeirsModel" "thrown" "I"] ++ wsX50)
def wsX5_isIn : List Cond := .code yX5_isIn cX5_isIn 3 (some .boolean) :: ([])
def wsX5_isLane : List Cond := .code yX5_isLane cX5_isLane 1 (some .boolean) :: ([.methodLink RX5 35 yX5_isIn, .static yX5_isIn, .initialized RX5, .code yX5_isIn cX5_isIn 3 (some .boolean)])
def wsX5_isPlace : List Cond := .code yX5_isPlace cX5_isPlace 1 (some .boolean) :: ([.methodLink RX5 35 yX5_isIn, .static yX5_isIn, .initialized RX5, .code yX5_isIn cX5_isIn 3 (some .boolean)])
def wsX5_isLantern : List Cond := .code yX5_isLantern cX5_isLantern 2 (some .boolean) :: ([.fieldLink RX5 24 "LanternWeirsModel" "s" "LLanternWeirsModel$State;", .methodLink RX5 35 yX5_isIn, .static yX5_isIn, .initialized RX5, .code yX5_isIn cX5_isIn 3 (some .boolean)] ++ wsX50 ++ wsX40)
def wsX5_setCurrent : List Cond := .code yX5_setCurrent cX5_setCurrent 4 (some .int) :: ([.fieldLink RX5 31 "LanternWeirsModel" "thrown" "I", .fieldLink RX5 7 "LanternWeirsModel" "current" "[I", .methodLink RX5 42 yX5_isLane, .static yX5_isLane, .initialized RX5, .code yX5_isLane cX5_isLane 1 (some .boolean), .methodLink RX5 35 yX5_isIn, .static yX5_isIn, .code yX5_isIn cX5_isIn 3 (some .boolean), .methodLink RX5 46 yX5_no, .instanceMethod yX5_no, .selects RX5 yX5_no yX5_no, .code yX5_no cX5_no 2 (some .int)] ++ wsX50)
def wsX5_weir : List Cond := .code yX5_weir cX5_weir 3 (some .int) :: ([.fieldLink RX5 31 "LanternWeirsModel" "thrown" "I", .fieldLink RX5 53 "LanternWeirsModel" "weirs" "I", .fieldLink RX5 13 "LanternWeirsModel" "spray" "[I", .methodLink RX5 50 yX5_isPlace, .static yX5_isPlace, .initialized RX5, .code yX5_isPlace cX5_isPlace 1 (some .boolean), .methodLink RX5 35 yX5_isIn, .static yX5_isIn, .code yX5_isIn cX5_isIn 3 (some .boolean), .methodLink RX5 46 yX5_no, .instanceMethod yX5_no, .selects RX5 yX5_no yX5_no, .code yX5_no cX5_no 2 (some .int)] ++ wsX50)
def wsX5_net : List Cond := .code yX5_net cX5_net 3 (some .int) :: ([.fieldLink RX5 31 "LanternWeirsModel" "thrown" "I", .fieldLink RX5 56 "LanternWeirsModel" "nets" "I", .fieldLink RX5 16 "LanternWeirsModel" "net" "[I", .methodLink RX5 42 yX5_isLane, .static yX5_isLane, .initialized RX5, .code yX5_isLane cX5_isLane 1 (some .boolean), .methodLink RX5 35 yX5_isIn, .static yX5_isIn, .code yX5_isIn cX5_isIn 3 (some .boolean), .methodLink RX5 50 yX5_isPlace, .static yX5_isPlace, .code yX5_isPlace cX5_isPlace 1 (some .boolean), .methodLink RX5 46 yX5_no, .instanceMethod yX5_no, .selects RX5 yX5_no yX5_no, .code yX5_no cX5_no 2 (some .int)] ++ wsX50)
def wsX5_riverTold : List Cond := .code yX5_riverTold cX5_riverTold 4 (some .int) :: ([.fieldLink RX5 24 "LanternWeirsModel" "s" "LLanternWeirsModel$State;", .fieldLink RX5 13 "LanternWeirsModel" "spray" "[I", .fieldLink RX5 16 "LanternWeirsModel" "net" "[I", .methodLink RX5 59 yX4_at, .instanceMethod yX4_at, .selects RX4 yX4_at yX4_at, .initialized RX4, .code yX4_at cX4_at 6 (some .int), .fieldLink RX4 56 "LanternWeirsModel$State" "lanterns" "I", .fieldLink RX4 37 "LanternWeirsModel$State" "state" "[I", .fieldLink RX4 22 "LanternWeirsModel$State" "lane" "[I", .fieldLink RX4 25 "LanternWeirsModel$State" "place" "[I"] ++ wsX50 ++ wsX40)
def wsX5_river_r1 : List Cond := [Cond.fieldLink RX5 31 "LanternWeirsModel" "thrown" "I", Cond.methodLink RX5 42 yX5_isLane, Cond.static yX5_isLane, Cond.initialized RX5, Cond.code yX5_isLane cX5_isLane 1 (some .boolean), Cond.methodLink RX5 35 yX5_isIn, Cond.static yX5_isIn, Cond.code yX5_isIn cX5_isIn 3 (some .boolean), Cond.methodLink RX5 50 yX5_isPlace, Cond.static yX5_isPlace, Cond.code yX5_isPlace cX5_isPlace 1 (some .boolean), Cond.methodLink RX5 63 yX5_riverTold, Cond.instanceMethod yX5_riverTold, Cond.selects RX5 yX5_riverTold yX5_riverTold, Cond.code yX5_riverTold cX5_riverTold 4 (some .int), Cond.fieldLink RX5 24 "LanternWeirsModel" "s" "LLanternWeirsModel$State;", Cond.fieldLink RX5 13 "LanternWeirsModel" "spray" "[I", Cond.fieldLink RX5 16 "LanternWeirsModel" "net" "[I", Cond.methodLink RX5 59 yX4_at, Cond.instanceMethod yX4_at, Cond.selects RX4 yX4_at yX4_at, Cond.initialized RX4, Cond.code yX4_at cX4_at 6 (some .int), Cond.fieldLink RX4 56 "LanternWeirsModel$State" "lanterns" "I"]
def wsX5_river_r2 : List Cond := [Cond.fieldLink RX4 37 "LanternWeirsModel$State" "state" "[I", Cond.fieldLink RX4 22 "LanternWeirsModel$State" "lane" "[I", Cond.fieldLink RX4 25 "LanternWeirsModel$State" "place" "[I", Cond.methodLink RX5 46 yX5_no, Cond.instanceMethod yX5_no, Cond.selects RX5 yX5_no yX5_no, Cond.code yX5_no cX5_no 2 (some .int)]
def wsX5_river : List Cond := .code yX5_river cX5_river 4 (some .int) :: ((wsX5_river_r1 ++ wsX5_river_r2) ++ wsX50 ++ wsX40)
def wsX5_launch_r1 : List Cond := [Cond.fieldLink RX5 31 "LanternWeirsModel" "thrown" "I", Cond.fieldLink RX5 24 "LanternWeirsModel" "s" "LLanternWeirsModel$State;", Cond.methodLink RX5 35 yX5_isIn, Cond.static yX5_isIn, Cond.initialized RX5, Cond.code yX5_isIn cX5_isIn 3 (some .boolean), Cond.methodLink RX5 42 yX5_isLane, Cond.static yX5_isLane, Cond.code yX5_isLane cX5_isLane 1 (some .boolean), Cond.methodLink RX5 50 yX5_isPlace, Cond.static yX5_isPlace, Cond.code yX5_isPlace cX5_isPlace 1 (some .boolean), Cond.methodLink RX5 46 yX5_no, Cond.instanceMethod yX5_no, Cond.selects RX5 yX5_no yX5_no, Cond.code yX5_no cX5_no 2 (some .int), Cond.methodLink RX5 66 yX4_launch, Cond.instanceMethod yX4_launch, Cond.selects RX4 yX4_launch yX4_launch, Cond.initialized RX4, Cond.code yX4_launch cX4_launch 5 (some .int), Cond.fieldLink RX4 15 "LanternWeirsModel$State" "frame" "[I", Cond.fieldLink RX4 56 "LanternWeirsModel$State" "lanterns" "I", Cond.fieldLink RX4 19 "LanternWeirsModel$State" "wish" "[I"]
def wsX5_launch_r2 : List Cond := [Cond.fieldLink RX4 22 "LanternWeirsModel$State" "lane" "[I", Cond.fieldLink RX4 25 "LanternWeirsModel$State" "place" "[I", Cond.fieldLink RX4 28 "LanternWeirsModel$State" "wax" "[I", Cond.fieldLink RX4 31 "LanternWeirsModel$State" "wet" "[I", Cond.fieldLink RX4 34 "LanternWeirsModel$State" "burns" "[I", Cond.fieldLink RX4 37 "LanternWeirsModel$State" "state" "[I", Cond.fieldLink RX4 40 "LanternWeirsModel$State" "ended" "[I"]
def wsX5_launch : List Cond := .code yX5_launch cX5_launch 5 (some .int) :: ((wsX5_launch_r1 ++ wsX5_launch_r2) ++ wsX50 ++ wsX40)
def wsX5_push : List Cond := .code yX5_push cX5_push 4 (some .int) :: ([.fieldLink RX5 31 "LanternWeirsModel" "thrown" "I", .fieldLink RX5 24 "LanternWeirsModel" "s" "LLanternWeirsModel$State;", .methodLink RX5 70 yX5_isLantern, .instanceMethod yX5_isLantern, .selects RX5 yX5_isLantern yX5_isLantern, .initialized RX5, .code yX5_isLantern cX5_isLantern 2 (some .boolean), .methodLink RX5 35 yX5_isIn, .static yX5_isIn, .code yX5_isIn cX5_isIn 3 (some .boolean), .methodLink RX5 42 yX5_isLane, .static yX5_isLane, .code yX5_isLane cX5_isLane 1 (some .boolean), .methodLink RX5 46 yX5_no, .instanceMethod yX5_no, .selects RX5 yX5_no yX5_no, .code yX5_no cX5_no 2 (some .int)] ++ wsX50 ++ wsX40)
def wsX5_light : List Cond := .code yX5_light cX5_light 2 (some .int) :: ([.fieldLink RX5 31 "LanternWeirsModel" "thrown" "I", .fieldLink RX5 24 "LanternWeirsModel" "s" "LLanternWeirsModel$State;", .methodLink RX5 70 yX5_isLantern, .instanceMethod yX5_isLantern, .selects RX5 yX5_isLantern yX5_isLantern, .initialized RX5, .code yX5_isLantern cX5_isLantern 2 (some .boolean), .methodLink RX5 35 yX5_isIn, .static yX5_isIn, .code yX5_isIn cX5_isIn 3 (some .boolean), .methodLink RX5 46 yX5_no, .instanceMethod yX5_no, .selects RX5 yX5_no yX5_no, .code yX5_no cX5_no 2 (some .int), .methodLink RX5 82 yX4_isSoaked, .instanceMethod yX4_isSoaked, .selects RX4 yX4_isSoaked yX4_isSoaked, .initialized RX4, .code yX4_isSoaked cX4_isSoaked 2 (some .boolean), .fieldLink RX4 31 "LanternWeirsModel$State" "wet" "[I", .fieldLink RX4 15 "LanternWeirsModel$State" "frame" "[I"] ++ wsX50 ++ wsX40)
def wsX5_blow : List Cond := .code yX5_blow cX5_blow 2 (some .int) :: ([.fieldLink RX5 31 "LanternWeirsModel" "thrown" "I", .fieldLink RX5 24 "LanternWeirsModel" "s" "LLanternWeirsModel$State;", .methodLink RX5 70 yX5_isLantern, .instanceMethod yX5_isLantern, .selects RX5 yX5_isLantern yX5_isLantern, .initialized RX5, .code yX5_isLantern cX5_isLantern 2 (some .boolean), .methodLink RX5 35 yX5_isIn, .static yX5_isIn, .code yX5_isIn cX5_isIn 3 (some .boolean), .methodLink RX5 46 yX5_no, .instanceMethod yX5_no, .selects RX5 yX5_no yX5_no, .code yX5_no cX5_no 2 (some .int)] ++ wsX50 ++ wsX40)
def wsX5_lanternTold : List Cond := .code yX5_lanternTold cX5_lanternTold 4 (some .int) :: ([.arrayClass .int, .fieldLink RX5 24 "LanternWeirsModel" "s" "LLanternWeirsModel$State;"] ++ wsX50 ++ wsX40)
def wsX5_told : List Cond := .code yX5_told cX5_told 3 (some .int) :: ([.fieldLink RX5 31 "LanternWeirsModel" "thrown" "I", .methodLink RX5 70 yX5_isLantern, .instanceMethod yX5_isLantern, .selects RX5 yX5_isLantern yX5_isLantern, .initialized RX5, .code yX5_isLantern cX5_isLantern 2 (some .boolean), .fieldLink RX5 24 "LanternWeirsModel" "s" "LLanternWeirsModel$State;", .methodLink RX5 35 yX5_isIn, .static yX5_isIn, .code yX5_isIn cX5_isIn 3 (some .boolean), .methodLink RX5 103 yX5_lanternTold, .instanceMethod yX5_lanternTold, .selects RX5 yX5_lanternTold yX5_lanternTold, .code yX5_lanternTold cX5_lanternTold 4 (some .int), .arrayClass .int, .methodLink RX5 46 yX5_no, .instanceMethod yX5_no, .selects RX5 yX5_no yX5_no, .code yX5_no cX5_no 2 (some .int)] ++ wsX50 ++ wsX40)
def wsX5_nextOf : List Cond := .code yX5_nextOf cX5_nextOf 3 (some .int) :: ([.fieldLink RX5 24 "LanternWeirsModel" "s" "LLanternWeirsModel$State;", .fieldLink RX5 13 "LanternWeirsModel" "spray" "[I"] ++ wsX50 ++ wsX40)
def wsX5_next : List Cond := .code yX5_next cX5_next 2 (some .int) :: ([.fieldLink RX5 31 "LanternWeirsModel" "thrown" "I", .methodLink RX5 70 yX5_isLantern, .instanceMethod yX5_isLantern, .selects RX5 yX5_isLantern yX5_isLantern, .initialized RX5, .code yX5_isLantern cX5_isLantern 2 (some .boolean), .fieldLink RX5 24 "LanternWeirsModel" "s" "LLanternWeirsModel$State;", .methodLink RX5 35 yX5_isIn, .static yX5_isIn, .code yX5_isIn cX5_isIn 3 (some .boolean), .methodLink RX5 107 yX5_nextOf, .instanceMethod yX5_nextOf, .selects RX5 yX5_nextOf yX5_nextOf, .code yX5_nextOf cX5_nextOf 3 (some .int), .fieldLink RX5 13 "LanternWeirsModel" "spray" "[I", .methodLink RX5 46 yX5_no, .instanceMethod yX5_no, .selects RX5 yX5_no yX5_no, .code yX5_no cX5_no 2 (some .int)] ++ wsX50 ++ wsX40)
def wsX5_count : List Cond := .code yX5_count cX5_count 2 (some .int) :: ([.fieldLink RX5 31 "LanternWeirsModel" "thrown" "I", .fieldLink RX5 24 "LanternWeirsModel" "s" "LLanternWeirsModel$State;", .methodLink RX5 35 yX5_isIn, .static yX5_isIn, .initialized RX5, .code yX5_isIn cX5_isIn 3 (some .boolean), .methodLink RX5 110 yX4_counted, .instanceMethod yX4_counted, .selects RX4 yX4_counted yX4_counted, .initialized RX4, .code yX4_counted cX4_counted 4 (some .int), .arrayClass .int, .fieldLink RX4 52 "LanternWeirsModel$State" "minute" "I", .fieldLink RX4 56 "LanternWeirsModel$State" "lanterns" "I", .fieldLink RX4 3 "LanternWeirsModel$State" "this$0" "LLanternWeirsModel;", .fieldLink RX4 37 "LanternWeirsModel$State" "state" "[I", .fieldLink RX4 34 "LanternWeirsModel$State" "burns" "[I", .fieldLink RX4 19 "LanternWeirsModel$State" "wish" "[I", .methodLink RX5 46 yX5_no, .instanceMethod yX5_no, .selects RX5 yX5_no yX5_no, .code yX5_no cX5_no 2 (some .int)] ++ wsX50 ++ wsX40)
def wsX5_pass_r1 : List Cond := [Cond.fieldLink RX5 31 "LanternWeirsModel" "thrown" "I", Cond.fieldLink RX5 24 "LanternWeirsModel" "s" "LLanternWeirsModel$State;", Cond.methodLink RX5 35 yX5_isIn, Cond.static yX5_isIn, Cond.initialized RX5, Cond.code yX5_isIn cX5_isIn 3 (some .boolean), Cond.methodLink RX5 46 yX5_no, Cond.instanceMethod yX5_no, Cond.selects RX5 yX5_no yX5_no, Cond.code yX5_no cX5_no 2 (some .int), Cond.methodLink RX5 110 yX4_counted, Cond.instanceMethod yX4_counted, Cond.selects RX4 yX4_counted yX4_counted, Cond.initialized RX4, Cond.code yX4_counted cX4_counted 4 (some .int), Cond.arrayClass .int, Cond.fieldLink RX4 52 "LanternWeirsModel$State" "minute" "I", Cond.fieldLink RX4 56 "LanternWeirsModel$State" "lanterns" "I", Cond.fieldLink RX4 3 "LanternWeirsModel$State" "this$0" "LLanternWeirsModel;", Cond.fieldLink RX4 37 "LanternWeirsModel$State" "state" "[I", Cond.fieldLink RX4 34 "LanternWeirsModel$State" "burns" "[I", Cond.fieldLink RX4 19 "LanternWeirsModel$State" "wish" "[I", Cond.methodLink RX5 113 yX4_pass_, Cond.instanceMethod yX4_pass_]
def wsX5_pass_r2 : List Cond := [Cond.selects RX4 yX4_pass_ yX4_pass_, Cond.code yX4_pass_ cX4_pass_ 3 none, Cond.fieldLink RX4 43 "LanternWeirsModel$State" "order" "[I", Cond.fieldLink RX4 28 "LanternWeirsModel$State" "wax" "[I", Cond.methodLink RX4 107 yX4_sort, Cond.instanceMethod yX4_sort, Cond.selects RX4 yX4_sort yX4_sort, Cond.code yX4_sort cX4_sort 4 (some .int), Cond.methodLink RX4 69 yX4_isAhead, Cond.instanceMethod yX4_isAhead, Cond.selects RX4 yX4_isAhead yX4_isAhead, Cond.code yX4_isAhead cX4_isAhead 3 (some .boolean), Cond.fieldLink RX4 25 "LanternWeirsModel$State" "place" "[I", Cond.fieldLink RX4 22 "LanternWeirsModel$State" "lane" "[I", Cond.methodLink RX4 111 yX4_drift, Cond.instanceMethod yX4_drift, Cond.selects RX4 yX4_drift yX4_drift, Cond.code yX4_drift cX4_drift 3 none, Cond.methodLink RX4 76 yX4_isCaught, Cond.instanceMethod yX4_isCaught, Cond.selects RX4 yX4_isCaught yX4_isCaught, Cond.code yX4_isCaught cX4_isCaught 3 (some .boolean), Cond.fieldLink RX4 15 "LanternWeirsModel$State" "frame" "[I", Cond.methodLink RX4 80 yX4_end]
def wsX5_pass_r3 : List Cond := [Cond.instanceMethod yX4_end, Cond.selects RX4 yX4_end yX4_end, Cond.code yX4_end cX4_end 3 none, Cond.fieldLink RX4 40 "LanternWeirsModel$State" "ended" "[I", Cond.methodLink RX4 84 yX4_pass, Cond.instanceMethod yX4_pass, Cond.selects RX4 yX4_pass yX4_pass, Cond.code yX4_pass cX4_pass 4 none, Cond.fieldLink RX4 31 "LanternWeirsModel$State" "wet" "[I", Cond.methodLink RX4 95 Lib.Math.max.name, Cond.static Lib.Math.max.name, Cond.initialized "java/lang/Math", Cond.code Lib.Math.max.name Lib.Math.max.code 2 (some .int), Cond.methodLink RX4 91 yX4_at, Cond.instanceMethod yX4_at, Cond.selects RX4 yX4_at yX4_at, Cond.code yX4_at cX4_at 6 (some .int), Cond.methodLink RX4 101 yX4_isSoaked, Cond.instanceMethod yX4_isSoaked, Cond.selects RX4 yX4_isSoaked yX4_isSoaked, Cond.code yX4_isSoaked cX4_isSoaked 2 (some .boolean)]
def wsX5_pass : List Cond := .code yX5_pass cX5_pass 4 (some .int) :: ((wsX5_pass_r1 ++ (wsX5_pass_r2 ++ wsX5_pass_r3)) ++ wsX50 ++ wsX40)
def wsX5_burns_r1 : List Cond := [Cond.fieldLink RX5 31 "LanternWeirsModel" "thrown" "I", Cond.fieldLink RX5 28 "LanternWeirsModel" "ahead" "LLanternWeirsModel$State;", Cond.fieldLink RX5 24 "LanternWeirsModel" "s" "LLanternWeirsModel$State;", Cond.methodLink RX5 70 yX5_isLantern, Cond.instanceMethod yX5_isLantern, Cond.selects RX5 yX5_isLantern yX5_isLantern, Cond.initialized RX5, Cond.code yX5_isLantern cX5_isLantern 2 (some .boolean), Cond.methodLink RX5 35 yX5_isIn, Cond.static yX5_isIn, Cond.code yX5_isIn cX5_isIn 3 (some .boolean), Cond.methodLink RX5 46 yX5_no, Cond.instanceMethod yX5_no, Cond.selects RX5 yX5_no yX5_no, Cond.code yX5_no cX5_no 2 (some .int), Cond.methodLink RX5 116 yX4_become, Cond.instanceMethod yX4_become, Cond.selects RX4 yX4_become yX4_become, Cond.initialized RX4, Cond.code yX4_become cX4_become 2 none, Cond.fieldLink RX4 52 "LanternWeirsModel$State" "minute" "I", Cond.fieldLink RX4 56 "LanternWeirsModel$State" "lanterns" "I", Cond.fieldLink RX4 15 "LanternWeirsModel$State" "frame" "[I", Cond.fieldLink RX4 19 "LanternWeirsModel$State" "wish" "[I"]
def wsX5_burns_r2 : List Cond := [Cond.fieldLink RX4 22 "LanternWeirsModel$State" "lane" "[I", Cond.fieldLink RX4 25 "LanternWeirsModel$State" "place" "[I", Cond.fieldLink RX4 28 "LanternWeirsModel$State" "wax" "[I", Cond.fieldLink RX4 31 "LanternWeirsModel$State" "wet" "[I", Cond.fieldLink RX4 34 "LanternWeirsModel$State" "burns" "[I", Cond.fieldLink RX4 37 "LanternWeirsModel$State" "state" "[I", Cond.fieldLink RX4 40 "LanternWeirsModel$State" "ended" "[I", Cond.methodLink RX4 59 yX4_copy, Cond.instanceMethod yX4_copy, Cond.selects RX4 yX4_copy yX4_copy, Cond.code yX4_copy cX4_copy 3 none, Cond.methodLink RX4 46 arraycopyName, Cond.native arraycopyName, Cond.static arraycopyName, Cond.initialized "java/lang/System", Cond.methodLink RX5 113 yX4_pass_, Cond.instanceMethod yX4_pass_, Cond.selects RX4 yX4_pass_ yX4_pass_, Cond.code yX4_pass_ cX4_pass_ 3 none, Cond.fieldLink RX4 43 "LanternWeirsModel$State" "order" "[I", Cond.methodLink RX4 107 yX4_sort, Cond.instanceMethod yX4_sort, Cond.selects RX4 yX4_sort yX4_sort, Cond.code yX4_sort cX4_sort 4 (some .int)]
def wsX5_burns_r3 : List Cond := [Cond.methodLink RX4 69 yX4_isAhead, Cond.instanceMethod yX4_isAhead, Cond.selects RX4 yX4_isAhead yX4_isAhead, Cond.code yX4_isAhead cX4_isAhead 3 (some .boolean), Cond.methodLink RX4 111 yX4_drift, Cond.instanceMethod yX4_drift, Cond.selects RX4 yX4_drift yX4_drift, Cond.code yX4_drift cX4_drift 3 none, Cond.fieldLink RX4 3 "LanternWeirsModel$State" "this$0" "LLanternWeirsModel;", Cond.methodLink RX4 76 yX4_isCaught, Cond.instanceMethod yX4_isCaught, Cond.selects RX4 yX4_isCaught yX4_isCaught, Cond.code yX4_isCaught cX4_isCaught 3 (some .boolean), Cond.methodLink RX4 80 yX4_end, Cond.instanceMethod yX4_end, Cond.selects RX4 yX4_end yX4_end, Cond.code yX4_end cX4_end 3 none, Cond.methodLink RX4 84 yX4_pass, Cond.instanceMethod yX4_pass, Cond.selects RX4 yX4_pass yX4_pass, Cond.code yX4_pass cX4_pass 4 none, Cond.methodLink RX4 95 Lib.Math.max.name, Cond.static Lib.Math.max.name, Cond.initialized "java/lang/Math"]
def wsX5_burns_r4 : List Cond := [Cond.code Lib.Math.max.name Lib.Math.max.code 2 (some .int), Cond.methodLink RX4 91 yX4_at, Cond.instanceMethod yX4_at, Cond.selects RX4 yX4_at yX4_at, Cond.code yX4_at cX4_at 6 (some .int), Cond.methodLink RX4 101 yX4_isSoaked, Cond.instanceMethod yX4_isSoaked, Cond.selects RX4 yX4_isSoaked yX4_isSoaked, Cond.code yX4_isSoaked cX4_isSoaked 2 (some .boolean)]
def wsX5_burns : List Cond := .code yX5_burns cX5_burns 3 (some .int) :: ((wsX5_burns_r1 ++ (wsX5_burns_r2 ++ (wsX5_burns_r3 ++ wsX5_burns_r4))) ++ wsX50 ++ wsX40)
def wsX5_foresee_r1 : List Cond := [Cond.fieldLink RX5 31 "LanternWeirsModel" "thrown" "I", Cond.fieldLink RX5 28 "LanternWeirsModel" "ahead" "LLanternWeirsModel$State;", Cond.fieldLink RX5 24 "LanternWeirsModel" "s" "LLanternWeirsModel$State;", Cond.methodLink RX5 35 yX5_isIn, Cond.static yX5_isIn, Cond.initialized RX5, Cond.code yX5_isIn cX5_isIn 3 (some .boolean), Cond.methodLink RX5 46 yX5_no, Cond.instanceMethod yX5_no, Cond.selects RX5 yX5_no yX5_no, Cond.code yX5_no cX5_no 2 (some .int), Cond.methodLink RX5 116 yX4_become, Cond.instanceMethod yX4_become, Cond.selects RX4 yX4_become yX4_become, Cond.initialized RX4, Cond.code yX4_become cX4_become 2 none, Cond.fieldLink RX4 52 "LanternWeirsModel$State" "minute" "I", Cond.fieldLink RX4 56 "LanternWeirsModel$State" "lanterns" "I", Cond.fieldLink RX4 15 "LanternWeirsModel$State" "frame" "[I", Cond.fieldLink RX4 19 "LanternWeirsModel$State" "wish" "[I", Cond.fieldLink RX4 22 "LanternWeirsModel$State" "lane" "[I", Cond.fieldLink RX4 25 "LanternWeirsModel$State" "place" "[I", Cond.fieldLink RX4 28 "LanternWeirsModel$State" "wax" "[I", Cond.fieldLink RX4 31 "LanternWeirsModel$State" "wet" "[I"]
def wsX5_foresee_r2 : List Cond := [Cond.fieldLink RX4 34 "LanternWeirsModel$State" "burns" "[I", Cond.fieldLink RX4 37 "LanternWeirsModel$State" "state" "[I", Cond.fieldLink RX4 40 "LanternWeirsModel$State" "ended" "[I", Cond.methodLink RX4 59 yX4_copy, Cond.instanceMethod yX4_copy, Cond.selects RX4 yX4_copy yX4_copy, Cond.code yX4_copy cX4_copy 3 none, Cond.methodLink RX4 46 arraycopyName, Cond.native arraycopyName, Cond.static arraycopyName, Cond.initialized "java/lang/System", Cond.methodLink RX5 113 yX4_pass_, Cond.instanceMethod yX4_pass_, Cond.selects RX4 yX4_pass_ yX4_pass_, Cond.code yX4_pass_ cX4_pass_ 3 none, Cond.fieldLink RX4 43 "LanternWeirsModel$State" "order" "[I", Cond.methodLink RX4 107 yX4_sort, Cond.instanceMethod yX4_sort, Cond.selects RX4 yX4_sort yX4_sort, Cond.code yX4_sort cX4_sort 4 (some .int), Cond.methodLink RX4 69 yX4_isAhead, Cond.instanceMethod yX4_isAhead, Cond.selects RX4 yX4_isAhead yX4_isAhead, Cond.code yX4_isAhead cX4_isAhead 3 (some .boolean)]
def wsX5_foresee_r3 : List Cond := [Cond.methodLink RX4 111 yX4_drift, Cond.instanceMethod yX4_drift, Cond.selects RX4 yX4_drift yX4_drift, Cond.code yX4_drift cX4_drift 3 none, Cond.fieldLink RX4 3 "LanternWeirsModel$State" "this$0" "LLanternWeirsModel;", Cond.methodLink RX4 76 yX4_isCaught, Cond.instanceMethod yX4_isCaught, Cond.selects RX4 yX4_isCaught yX4_isCaught, Cond.code yX4_isCaught cX4_isCaught 3 (some .boolean), Cond.methodLink RX4 80 yX4_end, Cond.instanceMethod yX4_end, Cond.selects RX4 yX4_end yX4_end, Cond.code yX4_end cX4_end 3 none, Cond.methodLink RX4 84 yX4_pass, Cond.instanceMethod yX4_pass, Cond.selects RX4 yX4_pass yX4_pass, Cond.code yX4_pass cX4_pass 4 none, Cond.methodLink RX4 95 Lib.Math.max.name, Cond.static Lib.Math.max.name, Cond.initialized "java/lang/Math", Cond.code Lib.Math.max.name Lib.Math.max.code 2 (some .int), Cond.methodLink RX4 91 yX4_at, Cond.instanceMethod yX4_at, Cond.selects RX4 yX4_at yX4_at]
def wsX5_foresee_r4 : List Cond := [Cond.code yX4_at cX4_at 6 (some .int), Cond.methodLink RX4 101 yX4_isSoaked, Cond.instanceMethod yX4_isSoaked, Cond.selects RX4 yX4_isSoaked yX4_isSoaked, Cond.code yX4_isSoaked cX4_isSoaked 2 (some .boolean), Cond.methodLink RX5 110 yX4_counted, Cond.instanceMethod yX4_counted, Cond.selects RX4 yX4_counted yX4_counted, Cond.code yX4_counted cX4_counted 4 (some .int), Cond.arrayClass .int]
def wsX5_foresee : List Cond := .code yX5_foresee cX5_foresee 4 (some .int) :: ((wsX5_foresee_r1 ++ (wsX5_foresee_r2 ++ (wsX5_foresee_r3 ++ wsX5_foresee_r4))) ++ wsX50 ++ wsX40)
def wsX5_comes_r1 : List Cond := [Cond.fieldLink RX5 28 "LanternWeirsModel" "ahead" "LLanternWeirsModel$State;", Cond.fieldLink RX5 24 "LanternWeirsModel" "s" "LLanternWeirsModel$State;", Cond.methodLink RX5 116 yX4_become, Cond.instanceMethod yX4_become, Cond.selects RX4 yX4_become yX4_become, Cond.initialized RX4, Cond.code yX4_become cX4_become 2 none, Cond.fieldLink RX4 52 "LanternWeirsModel$State" "minute" "I", Cond.fieldLink RX4 56 "LanternWeirsModel$State" "lanterns" "I", Cond.fieldLink RX4 15 "LanternWeirsModel$State" "frame" "[I", Cond.fieldLink RX4 19 "LanternWeirsModel$State" "wish" "[I", Cond.fieldLink RX4 22 "LanternWeirsModel$State" "lane" "[I", Cond.fieldLink RX4 25 "LanternWeirsModel$State" "place" "[I", Cond.fieldLink RX4 28 "LanternWeirsModel$State" "wax" "[I", Cond.fieldLink RX4 31 "LanternWeirsModel$State" "wet" "[I", Cond.fieldLink RX4 34 "LanternWeirsModel$State" "burns" "[I", Cond.fieldLink RX4 37 "LanternWeirsModel$State" "state" "[I", Cond.fieldLink RX4 40 "LanternWeirsModel$State" "ended" "[I", Cond.methodLink RX4 59 yX4_copy, Cond.instanceMethod yX4_copy, Cond.selects RX4 yX4_copy yX4_copy, Cond.code yX4_copy cX4_copy 3 none, Cond.methodLink RX4 46 arraycopyName, Cond.native arraycopyName]
def wsX5_comes_r2 : List Cond := [Cond.static arraycopyName, Cond.initialized "java/lang/System", Cond.methodLink RX5 66 yX4_launch, Cond.instanceMethod yX4_launch, Cond.selects RX4 yX4_launch yX4_launch, Cond.code yX4_launch cX4_launch 5 (some .int), Cond.methodLink RX5 113 yX4_pass_, Cond.instanceMethod yX4_pass_, Cond.selects RX4 yX4_pass_ yX4_pass_, Cond.code yX4_pass_ cX4_pass_ 3 none, Cond.fieldLink RX4 43 "LanternWeirsModel$State" "order" "[I", Cond.methodLink RX4 107 yX4_sort, Cond.instanceMethod yX4_sort, Cond.selects RX4 yX4_sort yX4_sort, Cond.code yX4_sort cX4_sort 4 (some .int), Cond.methodLink RX4 69 yX4_isAhead, Cond.instanceMethod yX4_isAhead, Cond.selects RX4 yX4_isAhead yX4_isAhead, Cond.code yX4_isAhead cX4_isAhead 3 (some .boolean), Cond.methodLink RX4 111 yX4_drift, Cond.instanceMethod yX4_drift, Cond.selects RX4 yX4_drift yX4_drift, Cond.code yX4_drift cX4_drift 3 none, Cond.fieldLink RX4 3 "LanternWeirsModel$State" "this$0" "LLanternWeirsModel;"]
def wsX5_comes_r3 : List Cond := [Cond.methodLink RX4 76 yX4_isCaught, Cond.instanceMethod yX4_isCaught, Cond.selects RX4 yX4_isCaught yX4_isCaught, Cond.code yX4_isCaught cX4_isCaught 3 (some .boolean), Cond.methodLink RX4 80 yX4_end, Cond.instanceMethod yX4_end, Cond.selects RX4 yX4_end yX4_end, Cond.code yX4_end cX4_end 3 none, Cond.methodLink RX4 84 yX4_pass, Cond.instanceMethod yX4_pass, Cond.selects RX4 yX4_pass yX4_pass, Cond.code yX4_pass cX4_pass 4 none, Cond.methodLink RX4 95 Lib.Math.max.name, Cond.static Lib.Math.max.name, Cond.initialized "java/lang/Math", Cond.code Lib.Math.max.name Lib.Math.max.code 2 (some .int), Cond.methodLink RX4 91 yX4_at, Cond.instanceMethod yX4_at, Cond.selects RX4 yX4_at yX4_at, Cond.code yX4_at cX4_at 6 (some .int), Cond.methodLink RX4 101 yX4_isSoaked, Cond.instanceMethod yX4_isSoaked, Cond.selects RX4 yX4_isSoaked yX4_isSoaked, Cond.code yX4_isSoaked cX4_isSoaked 2 (some .boolean)]
def wsX5_comes : List Cond := .code yX5_comes cX5_comes 5 (some .int) :: ((wsX5_comes_r1 ++ (wsX5_comes_r2 ++ wsX5_comes_r3)) ++ wsX50 ++ wsX40)
def wsX5_advise_r1 : List Cond := [Cond.fieldLink RX5 31 "LanternWeirsModel" "thrown" "I", Cond.methodLink RX5 35 yX5_isIn, Cond.static yX5_isIn, Cond.initialized RX5, Cond.code yX5_isIn cX5_isIn 3 (some .boolean), Cond.methodLink RX5 46 yX5_no, Cond.instanceMethod yX5_no, Cond.selects RX5 yX5_no yX5_no, Cond.code yX5_no cX5_no 2 (some .int), Cond.methodLink RX5 120 yX5_comes, Cond.instanceMethod yX5_comes, Cond.selects RX5 yX5_comes yX5_comes, Cond.code yX5_comes cX5_comes 5 (some .int), Cond.fieldLink RX5 28 "LanternWeirsModel" "ahead" "LLanternWeirsModel$State;", Cond.fieldLink RX5 24 "LanternWeirsModel" "s" "LLanternWeirsModel$State;", Cond.methodLink RX5 116 yX4_become, Cond.instanceMethod yX4_become, Cond.selects RX4 yX4_become yX4_become, Cond.initialized RX4, Cond.code yX4_become cX4_become 2 none, Cond.fieldLink RX4 52 "LanternWeirsModel$State" "minute" "I", Cond.fieldLink RX4 56 "LanternWeirsModel$State" "lanterns" "I", Cond.fieldLink RX4 15 "LanternWeirsModel$State" "frame" "[I", Cond.fieldLink RX4 19 "LanternWeirsModel$State" "wish" "[I"]
def wsX5_advise_r2 : List Cond := [Cond.fieldLink RX4 22 "LanternWeirsModel$State" "lane" "[I", Cond.fieldLink RX4 25 "LanternWeirsModel$State" "place" "[I", Cond.fieldLink RX4 28 "LanternWeirsModel$State" "wax" "[I", Cond.fieldLink RX4 31 "LanternWeirsModel$State" "wet" "[I", Cond.fieldLink RX4 34 "LanternWeirsModel$State" "burns" "[I", Cond.fieldLink RX4 37 "LanternWeirsModel$State" "state" "[I", Cond.fieldLink RX4 40 "LanternWeirsModel$State" "ended" "[I", Cond.methodLink RX4 59 yX4_copy, Cond.instanceMethod yX4_copy, Cond.selects RX4 yX4_copy yX4_copy, Cond.code yX4_copy cX4_copy 3 none, Cond.methodLink RX4 46 arraycopyName, Cond.native arraycopyName, Cond.static arraycopyName, Cond.initialized "java/lang/System", Cond.methodLink RX5 66 yX4_launch, Cond.instanceMethod yX4_launch, Cond.selects RX4 yX4_launch yX4_launch, Cond.code yX4_launch cX4_launch 5 (some .int), Cond.methodLink RX5 113 yX4_pass_, Cond.instanceMethod yX4_pass_, Cond.selects RX4 yX4_pass_ yX4_pass_, Cond.code yX4_pass_ cX4_pass_ 3 none, Cond.fieldLink RX4 43 "LanternWeirsModel$State" "order" "[I"]
def wsX5_advise_r3 : List Cond := [Cond.methodLink RX4 107 yX4_sort, Cond.instanceMethod yX4_sort, Cond.selects RX4 yX4_sort yX4_sort, Cond.code yX4_sort cX4_sort 4 (some .int), Cond.methodLink RX4 69 yX4_isAhead, Cond.instanceMethod yX4_isAhead, Cond.selects RX4 yX4_isAhead yX4_isAhead, Cond.code yX4_isAhead cX4_isAhead 3 (some .boolean), Cond.methodLink RX4 111 yX4_drift, Cond.instanceMethod yX4_drift, Cond.selects RX4 yX4_drift yX4_drift, Cond.code yX4_drift cX4_drift 3 none, Cond.fieldLink RX4 3 "LanternWeirsModel$State" "this$0" "LLanternWeirsModel;", Cond.methodLink RX4 76 yX4_isCaught, Cond.instanceMethod yX4_isCaught, Cond.selects RX4 yX4_isCaught yX4_isCaught, Cond.code yX4_isCaught cX4_isCaught 3 (some .boolean), Cond.methodLink RX4 80 yX4_end, Cond.instanceMethod yX4_end, Cond.selects RX4 yX4_end yX4_end, Cond.code yX4_end cX4_end 3 none, Cond.methodLink RX4 84 yX4_pass, Cond.instanceMethod yX4_pass, Cond.selects RX4 yX4_pass yX4_pass]
def wsX5_advise_r4 : List Cond := [Cond.code yX4_pass cX4_pass 4 none, Cond.methodLink RX4 95 Lib.Math.max.name, Cond.static Lib.Math.max.name, Cond.initialized "java/lang/Math", Cond.code Lib.Math.max.name Lib.Math.max.code 2 (some .int), Cond.methodLink RX4 91 yX4_at, Cond.instanceMethod yX4_at, Cond.selects RX4 yX4_at yX4_at, Cond.code yX4_at cX4_at 6 (some .int), Cond.methodLink RX4 101 yX4_isSoaked, Cond.instanceMethod yX4_isSoaked, Cond.selects RX4 yX4_isSoaked yX4_isSoaked, Cond.code yX4_isSoaked cX4_isSoaked 2 (some .boolean)]
def wsX5_advise : List Cond := .code yX5_advise cX5_advise 6 (some .int) :: ((wsX5_advise_r1 ++ (wsX5_advise_r2 ++ (wsX5_advise_r3 ++ wsX5_advise_r4))) ++ wsX50 ++ wsX40)
def wsX5_mean : List Cond := .code yX5_mean cX5_mean 4 (some .double) :: ([.fieldLink RX5 31 "LanternWeirsModel" "thrown" "I", .fieldLink RX5 24 "LanternWeirsModel" "s" "LLanternWeirsModel$State;", .methodLink RX5 110 yX4_counted, .instanceMethod yX4_counted, .selects RX4 yX4_counted yX4_counted, .initialized RX4, .code yX4_counted cX4_counted 4 (some .int), .arrayClass .int, .fieldLink RX4 52 "LanternWeirsModel$State" "minute" "I", .fieldLink RX4 56 "LanternWeirsModel$State" "lanterns" "I", .fieldLink RX4 3 "LanternWeirsModel$State" "this$0" "LLanternWeirsModel;", .fieldLink RX4 37 "LanternWeirsModel$State" "state" "[I", .fieldLink RX4 34 "LanternWeirsModel$State" "burns" "[I", .fieldLink RX4 19 "LanternWeirsModel$State" "wish" "[I"] ++ wsX50 ++ wsX40)
def wsX5_digest_r1 : List Cond := [Cond.fieldLink RX5 31 "LanternWeirsModel" "thrown" "I", Cond.constantLong RX5 123 (1297), Cond.constantLong RX5 125 (31), Cond.fieldLink RX5 24 "LanternWeirsModel" "s" "LLanternWeirsModel$State;", Cond.fieldLink RX5 7 "LanternWeirsModel" "current" "[I", Cond.methodLink RX5 110 yX4_counted, Cond.instanceMethod yX4_counted, Cond.selects RX4 yX4_counted yX4_counted, Cond.initialized RX4, Cond.code yX4_counted cX4_counted 4 (some .int), Cond.arrayClass .int, Cond.fieldLink RX4 52 "LanternWeirsModel$State" "minute" "I", Cond.fieldLink RX4 56 "LanternWeirsModel$State" "lanterns" "I", Cond.fieldLink RX4 3 "LanternWeirsModel$State" "this$0" "LLanternWeirsModel;", Cond.fieldLink RX4 37 "LanternWeirsModel$State" "state" "[I", Cond.fieldLink RX4 34 "LanternWeirsModel$State" "burns" "[I", Cond.fieldLink RX4 19 "LanternWeirsModel$State" "wish" "[I", Cond.methodLink RX5 63 yX5_riverTold, Cond.instanceMethod yX5_riverTold, Cond.selects RX5 yX5_riverTold yX5_riverTold, Cond.initialized RX5, Cond.code yX5_riverTold cX5_riverTold 4 (some .int), Cond.fieldLink RX5 13 "LanternWeirsModel" "spray" "[I", Cond.fieldLink RX5 16 "LanternWeirsModel" "net" "[I"]
def wsX5_digest_r2 : List Cond := [Cond.methodLink RX5 59 yX4_at, Cond.instanceMethod yX4_at, Cond.selects RX4 yX4_at yX4_at, Cond.code yX4_at cX4_at 6 (some .int), Cond.fieldLink RX4 22 "LanternWeirsModel$State" "lane" "[I", Cond.fieldLink RX4 25 "LanternWeirsModel$State" "place" "[I", Cond.methodLink RX5 103 yX5_lanternTold, Cond.instanceMethod yX5_lanternTold, Cond.selects RX5 yX5_lanternTold yX5_lanternTold, Cond.code yX5_lanternTold cX5_lanternTold 4 (some .int), Cond.methodLink RX5 107 yX5_nextOf, Cond.instanceMethod yX5_nextOf, Cond.selects RX5 yX5_nextOf yX5_nextOf, Cond.code yX5_nextOf cX5_nextOf 3 (some .int)]
def wsX5_digest : List Cond := .code yX5_digest cX5_digest 7 (some .long) :: ((wsX5_digest_r1 ++ wsX5_digest_r2) ++ wsX50 ++ wsX40)
def wsJ9_max_7cf53 : List Cond := .code yJ9_max_7cf53 cJ9_max_7cf53 2 (some .int) :: ([])
def wsL_setCurrent_r1 : List Cond := [Cond.classLink RL 13 "java/lang/IndexOutOfBoundsException", Cond.classLink RL 15 "java/lang/IllegalArgumentException", Cond.methodLink RL 7 yX3_setCurrent, Cond.instanceMethod yX3_setCurrent, Cond.selects RX3 yX3_setCurrent yX3_setCurrent, Cond.initialized RX3, Cond.code yX3_setCurrent cX3_setCurrent 4 (some .int), Cond.classLink RX3 30 "java/lang/IndexOutOfBoundsException", Cond.initialized "java/lang/IndexOutOfBoundsException", Cond.classLink RX3 41 "java/lang/IllegalArgumentException", Cond.initialized "java/lang/IllegalArgumentException", Cond.fieldLink RX3 10 "LanternWeirs" "bed" "LLanternWeirs$Bed;", Cond.fieldLink RX3 46 "LanternWeirs$Bed" "currents" "LLanternWeirs$Row;", Cond.methodLink RX3 26 yX3_isLane, Cond.static yX3_isLane, Cond.code yX3_isLane cX3_isLane 1 (some .boolean), Cond.methodLink RX3 37 yX3_isWithin, Cond.static yX3_isWithin, Cond.code yX3_isWithin cX3_isWithin 3 (some .boolean), Cond.methodLink RX3 50 yX2_get, Cond.instanceMethod yX2_get, Cond.selects RX2 yX2_get yX2_get, Cond.initialized RX2, Cond.code yX2_get cX2_get 2 (some .int)]
def wsL_setCurrent_r2 : List Cond := [Cond.fieldLink RX2 7 "LanternWeirs$Row" "cells" "[I", Cond.methodLink RX3 56 yX2_put, Cond.instanceMethod yX2_put, Cond.selects RX2 yX2_put yX2_put, Cond.code yX2_put cX2_put 3 none]
def wsL_setCurrent : List Cond := .codeWith yL_setCurrent cL_setCurrent 5 (some .int) [(0, 10, 13, 13), (0, 10, 17, 15)] :: ((wsL_setCurrent_r1 ++ wsL_setCurrent_r2) ++ wsX30 ++ wsX00 ++ wsX20 ++ (vx_atS RX3 34 "java/lang/IndexOutOfBoundsException" ["java/lang/RuntimeException", "java/lang/Exception"]).filter goodWord ++ (vx_atS RX3 45 "java/lang/IllegalArgumentException" ["java/lang/RuntimeException", "java/lang/Exception"]).filter goodWord)
def wsL_weir_r1 : List Cond := [Cond.classLink RL 13 "java/lang/IndexOutOfBoundsException", Cond.classLink RL 15 "java/lang/IllegalArgumentException", Cond.classLink RL 20 "java/lang/IllegalStateException", Cond.methodLink RL 17 yX3_weir, Cond.instanceMethod yX3_weir, Cond.selects RX3 yX3_weir yX3_weir, Cond.initialized RX3, Cond.code yX3_weir cX3_weir 3 (some .int), Cond.classLink RX3 30 "java/lang/IndexOutOfBoundsException", Cond.initialized "java/lang/IndexOutOfBoundsException", Cond.classLink RX3 41 "java/lang/IllegalArgumentException", Cond.initialized "java/lang/IllegalArgumentException", Cond.classLink RX3 71 "java/lang/IllegalStateException", Cond.initialized "java/lang/IllegalStateException", Cond.fieldLink RX3 10 "LanternWeirs" "bed" "LLanternWeirs$Bed;", Cond.fieldLink RX3 64 "LanternWeirs$Bed" "weirs" "I", Cond.fieldLink RX3 68 "LanternWeirs$Bed" "sprays" "LLanternWeirs$Row;", Cond.methodLink RX3 37 yX3_isWithin, Cond.static yX3_isWithin, Cond.code yX3_isWithin cX3_isWithin 3 (some .boolean), Cond.methodLink RX3 50 yX2_get, Cond.instanceMethod yX2_get, Cond.selects RX2 yX2_get yX2_get, Cond.initialized RX2]
def wsL_weir_r2 : List Cond := [Cond.code yX2_get cX2_get 2 (some .int), Cond.fieldLink RX2 7 "LanternWeirs$Row" "cells" "[I", Cond.methodLink RX3 76 yX0_addWeir, Cond.instanceMethod yX0_addWeir, Cond.selects RX0 yX0_addWeir yX0_addWeir, Cond.initialized RX0, Cond.code yX0_addWeir cX0_addWeir 3 (some .int), Cond.fieldLink RX0 20 "LanternWeirs$Bed" "sprays" "LLanternWeirs$Row;", Cond.fieldLink RX0 30 "LanternWeirs$Bed" "weirs" "I", Cond.methodLink RX0 26 yX2_put, Cond.instanceMethod yX2_put, Cond.selects RX2 yX2_put yX2_put, Cond.code yX2_put cX2_put 3 none]
def wsL_weir : List Cond := .codeWith yL_weir cL_weir 5 (some .int) [(0, 10, 13, 13), (0, 10, 17, 15), (0, 10, 21, 20)] :: ((wsL_weir_r1 ++ wsL_weir_r2) ++ wsX30 ++ wsX00 ++ wsX20 ++ (vx_atS RX3 34 "java/lang/IndexOutOfBoundsException" ["java/lang/RuntimeException", "java/lang/Exception"]).filter goodWord ++ (vx_atS RX3 45 "java/lang/IllegalArgumentException" ["java/lang/RuntimeException", "java/lang/Exception"]).filter goodWord ++ (vx_atS RX3 75 "java/lang/IllegalStateException" ["java/lang/RuntimeException", "java/lang/Exception"]).filter goodWord)
def wsL_net_r1 : List Cond := [Cond.classLink RL 13 "java/lang/IndexOutOfBoundsException", Cond.classLink RL 20 "java/lang/IllegalStateException", Cond.methodLink RL 22 yX3_net, Cond.instanceMethod yX3_net, Cond.selects RX3 yX3_net yX3_net, Cond.initialized RX3, Cond.code yX3_net cX3_net 3 (some .int), Cond.classLink RX3 30 "java/lang/IndexOutOfBoundsException", Cond.initialized "java/lang/IndexOutOfBoundsException", Cond.classLink RX3 71 "java/lang/IllegalStateException", Cond.initialized "java/lang/IllegalStateException", Cond.fieldLink RX3 10 "LanternWeirs" "bed" "LLanternWeirs$Bed;", Cond.fieldLink RX3 82 "LanternWeirs$Bed" "netCount" "I", Cond.methodLink RX3 26 yX3_isLane, Cond.static yX3_isLane, Cond.code yX3_isLane cX3_isLane 1 (some .boolean), Cond.methodLink RX3 37 yX3_isWithin, Cond.static yX3_isWithin, Cond.code yX3_isWithin cX3_isWithin 3 (some .boolean), Cond.methodLink RX3 85 yX0_hasNet, Cond.instanceMethod yX0_hasNet, Cond.selects RX0 yX0_hasNet yX0_hasNet, Cond.initialized RX0, Cond.code yX0_hasNet cX0_hasNet 3 (some .boolean)]
def wsL_net_r2 : List Cond := [Cond.fieldLink RX0 23 "LanternWeirs$Bed" "nets" "LLanternWeirs$Row;", Cond.methodLink RX0 37 yX2_get, Cond.instanceMethod yX2_get, Cond.selects RX2 yX2_get yX2_get, Cond.initialized RX2, Cond.code yX2_get cX2_get 2 (some .int), Cond.fieldLink RX2 7 "LanternWeirs$Row" "cells" "[I", Cond.methodLink RX3 91 yX0_addNet, Cond.instanceMethod yX0_addNet, Cond.selects RX0 yX0_addNet yX0_addNet, Cond.code yX0_addNet cX0_addNet 3 (some .int), Cond.fieldLink RX0 34 "LanternWeirs$Bed" "netCount" "I", Cond.methodLink RX0 26 yX2_put, Cond.instanceMethod yX2_put, Cond.selects RX2 yX2_put yX2_put, Cond.code yX2_put cX2_put 3 none]
def wsL_net : List Cond := .codeWith yL_net cL_net 5 (some .int) [(0, 10, 13, 13), (0, 10, 17, 20)] :: ((wsL_net_r1 ++ wsL_net_r2) ++ wsX30 ++ wsX00 ++ wsX20 ++ (vx_atS RX3 34 "java/lang/IndexOutOfBoundsException" ["java/lang/RuntimeException", "java/lang/Exception"]).filter goodWord ++ (vx_atS RX3 75 "java/lang/IllegalStateException" ["java/lang/RuntimeException", "java/lang/Exception"]).filter goodWord)
def wsL_river_r1 : List Cond := [Cond.classLink RL 13 "java/lang/IndexOutOfBoundsException", Cond.methodLink RL 25 yX3_river, Cond.instanceMethod yX3_river, Cond.selects RX3 yX3_river yX3_river, Cond.initialized RX3, Cond.code yX3_river cX3_river 4 (some .int), Cond.classLink RX3 30 "java/lang/IndexOutOfBoundsException", Cond.initialized "java/lang/IndexOutOfBoundsException", Cond.methodLink RX3 26 yX3_isLane, Cond.static yX3_isLane, Cond.code yX3_isLane cX3_isLane 1 (some .boolean), Cond.methodLink RX3 37 yX3_isWithin, Cond.static yX3_isWithin, Cond.code yX3_isWithin cX3_isWithin 3 (some .boolean), Cond.methodLink RX3 94 yX3_isPlace, Cond.static yX3_isPlace, Cond.code yX3_isPlace cX3_isPlace 1 (some .boolean), Cond.methodLink RX3 99 yX3_riverFact, Cond.instanceMethod yX3_riverFact, Cond.selects RX3 yX3_riverFact yX3_riverFact, Cond.code yX3_riverFact cX3_riverFact 4 (some .int), Cond.fieldLink RX3 19 "LanternWeirs" "fleet" "LLanternWeirs$Fleet;", Cond.fieldLink RX3 10 "LanternWeirs" "bed" "LLanternWeirs$Bed;", Cond.fieldLink RX3 68 "LanternWeirs$Bed" "sprays" "LLanternWeirs$Row;"]
def wsL_river_r2 : List Cond := [Cond.methodLink RX3 194 yX1_floatingAt, Cond.instanceMethod yX1_floatingAt, Cond.selects RX1 yX1_floatingAt yX1_floatingAt, Cond.initialized RX1, Cond.code yX1_floatingAt cX1_floatingAt 5 (some .int), Cond.fieldLink RX1 44 "LanternWeirs$Fleet" "crowd" "LLanternWeirs$Row;", Cond.methodLink RX1 92 yX1_cell, Cond.static yX1_cell, Cond.code yX1_cell cX1_cell 3 (some .int), Cond.methodLink RX1 80 yX2_get, Cond.instanceMethod yX2_get, Cond.selects RX2 yX2_get yX2_get, Cond.initialized RX2, Cond.code yX2_get cX2_get 2 (some .int), Cond.fieldLink RX2 7 "LanternWeirs$Row" "cells" "[I", Cond.methodLink RX3 50 yX2_get, Cond.methodLink RX3 85 yX0_hasNet, Cond.instanceMethod yX0_hasNet, Cond.selects RX0 yX0_hasNet yX0_hasNet, Cond.initialized RX0, Cond.code yX0_hasNet cX0_hasNet 3 (some .boolean), Cond.fieldLink RX0 23 "LanternWeirs$Bed" "nets" "LLanternWeirs$Row;", Cond.methodLink RX0 37 yX2_get, Cond.methodLink RX3 197 yX1_caughtAt]
def wsL_river_r3 : List Cond := [Cond.instanceMethod yX1_caughtAt, Cond.selects RX1 yX1_caughtAt yX1_caughtAt, Cond.code yX1_caughtAt cX1_caughtAt 5 (some .int), Cond.fieldLink RX1 54 "LanternWeirs$Fleet" "size" "I", Cond.fieldLink RX1 38 "LanternWeirs$Fleet" "states" "LLanternWeirs$Row;", Cond.fieldLink RX1 23 "LanternWeirs$Fleet" "lanes" "LLanternWeirs$Row;", Cond.fieldLink RX1 26 "LanternWeirs$Fleet" "places" "LLanternWeirs$Row;"]
def wsL_river : List Cond := .codeWith yL_river cL_river 6 (some .int) [(0, 12, 15, 13)] :: ((wsL_river_r1 ++ (wsL_river_r2 ++ wsL_river_r3)) ++ wsX30 ++ wsX00 ++ wsX10 ++ wsX20 ++ (vx_atS RX3 34 "java/lang/IndexOutOfBoundsException" ["java/lang/RuntimeException", "java/lang/Exception"]).filter goodWord)
def wsL_launch_r1 : List Cond := [Cond.classLink RL 13 "java/lang/IndexOutOfBoundsException", Cond.classLink RL 15 "java/lang/IllegalArgumentException", Cond.classLink RL 20 "java/lang/IllegalStateException", Cond.methodLink RL 29 yX3_launch, Cond.instanceMethod yX3_launch, Cond.selects RX3 yX3_launch yX3_launch, Cond.initialized RX3, Cond.code yX3_launch cX3_launch 5 (some .int), Cond.classLink RX3 30 "java/lang/IndexOutOfBoundsException", Cond.initialized "java/lang/IndexOutOfBoundsException", Cond.classLink RX3 41 "java/lang/IllegalArgumentException", Cond.initialized "java/lang/IllegalArgumentException", Cond.classLink RX3 71 "java/lang/IllegalStateException", Cond.initialized "java/lang/IllegalStateException", Cond.fieldLink RX3 19 "LanternWeirs" "fleet" "LLanternWeirs$Fleet;", Cond.fieldLink RX3 110 "LanternWeirs$Fleet" "size" "I", Cond.methodLink RX3 103 yX3_isFrame, Cond.static yX3_isFrame, Cond.code yX3_isFrame cX3_isFrame 1 (some .boolean), Cond.methodLink RX3 37 yX3_isWithin, Cond.static yX3_isWithin, Cond.code yX3_isWithin cX3_isWithin 3 (some .boolean), Cond.methodLink RX3 26 yX3_isLane, Cond.static yX3_isLane]
def wsL_launch_r2 : List Cond := [Cond.code yX3_isLane cX3_isLane 1 (some .boolean), Cond.methodLink RX3 94 yX3_isPlace, Cond.static yX3_isPlace, Cond.code yX3_isPlace cX3_isPlace 1 (some .boolean), Cond.methodLink RX3 115 yX1_add, Cond.instanceMethod yX1_add, Cond.selects RX1 yX1_add yX1_add, Cond.initialized RX1, Cond.code yX1_add cX1_add 6 (some .int), Cond.fieldLink RX1 54 "LanternWeirs$Fleet" "size" "I", Cond.fieldLink RX1 16 "LanternWeirs$Fleet" "frames" "LLanternWeirs$Row;", Cond.fieldLink RX1 20 "LanternWeirs$Fleet" "wishes" "LLanternWeirs$Row;", Cond.fieldLink RX1 23 "LanternWeirs$Fleet" "lanes" "LLanternWeirs$Row;", Cond.fieldLink RX1 26 "LanternWeirs$Fleet" "places" "LLanternWeirs$Row;", Cond.fieldLink RX1 29 "LanternWeirs$Fleet" "waxes" "LLanternWeirs$Row;", Cond.fieldLink RX1 32 "LanternWeirs$Fleet" "wets" "LLanternWeirs$Row;", Cond.fieldLink RX1 35 "LanternWeirs$Fleet" "burning" "LLanternWeirs$Row;", Cond.fieldLink RX1 38 "LanternWeirs$Fleet" "states" "LLanternWeirs$Row;", Cond.fieldLink RX1 41 "LanternWeirs$Fleet" "ends" "LLanternWeirs$Row;", Cond.methodLink RX1 61 yX2_put, Cond.instanceMethod yX2_put, Cond.selects RX2 yX2_put yX2_put, Cond.initialized RX2, Cond.code yX2_put cX2_put 3 none]
def wsL_launch_r3 : List Cond := [Cond.fieldLink RX2 7 "LanternWeirs$Row" "cells" "[I", Cond.static yX3_waxOf, Cond.code yX3_waxOf cX3_waxOf 1 (some .int), Cond.methodLink RX1 69 yX1_crowdBy, Cond.instanceMethod yX1_crowdBy, Cond.selects RX1 yX1_crowdBy yX1_crowdBy, Cond.code yX1_crowdBy cX1_crowdBy 4 none, Cond.fieldLink RX1 44 "LanternWeirs$Fleet" "crowd" "LLanternWeirs$Row;", Cond.methodLink RX1 80 yX2_get, Cond.instanceMethod yX2_get, Cond.selects RX2 yX2_get yX2_get, Cond.code yX2_get cX2_get 2 (some .int), Cond.methodLink RX1 92 yX1_cell, Cond.static yX1_cell, Cond.code yX1_cell cX1_cell 3 (some .int)]
def wsL_launch : List Cond := .codeWith yL_launch cL_launch 7 (some .int) [(0, 14, 17, 13), (0, 14, 21, 15), (0, 14, 25, 20)] :: ((wsL_launch_r1 ++ (wsL_launch_r2 ++ wsL_launch_r3)) ++ wsX30 ++ wsX10 ++ wsX20 ++ (vx_atS RX3 34 "java/lang/IndexOutOfBoundsException" ["java/lang/RuntimeException", "java/lang/Exception"]).filter goodWord ++ (vx_atS RX3 45 "java/lang/IllegalArgumentException" ["java/lang/RuntimeException", "java/lang/Exception"]).filter goodWord ++ (vx_atS RX3 75 "java/lang/IllegalStateException" ["java/lang/RuntimeException", "java/lang/Exception"]).filter goodWord)
def wsL_push_r1 : List Cond := [Cond.classLink RL 13 "java/lang/IndexOutOfBoundsException", Cond.classLink RL 20 "java/lang/IllegalStateException", Cond.methodLink RL 33 yX3_push, Cond.instanceMethod yX3_push, Cond.selects RX3 yX3_push yX3_push, Cond.initialized RX3, Cond.code yX3_push cX3_push 4 (some .int), Cond.classLink RX3 30 "java/lang/IndexOutOfBoundsException", Cond.initialized "java/lang/IndexOutOfBoundsException", Cond.classLink RX3 71 "java/lang/IllegalStateException", Cond.initialized "java/lang/IllegalStateException", Cond.fieldLink RX3 19 "LanternWeirs" "fleet" "LLanternWeirs$Fleet;", Cond.fieldLink RX3 129 "LanternWeirs$Fleet" "lanes" "LLanternWeirs$Row;", Cond.fieldLink RX3 132 "LanternWeirs$Fleet" "places" "LLanternWeirs$Row;", Cond.methodLink RX3 119 yX1_has, Cond.instanceMethod yX1_has, Cond.selects RX1 yX1_has yX1_has, Cond.initialized RX1, Cond.code yX1_has cX1_has 2 (some .boolean), Cond.fieldLink RX1 54 "LanternWeirs$Fleet" "size" "I", Cond.static yX3_isWithin, Cond.code yX3_isWithin cX3_isWithin 3 (some .boolean), Cond.methodLink RX3 26 yX3_isLane, Cond.static yX3_isLane]
def wsL_push_r2 : List Cond := [Cond.code yX3_isLane cX3_isLane 1 (some .boolean), Cond.methodLink RX3 37 yX3_isWithin, Cond.methodLink RX3 124 yX1_isAfloat, Cond.instanceMethod yX1_isAfloat, Cond.selects RX1 yX1_isAfloat yX1_isAfloat, Cond.code yX1_isAfloat cX1_isAfloat 2 (some .boolean), Cond.fieldLink RX1 38 "LanternWeirs$Fleet" "states" "LLanternWeirs$Row;", Cond.methodLink RX1 76 yX1_has, Cond.methodLink RX1 80 yX2_get, Cond.instanceMethod yX2_get, Cond.selects RX2 yX2_get yX2_get, Cond.initialized RX2, Cond.code yX2_get cX2_get 2 (some .int), Cond.fieldLink RX2 7 "LanternWeirs$Row" "cells" "[I", Cond.methodLink RX3 50 yX2_get, Cond.methodLink RX3 135 yX1_moveTo, Cond.instanceMethod yX1_moveTo, Cond.selects RX1 yX1_moveTo yX1_moveTo, Cond.code yX1_moveTo cX1_moveTo 4 none, Cond.fieldLink RX1 23 "LanternWeirs$Fleet" "lanes" "LLanternWeirs$Row;", Cond.fieldLink RX1 26 "LanternWeirs$Fleet" "places" "LLanternWeirs$Row;", Cond.methodLink RX1 69 yX1_crowdBy, Cond.instanceMethod yX1_crowdBy, Cond.selects RX1 yX1_crowdBy yX1_crowdBy]
def wsL_push_r3 : List Cond := [Cond.code yX1_crowdBy cX1_crowdBy 4 none, Cond.fieldLink RX1 16 "LanternWeirs$Fleet" "frames" "LLanternWeirs$Row;", Cond.fieldLink RX1 44 "LanternWeirs$Fleet" "crowd" "LLanternWeirs$Row;", Cond.methodLink RX1 92 yX1_cell, Cond.static yX1_cell, Cond.code yX1_cell cX1_cell 3 (some .int), Cond.methodLink RX1 61 yX2_put, Cond.instanceMethod yX2_put, Cond.selects RX2 yX2_put yX2_put, Cond.code yX2_put cX2_put 3 none]
def wsL_push : List Cond := .codeWith yL_push cL_push 5 (some .int) [(0, 10, 13, 13), (0, 10, 17, 20)] :: ((wsL_push_r1 ++ (wsL_push_r2 ++ wsL_push_r3)) ++ wsX30 ++ wsX10 ++ wsX20 ++ (vx_atS RX3 34 "java/lang/IndexOutOfBoundsException" ["java/lang/RuntimeException", "java/lang/Exception"]).filter goodWord ++ (vx_atS RX3 75 "java/lang/IllegalStateException" ["java/lang/RuntimeException", "java/lang/Exception"]).filter goodWord)
def wsL_light_r1 : List Cond := [Cond.classLink RL 13 "java/lang/IndexOutOfBoundsException", Cond.classLink RL 20 "java/lang/IllegalStateException", Cond.methodLink RL 36 yX3_light, Cond.instanceMethod yX3_light, Cond.selects RX3 yX3_light yX3_light, Cond.initialized RX3, Cond.code yX3_light cX3_light 2 (some .int), Cond.classLink RX3 30 "java/lang/IndexOutOfBoundsException", Cond.initialized "java/lang/IndexOutOfBoundsException", Cond.classLink RX3 71 "java/lang/IllegalStateException", Cond.initialized "java/lang/IllegalStateException", Cond.fieldLink RX3 19 "LanternWeirs" "fleet" "LLanternWeirs$Fleet;", Cond.fieldLink RX3 146 "LanternWeirs$Fleet" "burning" "LLanternWeirs$Row;", Cond.fieldLink RX3 149 "LanternWeirs$Fleet" "waxes" "LLanternWeirs$Row;", Cond.methodLink RX3 119 yX1_has, Cond.instanceMethod yX1_has, Cond.selects RX1 yX1_has yX1_has, Cond.initialized RX1, Cond.code yX1_has cX1_has 2 (some .boolean), Cond.fieldLink RX1 54 "LanternWeirs$Fleet" "size" "I", Cond.static yX3_isWithin, Cond.code yX3_isWithin cX3_isWithin 3 (some .boolean), Cond.methodLink RX3 124 yX1_isAfloat, Cond.instanceMethod yX1_isAfloat]
def wsL_light_r2 : List Cond := [Cond.selects RX1 yX1_isAfloat yX1_isAfloat, Cond.code yX1_isAfloat cX1_isAfloat 2 (some .boolean), Cond.fieldLink RX1 38 "LanternWeirs$Fleet" "states" "LLanternWeirs$Row;", Cond.methodLink RX1 76 yX1_has, Cond.methodLink RX1 80 yX2_get, Cond.instanceMethod yX2_get, Cond.selects RX2 yX2_get yX2_get, Cond.initialized RX2, Cond.code yX2_get cX2_get 2 (some .int), Cond.fieldLink RX2 7 "LanternWeirs$Row" "cells" "[I", Cond.methodLink RX3 141 yX1_canBeLit, Cond.instanceMethod yX1_canBeLit, Cond.selects RX1 yX1_canBeLit yX1_canBeLit, Cond.code yX1_canBeLit cX1_canBeLit 2 (some .boolean), Cond.fieldLink RX1 29 "LanternWeirs$Fleet" "waxes" "LLanternWeirs$Row;", Cond.methodLink RX1 86 yX1_isBurning, Cond.instanceMethod yX1_isBurning, Cond.selects RX1 yX1_isBurning yX1_isBurning, Cond.code yX1_isBurning cX1_isBurning 2 (some .boolean), Cond.fieldLink RX1 35 "LanternWeirs$Fleet" "burning" "LLanternWeirs$Row;", Cond.methodLink RX1 89 yX1_isSoaked, Cond.instanceMethod yX1_isSoaked, Cond.selects RX1 yX1_isSoaked yX1_isSoaked, Cond.code yX1_isSoaked cX1_isSoaked 2 (some .boolean)]
def wsL_light_r3 : List Cond := [Cond.fieldLink RX1 32 "LanternWeirs$Fleet" "wets" "LLanternWeirs$Row;", Cond.fieldLink RX1 16 "LanternWeirs$Fleet" "frames" "LLanternWeirs$Row;", Cond.static yX3_sprayTakenBy, Cond.code yX3_sprayTakenBy cX3_sprayTakenBy 1 (some .int), Cond.methodLink RX3 56 yX2_put, Cond.instanceMethod yX2_put, Cond.selects RX2 yX2_put yX2_put, Cond.code yX2_put cX2_put 3 none, Cond.methodLink RX3 50 yX2_get]
def wsL_light : List Cond := .codeWith yL_light cL_light 4 (some .int) [(0, 9, 12, 13), (0, 9, 15, 20)] :: ((wsL_light_r1 ++ (wsL_light_r2 ++ wsL_light_r3)) ++ wsX30 ++ wsX10 ++ wsX20 ++ (vx_atS RX3 34 "java/lang/IndexOutOfBoundsException" ["java/lang/RuntimeException", "java/lang/Exception"]).filter goodWord ++ (vx_atS RX3 75 "java/lang/IllegalStateException" ["java/lang/RuntimeException", "java/lang/Exception"]).filter goodWord)
def wsL_blow_r1 : List Cond := [Cond.classLink RL 13 "java/lang/IndexOutOfBoundsException", Cond.classLink RL 20 "java/lang/IllegalStateException", Cond.methodLink RL 40 yX3_blow, Cond.instanceMethod yX3_blow, Cond.selects RX3 yX3_blow yX3_blow, Cond.initialized RX3, Cond.code yX3_blow cX3_blow 2 (some .int), Cond.classLink RX3 30 "java/lang/IndexOutOfBoundsException", Cond.initialized "java/lang/IndexOutOfBoundsException", Cond.classLink RX3 71 "java/lang/IllegalStateException", Cond.initialized "java/lang/IllegalStateException", Cond.fieldLink RX3 19 "LanternWeirs" "fleet" "LLanternWeirs$Fleet;", Cond.fieldLink RX3 146 "LanternWeirs$Fleet" "burning" "LLanternWeirs$Row;", Cond.fieldLink RX3 149 "LanternWeirs$Fleet" "waxes" "LLanternWeirs$Row;", Cond.methodLink RX3 119 yX1_has, Cond.instanceMethod yX1_has, Cond.selects RX1 yX1_has yX1_has, Cond.initialized RX1, Cond.code yX1_has cX1_has 2 (some .boolean), Cond.fieldLink RX1 54 "LanternWeirs$Fleet" "size" "I", Cond.static yX3_isWithin, Cond.code yX3_isWithin cX3_isWithin 3 (some .boolean), Cond.methodLink RX3 124 yX1_isAfloat, Cond.instanceMethod yX1_isAfloat]
def wsL_blow_r2 : List Cond := [Cond.selects RX1 yX1_isAfloat yX1_isAfloat, Cond.code yX1_isAfloat cX1_isAfloat 2 (some .boolean), Cond.fieldLink RX1 38 "LanternWeirs$Fleet" "states" "LLanternWeirs$Row;", Cond.methodLink RX1 76 yX1_has, Cond.methodLink RX1 80 yX2_get, Cond.instanceMethod yX2_get, Cond.selects RX2 yX2_get yX2_get, Cond.initialized RX2, Cond.code yX2_get cX2_get 2 (some .int), Cond.fieldLink RX2 7 "LanternWeirs$Row" "cells" "[I", Cond.methodLink RX3 152 yX1_isBurning, Cond.instanceMethod yX1_isBurning, Cond.selects RX1 yX1_isBurning yX1_isBurning, Cond.code yX1_isBurning cX1_isBurning 2 (some .boolean), Cond.fieldLink RX1 35 "LanternWeirs$Fleet" "burning" "LLanternWeirs$Row;", Cond.methodLink RX3 56 yX2_put, Cond.instanceMethod yX2_put, Cond.selects RX2 yX2_put yX2_put, Cond.code yX2_put cX2_put 3 none, Cond.methodLink RX3 50 yX2_get]
def wsL_blow : List Cond := .codeWith yL_blow cL_blow 4 (some .int) [(0, 9, 12, 13), (0, 9, 15, 20)] :: ((wsL_blow_r1 ++ wsL_blow_r2) ++ wsX30 ++ wsX10 ++ wsX20 ++ (vx_atS RX3 34 "java/lang/IndexOutOfBoundsException" ["java/lang/RuntimeException", "java/lang/Exception"]).filter goodWord ++ (vx_atS RX3 75 "java/lang/IllegalStateException" ["java/lang/RuntimeException", "java/lang/Exception"]).filter goodWord)
def wsL_told_r1 : List Cond := [Cond.classLink RL 13 "java/lang/IndexOutOfBoundsException", Cond.methodLink RL 43 yX3_told, Cond.instanceMethod yX3_told, Cond.selects RX3 yX3_told yX3_told, Cond.initialized RX3, Cond.code yX3_told cX3_told 3 (some .int), Cond.classLink RX3 30 "java/lang/IndexOutOfBoundsException", Cond.initialized "java/lang/IndexOutOfBoundsException", Cond.fieldLink RX3 19 "LanternWeirs" "fleet" "LLanternWeirs$Fleet;", Cond.methodLink RX3 119 yX1_has, Cond.instanceMethod yX1_has, Cond.selects RX1 yX1_has yX1_has, Cond.initialized RX1, Cond.code yX1_has cX1_has 2 (some .boolean), Cond.fieldLink RX1 54 "LanternWeirs$Fleet" "size" "I", Cond.static yX3_isWithin, Cond.code yX3_isWithin cX3_isWithin 3 (some .boolean), Cond.methodLink RX3 37 yX3_isWithin, Cond.methodLink RX3 159 yX1_fact, Cond.instanceMethod yX1_fact, Cond.selects RX1 yX1_fact yX1_fact, Cond.code yX1_fact cX1_fact 3 (some .int), Cond.fieldLink RX1 16 "LanternWeirs$Fleet" "frames" "LLanternWeirs$Row;", Cond.fieldLink RX1 20 "LanternWeirs$Fleet" "wishes" "LLanternWeirs$Row;"]
def wsL_told_r2 : List Cond := [Cond.fieldLink RX1 23 "LanternWeirs$Fleet" "lanes" "LLanternWeirs$Row;", Cond.fieldLink RX1 26 "LanternWeirs$Fleet" "places" "LLanternWeirs$Row;", Cond.fieldLink RX1 29 "LanternWeirs$Fleet" "waxes" "LLanternWeirs$Row;", Cond.fieldLink RX1 32 "LanternWeirs$Fleet" "wets" "LLanternWeirs$Row;", Cond.fieldLink RX1 35 "LanternWeirs$Fleet" "burning" "LLanternWeirs$Row;", Cond.fieldLink RX1 38 "LanternWeirs$Fleet" "states" "LLanternWeirs$Row;", Cond.fieldLink RX1 41 "LanternWeirs$Fleet" "ends" "LLanternWeirs$Row;", Cond.methodLink RX1 80 yX2_get, Cond.instanceMethod yX2_get, Cond.selects RX2 yX2_get yX2_get, Cond.initialized RX2, Cond.code yX2_get cX2_get 2 (some .int), Cond.fieldLink RX2 7 "LanternWeirs$Row" "cells" "[I"]
def wsL_told : List Cond := .codeWith yL_told cL_told 5 (some .int) [(0, 10, 13, 13)] :: ((wsL_told_r1 ++ wsL_told_r2) ++ wsX30 ++ wsX10 ++ wsX20 ++ (vx_atS RX3 34 "java/lang/IndexOutOfBoundsException" ["java/lang/RuntimeException", "java/lang/Exception"]).filter goodWord)
def wsL_next_r1 : List Cond := [Cond.classLink RL 13 "java/lang/IndexOutOfBoundsException", Cond.methodLink RL 46 yX3_next, Cond.instanceMethod yX3_next, Cond.selects RX3 yX3_next yX3_next, Cond.initialized RX3, Cond.code yX3_next cX3_next 2 (some .int), Cond.classLink RX3 30 "java/lang/IndexOutOfBoundsException", Cond.initialized "java/lang/IndexOutOfBoundsException", Cond.fieldLink RX3 19 "LanternWeirs" "fleet" "LLanternWeirs$Fleet;", Cond.methodLink RX3 119 yX1_has, Cond.instanceMethod yX1_has, Cond.selects RX1 yX1_has yX1_has, Cond.initialized RX1, Cond.code yX1_has cX1_has 2 (some .boolean), Cond.fieldLink RX1 54 "LanternWeirs$Fleet" "size" "I", Cond.static yX3_isWithin, Cond.code yX3_isWithin cX3_isWithin 3 (some .boolean), Cond.methodLink RX3 162 yX3_nextWeir, Cond.instanceMethod yX3_nextWeir, Cond.selects RX3 yX3_nextWeir yX3_nextWeir, Cond.code yX3_nextWeir cX3_nextWeir 3 (some .int), Cond.fieldLink RX3 132 "LanternWeirs$Fleet" "places" "LLanternWeirs$Row;", Cond.fieldLink RX3 10 "LanternWeirs" "bed" "LLanternWeirs$Bed;", Cond.fieldLink RX3 68 "LanternWeirs$Bed" "sprays" "LLanternWeirs$Row;"]
def wsL_next_r2 : List Cond := [Cond.methodLink RX3 124 yX1_isAfloat, Cond.instanceMethod yX1_isAfloat, Cond.selects RX1 yX1_isAfloat yX1_isAfloat, Cond.code yX1_isAfloat cX1_isAfloat 2 (some .boolean), Cond.fieldLink RX1 38 "LanternWeirs$Fleet" "states" "LLanternWeirs$Row;", Cond.methodLink RX1 76 yX1_has, Cond.methodLink RX1 80 yX2_get, Cond.instanceMethod yX2_get, Cond.selects RX2 yX2_get yX2_get, Cond.initialized RX2, Cond.code yX2_get cX2_get 2 (some .int), Cond.fieldLink RX2 7 "LanternWeirs$Row" "cells" "[I", Cond.methodLink RX3 50 yX2_get]
def wsL_next : List Cond := .codeWith yL_next cL_next 4 (some .int) [(0, 9, 12, 13)] :: ((wsL_next_r1 ++ wsL_next_r2) ++ wsX30 ++ wsX10 ++ wsX00 ++ wsX20 ++ (vx_atS RX3 34 "java/lang/IndexOutOfBoundsException" ["java/lang/RuntimeException", "java/lang/Exception"]).filter goodWord)
def wsL_count_r1 : List Cond := [Cond.classLink RL 13 "java/lang/IndexOutOfBoundsException", Cond.methodLink RL 49 yX3_count, Cond.instanceMethod yX3_count, Cond.selects RX3 yX3_count yX3_count, Cond.initialized RX3, Cond.code yX3_count cX3_count 2 (some .int), Cond.classLink RX3 30 "java/lang/IndexOutOfBoundsException", Cond.initialized "java/lang/IndexOutOfBoundsException", Cond.methodLink RX3 37 yX3_isWithin, Cond.static yX3_isWithin, Cond.code yX3_isWithin cX3_isWithin 3 (some .boolean), Cond.methodLink RX3 167 yX3_counted, Cond.instanceMethod yX3_counted, Cond.selects RX3 yX3_counted yX3_counted, Cond.code yX3_counted cX3_counted 2 (some .int), Cond.fieldLink RX3 19 "LanternWeirs" "fleet" "LLanternWeirs$Fleet;", Cond.fieldLink RX3 200 "LanternWeirs$Fleet" "minute" "I", Cond.fieldLink RX3 110 "LanternWeirs$Fleet" "size" "I", Cond.fieldLink RX3 10 "LanternWeirs" "bed" "LLanternWeirs$Bed;", Cond.fieldLink RX3 64 "LanternWeirs$Bed" "weirs" "I", Cond.fieldLink RX3 82 "LanternWeirs$Bed" "netCount" "I", Cond.methodLink RX3 172 yX1_tally, Cond.instanceMethod yX1_tally, Cond.selects RX1 yX1_tally yX1_tally]
def wsL_count_r2 : List Cond := [Cond.initialized RX1, Cond.code yX1_tally cX1_tally 4 (some .int), Cond.fieldLink RX1 54 "LanternWeirs$Fleet" "size" "I", Cond.methodLink RX1 96 yX1_share, Cond.instanceMethod yX1_share, Cond.selects RX1 yX1_share yX1_share, Cond.code yX1_share cX1_share 5 (some .int), Cond.fieldLink RX1 38 "LanternWeirs$Fleet" "states" "LLanternWeirs$Row;", Cond.fieldLink RX1 35 "LanternWeirs$Fleet" "burning" "LLanternWeirs$Row;", Cond.fieldLink RX1 20 "LanternWeirs$Fleet" "wishes" "LLanternWeirs$Row;", Cond.methodLink RX1 80 yX2_get, Cond.instanceMethod yX2_get, Cond.selects RX2 yX2_get yX2_get, Cond.initialized RX2, Cond.code yX2_get cX2_get 2 (some .int), Cond.fieldLink RX2 7 "LanternWeirs$Row" "cells" "[I"]
def wsL_count : List Cond := .codeWith yL_count cL_count 4 (some .int) [(0, 9, 12, 13)] :: ((wsL_count_r1 ++ wsL_count_r2) ++ wsX30 ++ wsX10 ++ wsX00 ++ wsX20 ++ (vx_atS RX3 34 "java/lang/IndexOutOfBoundsException" ["java/lang/RuntimeException", "java/lang/Exception"]).filter goodWord)
def wsL_pass_r1 : List Cond := [Cond.classLink RL 15 "java/lang/IllegalArgumentException", Cond.methodLink RL 52 yX3_pass, Cond.instanceMethod yX3_pass, Cond.selects RX3 yX3_pass yX3_pass, Cond.initialized RX3, Cond.code yX3_pass cX3_pass 3 (some .int), Cond.classLink RX3 41 "java/lang/IllegalArgumentException", Cond.initialized "java/lang/IllegalArgumentException", Cond.fieldLink RX3 19 "LanternWeirs" "fleet" "LLanternWeirs$Fleet;", Cond.fieldLink RX3 10 "LanternWeirs" "bed" "LLanternWeirs$Bed;", Cond.methodLink RX3 37 yX3_isWithin, Cond.static yX3_isWithin, Cond.code yX3_isWithin cX3_isWithin 3 (some .boolean), Cond.methodLink RX3 172 yX1_tally, Cond.instanceMethod yX1_tally, Cond.selects RX1 yX1_tally yX1_tally, Cond.initialized RX1, Cond.code yX1_tally cX1_tally 4 (some .int), Cond.fieldLink RX1 54 "LanternWeirs$Fleet" "size" "I", Cond.methodLink RX1 96 yX1_share, Cond.instanceMethod yX1_share, Cond.selects RX1 yX1_share yX1_share, Cond.code yX1_share cX1_share 5 (some .int), Cond.fieldLink RX1 38 "LanternWeirs$Fleet" "states" "LLanternWeirs$Row;"]
def wsL_pass_r2 : List Cond := [Cond.fieldLink RX1 35 "LanternWeirs$Fleet" "burning" "LLanternWeirs$Row;", Cond.fieldLink RX1 20 "LanternWeirs$Fleet" "wishes" "LLanternWeirs$Row;", Cond.methodLink RX1 80 yX2_get, Cond.instanceMethod yX2_get, Cond.selects RX2 yX2_get yX2_get, Cond.initialized RX2, Cond.code yX2_get cX2_get 2 (some .int), Cond.fieldLink RX2 7 "LanternWeirs$Row" "cells" "[I", Cond.methodLink RX3 175 yX1_passMinutes, Cond.instanceMethod yX1_passMinutes, Cond.selects RX1 yX1_passMinutes yX1_passMinutes, Cond.code yX1_passMinutes cX1_passMinutes 6 none, Cond.fieldLink RX1 47 "LanternWeirs$Fleet" "queue" "LLanternWeirs$Row;", Cond.fieldLink RX1 58 "LanternWeirs$Fleet" "minute" "I", Cond.methodLink RX1 100 yX1_lineUp, Cond.instanceMethod yX1_lineUp, Cond.selects RX1 yX1_lineUp yX1_lineUp, Cond.code yX1_lineUp cX1_lineUp 6 (some .int), Cond.fieldLink RX1 26 "LanternWeirs$Fleet" "places" "LLanternWeirs$Row;", Cond.fieldLink RX1 23 "LanternWeirs$Fleet" "lanes" "LLanternWeirs$Row;", Cond.methodLink RX1 111 yX1_isAfloat, Cond.instanceMethod yX1_isAfloat, Cond.selects RX1 yX1_isAfloat yX1_isAfloat, Cond.code yX1_isAfloat cX1_isAfloat 2 (some .boolean)]
def wsL_pass_r3 : List Cond := [Cond.methodLink RX1 76 yX1_has, Cond.instanceMethod yX1_has, Cond.selects RX1 yX1_has yX1_has, Cond.code yX1_has cX1_has 2 (some .boolean), Cond.methodLink RX1 61 yX2_put, Cond.instanceMethod yX2_put, Cond.selects RX2 yX2_put yX2_put, Cond.code yX2_put cX2_put 3 none, Cond.methodLink RX1 104 yX1_drift, Cond.instanceMethod yX1_drift, Cond.selects RX1 yX1_drift yX1_drift, Cond.code yX1_drift cX1_drift 7 none, Cond.fieldLink RX1 114 "LanternWeirs$Bed" "currents" "LLanternWeirs$Row;", Cond.fieldLink RX1 129 "LanternWeirs$Bed" "sprays" "LLanternWeirs$Row;", Cond.methodLink RX1 119 yX1_catchesAhead, Cond.instanceMethod yX1_catchesAhead, Cond.selects RX1 yX1_catchesAhead yX1_catchesAhead, Cond.code yX1_catchesAhead cX1_catchesAhead 4 (some .boolean), Cond.fieldLink RX1 16 "LanternWeirs$Fleet" "frames" "LLanternWeirs$Row;", Cond.fieldLink RX1 44 "LanternWeirs$Fleet" "crowd" "LLanternWeirs$Row;", Cond.methodLink RX1 92 yX1_cell, Cond.static yX1_cell, Cond.code yX1_cell cX1_cell 3 (some .int), Cond.methodLink RX1 122 yX1_moveTo]
def wsL_pass_r4 : List Cond := [Cond.instanceMethod yX1_moveTo, Cond.selects RX1 yX1_moveTo yX1_moveTo, Cond.code yX1_moveTo cX1_moveTo 4 none, Cond.methodLink RX1 69 yX1_crowdBy, Cond.instanceMethod yX1_crowdBy, Cond.selects RX1 yX1_crowdBy yX1_crowdBy, Cond.code yX1_crowdBy cX1_crowdBy 4 none, Cond.methodLink RX1 126 yX1_leave, Cond.instanceMethod yX1_leave, Cond.selects RX1 yX1_leave yX1_leave, Cond.code yX1_leave cX1_leave 3 none, Cond.fieldLink RX1 41 "LanternWeirs$Fleet" "ends" "LLanternWeirs$Row;", Cond.methodLink RX1 132 yX1_meetWeir, Cond.instanceMethod yX1_meetWeir, Cond.selects RX1 yX1_meetWeir yX1_meetWeir, Cond.code yX1_meetWeir cX1_meetWeir 6 none, Cond.fieldLink RX1 32 "LanternWeirs$Fleet" "wets" "LLanternWeirs$Row;", Cond.methodLink RX1 89 yX1_isSoaked, Cond.instanceMethod yX1_isSoaked, Cond.selects RX1 yX1_isSoaked yX1_isSoaked, Cond.code yX1_isSoaked cX1_isSoaked 2 (some .boolean), Cond.static yX3_sprayTakenBy, Cond.code yX3_sprayTakenBy cX3_sprayTakenBy 1 (some .int), Cond.methodLink RX1 135 yX0_hasNet]
def wsL_pass_r5 : List Cond := [Cond.instanceMethod yX0_hasNet, Cond.selects RX0 yX0_hasNet yX0_hasNet, Cond.initialized RX0, Cond.code yX0_hasNet cX0_hasNet 3 (some .boolean), Cond.fieldLink RX0 23 "LanternWeirs$Bed" "nets" "LLanternWeirs$Row;", Cond.methodLink RX0 37 yX2_get, Cond.methodLink RX1 108 yX1_useWax, Cond.instanceMethod yX1_useWax, Cond.selects RX1 yX1_useWax yX1_useWax, Cond.code yX1_useWax cX1_useWax 3 none, Cond.fieldLink RX1 29 "LanternWeirs$Fleet" "waxes" "LLanternWeirs$Row;", Cond.methodLink RX1 86 yX1_isBurning, Cond.instanceMethod yX1_isBurning, Cond.selects RX1 yX1_isBurning yX1_isBurning, Cond.code yX1_isBurning cX1_isBurning 2 (some .boolean)]
def wsL_pass : List Cond := .codeWith yL_pass cL_pass 4 (some .int) [(0, 9, 12, 15)] :: ((wsL_pass_r1 ++ (wsL_pass_r2 ++ (wsL_pass_r3 ++ (wsL_pass_r4 ++ wsL_pass_r5)))) ++ wsX30 ++ wsX10 ++ wsX20 ++ wsX00 ++ (vx_atS RX3 45 "java/lang/IllegalArgumentException" ["java/lang/RuntimeException", "java/lang/Exception"]).filter goodWord)
def wsL_burns_r1 : List Cond := [Cond.classLink RL 13 "java/lang/IndexOutOfBoundsException", Cond.methodLink RL 55 yX3_burns, Cond.instanceMethod yX3_burns, Cond.selects RX3 yX3_burns yX3_burns, Cond.initialized RX3, Cond.code yX3_burns cX3_burns 3 (some .int), Cond.classLink RX3 30 "java/lang/IndexOutOfBoundsException", Cond.initialized "java/lang/IndexOutOfBoundsException", Cond.fieldLink RX3 19 "LanternWeirs" "fleet" "LLanternWeirs$Fleet;", Cond.fieldLink RX3 23 "LanternWeirs" "dream" "LLanternWeirs$Fleet;", Cond.fieldLink RX3 10 "LanternWeirs" "bed" "LLanternWeirs$Bed;", Cond.methodLink RX3 119 yX1_has, Cond.instanceMethod yX1_has, Cond.selects RX1 yX1_has yX1_has, Cond.initialized RX1, Cond.code yX1_has cX1_has 2 (some .boolean), Cond.fieldLink RX1 54 "LanternWeirs$Fleet" "size" "I", Cond.static yX3_isWithin, Cond.code yX3_isWithin cX3_isWithin 3 (some .boolean), Cond.methodLink RX3 179 yX1_copy, Cond.instanceMethod yX1_copy, Cond.selects RX1 yX1_copy yX1_copy, Cond.code yX1_copy cX1_copy 2 none, Cond.fieldLink RX1 16 "LanternWeirs$Fleet" "frames" "LLanternWeirs$Row;"]
def wsL_burns_r2 : List Cond := [Cond.fieldLink RX1 20 "LanternWeirs$Fleet" "wishes" "LLanternWeirs$Row;", Cond.fieldLink RX1 23 "LanternWeirs$Fleet" "lanes" "LLanternWeirs$Row;", Cond.fieldLink RX1 26 "LanternWeirs$Fleet" "places" "LLanternWeirs$Row;", Cond.fieldLink RX1 29 "LanternWeirs$Fleet" "waxes" "LLanternWeirs$Row;", Cond.fieldLink RX1 32 "LanternWeirs$Fleet" "wets" "LLanternWeirs$Row;", Cond.fieldLink RX1 35 "LanternWeirs$Fleet" "burning" "LLanternWeirs$Row;", Cond.fieldLink RX1 38 "LanternWeirs$Fleet" "states" "LLanternWeirs$Row;", Cond.fieldLink RX1 41 "LanternWeirs$Fleet" "ends" "LLanternWeirs$Row;", Cond.fieldLink RX1 44 "LanternWeirs$Fleet" "crowd" "LLanternWeirs$Row;", Cond.fieldLink RX1 58 "LanternWeirs$Fleet" "minute" "I", Cond.methodLink RX1 50 yX2_copy, Cond.instanceMethod yX2_copy, Cond.selects RX2 yX2_copy yX2_copy, Cond.initialized RX2, Cond.code yX2_copy cX2_copy 3 none, Cond.fieldLink RX2 7 "LanternWeirs$Row" "cells" "[I", Cond.methodLink RX2 13 yX2_get, Cond.instanceMethod yX2_get, Cond.selects RX2 yX2_get yX2_get, Cond.code yX2_get cX2_get 2 (some .int), Cond.methodLink RX3 152 yX1_isBurning, Cond.instanceMethod yX1_isBurning, Cond.selects RX1 yX1_isBurning yX1_isBurning, Cond.code yX1_isBurning cX1_isBurning 2 (some .boolean)]
def wsL_burns_r3 : List Cond := [Cond.methodLink RX1 76 yX1_has, Cond.methodLink RX1 80 yX2_get, Cond.methodLink RX3 175 yX1_passMinutes, Cond.instanceMethod yX1_passMinutes, Cond.selects RX1 yX1_passMinutes yX1_passMinutes, Cond.code yX1_passMinutes cX1_passMinutes 6 none, Cond.fieldLink RX1 47 "LanternWeirs$Fleet" "queue" "LLanternWeirs$Row;", Cond.methodLink RX1 100 yX1_lineUp, Cond.instanceMethod yX1_lineUp, Cond.selects RX1 yX1_lineUp yX1_lineUp, Cond.code yX1_lineUp cX1_lineUp 6 (some .int), Cond.methodLink RX1 111 yX1_isAfloat, Cond.instanceMethod yX1_isAfloat, Cond.selects RX1 yX1_isAfloat yX1_isAfloat, Cond.code yX1_isAfloat cX1_isAfloat 2 (some .boolean), Cond.methodLink RX1 61 yX2_put, Cond.instanceMethod yX2_put, Cond.selects RX2 yX2_put yX2_put, Cond.code yX2_put cX2_put 3 none, Cond.methodLink RX1 104 yX1_drift, Cond.instanceMethod yX1_drift, Cond.selects RX1 yX1_drift yX1_drift, Cond.code yX1_drift cX1_drift 7 none, Cond.fieldLink RX1 114 "LanternWeirs$Bed" "currents" "LLanternWeirs$Row;"]
def wsL_burns_r4 : List Cond := [Cond.fieldLink RX1 129 "LanternWeirs$Bed" "sprays" "LLanternWeirs$Row;", Cond.methodLink RX1 119 yX1_catchesAhead, Cond.instanceMethod yX1_catchesAhead, Cond.selects RX1 yX1_catchesAhead yX1_catchesAhead, Cond.code yX1_catchesAhead cX1_catchesAhead 4 (some .boolean), Cond.methodLink RX1 92 yX1_cell, Cond.static yX1_cell, Cond.code yX1_cell cX1_cell 3 (some .int), Cond.methodLink RX1 122 yX1_moveTo, Cond.instanceMethod yX1_moveTo, Cond.selects RX1 yX1_moveTo yX1_moveTo, Cond.code yX1_moveTo cX1_moveTo 4 none, Cond.methodLink RX1 69 yX1_crowdBy, Cond.instanceMethod yX1_crowdBy, Cond.selects RX1 yX1_crowdBy yX1_crowdBy, Cond.code yX1_crowdBy cX1_crowdBy 4 none, Cond.methodLink RX1 126 yX1_leave, Cond.instanceMethod yX1_leave, Cond.selects RX1 yX1_leave yX1_leave, Cond.code yX1_leave cX1_leave 3 none, Cond.methodLink RX1 132 yX1_meetWeir, Cond.instanceMethod yX1_meetWeir, Cond.selects RX1 yX1_meetWeir yX1_meetWeir, Cond.code yX1_meetWeir cX1_meetWeir 6 none]
def wsL_burns_r5 : List Cond := [Cond.methodLink RX1 89 yX1_isSoaked, Cond.instanceMethod yX1_isSoaked, Cond.selects RX1 yX1_isSoaked yX1_isSoaked, Cond.code yX1_isSoaked cX1_isSoaked 2 (some .boolean), Cond.static yX3_sprayTakenBy, Cond.code yX3_sprayTakenBy cX3_sprayTakenBy 1 (some .int), Cond.methodLink RX1 135 yX0_hasNet, Cond.instanceMethod yX0_hasNet, Cond.selects RX0 yX0_hasNet yX0_hasNet, Cond.initialized RX0, Cond.code yX0_hasNet cX0_hasNet 3 (some .boolean), Cond.fieldLink RX0 23 "LanternWeirs$Bed" "nets" "LLanternWeirs$Row;", Cond.methodLink RX0 37 yX2_get, Cond.methodLink RX1 108 yX1_useWax, Cond.instanceMethod yX1_useWax, Cond.selects RX1 yX1_useWax yX1_useWax, Cond.code yX1_useWax cX1_useWax 3 none, Cond.methodLink RX1 86 yX1_isBurning]
def wsL_burns : List Cond := .codeWith yL_burns cL_burns 4 (some .int) [(0, 9, 12, 13)] :: ((wsL_burns_r1 ++ (wsL_burns_r2 ++ (wsL_burns_r3 ++ (wsL_burns_r4 ++ wsL_burns_r5)))) ++ wsX30 ++ wsX10 ++ wsX20 ++ wsX00 ++ (vx_atS RX3 34 "java/lang/IndexOutOfBoundsException" ["java/lang/RuntimeException", "java/lang/Exception"]).filter goodWord)
def wsL_foresee_r1 : List Cond := [Cond.classLink RL 15 "java/lang/IllegalArgumentException", Cond.classLink RL 13 "java/lang/IndexOutOfBoundsException", Cond.methodLink RL 58 yX3_foresee, Cond.instanceMethod yX3_foresee, Cond.selects RX3 yX3_foresee yX3_foresee, Cond.initialized RX3, Cond.code yX3_foresee cX3_foresee 3 (some .int), Cond.classLink RX3 41 "java/lang/IllegalArgumentException", Cond.initialized "java/lang/IllegalArgumentException", Cond.classLink RX3 30 "java/lang/IndexOutOfBoundsException", Cond.initialized "java/lang/IndexOutOfBoundsException", Cond.fieldLink RX3 23 "LanternWeirs" "dream" "LLanternWeirs$Fleet;", Cond.fieldLink RX3 19 "LanternWeirs" "fleet" "LLanternWeirs$Fleet;", Cond.fieldLink RX3 10 "LanternWeirs" "bed" "LLanternWeirs$Bed;", Cond.methodLink RX3 37 yX3_isWithin, Cond.static yX3_isWithin, Cond.code yX3_isWithin cX3_isWithin 3 (some .boolean), Cond.methodLink RX3 179 yX1_copy, Cond.instanceMethod yX1_copy, Cond.selects RX1 yX1_copy yX1_copy, Cond.initialized RX1, Cond.code yX1_copy cX1_copy 2 none, Cond.fieldLink RX1 16 "LanternWeirs$Fleet" "frames" "LLanternWeirs$Row;", Cond.fieldLink RX1 20 "LanternWeirs$Fleet" "wishes" "LLanternWeirs$Row;"]
def wsL_foresee_r2 : List Cond := [Cond.fieldLink RX1 23 "LanternWeirs$Fleet" "lanes" "LLanternWeirs$Row;", Cond.fieldLink RX1 26 "LanternWeirs$Fleet" "places" "LLanternWeirs$Row;", Cond.fieldLink RX1 29 "LanternWeirs$Fleet" "waxes" "LLanternWeirs$Row;", Cond.fieldLink RX1 32 "LanternWeirs$Fleet" "wets" "LLanternWeirs$Row;", Cond.fieldLink RX1 35 "LanternWeirs$Fleet" "burning" "LLanternWeirs$Row;", Cond.fieldLink RX1 38 "LanternWeirs$Fleet" "states" "LLanternWeirs$Row;", Cond.fieldLink RX1 41 "LanternWeirs$Fleet" "ends" "LLanternWeirs$Row;", Cond.fieldLink RX1 44 "LanternWeirs$Fleet" "crowd" "LLanternWeirs$Row;", Cond.fieldLink RX1 54 "LanternWeirs$Fleet" "size" "I", Cond.fieldLink RX1 58 "LanternWeirs$Fleet" "minute" "I", Cond.methodLink RX1 50 yX2_copy, Cond.instanceMethod yX2_copy, Cond.selects RX2 yX2_copy yX2_copy, Cond.initialized RX2, Cond.code yX2_copy cX2_copy 3 none, Cond.fieldLink RX2 7 "LanternWeirs$Row" "cells" "[I", Cond.methodLink RX2 13 yX2_get, Cond.instanceMethod yX2_get, Cond.selects RX2 yX2_get yX2_get, Cond.code yX2_get cX2_get 2 (some .int), Cond.methodLink RX3 175 yX1_passMinutes, Cond.instanceMethod yX1_passMinutes, Cond.selects RX1 yX1_passMinutes yX1_passMinutes, Cond.code yX1_passMinutes cX1_passMinutes 6 none]
def wsL_foresee_r3 : List Cond := [Cond.fieldLink RX1 47 "LanternWeirs$Fleet" "queue" "LLanternWeirs$Row;", Cond.methodLink RX1 100 yX1_lineUp, Cond.instanceMethod yX1_lineUp, Cond.selects RX1 yX1_lineUp yX1_lineUp, Cond.code yX1_lineUp cX1_lineUp 6 (some .int), Cond.methodLink RX1 111 yX1_isAfloat, Cond.instanceMethod yX1_isAfloat, Cond.selects RX1 yX1_isAfloat yX1_isAfloat, Cond.code yX1_isAfloat cX1_isAfloat 2 (some .boolean), Cond.methodLink RX1 76 yX1_has, Cond.instanceMethod yX1_has, Cond.selects RX1 yX1_has yX1_has, Cond.code yX1_has cX1_has 2 (some .boolean), Cond.methodLink RX1 80 yX2_get, Cond.methodLink RX1 61 yX2_put, Cond.instanceMethod yX2_put, Cond.selects RX2 yX2_put yX2_put, Cond.code yX2_put cX2_put 3 none, Cond.methodLink RX1 104 yX1_drift, Cond.instanceMethod yX1_drift, Cond.selects RX1 yX1_drift yX1_drift, Cond.code yX1_drift cX1_drift 7 none, Cond.fieldLink RX1 114 "LanternWeirs$Bed" "currents" "LLanternWeirs$Row;", Cond.fieldLink RX1 129 "LanternWeirs$Bed" "sprays" "LLanternWeirs$Row;"]
def wsL_foresee_r4 : List Cond := [Cond.methodLink RX1 119 yX1_catchesAhead, Cond.instanceMethod yX1_catchesAhead, Cond.selects RX1 yX1_catchesAhead yX1_catchesAhead, Cond.code yX1_catchesAhead cX1_catchesAhead 4 (some .boolean), Cond.methodLink RX1 92 yX1_cell, Cond.static yX1_cell, Cond.code yX1_cell cX1_cell 3 (some .int), Cond.methodLink RX1 122 yX1_moveTo, Cond.instanceMethod yX1_moveTo, Cond.selects RX1 yX1_moveTo yX1_moveTo, Cond.code yX1_moveTo cX1_moveTo 4 none, Cond.methodLink RX1 69 yX1_crowdBy, Cond.instanceMethod yX1_crowdBy, Cond.selects RX1 yX1_crowdBy yX1_crowdBy, Cond.code yX1_crowdBy cX1_crowdBy 4 none, Cond.methodLink RX1 126 yX1_leave, Cond.instanceMethod yX1_leave, Cond.selects RX1 yX1_leave yX1_leave, Cond.code yX1_leave cX1_leave 3 none, Cond.methodLink RX1 132 yX1_meetWeir, Cond.instanceMethod yX1_meetWeir, Cond.selects RX1 yX1_meetWeir yX1_meetWeir, Cond.code yX1_meetWeir cX1_meetWeir 6 none, Cond.methodLink RX1 89 yX1_isSoaked]
def wsL_foresee_r5 : List Cond := [Cond.instanceMethod yX1_isSoaked, Cond.selects RX1 yX1_isSoaked yX1_isSoaked, Cond.code yX1_isSoaked cX1_isSoaked 2 (some .boolean), Cond.static yX3_sprayTakenBy, Cond.code yX3_sprayTakenBy cX3_sprayTakenBy 1 (some .int), Cond.methodLink RX1 135 yX0_hasNet, Cond.instanceMethod yX0_hasNet, Cond.selects RX0 yX0_hasNet yX0_hasNet, Cond.initialized RX0, Cond.code yX0_hasNet cX0_hasNet 3 (some .boolean), Cond.fieldLink RX0 23 "LanternWeirs$Bed" "nets" "LLanternWeirs$Row;", Cond.methodLink RX0 37 yX2_get, Cond.methodLink RX1 108 yX1_useWax, Cond.instanceMethod yX1_useWax, Cond.selects RX1 yX1_useWax yX1_useWax, Cond.code yX1_useWax cX1_useWax 3 none, Cond.methodLink RX1 86 yX1_isBurning, Cond.instanceMethod yX1_isBurning, Cond.selects RX1 yX1_isBurning yX1_isBurning, Cond.code yX1_isBurning cX1_isBurning 2 (some .boolean), Cond.methodLink RX3 172 yX1_tally, Cond.instanceMethod yX1_tally, Cond.selects RX1 yX1_tally yX1_tally, Cond.code yX1_tally cX1_tally 4 (some .int)]
def wsL_foresee_r6 : List Cond := [Cond.methodLink RX1 96 yX1_share, Cond.instanceMethod yX1_share, Cond.selects RX1 yX1_share yX1_share, Cond.code yX1_share cX1_share 5 (some .int)]
def wsL_foresee : List Cond := .codeWith yL_foresee cL_foresee 5 (some .int) [(0, 10, 13, 15), (0, 10, 17, 13)] :: ((wsL_foresee_r1 ++ (wsL_foresee_r2 ++ (wsL_foresee_r3 ++ (wsL_foresee_r4 ++ (wsL_foresee_r5 ++ wsL_foresee_r6))))) ++ wsX30 ++ wsX10 ++ wsX20 ++ wsX00 ++ (vx_atS RX3 45 "java/lang/IllegalArgumentException" ["java/lang/RuntimeException", "java/lang/Exception"]).filter goodWord ++ (vx_atS RX3 34 "java/lang/IndexOutOfBoundsException" ["java/lang/RuntimeException", "java/lang/Exception"]).filter goodWord)
def wsL_advise_r1 : List Cond := [Cond.classLink RL 13 "java/lang/IndexOutOfBoundsException", Cond.methodLink RL 61 yX3_advise, Cond.instanceMethod yX3_advise, Cond.selects RX3 yX3_advise yX3_advise, Cond.initialized RX3, Cond.code yX3_advise cX3_advise 6 (some .int), Cond.classLink RX3 30 "java/lang/IndexOutOfBoundsException", Cond.initialized "java/lang/IndexOutOfBoundsException", Cond.methodLink RX3 103 yX3_isFrame, Cond.static yX3_isFrame, Cond.code yX3_isFrame cX3_isFrame 1 (some .boolean), Cond.methodLink RX3 37 yX3_isWithin, Cond.static yX3_isWithin, Cond.code yX3_isWithin cX3_isWithin 3 (some .boolean), Cond.methodLink RX3 187 yX3_minutesToNet, Cond.instanceMethod yX3_minutesToNet, Cond.selects RX3 yX3_minutesToNet yX3_minutesToNet, Cond.code yX3_minutesToNet cX3_minutesToNet 5 (some .int), Cond.fieldLink RX3 23 "LanternWeirs" "dream" "LLanternWeirs$Fleet;", Cond.fieldLink RX3 19 "LanternWeirs" "fleet" "LLanternWeirs$Fleet;", Cond.fieldLink RX3 10 "LanternWeirs" "bed" "LLanternWeirs$Bed;", Cond.fieldLink RX3 203 "LanternWeirs$Fleet" "states" "LLanternWeirs$Row;", Cond.methodLink RX3 179 yX1_copy, Cond.instanceMethod yX1_copy]
def wsL_advise_r2 : List Cond := [Cond.selects RX1 yX1_copy yX1_copy, Cond.initialized RX1, Cond.code yX1_copy cX1_copy 2 none, Cond.fieldLink RX1 16 "LanternWeirs$Fleet" "frames" "LLanternWeirs$Row;", Cond.fieldLink RX1 20 "LanternWeirs$Fleet" "wishes" "LLanternWeirs$Row;", Cond.fieldLink RX1 23 "LanternWeirs$Fleet" "lanes" "LLanternWeirs$Row;", Cond.fieldLink RX1 26 "LanternWeirs$Fleet" "places" "LLanternWeirs$Row;", Cond.fieldLink RX1 29 "LanternWeirs$Fleet" "waxes" "LLanternWeirs$Row;", Cond.fieldLink RX1 32 "LanternWeirs$Fleet" "wets" "LLanternWeirs$Row;", Cond.fieldLink RX1 35 "LanternWeirs$Fleet" "burning" "LLanternWeirs$Row;", Cond.fieldLink RX1 38 "LanternWeirs$Fleet" "states" "LLanternWeirs$Row;", Cond.fieldLink RX1 41 "LanternWeirs$Fleet" "ends" "LLanternWeirs$Row;", Cond.fieldLink RX1 44 "LanternWeirs$Fleet" "crowd" "LLanternWeirs$Row;", Cond.fieldLink RX1 54 "LanternWeirs$Fleet" "size" "I", Cond.fieldLink RX1 58 "LanternWeirs$Fleet" "minute" "I", Cond.methodLink RX1 50 yX2_copy, Cond.instanceMethod yX2_copy, Cond.selects RX2 yX2_copy yX2_copy, Cond.initialized RX2, Cond.code yX2_copy cX2_copy 3 none, Cond.fieldLink RX2 7 "LanternWeirs$Row" "cells" "[I", Cond.methodLink RX2 13 yX2_get, Cond.instanceMethod yX2_get, Cond.selects RX2 yX2_get yX2_get]
def wsL_advise_r3 : List Cond := [Cond.code yX2_get cX2_get 2 (some .int), Cond.methodLink RX3 115 yX1_add, Cond.instanceMethod yX1_add, Cond.selects RX1 yX1_add yX1_add, Cond.code yX1_add cX1_add 6 (some .int), Cond.methodLink RX1 61 yX2_put, Cond.instanceMethod yX2_put, Cond.selects RX2 yX2_put yX2_put, Cond.code yX2_put cX2_put 3 none, Cond.static yX3_waxOf, Cond.code yX3_waxOf cX3_waxOf 1 (some .int), Cond.methodLink RX1 69 yX1_crowdBy, Cond.instanceMethod yX1_crowdBy, Cond.selects RX1 yX1_crowdBy yX1_crowdBy, Cond.code yX1_crowdBy cX1_crowdBy 4 none, Cond.methodLink RX1 80 yX2_get, Cond.methodLink RX1 92 yX1_cell, Cond.static yX1_cell, Cond.code yX1_cell cX1_cell 3 (some .int), Cond.methodLink RX3 152 yX1_isBurning, Cond.instanceMethod yX1_isBurning, Cond.selects RX1 yX1_isBurning yX1_isBurning, Cond.code yX1_isBurning cX1_isBurning 2 (some .boolean), Cond.methodLink RX1 76 yX1_has]
def wsL_advise_r4 : List Cond := [Cond.instanceMethod yX1_has, Cond.selects RX1 yX1_has yX1_has, Cond.code yX1_has cX1_has 2 (some .boolean), Cond.methodLink RX3 175 yX1_passMinutes, Cond.instanceMethod yX1_passMinutes, Cond.selects RX1 yX1_passMinutes yX1_passMinutes, Cond.code yX1_passMinutes cX1_passMinutes 6 none, Cond.fieldLink RX1 47 "LanternWeirs$Fleet" "queue" "LLanternWeirs$Row;", Cond.methodLink RX1 100 yX1_lineUp, Cond.instanceMethod yX1_lineUp, Cond.selects RX1 yX1_lineUp yX1_lineUp, Cond.code yX1_lineUp cX1_lineUp 6 (some .int), Cond.methodLink RX1 111 yX1_isAfloat, Cond.instanceMethod yX1_isAfloat, Cond.selects RX1 yX1_isAfloat yX1_isAfloat, Cond.code yX1_isAfloat cX1_isAfloat 2 (some .boolean), Cond.methodLink RX1 104 yX1_drift, Cond.instanceMethod yX1_drift, Cond.selects RX1 yX1_drift yX1_drift, Cond.code yX1_drift cX1_drift 7 none, Cond.fieldLink RX1 114 "LanternWeirs$Bed" "currents" "LLanternWeirs$Row;", Cond.fieldLink RX1 129 "LanternWeirs$Bed" "sprays" "LLanternWeirs$Row;", Cond.methodLink RX1 119 yX1_catchesAhead, Cond.instanceMethod yX1_catchesAhead]
def wsL_advise_r5 : List Cond := [Cond.selects RX1 yX1_catchesAhead yX1_catchesAhead, Cond.code yX1_catchesAhead cX1_catchesAhead 4 (some .boolean), Cond.methodLink RX1 122 yX1_moveTo, Cond.instanceMethod yX1_moveTo, Cond.selects RX1 yX1_moveTo yX1_moveTo, Cond.code yX1_moveTo cX1_moveTo 4 none, Cond.methodLink RX1 126 yX1_leave, Cond.instanceMethod yX1_leave, Cond.selects RX1 yX1_leave yX1_leave, Cond.code yX1_leave cX1_leave 3 none, Cond.methodLink RX1 132 yX1_meetWeir, Cond.instanceMethod yX1_meetWeir, Cond.selects RX1 yX1_meetWeir yX1_meetWeir, Cond.code yX1_meetWeir cX1_meetWeir 6 none, Cond.methodLink RX1 89 yX1_isSoaked, Cond.instanceMethod yX1_isSoaked, Cond.selects RX1 yX1_isSoaked yX1_isSoaked, Cond.code yX1_isSoaked cX1_isSoaked 2 (some .boolean), Cond.static yX3_sprayTakenBy, Cond.code yX3_sprayTakenBy cX3_sprayTakenBy 1 (some .int), Cond.methodLink RX1 135 yX0_hasNet, Cond.instanceMethod yX0_hasNet, Cond.selects RX0 yX0_hasNet yX0_hasNet, Cond.initialized RX0]
def wsL_advise_r6 : List Cond := [Cond.code yX0_hasNet cX0_hasNet 3 (some .boolean), Cond.fieldLink RX0 23 "LanternWeirs$Bed" "nets" "LLanternWeirs$Row;", Cond.methodLink RX0 37 yX2_get, Cond.methodLink RX1 108 yX1_useWax, Cond.instanceMethod yX1_useWax, Cond.selects RX1 yX1_useWax yX1_useWax, Cond.code yX1_useWax cX1_useWax 3 none, Cond.methodLink RX1 86 yX1_isBurning, Cond.methodLink RX3 50 yX2_get]
def wsL_advise : List Cond := .codeWith yL_advise cL_advise 4 (some .int) [(0, 9, 12, 13)] :: ((wsL_advise_r1 ++ (wsL_advise_r2 ++ (wsL_advise_r3 ++ (wsL_advise_r4 ++ (wsL_advise_r5 ++ wsL_advise_r6))))) ++ wsX30 ++ wsX10 ++ wsX20 ++ wsX00 ++ (vx_atS RX3 34 "java/lang/IndexOutOfBoundsException" ["java/lang/RuntimeException", "java/lang/Exception"]).filter goodWord)
def wsL_law0_r1 : List Cond := [Cond.classLink RL 8 RX3, Cond.instantiable RX3 3, Cond.initialized RX3, Cond.classLink RL 65 RX5, Cond.instantiable RX5 8, Cond.initialized RX5, Cond.arrayClass .long, Cond.methodLink RL 64 yX3_init, Cond.instanceMethod yX3_init, Cond.code yX3_init cX3_init 1 none, Cond.methodLink RX3 1 objectInit, Cond.instanceMethod objectInit, Cond.code objectInit ⟨#[0xb1]⟩ 1 none, Cond.classLink RX3 7 RX0, Cond.instantiable RX0 5, Cond.initialized RX0, Cond.fieldLink RX3 10 "LanternWeirs" "bed" "LLanternWeirs$Bed;", Cond.classLink RX3 16 RX1, Cond.instantiable RX1 13, Cond.initialized RX1, Cond.fieldLink RX3 19 "LanternWeirs" "fleet" "LLanternWeirs$Fleet;", Cond.fieldLink RX3 23 "LanternWeirs" "dream" "LLanternWeirs$Fleet;", Cond.methodLink RX3 9 yX0_init, Cond.instanceMethod yX0_init]
def wsL_law0_r2 : List Cond := [Cond.code yX0_init cX0_init 1 none, Cond.methodLink RX0 3 objectInit, Cond.classLink RX0 9 RX2, Cond.instantiable RX2 1, Cond.initialized RX2, Cond.fieldLink RX0 14 "LanternWeirs$Bed" "currents" "LLanternWeirs$Row;", Cond.fieldLink RX0 20 "LanternWeirs$Bed" "sprays" "LLanternWeirs$Row;", Cond.fieldLink RX0 23 "LanternWeirs$Bed" "nets" "LLanternWeirs$Row;", Cond.methodLink RX0 11 yX2_init, Cond.instanceMethod yX2_init, Cond.code yX2_init cX2_init 2 none, Cond.methodLink RX2 1 objectInit, Cond.arrayClass .int, Cond.fieldLink RX2 7 "LanternWeirs$Row" "cells" "[I", Cond.methodLink RX0 26 yX2_put, Cond.instanceMethod yX2_put, Cond.selects RX2 yX2_put yX2_put, Cond.code yX2_put cX2_put 3 none, Cond.instanceMethod yX1_init, Cond.code yX1_init cX1_init 1 none, Cond.methodLink RX1 3 objectInit, Cond.classLink RX1 9 RX2, Cond.fieldLink RX1 16 "LanternWeirs$Fleet" "frames" "LLanternWeirs$Row;", Cond.fieldLink RX1 20 "LanternWeirs$Fleet" "wishes" "LLanternWeirs$Row;"]
def wsL_law0_r3 : List Cond := [Cond.fieldLink RX1 23 "LanternWeirs$Fleet" "lanes" "LLanternWeirs$Row;", Cond.fieldLink RX1 26 "LanternWeirs$Fleet" "places" "LLanternWeirs$Row;", Cond.fieldLink RX1 29 "LanternWeirs$Fleet" "waxes" "LLanternWeirs$Row;", Cond.fieldLink RX1 32 "LanternWeirs$Fleet" "wets" "LLanternWeirs$Row;", Cond.fieldLink RX1 35 "LanternWeirs$Fleet" "burning" "LLanternWeirs$Row;", Cond.fieldLink RX1 38 "LanternWeirs$Fleet" "states" "LLanternWeirs$Row;", Cond.fieldLink RX1 41 "LanternWeirs$Fleet" "ends" "LLanternWeirs$Row;", Cond.fieldLink RX1 44 "LanternWeirs$Fleet" "crowd" "LLanternWeirs$Row;", Cond.fieldLink RX1 47 "LanternWeirs$Fleet" "queue" "LLanternWeirs$Row;", Cond.methodLink RX1 13 yX2_init, Cond.methodLink RL 67 yX5_init, Cond.instanceMethod yX5_init, Cond.code yX5_init cX5_init 1 none, Cond.methodLink RX5 1 objectInit, Cond.fieldLink RX5 7 "LanternWeirsModel" "current" "[I", Cond.fieldLink RX5 13 "LanternWeirsModel" "spray" "[I", Cond.fieldLink RX5 16 "LanternWeirsModel" "net" "[I", Cond.classLink RX5 19 RX4, Cond.instantiable RX4 13, Cond.initialized RX4, Cond.fieldLink RX5 24 "LanternWeirsModel" "s" "LLanternWeirsModel$State;", Cond.fieldLink RX5 28 "LanternWeirsModel" "ahead" "LLanternWeirsModel$State;", Cond.instanceMethod yX4_init, Cond.code yX4_init cX4_init 2 none]
def wsL_law0_r4 : List Cond := [Cond.fieldLink RX4 3 "LanternWeirsModel$State" "this$0" "LLanternWeirsModel;", Cond.methodLink RX4 9 objectInit, Cond.fieldLink RX4 15 "LanternWeirsModel$State" "frame" "[I", Cond.fieldLink RX4 19 "LanternWeirsModel$State" "wish" "[I", Cond.fieldLink RX4 22 "LanternWeirsModel$State" "lane" "[I", Cond.fieldLink RX4 25 "LanternWeirsModel$State" "place" "[I", Cond.fieldLink RX4 28 "LanternWeirsModel$State" "wax" "[I", Cond.fieldLink RX4 31 "LanternWeirsModel$State" "wet" "[I", Cond.fieldLink RX4 34 "LanternWeirsModel$State" "burns" "[I", Cond.fieldLink RX4 37 "LanternWeirsModel$State" "state" "[I", Cond.fieldLink RX4 40 "LanternWeirsModel$State" "ended" "[I", Cond.fieldLink RX4 43 "LanternWeirsModel$State" "order" "[I", Cond.methodLink RL 68 yL_setCurrent, Cond.static yL_setCurrent, Cond.initialized RL, Cond.codeWith yL_setCurrent cL_setCurrent 5 (some .int) [(0, 10, 13, 13), (0, 10, 17, 15)], Cond.classLink RL 13 "java/lang/IndexOutOfBoundsException", Cond.classLink RL 15 "java/lang/IllegalArgumentException", Cond.methodLink RL 7 yX3_setCurrent, Cond.instanceMethod yX3_setCurrent, Cond.selects RX3 yX3_setCurrent yX3_setCurrent, Cond.code yX3_setCurrent cX3_setCurrent 4 (some .int), Cond.classLink RX3 30 "java/lang/IndexOutOfBoundsException", Cond.initialized "java/lang/IndexOutOfBoundsException"]
def wsL_law0_r5 : List Cond := [Cond.classLink RX3 41 "java/lang/IllegalArgumentException", Cond.initialized "java/lang/IllegalArgumentException", Cond.fieldLink RX3 46 "LanternWeirs$Bed" "currents" "LLanternWeirs$Row;", Cond.methodLink RX3 26 yX3_isLane, Cond.static yX3_isLane, Cond.code yX3_isLane cX3_isLane 1 (some .boolean), Cond.methodLink RX3 37 yX3_isWithin, Cond.static yX3_isWithin, Cond.code yX3_isWithin cX3_isWithin 3 (some .boolean), Cond.methodLink RX3 50 yX2_get, Cond.instanceMethod yX2_get, Cond.selects RX2 yX2_get yX2_get, Cond.code yX2_get cX2_get 2 (some .int), Cond.methodLink RX3 56 yX2_put, Cond.methodLink RL 73 yX5_setCurrent, Cond.instanceMethod yX5_setCurrent, Cond.selects RX5 yX5_setCurrent yX5_setCurrent, Cond.code yX5_setCurrent cX5_setCurrent 4 (some .int), Cond.fieldLink RX5 31 "LanternWeirsModel" "thrown" "I", Cond.methodLink RX5 42 yX5_isLane, Cond.static yX5_isLane, Cond.code yX5_isLane cX5_isLane 1 (some .boolean), Cond.methodLink RX5 35 yX5_isIn, Cond.static yX5_isIn]
def wsL_law0_r6 : List Cond := [Cond.code yX5_isIn cX5_isIn 3 (some .boolean), Cond.methodLink RX5 46 yX5_no, Cond.instanceMethod yX5_no, Cond.selects RX5 yX5_no yX5_no, Cond.code yX5_no cX5_no 2 (some .int), Cond.methodLink RL 74 yX5_thrown, Cond.instanceMethod yX5_thrown, Cond.selects RX5 yX5_thrown yX5_thrown, Cond.code yX5_thrown cX5_thrown 1 (some .int), Cond.methodLink RL 78 yL_weir, Cond.static yL_weir, Cond.codeWith yL_weir cL_weir 5 (some .int) [(0, 10, 13, 13), (0, 10, 17, 15), (0, 10, 21, 20)], Cond.classLink RL 20 "java/lang/IllegalStateException", Cond.methodLink RL 17 yX3_weir, Cond.instanceMethod yX3_weir, Cond.selects RX3 yX3_weir yX3_weir, Cond.code yX3_weir cX3_weir 3 (some .int), Cond.classLink RX3 71 "java/lang/IllegalStateException", Cond.initialized "java/lang/IllegalStateException", Cond.fieldLink RX3 64 "LanternWeirs$Bed" "weirs" "I", Cond.fieldLink RX3 68 "LanternWeirs$Bed" "sprays" "LLanternWeirs$Row;", Cond.methodLink RX3 76 yX0_addWeir, Cond.instanceMethod yX0_addWeir, Cond.selects RX0 yX0_addWeir yX0_addWeir]
def wsL_law0_r7 : List Cond := [Cond.code yX0_addWeir cX0_addWeir 3 (some .int), Cond.fieldLink RX0 30 "LanternWeirs$Bed" "weirs" "I", Cond.methodLink RL 80 yX5_weir, Cond.instanceMethod yX5_weir, Cond.selects RX5 yX5_weir yX5_weir, Cond.code yX5_weir cX5_weir 3 (some .int), Cond.fieldLink RX5 53 "LanternWeirsModel" "weirs" "I", Cond.methodLink RX5 50 yX5_isPlace, Cond.static yX5_isPlace, Cond.code yX5_isPlace cX5_isPlace 1 (some .boolean), Cond.methodLink RL 81 yL_net, Cond.static yL_net, Cond.codeWith yL_net cL_net 5 (some .int) [(0, 10, 13, 13), (0, 10, 17, 20)], Cond.methodLink RL 22 yX3_net, Cond.instanceMethod yX3_net, Cond.selects RX3 yX3_net yX3_net, Cond.code yX3_net cX3_net 3 (some .int), Cond.fieldLink RX3 82 "LanternWeirs$Bed" "netCount" "I", Cond.methodLink RX3 85 yX0_hasNet, Cond.instanceMethod yX0_hasNet, Cond.selects RX0 yX0_hasNet yX0_hasNet, Cond.code yX0_hasNet cX0_hasNet 3 (some .boolean), Cond.methodLink RX0 37 yX2_get, Cond.methodLink RX3 91 yX0_addNet]
def wsL_law0_r8 : List Cond := [Cond.instanceMethod yX0_addNet, Cond.selects RX0 yX0_addNet yX0_addNet, Cond.code yX0_addNet cX0_addNet 3 (some .int), Cond.fieldLink RX0 34 "LanternWeirs$Bed" "netCount" "I", Cond.methodLink RL 83 yX5_net, Cond.instanceMethod yX5_net, Cond.selects RX5 yX5_net yX5_net, Cond.code yX5_net cX5_net 3 (some .int), Cond.fieldLink RX5 56 "LanternWeirsModel" "nets" "I", Cond.methodLink RL 84 yL_river, Cond.static yL_river, Cond.codeWith yL_river cL_river 6 (some .int) [(0, 12, 15, 13)], Cond.methodLink RL 25 yX3_river, Cond.instanceMethod yX3_river, Cond.selects RX3 yX3_river yX3_river, Cond.code yX3_river cX3_river 4 (some .int), Cond.methodLink RX3 94 yX3_isPlace, Cond.static yX3_isPlace, Cond.code yX3_isPlace cX3_isPlace 1 (some .boolean), Cond.methodLink RX3 99 yX3_riverFact, Cond.instanceMethod yX3_riverFact, Cond.selects RX3 yX3_riverFact yX3_riverFact, Cond.code yX3_riverFact cX3_riverFact 4 (some .int), Cond.methodLink RX3 194 yX1_floatingAt]
def wsL_law0_r9 : List Cond := [Cond.instanceMethod yX1_floatingAt, Cond.selects RX1 yX1_floatingAt yX1_floatingAt, Cond.code yX1_floatingAt cX1_floatingAt 5 (some .int), Cond.methodLink RX1 92 yX1_cell, Cond.static yX1_cell, Cond.code yX1_cell cX1_cell 3 (some .int), Cond.methodLink RX1 80 yX2_get, Cond.methodLink RX3 197 yX1_caughtAt, Cond.instanceMethod yX1_caughtAt, Cond.selects RX1 yX1_caughtAt yX1_caughtAt, Cond.code yX1_caughtAt cX1_caughtAt 5 (some .int), Cond.fieldLink RX1 54 "LanternWeirs$Fleet" "size" "I", Cond.methodLink RL 87 yX5_river, Cond.instanceMethod yX5_river, Cond.selects RX5 yX5_river yX5_river, Cond.code yX5_river cX5_river 4 (some .int), Cond.methodLink RX5 63 yX5_riverTold, Cond.instanceMethod yX5_riverTold, Cond.selects RX5 yX5_riverTold yX5_riverTold, Cond.code yX5_riverTold cX5_riverTold 4 (some .int), Cond.methodLink RX5 59 yX4_at, Cond.instanceMethod yX4_at, Cond.selects RX4 yX4_at yX4_at, Cond.code yX4_at cX4_at 6 (some .int)]
def wsL_law0_r10 : List Cond := [Cond.fieldLink RX4 56 "LanternWeirsModel$State" "lanterns" "I", Cond.methodLink RL 88 yL_launch, Cond.static yL_launch, Cond.codeWith yL_launch cL_launch 7 (some .int) [(0, 14, 17, 13), (0, 14, 21, 15), (0, 14, 25, 20)], Cond.methodLink RL 29 yX3_launch, Cond.instanceMethod yX3_launch, Cond.selects RX3 yX3_launch yX3_launch, Cond.code yX3_launch cX3_launch 5 (some .int), Cond.fieldLink RX3 110 "LanternWeirs$Fleet" "size" "I", Cond.methodLink RX3 103 yX3_isFrame, Cond.static yX3_isFrame, Cond.code yX3_isFrame cX3_isFrame 1 (some .boolean), Cond.methodLink RX3 115 yX1_add, Cond.instanceMethod yX1_add, Cond.selects RX1 yX1_add yX1_add, Cond.code yX1_add cX1_add 6 (some .int), Cond.methodLink RX1 61 yX2_put, Cond.static yX3_waxOf, Cond.code yX3_waxOf cX3_waxOf 1 (some .int), Cond.methodLink RX1 69 yX1_crowdBy, Cond.instanceMethod yX1_crowdBy, Cond.selects RX1 yX1_crowdBy yX1_crowdBy, Cond.code yX1_crowdBy cX1_crowdBy 4 none, Cond.methodLink RL 91 yX5_launch]
def wsL_law0_r11 : List Cond := [Cond.instanceMethod yX5_launch, Cond.selects RX5 yX5_launch yX5_launch, Cond.code yX5_launch cX5_launch 5 (some .int), Cond.methodLink RX5 66 yX4_launch, Cond.instanceMethod yX4_launch, Cond.selects RX4 yX4_launch yX4_launch, Cond.code yX4_launch cX4_launch 5 (some .int), Cond.methodLink RL 92 yL_push, Cond.static yL_push, Cond.codeWith yL_push cL_push 5 (some .int) [(0, 10, 13, 13), (0, 10, 17, 20)], Cond.methodLink RL 33 yX3_push, Cond.instanceMethod yX3_push, Cond.selects RX3 yX3_push yX3_push, Cond.code yX3_push cX3_push 4 (some .int), Cond.fieldLink RX3 129 "LanternWeirs$Fleet" "lanes" "LLanternWeirs$Row;", Cond.fieldLink RX3 132 "LanternWeirs$Fleet" "places" "LLanternWeirs$Row;", Cond.methodLink RX3 119 yX1_has, Cond.instanceMethod yX1_has, Cond.selects RX1 yX1_has yX1_has, Cond.code yX1_has cX1_has 2 (some .boolean), Cond.methodLink RX3 124 yX1_isAfloat, Cond.instanceMethod yX1_isAfloat, Cond.selects RX1 yX1_isAfloat yX1_isAfloat, Cond.code yX1_isAfloat cX1_isAfloat 2 (some .boolean)]
def wsL_law0_r12 : List Cond := [Cond.methodLink RX1 76 yX1_has, Cond.methodLink RX3 135 yX1_moveTo, Cond.instanceMethod yX1_moveTo, Cond.selects RX1 yX1_moveTo yX1_moveTo, Cond.code yX1_moveTo cX1_moveTo 4 none, Cond.methodLink RL 94 yX5_push, Cond.instanceMethod yX5_push, Cond.selects RX5 yX5_push yX5_push, Cond.code yX5_push cX5_push 4 (some .int), Cond.methodLink RX5 70 yX5_isLantern, Cond.instanceMethod yX5_isLantern, Cond.selects RX5 yX5_isLantern yX5_isLantern, Cond.code yX5_isLantern cX5_isLantern 2 (some .boolean), Cond.methodLink RL 95 yL_light, Cond.static yL_light, Cond.codeWith yL_light cL_light 4 (some .int) [(0, 9, 12, 13), (0, 9, 15, 20)], Cond.methodLink RL 36 yX3_light, Cond.instanceMethod yX3_light, Cond.selects RX3 yX3_light yX3_light, Cond.code yX3_light cX3_light 2 (some .int), Cond.fieldLink RX3 146 "LanternWeirs$Fleet" "burning" "LLanternWeirs$Row;", Cond.fieldLink RX3 149 "LanternWeirs$Fleet" "waxes" "LLanternWeirs$Row;", Cond.methodLink RX3 141 yX1_canBeLit, Cond.instanceMethod yX1_canBeLit]
def wsL_law0_r13 : List Cond := [Cond.selects RX1 yX1_canBeLit yX1_canBeLit, Cond.code yX1_canBeLit cX1_canBeLit 2 (some .boolean), Cond.methodLink RX1 86 yX1_isBurning, Cond.instanceMethod yX1_isBurning, Cond.selects RX1 yX1_isBurning yX1_isBurning, Cond.code yX1_isBurning cX1_isBurning 2 (some .boolean), Cond.methodLink RX1 89 yX1_isSoaked, Cond.instanceMethod yX1_isSoaked, Cond.selects RX1 yX1_isSoaked yX1_isSoaked, Cond.code yX1_isSoaked cX1_isSoaked 2 (some .boolean), Cond.static yX3_sprayTakenBy, Cond.code yX3_sprayTakenBy cX3_sprayTakenBy 1 (some .int), Cond.methodLink RL 98 yX5_light, Cond.instanceMethod yX5_light, Cond.selects RX5 yX5_light yX5_light, Cond.code yX5_light cX5_light 2 (some .int), Cond.methodLink RX5 82 yX4_isSoaked, Cond.instanceMethod yX4_isSoaked, Cond.selects RX4 yX4_isSoaked yX4_isSoaked, Cond.code yX4_isSoaked cX4_isSoaked 2 (some .boolean), Cond.methodLink RL 99 yL_blow, Cond.static yL_blow, Cond.codeWith yL_blow cL_blow 4 (some .int) [(0, 9, 12, 13), (0, 9, 15, 20)], Cond.methodLink RL 40 yX3_blow]
def wsL_law0_r14 : List Cond := [Cond.instanceMethod yX3_blow, Cond.selects RX3 yX3_blow yX3_blow, Cond.code yX3_blow cX3_blow 2 (some .int), Cond.methodLink RX3 152 yX1_isBurning, Cond.methodLink RL 101 yX5_blow, Cond.instanceMethod yX5_blow, Cond.selects RX5 yX5_blow yX5_blow, Cond.code yX5_blow cX5_blow 2 (some .int), Cond.methodLink RL 102 yL_told, Cond.static yL_told, Cond.codeWith yL_told cL_told 5 (some .int) [(0, 10, 13, 13)], Cond.methodLink RL 43 yX3_told, Cond.instanceMethod yX3_told, Cond.selects RX3 yX3_told yX3_told, Cond.code yX3_told cX3_told 3 (some .int), Cond.methodLink RX3 159 yX1_fact, Cond.instanceMethod yX1_fact, Cond.selects RX1 yX1_fact yX1_fact, Cond.code yX1_fact cX1_fact 3 (some .int), Cond.methodLink RL 104 yX5_told, Cond.instanceMethod yX5_told, Cond.selects RX5 yX5_told yX5_told, Cond.code yX5_told cX5_told 3 (some .int), Cond.methodLink RX5 103 yX5_lanternTold]
def wsL_law0_r15 : List Cond := [Cond.instanceMethod yX5_lanternTold, Cond.selects RX5 yX5_lanternTold yX5_lanternTold, Cond.code yX5_lanternTold cX5_lanternTold 4 (some .int), Cond.methodLink RL 105 yL_next, Cond.static yL_next, Cond.codeWith yL_next cL_next 4 (some .int) [(0, 9, 12, 13)], Cond.methodLink RL 46 yX3_next, Cond.instanceMethod yX3_next, Cond.selects RX3 yX3_next yX3_next, Cond.code yX3_next cX3_next 2 (some .int), Cond.methodLink RX3 162 yX3_nextWeir, Cond.instanceMethod yX3_nextWeir, Cond.selects RX3 yX3_nextWeir yX3_nextWeir, Cond.code yX3_nextWeir cX3_nextWeir 3 (some .int), Cond.methodLink RL 107 yX5_next, Cond.instanceMethod yX5_next, Cond.selects RX5 yX5_next yX5_next, Cond.code yX5_next cX5_next 2 (some .int), Cond.methodLink RX5 107 yX5_nextOf, Cond.instanceMethod yX5_nextOf, Cond.selects RX5 yX5_nextOf yX5_nextOf, Cond.code yX5_nextOf cX5_nextOf 3 (some .int), Cond.methodLink RL 108 yL_count, Cond.static yL_count]
def wsL_law0_r16 : List Cond := [Cond.codeWith yL_count cL_count 4 (some .int) [(0, 9, 12, 13)], Cond.methodLink RL 49 yX3_count, Cond.instanceMethod yX3_count, Cond.selects RX3 yX3_count yX3_count, Cond.code yX3_count cX3_count 2 (some .int), Cond.methodLink RX3 167 yX3_counted, Cond.instanceMethod yX3_counted, Cond.selects RX3 yX3_counted yX3_counted, Cond.code yX3_counted cX3_counted 2 (some .int), Cond.fieldLink RX3 200 "LanternWeirs$Fleet" "minute" "I", Cond.methodLink RX3 172 yX1_tally, Cond.instanceMethod yX1_tally, Cond.selects RX1 yX1_tally yX1_tally, Cond.code yX1_tally cX1_tally 4 (some .int), Cond.methodLink RX1 96 yX1_share, Cond.instanceMethod yX1_share, Cond.selects RX1 yX1_share yX1_share, Cond.code yX1_share cX1_share 5 (some .int), Cond.methodLink RL 110 yX5_count, Cond.instanceMethod yX5_count, Cond.selects RX5 yX5_count yX5_count, Cond.code yX5_count cX5_count 2 (some .int), Cond.methodLink RX5 110 yX4_counted, Cond.instanceMethod yX4_counted]
def wsL_law0_r17 : List Cond := [Cond.selects RX4 yX4_counted yX4_counted, Cond.code yX4_counted cX4_counted 4 (some .int), Cond.fieldLink RX4 52 "LanternWeirsModel$State" "minute" "I", Cond.methodLink RL 111 yL_pass, Cond.static yL_pass, Cond.codeWith yL_pass cL_pass 4 (some .int) [(0, 9, 12, 15)], Cond.methodLink RL 52 yX3_pass, Cond.instanceMethod yX3_pass, Cond.selects RX3 yX3_pass yX3_pass, Cond.code yX3_pass cX3_pass 3 (some .int), Cond.methodLink RX3 175 yX1_passMinutes, Cond.instanceMethod yX1_passMinutes, Cond.selects RX1 yX1_passMinutes yX1_passMinutes, Cond.code yX1_passMinutes cX1_passMinutes 6 none, Cond.fieldLink RX1 58 "LanternWeirs$Fleet" "minute" "I", Cond.methodLink RX1 100 yX1_lineUp, Cond.instanceMethod yX1_lineUp, Cond.selects RX1 yX1_lineUp yX1_lineUp, Cond.code yX1_lineUp cX1_lineUp 6 (some .int), Cond.methodLink RX1 111 yX1_isAfloat, Cond.methodLink RX1 104 yX1_drift, Cond.instanceMethod yX1_drift, Cond.selects RX1 yX1_drift yX1_drift, Cond.code yX1_drift cX1_drift 7 none]
def wsL_law0_r18 : List Cond := [Cond.fieldLink RX1 114 "LanternWeirs$Bed" "currents" "LLanternWeirs$Row;", Cond.fieldLink RX1 129 "LanternWeirs$Bed" "sprays" "LLanternWeirs$Row;", Cond.methodLink RX1 119 yX1_catchesAhead, Cond.instanceMethod yX1_catchesAhead, Cond.selects RX1 yX1_catchesAhead yX1_catchesAhead, Cond.code yX1_catchesAhead cX1_catchesAhead 4 (some .boolean), Cond.methodLink RX1 122 yX1_moveTo, Cond.methodLink RX1 126 yX1_leave, Cond.instanceMethod yX1_leave, Cond.selects RX1 yX1_leave yX1_leave, Cond.code yX1_leave cX1_leave 3 none, Cond.methodLink RX1 132 yX1_meetWeir, Cond.instanceMethod yX1_meetWeir, Cond.selects RX1 yX1_meetWeir yX1_meetWeir, Cond.code yX1_meetWeir cX1_meetWeir 6 none, Cond.methodLink RX1 135 yX0_hasNet, Cond.methodLink RX1 108 yX1_useWax, Cond.instanceMethod yX1_useWax, Cond.selects RX1 yX1_useWax yX1_useWax, Cond.code yX1_useWax cX1_useWax 3 none, Cond.methodLink RL 113 yX5_pass, Cond.instanceMethod yX5_pass, Cond.selects RX5 yX5_pass yX5_pass, Cond.code yX5_pass cX5_pass 4 (some .int)]
def wsL_law0_r19 : List Cond := [Cond.methodLink RX5 113 yX4_pass_, Cond.instanceMethod yX4_pass_, Cond.selects RX4 yX4_pass_ yX4_pass_, Cond.code yX4_pass_ cX4_pass_ 3 none, Cond.methodLink RX4 107 yX4_sort, Cond.instanceMethod yX4_sort, Cond.selects RX4 yX4_sort yX4_sort, Cond.code yX4_sort cX4_sort 4 (some .int), Cond.methodLink RX4 69 yX4_isAhead, Cond.instanceMethod yX4_isAhead, Cond.selects RX4 yX4_isAhead yX4_isAhead, Cond.code yX4_isAhead cX4_isAhead 3 (some .boolean), Cond.methodLink RX4 111 yX4_drift, Cond.instanceMethod yX4_drift, Cond.selects RX4 yX4_drift yX4_drift, Cond.code yX4_drift cX4_drift 3 none, Cond.methodLink RX4 76 yX4_isCaught, Cond.instanceMethod yX4_isCaught, Cond.selects RX4 yX4_isCaught yX4_isCaught, Cond.code yX4_isCaught cX4_isCaught 3 (some .boolean), Cond.methodLink RX4 80 yX4_end, Cond.instanceMethod yX4_end, Cond.selects RX4 yX4_end yX4_end, Cond.code yX4_end cX4_end 3 none]
def wsL_law0_r20 : List Cond := [Cond.methodLink RX4 84 yX4_pass, Cond.instanceMethod yX4_pass, Cond.selects RX4 yX4_pass yX4_pass, Cond.code yX4_pass cX4_pass 4 none, Cond.methodLink RX4 95 Lib.Math.max.name, Cond.static Lib.Math.max.name, Cond.initialized "java/lang/Math", Cond.code Lib.Math.max.name Lib.Math.max.code 2 (some .int), Cond.methodLink RX4 91 yX4_at, Cond.methodLink RX4 101 yX4_isSoaked, Cond.methodLink RL 114 yL_burns, Cond.static yL_burns, Cond.codeWith yL_burns cL_burns 4 (some .int) [(0, 9, 12, 13)], Cond.methodLink RL 55 yX3_burns, Cond.instanceMethod yX3_burns, Cond.selects RX3 yX3_burns yX3_burns, Cond.code yX3_burns cX3_burns 3 (some .int), Cond.methodLink RX3 179 yX1_copy, Cond.instanceMethod yX1_copy, Cond.selects RX1 yX1_copy yX1_copy, Cond.code yX1_copy cX1_copy 2 none, Cond.methodLink RX1 50 yX2_copy, Cond.instanceMethod yX2_copy, Cond.selects RX2 yX2_copy yX2_copy]
def wsL_law0_r21 : List Cond := [Cond.code yX2_copy cX2_copy 3 none, Cond.methodLink RX2 13 yX2_get, Cond.methodLink RL 116 yX5_burns, Cond.instanceMethod yX5_burns, Cond.selects RX5 yX5_burns yX5_burns, Cond.code yX5_burns cX5_burns 3 (some .int), Cond.methodLink RX5 116 yX4_become, Cond.instanceMethod yX4_become, Cond.selects RX4 yX4_become yX4_become, Cond.code yX4_become cX4_become 2 none, Cond.methodLink RX4 59 yX4_copy, Cond.instanceMethod yX4_copy, Cond.selects RX4 yX4_copy yX4_copy, Cond.code yX4_copy cX4_copy 3 none, Cond.methodLink RX4 46 arraycopyName, Cond.native arraycopyName, Cond.static arraycopyName, Cond.initialized "java/lang/System", Cond.methodLink RL 117 yL_foresee, Cond.static yL_foresee, Cond.codeWith yL_foresee cL_foresee 5 (some .int) [(0, 10, 13, 15), (0, 10, 17, 13)], Cond.methodLink RL 58 yX3_foresee, Cond.instanceMethod yX3_foresee, Cond.selects RX3 yX3_foresee yX3_foresee]
def wsL_law0_r22 : List Cond := [Cond.code yX3_foresee cX3_foresee 3 (some .int), Cond.methodLink RL 119 yX5_foresee, Cond.instanceMethod yX5_foresee, Cond.selects RX5 yX5_foresee yX5_foresee, Cond.code yX5_foresee cX5_foresee 4 (some .int), Cond.methodLink RL 120 yL_advise, Cond.static yL_advise, Cond.codeWith yL_advise cL_advise 4 (some .int) [(0, 9, 12, 13)], Cond.methodLink RL 61 yX3_advise, Cond.instanceMethod yX3_advise, Cond.selects RX3 yX3_advise yX3_advise, Cond.code yX3_advise cX3_advise 6 (some .int), Cond.methodLink RX3 187 yX3_minutesToNet, Cond.instanceMethod yX3_minutesToNet, Cond.selects RX3 yX3_minutesToNet yX3_minutesToNet, Cond.code yX3_minutesToNet cX3_minutesToNet 5 (some .int), Cond.fieldLink RX3 203 "LanternWeirs$Fleet" "states" "LLanternWeirs$Row;", Cond.methodLink RL 122 yX5_advise, Cond.instanceMethod yX5_advise, Cond.selects RX5 yX5_advise yX5_advise, Cond.code yX5_advise cX5_advise 6 (some .int), Cond.methodLink RX5 120 yX5_comes, Cond.instanceMethod yX5_comes, Cond.selects RX5 yX5_comes yX5_comes]
def wsL_law0_r23 : List Cond := [Cond.code yX5_comes cX5_comes 5 (some .int), Cond.methodLink RL 123 yX3_mean, Cond.instanceMethod yX3_mean, Cond.selects RX3 yX3_mean yX3_mean, Cond.code yX3_mean cX3_mean 4 (some .double), Cond.methodLink RL 127 yX5_mean, Cond.instanceMethod yX5_mean, Cond.selects RX5 yX5_mean yX5_mean, Cond.code yX5_mean cX5_mean 4 (some .double), Cond.methodLink RL 128 yX3_digest, Cond.instanceMethod yX3_digest, Cond.selects RX3 yX3_digest yX3_digest, Cond.code yX3_digest cX3_digest 6 (some .long), Cond.constantLong RX3 190 (1297), Cond.constantLong RX3 192 (31), Cond.methodLink RL 132 yX5_digest, Cond.instanceMethod yX5_digest, Cond.selects RX5 yX5_digest yX5_digest, Cond.code yX5_digest cX5_digest 7 (some .long), Cond.constantLong RX5 123 (1297), Cond.constantLong RX5 125 (31)]
def wsL_law0 : List Cond := (wsL_law0_r1 ++ (wsL_law0_r2 ++ (wsL_law0_r3 ++ (wsL_law0_r4 ++ (wsL_law0_r5 ++ (wsL_law0_r6 ++ (wsL_law0_r7 ++ (wsL_law0_r8 ++ (wsL_law0_r9 ++ (wsL_law0_r10 ++ (wsL_law0_r11 ++ (wsL_law0_r12 ++ (wsL_law0_r13 ++ (wsL_law0_r14 ++ (wsL_law0_r15 ++ (wsL_law0_r16 ++ (wsL_law0_r17 ++ (wsL_law0_r18 ++ (wsL_law0_r19 ++ (wsL_law0_r20 ++ (wsL_law0_r21 ++ (wsL_law0_r22 ++ wsL_law0_r23)))))))))))))))))))))) ++ wsX30 ++ wsX50 ++ wsX00 ++ wsX10 ++ wsX20 ++ wsX40 ++ ([] : List Cond)
def wsL_law : List Cond := wsL_law0 ++ (vx_atS RX3 34 "java/lang/IndexOutOfBoundsException" ["java/lang/RuntimeException", "java/lang/Exception"]).filter goodWord ++ (vx_atS RX3 45 "java/lang/IllegalArgumentException" ["java/lang/RuntimeException", "java/lang/Exception"]).filter goodWord ++ (vx_atS RX3 75 "java/lang/IllegalStateException" ["java/lang/RuntimeException", "java/lang/Exception"]).filter goodWord
abbrev vwCl : List vw_C := [(RX0, TX0, 5), (RX1, TX1, 13), (RX2, TX2, 1), (RX3, TX3, 3), (RX4, TX4, 13), (RX5, TX5, 8)]
end
section
theorem dX2_init_0 : decode cX2_init 0 = .ok (.aload_n 0, 1) := by decide +kernel
theorem dX2_init_1 : decode cX2_init 1 = .ok (.invokespecial 1, 3) := by decide +kernel
theorem dX2_init_4 : decode cX2_init 4 = .ok (.aload_n 0, 1) := by decide +kernel
theorem dX2_init_5 : decode cX2_init 5 = .ok (.iload_n 1, 1) := by decide +kernel
theorem dX2_init_6 : decode cX2_init 6 = .ok (.ifCond .le 7, 3) := by decide +kernel
theorem dX2_init_9 : decode cX2_init 9 = .ok (.iload_n 1, 1) := by decide +kernel
theorem dX2_init_10 : decode cX2_init 10 = .ok (.goto 4, 3) := by decide +kernel
theorem dX2_init_13 : decode cX2_init 13 = .ok (.iconst 0, 1) := by decide +kernel
theorem dX2_init_14 : decode cX2_init 14 = .ok (.newarray .int, 2) := by decide +kernel
theorem dX2_init_16 : decode cX2_init 16 = .ok (.putfield 7, 3) := by decide +kernel
theorem dX2_init_19 : decode cX2_init 19 = .ok (.return_, 1) := by decide +kernel
theorem dX2_get_0 : decode cX2_get 0 = .ok (.iload_n 1, 1) := by decide +kernel
theorem dX2_get_1 : decode cX2_get 1 = .ok (.ifCond .lt 21, 3) := by decide +kernel
theorem dX2_get_4 : decode cX2_get 4 = .ok (.iload_n 1, 1) := by decide +kernel
theorem dX2_get_5 : decode cX2_get 5 = .ok (.aload_n 0, 1) := by decide +kernel
theorem dX2_get_6 : decode cX2_get 6 = .ok (.getfield 7, 3) := by decide +kernel
theorem dX2_get_9 : decode cX2_get 9 = .ok (.arraylength, 1) := by decide +kernel
theorem dX2_get_10 : decode cX2_get 10 = .ok (.if_icmp .ge 12, 3) := by decide +kernel
theorem dX2_get_13 : decode cX2_get 13 = .ok (.aload_n 0, 1) := by decide +kernel
theorem dX2_get_14 : decode cX2_get 14 = .ok (.getfield 7, 3) := by decide +kernel
theorem dX2_get_17 : decode cX2_get 17 = .ok (.iload_n 1, 1) := by decide +kernel
theorem dX2_get_18 : decode cX2_get 18 = .ok (.iaload, 1) := by decide +kernel
theorem dX2_get_19 : decode cX2_get 19 = .ok (.goto 4, 3) := by decide +kernel
theorem dX2_get_22 : decode cX2_get 22 = .ok (.iconst 0, 1) := by decide +kernel
theorem dX2_get_23 : decode cX2_get 23 = .ok (.ireturn, 1) := by decide +kernel
theorem dX2_put_0 : decode cX2_put 0 = .ok (.iload_n 1, 1) := by decide +kernel
theorem dX2_put_1 : decode cX2_put 1 = .ok (.ifCond .lt 19, 3) := by decide +kernel
theorem dX2_put_4 : decode cX2_put 4 = .ok (.iload_n 1, 1) := by decide +kernel
theorem dX2_put_5 : decode cX2_put 5 = .ok (.aload_n 0, 1) := by decide +kernel
theorem dX2_put_6 : decode cX2_put 6 = .ok (.getfield 7, 3) := by decide +kernel
theorem dX2_put_9 : decode cX2_put 9 = .ok (.arraylength, 1) := by decide +kernel
theorem dX2_put_10 : decode cX2_put 10 = .ok (.if_icmp .ge 10, 3) := by decide +kernel
theorem dX2_put_13 : decode cX2_put 13 = .ok (.aload_n 0, 1) := by decide +kernel
theorem dX2_put_14 : decode cX2_put 14 = .ok (.getfield 7, 3) := by decide +kernel
theorem dX2_put_17 : decode cX2_put 17 = .ok (.iload_n 1, 1) := by decide +kernel
theorem dX2_put_18 : decode cX2_put 18 = .ok (.iload_n 2, 1) := by decide +kernel
theorem dX2_put_19 : decode cX2_put 19 = .ok (.iastore, 1) := by decide +kernel
theorem dX2_put_20 : decode cX2_put 20 = .ok (.return_, 1) := by decide +kernel
set_option maxRecDepth 20000 in
theorem ggX2_copy_X2_get : GoodIn wsX2_copy wsX2_get := goodIn_r _ [6, 1, 7] (by decide +kernel) (by decide +kernel)
set_option maxRecDepth 20000 in
theorem gX2_copy_X2_get : GoodIn wsX2_copy (wsV RX2 13 RX2 yX2_get wsX2_get) := goodIn_app (goodIn_of _ (by decide +kernel)) ggX2_copy_X2_get
theorem dX2_copy_0 : decode cX2_copy 0 = .ok (.iconst 0, 1) := by decide +kernel
theorem dX2_copy_1 : decode cX2_copy 1 = .ok (.istore_n 2, 1) := by decide +kernel
theorem dX2_copy_2 : decode cX2_copy 2 = .ok (.iload_n 2, 1) := by decide +kernel
theorem dX2_copy_3 : decode cX2_copy 3 = .ok (.aload_n 0, 1) := by decide +kernel
theorem dX2_copy_4 : decode cX2_copy 4 = .ok (.getfield 7, 3) := by decide +kernel
theorem dX2_copy_7 : decode cX2_copy 7 = .ok (.arraylength, 1) := by decide +kernel
theorem dX2_copy_8 : decode cX2_copy 8 = .ok (.if_icmp .ge 20, 3) := by decide +kernel
theorem dX2_copy_11 : decode cX2_copy 11 = .ok (.aload_n 0, 1) := by decide +kernel
theorem dX2_copy_12 : decode cX2_copy 12 = .ok (.getfield 7, 3) := by decide +kernel
theorem dX2_copy_15 : decode cX2_copy 15 = .ok (.iload_n 2, 1) := by decide +kernel
theorem dX2_copy_16 : decode cX2_copy 16 = .ok (.aload_n 1, 1) := by decide +kernel
theorem dX2_copy_17 : decode cX2_copy 17 = .ok (.iload_n 2, 1) := by decide +kernel
theorem dX2_copy_18 : decode cX2_copy 18 = .ok (.invokevirtual 13, 3) := by decide +kernel
theorem dX2_copy_21 : decode cX2_copy 21 = .ok (.iastore, 1) := by decide +kernel
theorem dX2_copy_22 : decode cX2_copy 22 = .ok (.iinc 2 1, 3) := by decide +kernel
theorem dX2_copy_25 : decode cX2_copy 25 = .ok (.goto (-23), 3) := by decide +kernel
theorem dX2_copy_28 : decode cX2_copy 28 = .ok (.return_, 1) := by decide +kernel
set_option maxRecDepth 20000 in
theorem ggX0_init_X2_init : GoodIn wsX0_init wsX2_init := goodIn_r _ [12, 13, 2, 3, 14, 15, 20] (by decide +kernel) (by decide +kernel)
set_option maxRecDepth 20000 in
theorem gX0_init_X2_init : GoodIn wsX0_init (wsX2_init) := ggX0_init_X2_init
set_option maxRecDepth 20000 in
theorem ggX0_init_X2_put : GoodIn wsX0_init wsX2_put := goodIn_r _ [19, 15, 20] (by decide +kernel) (by decide +kernel)
set_option maxRecDepth 20000 in
theorem gX0_init_X2_put : GoodIn wsX0_init (wsV RX0 26 RX2 yX2_put wsX2_put) := goodIn_app (goodIn_of _ (by decide +kernel)) ggX0_init_X2_put
theorem dX0_init_0 : decode cX0_init 0 = .ok (.aload_n 0, 1) := by decide +kernel
theorem dX0_init_1 : decode cX0_init 1 = .ok (.invokespecial 3, 3) := by decide +kernel
theorem dX0_init_4 : decode cX0_init 4 = .ok (.aload_n 0, 1) := by decide +kernel
theorem dX0_init_5 : decode cX0_init 5 = .ok (.new 9, 3) := by decide +kernel
theorem dX0_init_8 : decode cX0_init 8 = .ok (.dup, 1) := by decide +kernel
theorem dX0_init_9 : decode cX0_init 9 = .ok (.iconst 3, 1) := by decide +kernel
theorem dX0_init_10 : decode cX0_init 10 = .ok (.invokespecial 11, 3) := by decide +kernel
theorem dX0_init_13 : decode cX0_init 13 = .ok (.putfield 14, 3) := by decide +kernel
theorem dX0_init_16 : decode cX0_init 16 = .ok (.aload_n 0, 1) := by decide +kernel
theorem dX0_init_17 : decode cX0_init 17 = .ok (.new 9, 3) := by decide +kernel
theorem dX0_init_20 : decode cX0_init 20 = .ok (.dup, 1) := by decide +kernel
theorem dX0_init_21 : decode cX0_init 21 = .ok (.bipush 60, 2) := by decide +kernel
theorem dX0_init_23 : decode cX0_init 23 = .ok (.invokespecial 11, 3) := by decide +kernel
theorem dX0_init_26 : decode cX0_init 26 = .ok (.putfield 20, 3) := by decide +kernel
theorem dX0_init_29 : decode cX0_init 29 = .ok (.aload_n 0, 1) := by decide +kernel
theorem dX0_init_30 : decode cX0_init 30 = .ok (.new 9, 3) := by decide +kernel
theorem dX0_init_33 : decode cX0_init 33 = .ok (.dup, 1) := by decide +kernel
theorem dX0_init_34 : decode cX0_init 34 = .ok (.sipush 180, 3) := by decide +kernel
theorem dX0_init_37 : decode cX0_init 37 = .ok (.invokespecial 11, 3) := by decide +kernel
theorem dX0_init_40 : decode cX0_init 40 = .ok (.putfield 23, 3) := by decide +kernel
theorem dX0_init_43 : decode cX0_init 43 = .ok (.aload_n 0, 1) := by decide +kernel
theorem dX0_init_44 : decode cX0_init 44 = .ok (.getfield 14, 3) := by decide +kernel
theorem dX0_init_47 : decode cX0_init 47 = .ok (.iconst 0, 1) := by decide +kernel
theorem dX0_init_48 : decode cX0_init 48 = .ok (.iconst 2, 1) := by decide +kernel
theorem dX0_init_49 : decode cX0_init 49 = .ok (.invokevirtual 26, 3) := by decide +kernel
theorem dX0_init_52 : decode cX0_init 52 = .ok (.aload_n 0, 1) := by decide +kernel
theorem dX0_init_53 : decode cX0_init 53 = .ok (.getfield 14, 3) := by decide +kernel
theorem dX0_init_56 : decode cX0_init 56 = .ok (.iconst 1, 1) := by decide +kernel
theorem dX0_init_57 : decode cX0_init 57 = .ok (.iconst 3, 1) := by decide +kernel
theorem dX0_init_58 : decode cX0_init 58 = .ok (.invokevirtual 26, 3) := by decide +kernel
theorem dX0_init_61 : decode cX0_init 61 = .ok (.aload_n 0, 1) := by decide +kernel
theorem dX0_init_62 : decode cX0_init 62 = .ok (.getfield 14, 3) := by decide +kernel
theorem dX0_init_65 : decode cX0_init 65 = .ok (.iconst 2, 1) := by decide +kernel
theorem dX0_init_66 : decode cX0_init 66 = .ok (.iconst 2, 1) := by decide +kernel
theorem dX0_init_67 : decode cX0_init 67 = .ok (.invokevirtual 26, 3) := by decide +kernel
theorem dX0_init_70 : decode cX0_init 70 = .ok (.return_, 1) := by decide +kernel
set_option maxRecDepth 20000 in
theorem ggX0_addWeir_X2_put : GoodIn wsX0_addWeir wsX2_put := goodIn_r _ [7, 8, 14] (by decide +kernel) (by decide +kernel)
set_option maxRecDepth 20000 in
theorem gX0_addWeir_X2_put : GoodIn wsX0_addWeir (wsV RX0 26 RX2 yX2_put wsX2_put) := goodIn_app (goodIn_of _ (by decide +kernel)) ggX0_addWeir_X2_put
theorem dX0_addWeir_0 : decode cX0_addWeir 0 = .ok (.aload_n 0, 1) := by decide +kernel
theorem dX0_addWeir_1 : decode cX0_addWeir 1 = .ok (.getfield 20, 3) := by decide +kernel
theorem dX0_addWeir_4 : decode cX0_addWeir 4 = .ok (.iload_n 1, 1) := by decide +kernel
theorem dX0_addWeir_5 : decode cX0_addWeir 5 = .ok (.iload_n 2, 1) := by decide +kernel
theorem dX0_addWeir_6 : decode cX0_addWeir 6 = .ok (.invokevirtual 26, 3) := by decide +kernel
theorem dX0_addWeir_9 : decode cX0_addWeir 9 = .ok (.aload_n 0, 1) := by decide +kernel
theorem dX0_addWeir_10 : decode cX0_addWeir 10 = .ok (.dup, 1) := by decide +kernel
theorem dX0_addWeir_11 : decode cX0_addWeir 11 = .ok (.getfield 30, 3) := by decide +kernel
theorem dX0_addWeir_14 : decode cX0_addWeir 14 = .ok (.iconst 1, 1) := by decide +kernel
theorem dX0_addWeir_15 : decode cX0_addWeir 15 = .ok (.iadd, 1) := by decide +kernel
theorem dX0_addWeir_16 : decode cX0_addWeir 16 = .ok (.putfield 30, 3) := by decide +kernel
theorem dX0_addWeir_19 : decode cX0_addWeir 19 = .ok (.aload_n 0, 1) := by decide +kernel
theorem dX0_addWeir_20 : decode cX0_addWeir 20 = .ok (.getfield 30, 3) := by decide +kernel
theorem dX0_addWeir_23 : decode cX0_addWeir 23 = .ok (.ireturn, 1) := by decide +kernel
set_option maxRecDepth 20000 in
theorem ggX0_addNet_X2_put : GoodIn wsX0_addNet wsX2_put := goodIn_r _ [7, 8, 14] (by decide +kernel) (by decide +kernel)
set_option maxRecDepth 20000 in
theorem gX0_addNet_X2_put : GoodIn wsX0_addNet (wsV RX0 26 RX2 yX2_put wsX2_put) := goodIn_app (goodIn_of _ (by decide +kernel)) ggX0_addNet_X2_put
theorem dX0_addNet_0 : decode cX0_addNet 0 = .ok (.aload_n 0, 1) := by decide +kernel
theorem dX0_addNet_1 : decode cX0_addNet 1 = .ok (.getfield 23, 3) := by decide +kernel
theorem dX0_addNet_4 : decode cX0_addNet 4 = .ok (.iload_n 1, 1) := by decide +kernel
theorem dX0_addNet_5 : decode cX0_addNet 5 = .ok (.bipush 60, 2) := by decide +kernel
theorem dX0_addNet_7 : decode cX0_addNet 7 = .ok (.imul, 1) := by decide +kernel
theorem dX0_addNet_8 : decode cX0_addNet 8 = .ok (.iload_n 2, 1) := by decide +kernel
theorem dX0_addNet_9 : decode cX0_addNet 9 = .ok (.iadd, 1) := by decide +kernel
theorem dX0_addNet_10 : decode cX0_addNet 10 = .ok (.iconst 1, 1) := by decide +kernel
theorem dX0_addNet_11 : decode cX0_addNet 11 = .ok (.invokevirtual 26, 3) := by decide +kernel
theorem dX0_addNet_14 : decode cX0_addNet 14 = .ok (.aload_n 0, 1) := by decide +kernel
theorem dX0_addNet_15 : decode cX0_addNet 15 = .ok (.dup, 1) := by decide +kernel
theorem dX0_addNet_16 : decode cX0_addNet 16 = .ok (.getfield 34, 3) := by decide +kernel
theorem dX0_addNet_19 : decode cX0_addNet 19 = .ok (.iconst 1, 1) := by decide +kernel
theorem dX0_addNet_20 : decode cX0_addNet 20 = .ok (.iadd, 1) := by decide +kernel
theorem dX0_addNet_21 : decode cX0_addNet 21 = .ok (.putfield 34, 3) := by decide +kernel
theorem dX0_addNet_24 : decode cX0_addNet 24 = .ok (.aload_n 0, 1) := by decide +kernel
theorem dX0_addNet_25 : decode cX0_addNet 25 = .ok (.getfield 34, 3) := by decide +kernel
theorem dX0_addNet_28 : decode cX0_addNet 28 = .ok (.ireturn, 1) := by decide +kernel
set_option maxRecDepth 20000 in
theorem ggX0_hasNet_X2_get : GoodIn wsX0_hasNet wsX2_get := goodIn_r _ [6, 7, 13] (by decide +kernel) (by decide +kernel)
set_option maxRecDepth 20000 in
theorem gX0_hasNet_X2_get : GoodIn wsX0_hasNet (wsV RX0 37 RX2 yX2_get wsX2_get) := goodIn_app (goodIn_of _ (by decide +kernel)) ggX0_hasNet_X2_get
theorem dX0_hasNet_0 : decode cX0_hasNet 0 = .ok (.aload_n 0, 1) := by decide +kernel
theorem dX0_hasNet_1 : decode cX0_hasNet 1 = .ok (.getfield 23, 3) := by decide +kernel
theorem dX0_hasNet_4 : decode cX0_hasNet 4 = .ok (.iload_n 1, 1) := by decide +kernel
theorem dX0_hasNet_5 : decode cX0_hasNet 5 = .ok (.bipush 60, 2) := by decide +kernel
theorem dX0_hasNet_7 : decode cX0_hasNet 7 = .ok (.imul, 1) := by decide +kernel
theorem dX0_hasNet_8 : decode cX0_hasNet 8 = .ok (.iload_n 2, 1) := by decide +kernel
theorem dX0_hasNet_9 : decode cX0_hasNet 9 = .ok (.iadd, 1) := by decide +kernel
theorem dX0_hasNet_10 : decode cX0_hasNet 10 = .ok (.invokevirtual 37, 3) := by decide +kernel
theorem dX0_hasNet_13 : decode cX0_hasNet 13 = .ok (.iconst 1, 1) := by decide +kernel
theorem dX0_hasNet_14 : decode cX0_hasNet 14 = .ok (.if_icmp .ne 7, 3) := by decide +kernel
theorem dX0_hasNet_17 : decode cX0_hasNet 17 = .ok (.iconst 1, 1) := by decide +kernel
theorem dX0_hasNet_18 : decode cX0_hasNet 18 = .ok (.goto 4, 3) := by decide +kernel
theorem dX0_hasNet_21 : decode cX0_hasNet 21 = .ok (.iconst 0, 1) := by decide +kernel
theorem dX0_hasNet_22 : decode cX0_hasNet 22 = .ok (.ireturn, 1) := by decide +kernel
theorem dX3_isWithin_0 : decode cX3_isWithin 0 = .ok (.iload_n 0, 1) := by decide +kernel
theorem dX3_isWithin_1 : decode cX3_isWithin 1 = .ok (.iload_n 1, 1) := by decide +kernel
theorem dX3_isWithin_2 : decode cX3_isWithin 2 = .ok (.if_icmp .lt 12, 3) := by decide +kernel
theorem dX3_isWithin_5 : decode cX3_isWithin 5 = .ok (.iload_n 0, 1) := by decide +kernel
theorem dX3_isWithin_6 : decode cX3_isWithin 6 = .ok (.iload_n 2, 1) := by decide +kernel
theorem dX3_isWithin_7 : decode cX3_isWithin 7 = .ok (.if_icmp .gt 7, 3) := by decide +kernel
theorem dX3_isWithin_10 : decode cX3_isWithin 10 = .ok (.iconst 1, 1) := by decide +kernel
theorem dX3_isWithin_11 : decode cX3_isWithin 11 = .ok (.goto 4, 3) := by decide +kernel
theorem dX3_isWithin_14 : decode cX3_isWithin 14 = .ok (.iconst 0, 1) := by decide +kernel
theorem dX3_isWithin_15 : decode cX3_isWithin 15 = .ok (.ireturn, 1) := by decide +kernel
set_option maxRecDepth 20000 in
theorem ggX3_isLane_X3_isWithin : GoodIn wsX3_isLane wsX3_isWithin := goodIn_r _ [4] (by decide +kernel) (by decide +kernel)
set_option maxRecDepth 20000 in
theorem gX3_isLane_X3_isWithin : GoodIn wsX3_isLane (va_wsS RX3 37 yX3_isWithin wsX3_isWithin) := goodIn_app (goodIn_of _ (by decide +kernel)) ggX3_isLane_X3_isWithin
theorem dX3_isLane_0 : decode cX3_isLane 0 = .ok (.iload_n 0, 1) := by decide +kernel
theorem dX3_isLane_1 : decode cX3_isLane 1 = .ok (.iconst 0, 1) := by decide +kernel
theorem dX3_isLane_2 : decode cX3_isLane 2 = .ok (.iconst 2, 1) := by decide +kernel
theorem dX3_isLane_3 : decode cX3_isLane 3 = .ok (.invokestatic 37, 3) := by decide +kernel
theorem dX3_isLane_6 : decode cX3_isLane 6 = .ok (.ireturn, 1) := by decide +kernel
set_option maxRecDepth 20000 in
theorem ggX3_isPlace_X3_isWithin : GoodIn wsX3_isPlace wsX3_isWithin := goodIn_r _ [4] (by decide +kernel) (by decide +kernel)
set_option maxRecDepth 20000 in
theorem gX3_isPlace_X3_isWithin : GoodIn wsX3_isPlace (va_wsS RX3 37 yX3_isWithin wsX3_isWithin) := goodIn_app (goodIn_of _ (by decide +kernel)) ggX3_isPlace_X3_isWithin
theorem dX3_isPlace_0 : decode cX3_isPlace 0 = .ok (.iload_n 0, 1) := by decide +kernel
theorem dX3_isPlace_1 : decode cX3_isPlace 1 = .ok (.iconst 0, 1) := by decide +kernel
theorem dX3_isPlace_2 : decode cX3_isPlace 2 = .ok (.bipush 59, 2) := by decide +kernel
theorem dX3_isPlace_4 : decode cX3_isPlace 4 = .ok (.invokestatic 37, 3) := by decide +kernel
theorem dX3_isPlace_7 : decode cX3_isPlace 7 = .ok (.ireturn, 1) := by decide +kernel
set_option maxRecDepth 20000 in
theorem ggX3_isFrame_X3_isWithin : GoodIn wsX3_isFrame wsX3_isWithin := goodIn_r _ [4] (by decide +kernel) (by decide +kernel)
set_option maxRecDepth 20000 in
theorem gX3_isFrame_X3_isWithin : GoodIn wsX3_isFrame (va_wsS RX3 37 yX3_isWithin wsX3_isWithin) := goodIn_app (goodIn_of _ (by decide +kernel)) ggX3_isFrame_X3_isWithin
theorem dX3_isFrame_0 : decode cX3_isFrame 0 = .ok (.iload_n 0, 1) := by decide +kernel
theorem dX3_isFrame_1 : decode cX3_isFrame 1 = .ok (.iconst 0, 1) := by decide +kernel
theorem dX3_isFrame_2 : decode cX3_isFrame 2 = .ok (.iconst 2, 1) := by decide +kernel
theorem dX3_isFrame_3 : decode cX3_isFrame 3 = .ok (.invokestatic 37, 3) := by decide +kernel
theorem dX3_isFrame_6 : decode cX3_isFrame 6 = .ok (.ireturn, 1) := by decide +kernel
theorem dX3_waxOf_0 : decode cX3_waxOf 0 = .ok (.iload_n 0, 1) := by decide +kernel
theorem dX3_waxOf_1 : decode cX3_waxOf 1 = .ok (.ifCond .ne 8, 3) := by decide +kernel
theorem dX3_waxOf_4 : decode cX3_waxOf 4 = .ok (.bipush 20, 2) := by decide +kernel
theorem dX3_waxOf_6 : decode cX3_waxOf 6 = .ok (.goto 15, 3) := by decide +kernel
theorem dX3_waxOf_9 : decode cX3_waxOf 9 = .ok (.iload_n 0, 1) := by decide +kernel
theorem dX3_waxOf_10 : decode cX3_waxOf 10 = .ok (.iconst 1, 1) := by decide +kernel
theorem dX3_waxOf_11 : decode cX3_waxOf 11 = .ok (.if_icmp .ne 8, 3) := by decide +kernel
theorem dX3_waxOf_14 : decode cX3_waxOf 14 = .ok (.bipush 30, 2) := by decide +kernel
theorem dX3_waxOf_16 : decode cX3_waxOf 16 = .ok (.goto 5, 3) := by decide +kernel
theorem dX3_waxOf_19 : decode cX3_waxOf 19 = .ok (.bipush 45, 2) := by decide +kernel
theorem dX3_waxOf_21 : decode cX3_waxOf 21 = .ok (.ireturn, 1) := by decide +kernel
theorem dX3_sprayTakenBy_0 : decode cX3_sprayTakenBy 0 = .ok (.iload_n 0, 1) := by decide +kernel
theorem dX3_sprayTakenBy_1 : decode cX3_sprayTakenBy 1 = .ok (.ifCond .ne 8, 3) := by decide +kernel
theorem dX3_sprayTakenBy_4 : decode cX3_sprayTakenBy 4 = .ok (.bipush 12, 2) := by decide +kernel
theorem dX3_sprayTakenBy_6 : decode cX3_sprayTakenBy 6 = .ok (.goto 14, 3) := by decide +kernel
theorem dX3_sprayTakenBy_9 : decode cX3_sprayTakenBy 9 = .ok (.iload_n 0, 1) := by decide +kernel
theorem dX3_sprayTakenBy_10 : decode cX3_sprayTakenBy 10 = .ok (.iconst 1, 1) := by decide +kernel
theorem dX3_sprayTakenBy_11 : decode cX3_sprayTakenBy 11 = .ok (.if_icmp .ne 8, 3) := by decide +kernel
theorem dX3_sprayTakenBy_14 : decode cX3_sprayTakenBy 14 = .ok (.bipush 8, 2) := by decide +kernel
theorem dX3_sprayTakenBy_16 : decode cX3_sprayTakenBy 16 = .ok (.goto 4, 3) := by decide +kernel
theorem dX3_sprayTakenBy_19 : decode cX3_sprayTakenBy 19 = .ok (.iconst 5, 1) := by decide +kernel
theorem dX3_sprayTakenBy_20 : decode cX3_sprayTakenBy 20 = .ok (.ireturn, 1) := by decide +kernel
end
section
set_option maxRecDepth 20000 in
theorem ggX1_init_X2_init : GoodIn wsX1_init wsX2_init := goodIn_r _ [20, 21, 2, 3, 22, 23, 24] (by decide +kernel) (by decide +kernel)
set_option maxRecDepth 20000 in
theorem gX1_init_X2_init : GoodIn wsX1_init (wsX2_init) := ggX1_init_X2_init
theorem dX1_init_0 : decode cX1_init 0 = .ok (.aload_n 0, 1) := by decide +kernel
theorem dX1_init_1 : decode cX1_init 1 = .ok (.invokespecial 3, 3) := by decide +kernel
theorem dX1_init_4 : decode cX1_init 4 = .ok (.aload_n 0, 1) := by decide +kernel
theorem dX1_init_5 : decode cX1_init 5 = .ok (.new 9, 3) := by decide +kernel
theorem dX1_init_8 : decode cX1_init 8 = .ok (.dup, 1) := by decide +kernel
theorem dX1_init_9 : decode cX1_init 9 = .ok (.bipush 41, 2) := by decide +kernel
theorem dX1_init_11 : decode cX1_init 11 = .ok (.invokespecial 13, 3) := by decide +kernel
theorem dX1_init_14 : decode cX1_init 14 = .ok (.putfield 16, 3) := by decide +kernel
theorem dX1_init_17 : decode cX1_init 17 = .ok (.aload_n 0, 1) := by decide +kernel
theorem dX1_init_18 : decode cX1_init 18 = .ok (.new 9, 3) := by decide +kernel
theorem dX1_init_21 : decode cX1_init 21 = .ok (.dup, 1) := by decide +kernel
theorem dX1_init_22 : decode cX1_init 22 = .ok (.bipush 41, 2) := by decide +kernel
theorem dX1_init_24 : decode cX1_init 24 = .ok (.invokespecial 13, 3) := by decide +kernel
theorem dX1_init_27 : decode cX1_init 27 = .ok (.putfield 20, 3) := by decide +kernel
theorem dX1_init_30 : decode cX1_init 30 = .ok (.aload_n 0, 1) := by decide +kernel
theorem dX1_init_31 : decode cX1_init 31 = .ok (.new 9, 3) := by decide +kernel
theorem dX1_init_34 : decode cX1_init 34 = .ok (.dup, 1) := by decide +kernel
theorem dX1_init_35 : decode cX1_init 35 = .ok (.bipush 41, 2) := by decide +kernel
theorem dX1_init_37 : decode cX1_init 37 = .ok (.invokespecial 13, 3) := by decide +kernel
theorem dX1_init_40 : decode cX1_init 40 = .ok (.putfield 23, 3) := by decide +kernel
theorem dX1_init_43 : decode cX1_init 43 = .ok (.aload_n 0, 1) := by decide +kernel
theorem dX1_init_44 : decode cX1_init 44 = .ok (.new 9, 3) := by decide +kernel
theorem dX1_init_47 : decode cX1_init 47 = .ok (.dup, 1) := by decide +kernel
theorem dX1_init_48 : decode cX1_init 48 = .ok (.bipush 41, 2) := by decide +kernel
theorem dX1_init_50 : decode cX1_init 50 = .ok (.invokespecial 13, 3) := by decide +kernel
theorem dX1_init_53 : decode cX1_init 53 = .ok (.putfield 26, 3) := by decide +kernel
theorem dX1_init_56 : decode cX1_init 56 = .ok (.aload_n 0, 1) := by decide +kernel
theorem dX1_init_57 : decode cX1_init 57 = .ok (.new 9, 3) := by decide +kernel
theorem dX1_init_60 : decode cX1_init 60 = .ok (.dup, 1) := by decide +kernel
theorem dX1_init_61 : decode cX1_init 61 = .ok (.bipush 41, 2) := by decide +kernel
theorem dX1_init_63 : decode cX1_init 63 = .ok (.invokespecial 13, 3) := by decide +kernel
theorem dX1_init_66 : decode cX1_init 66 = .ok (.putfield 29, 3) := by decide +kernel
theorem dX1_init_69 : decode cX1_init 69 = .ok (.aload_n 0, 1) := by decide +kernel
theorem dX1_init_70 : decode cX1_init 70 = .ok (.new 9, 3) := by decide +kernel
theorem dX1_init_73 : decode cX1_init 73 = .ok (.dup, 1) := by decide +kernel
theorem dX1_init_74 : decode cX1_init 74 = .ok (.bipush 41, 2) := by decide +kernel
theorem dX1_init_76 : decode cX1_init 76 = .ok (.invokespecial 13, 3) := by decide +kernel
theorem dX1_init_79 : decode cX1_init 79 = .ok (.putfield 32, 3) := by decide +kernel
theorem dX1_init_82 : decode cX1_init 82 = .ok (.aload_n 0, 1) := by decide +kernel
theorem dX1_init_83 : decode cX1_init 83 = .ok (.new 9, 3) := by decide +kernel
theorem dX1_init_86 : decode cX1_init 86 = .ok (.dup, 1) := by decide +kernel
theorem dX1_init_87 : decode cX1_init 87 = .ok (.bipush 41, 2) := by decide +kernel
theorem dX1_init_89 : decode cX1_init 89 = .ok (.invokespecial 13, 3) := by decide +kernel
theorem dX1_init_92 : decode cX1_init 92 = .ok (.putfield 35, 3) := by decide +kernel
theorem dX1_init_95 : decode cX1_init 95 = .ok (.aload_n 0, 1) := by decide +kernel
theorem dX1_init_96 : decode cX1_init 96 = .ok (.new 9, 3) := by decide +kernel
theorem dX1_init_99 : decode cX1_init 99 = .ok (.dup, 1) := by decide +kernel
theorem dX1_init_100 : decode cX1_init 100 = .ok (.bipush 41, 2) := by decide +kernel
theorem dX1_init_102 : decode cX1_init 102 = .ok (.invokespecial 13, 3) := by decide +kernel
theorem dX1_init_105 : decode cX1_init 105 = .ok (.putfield 38, 3) := by decide +kernel
theorem dX1_init_108 : decode cX1_init 108 = .ok (.aload_n 0, 1) := by decide +kernel
theorem dX1_init_109 : decode cX1_init 109 = .ok (.new 9, 3) := by decide +kernel
theorem dX1_init_112 : decode cX1_init 112 = .ok (.dup, 1) := by decide +kernel
theorem dX1_init_113 : decode cX1_init 113 = .ok (.bipush 41, 2) := by decide +kernel
theorem dX1_init_115 : decode cX1_init 115 = .ok (.invokespecial 13, 3) := by decide +kernel
theorem dX1_init_118 : decode cX1_init 118 = .ok (.putfield 41, 3) := by decide +kernel
theorem dX1_init_121 : decode cX1_init 121 = .ok (.aload_n 0, 1) := by decide +kernel
theorem dX1_init_122 : decode cX1_init 122 = .ok (.new 9, 3) := by decide +kernel
theorem dX1_init_125 : decode cX1_init 125 = .ok (.dup, 1) := by decide +kernel
theorem dX1_init_126 : decode cX1_init 126 = .ok (.sipush 540, 3) := by decide +kernel
theorem dX1_init_129 : decode cX1_init 129 = .ok (.invokespecial 13, 3) := by decide +kernel
theorem dX1_init_132 : decode cX1_init 132 = .ok (.putfield 44, 3) := by decide +kernel
theorem dX1_init_135 : decode cX1_init 135 = .ok (.aload_n 0, 1) := by decide +kernel
theorem dX1_init_136 : decode cX1_init 136 = .ok (.new 9, 3) := by decide +kernel
theorem dX1_init_139 : decode cX1_init 139 = .ok (.dup, 1) := by decide +kernel
theorem dX1_init_140 : decode cX1_init 140 = .ok (.bipush 41, 2) := by decide +kernel
theorem dX1_init_142 : decode cX1_init 142 = .ok (.invokespecial 13, 3) := by decide +kernel
theorem dX1_init_145 : decode cX1_init 145 = .ok (.putfield 47, 3) := by decide +kernel
theorem dX1_init_148 : decode cX1_init 148 = .ok (.return_, 1) := by decide +kernel
set_option maxRecDepth 20000 in
theorem ggX1_copy_X2_copy : GoodIn wsX1_copy wsX2_copy := goodIn_r _ [17, 18, 19, 20, 21, 16, 22, 36] (by decide +kernel) (by decide +kernel)
set_option maxRecDepth 20000 in
theorem gX1_copy_X2_copy : GoodIn wsX1_copy (wsV RX1 50 RX2 yX2_copy wsX2_copy) := goodIn_app (goodIn_of _ (by decide +kernel)) ggX1_copy_X2_copy
theorem dX1_copy_0 : decode cX1_copy 0 = .ok (.aload_n 0, 1) := by decide +kernel
theorem dX1_copy_1 : decode cX1_copy 1 = .ok (.getfield 16, 3) := by decide +kernel
theorem dX1_copy_4 : decode cX1_copy 4 = .ok (.aload_n 1, 1) := by decide +kernel
theorem dX1_copy_5 : decode cX1_copy 5 = .ok (.getfield 16, 3) := by decide +kernel
theorem dX1_copy_8 : decode cX1_copy 8 = .ok (.invokevirtual 50, 3) := by decide +kernel
theorem dX1_copy_11 : decode cX1_copy 11 = .ok (.aload_n 0, 1) := by decide +kernel
theorem dX1_copy_12 : decode cX1_copy 12 = .ok (.getfield 20, 3) := by decide +kernel
theorem dX1_copy_15 : decode cX1_copy 15 = .ok (.aload_n 1, 1) := by decide +kernel
theorem dX1_copy_16 : decode cX1_copy 16 = .ok (.getfield 20, 3) := by decide +kernel
theorem dX1_copy_19 : decode cX1_copy 19 = .ok (.invokevirtual 50, 3) := by decide +kernel
theorem dX1_copy_22 : decode cX1_copy 22 = .ok (.aload_n 0, 1) := by decide +kernel
theorem dX1_copy_23 : decode cX1_copy 23 = .ok (.getfield 23, 3) := by decide +kernel
theorem dX1_copy_26 : decode cX1_copy 26 = .ok (.aload_n 1, 1) := by decide +kernel
theorem dX1_copy_27 : decode cX1_copy 27 = .ok (.getfield 23, 3) := by decide +kernel
theorem dX1_copy_30 : decode cX1_copy 30 = .ok (.invokevirtual 50, 3) := by decide +kernel
theorem dX1_copy_33 : decode cX1_copy 33 = .ok (.aload_n 0, 1) := by decide +kernel
theorem dX1_copy_34 : decode cX1_copy 34 = .ok (.getfield 26, 3) := by decide +kernel
theorem dX1_copy_37 : decode cX1_copy 37 = .ok (.aload_n 1, 1) := by decide +kernel
theorem dX1_copy_38 : decode cX1_copy 38 = .ok (.getfield 26, 3) := by decide +kernel
theorem dX1_copy_41 : decode cX1_copy 41 = .ok (.invokevirtual 50, 3) := by decide +kernel
theorem dX1_copy_44 : decode cX1_copy 44 = .ok (.aload_n 0, 1) := by decide +kernel
theorem dX1_copy_45 : decode cX1_copy 45 = .ok (.getfield 29, 3) := by decide +kernel
theorem dX1_copy_48 : decode cX1_copy 48 = .ok (.aload_n 1, 1) := by decide +kernel
theorem dX1_copy_49 : decode cX1_copy 49 = .ok (.getfield 29, 3) := by decide +kernel
theorem dX1_copy_52 : decode cX1_copy 52 = .ok (.invokevirtual 50, 3) := by decide +kernel
theorem dX1_copy_55 : decode cX1_copy 55 = .ok (.aload_n 0, 1) := by decide +kernel
theorem dX1_copy_56 : decode cX1_copy 56 = .ok (.getfield 32, 3) := by decide +kernel
theorem dX1_copy_59 : decode cX1_copy 59 = .ok (.aload_n 1, 1) := by decide +kernel
theorem dX1_copy_60 : decode cX1_copy 60 = .ok (.getfield 32, 3) := by decide +kernel
theorem dX1_copy_63 : decode cX1_copy 63 = .ok (.invokevirtual 50, 3) := by decide +kernel
theorem dX1_copy_66 : decode cX1_copy 66 = .ok (.aload_n 0, 1) := by decide +kernel
theorem dX1_copy_67 : decode cX1_copy 67 = .ok (.getfield 35, 3) := by decide +kernel
theorem dX1_copy_70 : decode cX1_copy 70 = .ok (.aload_n 1, 1) := by decide +kernel
theorem dX1_copy_71 : decode cX1_copy 71 = .ok (.getfield 35, 3) := by decide +kernel
theorem dX1_copy_74 : decode cX1_copy 74 = .ok (.invokevirtual 50, 3) := by decide +kernel
theorem dX1_copy_77 : decode cX1_copy 77 = .ok (.aload_n 0, 1) := by decide +kernel
theorem dX1_copy_78 : decode cX1_copy 78 = .ok (.getfield 38, 3) := by decide +kernel
theorem dX1_copy_81 : decode cX1_copy 81 = .ok (.aload_n 1, 1) := by decide +kernel
theorem dX1_copy_82 : decode cX1_copy 82 = .ok (.getfield 38, 3) := by decide +kernel
theorem dX1_copy_85 : decode cX1_copy 85 = .ok (.invokevirtual 50, 3) := by decide +kernel
theorem dX1_copy_88 : decode cX1_copy 88 = .ok (.aload_n 0, 1) := by decide +kernel
theorem dX1_copy_89 : decode cX1_copy 89 = .ok (.getfield 41, 3) := by decide +kernel
theorem dX1_copy_92 : decode cX1_copy 92 = .ok (.aload_n 1, 1) := by decide +kernel
theorem dX1_copy_93 : decode cX1_copy 93 = .ok (.getfield 41, 3) := by decide +kernel
theorem dX1_copy_96 : decode cX1_copy 96 = .ok (.invokevirtual 50, 3) := by decide +kernel
theorem dX1_copy_99 : decode cX1_copy 99 = .ok (.aload_n 0, 1) := by decide +kernel
theorem dX1_copy_100 : decode cX1_copy 100 = .ok (.getfield 44, 3) := by decide +kernel
theorem dX1_copy_103 : decode cX1_copy 103 = .ok (.aload_n 1, 1) := by decide +kernel
theorem dX1_copy_104 : decode cX1_copy 104 = .ok (.getfield 44, 3) := by decide +kernel
theorem dX1_copy_107 : decode cX1_copy 107 = .ok (.invokevirtual 50, 3) := by decide +kernel
theorem dX1_copy_110 : decode cX1_copy 110 = .ok (.aload_n 0, 1) := by decide +kernel
theorem dX1_copy_111 : decode cX1_copy 111 = .ok (.aload_n 1, 1) := by decide +kernel
theorem dX1_copy_112 : decode cX1_copy 112 = .ok (.getfield 54, 3) := by decide +kernel
theorem dX1_copy_115 : decode cX1_copy 115 = .ok (.putfield 54, 3) := by decide +kernel
theorem dX1_copy_118 : decode cX1_copy 118 = .ok (.aload_n 0, 1) := by decide +kernel
theorem dX1_copy_119 : decode cX1_copy 119 = .ok (.aload_n 1, 1) := by decide +kernel
theorem dX1_copy_120 : decode cX1_copy 120 = .ok (.getfield 58, 3) := by decide +kernel
theorem dX1_copy_123 : decode cX1_copy 123 = .ok (.putfield 58, 3) := by decide +kernel
theorem dX1_copy_126 : decode cX1_copy 126 = .ok (.return_, 1) := by decide +kernel
set_option maxRecDepth 20000 in
theorem ggX1_add_X2_put : GoodIn wsX1_add wsX2_put := goodIn_r _ [15, 16, 46] (by decide +kernel) (by decide +kernel)
set_option maxRecDepth 20000 in
theorem gX1_add_X2_put : GoodIn wsX1_add (wsV RX1 61 RX2 yX2_put wsX2_put) := goodIn_app (goodIn_of _ (by decide +kernel)) ggX1_add_X2_put
set_option maxRecDepth 20000 in
theorem ggX1_add_X3_waxOf : GoodIn wsX1_add wsX3_waxOf := goodIn_r _ [19] (by decide +kernel) (by decide +kernel)
set_option maxRecDepth 20000 in
theorem gX1_add_X3_waxOf_n65 : GoodIn wsX1_add (wsX3_waxOf) := ggX1_add_X3_waxOf
set_option maxRecDepth 20000 in
theorem ggX1_add_X1_crowdBy : GoodIn wsX1_add wsX1_crowdBy := goodIn_r _ [24, 4, 5, 2, 25, 26, 27, 28, 14, 29, 16, 30, 31, 23, 32, 11, 12, 13, 15, 33, 34, 35, 36, 37, 38, 39, 40, 41, 42, 43, 44, 45, 46] (by decide +kernel) (by decide +kernel)
set_option maxRecDepth 20000 in
theorem gX1_add_X1_crowdBy : GoodIn wsX1_add (wsV RX1 69 RX1 yX1_crowdBy wsX1_crowdBy) := goodIn_app (goodIn_of _ (by decide +kernel)) ggX1_add_X1_crowdBy
theorem dX1_add_0 : decode cX1_add 0 = .ok (.aload_n 0, 1) := by decide +kernel
theorem dX1_add_1 : decode cX1_add 1 = .ok (.getfield 54, 3) := by decide +kernel
theorem dX1_add_4 : decode cX1_add 4 = .ok (.bipush 41, 2) := by decide +kernel
theorem dX1_add_6 : decode cX1_add 6 = .ok (.if_icmp .lt 5, 3) := by decide +kernel
theorem dX1_add_9 : decode cX1_add 9 = .ok (.iconst (-1), 1) := by decide +kernel
theorem dX1_add_10 : decode cX1_add 10 = .ok (.ireturn, 1) := by decide +kernel
theorem dX1_add_11 : decode cX1_add 11 = .ok (.aload_n 0, 1) := by decide +kernel
theorem dX1_add_12 : decode cX1_add 12 = .ok (.getfield 54, 3) := by decide +kernel
theorem dX1_add_15 : decode cX1_add 15 = .ok (.istore 5, 2) := by decide +kernel
theorem dX1_add_17 : decode cX1_add 17 = .ok (.aload_n 0, 1) := by decide +kernel
theorem dX1_add_18 : decode cX1_add 18 = .ok (.dup, 1) := by decide +kernel
theorem dX1_add_19 : decode cX1_add 19 = .ok (.getfield 54, 3) := by decide +kernel
theorem dX1_add_22 : decode cX1_add 22 = .ok (.iconst 1, 1) := by decide +kernel
theorem dX1_add_23 : decode cX1_add 23 = .ok (.iadd, 1) := by decide +kernel
theorem dX1_add_24 : decode cX1_add 24 = .ok (.putfield 54, 3) := by decide +kernel
theorem dX1_add_27 : decode cX1_add 27 = .ok (.aload_n 0, 1) := by decide +kernel
theorem dX1_add_28 : decode cX1_add 28 = .ok (.getfield 16, 3) := by decide +kernel
theorem dX1_add_31 : decode cX1_add 31 = .ok (.iload 5, 2) := by decide +kernel
theorem dX1_add_33 : decode cX1_add 33 = .ok (.iload_n 1, 1) := by decide +kernel
theorem dX1_add_34 : decode cX1_add 34 = .ok (.invokevirtual 61, 3) := by decide +kernel
theorem dX1_add_37 : decode cX1_add 37 = .ok (.aload_n 0, 1) := by decide +kernel
theorem dX1_add_38 : decode cX1_add 38 = .ok (.getfield 20, 3) := by decide +kernel
theorem dX1_add_41 : decode cX1_add 41 = .ok (.iload 5, 2) := by decide +kernel
theorem dX1_add_43 : decode cX1_add 43 = .ok (.iload_n 2, 1) := by decide +kernel
theorem dX1_add_44 : decode cX1_add 44 = .ok (.invokevirtual 61, 3) := by decide +kernel
theorem dX1_add_47 : decode cX1_add 47 = .ok (.aload_n 0, 1) := by decide +kernel
theorem dX1_add_48 : decode cX1_add 48 = .ok (.getfield 23, 3) := by decide +kernel
theorem dX1_add_51 : decode cX1_add 51 = .ok (.iload 5, 2) := by decide +kernel
theorem dX1_add_53 : decode cX1_add 53 = .ok (.iload_n 3, 1) := by decide +kernel
theorem dX1_add_54 : decode cX1_add 54 = .ok (.invokevirtual 61, 3) := by decide +kernel
theorem dX1_add_57 : decode cX1_add 57 = .ok (.aload_n 0, 1) := by decide +kernel
theorem dX1_add_58 : decode cX1_add 58 = .ok (.getfield 26, 3) := by decide +kernel
theorem dX1_add_61 : decode cX1_add 61 = .ok (.iload 5, 2) := by decide +kernel
theorem dX1_add_63 : decode cX1_add 63 = .ok (.iload 4, 2) := by decide +kernel
theorem dX1_add_65 : decode cX1_add 65 = .ok (.invokevirtual 61, 3) := by decide +kernel
theorem dX1_add_68 : decode cX1_add 68 = .ok (.aload_n 0, 1) := by decide +kernel
theorem dX1_add_69 : decode cX1_add 69 = .ok (.getfield 29, 3) := by decide +kernel
theorem dX1_add_72 : decode cX1_add 72 = .ok (.iload 5, 2) := by decide +kernel
theorem dX1_add_74 : decode cX1_add 74 = .ok (.iload_n 1, 1) := by decide +kernel
theorem dX1_add_75 : decode cX1_add 75 = .ok (.invokestatic 65, 3) := by decide +kernel
theorem dX1_add_78 : decode cX1_add 78 = .ok (.invokevirtual 61, 3) := by decide +kernel
theorem dX1_add_81 : decode cX1_add 81 = .ok (.aload_n 0, 1) := by decide +kernel
theorem dX1_add_82 : decode cX1_add 82 = .ok (.getfield 32, 3) := by decide +kernel
theorem dX1_add_85 : decode cX1_add 85 = .ok (.iload 5, 2) := by decide +kernel
theorem dX1_add_87 : decode cX1_add 87 = .ok (.iconst 0, 1) := by decide +kernel
theorem dX1_add_88 : decode cX1_add 88 = .ok (.invokevirtual 61, 3) := by decide +kernel
theorem dX1_add_91 : decode cX1_add 91 = .ok (.aload_n 0, 1) := by decide +kernel
theorem dX1_add_92 : decode cX1_add 92 = .ok (.getfield 35, 3) := by decide +kernel
theorem dX1_add_95 : decode cX1_add 95 = .ok (.iload 5, 2) := by decide +kernel
theorem dX1_add_97 : decode cX1_add 97 = .ok (.iconst 1, 1) := by decide +kernel
theorem dX1_add_98 : decode cX1_add 98 = .ok (.invokevirtual 61, 3) := by decide +kernel
theorem dX1_add_101 : decode cX1_add 101 = .ok (.aload_n 0, 1) := by decide +kernel
theorem dX1_add_102 : decode cX1_add 102 = .ok (.getfield 38, 3) := by decide +kernel
theorem dX1_add_105 : decode cX1_add 105 = .ok (.iload 5, 2) := by decide +kernel
theorem dX1_add_107 : decode cX1_add 107 = .ok (.iconst 0, 1) := by decide +kernel
theorem dX1_add_108 : decode cX1_add 108 = .ok (.invokevirtual 61, 3) := by decide +kernel
theorem dX1_add_111 : decode cX1_add 111 = .ok (.aload_n 0, 1) := by decide +kernel
theorem dX1_add_112 : decode cX1_add 112 = .ok (.getfield 41, 3) := by decide +kernel
theorem dX1_add_115 : decode cX1_add 115 = .ok (.iload 5, 2) := by decide +kernel
theorem dX1_add_117 : decode cX1_add 117 = .ok (.iconst (-1), 1) := by decide +kernel
theorem dX1_add_118 : decode cX1_add 118 = .ok (.invokevirtual 61, 3) := by decide +kernel
theorem dX1_add_121 : decode cX1_add 121 = .ok (.aload_n 0, 1) := by decide +kernel
theorem dX1_add_122 : decode cX1_add 122 = .ok (.iload 5, 2) := by decide +kernel
theorem dX1_add_124 : decode cX1_add 124 = .ok (.iconst 1, 1) := by decide +kernel
theorem dX1_add_125 : decode cX1_add 125 = .ok (.invokevirtual 69, 3) := by decide +kernel
theorem dX1_add_128 : decode cX1_add 128 = .ok (.iload 5, 2) := by decide +kernel
theorem dX1_add_130 : decode cX1_add 130 = .ok (.ireturn, 1) := by decide +kernel
set_option maxRecDepth 20000 in
theorem ggX1_has_X3_isWithin : GoodIn wsX1_has wsX3_isWithin := goodIn_r _ [4] (by decide +kernel) (by decide +kernel)
set_option maxRecDepth 20000 in
theorem gX1_has_X3_isWithin_n72 : GoodIn wsX1_has (wsX3_isWithin) := ggX1_has_X3_isWithin
theorem dX1_has_0 : decode cX1_has 0 = .ok (.iload_n 1, 1) := by decide +kernel
theorem dX1_has_1 : decode cX1_has 1 = .ok (.iconst 0, 1) := by decide +kernel
theorem dX1_has_2 : decode cX1_has 2 = .ok (.aload_n 0, 1) := by decide +kernel
theorem dX1_has_3 : decode cX1_has 3 = .ok (.getfield 54, 3) := by decide +kernel
theorem dX1_has_6 : decode cX1_has 6 = .ok (.iconst 1, 1) := by decide +kernel
theorem dX1_has_7 : decode cX1_has 7 = .ok (.isub, 1) := by decide +kernel
theorem dX1_has_8 : decode cX1_has 8 = .ok (.invokestatic 72, 3) := by decide +kernel
theorem dX1_has_11 : decode cX1_has 11 = .ok (.ireturn, 1) := by decide +kernel
set_option maxRecDepth 20000 in
theorem ggX1_isAfloat_X1_has : GoodIn wsX1_isAfloat wsX1_has := goodIn_r _ [6, 7, 8, 9, 10, 17, 18, 19, 20, 21, 22, 23, 24, 25, 26, 27, 28, 29] (by decide +kernel) (by decide +kernel)
set_option maxRecDepth 20000 in
theorem gX1_isAfloat_X1_has : GoodIn wsX1_isAfloat (wsV RX1 76 RX1 yX1_has wsX1_has) := goodIn_app (goodIn_of _ (by decide +kernel)) ggX1_isAfloat_X1_has
set_option maxRecDepth 20000 in
theorem ggX1_isAfloat_X2_get : GoodIn wsX1_isAfloat wsX2_get := goodIn_r _ [15, 16, 30] (by decide +kernel) (by decide +kernel)
set_option maxRecDepth 20000 in
theorem gX1_isAfloat_X2_get : GoodIn wsX1_isAfloat (wsV RX1 80 RX2 yX2_get wsX2_get) := goodIn_app (goodIn_of _ (by decide +kernel)) ggX1_isAfloat_X2_get
theorem dX1_isAfloat_0 : decode cX1_isAfloat 0 = .ok (.aload_n 0, 1) := by decide +kernel
theorem dX1_isAfloat_1 : decode cX1_isAfloat 1 = .ok (.iload_n 1, 1) := by decide +kernel
theorem dX1_isAfloat_2 : decode cX1_isAfloat 2 = .ok (.invokevirtual 76, 3) := by decide +kernel
theorem dX1_isAfloat_5 : decode cX1_isAfloat 5 = .ok (.ifCond .eq 18, 3) := by decide +kernel
theorem dX1_isAfloat_8 : decode cX1_isAfloat 8 = .ok (.aload_n 0, 1) := by decide +kernel
theorem dX1_isAfloat_9 : decode cX1_isAfloat 9 = .ok (.getfield 38, 3) := by decide +kernel
theorem dX1_isAfloat_12 : decode cX1_isAfloat 12 = .ok (.iload_n 1, 1) := by decide +kernel
theorem dX1_isAfloat_13 : decode cX1_isAfloat 13 = .ok (.invokevirtual 80, 3) := by decide +kernel
theorem dX1_isAfloat_16 : decode cX1_isAfloat 16 = .ok (.ifCond .ne 7, 3) := by decide +kernel
theorem dX1_isAfloat_19 : decode cX1_isAfloat 19 = .ok (.iconst 1, 1) := by decide +kernel
theorem dX1_isAfloat_20 : decode cX1_isAfloat 20 = .ok (.goto 4, 3) := by decide +kernel
theorem dX1_isAfloat_23 : decode cX1_isAfloat 23 = .ok (.iconst 0, 1) := by decide +kernel
theorem dX1_isAfloat_24 : decode cX1_isAfloat 24 = .ok (.ireturn, 1) := by decide +kernel
set_option maxRecDepth 20000 in
theorem ggX1_isBurning_X1_has : GoodIn wsX1_isBurning wsX1_has := goodIn_r _ [6, 7, 8, 9, 10, 17, 18, 19, 20, 21, 22, 23, 24, 25, 26, 27, 28, 29] (by decide +kernel) (by decide +kernel)
set_option maxRecDepth 20000 in
theorem gX1_isBurning_X1_has : GoodIn wsX1_isBurning (wsV RX1 76 RX1 yX1_has wsX1_has) := goodIn_app (goodIn_of _ (by decide +kernel)) ggX1_isBurning_X1_has
set_option maxRecDepth 20000 in
theorem ggX1_isBurning_X2_get : GoodIn wsX1_isBurning wsX2_get := goodIn_r _ [15, 16, 30] (by decide +kernel) (by decide +kernel)
set_option maxRecDepth 20000 in
theorem gX1_isBurning_X2_get : GoodIn wsX1_isBurning (wsV RX1 80 RX2 yX2_get wsX2_get) := goodIn_app (goodIn_of _ (by decide +kernel)) ggX1_isBurning_X2_get
theorem dX1_isBurning_0 : decode cX1_isBurning 0 = .ok (.aload_n 0, 1) := by decide +kernel
theorem dX1_isBurning_1 : decode cX1_isBurning 1 = .ok (.iload_n 1, 1) := by decide +kernel
theorem dX1_isBurning_2 : decode cX1_isBurning 2 = .ok (.invokevirtual 76, 3) := by decide +kernel
theorem dX1_isBurning_5 : decode cX1_isBurning 5 = .ok (.ifCond .eq 19, 3) := by decide +kernel
theorem dX1_isBurning_8 : decode cX1_isBurning 8 = .ok (.aload_n 0, 1) := by decide +kernel
theorem dX1_isBurning_9 : decode cX1_isBurning 9 = .ok (.getfield 35, 3) := by decide +kernel
theorem dX1_isBurning_12 : decode cX1_isBurning 12 = .ok (.iload_n 1, 1) := by decide +kernel
theorem dX1_isBurning_13 : decode cX1_isBurning 13 = .ok (.invokevirtual 80, 3) := by decide +kernel
theorem dX1_isBurning_16 : decode cX1_isBurning 16 = .ok (.iconst 1, 1) := by decide +kernel
theorem dX1_isBurning_17 : decode cX1_isBurning 17 = .ok (.if_icmp .ne 7, 3) := by decide +kernel
theorem dX1_isBurning_20 : decode cX1_isBurning 20 = .ok (.iconst 1, 1) := by decide +kernel
theorem dX1_isBurning_21 : decode cX1_isBurning 21 = .ok (.goto 4, 3) := by decide +kernel
theorem dX1_isBurning_24 : decode cX1_isBurning 24 = .ok (.iconst 0, 1) := by decide +kernel
theorem dX1_isBurning_25 : decode cX1_isBurning 25 = .ok (.ireturn, 1) := by decide +kernel
set_option maxRecDepth 20000 in
theorem ggX1_isSoaked_X2_get : GoodIn wsX1_isSoaked wsX2_get := goodIn_r _ [7, 8, 25] (by decide +kernel) (by decide +kernel)
set_option maxRecDepth 20000 in
theorem gX1_isSoaked_X2_get : GoodIn wsX1_isSoaked (wsV RX1 80 RX2 yX2_get wsX2_get) := goodIn_app (goodIn_of _ (by decide +kernel)) ggX1_isSoaked_X2_get
set_option maxRecDepth 20000 in
theorem ggX1_isSoaked_X3_sprayTakenBy : GoodIn wsX1_isSoaked wsX3_sprayTakenBy := goodIn_r _ [11] (by decide +kernel) (by decide +kernel)
set_option maxRecDepth 20000 in
theorem gX1_isSoaked_X3_sprayTakenBy_n83 : GoodIn wsX1_isSoaked (wsX3_sprayTakenBy) := ggX1_isSoaked_X3_sprayTakenBy
theorem dX1_isSoaked_0 : decode cX1_isSoaked 0 = .ok (.aload_n 0, 1) := by decide +kernel
theorem dX1_isSoaked_1 : decode cX1_isSoaked 1 = .ok (.getfield 32, 3) := by decide +kernel
theorem dX1_isSoaked_4 : decode cX1_isSoaked 4 = .ok (.iload_n 1, 1) := by decide +kernel
theorem dX1_isSoaked_5 : decode cX1_isSoaked 5 = .ok (.invokevirtual 80, 3) := by decide +kernel
theorem dX1_isSoaked_8 : decode cX1_isSoaked 8 = .ok (.aload_n 0, 1) := by decide +kernel
theorem dX1_isSoaked_9 : decode cX1_isSoaked 9 = .ok (.getfield 16, 3) := by decide +kernel
theorem dX1_isSoaked_12 : decode cX1_isSoaked 12 = .ok (.iload_n 1, 1) := by decide +kernel
theorem dX1_isSoaked_13 : decode cX1_isSoaked 13 = .ok (.invokevirtual 80, 3) := by decide +kernel
theorem dX1_isSoaked_16 : decode cX1_isSoaked 16 = .ok (.invokestatic 83, 3) := by decide +kernel
theorem dX1_isSoaked_19 : decode cX1_isSoaked 19 = .ok (.if_icmp .le 7, 3) := by decide +kernel
theorem dX1_isSoaked_22 : decode cX1_isSoaked 22 = .ok (.iconst 1, 1) := by decide +kernel
theorem dX1_isSoaked_23 : decode cX1_isSoaked 23 = .ok (.goto 4, 3) := by decide +kernel
theorem dX1_isSoaked_26 : decode cX1_isSoaked 26 = .ok (.iconst 0, 1) := by decide +kernel
theorem dX1_isSoaked_27 : decode cX1_isSoaked 27 = .ok (.ireturn, 1) := by decide +kernel
set_option maxRecDepth 20000 in
theorem ggX1_canBeLit_X1_isBurning : GoodIn wsX1_canBeLit wsX1_isBurning := goodIn_r _ [6, 7, 8, 9, 10, 5, 11, 12, 13, 14, 15, 16, 17, 18, 19, 20, 21, 30, 31, 32, 33, 34, 35, 36, 37, 38, 39, 40, 41, 42, 43] (by decide +kernel) (by decide +kernel)
set_option maxRecDepth 20000 in
theorem gX1_canBeLit_X1_isBurning : GoodIn wsX1_canBeLit (wsV RX1 86 RX1 yX1_isBurning wsX1_isBurning) := goodIn_app (goodIn_of _ (by decide +kernel)) ggX1_canBeLit_X1_isBurning
set_option maxRecDepth 20000 in
theorem ggX1_canBeLit_X1_isSoaked : GoodIn wsX1_canBeLit wsX1_isSoaked := goodIn_r _ [25, 26, 27, 16, 17, 18, 19, 20, 21, 28, 14, 29, 30, 31, 32, 33, 34, 35, 36, 37, 38, 39, 40, 41, 42, 43] (by decide +kernel) (by decide +kernel)
set_option maxRecDepth 20000 in
theorem gX1_canBeLit_X1_isSoaked : GoodIn wsX1_canBeLit (wsV RX1 89 RX1 yX1_isSoaked wsX1_isSoaked) := goodIn_app (goodIn_of _ (by decide +kernel)) ggX1_canBeLit_X1_isSoaked
set_option maxRecDepth 20000 in
theorem ggX1_canBeLit_X2_get : GoodIn wsX1_canBeLit wsX2_get := goodIn_r _ [20, 21, 43] (by decide +kernel) (by decide +kernel)
set_option maxRecDepth 20000 in
theorem gX1_canBeLit_X2_get : GoodIn wsX1_canBeLit (wsV RX1 80 RX2 yX2_get wsX2_get) := goodIn_app (goodIn_of _ (by decide +kernel)) ggX1_canBeLit_X2_get
theorem dX1_canBeLit_0 : decode cX1_canBeLit 0 = .ok (.aload_n 0, 1) := by decide +kernel
theorem dX1_canBeLit_1 : decode cX1_canBeLit 1 = .ok (.iload_n 1, 1) := by decide +kernel
theorem dX1_canBeLit_2 : decode cX1_canBeLit 2 = .ok (.invokevirtual 86, 3) := by decide +kernel
theorem dX1_canBeLit_5 : decode cX1_canBeLit 5 = .ok (.ifCond .ne 26, 3) := by decide +kernel
theorem dX1_canBeLit_8 : decode cX1_canBeLit 8 = .ok (.aload_n 0, 1) := by decide +kernel
theorem dX1_canBeLit_9 : decode cX1_canBeLit 9 = .ok (.iload_n 1, 1) := by decide +kernel
theorem dX1_canBeLit_10 : decode cX1_canBeLit 10 = .ok (.invokevirtual 89, 3) := by decide +kernel
theorem dX1_canBeLit_13 : decode cX1_canBeLit 13 = .ok (.ifCond .ne 18, 3) := by decide +kernel
theorem dX1_canBeLit_16 : decode cX1_canBeLit 16 = .ok (.aload_n 0, 1) := by decide +kernel
theorem dX1_canBeLit_17 : decode cX1_canBeLit 17 = .ok (.getfield 29, 3) := by decide +kernel
theorem dX1_canBeLit_20 : decode cX1_canBeLit 20 = .ok (.iload_n 1, 1) := by decide +kernel
theorem dX1_canBeLit_21 : decode cX1_canBeLit 21 = .ok (.invokevirtual 80, 3) := by decide +kernel
theorem dX1_canBeLit_24 : decode cX1_canBeLit 24 = .ok (.ifCond .le 7, 3) := by decide +kernel
theorem dX1_canBeLit_27 : decode cX1_canBeLit 27 = .ok (.iconst 1, 1) := by decide +kernel
theorem dX1_canBeLit_28 : decode cX1_canBeLit 28 = .ok (.goto 4, 3) := by decide +kernel
theorem dX1_canBeLit_31 : decode cX1_canBeLit 31 = .ok (.iconst 0, 1) := by decide +kernel
theorem dX1_canBeLit_32 : decode cX1_canBeLit 32 = .ok (.ireturn, 1) := by decide +kernel
set_option maxRecDepth 20000 in
theorem ggX1_moveTo_X1_crowdBy : GoodIn wsX1_moveTo wsX1_crowdBy := goodIn_r _ [7, 1, 2, 8, 9, 10, 11, 12, 13, 14, 15, 16, 17, 6, 18, 19, 20, 21, 22, 23, 24, 25, 26, 27, 28, 29, 30, 31, 32, 33, 34, 35, 36] (by decide +kernel) (by decide +kernel)
set_option maxRecDepth 20000 in
theorem gX1_moveTo_X1_crowdBy : GoodIn wsX1_moveTo (wsV RX1 69 RX1 yX1_crowdBy wsX1_crowdBy) := goodIn_app (goodIn_of _ (by decide +kernel)) ggX1_moveTo_X1_crowdBy
set_option maxRecDepth 20000 in
theorem ggX1_moveTo_X2_put : GoodIn wsX1_moveTo wsX2_put := goodIn_r _ [22, 15, 36] (by decide +kernel) (by decide +kernel)
set_option maxRecDepth 20000 in
theorem gX1_moveTo_X2_put : GoodIn wsX1_moveTo (wsV RX1 61 RX2 yX2_put wsX2_put) := goodIn_app (goodIn_of _ (by decide +kernel)) ggX1_moveTo_X2_put
theorem dX1_moveTo_0 : decode cX1_moveTo 0 = .ok (.aload_n 0, 1) := by decide +kernel
theorem dX1_moveTo_1 : decode cX1_moveTo 1 = .ok (.iload_n 1, 1) := by decide +kernel
theorem dX1_moveTo_2 : decode cX1_moveTo 2 = .ok (.iconst (-1), 1) := by decide +kernel
theorem dX1_moveTo_3 : decode cX1_moveTo 3 = .ok (.invokevirtual 69, 3) := by decide +kernel
theorem dX1_moveTo_6 : decode cX1_moveTo 6 = .ok (.aload_n 0, 1) := by decide +kernel
theorem dX1_moveTo_7 : decode cX1_moveTo 7 = .ok (.getfield 23, 3) := by decide +kernel
theorem dX1_moveTo_10 : decode cX1_moveTo 10 = .ok (.iload_n 1, 1) := by decide +kernel
theorem dX1_moveTo_11 : decode cX1_moveTo 11 = .ok (.iload_n 2, 1) := by decide +kernel
theorem dX1_moveTo_12 : decode cX1_moveTo 12 = .ok (.invokevirtual 61, 3) := by decide +kernel
theorem dX1_moveTo_15 : decode cX1_moveTo 15 = .ok (.aload_n 0, 1) := by decide +kernel
theorem dX1_moveTo_16 : decode cX1_moveTo 16 = .ok (.getfield 26, 3) := by decide +kernel
theorem dX1_moveTo_19 : decode cX1_moveTo 19 = .ok (.iload_n 1, 1) := by decide +kernel
theorem dX1_moveTo_20 : decode cX1_moveTo 20 = .ok (.iload_n 3, 1) := by decide +kernel
theorem dX1_moveTo_21 : decode cX1_moveTo 21 = .ok (.invokevirtual 61, 3) := by decide +kernel
theorem dX1_moveTo_24 : decode cX1_moveTo 24 = .ok (.aload_n 0, 1) := by decide +kernel
theorem dX1_moveTo_25 : decode cX1_moveTo 25 = .ok (.iload_n 1, 1) := by decide +kernel
theorem dX1_moveTo_26 : decode cX1_moveTo 26 = .ok (.iconst 1, 1) := by decide +kernel
theorem dX1_moveTo_27 : decode cX1_moveTo 27 = .ok (.invokevirtual 69, 3) := by decide +kernel
theorem dX1_moveTo_30 : decode cX1_moveTo 30 = .ok (.return_, 1) := by decide +kernel
set_option maxRecDepth 20000 in
theorem ggX1_fact_X2_get : GoodIn wsX1_fact wsX2_get := goodIn_r _ [14, 15, 29] (by decide +kernel) (by decide +kernel)
set_option maxRecDepth 20000 in
theorem gX1_fact_X2_get : GoodIn wsX1_fact (wsV RX1 80 RX2 yX2_get wsX2_get) := goodIn_app (goodIn_of _ (by decide +kernel)) ggX1_fact_X2_get
theorem dX1_fact_0 : decode cX1_fact 0 = .ok (.iload_n 2, 1) := by decide +kernel
theorem dX1_fact_1 : decode cX1_fact 1 = .ok (.tableswitch 119 0 7 #[47, 56, 65, 74, 83, 92, 101, 110], 47) := by decide +kernel
theorem dX1_fact_48 : decode cX1_fact 48 = .ok (.aload_n 0, 1) := by decide +kernel
theorem dX1_fact_49 : decode cX1_fact 49 = .ok (.getfield 16, 3) := by decide +kernel
theorem dX1_fact_52 : decode cX1_fact 52 = .ok (.iload_n 1, 1) := by decide +kernel
theorem dX1_fact_53 : decode cX1_fact 53 = .ok (.invokevirtual 80, 3) := by decide +kernel
theorem dX1_fact_56 : decode cX1_fact 56 = .ok (.ireturn, 1) := by decide +kernel
theorem dX1_fact_57 : decode cX1_fact 57 = .ok (.aload_n 0, 1) := by decide +kernel
theorem dX1_fact_58 : decode cX1_fact 58 = .ok (.getfield 20, 3) := by decide +kernel
theorem dX1_fact_61 : decode cX1_fact 61 = .ok (.iload_n 1, 1) := by decide +kernel
theorem dX1_fact_62 : decode cX1_fact 62 = .ok (.invokevirtual 80, 3) := by decide +kernel
theorem dX1_fact_65 : decode cX1_fact 65 = .ok (.ireturn, 1) := by decide +kernel
theorem dX1_fact_66 : decode cX1_fact 66 = .ok (.aload_n 0, 1) := by decide +kernel
theorem dX1_fact_67 : decode cX1_fact 67 = .ok (.getfield 23, 3) := by decide +kernel
theorem dX1_fact_70 : decode cX1_fact 70 = .ok (.iload_n 1, 1) := by decide +kernel
theorem dX1_fact_71 : decode cX1_fact 71 = .ok (.invokevirtual 80, 3) := by decide +kernel
theorem dX1_fact_74 : decode cX1_fact 74 = .ok (.ireturn, 1) := by decide +kernel
theorem dX1_fact_75 : decode cX1_fact 75 = .ok (.aload_n 0, 1) := by decide +kernel
theorem dX1_fact_76 : decode cX1_fact 76 = .ok (.getfield 26, 3) := by decide +kernel
theorem dX1_fact_79 : decode cX1_fact 79 = .ok (.iload_n 1, 1) := by decide +kernel
theorem dX1_fact_80 : decode cX1_fact 80 = .ok (.invokevirtual 80, 3) := by decide +kernel
theorem dX1_fact_83 : decode cX1_fact 83 = .ok (.ireturn, 1) := by decide +kernel
theorem dX1_fact_84 : decode cX1_fact 84 = .ok (.aload_n 0, 1) := by decide +kernel
theorem dX1_fact_85 : decode cX1_fact 85 = .ok (.getfield 29, 3) := by decide +kernel
theorem dX1_fact_88 : decode cX1_fact 88 = .ok (.iload_n 1, 1) := by decide +kernel
theorem dX1_fact_89 : decode cX1_fact 89 = .ok (.invokevirtual 80, 3) := by decide +kernel
theorem dX1_fact_92 : decode cX1_fact 92 = .ok (.ireturn, 1) := by decide +kernel
theorem dX1_fact_93 : decode cX1_fact 93 = .ok (.aload_n 0, 1) := by decide +kernel
theorem dX1_fact_94 : decode cX1_fact 94 = .ok (.getfield 32, 3) := by decide +kernel
theorem dX1_fact_97 : decode cX1_fact 97 = .ok (.iload_n 1, 1) := by decide +kernel
theorem dX1_fact_98 : decode cX1_fact 98 = .ok (.invokevirtual 80, 3) := by decide +kernel
theorem dX1_fact_101 : decode cX1_fact 101 = .ok (.ireturn, 1) := by decide +kernel
theorem dX1_fact_102 : decode cX1_fact 102 = .ok (.aload_n 0, 1) := by decide +kernel
theorem dX1_fact_103 : decode cX1_fact 103 = .ok (.getfield 35, 3) := by decide +kernel
theorem dX1_fact_106 : decode cX1_fact 106 = .ok (.iload_n 1, 1) := by decide +kernel
theorem dX1_fact_107 : decode cX1_fact 107 = .ok (.invokevirtual 80, 3) := by decide +kernel
theorem dX1_fact_110 : decode cX1_fact 110 = .ok (.ireturn, 1) := by decide +kernel
theorem dX1_fact_111 : decode cX1_fact 111 = .ok (.aload_n 0, 1) := by decide +kernel
theorem dX1_fact_112 : decode cX1_fact 112 = .ok (.getfield 38, 3) := by decide +kernel
theorem dX1_fact_115 : decode cX1_fact 115 = .ok (.iload_n 1, 1) := by decide +kernel
theorem dX1_fact_116 : decode cX1_fact 116 = .ok (.invokevirtual 80, 3) := by decide +kernel
theorem dX1_fact_119 : decode cX1_fact 119 = .ok (.ireturn, 1) := by decide +kernel
theorem dX1_fact_120 : decode cX1_fact 120 = .ok (.aload_n 0, 1) := by decide +kernel
theorem dX1_fact_121 : decode cX1_fact 121 = .ok (.getfield 41, 3) := by decide +kernel
theorem dX1_fact_124 : decode cX1_fact 124 = .ok (.iload_n 1, 1) := by decide +kernel
theorem dX1_fact_125 : decode cX1_fact 125 = .ok (.invokevirtual 80, 3) := by decide +kernel
theorem dX1_fact_128 : decode cX1_fact 128 = .ok (.ireturn, 1) := by decide +kernel
set_option maxRecDepth 20000 in
theorem ggX1_floatingAt_X1_cell : GoodIn wsX1_floatingAt wsX1_cell := goodIn_r _ [5] (by decide +kernel) (by decide +kernel)
set_option maxRecDepth 20000 in
theorem gX1_floatingAt_X1_cell : GoodIn wsX1_floatingAt (va_wsS RX1 92 yX1_cell wsX1_cell) := goodIn_app (goodIn_of _ (by decide +kernel)) ggX1_floatingAt_X1_cell
set_option maxRecDepth 20000 in
theorem ggX1_floatingAt_X2_get : GoodIn wsX1_floatingAt wsX2_get := goodIn_r _ [10, 11, 25] (by decide +kernel) (by decide +kernel)
set_option maxRecDepth 20000 in
theorem gX1_floatingAt_X2_get : GoodIn wsX1_floatingAt (wsV RX1 80 RX2 yX2_get wsX2_get) := goodIn_app (goodIn_of _ (by decide +kernel)) ggX1_floatingAt_X2_get
theorem dX1_floatingAt_0 : decode cX1_floatingAt 0 = .ok (.iconst 0, 1) := by decide +kernel
theorem dX1_floatingAt_1 : decode cX1_floatingAt 1 = .ok (.istore_n 3, 1) := by decide +kernel
theorem dX1_floatingAt_2 : decode cX1_floatingAt 2 = .ok (.iconst 0, 1) := by decide +kernel
theorem dX1_floatingAt_3 : decode cX1_floatingAt 3 = .ok (.istore 4, 2) := by decide +kernel
theorem dX1_floatingAt_5 : decode cX1_floatingAt 5 = .ok (.iload 4, 2) := by decide +kernel
theorem dX1_floatingAt_7 : decode cX1_floatingAt 7 = .ok (.iconst 3, 1) := by decide +kernel
theorem dX1_floatingAt_8 : decode cX1_floatingAt 8 = .ok (.if_icmp .ge 26, 3) := by decide +kernel
theorem dX1_floatingAt_11 : decode cX1_floatingAt 11 = .ok (.iload_n 3, 1) := by decide +kernel
theorem dX1_floatingAt_12 : decode cX1_floatingAt 12 = .ok (.aload_n 0, 1) := by decide +kernel
theorem dX1_floatingAt_13 : decode cX1_floatingAt 13 = .ok (.getfield 44, 3) := by decide +kernel
theorem dX1_floatingAt_16 : decode cX1_floatingAt 16 = .ok (.iload_n 1, 1) := by decide +kernel
theorem dX1_floatingAt_17 : decode cX1_floatingAt 17 = .ok (.iload_n 2, 1) := by decide +kernel
theorem dX1_floatingAt_18 : decode cX1_floatingAt 18 = .ok (.iload 4, 2) := by decide +kernel
theorem dX1_floatingAt_20 : decode cX1_floatingAt 20 = .ok (.invokestatic 92, 3) := by decide +kernel
theorem dX1_floatingAt_23 : decode cX1_floatingAt 23 = .ok (.invokevirtual 80, 3) := by decide +kernel
theorem dX1_floatingAt_26 : decode cX1_floatingAt 26 = .ok (.iadd, 1) := by decide +kernel
theorem dX1_floatingAt_27 : decode cX1_floatingAt 27 = .ok (.istore_n 3, 1) := by decide +kernel
theorem dX1_floatingAt_28 : decode cX1_floatingAt 28 = .ok (.iinc 4 1, 3) := by decide +kernel
theorem dX1_floatingAt_31 : decode cX1_floatingAt 31 = .ok (.goto (-26), 3) := by decide +kernel
theorem dX1_floatingAt_34 : decode cX1_floatingAt 34 = .ok (.iload_n 3, 1) := by decide +kernel
theorem dX1_floatingAt_35 : decode cX1_floatingAt 35 = .ok (.ireturn, 1) := by decide +kernel
set_option maxRecDepth 20000 in
theorem ggX1_caughtAt_X2_get : GoodIn wsX1_caughtAt wsX2_get := goodIn_r _ [9, 10, 24] (by decide +kernel) (by decide +kernel)
set_option maxRecDepth 20000 in
theorem gX1_caughtAt_X2_get : GoodIn wsX1_caughtAt (wsV RX1 80 RX2 yX2_get wsX2_get) := goodIn_app (goodIn_of _ (by decide +kernel)) ggX1_caughtAt_X2_get
theorem dX1_caughtAt_0 : decode cX1_caughtAt 0 = .ok (.iconst 0, 1) := by decide +kernel
theorem dX1_caughtAt_1 : decode cX1_caughtAt 1 = .ok (.istore_n 3, 1) := by decide +kernel
theorem dX1_caughtAt_2 : decode cX1_caughtAt 2 = .ok (.iconst 0, 1) := by decide +kernel
theorem dX1_caughtAt_3 : decode cX1_caughtAt 3 = .ok (.istore 4, 2) := by decide +kernel
theorem dX1_caughtAt_5 : decode cX1_caughtAt 5 = .ok (.iload 4, 2) := by decide +kernel
theorem dX1_caughtAt_7 : decode cX1_caughtAt 7 = .ok (.aload_n 0, 1) := by decide +kernel
theorem dX1_caughtAt_8 : decode cX1_caughtAt 8 = .ok (.getfield 54, 3) := by decide +kernel
theorem dX1_caughtAt_11 : decode cX1_caughtAt 11 = .ok (.if_icmp .ge 51, 3) := by decide +kernel
theorem dX1_caughtAt_14 : decode cX1_caughtAt 14 = .ok (.aload_n 0, 1) := by decide +kernel
theorem dX1_caughtAt_15 : decode cX1_caughtAt 15 = .ok (.getfield 38, 3) := by decide +kernel
theorem dX1_caughtAt_18 : decode cX1_caughtAt 18 = .ok (.iload 4, 2) := by decide +kernel
theorem dX1_caughtAt_20 : decode cX1_caughtAt 20 = .ok (.invokevirtual 80, 3) := by decide +kernel
theorem dX1_caughtAt_23 : decode cX1_caughtAt 23 = .ok (.iconst 1, 1) := by decide +kernel
theorem dX1_caughtAt_24 : decode cX1_caughtAt 24 = .ok (.if_icmp .ne 32, 3) := by decide +kernel
theorem dX1_caughtAt_27 : decode cX1_caughtAt 27 = .ok (.aload_n 0, 1) := by decide +kernel
theorem dX1_caughtAt_28 : decode cX1_caughtAt 28 = .ok (.getfield 23, 3) := by decide +kernel
theorem dX1_caughtAt_31 : decode cX1_caughtAt 31 = .ok (.iload 4, 2) := by decide +kernel
theorem dX1_caughtAt_33 : decode cX1_caughtAt 33 = .ok (.invokevirtual 80, 3) := by decide +kernel
theorem dX1_caughtAt_36 : decode cX1_caughtAt 36 = .ok (.iload_n 1, 1) := by decide +kernel
theorem dX1_caughtAt_37 : decode cX1_caughtAt 37 = .ok (.if_icmp .ne 19, 3) := by decide +kernel
theorem dX1_caughtAt_40 : decode cX1_caughtAt 40 = .ok (.aload_n 0, 1) := by decide +kernel
theorem dX1_caughtAt_41 : decode cX1_caughtAt 41 = .ok (.getfield 26, 3) := by decide +kernel
theorem dX1_caughtAt_44 : decode cX1_caughtAt 44 = .ok (.iload 4, 2) := by decide +kernel
theorem dX1_caughtAt_46 : decode cX1_caughtAt 46 = .ok (.invokevirtual 80, 3) := by decide +kernel
theorem dX1_caughtAt_49 : decode cX1_caughtAt 49 = .ok (.iload_n 2, 1) := by decide +kernel
theorem dX1_caughtAt_50 : decode cX1_caughtAt 50 = .ok (.if_icmp .ne 6, 3) := by decide +kernel
theorem dX1_caughtAt_53 : decode cX1_caughtAt 53 = .ok (.iinc 3 1, 3) := by decide +kernel
theorem dX1_caughtAt_56 : decode cX1_caughtAt 56 = .ok (.iinc 4 1, 3) := by decide +kernel
theorem dX1_caughtAt_59 : decode cX1_caughtAt 59 = .ok (.goto (-54), 3) := by decide +kernel
theorem dX1_caughtAt_62 : decode cX1_caughtAt 62 = .ok (.iload_n 3, 1) := by decide +kernel
theorem dX1_caughtAt_63 : decode cX1_caughtAt 63 = .ok (.ireturn, 1) := by decide +kernel
set_option maxRecDepth 20000 in
theorem ggX1_tally_X1_share : GoodIn wsX1_tally wsX1_share := goodIn_r _ [6, 7, 8, 9, 10, 11, 12, 13, 14, 15, 16, 17, 18, 19, 20, 21, 22, 23, 24, 25, 26, 27, 28, 29] (by decide +kernel) (by decide +kernel)
set_option maxRecDepth 20000 in
theorem gX1_tally_X1_share : GoodIn wsX1_tally (wsV RX1 96 RX1 yX1_share wsX1_share) := goodIn_app (goodIn_of _ (by decide +kernel)) ggX1_tally_X1_share
theorem dX1_tally_0 : decode cX1_tally 0 = .ok (.iconst 0, 1) := by decide +kernel
theorem dX1_tally_1 : decode cX1_tally 1 = .ok (.istore_n 2, 1) := by decide +kernel
theorem dX1_tally_2 : decode cX1_tally 2 = .ok (.iconst 0, 1) := by decide +kernel
theorem dX1_tally_3 : decode cX1_tally 3 = .ok (.istore_n 3, 1) := by decide +kernel
theorem dX1_tally_4 : decode cX1_tally 4 = .ok (.iload_n 3, 1) := by decide +kernel
theorem dX1_tally_5 : decode cX1_tally 5 = .ok (.aload_n 0, 1) := by decide +kernel
theorem dX1_tally_6 : decode cX1_tally 6 = .ok (.getfield 54, 3) := by decide +kernel
theorem dX1_tally_9 : decode cX1_tally 9 = .ok (.if_icmp .ge 18, 3) := by decide +kernel
theorem dX1_tally_12 : decode cX1_tally 12 = .ok (.iload_n 2, 1) := by decide +kernel
theorem dX1_tally_13 : decode cX1_tally 13 = .ok (.aload_n 0, 1) := by decide +kernel
theorem dX1_tally_14 : decode cX1_tally 14 = .ok (.iload_n 3, 1) := by decide +kernel
theorem dX1_tally_15 : decode cX1_tally 15 = .ok (.iload_n 1, 1) := by decide +kernel
theorem dX1_tally_16 : decode cX1_tally 16 = .ok (.invokevirtual 96, 3) := by decide +kernel
theorem dX1_tally_19 : decode cX1_tally 19 = .ok (.iadd, 1) := by decide +kernel
theorem dX1_tally_20 : decode cX1_tally 20 = .ok (.istore_n 2, 1) := by decide +kernel
theorem dX1_tally_21 : decode cX1_tally 21 = .ok (.iinc 3 1, 3) := by decide +kernel
theorem dX1_tally_24 : decode cX1_tally 24 = .ok (.goto (-20), 3) := by decide +kernel
theorem dX1_tally_27 : decode cX1_tally 27 = .ok (.iload_n 2, 1) := by decide +kernel
theorem dX1_tally_28 : decode cX1_tally 28 = .ok (.ireturn, 1) := by decide +kernel
set_option maxRecDepth 20000 in
theorem ggX1_share_X2_get : GoodIn wsX1_share wsX2_get := goodIn_r _ [8, 9, 23] (by decide +kernel) (by decide +kernel)
set_option maxRecDepth 20000 in
theorem gX1_share_X2_get : GoodIn wsX1_share (wsV RX1 80 RX2 yX2_get wsX2_get) := goodIn_app (goodIn_of _ (by decide +kernel)) ggX1_share_X2_get
theorem dX1_share_0 : decode cX1_share 0 = .ok (.aload_n 0, 1) := by decide +kernel
theorem dX1_share_1 : decode cX1_share 1 = .ok (.getfield 38, 3) := by decide +kernel
theorem dX1_share_4 : decode cX1_share 4 = .ok (.iload_n 1, 1) := by decide +kernel
theorem dX1_share_5 : decode cX1_share 5 = .ok (.invokevirtual 80, 3) := by decide +kernel
theorem dX1_share_8 : decode cX1_share 8 = .ok (.istore_n 3, 1) := by decide +kernel
theorem dX1_share_9 : decode cX1_share 9 = .ok (.aload_n 0, 1) := by decide +kernel
theorem dX1_share_10 : decode cX1_share 10 = .ok (.getfield 35, 3) := by decide +kernel
theorem dX1_share_13 : decode cX1_share 13 = .ok (.iload_n 1, 1) := by decide +kernel
theorem dX1_share_14 : decode cX1_share 14 = .ok (.invokevirtual 80, 3) := by decide +kernel
theorem dX1_share_17 : decode cX1_share 17 = .ok (.istore 4, 2) := by decide +kernel
theorem dX1_share_19 : decode cX1_share 19 = .ok (.iload_n 2, 1) := by decide +kernel
theorem dX1_share_20 : decode cX1_share 20 = .ok (.tableswitch 91 2 6 #[36, 46, 57, 68, 79], 36) := by decide +kernel
theorem dX1_share_56 : decode cX1_share 56 = .ok (.iload_n 3, 1) := by decide +kernel
theorem dX1_share_57 : decode cX1_share 57 = .ok (.ifCond .ne 7, 3) := by decide +kernel
theorem dX1_share_60 : decode cX1_share 60 = .ok (.iconst 1, 1) := by decide +kernel
theorem dX1_share_61 : decode cX1_share 61 = .ok (.goto 4, 3) := by decide +kernel
theorem dX1_share_64 : decode cX1_share 64 = .ok (.iconst 0, 1) := by decide +kernel
theorem dX1_share_65 : decode cX1_share 65 = .ok (.ireturn, 1) := by decide +kernel
theorem dX1_share_66 : decode cX1_share 66 = .ok (.iload_n 3, 1) := by decide +kernel
theorem dX1_share_67 : decode cX1_share 67 = .ok (.iconst 1, 1) := by decide +kernel
theorem dX1_share_68 : decode cX1_share 68 = .ok (.if_icmp .ne 7, 3) := by decide +kernel
theorem dX1_share_71 : decode cX1_share 71 = .ok (.iconst 1, 1) := by decide +kernel
theorem dX1_share_72 : decode cX1_share 72 = .ok (.goto 4, 3) := by decide +kernel
theorem dX1_share_75 : decode cX1_share 75 = .ok (.iconst 0, 1) := by decide +kernel
theorem dX1_share_76 : decode cX1_share 76 = .ok (.ireturn, 1) := by decide +kernel
theorem dX1_share_77 : decode cX1_share 77 = .ok (.iload_n 3, 1) := by decide +kernel
theorem dX1_share_78 : decode cX1_share 78 = .ok (.iconst 2, 1) := by decide +kernel
theorem dX1_share_79 : decode cX1_share 79 = .ok (.if_icmp .ne 7, 3) := by decide +kernel
theorem dX1_share_82 : decode cX1_share 82 = .ok (.iconst 1, 1) := by decide +kernel
theorem dX1_share_83 : decode cX1_share 83 = .ok (.goto 4, 3) := by decide +kernel
theorem dX1_share_86 : decode cX1_share 86 = .ok (.iconst 0, 1) := by decide +kernel
theorem dX1_share_87 : decode cX1_share 87 = .ok (.ireturn, 1) := by decide +kernel
theorem dX1_share_88 : decode cX1_share 88 = .ok (.iload_n 3, 1) := by decide +kernel
theorem dX1_share_89 : decode cX1_share 89 = .ok (.ifCond .ne 8, 3) := by decide +kernel
theorem dX1_share_92 : decode cX1_share 92 = .ok (.iload 4, 2) := by decide +kernel
theorem dX1_share_94 : decode cX1_share 94 = .ok (.goto 4, 3) := by decide +kernel
theorem dX1_share_97 : decode cX1_share 97 = .ok (.iconst 0, 1) := by decide +kernel
theorem dX1_share_98 : decode cX1_share 98 = .ok (.ireturn, 1) := by decide +kernel
theorem dX1_share_99 : decode cX1_share 99 = .ok (.iload_n 3, 1) := by decide +kernel
theorem dX1_share_100 : decode cX1_share 100 = .ok (.iconst 1, 1) := by decide +kernel
theorem dX1_share_101 : decode cX1_share 101 = .ok (.if_icmp .ne 8, 3) := by decide +kernel
theorem dX1_share_104 : decode cX1_share 104 = .ok (.iload 4, 2) := by decide +kernel
theorem dX1_share_106 : decode cX1_share 106 = .ok (.goto 4, 3) := by decide +kernel
theorem dX1_share_109 : decode cX1_share 109 = .ok (.iconst 0, 1) := by decide +kernel
theorem dX1_share_110 : decode cX1_share 110 = .ok (.ireturn, 1) := by decide +kernel
theorem dX1_share_111 : decode cX1_share 111 = .ok (.iload_n 3, 1) := by decide +kernel
theorem dX1_share_112 : decode cX1_share 112 = .ok (.iconst 1, 1) := by decide +kernel
theorem dX1_share_113 : decode cX1_share 113 = .ok (.if_icmp .ne 17, 3) := by decide +kernel
theorem dX1_share_116 : decode cX1_share 116 = .ok (.iload 4, 2) := by decide +kernel
theorem dX1_share_118 : decode cX1_share 118 = .ok (.aload_n 0, 1) := by decide +kernel
theorem dX1_share_119 : decode cX1_share 119 = .ok (.getfield 20, 3) := by decide +kernel
theorem dX1_share_122 : decode cX1_share 122 = .ok (.iload_n 1, 1) := by decide +kernel
theorem dX1_share_123 : decode cX1_share 123 = .ok (.invokevirtual 80, 3) := by decide +kernel
theorem dX1_share_126 : decode cX1_share 126 = .ok (.imul, 1) := by decide +kernel
theorem dX1_share_127 : decode cX1_share 127 = .ok (.goto 4, 3) := by decide +kernel
theorem dX1_share_130 : decode cX1_share 130 = .ok (.iconst 0, 1) := by decide +kernel
theorem dX1_share_131 : decode cX1_share 131 = .ok (.ireturn, 1) := by decide +kernel
set_option maxRecDepth 20000 in
theorem ggX1_passMinutes_X1_lineUp : GoodIn wsX1_passMinutes wsX1_lineUp := goodIn_r _ [7, 8, 9, 10, 1, 11, 12, 13, 6, 14, 15, 16, 17, 18, 19, 20, 21, 22, 23, 24, 25, 26, 27, 28, 29, 30, 31, 32, 89, 90, 91, 92, 93, 94, 95, 96, 97, 98, 99, 100, 101, 102] (by decide +kernel) (by decide +kernel)
set_option maxRecDepth 20000 in
theorem gX1_passMinutes_X1_lineUp : GoodIn wsX1_passMinutes (wsV RX1 100 RX1 yX1_lineUp wsX1_lineUp) := goodIn_app (goodIn_of _ (by decide +kernel)) ggX1_passMinutes_X1_lineUp
set_option maxRecDepth 20000 in
theorem ggX1_passMinutes_X2_get : GoodIn wsX1_passMinutes wsX2_get := goodIn_r _ [27, 28, 102] (by decide +kernel) (by decide +kernel)
set_option maxRecDepth 20000 in
theorem gX1_passMinutes_X2_get : GoodIn wsX1_passMinutes (wsV RX1 80 RX2 yX2_get wsX2_get) := goodIn_app (goodIn_of _ (by decide +kernel)) ggX1_passMinutes_X2_get
set_option maxRecDepth 20000 in
theorem ggX1_passMinutes_X1_drift : GoodIn wsX1_passMinutes wsX1_drift := goodIn_r _ [36, 10, 37, 9, 38, 39, 23, 24, 25, 26, 27, 28, 11, 12, 13, 6, 14, 15, 16, 17, 18, 19, 8, 20, 21, 22, 40, 41, 42, 43, 44, 45, 46, 47, 48, 49, 50, 51, 52, 53, 54, 55, 56, 29, 30, 31, 32, 57, 58, 59, 60, 61, 2, 62, 63, 64, 65, 66, 67, 68, 69, 70, 71, 72, 73, 74, 75, 76, 77, 78, 79, 89, 90, 91, 92, 93, 94, 95, 96, 97, 98, 99, 100, 101, 103, 104, 105, 106, 107, 102] (by decide +kernel) (by decide +kernel)
set_option maxRecDepth 20000 in
theorem gX1_passMinutes_X1_drift : GoodIn wsX1_passMinutes (wsV RX1 104 RX1 yX1_drift wsX1_drift) := goodIn_app (goodIn_of _ (by decide +kernel)) ggX1_passMinutes_X1_drift
set_option maxRecDepth 20000 in
theorem ggX1_passMinutes_X1_useWax : GoodIn wsX1_passMinutes wsX1_useWax := goodIn_r _ [83, 8, 84, 38, 11, 12, 13, 6, 14, 15, 16, 17, 18, 19, 20, 21, 22, 23, 24, 25, 26, 27, 28, 85, 86, 87, 88, 29, 30, 31, 32, 89, 90, 91, 92, 93, 94, 95, 96, 97, 98, 99, 100, 101, 102] (by decide +kernel) (by decide +kernel)
set_option maxRecDepth 20000 in
theorem gX1_passMinutes_X1_useWax : GoodIn wsX1_passMinutes (wsV RX1 108 RX1 yX1_useWax wsX1_useWax) := goodIn_app (goodIn_of _ (by decide +kernel)) ggX1_passMinutes_X1_useWax
theorem dX1_passMinutes_0 : decode cX1_passMinutes 0 = .ok (.iconst 0, 1) := by decide +kernel
theorem dX1_passMinutes_1 : decode cX1_passMinutes 1 = .ok (.istore_n 3, 1) := by decide +kernel
theorem dX1_passMinutes_2 : decode cX1_passMinutes 2 = .ok (.iload_n 3, 1) := by decide +kernel
theorem dX1_passMinutes_3 : decode cX1_passMinutes 3 = .ok (.iload_n 1, 1) := by decide +kernel
theorem dX1_passMinutes_4 : decode cX1_passMinutes 4 = .ok (.if_icmp .ge 62, 3) := by decide +kernel
theorem dX1_passMinutes_7 : decode cX1_passMinutes 7 = .ok (.aload_n 0, 1) := by decide +kernel
theorem dX1_passMinutes_8 : decode cX1_passMinutes 8 = .ok (.invokevirtual 100, 3) := by decide +kernel
theorem dX1_passMinutes_11 : decode cX1_passMinutes 11 = .ok (.istore 4, 2) := by decide +kernel
theorem dX1_passMinutes_13 : decode cX1_passMinutes 13 = .ok (.iconst 0, 1) := by decide +kernel
theorem dX1_passMinutes_14 : decode cX1_passMinutes 14 = .ok (.istore 5, 2) := by decide +kernel
theorem dX1_passMinutes_16 : decode cX1_passMinutes 16 = .ok (.iload 5, 2) := by decide +kernel
theorem dX1_passMinutes_18 : decode cX1_passMinutes 18 = .ok (.iload 4, 2) := by decide +kernel
theorem dX1_passMinutes_20 : decode cX1_passMinutes 20 = .ok (.if_icmp .ge 26, 3) := by decide +kernel
theorem dX1_passMinutes_23 : decode cX1_passMinutes 23 = .ok (.aload_n 0, 1) := by decide +kernel
theorem dX1_passMinutes_24 : decode cX1_passMinutes 24 = .ok (.aload_n 0, 1) := by decide +kernel
theorem dX1_passMinutes_25 : decode cX1_passMinutes 25 = .ok (.getfield 47, 3) := by decide +kernel
theorem dX1_passMinutes_28 : decode cX1_passMinutes 28 = .ok (.iload 5, 2) := by decide +kernel
theorem dX1_passMinutes_30 : decode cX1_passMinutes 30 = .ok (.invokevirtual 80, 3) := by decide +kernel
theorem dX1_passMinutes_33 : decode cX1_passMinutes 33 = .ok (.bipush 64, 2) := by decide +kernel
theorem dX1_passMinutes_35 : decode cX1_passMinutes 35 = .ok (.irem, 1) := by decide +kernel
theorem dX1_passMinutes_36 : decode cX1_passMinutes 36 = .ok (.aload_n 2, 1) := by decide +kernel
theorem dX1_passMinutes_37 : decode cX1_passMinutes 37 = .ok (.invokevirtual 104, 3) := by decide +kernel
theorem dX1_passMinutes_40 : decode cX1_passMinutes 40 = .ok (.iinc 5 1, 3) := by decide +kernel
theorem dX1_passMinutes_43 : decode cX1_passMinutes 43 = .ok (.goto (-27), 3) := by decide +kernel
theorem dX1_passMinutes_46 : decode cX1_passMinutes 46 = .ok (.aload_n 0, 1) := by decide +kernel
theorem dX1_passMinutes_47 : decode cX1_passMinutes 47 = .ok (.invokevirtual 108, 3) := by decide +kernel
theorem dX1_passMinutes_50 : decode cX1_passMinutes 50 = .ok (.aload_n 0, 1) := by decide +kernel
theorem dX1_passMinutes_51 : decode cX1_passMinutes 51 = .ok (.dup, 1) := by decide +kernel
theorem dX1_passMinutes_52 : decode cX1_passMinutes 52 = .ok (.getfield 58, 3) := by decide +kernel
theorem dX1_passMinutes_55 : decode cX1_passMinutes 55 = .ok (.iconst 1, 1) := by decide +kernel
theorem dX1_passMinutes_56 : decode cX1_passMinutes 56 = .ok (.iadd, 1) := by decide +kernel
theorem dX1_passMinutes_57 : decode cX1_passMinutes 57 = .ok (.putfield 58, 3) := by decide +kernel
theorem dX1_passMinutes_60 : decode cX1_passMinutes 60 = .ok (.iinc 3 1, 3) := by decide +kernel
theorem dX1_passMinutes_63 : decode cX1_passMinutes 63 = .ok (.goto (-61), 3) := by decide +kernel
theorem dX1_passMinutes_66 : decode cX1_passMinutes 66 = .ok (.return_, 1) := by decide +kernel
set_option maxRecDepth 20000 in
theorem ggX1_lineUp_X1_isAfloat : GoodIn wsX1_lineUp wsX1_isAfloat := goodIn_r _ [9, 10, 11, 12, 13, 8, 14, 1, 15, 16, 17, 18, 19, 20, 21, 22, 23, 28, 29, 30, 31, 32, 33, 34, 35, 36, 37, 38, 39, 40, 41] (by decide +kernel) (by decide +kernel)
set_option maxRecDepth 20000 in
theorem gX1_lineUp_X1_isAfloat : GoodIn wsX1_lineUp (wsV RX1 111 RX1 yX1_isAfloat wsX1_isAfloat) := goodIn_app (goodIn_of _ (by decide +kernel)) ggX1_lineUp_X1_isAfloat
set_option maxRecDepth 20000 in
theorem ggX1_lineUp_X2_get : GoodIn wsX1_lineUp wsX2_get := goodIn_r _ [22, 23, 41] (by decide +kernel) (by decide +kernel)
set_option maxRecDepth 20000 in
theorem gX1_lineUp_X2_get : GoodIn wsX1_lineUp (wsV RX1 80 RX2 yX2_get wsX2_get) := goodIn_app (goodIn_of _ (by decide +kernel)) ggX1_lineUp_X2_get
set_option maxRecDepth 20000 in
theorem ggX1_lineUp_X2_put : GoodIn wsX1_lineUp wsX2_put := goodIn_r _ [27, 23, 41] (by decide +kernel) (by decide +kernel)
set_option maxRecDepth 20000 in
theorem gX1_lineUp_X2_put : GoodIn wsX1_lineUp (wsV RX1 61 RX2 yX2_put wsX2_put) := goodIn_app (goodIn_of _ (by decide +kernel)) ggX1_lineUp_X2_put
theorem dX1_lineUp_0 : decode cX1_lineUp 0 = .ok (.iconst 0, 1) := by decide +kernel
theorem dX1_lineUp_1 : decode cX1_lineUp 1 = .ok (.istore_n 1, 1) := by decide +kernel
theorem dX1_lineUp_2 : decode cX1_lineUp 2 = .ok (.iconst 0, 1) := by decide +kernel
theorem dX1_lineUp_3 : decode cX1_lineUp 3 = .ok (.istore_n 2, 1) := by decide +kernel
theorem dX1_lineUp_4 : decode cX1_lineUp 4 = .ok (.iload_n 2, 1) := by decide +kernel
theorem dX1_lineUp_5 : decode cX1_lineUp 5 = .ok (.aload_n 0, 1) := by decide +kernel
theorem dX1_lineUp_6 : decode cX1_lineUp 6 = .ok (.getfield 54, 3) := by decide +kernel
theorem dX1_lineUp_9 : decode cX1_lineUp 9 = .ok (.if_icmp .ge 112, 3) := by decide +kernel
theorem dX1_lineUp_12 : decode cX1_lineUp 12 = .ok (.aload_n 0, 1) := by decide +kernel
theorem dX1_lineUp_13 : decode cX1_lineUp 13 = .ok (.iload_n 2, 1) := by decide +kernel
end
section
theorem dX1_lineUp_14 : decode cX1_lineUp 14 = .ok (.invokevirtual 111, 3) := by decide +kernel
theorem dX1_lineUp_17 : decode cX1_lineUp 17 = .ok (.ifCond .eq 98, 3) := by decide +kernel
theorem dX1_lineUp_20 : decode cX1_lineUp 20 = .ok (.bipush 59, 2) := by decide +kernel
theorem dX1_lineUp_22 : decode cX1_lineUp 22 = .ok (.aload_n 0, 1) := by decide +kernel
theorem dX1_lineUp_23 : decode cX1_lineUp 23 = .ok (.getfield 26, 3) := by decide +kernel
theorem dX1_lineUp_26 : decode cX1_lineUp 26 = .ok (.iload_n 2, 1) := by decide +kernel
theorem dX1_lineUp_27 : decode cX1_lineUp 27 = .ok (.invokevirtual 80, 3) := by decide +kernel
theorem dX1_lineUp_30 : decode cX1_lineUp 30 = .ok (.isub, 1) := by decide +kernel
theorem dX1_lineUp_31 : decode cX1_lineUp 31 = .ok (.iconst 3, 1) := by decide +kernel
theorem dX1_lineUp_32 : decode cX1_lineUp 32 = .ok (.imul, 1) := by decide +kernel
theorem dX1_lineUp_33 : decode cX1_lineUp 33 = .ok (.aload_n 0, 1) := by decide +kernel
theorem dX1_lineUp_34 : decode cX1_lineUp 34 = .ok (.getfield 23, 3) := by decide +kernel
theorem dX1_lineUp_37 : decode cX1_lineUp 37 = .ok (.iload_n 2, 1) := by decide +kernel
theorem dX1_lineUp_38 : decode cX1_lineUp 38 = .ok (.invokevirtual 80, 3) := by decide +kernel
theorem dX1_lineUp_41 : decode cX1_lineUp 41 = .ok (.iadd, 1) := by decide +kernel
theorem dX1_lineUp_42 : decode cX1_lineUp 42 = .ok (.istore_n 3, 1) := by decide +kernel
theorem dX1_lineUp_43 : decode cX1_lineUp 43 = .ok (.iload_n 3, 1) := by decide +kernel
theorem dX1_lineUp_44 : decode cX1_lineUp 44 = .ok (.bipush 64, 2) := by decide +kernel
theorem dX1_lineUp_46 : decode cX1_lineUp 46 = .ok (.imul, 1) := by decide +kernel
theorem dX1_lineUp_47 : decode cX1_lineUp 47 = .ok (.iload_n 2, 1) := by decide +kernel
theorem dX1_lineUp_48 : decode cX1_lineUp 48 = .ok (.iadd, 1) := by decide +kernel
theorem dX1_lineUp_49 : decode cX1_lineUp 49 = .ok (.istore 4, 2) := by decide +kernel
theorem dX1_lineUp_51 : decode cX1_lineUp 51 = .ok (.iload_n 1, 1) := by decide +kernel
theorem dX1_lineUp_52 : decode cX1_lineUp 52 = .ok (.istore 5, 2) := by decide +kernel
theorem dX1_lineUp_54 : decode cX1_lineUp 54 = .ok (.iload 5, 2) := by decide +kernel
theorem dX1_lineUp_56 : decode cX1_lineUp 56 = .ok (.ifCond .le 45, 3) := by decide +kernel
theorem dX1_lineUp_59 : decode cX1_lineUp 59 = .ok (.aload_n 0, 1) := by decide +kernel
theorem dX1_lineUp_60 : decode cX1_lineUp 60 = .ok (.getfield 47, 3) := by decide +kernel
theorem dX1_lineUp_63 : decode cX1_lineUp 63 = .ok (.iload 5, 2) := by decide +kernel
theorem dX1_lineUp_65 : decode cX1_lineUp 65 = .ok (.iconst 1, 1) := by decide +kernel
theorem dX1_lineUp_66 : decode cX1_lineUp 66 = .ok (.isub, 1) := by decide +kernel
theorem dX1_lineUp_67 : decode cX1_lineUp 67 = .ok (.invokevirtual 80, 3) := by decide +kernel
theorem dX1_lineUp_70 : decode cX1_lineUp 70 = .ok (.iload 4, 2) := by decide +kernel
theorem dX1_lineUp_72 : decode cX1_lineUp 72 = .ok (.if_icmp .le 29, 3) := by decide +kernel
theorem dX1_lineUp_75 : decode cX1_lineUp 75 = .ok (.aload_n 0, 1) := by decide +kernel
theorem dX1_lineUp_76 : decode cX1_lineUp 76 = .ok (.getfield 47, 3) := by decide +kernel
theorem dX1_lineUp_79 : decode cX1_lineUp 79 = .ok (.iload 5, 2) := by decide +kernel
theorem dX1_lineUp_81 : decode cX1_lineUp 81 = .ok (.aload_n 0, 1) := by decide +kernel
theorem dX1_lineUp_82 : decode cX1_lineUp 82 = .ok (.getfield 47, 3) := by decide +kernel
theorem dX1_lineUp_85 : decode cX1_lineUp 85 = .ok (.iload 5, 2) := by decide +kernel
theorem dX1_lineUp_87 : decode cX1_lineUp 87 = .ok (.iconst 1, 1) := by decide +kernel
theorem dX1_lineUp_88 : decode cX1_lineUp 88 = .ok (.isub, 1) := by decide +kernel
theorem dX1_lineUp_89 : decode cX1_lineUp 89 = .ok (.invokevirtual 80, 3) := by decide +kernel
theorem dX1_lineUp_92 : decode cX1_lineUp 92 = .ok (.invokevirtual 61, 3) := by decide +kernel
theorem dX1_lineUp_95 : decode cX1_lineUp 95 = .ok (.iinc 5 (-1), 3) := by decide +kernel
theorem dX1_lineUp_98 : decode cX1_lineUp 98 = .ok (.goto (-44), 3) := by decide +kernel
theorem dX1_lineUp_101 : decode cX1_lineUp 101 = .ok (.aload_n 0, 1) := by decide +kernel
theorem dX1_lineUp_102 : decode cX1_lineUp 102 = .ok (.getfield 47, 3) := by decide +kernel
theorem dX1_lineUp_105 : decode cX1_lineUp 105 = .ok (.iload 5, 2) := by decide +kernel
theorem dX1_lineUp_107 : decode cX1_lineUp 107 = .ok (.iload 4, 2) := by decide +kernel
theorem dX1_lineUp_109 : decode cX1_lineUp 109 = .ok (.invokevirtual 61, 3) := by decide +kernel
theorem dX1_lineUp_112 : decode cX1_lineUp 112 = .ok (.iinc 1 1, 3) := by decide +kernel
theorem dX1_lineUp_115 : decode cX1_lineUp 115 = .ok (.iinc 2 1, 3) := by decide +kernel
theorem dX1_lineUp_118 : decode cX1_lineUp 118 = .ok (.goto (-114), 3) := by decide +kernel
theorem dX1_lineUp_121 : decode cX1_lineUp 121 = .ok (.iload_n 1, 1) := by decide +kernel
theorem dX1_lineUp_122 : decode cX1_lineUp 122 = .ok (.ireturn, 1) := by decide +kernel
set_option maxRecDepth 20000 in
theorem ggX1_drift_X2_get : GoodIn wsX1_drift wsX2_get := goodIn_r _ [10, 11, 89] (by decide +kernel) (by decide +kernel)
set_option maxRecDepth 20000 in
theorem gX1_drift_X2_get : GoodIn wsX1_drift (wsV RX1 80 RX2 yX2_get wsX2_get) := goodIn_app (goodIn_of _ (by decide +kernel)) ggX1_drift_X2_get
set_option maxRecDepth 20000 in
theorem ggX1_drift_X1_isAfloat : GoodIn wsX1_drift wsX1_isAfloat := goodIn_r _ [16, 17, 18, 19, 20, 15, 21, 22, 23, 24, 25, 6, 7, 8, 9, 10, 11, 71, 72, 73, 74, 75, 76, 77, 78, 79, 80, 81, 82, 83, 89] (by decide +kernel) (by decide +kernel)
set_option maxRecDepth 20000 in
theorem gX1_drift_X1_isAfloat : GoodIn wsX1_drift (wsV RX1 111 RX1 yX1_isAfloat wsX1_isAfloat) := goodIn_app (goodIn_of _ (by decide +kernel)) ggX1_drift_X1_isAfloat
set_option maxRecDepth 20000 in
theorem ggX1_drift_X1_catchesAhead : GoodIn wsX1_drift wsX1_catchesAhead := goodIn_r _ [29, 3, 30, 31, 1, 6, 7, 8, 9, 10, 11, 32, 33, 15, 34, 71, 72, 73, 74, 75, 76, 77, 78, 79, 80, 81, 82, 83, 89] (by decide +kernel) (by decide +kernel)
set_option maxRecDepth 20000 in
theorem gX1_drift_X1_catchesAhead : GoodIn wsX1_drift (wsV RX1 119 RX1 yX1_catchesAhead wsX1_catchesAhead) := goodIn_app (goodIn_of _ (by decide +kernel)) ggX1_drift_X1_catchesAhead
set_option maxRecDepth 20000 in
theorem ggX1_drift_X1_moveTo : GoodIn wsX1_drift wsX1_moveTo := goodIn_r _ [38, 1, 3, 39, 40, 41, 15, 42, 30, 31, 6, 7, 8, 9, 10, 11, 32, 33, 34, 43, 44, 45, 46, 71, 72, 73, 74, 75, 76, 77, 78, 79, 80, 81, 82, 83, 89] (by decide +kernel) (by decide +kernel)
set_option maxRecDepth 20000 in
theorem gX1_drift_X1_moveTo : GoodIn wsX1_drift (wsV RX1 122 RX1 yX1_moveTo wsX1_moveTo) := goodIn_app (goodIn_of _ (by decide +kernel)) ggX1_drift_X1_moveTo
set_option maxRecDepth 20000 in
theorem ggX1_drift_X2_put : GoodIn wsX1_drift wsX2_put := goodIn_r _ [46, 11, 89] (by decide +kernel) (by decide +kernel)
set_option maxRecDepth 20000 in
theorem gX1_drift_X2_put : GoodIn wsX1_drift (wsV RX1 61 RX2 yX2_put wsX2_put) := goodIn_app (goodIn_of _ (by decide +kernel)) ggX1_drift_X2_put
set_option maxRecDepth 20000 in
theorem ggX1_drift_X1_leave : GoodIn wsX1_drift wsX1_leave := goodIn_r _ [50, 17, 51, 52, 39, 40, 41, 15, 42, 1, 3, 30, 31, 6, 7, 8, 9, 10, 11, 32, 33, 34, 43, 44, 45, 46, 71, 72, 73, 74, 75, 76, 77, 78, 79, 80, 81, 82, 83, 89] (by decide +kernel) (by decide +kernel)
set_option maxRecDepth 20000 in
theorem gX1_drift_X1_leave : GoodIn wsX1_drift (wsV RX1 126 RX1 yX1_leave wsX1_leave) := goodIn_app (goodIn_of _ (by decide +kernel)) ggX1_drift_X1_leave
set_option maxRecDepth 20000 in
theorem ggX1_drift_X1_meetWeir : GoodIn wsX1_drift wsX1_meetWeir := goodIn_r _ [56, 31, 1, 3, 57, 4, 6, 7, 8, 9, 10, 11, 32, 33, 15, 34, 43, 44, 45, 46, 58, 59, 60, 61, 30, 62, 24, 63, 71, 72, 73, 74, 75, 76, 77, 78, 79, 80, 81, 82, 83, 89] (by decide +kernel) (by decide +kernel)
set_option maxRecDepth 20000 in
theorem gX1_drift_X1_meetWeir : GoodIn wsX1_drift (wsV RX1 132 RX1 yX1_meetWeir wsX1_meetWeir) := goodIn_app (goodIn_of _ (by decide +kernel)) ggX1_drift_X1_meetWeir
set_option maxRecDepth 20000 in
theorem ggX1_drift_X0_hasNet : GoodIn wsX1_drift wsX0_hasNet := goodIn_r _ [68, 69, 70, 7, 8, 9, 10, 11, 84, 85, 86, 87, 88, 89] (by decide +kernel) (by decide +kernel)
set_option maxRecDepth 20000 in
theorem gX1_drift_X0_hasNet : GoodIn wsX1_drift (wsV RX1 135 RX0 yX0_hasNet wsX0_hasNet) := goodIn_app (goodIn_of _ (by decide +kernel)) ggX1_drift_X0_hasNet
theorem dX1_drift_0 : decode cX1_drift 0 = .ok (.aload_n 0, 1) := by decide +kernel
theorem dX1_drift_1 : decode cX1_drift 1 = .ok (.getfield 23, 3) := by decide +kernel
theorem dX1_drift_4 : decode cX1_drift 4 = .ok (.iload_n 1, 1) := by decide +kernel
theorem dX1_drift_5 : decode cX1_drift 5 = .ok (.invokevirtual 80, 3) := by decide +kernel
theorem dX1_drift_8 : decode cX1_drift 8 = .ok (.istore_n 3, 1) := by decide +kernel
theorem dX1_drift_9 : decode cX1_drift 9 = .ok (.aload_n 2, 1) := by decide +kernel
theorem dX1_drift_10 : decode cX1_drift 10 = .ok (.getfield 114, 3) := by decide +kernel
theorem dX1_drift_13 : decode cX1_drift 13 = .ok (.iload_n 3, 1) := by decide +kernel
theorem dX1_drift_14 : decode cX1_drift 14 = .ok (.invokevirtual 80, 3) := by decide +kernel
theorem dX1_drift_17 : decode cX1_drift 17 = .ok (.istore 4, 2) := by decide +kernel
theorem dX1_drift_19 : decode cX1_drift 19 = .ok (.iconst 0, 1) := by decide +kernel
theorem dX1_drift_20 : decode cX1_drift 20 = .ok (.istore 5, 2) := by decide +kernel
theorem dX1_drift_22 : decode cX1_drift 22 = .ok (.iload 5, 2) := by decide +kernel
theorem dX1_drift_24 : decode cX1_drift 24 = .ok (.iload 4, 2) := by decide +kernel
theorem dX1_drift_26 : decode cX1_drift 26 = .ok (.if_icmp .ge 100, 3) := by decide +kernel
theorem dX1_drift_29 : decode cX1_drift 29 = .ok (.aload_n 0, 1) := by decide +kernel
theorem dX1_drift_30 : decode cX1_drift 30 = .ok (.iload_n 1, 1) := by decide +kernel
theorem dX1_drift_31 : decode cX1_drift 31 = .ok (.invokevirtual 111, 3) := by decide +kernel
theorem dX1_drift_34 : decode cX1_drift 34 = .ok (.ifCond .eq 92, 3) := by decide +kernel
theorem dX1_drift_37 : decode cX1_drift 37 = .ok (.aload_n 0, 1) := by decide +kernel
theorem dX1_drift_38 : decode cX1_drift 38 = .ok (.iload_n 1, 1) := by decide +kernel
theorem dX1_drift_39 : decode cX1_drift 39 = .ok (.invokevirtual 119, 3) := by decide +kernel
theorem dX1_drift_42 : decode cX1_drift 42 = .ok (.ifCond .ne 84, 3) := by decide +kernel
theorem dX1_drift_45 : decode cX1_drift 45 = .ok (.aload_n 0, 1) := by decide +kernel
theorem dX1_drift_46 : decode cX1_drift 46 = .ok (.getfield 26, 3) := by decide +kernel
theorem dX1_drift_49 : decode cX1_drift 49 = .ok (.iload_n 1, 1) := by decide +kernel
theorem dX1_drift_50 : decode cX1_drift 50 = .ok (.invokevirtual 80, 3) := by decide +kernel
theorem dX1_drift_53 : decode cX1_drift 53 = .ok (.iconst 1, 1) := by decide +kernel
theorem dX1_drift_54 : decode cX1_drift 54 = .ok (.iadd, 1) := by decide +kernel
theorem dX1_drift_55 : decode cX1_drift 55 = .ok (.istore 6, 2) := by decide +kernel
theorem dX1_drift_57 : decode cX1_drift 57 = .ok (.aload_n 0, 1) := by decide +kernel
theorem dX1_drift_58 : decode cX1_drift 58 = .ok (.iload_n 1, 1) := by decide +kernel
theorem dX1_drift_59 : decode cX1_drift 59 = .ok (.iload_n 3, 1) := by decide +kernel
theorem dX1_drift_60 : decode cX1_drift 60 = .ok (.iload 6, 2) := by decide +kernel
theorem dX1_drift_62 : decode cX1_drift 62 = .ok (.invokevirtual 122, 3) := by decide +kernel
theorem dX1_drift_65 : decode cX1_drift 65 = .ok (.iload 6, 2) := by decide +kernel
theorem dX1_drift_67 : decode cX1_drift 67 = .ok (.bipush 60, 2) := by decide +kernel
theorem dX1_drift_69 : decode cX1_drift 69 = .ok (.if_icmp .lt 21, 3) := by decide +kernel
theorem dX1_drift_72 : decode cX1_drift 72 = .ok (.aload_n 0, 1) := by decide +kernel
theorem dX1_drift_73 : decode cX1_drift 73 = .ok (.getfield 35, 3) := by decide +kernel
theorem dX1_drift_76 : decode cX1_drift 76 = .ok (.iload_n 1, 1) := by decide +kernel
theorem dX1_drift_77 : decode cX1_drift 77 = .ok (.iconst 0, 1) := by decide +kernel
theorem dX1_drift_78 : decode cX1_drift 78 = .ok (.invokevirtual 61, 3) := by decide +kernel
theorem dX1_drift_81 : decode cX1_drift 81 = .ok (.aload_n 0, 1) := by decide +kernel
theorem dX1_drift_82 : decode cX1_drift 82 = .ok (.iload_n 1, 1) := by decide +kernel
theorem dX1_drift_83 : decode cX1_drift 83 = .ok (.iconst 2, 1) := by decide +kernel
theorem dX1_drift_84 : decode cX1_drift 84 = .ok (.invokevirtual 126, 3) := by decide +kernel
theorem dX1_drift_87 : decode cX1_drift 87 = .ok (.goto 33, 3) := by decide +kernel
theorem dX1_drift_90 : decode cX1_drift 90 = .ok (.aload_n 0, 1) := by decide +kernel
theorem dX1_drift_91 : decode cX1_drift 91 = .ok (.iload_n 1, 1) := by decide +kernel
theorem dX1_drift_92 : decode cX1_drift 92 = .ok (.aload_n 2, 1) := by decide +kernel
theorem dX1_drift_93 : decode cX1_drift 93 = .ok (.getfield 129, 3) := by decide +kernel
theorem dX1_drift_96 : decode cX1_drift 96 = .ok (.iload 6, 2) := by decide +kernel
theorem dX1_drift_98 : decode cX1_drift 98 = .ok (.invokevirtual 80, 3) := by decide +kernel
theorem dX1_drift_101 : decode cX1_drift 101 = .ok (.invokevirtual 132, 3) := by decide +kernel
theorem dX1_drift_104 : decode cX1_drift 104 = .ok (.aload_n 2, 1) := by decide +kernel
theorem dX1_drift_105 : decode cX1_drift 105 = .ok (.iload_n 3, 1) := by decide +kernel
theorem dX1_drift_106 : decode cX1_drift 106 = .ok (.iload 6, 2) := by decide +kernel
theorem dX1_drift_108 : decode cX1_drift 108 = .ok (.invokevirtual 135, 3) := by decide +kernel
theorem dX1_drift_111 : decode cX1_drift 111 = .ok (.ifCond .eq 9, 3) := by decide +kernel
theorem dX1_drift_114 : decode cX1_drift 114 = .ok (.aload_n 0, 1) := by decide +kernel
theorem dX1_drift_115 : decode cX1_drift 115 = .ok (.iload_n 1, 1) := by decide +kernel
theorem dX1_drift_116 : decode cX1_drift 116 = .ok (.iconst 1, 1) := by decide +kernel
theorem dX1_drift_117 : decode cX1_drift 117 = .ok (.invokevirtual 126, 3) := by decide +kernel
theorem dX1_drift_120 : decode cX1_drift 120 = .ok (.iinc 5 1, 3) := by decide +kernel
theorem dX1_drift_123 : decode cX1_drift 123 = .ok (.goto (-101), 3) := by decide +kernel
theorem dX1_drift_126 : decode cX1_drift 126 = .ok (.return_, 1) := by decide +kernel
set_option maxRecDepth 20000 in
theorem ggX1_catchesAhead_X2_get : GoodIn wsX1_catchesAhead wsX2_get := goodIn_r _ [9, 10, 28] (by decide +kernel) (by decide +kernel)
set_option maxRecDepth 20000 in
theorem gX1_catchesAhead_X2_get : GoodIn wsX1_catchesAhead (wsV RX1 80 RX2 yX2_get wsX2_get) := goodIn_app (goodIn_of _ (by decide +kernel)) ggX1_catchesAhead_X2_get
set_option maxRecDepth 20000 in
theorem ggX1_catchesAhead_X1_cell : GoodIn wsX1_catchesAhead wsX1_cell := goodIn_r _ [14] (by decide +kernel) (by decide +kernel)
set_option maxRecDepth 20000 in
theorem gX1_catchesAhead_X1_cell : GoodIn wsX1_catchesAhead (va_wsS RX1 92 yX1_cell wsX1_cell) := goodIn_app (goodIn_of _ (by decide +kernel)) ggX1_catchesAhead_X1_cell
theorem dX1_catchesAhead_0 : decode cX1_catchesAhead 0 = .ok (.aload_n 0, 1) := by decide +kernel
theorem dX1_catchesAhead_1 : decode cX1_catchesAhead 1 = .ok (.getfield 26, 3) := by decide +kernel
theorem dX1_catchesAhead_4 : decode cX1_catchesAhead 4 = .ok (.iload_n 1, 1) := by decide +kernel
theorem dX1_catchesAhead_5 : decode cX1_catchesAhead 5 = .ok (.invokevirtual 80, 3) := by decide +kernel
theorem dX1_catchesAhead_8 : decode cX1_catchesAhead 8 = .ok (.iconst 1, 1) := by decide +kernel
theorem dX1_catchesAhead_9 : decode cX1_catchesAhead 9 = .ok (.iadd, 1) := by decide +kernel
theorem dX1_catchesAhead_10 : decode cX1_catchesAhead 10 = .ok (.istore_n 2, 1) := by decide +kernel
theorem dX1_catchesAhead_11 : decode cX1_catchesAhead 11 = .ok (.iconst 0, 1) := by decide +kernel
theorem dX1_catchesAhead_12 : decode cX1_catchesAhead 12 = .ok (.istore_n 3, 1) := by decide +kernel
theorem dX1_catchesAhead_13 : decode cX1_catchesAhead 13 = .ok (.iload_n 3, 1) := by decide +kernel
theorem dX1_catchesAhead_14 : decode cX1_catchesAhead 14 = .ok (.iconst 3, 1) := by decide +kernel
theorem dX1_catchesAhead_15 : decode cX1_catchesAhead 15 = .ok (.if_icmp .ge 46, 3) := by decide +kernel
theorem dX1_catchesAhead_18 : decode cX1_catchesAhead 18 = .ok (.iload_n 3, 1) := by decide +kernel
theorem dX1_catchesAhead_19 : decode cX1_catchesAhead 19 = .ok (.aload_n 0, 1) := by decide +kernel
theorem dX1_catchesAhead_20 : decode cX1_catchesAhead 20 = .ok (.getfield 16, 3) := by decide +kernel
theorem dX1_catchesAhead_23 : decode cX1_catchesAhead 23 = .ok (.iload_n 1, 1) := by decide +kernel
theorem dX1_catchesAhead_24 : decode cX1_catchesAhead 24 = .ok (.invokevirtual 80, 3) := by decide +kernel
theorem dX1_catchesAhead_27 : decode cX1_catchesAhead 27 = .ok (.if_icmp .eq 28, 3) := by decide +kernel
theorem dX1_catchesAhead_30 : decode cX1_catchesAhead 30 = .ok (.aload_n 0, 1) := by decide +kernel
theorem dX1_catchesAhead_31 : decode cX1_catchesAhead 31 = .ok (.getfield 44, 3) := by decide +kernel
theorem dX1_catchesAhead_34 : decode cX1_catchesAhead 34 = .ok (.aload_n 0, 1) := by decide +kernel
theorem dX1_catchesAhead_35 : decode cX1_catchesAhead 35 = .ok (.getfield 23, 3) := by decide +kernel
theorem dX1_catchesAhead_38 : decode cX1_catchesAhead 38 = .ok (.iload_n 1, 1) := by decide +kernel
theorem dX1_catchesAhead_39 : decode cX1_catchesAhead 39 = .ok (.invokevirtual 80, 3) := by decide +kernel
theorem dX1_catchesAhead_42 : decode cX1_catchesAhead 42 = .ok (.iload_n 2, 1) := by decide +kernel
theorem dX1_catchesAhead_43 : decode cX1_catchesAhead 43 = .ok (.iload_n 3, 1) := by decide +kernel
theorem dX1_catchesAhead_44 : decode cX1_catchesAhead 44 = .ok (.invokestatic 92, 3) := by decide +kernel
theorem dX1_catchesAhead_47 : decode cX1_catchesAhead 47 = .ok (.invokevirtual 80, 3) := by decide +kernel
theorem dX1_catchesAhead_50 : decode cX1_catchesAhead 50 = .ok (.ifCond .le 5, 3) := by decide +kernel
theorem dX1_catchesAhead_53 : decode cX1_catchesAhead 53 = .ok (.iconst 1, 1) := by decide +kernel
theorem dX1_catchesAhead_54 : decode cX1_catchesAhead 54 = .ok (.ireturn, 1) := by decide +kernel
theorem dX1_catchesAhead_55 : decode cX1_catchesAhead 55 = .ok (.iinc 3 1, 3) := by decide +kernel
theorem dX1_catchesAhead_58 : decode cX1_catchesAhead 58 = .ok (.goto (-45), 3) := by decide +kernel
theorem dX1_catchesAhead_61 : decode cX1_catchesAhead 61 = .ok (.iconst 0, 1) := by decide +kernel
theorem dX1_catchesAhead_62 : decode cX1_catchesAhead 62 = .ok (.ireturn, 1) := by decide +kernel
set_option maxRecDepth 20000 in
theorem ggX1_meetWeir_X2_get : GoodIn wsX1_meetWeir wsX2_get := goodIn_r _ [10, 11, 41] (by decide +kernel) (by decide +kernel)
set_option maxRecDepth 20000 in
theorem gX1_meetWeir_X2_get : GoodIn wsX1_meetWeir (wsV RX1 80 RX2 yX2_get wsX2_get) := goodIn_app (goodIn_of _ (by decide +kernel)) ggX1_meetWeir_X2_get
set_option maxRecDepth 20000 in
theorem ggX1_meetWeir_X1_cell : GoodIn wsX1_meetWeir wsX1_cell := goodIn_r _ [15] (by decide +kernel) (by decide +kernel)
set_option maxRecDepth 20000 in
theorem gX1_meetWeir_X1_cell : GoodIn wsX1_meetWeir (va_wsS RX1 92 yX1_cell wsX1_cell) := goodIn_app (goodIn_of _ (by decide +kernel)) ggX1_meetWeir_X1_cell
set_option maxRecDepth 20000 in
theorem ggX1_meetWeir_X2_put : GoodIn wsX1_meetWeir wsX2_put := goodIn_r _ [19, 11, 41] (by decide +kernel) (by decide +kernel)
set_option maxRecDepth 20000 in
theorem gX1_meetWeir_X2_put : GoodIn wsX1_meetWeir (wsV RX1 61 RX2 yX2_put wsX2_put) := goodIn_app (goodIn_of _ (by decide +kernel)) ggX1_meetWeir_X2_put
set_option maxRecDepth 20000 in
theorem ggX1_meetWeir_X1_isSoaked : GoodIn wsX1_meetWeir wsX1_isSoaked := goodIn_r _ [23, 4, 24, 6, 7, 8, 9, 10, 11, 25, 26, 27, 28, 29, 30, 31, 32, 33, 34, 35, 36, 37, 38, 39, 40, 41] (by decide +kernel) (by decide +kernel)
set_option maxRecDepth 20000 in
theorem gX1_meetWeir_X1_isSoaked : GoodIn wsX1_meetWeir (wsV RX1 89 RX1 yX1_isSoaked wsX1_isSoaked) := goodIn_app (goodIn_of _ (by decide +kernel)) ggX1_meetWeir_X1_isSoaked
theorem dX1_meetWeir_0 : decode cX1_meetWeir 0 = .ok (.iload_n 2, 1) := by decide +kernel
theorem dX1_meetWeir_1 : decode cX1_meetWeir 1 = .ok (.ifCond .gt 4, 3) := by decide +kernel
theorem dX1_meetWeir_4 : decode cX1_meetWeir 4 = .ok (.return_, 1) := by decide +kernel
theorem dX1_meetWeir_5 : decode cX1_meetWeir 5 = .ok (.iload_n 2, 1) := by decide +kernel
theorem dX1_meetWeir_6 : decode cX1_meetWeir 6 = .ok (.istore_n 3, 1) := by decide +kernel
theorem dX1_meetWeir_7 : decode cX1_meetWeir 7 = .ok (.iconst 1, 1) := by decide +kernel
theorem dX1_meetWeir_8 : decode cX1_meetWeir 8 = .ok (.istore 4, 2) := by decide +kernel
theorem dX1_meetWeir_10 : decode cX1_meetWeir 10 = .ok (.iload 4, 2) := by decide +kernel
theorem dX1_meetWeir_12 : decode cX1_meetWeir 12 = .ok (.iconst 3, 1) := by decide +kernel
theorem dX1_meetWeir_13 : decode cX1_meetWeir 13 = .ok (.if_icmp .gt 58, 3) := by decide +kernel
theorem dX1_meetWeir_16 : decode cX1_meetWeir 16 = .ok (.iconst 0, 1) := by decide +kernel
theorem dX1_meetWeir_17 : decode cX1_meetWeir 17 = .ok (.istore 5, 2) := by decide +kernel
theorem dX1_meetWeir_19 : decode cX1_meetWeir 19 = .ok (.iload 5, 2) := by decide +kernel
theorem dX1_meetWeir_21 : decode cX1_meetWeir 21 = .ok (.iconst 3, 1) := by decide +kernel
theorem dX1_meetWeir_22 : decode cX1_meetWeir 22 = .ok (.if_icmp .ge 43, 3) := by decide +kernel
theorem dX1_meetWeir_25 : decode cX1_meetWeir 25 = .ok (.iload_n 3, 1) := by decide +kernel
theorem dX1_meetWeir_26 : decode cX1_meetWeir 26 = .ok (.aload_n 0, 1) := by decide +kernel
theorem dX1_meetWeir_27 : decode cX1_meetWeir 27 = .ok (.getfield 44, 3) := by decide +kernel
theorem dX1_meetWeir_30 : decode cX1_meetWeir 30 = .ok (.aload_n 0, 1) := by decide +kernel
theorem dX1_meetWeir_31 : decode cX1_meetWeir 31 = .ok (.getfield 23, 3) := by decide +kernel
theorem dX1_meetWeir_34 : decode cX1_meetWeir 34 = .ok (.iload_n 1, 1) := by decide +kernel
theorem dX1_meetWeir_35 : decode cX1_meetWeir 35 = .ok (.invokevirtual 80, 3) := by decide +kernel
theorem dX1_meetWeir_38 : decode cX1_meetWeir 38 = .ok (.aload_n 0, 1) := by decide +kernel
theorem dX1_meetWeir_39 : decode cX1_meetWeir 39 = .ok (.getfield 26, 3) := by decide +kernel
theorem dX1_meetWeir_42 : decode cX1_meetWeir 42 = .ok (.iload_n 1, 1) := by decide +kernel
theorem dX1_meetWeir_43 : decode cX1_meetWeir 43 = .ok (.invokevirtual 80, 3) := by decide +kernel
theorem dX1_meetWeir_46 : decode cX1_meetWeir 46 = .ok (.iload 4, 2) := by decide +kernel
theorem dX1_meetWeir_48 : decode cX1_meetWeir 48 = .ok (.iadd, 1) := by decide +kernel
theorem dX1_meetWeir_49 : decode cX1_meetWeir 49 = .ok (.iload 5, 2) := by decide +kernel
theorem dX1_meetWeir_51 : decode cX1_meetWeir 51 = .ok (.invokestatic 92, 3) := by decide +kernel
theorem dX1_meetWeir_54 : decode cX1_meetWeir 54 = .ok (.invokevirtual 80, 3) := by decide +kernel
theorem dX1_meetWeir_57 : decode cX1_meetWeir 57 = .ok (.isub, 1) := by decide +kernel
theorem dX1_meetWeir_58 : decode cX1_meetWeir 58 = .ok (.istore_n 3, 1) := by decide +kernel
theorem dX1_meetWeir_59 : decode cX1_meetWeir 59 = .ok (.iinc 5 1, 3) := by decide +kernel
theorem dX1_meetWeir_62 : decode cX1_meetWeir 62 = .ok (.goto (-43), 3) := by decide +kernel
theorem dX1_meetWeir_65 : decode cX1_meetWeir 65 = .ok (.iinc 4 1, 3) := by decide +kernel
theorem dX1_meetWeir_68 : decode cX1_meetWeir 68 = .ok (.goto (-58), 3) := by decide +kernel
theorem dX1_meetWeir_71 : decode cX1_meetWeir 71 = .ok (.aload_n 0, 1) := by decide +kernel
theorem dX1_meetWeir_72 : decode cX1_meetWeir 72 = .ok (.getfield 32, 3) := by decide +kernel
theorem dX1_meetWeir_75 : decode cX1_meetWeir 75 = .ok (.iload_n 1, 1) := by decide +kernel
theorem dX1_meetWeir_76 : decode cX1_meetWeir 76 = .ok (.aload_n 0, 1) := by decide +kernel
theorem dX1_meetWeir_77 : decode cX1_meetWeir 77 = .ok (.getfield 32, 3) := by decide +kernel
theorem dX1_meetWeir_80 : decode cX1_meetWeir 80 = .ok (.iload_n 1, 1) := by decide +kernel
theorem dX1_meetWeir_81 : decode cX1_meetWeir 81 = .ok (.invokevirtual 80, 3) := by decide +kernel
theorem dX1_meetWeir_84 : decode cX1_meetWeir 84 = .ok (.iload_n 3, 1) := by decide +kernel
theorem dX1_meetWeir_85 : decode cX1_meetWeir 85 = .ok (.iconst 1, 1) := by decide +kernel
theorem dX1_meetWeir_86 : decode cX1_meetWeir 86 = .ok (.if_icmp .le 7, 3) := by decide +kernel
theorem dX1_meetWeir_89 : decode cX1_meetWeir 89 = .ok (.iload_n 3, 1) := by decide +kernel
theorem dX1_meetWeir_90 : decode cX1_meetWeir 90 = .ok (.goto 4, 3) := by decide +kernel
theorem dX1_meetWeir_93 : decode cX1_meetWeir 93 = .ok (.iconst 1, 1) := by decide +kernel
theorem dX1_meetWeir_94 : decode cX1_meetWeir 94 = .ok (.iadd, 1) := by decide +kernel
theorem dX1_meetWeir_95 : decode cX1_meetWeir 95 = .ok (.invokevirtual 61, 3) := by decide +kernel
theorem dX1_meetWeir_98 : decode cX1_meetWeir 98 = .ok (.aload_n 0, 1) := by decide +kernel
theorem dX1_meetWeir_99 : decode cX1_meetWeir 99 = .ok (.iload_n 1, 1) := by decide +kernel
theorem dX1_meetWeir_100 : decode cX1_meetWeir 100 = .ok (.invokevirtual 89, 3) := by decide +kernel
theorem dX1_meetWeir_103 : decode cX1_meetWeir 103 = .ok (.ifCond .eq 12, 3) := by decide +kernel
theorem dX1_meetWeir_106 : decode cX1_meetWeir 106 = .ok (.aload_n 0, 1) := by decide +kernel
theorem dX1_meetWeir_107 : decode cX1_meetWeir 107 = .ok (.getfield 35, 3) := by decide +kernel
theorem dX1_meetWeir_110 : decode cX1_meetWeir 110 = .ok (.iload_n 1, 1) := by decide +kernel
theorem dX1_meetWeir_111 : decode cX1_meetWeir 111 = .ok (.iconst 0, 1) := by decide +kernel
theorem dX1_meetWeir_112 : decode cX1_meetWeir 112 = .ok (.invokevirtual 61, 3) := by decide +kernel
theorem dX1_meetWeir_115 : decode cX1_meetWeir 115 = .ok (.return_, 1) := by decide +kernel
set_option maxRecDepth 20000 in
theorem ggX1_leave_X1_crowdBy : GoodIn wsX1_leave wsX1_crowdBy := goodIn_r _ [8, 9, 10, 11, 12, 13, 14, 15, 16, 17, 18, 19, 20, 7, 21, 22, 23, 24, 25, 26, 27, 28, 29, 30, 31, 32, 33, 34, 35, 36, 37, 38, 39] (by decide +kernel) (by decide +kernel)
set_option maxRecDepth 20000 in
theorem gX1_leave_X1_crowdBy : GoodIn wsX1_leave (wsV RX1 69 RX1 yX1_crowdBy wsX1_crowdBy) := goodIn_app (goodIn_of _ (by decide +kernel)) ggX1_leave_X1_crowdBy
set_option maxRecDepth 20000 in
theorem ggX1_leave_X2_put : GoodIn wsX1_leave wsX2_put := goodIn_r _ [25, 18, 39] (by decide +kernel) (by decide +kernel)
set_option maxRecDepth 20000 in
theorem gX1_leave_X2_put : GoodIn wsX1_leave (wsV RX1 61 RX2 yX2_put wsX2_put) := goodIn_app (goodIn_of _ (by decide +kernel)) ggX1_leave_X2_put
theorem dX1_leave_0 : decode cX1_leave 0 = .ok (.aload_n 0, 1) := by decide +kernel
theorem dX1_leave_1 : decode cX1_leave 1 = .ok (.iload_n 1, 1) := by decide +kernel
theorem dX1_leave_2 : decode cX1_leave 2 = .ok (.iconst (-1), 1) := by decide +kernel
theorem dX1_leave_3 : decode cX1_leave 3 = .ok (.invokevirtual 69, 3) := by decide +kernel
theorem dX1_leave_6 : decode cX1_leave 6 = .ok (.aload_n 0, 1) := by decide +kernel
theorem dX1_leave_7 : decode cX1_leave 7 = .ok (.getfield 38, 3) := by decide +kernel
theorem dX1_leave_10 : decode cX1_leave 10 = .ok (.iload_n 1, 1) := by decide +kernel
theorem dX1_leave_11 : decode cX1_leave 11 = .ok (.iload_n 2, 1) := by decide +kernel
theorem dX1_leave_12 : decode cX1_leave 12 = .ok (.invokevirtual 61, 3) := by decide +kernel
theorem dX1_leave_15 : decode cX1_leave 15 = .ok (.aload_n 0, 1) := by decide +kernel
theorem dX1_leave_16 : decode cX1_leave 16 = .ok (.getfield 41, 3) := by decide +kernel
theorem dX1_leave_19 : decode cX1_leave 19 = .ok (.iload_n 1, 1) := by decide +kernel
theorem dX1_leave_20 : decode cX1_leave 20 = .ok (.aload_n 0, 1) := by decide +kernel
theorem dX1_leave_21 : decode cX1_leave 21 = .ok (.getfield 58, 3) := by decide +kernel
theorem dX1_leave_24 : decode cX1_leave 24 = .ok (.invokevirtual 61, 3) := by decide +kernel
theorem dX1_leave_27 : decode cX1_leave 27 = .ok (.return_, 1) := by decide +kernel
set_option maxRecDepth 20000 in
theorem ggX1_useWax_X1_isAfloat : GoodIn wsX1_useWax wsX1_isAfloat := goodIn_r _ [8, 9, 10, 11, 12, 7, 13, 1, 14, 15, 16, 17, 18, 19, 20, 21, 22, 31, 32, 33, 34, 35, 36, 37, 38, 39, 40, 41, 42, 43, 44] (by decide +kernel) (by decide +kernel)
set_option maxRecDepth 20000 in
theorem gX1_useWax_X1_isAfloat : GoodIn wsX1_useWax (wsV RX1 111 RX1 yX1_isAfloat wsX1_isAfloat) := goodIn_app (goodIn_of _ (by decide +kernel)) ggX1_useWax_X1_isAfloat
set_option maxRecDepth 20000 in
theorem ggX1_useWax_X1_isBurning : GoodIn wsX1_useWax wsX1_isBurning := goodIn_r _ [26, 3, 10, 11, 12, 7, 13, 1, 14, 15, 16, 17, 18, 19, 20, 21, 22, 31, 32, 33, 34, 35, 36, 37, 38, 39, 40, 41, 42, 43, 44] (by decide +kernel) (by decide +kernel)
set_option maxRecDepth 20000 in
theorem gX1_useWax_X1_isBurning : GoodIn wsX1_useWax (wsV RX1 86 RX1 yX1_isBurning wsX1_isBurning) := goodIn_app (goodIn_of _ (by decide +kernel)) ggX1_useWax_X1_isBurning
set_option maxRecDepth 20000 in
theorem ggX1_useWax_X2_get : GoodIn wsX1_useWax wsX2_get := goodIn_r _ [21, 22, 44] (by decide +kernel) (by decide +kernel)
set_option maxRecDepth 20000 in
theorem gX1_useWax_X2_get : GoodIn wsX1_useWax (wsV RX1 80 RX2 yX2_get wsX2_get) := goodIn_app (goodIn_of _ (by decide +kernel)) ggX1_useWax_X2_get
set_option maxRecDepth 20000 in
theorem ggX1_useWax_X2_put : GoodIn wsX1_useWax wsX2_put := goodIn_r _ [30, 22, 44] (by decide +kernel) (by decide +kernel)
set_option maxRecDepth 20000 in
theorem gX1_useWax_X2_put : GoodIn wsX1_useWax (wsV RX1 61 RX2 yX2_put wsX2_put) := goodIn_app (goodIn_of _ (by decide +kernel)) ggX1_useWax_X2_put
theorem dX1_useWax_0 : decode cX1_useWax 0 = .ok (.iconst 0, 1) := by decide +kernel
theorem dX1_useWax_1 : decode cX1_useWax 1 = .ok (.istore_n 1, 1) := by decide +kernel
theorem dX1_useWax_2 : decode cX1_useWax 2 = .ok (.iload_n 1, 1) := by decide +kernel
theorem dX1_useWax_3 : decode cX1_useWax 3 = .ok (.aload_n 0, 1) := by decide +kernel
theorem dX1_useWax_4 : decode cX1_useWax 4 = .ok (.getfield 54, 3) := by decide +kernel
theorem dX1_useWax_7 : decode cX1_useWax 7 = .ok (.if_icmp .ge 58, 3) := by decide +kernel
theorem dX1_useWax_10 : decode cX1_useWax 10 = .ok (.aload_n 0, 1) := by decide +kernel
theorem dX1_useWax_11 : decode cX1_useWax 11 = .ok (.iload_n 1, 1) := by decide +kernel
theorem dX1_useWax_12 : decode cX1_useWax 12 = .ok (.invokevirtual 111, 3) := by decide +kernel
theorem dX1_useWax_15 : decode cX1_useWax 15 = .ok (.ifCond .eq 44, 3) := by decide +kernel
theorem dX1_useWax_18 : decode cX1_useWax 18 = .ok (.aload_n 0, 1) := by decide +kernel
theorem dX1_useWax_19 : decode cX1_useWax 19 = .ok (.iload_n 1, 1) := by decide +kernel
theorem dX1_useWax_20 : decode cX1_useWax 20 = .ok (.invokevirtual 86, 3) := by decide +kernel
theorem dX1_useWax_23 : decode cX1_useWax 23 = .ok (.ifCond .eq 36, 3) := by decide +kernel
theorem dX1_useWax_26 : decode cX1_useWax 26 = .ok (.aload_n 0, 1) := by decide +kernel
theorem dX1_useWax_27 : decode cX1_useWax 27 = .ok (.getfield 29, 3) := by decide +kernel
theorem dX1_useWax_30 : decode cX1_useWax 30 = .ok (.iload_n 1, 1) := by decide +kernel
theorem dX1_useWax_31 : decode cX1_useWax 31 = .ok (.invokevirtual 80, 3) := by decide +kernel
theorem dX1_useWax_34 : decode cX1_useWax 34 = .ok (.iconst 1, 1) := by decide +kernel
theorem dX1_useWax_35 : decode cX1_useWax 35 = .ok (.isub, 1) := by decide +kernel
theorem dX1_useWax_36 : decode cX1_useWax 36 = .ok (.istore_n 2, 1) := by decide +kernel
theorem dX1_useWax_37 : decode cX1_useWax 37 = .ok (.aload_n 0, 1) := by decide +kernel
theorem dX1_useWax_38 : decode cX1_useWax 38 = .ok (.getfield 29, 3) := by decide +kernel
theorem dX1_useWax_41 : decode cX1_useWax 41 = .ok (.iload_n 1, 1) := by decide +kernel
theorem dX1_useWax_42 : decode cX1_useWax 42 = .ok (.iload_n 2, 1) := by decide +kernel
theorem dX1_useWax_43 : decode cX1_useWax 43 = .ok (.invokevirtual 61, 3) := by decide +kernel
theorem dX1_useWax_46 : decode cX1_useWax 46 = .ok (.iload_n 2, 1) := by decide +kernel
theorem dX1_useWax_47 : decode cX1_useWax 47 = .ok (.ifCond .gt 12, 3) := by decide +kernel
theorem dX1_useWax_50 : decode cX1_useWax 50 = .ok (.aload_n 0, 1) := by decide +kernel
theorem dX1_useWax_51 : decode cX1_useWax 51 = .ok (.getfield 35, 3) := by decide +kernel
theorem dX1_useWax_54 : decode cX1_useWax 54 = .ok (.iload_n 1, 1) := by decide +kernel
theorem dX1_useWax_55 : decode cX1_useWax 55 = .ok (.iconst 0, 1) := by decide +kernel
theorem dX1_useWax_56 : decode cX1_useWax 56 = .ok (.invokevirtual 61, 3) := by decide +kernel
theorem dX1_useWax_59 : decode cX1_useWax 59 = .ok (.iinc 1 1, 3) := by decide +kernel
theorem dX1_useWax_62 : decode cX1_useWax 62 = .ok (.goto (-60), 3) := by decide +kernel
theorem dX1_useWax_65 : decode cX1_useWax 65 = .ok (.return_, 1) := by decide +kernel
set_option maxRecDepth 20000 in
theorem ggX1_crowdBy_X2_get : GoodIn wsX1_crowdBy wsX2_get := goodIn_r _ [9, 10, 32] (by decide +kernel) (by decide +kernel)
set_option maxRecDepth 20000 in
theorem gX1_crowdBy_X2_get : GoodIn wsX1_crowdBy (wsV RX1 80 RX2 yX2_get wsX2_get) := goodIn_app (goodIn_of _ (by decide +kernel)) ggX1_crowdBy_X2_get
set_option maxRecDepth 20000 in
theorem ggX1_crowdBy_X1_cell : GoodIn wsX1_crowdBy wsX1_cell := goodIn_r _ [14] (by decide +kernel) (by decide +kernel)
set_option maxRecDepth 20000 in
theorem gX1_crowdBy_X1_cell : GoodIn wsX1_crowdBy (va_wsS RX1 92 yX1_cell wsX1_cell) := goodIn_app (goodIn_of _ (by decide +kernel)) ggX1_crowdBy_X1_cell
set_option maxRecDepth 20000 in
theorem ggX1_crowdBy_X2_put : GoodIn wsX1_crowdBy wsX2_put := goodIn_r _ [18, 10, 32] (by decide +kernel) (by decide +kernel)
set_option maxRecDepth 20000 in
theorem gX1_crowdBy_X2_put : GoodIn wsX1_crowdBy (wsV RX1 61 RX2 yX2_put wsX2_put) := goodIn_app (goodIn_of _ (by decide +kernel)) ggX1_crowdBy_X2_put
theorem dX1_crowdBy_0 : decode cX1_crowdBy 0 = .ok (.aload_n 0, 1) := by decide +kernel
theorem dX1_crowdBy_1 : decode cX1_crowdBy 1 = .ok (.getfield 23, 3) := by decide +kernel
theorem dX1_crowdBy_4 : decode cX1_crowdBy 4 = .ok (.iload_n 1, 1) := by decide +kernel
theorem dX1_crowdBy_5 : decode cX1_crowdBy 5 = .ok (.invokevirtual 80, 3) := by decide +kernel
theorem dX1_crowdBy_8 : decode cX1_crowdBy 8 = .ok (.aload_n 0, 1) := by decide +kernel
theorem dX1_crowdBy_9 : decode cX1_crowdBy 9 = .ok (.getfield 26, 3) := by decide +kernel
theorem dX1_crowdBy_12 : decode cX1_crowdBy 12 = .ok (.iload_n 1, 1) := by decide +kernel
theorem dX1_crowdBy_13 : decode cX1_crowdBy 13 = .ok (.invokevirtual 80, 3) := by decide +kernel
theorem dX1_crowdBy_16 : decode cX1_crowdBy 16 = .ok (.aload_n 0, 1) := by decide +kernel
theorem dX1_crowdBy_17 : decode cX1_crowdBy 17 = .ok (.getfield 16, 3) := by decide +kernel
theorem dX1_crowdBy_20 : decode cX1_crowdBy 20 = .ok (.iload_n 1, 1) := by decide +kernel
theorem dX1_crowdBy_21 : decode cX1_crowdBy 21 = .ok (.invokevirtual 80, 3) := by decide +kernel
theorem dX1_crowdBy_24 : decode cX1_crowdBy 24 = .ok (.invokestatic 92, 3) := by decide +kernel
theorem dX1_crowdBy_27 : decode cX1_crowdBy 27 = .ok (.istore_n 3, 1) := by decide +kernel
theorem dX1_crowdBy_28 : decode cX1_crowdBy 28 = .ok (.aload_n 0, 1) := by decide +kernel
theorem dX1_crowdBy_29 : decode cX1_crowdBy 29 = .ok (.getfield 44, 3) := by decide +kernel
theorem dX1_crowdBy_32 : decode cX1_crowdBy 32 = .ok (.iload_n 3, 1) := by decide +kernel
theorem dX1_crowdBy_33 : decode cX1_crowdBy 33 = .ok (.aload_n 0, 1) := by decide +kernel
theorem dX1_crowdBy_34 : decode cX1_crowdBy 34 = .ok (.getfield 44, 3) := by decide +kernel
theorem dX1_crowdBy_37 : decode cX1_crowdBy 37 = .ok (.iload_n 3, 1) := by decide +kernel
theorem dX1_crowdBy_38 : decode cX1_crowdBy 38 = .ok (.invokevirtual 80, 3) := by decide +kernel
theorem dX1_crowdBy_41 : decode cX1_crowdBy 41 = .ok (.iload_n 2, 1) := by decide +kernel
theorem dX1_crowdBy_42 : decode cX1_crowdBy 42 = .ok (.iadd, 1) := by decide +kernel
theorem dX1_crowdBy_43 : decode cX1_crowdBy 43 = .ok (.invokevirtual 61, 3) := by decide +kernel
theorem dX1_crowdBy_46 : decode cX1_crowdBy 46 = .ok (.return_, 1) := by decide +kernel
theorem dX1_cell_0 : decode cX1_cell 0 = .ok (.iload_n 1, 1) := by decide +kernel
theorem dX1_cell_1 : decode cX1_cell 1 = .ok (.bipush 60, 2) := by decide +kernel
theorem dX1_cell_3 : decode cX1_cell 3 = .ok (.if_icmp .ge 16, 3) := by decide +kernel
theorem dX1_cell_6 : decode cX1_cell 6 = .ok (.iload_n 0, 1) := by decide +kernel
theorem dX1_cell_7 : decode cX1_cell 7 = .ok (.bipush 60, 2) := by decide +kernel
theorem dX1_cell_9 : decode cX1_cell 9 = .ok (.imul, 1) := by decide +kernel
theorem dX1_cell_10 : decode cX1_cell 10 = .ok (.iload_n 1, 1) := by decide +kernel
theorem dX1_cell_11 : decode cX1_cell 11 = .ok (.iadd, 1) := by decide +kernel
theorem dX1_cell_12 : decode cX1_cell 12 = .ok (.iconst 3, 1) := by decide +kernel
theorem dX1_cell_13 : decode cX1_cell 13 = .ok (.imul, 1) := by decide +kernel
theorem dX1_cell_14 : decode cX1_cell 14 = .ok (.iload_n 2, 1) := by decide +kernel
theorem dX1_cell_15 : decode cX1_cell 15 = .ok (.iadd, 1) := by decide +kernel
theorem dX1_cell_16 : decode cX1_cell 16 = .ok (.goto 4, 3) := by decide +kernel
theorem dX1_cell_19 : decode cX1_cell 19 = .ok (.iconst (-1), 1) := by decide +kernel
theorem dX1_cell_20 : decode cX1_cell 20 = .ok (.ireturn, 1) := by decide +kernel
end
section
/-! our own kit: the environment, calls in place -/
def nestW : List Cond := [.fieldLinkNest "LanternWeirsModel" 39 "LanternWeirsModel$State" "lanterns" "I" "LanternWeirsModel",
  .fieldLinkNest "LanternWeirsModel" 88 "LanternWeirsModel$State" "frame" "[I" "LanternWeirsModel",
  .fieldLinkNest "LanternWeirsModel" 91 "LanternWeirsModel$State" "wish" "[I" "LanternWeirsModel",
  .fieldLinkNest "LanternWeirsModel" 76 "LanternWeirsModel$State" "lane" "[I" "LanternWeirsModel",
  .fieldLinkNest "LanternWeirsModel" 94 "LanternWeirsModel$State" "place" "[I" "LanternWeirsModel",
  .fieldLinkNest "LanternWeirsModel" 85 "LanternWeirsModel$State" "wax" "[I" "LanternWeirsModel",
  .fieldLinkNest "LanternWeirsModel" 97 "LanternWeirsModel$State" "wet" "[I" "LanternWeirsModel",
  .fieldLinkNest "LanternWeirsModel" 79 "LanternWeirsModel$State" "burns" "[I" "LanternWeirsModel",
  .fieldLinkNest "LanternWeirsModel" 73 "LanternWeirsModel$State" "state" "[I" "LanternWeirsModel",
  .fieldLinkNest "LanternWeirsModel" 100 "LanternWeirsModel$State" "ended" "[I" "LanternWeirsModel",
  .fieldLinkNest "LanternWeirsModel$State" 73 "LanternWeirsModel" "current" "[I" "LanternWeirsModel",
  .fieldLinkNest "LanternWeirsModel$State" 114 "LanternWeirsModel" "weirs" "I" "LanternWeirsModel",
  .fieldLinkNest "LanternWeirsModel$State" 88 "LanternWeirsModel" "spray" "[I" "LanternWeirsModel",
  .fieldLinkNest "LanternWeirsModel$State" 117 "LanternWeirsModel" "nets" "I" "LanternWeirsModel",
  .fieldLinkNest "LanternWeirsModel$State" 104 "LanternWeirsModel" "net" "[I" "LanternWeirsModel",
  .fieldLinkNest "LanternWeirsModel$State" 63 "LanternWeirsModel" "WAX" "[I" "LanternWeirsModel",
  .fieldLinkNest "LanternWeirsModel$State" 66 "LanternWeirsModel" "TAKES" "[I" "LanternWeirsModel",
  .methodLinkNest "LanternWeirs" 18 ⟨"LanternWeirs$Fleet", "<init>", "()V"⟩ "LanternWeirs",
  .methodLinkNest "LanternWeirs$Fleet" 72 ⟨"LanternWeirs", "isWithin", "(III)Z"⟩ "LanternWeirs",
  .methodLinkNest "LanternWeirs$Fleet" 65 ⟨"LanternWeirs", "waxOf", "(I)I"⟩ "LanternWeirs",
  .methodLinkNest "LanternWeirs$Fleet" 83 ⟨"LanternWeirs", "sprayTakenBy", "(I)I"⟩ "LanternWeirs",
  .methodLinkNest "LanternWeirsModel" 21 ⟨"LanternWeirsModel$State", "<init>", "(LLanternWeirsModel;)V"⟩ "LanternWeirsModel"]
def isNestW : Cond → Bool
  | .fieldLinkNest _ _ _ _ _ _ => true
  | .methodLinkNest _ _ _ _ => true
  | _ => false
theorem nestW_ok : nestW.all isNestW = true := by decide +kernel
def Nst (U : State) : Prop := ∀ w ∈ nestW, va_Nw w U
theorem Nst.warm {s U : State} (hW : s.WarmedH U.vm) (h : Nst s) : Nst U := by
  intro w hw
  have h1 := List.all_eq_true.mp nestW_ok w hw
  have h2 := h w hw
  cases w <;> first | exact va_Nw.warmF hW h2 | exact va_Nw.warmM hW h2 | (simp [isNestW] at h1)
theorem Nst.same {u U : State} (hvm : u.vm = U.vm) (h : Nst u) : Nst U := by
  intro w hw
  have h1 := List.all_eq_true.mp nestW_ok w hw
  have h2 := h w hw
  cases w <;> first | exact va_Nw.same rfl hvm h2 | (simp [isNestW] at h1)
def EK (D : va_G) (cA : ClassId) (U : State) : Prop := va_K D vwCl [(cA, .int)] U ∧ U.vm.findClass "[I" = some cA ∧ Nst U
theorem EK.warm {D : va_G} {cA : ClassId} {s U : State} (hW : s.WarmedH U.vm) (h : EK D cA s) : EK D cA U := ⟨va_K.moved hW.alike h.1, by rw [hW.alike.findClass]; exact h.2.1, Nst.warm hW h.2.2⟩
theorem EK.blind {D : va_G} {cA : ClassId} {U : State} (h : EK D cA U) (g : JFrame) (mk : MethodId) (a : Array Value) : EK D cA (U.calling g mk a) := ⟨va_K.moved (u := U) (U := U.calling g mk a) (Vm.Alike.refl U.vm) h.1, h.2.1, Nst.same (u := U) rfl h.2.2⟩
def Pr (D : va_G) (cA : ClassId) (av : List Value) (sz : Nat) (wc : va_W) (X : State → Prop) : Array Value → State → Prop := va_Pc av (fun U => U.heap.size = sz ∧ va_P D vwCl wc U.heap ∧ EK D cA U ∧ va_D (fun _ => True) wc ∧ X U)
def Blind (X : State → Prop) : Prop := ∀ (U : State) (g : JFrame) (mk : MethodId) (a : Array Value), X U → X (U.calling g mk a)
def X0 : State → Prop := fun _ => True
theorem X0.blind : Blind X0 := fun _ _ _ _ _ => trivial
theorem X0.at {P : State → Prop} : ∀ U : State, P U → ∀ s : State, s.WarmedH U.vm → X0 U := fun _ _ _ _ => trivial
theorem Pr.blind {D : va_G} {cA : ClassId} {av : List Value} {sz : Nat} {wc : va_W} {X : State → Prop} (hX : Blind X) : FrameBlind (Pr D cA av sz wc X) := fun a U g mk q => by
  obtain ⟨q0, q1, qP, qK, qD, qX⟩ := q
  exact ⟨q0, q1, qP, qK.blind g mk a, qD, hX U g mk a qX⟩
def pst : va_W → List Nat → va_W → va_W
  | ws, i :: is, c :: cs => pst (ws.set i c) is cs
  | ws, _, _ => ws
theorem pst_get : ∀ (ps : List Nat) (ws w1 : va_W), w1.length = ps.length → ∀ (k : Nat) (q : Nat × va_E), (pst ws ps w1)[k]? = some q → (ws[k]? = some q ∧ k ∉ ps) ∨ ∃ j : Nat, ps[j]? = some k ∧ w1[j]? = some q
  | [], ws, [], _, k, q, h => Or.inl ⟨h, List.not_mem_nil⟩
  | i :: is, ws, c :: cs, hl, k, q, h => by
    rcases pst_get is (ws.set i c) cs (Nat.succ.inj hl) k q h with ⟨h1, h2⟩ | ⟨j, h1, h2⟩
    · rw [List.getElem?_set] at h1
      by_cases hk : i = k
      · rw [if_pos hk] at h1
        split at h1
        · exact Or.inr ⟨0, by rw [hk]; rfl, h1⟩
        · cases h1
      · rw [if_neg hk] at h1
        exact Or.inl ⟨h1, fun hm => (List.mem_cons.mp hm).elim (fun e => hk e.symm) h2⟩
    · exact Or.inr ⟨j + 1, h1, h2⟩
theorem pst_map {ws wc : va_W} {ps : List Nat} (hps : ps.map (fun i => ws[i]?) = wc.map some) {j k : Nat} (h : ps[j]? = some k) : ws[k]? = wc[j]? := by
  have h1 : (ps.map (fun i => ws[i]?))[j]? = (wc.map some)[j]? := by rw [hps]
  rw [List.getElem?_map, List.getElem?_map, h] at h1
  cases hc : wc[j]? with
  | none => rw [hc] at h1; cases h1
  | some c => rw [hc] at h1; exact Option.some.inj h1
theorem pst_len {ws wc w1 : va_W} {ps : List Nat} (hps : ps.map (fun i => ws[i]?) = wc.map some) (hsame : w1.map (fun q => q.1) = wc.map (fun q => q.1)) : w1.length = ps.length := by
  have h1 := congrArg List.length hps
  have h2 := congrArg List.length hsame
  simp only [List.length_map] at h1 h2
  omega
theorem pst_addr {ws wc w1 : va_W} {ps : List Nat} (hps : ps.map (fun i => ws[i]?) = wc.map some) (hsame : w1.map (fun q => q.1) = wc.map (fun q => q.1)) (k : Nat) (q : Nat × va_E) (h : (pst ws ps w1)[k]? = some q) : ∃ q', ws[k]? = some q' ∧ q'.1 = q.1 := by
  rcases pst_get ps ws w1 (pst_len hps hsame) k q h with ⟨h1, -⟩ | ⟨j, h1, h2⟩
  · exact ⟨q, h1, rfl⟩
  · have h3 : (w1.map (fun q => q.1))[j]? = (wc.map (fun q => q.1))[j]? := by rw [hsame]
    rw [List.getElem?_map, List.getElem?_map, h2] at h3
    cases hc : wc[j]? with
    | none => rw [hc] at h3; cases h3
    | some c => rw [hc] at h3; exact ⟨c, (pst_map hps h1).trans hc, (Option.some.inj h3).symm⟩
theorem pst_join {A0 : Nat → Prop} {D : va_G} {cl : List vw_C} {ws wc w1 : va_W} {H H1 : Heap} (hP : va_P D cl ws H) (hD : va_D A0 ws) (ps : List Nat) (hps : ps.map (fun i => ws[i]?) = wc.map some) (hsame : w1.map (fun q => q.1) = wc.map (fun q => q.1))
    (hk : ∀ q : Nat, q < H.size → ¬ va_A wc H.size q → H1[q]? = H[q]?) (hP1 : va_P D cl w1 H1) : va_P D cl (pst ws ps w1) H1 ∧ va_D A0 (pst ws ps w1) := by
  refine ⟨fun k q h => ?_, fun i j p q hp hq e => ?_, fun k q h => ?_⟩
  · rcases pst_get ps ws w1 (pst_len hps hsame) k q h with ⟨h1, h2⟩ | ⟨j, -, h2⟩
    · have hl := (hP k q h1).lt
      refine (hP k q h1).kept (hk q.1 hl (fun hA => ?_))
      rcases hA with ⟨k2, e, hc⟩ | hA
      · have hj : k2 < ps.length := by
          have h3 := congrArg List.length hps
          simp only [List.length_map] at h3
          rw [h3]
          exact (List.getElem?_eq_some_iff.mp hc).1
        have h4 : ps[k2]? = some ps[k2] := List.getElem?_eq_getElem hj
        have h5 := (pst_map hps h4).trans hc
        have h6 := hD.1 k ps[k2] q (q.1, e) h1 h5 rfl
        exact h2 (h6 ▸ List.getElem_mem hj)
      · omega
    · exact hP1 j q h2
  · obtain ⟨p', a1, a2⟩ := pst_addr hps hsame i p hp
    obtain ⟨q', b1, b2⟩ := pst_addr hps hsame j q hq
    exact hD.1 i j p' q' a1 b1 (by rw [a2, b2]; exact e)
  · obtain ⟨q', b1, b2⟩ := pst_addr hps hsame k q h
    rw [← b2]
    exact hD.2 k q' b1
theorem pst_mid : ∀ (ws w1 pre suf : va_W), ws.length = w1.length → pst (pre ++ (ws ++ suf)) (List.range' pre.length ws.length) w1 = pre ++ (w1 ++ suf)
  | [], [], pre, suf, _ => rfl
  | c :: ws, d :: w1, pre, suf, h => by
    have h1 := pst_mid ws w1 (pre ++ [d]) suf (Nat.succ.inj h)
    have h2 : (pre ++ (c :: ws ++ suf)).set pre.length d = (pre ++ [d]) ++ (ws ++ suf) := by
      rw [List.set_append_right _ _ (Nat.le_refl _), Nat.sub_self]
      simp
    show pst ((pre ++ (c :: ws ++ suf)).set pre.length d) (List.range' (pre.length + 1) ws.length) w1 = _
    rw [h2]
    rw [List.length_append] at h1
    rw [show pre.length + 1 = pre.length + [d].length from rfl, h1]
    simp
theorem pst_all {ws w1 : va_W} {ps : List Nat} (n : Nat) (h0 : ws.length = n) (h1 : w1.length = n) (hp : ps = List.range' 0 n) : pst ws ps w1 = w1 := by
  have h : ws.length = w1.length := h0.trans h1.symm
  rw [← h0] at hp
  clear h0 h1
  have h1 := pst_mid ws w1 [] [] h
  rw [List.append_nil, List.append_nil] at h1
  rw [hp]
  exact h1
theorem pst_blk (pre suf : va_W) {ws wc w1 w2 : va_W} {ps : List Nat} (n k : Nat) (hw : ws = pre ++ (wc ++ suf)) (h0 : wc.length = n) (h1 : w1.length = n) (hk : pre.length = k) (hp : ps = List.range' k n) (h2 : pre ++ (w1 ++ suf) = w2) : pst ws ps w1 = w2 := by
  have h : wc.length = w1.length := h0.trans h1.symm
  rw [← h0, ← hk] at hp
  rw [hw, hp, ← h2]
  exact pst_mid wc w1 pre suf h
/-- an array's contents count as far as it reaches -/
theorem arr_same {cA : ClassId} {n : Nat} {f g : Nat → Int32} (h : ∀ j, j < n → f j = g j) : vp_cell cA (n, .inl f) = vp_cell cA (n, .inl g) := by
  rw [vp_cell_i, vp_cell_i]
  have h1 : (fun j : Fin n => Value.int (f j.val)) = fun j : Fin n => Value.int (g j.val) := funext fun j => by rw [h j.val j.isLt]
  show ({ cls := cA, slots := Array.ofFn (n := n) fun j => Value.int (f j.val), vm := .none } : Cell) = { cls := cA, slots := Array.ofFn (n := n) fun j => Value.int (g j.val), vm := .none }
  rw [h1]
theorem va_P.arr {D : va_G} {cl : List vw_C} {ws : va_W} {H : Heap} (hP : va_P D cl ws H) (k : Nat) {a : Nat} {cA : ClassId} {n : Nat} {f : Nat → Int32} (g : Nat → Int32) (hk : ws[k]? = some (a, .inl (cA, n, .inl f))) (h : ∀ j, j < n → f j = g j) : va_P D cl (ws.set k (a, .inl (cA, n, .inl g))) H := by
  intro j q hq
  rw [List.getElem?_set] at hq
  by_cases hj : k = j
  · rw [if_pos hj] at hq
    split at hq
    · cases hq
      have h1 := hP k _ hk
      show H[a]? = some (vp_cell cA (n, .inl g))
      rw [← arr_same h]
      exact h1
    · cases hq
  · rw [if_neg hj] at hq
    exact hP j q hq
section OWNKIT
variable {p : Program} {l : Launch} {e : Env} {R : Room} {s : State} {m : MethodId} {args : Array Value} {below : List Frame} {meth : Method} {c : Code} {H : Heap} {locs : List Loc} {cells slots : Nat} {Q : State → Prop}
variable {pc : Nat} {ls : Array Slot} {rest st0 : List Value} {A : Nat → Prop} {H0 : Heap} {mc ms : Nat} {D : va_G} {cA : ClassId} {wsW wc : va_W} {X : State → Prop}
variable {y : MethodName} {bytes cc : ByteArray} {maxL nL n index : Nat} {ws : List Cond} {rm : Room} {Ts : List Cond} {own C host : String} {b : Nat} {As : List Value}
theorem pr_at {av : List Value} (hE : EK D cA s) (hP : va_P D vwCl wsW H) (hD : va_D A wsW) (ps : List Nat) (hnd : va_nd ps = true) (hps : ps.map (fun i => wsW[i]?) = wc.map some) (hX : ∀ U : State, U.heap = H → s.WarmedH U.vm → X U) (U : State) (hU : U.heap = H) (hW : s.WarmedH U.vm) : Pr D cA av H.size wc X av.toArray U := by
  have h1 : ∀ k q, wc[k]? = some q → ∃ i, ps[i]? = some k ∨ wsW[i]? = some q := fun k q h => by
    have hj : k < ps.length := by
      have h3 := congrArg List.length hps
      simp only [List.length_map] at h3
      rw [h3]
      exact (List.getElem?_eq_some_iff.mp h).1
    exact ⟨ps[k], Or.inr ((pst_map hps (List.getElem?_eq_getElem hj)).trans h)⟩
  refine ⟨rfl, by rw [hU], ?_, hE.warm hW, (hD.sub ps hnd hps).weaken (fun _ _ _ _ => trivial), hX U hU hW⟩
  rw [hU]
  intro k q h
  have hj : k < ps.length := by
    have h3 := congrArg List.length hps
    simp only [List.length_map] at h3
    rw [h3]
    exact (List.getElem?_eq_some_iff.mp h).1
  exact hP ps[k] q ((pst_map hps (List.getElem?_eq_getElem hj)).trans h)
/-- a heap in which no old cell has changed -/
theorem pure_P {H1 : Heap} (hP : va_P D vwCl wsW H) (h : ∀ q : Nat, q < H.size → ¬ H.size ≤ q → H1[q]? = H[q]?) : va_P D vwCl wsW H1 := hP.kept (fun k q hk => h q.1 (hP k q hk).lt (Nat.not_le.mpr (hP k q hk).lt))

theorem cVi {S : Type} {ret : Option FieldType} {post : Int32 → S → Prop} {wB : S → va_W} (Sx : CallFix p m c cc nL s args Ts own) (hM : Met l y ws rm (Pr D cA (.ref b :: As) H.size wc X) (va_Qi post (fun u t => va_P D vwCl (wB u) t.heap) (va_A wc H.size)) mc ms (va_A wc H.size)) (cw : CallW R s args own C index y bytes maxL ret ws rm mc ms n)
    (hE : EK D cA s) (hP : va_P D vwCl wsW H) (hD : va_D A wsW) (hS : va_S A H0 H locs) (hA : ∀ q, H0.size ≤ q → A q) (ps : List Nat) (hnd : va_nd ps = true) (hps : ps.map (fun i => wsW[i]?) = wc.map some) (as : List Nat) (hs1 : ∀ u : S, (wB u).map (fun q => q.1) = as) (hs2 : wc.map (fun q => q.1) = as) (w2 : S → va_W) (hw2 : ∀ u : S, pst wsW ps (wB u) = w2 u) (hXb : Blind X) (hX : ∀ U : State, U.heap = H → s.WarmedH U.vm → X U)
    (q0 ci : Nat) {fs : List Value} {q : vw_C} (hr : wsW[q0]? = some (b, .inr (ci, fs))) (hc : vwCl[ci]? = some q) (hC : q.1 = C) (hls : ls.size = nL) (hn : As.length = n) (hst : st0 = As.reverse ++ .ref b :: rest) (hW : (rest.map fun v => v.category).sum ≤ 8) (hdg : decode cc pc = .ok (.invokevirtual index, 3)) (hf : cells + mc ≤ R.cells ∧ slots + ms ≤ R.slots)
    (kk : ∀ (r : Int32) (u : S) (H1 : Heap) (locs1 : List Loc), post r u → va_P D vwCl (w2 u) H1 → va_D A (w2 u) → va_S A H0 H1 locs1 → W p l e R s m args below meth c H1 locs1 (cells + mc) (slots + ms) Q (F0 m (pc + 3) ls (.int r :: rest))) : W p l e R s m args below meth c H locs cells slots Q (F0 m pc ls st0) := by
  subst hst
  have hF := va_free (wc := wc) hD hS hA ps hps
  refine va_calli (va_runV (rest := rest) Sx hM cw ⟨Pr.blind hXb, va_recv hE.1 hP hc (by rw [hr]) |> fun ⟨cl, c1, c2, c3⟩ => ⟨cl, c1, c2, hC ▸ c3⟩, pr_at hE hP hD ps hnd hps hX⟩ rfl hn hls rfl (lv_room hW) hdg hf) hS (fun q _ h => hF q h) hF (fun r u t H1 locs1 ht hvm hw hB hz1 hk1 hS1 => ?_)
  rw [ht] at hB
  obtain ⟨hP1, hD1⟩ := pst_join hP hD ps hps ((hs1 u).trans hs2.symm) hk1 hB
  rw [hw2 u] at hP1 hD1
  exact kk r u H1 locs1 hw hP1 hD1 hS1
theorem pVi {S : Type} {ret : Option FieldType} {post : Int32 → S → Prop} (Sx : CallFix p m c cc nL s args Ts own) (hM : Met l y ws rm (Pr D cA (.ref b :: As) H.size wc X) (va_Qi post (fun _ _ => True) (fun q => H.size ≤ q)) mc ms (fun q => H.size ≤ q)) (cw : CallW R s args own C index y bytes maxL ret ws rm mc ms n)
    (hE : EK D cA s) (hP : va_P D vwCl wsW H) {A9 : Nat → Prop} (hD : va_D A9 wsW) (hS : va_S A H0 H locs) (hA : ∀ q, H0.size ≤ q → A q) (ps : List Nat) (hnd : va_nd ps = true) (hps : ps.map (fun i => wsW[i]?) = wc.map some) (hXb : Blind X) (hX : ∀ U : State, U.heap = H → s.WarmedH U.vm → X U)
    (q0 ci : Nat) {fs : List Value} {q : vw_C} (hr : wsW[q0]? = some (b, .inr (ci, fs))) (hc : vwCl[ci]? = some q) (hC : q.1 = C) (hls : ls.size = nL) (hn : As.length = n) (hst : st0 = As.reverse ++ .ref b :: rest) (hW : (rest.map fun v => v.category).sum ≤ 8) (hdg : decode cc pc = .ok (.invokevirtual index, 3)) (hf : cells + mc ≤ R.cells ∧ slots + ms ≤ R.slots)
    (kk : ∀ (r : Int32) (u : S) (H1 : Heap) (locs1 : List Loc), post r u → va_P D vwCl wsW H1 → va_S A H0 H1 locs1 → W p l e R s m args below meth c H1 locs1 (cells + mc) (slots + ms) Q (F0 m (pc + 3) ls (.int r :: rest))) : W p l e R s m args below meth c H locs cells slots Q (F0 m pc ls st0) := by
  subst hst
  have hF : ∀ q, H.size ≤ q → A q := fun q h => hA q (Nat.le_trans hS.1 h)
  refine va_calli (va_runV (rest := rest) Sx hM cw ⟨Pr.blind hXb, va_recv hE.1 hP hc (by rw [hr]) |> fun ⟨cl, c1, c2, c3⟩ => ⟨cl, c1, c2, hC ▸ c3⟩, pr_at hE hP hD ps hnd hps hX⟩ rfl hn hls rfl (lv_room hW) hdg hf) hS (fun q _ h => hF q h) hF (fun r u t H1 locs1 ht hvm hw hB hz1 hk1 hS1 => ?_)
  exact kk r u H1 locs1 hw (pure_P hP hk1) hS1
theorem cVl {S : Type} {ret : Option FieldType} {post : Int64 → S → Prop} {wB : S → va_W} (Sx : CallFix p m c cc nL s args Ts own) (hM : Met l y ws rm (Pr D cA (.ref b :: As) H.size wc X) (va_Ql post (fun u t => va_P D vwCl (wB u) t.heap) (va_A wc H.size)) mc ms (va_A wc H.size)) (cw : CallW R s args own C index y bytes maxL ret ws rm mc ms n)
    (hE : EK D cA s) (hP : va_P D vwCl wsW H) (hD : va_D A wsW) (hS : va_S A H0 H locs) (hA : ∀ q, H0.size ≤ q → A q) (ps : List Nat) (hnd : va_nd ps = true) (hps : ps.map (fun i => wsW[i]?) = wc.map some) (as : List Nat) (hs1 : ∀ u : S, (wB u).map (fun q => q.1) = as) (hs2 : wc.map (fun q => q.1) = as) (w2 : S → va_W) (hw2 : ∀ u : S, pst wsW ps (wB u) = w2 u) (hXb : Blind X) (hX : ∀ U : State, U.heap = H → s.WarmedH U.vm → X U)
    (q0 ci : Nat) {fs : List Value} {q : vw_C} (hr : wsW[q0]? = some (b, .inr (ci, fs))) (hc : vwCl[ci]? = some q) (hC : q.1 = C) (hls : ls.size = nL) (hn : As.length = n) (hst : st0 = As.reverse ++ .ref b :: rest) (hW : (rest.map fun v => v.category).sum ≤ 8) (hdg : decode cc pc = .ok (.invokevirtual index, 3)) (hf : cells + mc ≤ R.cells ∧ slots + ms ≤ R.slots)
    (kk : ∀ (r : Int64) (u : S) (H1 : Heap) (locs1 : List Loc), post r u → va_P D vwCl (w2 u) H1 → va_D A (w2 u) → va_S A H0 H1 locs1 → W p l e R s m args below meth c H1 locs1 (cells + mc) (slots + ms) Q (F0 m (pc + 3) ls (.long r :: rest))) : W p l e R s m args below meth c H locs cells slots Q (F0 m pc ls st0) := by
  subst hst
  have hF := va_free (wc := wc) hD hS hA ps hps
  refine va_calll (va_runV (rest := rest) Sx hM cw ⟨Pr.blind hXb, va_recv hE.1 hP hc (by rw [hr]) |> fun ⟨cl, c1, c2, c3⟩ => ⟨cl, c1, c2, hC ▸ c3⟩, pr_at hE hP hD ps hnd hps hX⟩ rfl hn hls rfl (lv_room hW) hdg hf) hS (fun q _ h => hF q h) hF (fun r u t H1 locs1 ht hvm hw hB hz1 hk1 hS1 => ?_)
  rw [ht] at hB
  obtain ⟨hP1, hD1⟩ := pst_join hP hD ps hps ((hs1 u).trans hs2.symm) hk1 hB
  rw [hw2 u] at hP1 hD1
  exact kk r u H1 locs1 hw hP1 hD1 hS1
theorem pVl {S : Type} {ret : Option FieldType} {post : Int64 → S → Prop} (Sx : CallFix p m c cc nL s args Ts own) (hM : Met l y ws rm (Pr D cA (.ref b :: As) H.size wc X) (va_Ql post (fun _ _ => True) (fun q => H.size ≤ q)) mc ms (fun q => H.size ≤ q)) (cw : CallW R s args own C index y bytes maxL ret ws rm mc ms n)
    (hE : EK D cA s) (hP : va_P D vwCl wsW H) {A9 : Nat → Prop} (hD : va_D A9 wsW) (hS : va_S A H0 H locs) (hA : ∀ q, H0.size ≤ q → A q) (ps : List Nat) (hnd : va_nd ps = true) (hps : ps.map (fun i => wsW[i]?) = wc.map some) (hXb : Blind X) (hX : ∀ U : State, U.heap = H → s.WarmedH U.vm → X U)
    (q0 ci : Nat) {fs : List Value} {q : vw_C} (hr : wsW[q0]? = some (b, .inr (ci, fs))) (hc : vwCl[ci]? = some q) (hC : q.1 = C) (hls : ls.size = nL) (hn : As.length = n) (hst : st0 = As.reverse ++ .ref b :: rest) (hW : (rest.map fun v => v.category).sum ≤ 8) (hdg : decode cc pc = .ok (.invokevirtual index, 3)) (hf : cells + mc ≤ R.cells ∧ slots + ms ≤ R.slots)
    (kk : ∀ (r : Int64) (u : S) (H1 : Heap) (locs1 : List Loc), post r u → va_P D vwCl wsW H1 → va_S A H0 H1 locs1 → W p l e R s m args below meth c H1 locs1 (cells + mc) (slots + ms) Q (F0 m (pc + 3) ls (.long r :: rest))) : W p l e R s m args below meth c H locs cells slots Q (F0 m pc ls st0) := by
  subst hst
  have hF : ∀ q, H.size ≤ q → A q := fun q h => hA q (Nat.le_trans hS.1 h)
  refine va_calll (va_runV (rest := rest) Sx hM cw ⟨Pr.blind hXb, va_recv hE.1 hP hc (by rw [hr]) |> fun ⟨cl, c1, c2, c3⟩ => ⟨cl, c1, c2, hC ▸ c3⟩, pr_at hE hP hD ps hnd hps hX⟩ rfl hn hls rfl (lv_room hW) hdg hf) hS (fun q _ h => hF q h) hF (fun r u t H1 locs1 ht hvm hw hB hz1 hk1 hS1 => ?_)
  exact kk r u H1 locs1 hw (pure_P hP hk1) hS1
theorem cVd {S : Type} {ret : Option FieldType} {post : UInt64 → S → Prop} {wB : S → va_W} (Sx : CallFix p m c cc nL s args Ts own) (hM : Met l y ws rm (Pr D cA (.ref b :: As) H.size wc X) (va_Qd post (fun u t => va_P D vwCl (wB u) t.heap) (va_A wc H.size)) mc ms (va_A wc H.size)) (cw : CallW R s args own C index y bytes maxL ret ws rm mc ms n)
    (hE : EK D cA s) (hP : va_P D vwCl wsW H) (hD : va_D A wsW) (hS : va_S A H0 H locs) (hA : ∀ q, H0.size ≤ q → A q) (ps : List Nat) (hnd : va_nd ps = true) (hps : ps.map (fun i => wsW[i]?) = wc.map some) (as : List Nat) (hs1 : ∀ u : S, (wB u).map (fun q => q.1) = as) (hs2 : wc.map (fun q => q.1) = as) (w2 : S → va_W) (hw2 : ∀ u : S, pst wsW ps (wB u) = w2 u) (hXb : Blind X) (hX : ∀ U : State, U.heap = H → s.WarmedH U.vm → X U)
    (q0 ci : Nat) {fs : List Value} {q : vw_C} (hr : wsW[q0]? = some (b, .inr (ci, fs))) (hc : vwCl[ci]? = some q) (hC : q.1 = C) (hls : ls.size = nL) (hn : As.length = n) (hst : st0 = As.reverse ++ .ref b :: rest) (hW : (rest.map fun v => v.category).sum ≤ 8) (hdg : decode cc pc = .ok (.invokevirtual index, 3)) (hf : cells + mc ≤ R.cells ∧ slots + ms ≤ R.slots)
    (kk : ∀ (r : UInt64) (u : S) (H1 : Heap) (locs1 : List Loc), post r u → va_P D vwCl (w2 u) H1 → va_D A (w2 u) → va_S A H0 H1 locs1 → W p l e R s m args below meth c H1 locs1 (cells + mc) (slots + ms) Q (F0 m (pc + 3) ls (.double r :: rest))) : W p l e R s m args below meth c H locs cells slots Q (F0 m pc ls st0) := by
  subst hst
  have hF := va_free (wc := wc) hD hS hA ps hps
  refine va_calld (va_runV (rest := rest) Sx hM cw ⟨Pr.blind hXb, va_recv hE.1 hP hc (by rw [hr]) |> fun ⟨cl, c1, c2, c3⟩ => ⟨cl, c1, c2, hC ▸ c3⟩, pr_at hE hP hD ps hnd hps hX⟩ rfl hn hls rfl (lv_room hW) hdg hf) hS (fun q _ h => hF q h) hF (fun r u t H1 locs1 ht hvm hw hB hz1 hk1 hS1 => ?_)
  rw [ht] at hB
  obtain ⟨hP1, hD1⟩ := pst_join hP hD ps hps ((hs1 u).trans hs2.symm) hk1 hB
  rw [hw2 u] at hP1 hD1
  exact kk r u H1 locs1 hw hP1 hD1 hS1
theorem pVd {S : Type} {ret : Option FieldType} {post : UInt64 → S → Prop} (Sx : CallFix p m c cc nL s args Ts own) (hM : Met l y ws rm (Pr D cA (.ref b :: As) H.size wc X) (va_Qd post (fun _ _ => True) (fun q => H.size ≤ q)) mc ms (fun q => H.size ≤ q)) (cw : CallW R s args own C index y bytes maxL ret ws rm mc ms n)
    (hE : EK D cA s) (hP : va_P D vwCl wsW H) {A9 : Nat → Prop} (hD : va_D A9 wsW) (hS : va_S A H0 H locs) (hA : ∀ q, H0.size ≤ q → A q) (ps : List Nat) (hnd : va_nd ps = true) (hps : ps.map (fun i => wsW[i]?) = wc.map some) (hXb : Blind X) (hX : ∀ U : State, U.heap = H → s.WarmedH U.vm → X U)
    (q0 ci : Nat) {fs : List Value} {q : vw_C} (hr : wsW[q0]? = some (b, .inr (ci, fs))) (hc : vwCl[ci]? = some q) (hC : q.1 = C) (hls : ls.size = nL) (hn : As.length = n) (hst : st0 = As.reverse ++ .ref b :: rest) (hW : (rest.map fun v => v.category).sum ≤ 8) (hdg : decode cc pc = .ok (.invokevirtual index, 3)) (hf : cells + mc ≤ R.cells ∧ slots + ms ≤ R.slots)
    (kk : ∀ (r : UInt64) (u : S) (H1 : Heap) (locs1 : List Loc), post r u → va_P D vwCl wsW H1 → va_S A H0 H1 locs1 → W p l e R s m args below meth c H1 locs1 (cells + mc) (slots + ms) Q (F0 m (pc + 3) ls (.double r :: rest))) : W p l e R s m args below meth c H locs cells slots Q (F0 m pc ls st0) := by
  subst hst
  have hF : ∀ q, H.size ≤ q → A q := fun q h => hA q (Nat.le_trans hS.1 h)
  refine va_calld (va_runV (rest := rest) Sx hM cw ⟨Pr.blind hXb, va_recv hE.1 hP hc (by rw [hr]) |> fun ⟨cl, c1, c2, c3⟩ => ⟨cl, c1, c2, hC ▸ c3⟩, pr_at hE hP hD ps hnd hps hX⟩ rfl hn hls rfl (lv_room hW) hdg hf) hS (fun q _ h => hF q h) hF (fun r u t H1 locs1 ht hvm hw hB hz1 hk1 hS1 => ?_)
  exact kk r u H1 locs1 hw (pure_P hP hk1) hS1
theorem cVv {S : Type} {ret : Option FieldType} {post : S → Prop} {wB : S → va_W} (Sx : CallFix p m c cc nL s args Ts own) (hM : Met l y ws rm (Pr D cA (.ref b :: As) H.size wc X) (va_Qv post (fun u t => va_P D vwCl (wB u) t.heap) (va_A wc H.size)) mc ms (va_A wc H.size)) (cw : CallW R s args own C index y bytes maxL ret ws rm mc ms n)
    (hE : EK D cA s) (hP : va_P D vwCl wsW H) (hD : va_D A wsW) (hS : va_S A H0 H locs) (hA : ∀ q, H0.size ≤ q → A q) (ps : List Nat) (hnd : va_nd ps = true) (hps : ps.map (fun i => wsW[i]?) = wc.map some) (as : List Nat) (hs1 : ∀ u : S, (wB u).map (fun q => q.1) = as) (hs2 : wc.map (fun q => q.1) = as) (w2 : S → va_W) (hw2 : ∀ u : S, pst wsW ps (wB u) = w2 u) (hXb : Blind X) (hX : ∀ U : State, U.heap = H → s.WarmedH U.vm → X U)
    (q0 ci : Nat) {fs : List Value} {q : vw_C} (hr : wsW[q0]? = some (b, .inr (ci, fs))) (hc : vwCl[ci]? = some q) (hC : q.1 = C) (hls : ls.size = nL) (hn : As.length = n) (hst : st0 = As.reverse ++ .ref b :: rest) (hW : (rest.map fun v => v.category).sum ≤ 8) (hdg : decode cc pc = .ok (.invokevirtual index, 3)) (hf : cells + mc ≤ R.cells ∧ slots + ms ≤ R.slots)
    (kk : ∀ (u : S) (H1 : Heap) (locs1 : List Loc), post u → va_P D vwCl (w2 u) H1 → va_D A (w2 u) → va_S A H0 H1 locs1 → W p l e R s m args below meth c H1 locs1 (cells + mc) (slots + ms) Q (F0 m (pc + 3) ls rest)) : W p l e R s m args below meth c H locs cells slots Q (F0 m pc ls st0) := by
  subst hst
  have hF := va_free (wc := wc) hD hS hA ps hps
  refine va_callv (va_runV (rest := rest) Sx hM cw ⟨Pr.blind hXb, va_recv hE.1 hP hc (by rw [hr]) |> fun ⟨cl, c1, c2, c3⟩ => ⟨cl, c1, c2, hC ▸ c3⟩, pr_at hE hP hD ps hnd hps hX⟩ rfl hn hls rfl (lv_room hW) hdg hf) hS (fun q _ h => hF q h) hF (fun u t H1 locs1 ht hvm hw hB hz1 hk1 hS1 => ?_)
  rw [ht] at hB
  obtain ⟨hP1, hD1⟩ := pst_join hP hD ps hps ((hs1 u).trans hs2.symm) hk1 hB
  rw [hw2 u] at hP1 hD1
  exact kk u H1 locs1 hw hP1 hD1 hS1
theorem pVv {S : Type} {ret : Option FieldType} {post : S → Prop} (Sx : CallFix p m c cc nL s args Ts own) (hM : Met l y ws rm (Pr D cA (.ref b :: As) H.size wc X) (va_Qv post (fun _ _ => True) (fun q => H.size ≤ q)) mc ms (fun q => H.size ≤ q)) (cw : CallW R s args own C index y bytes maxL ret ws rm mc ms n)
    (hE : EK D cA s) (hP : va_P D vwCl wsW H) {A9 : Nat → Prop} (hD : va_D A9 wsW) (hS : va_S A H0 H locs) (hA : ∀ q, H0.size ≤ q → A q) (ps : List Nat) (hnd : va_nd ps = true) (hps : ps.map (fun i => wsW[i]?) = wc.map some) (hXb : Blind X) (hX : ∀ U : State, U.heap = H → s.WarmedH U.vm → X U)
    (q0 ci : Nat) {fs : List Value} {q : vw_C} (hr : wsW[q0]? = some (b, .inr (ci, fs))) (hc : vwCl[ci]? = some q) (hC : q.1 = C) (hls : ls.size = nL) (hn : As.length = n) (hst : st0 = As.reverse ++ .ref b :: rest) (hW : (rest.map fun v => v.category).sum ≤ 8) (hdg : decode cc pc = .ok (.invokevirtual index, 3)) (hf : cells + mc ≤ R.cells ∧ slots + ms ≤ R.slots)
    (kk : ∀ (u : S) (H1 : Heap) (locs1 : List Loc), post u → va_P D vwCl wsW H1 → va_S A H0 H1 locs1 → W p l e R s m args below meth c H1 locs1 (cells + mc) (slots + ms) Q (F0 m (pc + 3) ls rest)) : W p l e R s m args below meth c H locs cells slots Q (F0 m pc ls st0) := by
  subst hst
  have hF : ∀ q, H.size ≤ q → A q := fun q h => hA q (Nat.le_trans hS.1 h)
  refine va_callv (va_runV (rest := rest) Sx hM cw ⟨Pr.blind hXb, va_recv hE.1 hP hc (by rw [hr]) |> fun ⟨cl, c1, c2, c3⟩ => ⟨cl, c1, c2, hC ▸ c3⟩, pr_at hE hP hD ps hnd hps hX⟩ rfl hn hls rfl (lv_room hW) hdg hf) hS (fun q _ h => hF q h) hF (fun u t H1 locs1 ht hvm hw hB hz1 hk1 hS1 => ?_)
  exact kk u H1 locs1 hw (pure_P hP hk1) hS1
theorem cSi {S : Type} {ret : Option FieldType} {post : Int32 → S → Prop} {wB : S → va_W} (Sx : CallFix p m c cc nL s args Ts own) (hM : Met l y ws rm (Pr D cA As H.size wc X) (va_Qi post (fun u t => va_P D vwCl (wB u) t.heap) (va_A wc H.size)) mc ms (va_A wc H.size)) (cw : CallB R s args own index y bytes maxL ret ws rm mc ms n ∧ (Cond.static y).before args s = true)
    (hE : EK D cA s) (hP : va_P D vwCl wsW H) (hD : va_D A wsW) (hS : va_S A H0 H locs) (hA : ∀ q, H0.size ≤ q → A q) (ps : List Nat) (hnd : va_nd ps = true) (hps : ps.map (fun i => wsW[i]?) = wc.map some) (as : List Nat) (hs1 : ∀ u : S, (wB u).map (fun q => q.1) = as) (hs2 : wc.map (fun q => q.1) = as) (w2 : S → va_W) (hw2 : ∀ u : S, pst wsW ps (wB u) = w2 u) (hXb : Blind X) (hX : ∀ U : State, U.heap = H → s.WarmedH U.vm → X U)
    (hls : ls.size = nL) (hn : As.length = n) (hst : st0 = As.reverse ++ rest) (hW : (rest.map fun v => v.category).sum ≤ 8) (hdg : decode cc pc = .ok (.invokestatic index, 3)) (hf : cells + mc ≤ R.cells ∧ slots + ms ≤ R.slots)
    (kk : ∀ (r : Int32) (u : S) (H1 : Heap) (locs1 : List Loc), post r u → va_P D vwCl (w2 u) H1 → va_D A (w2 u) → va_S A H0 H1 locs1 → W p l e R s m args below meth c H1 locs1 (cells + mc) (slots + ms) Q (F0 m (pc + 3) ls (.int r :: rest))) : W p l e R s m args below meth c H locs cells slots Q (F0 m pc ls st0) := by
  subst hst
  have hF := va_free (wc := wc) hD hS hA ps hps
  refine va_calli (va_runS (rest := rest) Sx hM cw ⟨Pr.blind hXb, pr_at hE hP hD ps hnd hps hX⟩ rfl hn hls rfl (lv_room hW) hdg hf) hS (fun q _ h => hF q h) hF (fun r u t H1 locs1 ht hvm hw hB hz1 hk1 hS1 => ?_)
  rw [ht] at hB
  obtain ⟨hP1, hD1⟩ := pst_join hP hD ps hps ((hs1 u).trans hs2.symm) hk1 hB
  rw [hw2 u] at hP1 hD1
  exact kk r u H1 locs1 hw hP1 hD1 hS1
theorem pSi {S : Type} {ret : Option FieldType} {post : Int32 → S → Prop} (Sx : CallFix p m c cc nL s args Ts own) (hM : Met l y ws rm (Pr D cA As H.size wc X) (va_Qi post (fun _ _ => True) (fun q => H.size ≤ q)) mc ms (fun q => H.size ≤ q)) (cw : CallB R s args own index y bytes maxL ret ws rm mc ms n ∧ (Cond.static y).before args s = true)
    (hE : EK D cA s) (hP : va_P D vwCl wsW H) {A9 : Nat → Prop} (hD : va_D A9 wsW) (hS : va_S A H0 H locs) (hA : ∀ q, H0.size ≤ q → A q) (ps : List Nat) (hnd : va_nd ps = true) (hps : ps.map (fun i => wsW[i]?) = wc.map some) (hXb : Blind X) (hX : ∀ U : State, U.heap = H → s.WarmedH U.vm → X U)
    (hls : ls.size = nL) (hn : As.length = n) (hst : st0 = As.reverse ++ rest) (hW : (rest.map fun v => v.category).sum ≤ 8) (hdg : decode cc pc = .ok (.invokestatic index, 3)) (hf : cells + mc ≤ R.cells ∧ slots + ms ≤ R.slots)
    (kk : ∀ (r : Int32) (u : S) (H1 : Heap) (locs1 : List Loc), post r u → va_P D vwCl wsW H1 → va_S A H0 H1 locs1 → W p l e R s m args below meth c H1 locs1 (cells + mc) (slots + ms) Q (F0 m (pc + 3) ls (.int r :: rest))) : W p l e R s m args below meth c H locs cells slots Q (F0 m pc ls st0) := by
  subst hst
  have hF : ∀ q, H.size ≤ q → A q := fun q h => hA q (Nat.le_trans hS.1 h)
  refine va_calli (va_runS (rest := rest) Sx hM cw ⟨Pr.blind hXb, pr_at hE hP hD ps hnd hps hX⟩ rfl hn hls rfl (lv_room hW) hdg hf) hS (fun q _ h => hF q h) hF (fun r u t H1 locs1 ht hvm hw hB hz1 hk1 hS1 => ?_)
  exact kk r u H1 locs1 hw (pure_P hP hk1) hS1
theorem cSl {S : Type} {ret : Option FieldType} {post : Int64 → S → Prop} {wB : S → va_W} (Sx : CallFix p m c cc nL s args Ts own) (hM : Met l y ws rm (Pr D cA As H.size wc X) (va_Ql post (fun u t => va_P D vwCl (wB u) t.heap) (va_A wc H.size)) mc ms (va_A wc H.size)) (cw : CallB R s args own index y bytes maxL ret ws rm mc ms n ∧ (Cond.static y).before args s = true)
    (hE : EK D cA s) (hP : va_P D vwCl wsW H) (hD : va_D A wsW) (hS : va_S A H0 H locs) (hA : ∀ q, H0.size ≤ q → A q) (ps : List Nat) (hnd : va_nd ps = true) (hps : ps.map (fun i => wsW[i]?) = wc.map some) (as : List Nat) (hs1 : ∀ u : S, (wB u).map (fun q => q.1) = as) (hs2 : wc.map (fun q => q.1) = as) (w2 : S → va_W) (hw2 : ∀ u : S, pst wsW ps (wB u) = w2 u) (hXb : Blind X) (hX : ∀ U : State, U.heap = H → s.WarmedH U.vm → X U)
    (hls : ls.size = nL) (hn : As.length = n) (hst : st0 = As.reverse ++ rest) (hW : (rest.map fun v => v.category).sum ≤ 8) (hdg : decode cc pc = .ok (.invokestatic index, 3)) (hf : cells + mc ≤ R.cells ∧ slots + ms ≤ R.slots)
    (kk : ∀ (r : Int64) (u : S) (H1 : Heap) (locs1 : List Loc), post r u → va_P D vwCl (w2 u) H1 → va_D A (w2 u) → va_S A H0 H1 locs1 → W p l e R s m args below meth c H1 locs1 (cells + mc) (slots + ms) Q (F0 m (pc + 3) ls (.long r :: rest))) : W p l e R s m args below meth c H locs cells slots Q (F0 m pc ls st0) := by
  subst hst
  have hF := va_free (wc := wc) hD hS hA ps hps
  refine va_calll (va_runS (rest := rest) Sx hM cw ⟨Pr.blind hXb, pr_at hE hP hD ps hnd hps hX⟩ rfl hn hls rfl (lv_room hW) hdg hf) hS (fun q _ h => hF q h) hF (fun r u t H1 locs1 ht hvm hw hB hz1 hk1 hS1 => ?_)
  rw [ht] at hB
  obtain ⟨hP1, hD1⟩ := pst_join hP hD ps hps ((hs1 u).trans hs2.symm) hk1 hB
  rw [hw2 u] at hP1 hD1
  exact kk r u H1 locs1 hw hP1 hD1 hS1
theorem pSl {S : Type} {ret : Option FieldType} {post : Int64 → S → Prop} (Sx : CallFix p m c cc nL s args Ts own) (hM : Met l y ws rm (Pr D cA As H.size wc X) (va_Ql post (fun _ _ => True) (fun q => H.size ≤ q)) mc ms (fun q => H.size ≤ q)) (cw : CallB R s args own index y bytes maxL ret ws rm mc ms n ∧ (Cond.static y).before args s = true)
    (hE : EK D cA s) (hP : va_P D vwCl wsW H) {A9 : Nat → Prop} (hD : va_D A9 wsW) (hS : va_S A H0 H locs) (hA : ∀ q, H0.size ≤ q → A q) (ps : List Nat) (hnd : va_nd ps = true) (hps : ps.map (fun i => wsW[i]?) = wc.map some) (hXb : Blind X) (hX : ∀ U : State, U.heap = H → s.WarmedH U.vm → X U)
    (hls : ls.size = nL) (hn : As.length = n) (hst : st0 = As.reverse ++ rest) (hW : (rest.map fun v => v.category).sum ≤ 8) (hdg : decode cc pc = .ok (.invokestatic index, 3)) (hf : cells + mc ≤ R.cells ∧ slots + ms ≤ R.slots)
    (kk : ∀ (r : Int64) (u : S) (H1 : Heap) (locs1 : List Loc), post r u → va_P D vwCl wsW H1 → va_S A H0 H1 locs1 → W p l e R s m args below meth c H1 locs1 (cells + mc) (slots + ms) Q (F0 m (pc + 3) ls (.long r :: rest))) : W p l e R s m args below meth c H locs cells slots Q (F0 m pc ls st0) := by
  subst hst
  have hF : ∀ q, H.size ≤ q → A q := fun q h => hA q (Nat.le_trans hS.1 h)
  refine va_calll (va_runS (rest := rest) Sx hM cw ⟨Pr.blind hXb, pr_at hE hP hD ps hnd hps hX⟩ rfl hn hls rfl (lv_room hW) hdg hf) hS (fun q _ h => hF q h) hF (fun r u t H1 locs1 ht hvm hw hB hz1 hk1 hS1 => ?_)
  exact kk r u H1 locs1 hw (pure_P hP hk1) hS1
theorem cSd {S : Type} {ret : Option FieldType} {post : UInt64 → S → Prop} {wB : S → va_W} (Sx : CallFix p m c cc nL s args Ts own) (hM : Met l y ws rm (Pr D cA As H.size wc X) (va_Qd post (fun u t => va_P D vwCl (wB u) t.heap) (va_A wc H.size)) mc ms (va_A wc H.size)) (cw : CallB R s args own index y bytes maxL ret ws rm mc ms n ∧ (Cond.static y).before args s = true)
    (hE : EK D cA s) (hP : va_P D vwCl wsW H) (hD : va_D A wsW) (hS : va_S A H0 H locs) (hA : ∀ q, H0.size ≤ q → A q) (ps : List Nat) (hnd : va_nd ps = true) (hps : ps.map (fun i => wsW[i]?) = wc.map some) (as : List Nat) (hs1 : ∀ u : S, (wB u).map (fun q => q.1) = as) (hs2 : wc.map (fun q => q.1) = as) (w2 : S → va_W) (hw2 : ∀ u : S, pst wsW ps (wB u) = w2 u) (hXb : Blind X) (hX : ∀ U : State, U.heap = H → s.WarmedH U.vm → X U)
    (hls : ls.size = nL) (hn : As.length = n) (hst : st0 = As.reverse ++ rest) (hW : (rest.map fun v => v.category).sum ≤ 8) (hdg : decode cc pc = .ok (.invokestatic index, 3)) (hf : cells + mc ≤ R.cells ∧ slots + ms ≤ R.slots)
    (kk : ∀ (r : UInt64) (u : S) (H1 : Heap) (locs1 : List Loc), post r u → va_P D vwCl (w2 u) H1 → va_D A (w2 u) → va_S A H0 H1 locs1 → W p l e R s m args below meth c H1 locs1 (cells + mc) (slots + ms) Q (F0 m (pc + 3) ls (.double r :: rest))) : W p l e R s m args below meth c H locs cells slots Q (F0 m pc ls st0) := by
  subst hst
  have hF := va_free (wc := wc) hD hS hA ps hps
  refine va_calld (va_runS (rest := rest) Sx hM cw ⟨Pr.blind hXb, pr_at hE hP hD ps hnd hps hX⟩ rfl hn hls rfl (lv_room hW) hdg hf) hS (fun q _ h => hF q h) hF (fun r u t H1 locs1 ht hvm hw hB hz1 hk1 hS1 => ?_)
  rw [ht] at hB
  obtain ⟨hP1, hD1⟩ := pst_join hP hD ps hps ((hs1 u).trans hs2.symm) hk1 hB
  rw [hw2 u] at hP1 hD1
  exact kk r u H1 locs1 hw hP1 hD1 hS1
theorem pSd {S : Type} {ret : Option FieldType} {post : UInt64 → S → Prop} (Sx : CallFix p m c cc nL s args Ts own) (hM : Met l y ws rm (Pr D cA As H.size wc X) (va_Qd post (fun _ _ => True) (fun q => H.size ≤ q)) mc ms (fun q => H.size ≤ q)) (cw : CallB R s args own index y bytes maxL ret ws rm mc ms n ∧ (Cond.static y).before args s = true)
    (hE : EK D cA s) (hP : va_P D vwCl wsW H) {A9 : Nat → Prop} (hD : va_D A9 wsW) (hS : va_S A H0 H locs) (hA : ∀ q, H0.size ≤ q → A q) (ps : List Nat) (hnd : va_nd ps = true) (hps : ps.map (fun i => wsW[i]?) = wc.map some) (hXb : Blind X) (hX : ∀ U : State, U.heap = H → s.WarmedH U.vm → X U)
    (hls : ls.size = nL) (hn : As.length = n) (hst : st0 = As.reverse ++ rest) (hW : (rest.map fun v => v.category).sum ≤ 8) (hdg : decode cc pc = .ok (.invokestatic index, 3)) (hf : cells + mc ≤ R.cells ∧ slots + ms ≤ R.slots)
    (kk : ∀ (r : UInt64) (u : S) (H1 : Heap) (locs1 : List Loc), post r u → va_P D vwCl wsW H1 → va_S A H0 H1 locs1 → W p l e R s m args below meth c H1 locs1 (cells + mc) (slots + ms) Q (F0 m (pc + 3) ls (.double r :: rest))) : W p l e R s m args below meth c H locs cells slots Q (F0 m pc ls st0) := by
  subst hst
  have hF : ∀ q, H.size ≤ q → A q := fun q h => hA q (Nat.le_trans hS.1 h)
  refine va_calld (va_runS (rest := rest) Sx hM cw ⟨Pr.blind hXb, pr_at hE hP hD ps hnd hps hX⟩ rfl hn hls rfl (lv_room hW) hdg hf) hS (fun q _ h => hF q h) hF (fun r u t H1 locs1 ht hvm hw hB hz1 hk1 hS1 => ?_)
  exact kk r u H1 locs1 hw (pure_P hP hk1) hS1
theorem cSv {S : Type} {ret : Option FieldType} {post : S → Prop} {wB : S → va_W} (Sx : CallFix p m c cc nL s args Ts own) (hM : Met l y ws rm (Pr D cA As H.size wc X) (va_Qv post (fun u t => va_P D vwCl (wB u) t.heap) (va_A wc H.size)) mc ms (va_A wc H.size)) (cw : CallB R s args own index y bytes maxL ret ws rm mc ms n ∧ (Cond.static y).before args s = true)
    (hE : EK D cA s) (hP : va_P D vwCl wsW H) (hD : va_D A wsW) (hS : va_S A H0 H locs) (hA : ∀ q, H0.size ≤ q → A q) (ps : List Nat) (hnd : va_nd ps = true) (hps : ps.map (fun i => wsW[i]?) = wc.map some) (as : List Nat) (hs1 : ∀ u : S, (wB u).map (fun q => q.1) = as) (hs2 : wc.map (fun q => q.1) = as) (w2 : S → va_W) (hw2 : ∀ u : S, pst wsW ps (wB u) = w2 u) (hXb : Blind X) (hX : ∀ U : State, U.heap = H → s.WarmedH U.vm → X U)
    (hls : ls.size = nL) (hn : As.length = n) (hst : st0 = As.reverse ++ rest) (hW : (rest.map fun v => v.category).sum ≤ 8) (hdg : decode cc pc = .ok (.invokestatic index, 3)) (hf : cells + mc ≤ R.cells ∧ slots + ms ≤ R.slots)
    (kk : ∀ (u : S) (H1 : Heap) (locs1 : List Loc), post u → va_P D vwCl (w2 u) H1 → va_D A (w2 u) → va_S A H0 H1 locs1 → W p l e R s m args below meth c H1 locs1 (cells + mc) (slots + ms) Q (F0 m (pc + 3) ls rest)) : W p l e R s m args below meth c H locs cells slots Q (F0 m pc ls st0) := by
  subst hst
  have hF := va_free (wc := wc) hD hS hA ps hps
  refine va_callv (va_runS (rest := rest) Sx hM cw ⟨Pr.blind hXb, pr_at hE hP hD ps hnd hps hX⟩ rfl hn hls rfl (lv_room hW) hdg hf) hS (fun q _ h => hF q h) hF (fun u t H1 locs1 ht hvm hw hB hz1 hk1 hS1 => ?_)
  rw [ht] at hB
  obtain ⟨hP1, hD1⟩ := pst_join hP hD ps hps ((hs1 u).trans hs2.symm) hk1 hB
  rw [hw2 u] at hP1 hD1
  exact kk u H1 locs1 hw hP1 hD1 hS1
theorem pSv {S : Type} {ret : Option FieldType} {post : S → Prop} (Sx : CallFix p m c cc nL s args Ts own) (hM : Met l y ws rm (Pr D cA As H.size wc X) (va_Qv post (fun _ _ => True) (fun q => H.size ≤ q)) mc ms (fun q => H.size ≤ q)) (cw : CallB R s args own index y bytes maxL ret ws rm mc ms n ∧ (Cond.static y).before args s = true)
    (hE : EK D cA s) (hP : va_P D vwCl wsW H) {A9 : Nat → Prop} (hD : va_D A9 wsW) (hS : va_S A H0 H locs) (hA : ∀ q, H0.size ≤ q → A q) (ps : List Nat) (hnd : va_nd ps = true) (hps : ps.map (fun i => wsW[i]?) = wc.map some) (hXb : Blind X) (hX : ∀ U : State, U.heap = H → s.WarmedH U.vm → X U)
    (hls : ls.size = nL) (hn : As.length = n) (hst : st0 = As.reverse ++ rest) (hW : (rest.map fun v => v.category).sum ≤ 8) (hdg : decode cc pc = .ok (.invokestatic index, 3)) (hf : cells + mc ≤ R.cells ∧ slots + ms ≤ R.slots)
    (kk : ∀ (u : S) (H1 : Heap) (locs1 : List Loc), post u → va_P D vwCl wsW H1 → va_S A H0 H1 locs1 → W p l e R s m args below meth c H1 locs1 (cells + mc) (slots + ms) Q (F0 m (pc + 3) ls rest)) : W p l e R s m args below meth c H locs cells slots Q (F0 m pc ls st0) := by
  subst hst
  have hF : ∀ q, H.size ≤ q → A q := fun q h => hA q (Nat.le_trans hS.1 h)
  refine va_callv (va_runS (rest := rest) Sx hM cw ⟨Pr.blind hXb, pr_at hE hP hD ps hnd hps hX⟩ rfl hn hls rfl (lv_room hW) hdg hf) hS (fun q _ h => hF q h) hF (fun u t H1 locs1 ht hvm hw hB hz1 hk1 hS1 => ?_)
  exact kk u H1 locs1 hw (pure_P hP hk1) hS1
theorem cNi {S : Type} {ret : Option FieldType} {post : Int32 → S → Prop} {wB : S → va_W} (Sx : CallFix p m c cc nL s args Ts own) (hM : Met l y ws rm (Pr D cA As H.size wc X) (va_Qi post (fun u t => va_P D vwCl (wB u) t.heap) (va_A wc H.size)) mc ms (va_A wc H.size)) (cw : va_CN R s args own index y host bytes maxL ret ws rm mc ms n ∧ (Cond.static y).before args s = true ∧ True)
    (hE : EK D cA s) (hP : va_P D vwCl wsW H) (hD : va_D A wsW) (hS : va_S A H0 H locs) (hA : ∀ q, H0.size ≤ q → A q) (ps : List Nat) (hnd : va_nd ps = true) (hps : ps.map (fun i => wsW[i]?) = wc.map some) (as : List Nat) (hs1 : ∀ u : S, (wB u).map (fun q => q.1) = as) (hs2 : wc.map (fun q => q.1) = as) (w2 : S → va_W) (hw2 : ∀ u : S, pst wsW ps (wB u) = w2 u) (hXb : Blind X) (hX : ∀ U : State, U.heap = H → s.WarmedH U.vm → X U)
    (hls : ls.size = nL) (hn : As.length = n) (hst : st0 = As.reverse ++ rest) (hW : (rest.map fun v => v.category).sum ≤ 8) (hdg : decode cc pc = .ok (.invokestatic index, 3)) (hf : cells + mc ≤ R.cells ∧ slots + ms ≤ R.slots)
    (kk : ∀ (r : Int32) (u : S) (H1 : Heap) (locs1 : List Loc), post r u → va_P D vwCl (w2 u) H1 → va_D A (w2 u) → va_S A H0 H1 locs1 → W p l e R s m args below meth c H1 locs1 (cells + mc) (slots + ms) Q (F0 m (pc + 3) ls (.int r :: rest))) : W p l e R s m args below meth c H locs cells slots Q (F0 m pc ls st0) := by
  subst hst
  have hF := va_free (wc := wc) hD hS hA ps hps
  refine va_calli (va_runSN (rest := rest) Sx hM cw ⟨Pr.blind hXb, pr_at hE hP hD ps hnd hps hX⟩ rfl hn hls rfl (lv_room hW) hdg hf) hS (fun q _ h => hF q h) hF (fun r u t H1 locs1 ht hvm hw hB hz1 hk1 hS1 => ?_)
  rw [ht] at hB
  obtain ⟨hP1, hD1⟩ := pst_join hP hD ps hps ((hs1 u).trans hs2.symm) hk1 hB
  rw [hw2 u] at hP1 hD1
  exact kk r u H1 locs1 hw hP1 hD1 hS1
theorem pNi {S : Type} {ret : Option FieldType} {post : Int32 → S → Prop} (Sx : CallFix p m c cc nL s args Ts own) (hM : Met l y ws rm (Pr D cA As H.size wc X) (va_Qi post (fun _ _ => True) (fun q => H.size ≤ q)) mc ms (fun q => H.size ≤ q)) (cw : va_CN R s args own index y host bytes maxL ret ws rm mc ms n ∧ (Cond.static y).before args s = true ∧ True)
    (hE : EK D cA s) (hP : va_P D vwCl wsW H) {A9 : Nat → Prop} (hD : va_D A9 wsW) (hS : va_S A H0 H locs) (hA : ∀ q, H0.size ≤ q → A q) (ps : List Nat) (hnd : va_nd ps = true) (hps : ps.map (fun i => wsW[i]?) = wc.map some) (hXb : Blind X) (hX : ∀ U : State, U.heap = H → s.WarmedH U.vm → X U)
    (hls : ls.size = nL) (hn : As.length = n) (hst : st0 = As.reverse ++ rest) (hW : (rest.map fun v => v.category).sum ≤ 8) (hdg : decode cc pc = .ok (.invokestatic index, 3)) (hf : cells + mc ≤ R.cells ∧ slots + ms ≤ R.slots)
    (kk : ∀ (r : Int32) (u : S) (H1 : Heap) (locs1 : List Loc), post r u → va_P D vwCl wsW H1 → va_S A H0 H1 locs1 → W p l e R s m args below meth c H1 locs1 (cells + mc) (slots + ms) Q (F0 m (pc + 3) ls (.int r :: rest))) : W p l e R s m args below meth c H locs cells slots Q (F0 m pc ls st0) := by
  subst hst
  have hF : ∀ q, H.size ≤ q → A q := fun q h => hA q (Nat.le_trans hS.1 h)
  refine va_calli (va_runSN (rest := rest) Sx hM cw ⟨Pr.blind hXb, pr_at hE hP hD ps hnd hps hX⟩ rfl hn hls rfl (lv_room hW) hdg hf) hS (fun q _ h => hF q h) hF (fun r u t H1 locs1 ht hvm hw hB hz1 hk1 hS1 => ?_)
  exact kk r u H1 locs1 hw (pure_P hP hk1) hS1
theorem cNl {S : Type} {ret : Option FieldType} {post : Int64 → S → Prop} {wB : S → va_W} (Sx : CallFix p m c cc nL s args Ts own) (hM : Met l y ws rm (Pr D cA As H.size wc X) (va_Ql post (fun u t => va_P D vwCl (wB u) t.heap) (va_A wc H.size)) mc ms (va_A wc H.size)) (cw : va_CN R s args own index y host bytes maxL ret ws rm mc ms n ∧ (Cond.static y).before args s = true ∧ True)
    (hE : EK D cA s) (hP : va_P D vwCl wsW H) (hD : va_D A wsW) (hS : va_S A H0 H locs) (hA : ∀ q, H0.size ≤ q → A q) (ps : List Nat) (hnd : va_nd ps = true) (hps : ps.map (fun i => wsW[i]?) = wc.map some) (as : List Nat) (hs1 : ∀ u : S, (wB u).map (fun q => q.1) = as) (hs2 : wc.map (fun q => q.1) = as) (w2 : S → va_W) (hw2 : ∀ u : S, pst wsW ps (wB u) = w2 u) (hXb : Blind X) (hX : ∀ U : State, U.heap = H → s.WarmedH U.vm → X U)
    (hls : ls.size = nL) (hn : As.length = n) (hst : st0 = As.reverse ++ rest) (hW : (rest.map fun v => v.category).sum ≤ 8) (hdg : decode cc pc = .ok (.invokestatic index, 3)) (hf : cells + mc ≤ R.cells ∧ slots + ms ≤ R.slots)
    (kk : ∀ (r : Int64) (u : S) (H1 : Heap) (locs1 : List Loc), post r u → va_P D vwCl (w2 u) H1 → va_D A (w2 u) → va_S A H0 H1 locs1 → W p l e R s m args below meth c H1 locs1 (cells + mc) (slots + ms) Q (F0 m (pc + 3) ls (.long r :: rest))) : W p l e R s m args below meth c H locs cells slots Q (F0 m pc ls st0) := by
  subst hst
  have hF := va_free (wc := wc) hD hS hA ps hps
  refine va_calll (va_runSN (rest := rest) Sx hM cw ⟨Pr.blind hXb, pr_at hE hP hD ps hnd hps hX⟩ rfl hn hls rfl (lv_room hW) hdg hf) hS (fun q _ h => hF q h) hF (fun r u t H1 locs1 ht hvm hw hB hz1 hk1 hS1 => ?_)
  rw [ht] at hB
  obtain ⟨hP1, hD1⟩ := pst_join hP hD ps hps ((hs1 u).trans hs2.symm) hk1 hB
  rw [hw2 u] at hP1 hD1
  exact kk r u H1 locs1 hw hP1 hD1 hS1
theorem pNl {S : Type} {ret : Option FieldType} {post : Int64 → S → Prop} (Sx : CallFix p m c cc nL s args Ts own) (hM : Met l y ws rm (Pr D cA As H.size wc X) (va_Ql post (fun _ _ => True) (fun q => H.size ≤ q)) mc ms (fun q => H.size ≤ q)) (cw : va_CN R s args own index y host bytes maxL ret ws rm mc ms n ∧ (Cond.static y).before args s = true ∧ True)
    (hE : EK D cA s) (hP : va_P D vwCl wsW H) {A9 : Nat → Prop} (hD : va_D A9 wsW) (hS : va_S A H0 H locs) (hA : ∀ q, H0.size ≤ q → A q) (ps : List Nat) (hnd : va_nd ps = true) (hps : ps.map (fun i => wsW[i]?) = wc.map some) (hXb : Blind X) (hX : ∀ U : State, U.heap = H → s.WarmedH U.vm → X U)
    (hls : ls.size = nL) (hn : As.length = n) (hst : st0 = As.reverse ++ rest) (hW : (rest.map fun v => v.category).sum ≤ 8) (hdg : decode cc pc = .ok (.invokestatic index, 3)) (hf : cells + mc ≤ R.cells ∧ slots + ms ≤ R.slots)
    (kk : ∀ (r : Int64) (u : S) (H1 : Heap) (locs1 : List Loc), post r u → va_P D vwCl wsW H1 → va_S A H0 H1 locs1 → W p l e R s m args below meth c H1 locs1 (cells + mc) (slots + ms) Q (F0 m (pc + 3) ls (.long r :: rest))) : W p l e R s m args below meth c H locs cells slots Q (F0 m pc ls st0) := by
  subst hst
  have hF : ∀ q, H.size ≤ q → A q := fun q h => hA q (Nat.le_trans hS.1 h)
  refine va_calll (va_runSN (rest := rest) Sx hM cw ⟨Pr.blind hXb, pr_at hE hP hD ps hnd hps hX⟩ rfl hn hls rfl (lv_room hW) hdg hf) hS (fun q _ h => hF q h) hF (fun r u t H1 locs1 ht hvm hw hB hz1 hk1 hS1 => ?_)
  exact kk r u H1 locs1 hw (pure_P hP hk1) hS1
theorem cNd {S : Type} {ret : Option FieldType} {post : UInt64 → S → Prop} {wB : S → va_W} (Sx : CallFix p m c cc nL s args Ts own) (hM : Met l y ws rm (Pr D cA As H.size wc X) (va_Qd post (fun u t => va_P D vwCl (wB u) t.heap) (va_A wc H.size)) mc ms (va_A wc H.size)) (cw : va_CN R s args own index y host bytes maxL ret ws rm mc ms n ∧ (Cond.static y).before args s = true ∧ True)
    (hE : EK D cA s) (hP : va_P D vwCl wsW H) (hD : va_D A wsW) (hS : va_S A H0 H locs) (hA : ∀ q, H0.size ≤ q → A q) (ps : List Nat) (hnd : va_nd ps = true) (hps : ps.map (fun i => wsW[i]?) = wc.map some) (as : List Nat) (hs1 : ∀ u : S, (wB u).map (fun q => q.1) = as) (hs2 : wc.map (fun q => q.1) = as) (w2 : S → va_W) (hw2 : ∀ u : S, pst wsW ps (wB u) = w2 u) (hXb : Blind X) (hX : ∀ U : State, U.heap = H → s.WarmedH U.vm → X U)
    (hls : ls.size = nL) (hn : As.length = n) (hst : st0 = As.reverse ++ rest) (hW : (rest.map fun v => v.category).sum ≤ 8) (hdg : decode cc pc = .ok (.invokestatic index, 3)) (hf : cells + mc ≤ R.cells ∧ slots + ms ≤ R.slots)
    (kk : ∀ (r : UInt64) (u : S) (H1 : Heap) (locs1 : List Loc), post r u → va_P D vwCl (w2 u) H1 → va_D A (w2 u) → va_S A H0 H1 locs1 → W p l e R s m args below meth c H1 locs1 (cells + mc) (slots + ms) Q (F0 m (pc + 3) ls (.double r :: rest))) : W p l e R s m args below meth c H locs cells slots Q (F0 m pc ls st0) := by
  subst hst
  have hF := va_free (wc := wc) hD hS hA ps hps
  refine va_calld (va_runSN (rest := rest) Sx hM cw ⟨Pr.blind hXb, pr_at hE hP hD ps hnd hps hX⟩ rfl hn hls rfl (lv_room hW) hdg hf) hS (fun q _ h => hF q h) hF (fun r u t H1 locs1 ht hvm hw hB hz1 hk1 hS1 => ?_)
  rw [ht] at hB
  obtain ⟨hP1, hD1⟩ := pst_join hP hD ps hps ((hs1 u).trans hs2.symm) hk1 hB
  rw [hw2 u] at hP1 hD1
  exact kk r u H1 locs1 hw hP1 hD1 hS1
theorem pNd {S : Type} {ret : Option FieldType} {post : UInt64 → S → Prop} (Sx : CallFix p m c cc nL s args Ts own) (hM : Met l y ws rm (Pr D cA As H.size wc X) (va_Qd post (fun _ _ => True) (fun q => H.size ≤ q)) mc ms (fun q => H.size ≤ q)) (cw : va_CN R s args own index y host bytes maxL ret ws rm mc ms n ∧ (Cond.static y).before args s = true ∧ True)
    (hE : EK D cA s) (hP : va_P D vwCl wsW H) {A9 : Nat → Prop} (hD : va_D A9 wsW) (hS : va_S A H0 H locs) (hA : ∀ q, H0.size ≤ q → A q) (ps : List Nat) (hnd : va_nd ps = true) (hps : ps.map (fun i => wsW[i]?) = wc.map some) (hXb : Blind X) (hX : ∀ U : State, U.heap = H → s.WarmedH U.vm → X U)
    (hls : ls.size = nL) (hn : As.length = n) (hst : st0 = As.reverse ++ rest) (hW : (rest.map fun v => v.category).sum ≤ 8) (hdg : decode cc pc = .ok (.invokestatic index, 3)) (hf : cells + mc ≤ R.cells ∧ slots + ms ≤ R.slots)
    (kk : ∀ (r : UInt64) (u : S) (H1 : Heap) (locs1 : List Loc), post r u → va_P D vwCl wsW H1 → va_S A H0 H1 locs1 → W p l e R s m args below meth c H1 locs1 (cells + mc) (slots + ms) Q (F0 m (pc + 3) ls (.double r :: rest))) : W p l e R s m args below meth c H locs cells slots Q (F0 m pc ls st0) := by
  subst hst
  have hF : ∀ q, H.size ≤ q → A q := fun q h => hA q (Nat.le_trans hS.1 h)
  refine va_calld (va_runSN (rest := rest) Sx hM cw ⟨Pr.blind hXb, pr_at hE hP hD ps hnd hps hX⟩ rfl hn hls rfl (lv_room hW) hdg hf) hS (fun q _ h => hF q h) hF (fun r u t H1 locs1 ht hvm hw hB hz1 hk1 hS1 => ?_)
  exact kk r u H1 locs1 hw (pure_P hP hk1) hS1
theorem cNv {S : Type} {ret : Option FieldType} {post : S → Prop} {wB : S → va_W} (Sx : CallFix p m c cc nL s args Ts own) (hM : Met l y ws rm (Pr D cA As H.size wc X) (va_Qv post (fun u t => va_P D vwCl (wB u) t.heap) (va_A wc H.size)) mc ms (va_A wc H.size)) (cw : va_CN R s args own index y host bytes maxL ret ws rm mc ms n ∧ (Cond.static y).before args s = true ∧ True)
    (hE : EK D cA s) (hP : va_P D vwCl wsW H) (hD : va_D A wsW) (hS : va_S A H0 H locs) (hA : ∀ q, H0.size ≤ q → A q) (ps : List Nat) (hnd : va_nd ps = true) (hps : ps.map (fun i => wsW[i]?) = wc.map some) (as : List Nat) (hs1 : ∀ u : S, (wB u).map (fun q => q.1) = as) (hs2 : wc.map (fun q => q.1) = as) (w2 : S → va_W) (hw2 : ∀ u : S, pst wsW ps (wB u) = w2 u) (hXb : Blind X) (hX : ∀ U : State, U.heap = H → s.WarmedH U.vm → X U)
    (hls : ls.size = nL) (hn : As.length = n) (hst : st0 = As.reverse ++ rest) (hW : (rest.map fun v => v.category).sum ≤ 8) (hdg : decode cc pc = .ok (.invokestatic index, 3)) (hf : cells + mc ≤ R.cells ∧ slots + ms ≤ R.slots)
    (kk : ∀ (u : S) (H1 : Heap) (locs1 : List Loc), post u → va_P D vwCl (w2 u) H1 → va_D A (w2 u) → va_S A H0 H1 locs1 → W p l e R s m args below meth c H1 locs1 (cells + mc) (slots + ms) Q (F0 m (pc + 3) ls rest)) : W p l e R s m args below meth c H locs cells slots Q (F0 m pc ls st0) := by
  subst hst
  have hF := va_free (wc := wc) hD hS hA ps hps
  refine va_callv (va_runSN (rest := rest) Sx hM cw ⟨Pr.blind hXb, pr_at hE hP hD ps hnd hps hX⟩ rfl hn hls rfl (lv_room hW) hdg hf) hS (fun q _ h => hF q h) hF (fun u t H1 locs1 ht hvm hw hB hz1 hk1 hS1 => ?_)
  rw [ht] at hB
  obtain ⟨hP1, hD1⟩ := pst_join hP hD ps hps ((hs1 u).trans hs2.symm) hk1 hB
  rw [hw2 u] at hP1 hD1
  exact kk u H1 locs1 hw hP1 hD1 hS1
theorem pNv {S : Type} {ret : Option FieldType} {post : S → Prop} (Sx : CallFix p m c cc nL s args Ts own) (hM : Met l y ws rm (Pr D cA As H.size wc X) (va_Qv post (fun _ _ => True) (fun q => H.size ≤ q)) mc ms (fun q => H.size ≤ q)) (cw : va_CN R s args own index y host bytes maxL ret ws rm mc ms n ∧ (Cond.static y).before args s = true ∧ True)
    (hE : EK D cA s) (hP : va_P D vwCl wsW H) {A9 : Nat → Prop} (hD : va_D A9 wsW) (hS : va_S A H0 H locs) (hA : ∀ q, H0.size ≤ q → A q) (ps : List Nat) (hnd : va_nd ps = true) (hps : ps.map (fun i => wsW[i]?) = wc.map some) (hXb : Blind X) (hX : ∀ U : State, U.heap = H → s.WarmedH U.vm → X U)
    (hls : ls.size = nL) (hn : As.length = n) (hst : st0 = As.reverse ++ rest) (hW : (rest.map fun v => v.category).sum ≤ 8) (hdg : decode cc pc = .ok (.invokestatic index, 3)) (hf : cells + mc ≤ R.cells ∧ slots + ms ≤ R.slots)
    (kk : ∀ (u : S) (H1 : Heap) (locs1 : List Loc), post u → va_P D vwCl wsW H1 → va_S A H0 H1 locs1 → W p l e R s m args below meth c H1 locs1 (cells + mc) (slots + ms) Q (F0 m (pc + 3) ls rest)) : W p l e R s m args below meth c H locs cells slots Q (F0 m pc ls st0) := by
  subst hst
  have hF : ∀ q, H.size ≤ q → A q := fun q h => hA q (Nat.le_trans hS.1 h)
  refine va_callv (va_runSN (rest := rest) Sx hM cw ⟨Pr.blind hXb, pr_at hE hP hD ps hnd hps hX⟩ rfl hn hls rfl (lv_room hW) hdg hf) hS (fun q _ h => hF q h) hF (fun u t H1 locs1 ht hvm hw hB hz1 hk1 hS1 => ?_)
  exact kk u H1 locs1 hw (pure_P hP hk1) hS1
end OWNKIT
def bi (b : Bool) : Int32 := if b then 1 else 0
theorem bi_0 {b : Bool} : bi b = 0 ↔ b = false := by cases b <;> decide
theorem bi_1 {b : Bool} : ¬ bi b = 0 ↔ b = true := by cases b <;> decide
theorem bi_t {b : Bool} : bi b = 1 ↔ b = true := by cases b <;> decide
theorem bi_f {b : Bool} : ¬ bi b = 1 ↔ b = false := by cases b <;> decide
theorem nar_bi (b : Bool) : narrow .boolean (.int (bi b)) = .int (bi b) := by cases b <;> decide
theorem dec_nI (n : Nat) (h : 0 < n) : nI n + Int32.ofInt (-1) = nI (n - 1) := by
  obtain ⟨k, rfl⟩ : ∃ k, n = k + 1 := ⟨n - 1, by omega⟩
  exact pk_m1 k
def up {α : Type} (f : Nat → α) (k : Nat) (x : α) : Nat → α := fun j => if j = k then x else f j
theorem up_s {α : Type} {f : Nat → α} {k : Nat} {x : α} : up f k x k = x := if_pos rfl
theorem up_n {α : Type} {f : Nat → α} {k j : Nat} {x : α} (h : j ≠ k) : up f k x j = f j := if_neg h
/-- what a row answers at a place -/
def rg (n : Nat) (f : Nat → Int32) (x : Int32) : Int32 := if 0 ≤ x ∧ x < nI n then f x.toNatClampNeg else 0
/-- a row behind a put -/
def rp (n : Nat) (f : Nat → Int32) (x v : Int32) : Nat → Int32 := if 0 ≤ x ∧ x < nI n then upd f x.toNatClampNeg v else f
theorem in_row {n k : Nat} (hk : k < n) (hn : n < 2 ^ 31) : 0 ≤ nI k ∧ nI k < nI n := ⟨nI_pos' (by omega), nI_lt hk hn⟩
theorem rg_nI {n k : Nat} {f : Nat → Int32} (hk : k < n) (hn : n < 2 ^ 31) : rg n f (nI k) = f k := by
  unfold rg
  rw [if_pos (in_row hk hn), nI_clamp (by omega)]
theorem rp_nI {n k : Nat} {f : Nat → Int32} {v : Int32} (hk : k < n) (hn : n < 2 ^ 31) : rp n f (nI k) v = upd f k v := by
  unfold rp
  rw [if_pos (in_row hk hn), nI_clamp (by omega)]
theorem put_I {n k : Nat} {f : Nat → Int32} {v : Int32} (hk : k < n) (hn : n < 2 ^ 31) : ∀ j, j < n → rp n f (nI k) v j = up f k v j := fun j _ => by rw [rp_nI hk hn]; rfl
theorem put_N {n k : Nat} {f : Nat → Nat} {v : Nat} (hk : k < n) (hn : n < 2 ^ 31) : ∀ j, j < n → rp n (fun i => nI (f i)) (nI k) (nI v) j = nI (up f k v j) := fun j _ => by
  rw [rp_nI hk hn]
  unfold upd up
  split <;> rfl
theorem put_B {n k : Nat} {f : Nat → Bool} {v : Bool} (hk : k < n) (hn : n < 2 ^ 31) : ∀ j, j < n → rp n (fun i => bi (f i)) (nI k) (bi v) j = bi (up f k v j) := fun j _ => by
  rw [rp_nI hk hn]
  unfold upd up
  split <;> rfl
section OWNKIT2
variable {p : Program} {l : Launch} {e : Env} {R : Room} {s : State} {m : MethodId} {args : Array Value} {below : List Frame} {meth : Method} {c : Code} {H : Heap} {locs : List Loc} {cells slots : Nat} {Q : State → Prop}
variable {pc : Nat} {ls : Array Slot} {rest st0 : List Value} {A : Nat → Prop} {H0 : Heap} {D : va_G} {cA : ClassId} {wsW : va_W} {cc : ByteArray} {a : Nat}
theorem top_i {x : Int32} (y : Int32) (h : x = y) (k : W p l e R s m args below meth c H locs cells slots Q (F0 m pc ls (.int y :: rest))) : W p l e R s m args below meth c H locs cells slots Q (F0 m pc ls (.int x :: rest)) := by rw [h]; exact k
theorem top_l {x : Int64} (y : Int64) (h : x = y) (k : W p l e R s m args below meth c H locs cells slots Q (F0 m pc ls (.long y :: rest))) : W p l e R s m args below meth c H locs cells slots Q (F0 m pc ls (.long x :: rest)) := by rw [h]; exact k
theorem ald (hexec : p.tables.exec = Jvm.exec) (hb : c.code = cc) (hE : EK D cA s) (hP : va_P D vwCl wsW H) (q0 : Nat) {n : Nat} {f : Nat → Int32} (ha : wsW[q0]? = some (a, .inl (cA, n, .inl f))) {k : Nat} (hk : k < n) (hn : n < 2 ^ 31) {v : Int32} (hv : f k = v) (hdg : decode cc pc = .ok (.iaload, 1))
    (kk : W p l e R s m args below meth c H locs cells slots Q (F0 m (pc + 1) ls (.int v :: rest))) : W p l e R s m args below meth c H locs cells slots Q (F0 m pc ls (.int (nI k) :: .ref a :: rest)) := by
  refine va_iald hexec hb hE.1 hP q0 0 ha rfl (vp_in_nI hk hn) hdg ?_
  rw [nI_clamp (by omega), hv]
  exact kk
theorem ast (hexec : p.tables.exec = Jvm.exec) (hb : c.code = cc) (hE : EK D cA s) (hP : va_P D vwCl wsW H) (hD : va_D A wsW) (hS : va_S A H0 H locs) (q0 : Nat) {n : Nat} {f : Nat → Int32} (ha : wsW[q0]? = some (a, .inl (cA, n, .inl f))) {k : Nat} (hk : k < n) (hn : n < 2 ^ 31) {x : Int32} (g : Nat → Int32) (hg : ∀ j, j < n → upd f k x j = g j) (hdg : decode cc pc = .ok (.iastore, 1))
    (kk : ∀ (H1 : Heap) (locs1 : List Loc), va_P D vwCl (wsW.set q0 (a, .inl (cA, n, .inl g))) H1 → va_D A (wsW.set q0 (a, .inl (cA, n, .inl g))) → va_S A H0 H1 locs1 → W p l e R s m args below meth c H1 locs1 cells slots Q (F0 m (pc + 1) ls rest)) : W p l e R s m args below meth c H locs cells slots Q (F0 m pc ls (.int x :: .int (nI k) :: .ref a :: rest)) := by
  refine va_iast hexec hb hE.1 hP hD hS q0 0 ha rfl (vp_in_nI hk hn) hdg (fun H1 locs1 hP1 hD1 hS1 => ?_)
  have hlt : q0 < wsW.length := (List.getElem?_eq_some_iff.mp ha).1
  refine kk H1 locs1 ?_ (hD.set ha) hS1
  have h2 := hP1.arr q0 g (List.getElem?_set_self hlt) (fun j hj => by rw [nI_clamp (by omega)]; exact hg j hj)
  rw [List.set_set] at h2
  exact h2
end OWNKIT2
end
section
/-! the lanterns: frame, wish, lane, place, wax, wet, burns, state, end (a number for each lantern), how many, the minute -/
abbrev FSt : Type := (Nat → Nat) × (Nat → Int32) × (Nat → Nat) × (Nat → Nat) × (Nat → Nat) × (Nat → Int32) × (Nat → Bool) × (Nat → Nat) × (Nat → Int32) × (Nat) × (Int32)
def qFr (a : FSt) : Nat → Nat := a.1
def qWi (a : FSt) : Nat → Int32 := a.2.1
def qLa (a : FSt) : Nat → Nat := a.2.2.1
def qPl (a : FSt) : Nat → Nat := a.2.2.2.1
def qWx (a : FSt) : Nat → Nat := a.2.2.2.2.1
def qWe (a : FSt) : Nat → Int32 := a.2.2.2.2.2.1
def qBu (a : FSt) : Nat → Bool := a.2.2.2.2.2.2.1
def qSt (a : FSt) : Nat → Nat := a.2.2.2.2.2.2.2.1
def qEn (a : FSt) : Nat → Int32 := a.2.2.2.2.2.2.2.2.1
def qN (a : FSt) : Nat := a.2.2.2.2.2.2.2.2.2.1
def qM (a : FSt) : Int32 := a.2.2.2.2.2.2.2.2.2.2
def uFr (a : FSt) (x : Nat → Nat) : FSt := (x, a.2)
def uWi (a : FSt) (x : Nat → Int32) : FSt := (a.1, x, a.2.2)
def uLa (a : FSt) (x : Nat → Nat) : FSt := (a.1, a.2.1, x, a.2.2.2)
def uPl (a : FSt) (x : Nat → Nat) : FSt := (a.1, a.2.1, a.2.2.1, x, a.2.2.2.2)
def uWx (a : FSt) (x : Nat → Nat) : FSt := (a.1, a.2.1, a.2.2.1, a.2.2.2.1, x, a.2.2.2.2.2)
def uWe (a : FSt) (x : Nat → Int32) : FSt := (a.1, a.2.1, a.2.2.1, a.2.2.2.1, a.2.2.2.2.1, x, a.2.2.2.2.2.2)
def uBu (a : FSt) (x : Nat → Bool) : FSt := (a.1, a.2.1, a.2.2.1, a.2.2.2.1, a.2.2.2.2.1, a.2.2.2.2.2.1, x, a.2.2.2.2.2.2.2)
def uSt (a : FSt) (x : Nat → Nat) : FSt := (a.1, a.2.1, a.2.2.1, a.2.2.2.1, a.2.2.2.2.1, a.2.2.2.2.2.1, a.2.2.2.2.2.2.1, x, a.2.2.2.2.2.2.2.2)
def uEn (a : FSt) (x : Nat → Int32) : FSt := (a.1, a.2.1, a.2.2.1, a.2.2.2.1, a.2.2.2.2.1, a.2.2.2.2.2.1, a.2.2.2.2.2.2.1, a.2.2.2.2.2.2.2.1, x, a.2.2.2.2.2.2.2.2.2)
def uN (a : FSt) (x : Nat) : FSt := (a.1, a.2.1, a.2.2.1, a.2.2.2.1, a.2.2.2.2.1, a.2.2.2.2.2.1, a.2.2.2.2.2.2.1, a.2.2.2.2.2.2.2.1, a.2.2.2.2.2.2.2.2.1, x, a.2.2.2.2.2.2.2.2.2.2)
def uM (a : FSt) (x : Int32) : FSt := (a.1, a.2.1, a.2.2.1, a.2.2.2.1, a.2.2.2.2.1, a.2.2.2.2.2.1, a.2.2.2.2.2.2.1, a.2.2.2.2.2.2.2.1, a.2.2.2.2.2.2.2.2.1, a.2.2.2.2.2.2.2.2.2.1, x)
/-! the river: currents, sprays, nets, how many weirs, how many nets -/
abbrev BSt : Type := (Nat → Nat) × (Nat → Int32) × (Nat → Bool) × (Nat) × (Nat)
def bCu (b : BSt) : Nat → Nat := b.1
def bSp (b : BSt) : Nat → Int32 := b.2.1
def bNe (b : BSt) : Nat → Bool := b.2.2.1
def bW (b : BSt) : Nat := b.2.2.2.1
def bK (b : BSt) : Nat := b.2.2.2.2
def vCu (b : BSt) (x : Nat → Nat) : BSt := (x, b.2)
def vSp (b : BSt) (x : Nat → Int32) : BSt := (b.1, x, b.2.2)
def vNe (b : BSt) (x : Nat → Bool) : BSt := (b.1, b.2.1, x, b.2.2.2)
def vW (b : BSt) (x : Nat) : BSt := (b.1, b.2.1, b.2.2.1, x, b.2.2.2.2)
def vK (b : BSt) (x : Nat) : BSt := (b.1, b.2.1, b.2.2.1, b.2.2.2.1, x)
def takes (f : Nat) : Int32 := if f = 0 then 12 else if f = 1 then 8 else 5
def waxOf (f : Nat) : Nat := if f = 0 then 20 else if f = 1 then 30 else 45
def soaked (a : FSt) (k : Nat) : Bool := decide (takes (qFr a k) < qWe a k)
def cnt : Nat → (Nat → Bool) → Nat
  | 0, _ => 0
  | n + 1, P => cnt n P + (if P n then 1 else 0)
def anyN : Nat → (Nat → Bool) → Bool
  | 0, _ => false
  | n + 1, P => anyN n P || P n
def itr {α : Type} (f : Nat → α → α) : Nat → α → α
  | 0, x => x
  | n + 1, x => f n (itr f n x)
def spotA (a : FSt) (l p so k : Nat) : Bool := qSt a k == so && (qLa a k == l && qPl a k == p)
def atA (a : FSt) (l p so : Nat) : Nat := cnt (qN a) (spotA a l p so)
def catches (a : FSt) (k o : Nat) : Bool := qSt a o == 0 && (qLa a o == qLa a k && (qPl a o == qPl a k + 1 && qFr a o != qFr a k))
def caughtA (a : FSt) (k : Nat) : Bool := anyN (qN a) (catches a k)
def imax1 (x : Int32) : Int32 := if 1 < x then x else 1
def belowA (a : FSt) (k : Nat) : Nat := atA a (qLa a k) (qPl a k + 1) 0 + atA a (qLa a k) (qPl a k + 2) 0 + atA a (qLa a k) (qPl a k + 3) 0
def endA (a : FSt) (k so : Nat) : FSt := uEn (uSt a (up (qSt a) k so)) (up (qEn a) k (qM a))
def outA (a : FSt) (k : Nat) : FSt := uBu a (up (qBu a) k false)
def wetA (b : BSt) (a : FSt) (k : Nat) : FSt := uWe a (up (qWe a) k (qWe a k + imax1 (bSp b (qPl a k) - nI (belowA a k))))
def dryA (a : FSt) (k : Nat) : FSt := if soaked a k = true then outA a k else a
def weirA (b : BSt) (a : FSt) (k : Nat) : FSt := if 0 < bSp b (qPl a k) then dryA (wetA b a k) k else a
def netA (b : BSt) (a : FSt) (k : Nat) : FSt := if bNe b (qLa a k * 60 + qPl a k) = true then endA a k 1 else a
def movA (a : FSt) (k : Nat) : FSt := uPl a (up (qPl a) k (qPl a k + 1))
def stepA (b : BSt) (a : FSt) (k : Nat) : FSt := if qPl a k + 1 = 60 then outA (endA (movA a k) k 2) k else netA b (weirA b (movA a k) k) k
def driftN (b : BSt) : Nat → FSt → Nat → FSt
  | 0, a, _ => a
  | n + 1, a, k => if qSt a k = 0 then (if caughtA a k = true then a else driftN b n (stepA b a k) k) else a
def driftA (b : BSt) (a : FSt) (k : Nat) : FSt := driftN b (bCu b (qLa a k)) a k
def aheadA (a : FSt) (i j : Nat) : Bool := if qPl a i = qPl a j then (if qLa a i = qLa a j then decide (i < j) else decide (qLa a i < qLa a j)) else decide (qPl a j < qPl a i)
def shiftO (P : Nat → Bool) : Nat → (Nat → Nat) → Nat × (Nat → Nat)
  | 0, g => (0, g)
  | t + 1, g => if P (g t) = true then shiftO P t (up g (t + 1) (g t)) else (t + 1, g)
def insO (P : Nat → Bool) (k m : Nat) (g : Nat → Nat) : Nat → Nat := up (shiftO P m g).2 (shiftO P m g).1 k
def sortN (a : FSt) : Nat → Nat × (Nat → Nat)
  | 0 => (0, fun _ => 0)
  | i + 1 => if qSt a i = 0 then ((sortN a i).1 + 1, insO (aheadA a i) i (sortN a i).1 (sortN a i).2) else sortN a i
def ordM (a : FSt) : Nat := (sortN a (qN a)).1
def ordF (a : FSt) : Nat → Nat := (sortN a (qN a)).2
def waxA (a : FSt) (k : Nat) : FSt := if qSt a k = 0 ∧ qBu a k = true then (if qWx a k - 1 = 0 then outA (uWx a (up (qWx a) k (qWx a k - 1))) k else uWx a (up (qWx a) k (qWx a k - 1))) else a
def floatA (b : BSt) (o : Nat → Nat) (m : Nat) (a : FSt) : FSt := itr (fun j a => driftA b a (o j)) m a
def burnA (m : Nat) (a : FSt) : FSt := itr (fun k a => waxA a k) m a
def tickA (a : FSt) : FSt := uM a (qM a + 1)
def minA (b : BSt) (a : FSt) : FSt := tickA (burnA (qN a) (floatA b (ordF a) (ordM a) a))
def minsA (b : BSt) (m : Nat) (a : FSt) : FSt := itr (fun _ a => minA b a) m a
def shareA (a : FSt) (what k : Nat) : Int32 := match what with
  | 2 => if qSt a k = 0 then 1 else 0
  | 3 => if qSt a k = 1 then 1 else 0
  | 4 => if qSt a k = 2 then 1 else 0
  | 5 => if qSt a k = 0 then bi (qBu a k) else 0
  | 6 => if qSt a k = 1 then bi (qBu a k) else 0
  | _ => if qSt a k = 1 then bi (qBu a k) * qWi a k else 0
def sumA (a : FSt) (what n : Nat) : Int32 := itr (fun k z => z + shareA a what k) n 0
def tallyA (a : FSt) (what : Nat) : Int32 := sumA a what (qN a)
def countA (a : FSt) (b : BSt) (what : Nat) : Int32 := match what with
  | 0 => qM a
  | 1 => nI (qN a)
  | 7 => nI (bW b)
  | 8 => nI (bK b)
  | _ => tallyA a what
def riverA (a : FSt) (b : BSt) (l p what : Nat) : Int32 := match what with
  | 0 => nI (atA a l p 0)
  | 1 => bSp b p
  | 2 => bi (bNe b (l * 60 + p))
  | _ => nI (atA a l p 1)
def nextF (b : BSt) : Nat → Nat → Int32
  | 0, _ => -1
  | f + 1, p => if 0 < bSp b p then nI p else nextF b f (p + 1)
def nextA (a : FSt) (b : BSt) (k : Nat) : Int32 := if qSt a k = 0 then nextF b (59 - qPl a k) (qPl a k + 1) else -1
def factA (a : FSt) (k what : Nat) : Int32 := match what with
  | 0 => nI (qFr a k)
  | 1 => qWi a k
  | 2 => nI (qLa a k)
  | 3 => nI (qPl a k)
  | 4 => nI (qWx a k)
  | 5 => qWe a k
  | 6 => bi (qBu a k)
  | 7 => nI (qSt a k)
  | _ => qEn a k
def addA (a : FSt) (f : Nat) (w : Int32) (l p : Nat) : FSt := (up (qFr a) (qN a) f, up (qWi a) (qN a) w, up (qLa a) (qN a) l, up (qPl a) (qN a) p, up (qWx a) (qN a) (waxOf f), up (qWe a) (qN a) 0, up (qBu a) (qN a) true, up (qSt a) (qN a) 0, up (qEn a) (qN a) (-1), qN a + 1, qM a)
def comesF (b : BSt) (k : Nat) : Nat → Nat → FSt → Nat
  | 0, _, _ => 61
  | f + 1, m, a => if qSt (minA b a) k = 1 ∧ qBu (minA b a) k = true then m else comesF b k f (m + 1) (minA b a)
def comesA (b : BSt) (a : FSt) (f l : Nat) : Nat := comesF b (qN a) 60 1 (addA a f 0 l 0)
def bestA (g : Nat → Nat) : Nat → Int32 × Nat
  | 0 => (-1, 61)
  | l + 1 => if g l < (bestA g l).2 then (nI l, g l) else bestA g l
def adviseA (b : BSt) (a : FSt) (f : Nat) : Int32 := (bestA (comesA b a f) 3).1
def burnsF (b : BSt) (k : Nat) : Nat → Nat → FSt → Int32
  | 0, _, _ => -1
  | f + 1, m, a => if qBu a k = true then burnsF b k f (m + 1) (minA b a) else nI m
def burnsA (b : BSt) (a : FSt) (k : Nat) : Int32 := burnsF b k 61 0 a
def placesA (a : FSt) (n : Nat) : Int32 := itr (fun k z => z + (if qSt a k = 0 then nI (qPl a k) else 0)) n 0
def meanA (a : FSt) : UInt64 := if tallyA a 2 = 0 then 0 else FP.ddiv (FP.i2d (placesA a (qN a))) (FP.i2d (tallyA a 2))
def dg (d : Int64) (x : Int32) : Int64 := d * 31 + x.toInt64
def dgC (a : FSt) (b : BSt) (n : Nat) (d : Int64) : Int64 := itr (fun w d => dg d (countA a b w)) n d
def dgU (b : BSt) (n : Nat) (d : Int64) : Int64 := itr (fun i d => dg d (nI (bCu b i))) n d
def dgR3 (a : FSt) (b : BSt) (l p n : Nat) (d : Int64) : Int64 := itr (fun w d => dg d (riverA a b l p w)) n d
def dgR2 (a : FSt) (b : BSt) (p n : Nat) (d : Int64) : Int64 := itr (fun l d => dgR3 a b l p 4 d) n d
def dgR (a : FSt) (b : BSt) (n : Nat) (d : Int64) : Int64 := itr (fun p d => dgR2 a b p 3 d) n d
def dgL1 (a : FSt) (k n : Nat) (d : Int64) : Int64 := itr (fun w d => dg d (factA a k w)) n d
def dgL (a : FSt) (b : BSt) (n : Nat) (d : Int64) : Int64 := itr (fun k d => dg (dgL1 a k 9 d) (nextA a b k)) n d
def digA (a : FSt) (b : BSt) : Int64 := dgL a b (qN a) (dgR a b 60 (dgU b 3 (dgC a b 10 1297)))
/-- what is kept of the lanterns -/
def WFa (a : FSt) : Prop := qN a ≤ 41 ∧ ∀ i, i < qN a → qFr a i < 3 ∧ qLa a i < 3 ∧ qPl a i ≤ 60 ∧ qSt a i < 3 ∧ (qSt a i = 0 → qPl a i < 60) ∧ (qSt a i = 2 → qBu a i = false) ∧ qWx a i ≤ 45 ∧ (qSt a i = 0 → qBu a i = true → 0 < qWx a i)
/-- .. of the river -/
def WFb (b : BSt) : Prop := (∀ l, l < 3 → 1 ≤ bCu b l ∧ bCu b l ≤ 5) ∧ bW b ≤ 6 ∧ bK b ≤ 4
/-- .. of both -/
def WFn (b : BSt) (a : FSt) : Prop := ∀ i, i < qN a → qSt a i = 1 → bNe b (qLa a i * 60 + qPl a i) = true
/-- the crowd's place of a spot -/
def ckA (l p f : Nat) : Nat := (l * 60 + p) * 3 + f
def ck (l p f : Nat) : Int32 := if p < 60 then nI (ckA l p f) else -1
def spotF (a : FSt) (l p f k : Nat) : Bool := qSt a k == 0 && (qLa a k == l && (qPl a k == p && qFr a k == f))
def CRa (a : FSt) (c : Nat → Int32) : Prop := ∀ l p f, l < 3 → p < 60 → f < 3 → c (ckA l p f) = nI (cnt (qN a) (spotF a l p f))
def cby (a : FSt) (c : Nat → Int32) (k : Nat) (v : Int32) : Nat → Int32 := rp 540 c (ck (qLa a k) (qPl a k) (qFr a k)) (rg 540 c (ck (qLa a k) (qPl a k) (qFr a k)) + v)
/-! the worlds -/
abbrev wR (cA : ClassId) (r b n : Nat) (f : Nat → Int32) : va_W := [(r, .inr (2, [.ref b])), (b, .inl (cA, n, .inl f))]
abbrev wF (cA : ClassId) (F : Nat → Nat) (a : FSt) (c q : Nat → Int32) : va_W := [(F 0, .inr (1, [.ref (F 1), .ref (F 2), .ref (F 3), .ref (F 4), .ref (F 5), .ref (F 6), .ref (F 7), .ref (F 8), .ref (F 9), .ref (F 10), .ref (F 11), .int (nI (qN a)), .int (qM a)])), (F 1, .inr (2, [.ref (F 12)])), (F 2, .inr (2, [.ref (F 13)])), (F 3, .inr (2, [.ref (F 14)])), (F 4, .inr (2, [.ref (F 15)])), (F 5, .inr (2, [.ref (F 16)])), (F 6, .inr (2, [.ref (F 17)])), (F 7, .inr (2, [.ref (F 18)])), (F 8, .inr (2, [.ref (F 19)])), (F 9, .inr (2, [.ref (F 20)])), (F 10, .inr (2, [.ref (F 21)])), (F 11, .inr (2, [.ref (F 22)])), (F 12, .inl (cA, 41, .inl (fun i => nI (qFr a i)))), (F 13, .inl (cA, 41, .inl (qWi a))), (F 14, .inl (cA, 41, .inl (fun i => nI (qLa a i)))), (F 15, .inl (cA, 41, .inl (fun i => nI (qPl a i)))), (F 16, .inl (cA, 41, .inl (fun i => nI (qWx a i)))), (F 17, .inl (cA, 41, .inl (qWe a))), (F 18, .inl (cA, 41, .inl (fun i => bi (qBu a i)))), (F 19, .inl (cA, 41, .inl (fun i => nI (qSt a i)))), (F 20, .inl (cA, 41, .inl (qEn a))), (F 21, .inl (cA, 540, .inl c)), (F 22, .inl (cA, 41, .inl q))]
abbrev wB (cA : ClassId) (B : Nat → Nat) (b : BSt) : va_W := [(B 0, .inr (0, [.ref (B 1), .ref (B 2), .ref (B 3), .int (nI (bW b)), .int (nI (bK b))])), (B 1, .inr (2, [.ref (B 4)])), (B 2, .inr (2, [.ref (B 5)])), (B 3, .inr (2, [.ref (B 6)])), (B 4, .inl (cA, 3, .inl (fun i => nI (bCu b i)))), (B 5, .inl (cA, 60, .inl (bSp b))), (B 6, .inl (cA, 180, .inl (fun i => bi (bNe b i))))]
abbrev wX (cA : ClassId) (x : Nat) (B F G : Nat → Nat) (b : BSt) (a : FSt) (c q : Nat → Int32) (a2 : FSt) (c2 q2 : Nat → Int32) : va_W := [(x, .inr (3, [.ref (B 0), .ref (F 0), .ref (G 0)]))] ++ (wB cA B b ++ (wF cA F a c q ++ wF cA G a2 c2 q2))
abbrev wS (cA : ClassId) (S : Nat → Nat) (y : Nat) (a : FSt) (q : Nat → Int32) : va_W := [(S 0, .inr (4, [.int (qM a), .int (nI (qN a)), .ref (S 1), .ref (S 2), .ref (S 3), .ref (S 4), .ref (S 5), .ref (S 6), .ref (S 7), .ref (S 8), .ref (S 9), .ref (S 10), .ref y])), (S 1, .inl (cA, 41, .inl (fun i => nI (qFr a i)))), (S 2, .inl (cA, 41, .inl (qWi a))), (S 3, .inl (cA, 41, .inl (fun i => nI (qLa a i)))), (S 4, .inl (cA, 41, .inl (fun i => nI (qPl a i)))), (S 5, .inl (cA, 41, .inl (fun i => nI (qWx a i)))), (S 6, .inl (cA, 41, .inl (qWe a))), (S 7, .inl (cA, 41, .inl (fun i => bi (qBu a i)))), (S 8, .inl (cA, 41, .inl (fun i => nI (qSt a i)))), (S 9, .inl (cA, 41, .inl (qEn a))), (S 10, .inl (cA, 41, .inl q))]
abbrev wM (cA : ClassId) (y : Nat) (E : Nat → Nat) (s1 s2 : Nat) (th : Int32) (b : BSt) : va_W := [(y, .inr (5, [.int th, .ref (E 0), .int (nI (bW b)), .ref (E 1), .int (nI (bK b)), .ref (E 2), .ref s1, .ref s2])), (E 0, .inl (cA, 3, .inl (fun i => nI (bCu b i)))), (E 1, .inl (cA, 60, .inl (bSp b))), (E 2, .inl (cA, 180, .inl (fun i => bi (bNe b i))))]
abbrev wY (cA : ClassId) (y : Nat) (E S T : Nat → Nat) (th : Int32) (b : BSt) (a : FSt) (q : Nat → Int32) (a2 : FSt) (q2 : Nat → Int32) : va_W := wM cA y E (S 0) (T 0) th b ++ (wS cA S y a q ++ wS cA T y a2 q2)
end
section
/-! small facts of numbers and rows -/
theorem nlt_iff (x y : Int32) : ¬ x < y ↔ y ≤ x := by rw [Int32.lt_iff_toInt_lt, Int32.le_iff_toInt_le]; omega
theorem nle_iff (x y : Int32) : ¬ x ≤ y ↔ y < x := by rw [Int32.lt_iff_toInt_lt, Int32.le_iff_toInt_le]; omega
theorem ix_of {x : Int32} {n : Nat} (hn : n < 2 ^ 31) (h0 : ¬ x < 0) (h : ¬ nI n ≤ x) : ∃ j : Nat, j < n ∧ x = nI j := by
  rcases pk_ix x hn with h1 | h1 | h1
  · exact absurd h1 h0
  · exact absurd h1 h
  · exact h1
theorem rg_neg {n : Nat} {f : Nat → Int32} {x : Int32} (h : x < 0) : rg n f x = 0 := if_neg (fun q => (nlt_iff x 0).mpr q.1 h)
theorem rg_big {n : Nat} {f : Nat → Int32} {x : Int32} (h : nI n ≤ x) : rg n f x = 0 := if_neg (fun q => (nlt_iff x (nI n)).mpr h q.2)
theorem rp_neg {n : Nat} {f : Nat → Int32} {x v : Int32} (h : x < 0) : rp n f x v = f := if_neg (fun q => (nlt_iff x 0).mpr q.1 h)
theorem rp_big {n : Nat} {f : Nat → Int32} {x v : Int32} (h : nI n ≤ x) : rp n f x v = f := if_neg (fun q => (nlt_iff x (nI n)).mpr h q.2)
theorem cpy_step {i : Nat} {g f2 : Nat → Int32} (h : ∀ j, j < i → g j = f2 j) : ∀ j, j < i + 1 → upd g i (f2 i) j = f2 j := fun j hj => by
  unfold upd
  split
  · next e => rw [e]
  · next e => exact h j (by omega)
def isW (x lo hi : Int32) : Bool := decide (lo ≤ x) && decide (x ≤ hi)
theorem isW_lt {x lo hi : Int32} (h : x < lo) : bi (isW x lo hi) = 0 := by
  have h1 : ¬ lo ≤ x := (nle_iff lo x).mpr h
  simp [isW, h1, bi]
theorem isW_gt {x lo hi : Int32} (h : hi < x) : bi (isW x lo hi) = 0 := by
  have h1 : ¬ x ≤ hi := (nle_iff x hi).mpr h
  simp [isW, h1, bi]
theorem isW_in {x lo hi : Int32} (h1 : ¬ x < lo) (h2 : ¬ hi < x) : bi (isW x lo hi) = 1 := by
  have h1 := (nlt_iff x lo).mp h1
  have h2 := (nlt_iff hi x).mp h2
  simp [isW, h1, h2, bi]
theorem upd_I {f : Nat → Int32} {k : Nat} {v : Int32} (j : Nat) : upd f k v j = up f k v j := rfl
theorem upd_N {f : Nat → Nat} {k v : Nat} (j : Nat) : upd (fun i => nI (f i)) k (nI v) j = nI (up f k v j) := by
  unfold upd up
  split <;> rfl
theorem upd_B {f : Nat → Bool} {k : Nat} {v : Bool} (j : Nat) : upd (fun i => bi (f i)) k (bi v) j = bi (up f k v j) := by
  unfold upd up
  split <;> rfl
theorem ck_out {l p f : Nat} (h : 60 ≤ p) : (-1 : Int32) = ck l p f := (if_neg (by omega)).symm
theorem ck_in {l p f : Nat} (h : ¬ 60 ≤ p) : nI ((l * 60 + p) * 3 + f) = ck l p f := (if_pos (by omega)).symm
theorem isW_lan {i n : Nat} (h : i < n) (hn : n ≤ 41) : isW (nI i) 0 (nI n - 1) = true := by
  obtain ⟨k, rfl⟩ : ∃ k, n = k + 1 := ⟨n - 1, by omega⟩
  rw [nI_pred]
  have h1 : (0 : Int32) ≤ nI i := nI_pos' (by omega)
  have h2 : nI i ≤ nI k := nI_le (by omega) (by omega)
  simp [isW, h1, h2]
theorem beq_t {x y : Nat} (h : x = y) : (1 : Int32) = bi (x == y) := by simp [bi, h]
theorem beq_f {x y : Nat} (h : ¬ x = y) : (0 : Int32) = bi (x == y) := by simp [bi, h]
theorem sk_f {a : FSt} {k : Nat} (h : qWe a k ≤ takes (qFr a k)) : (0 : Int32) = bi (soaked a k) := by
  have h1 := (nlt_iff (takes (qFr a k)) (qWe a k)).mpr h
  simp [bi, soaked, h1]
theorem sk_t {a : FSt} {k : Nat} (h : ¬ qWe a k ≤ takes (qFr a k)) : (1 : Int32) = bi (soaked a k) := by
  have h1 := (nle_iff (qWe a k) (takes (qFr a k))).mp h
  simp [bi, soaked, h1]
def litA (a : FSt) (k : Nat) : Bool := !qBu a k && (!soaked a k && decide (0 < qWx a k))
def mvA (a : FSt) (k l p : Nat) : FSt := uPl (uLa a (up (qLa a) k l)) (up (qPl a) k p)
theorem up_same {α : Type} (f : Nat → α) (k : Nat) : up f k (f k) = f := funext fun j => by
  unfold up
  split
  · next e => rw [e]
  · rfl
theorem mv_mov (a : FSt) (k : Nat) : mvA a k (qLa a k) (qPl a k + 1) = movA a k := by
  unfold mvA movA
  rw [up_same]
  rfl
def metA (v : Int32) (a : FSt) (k : Nat) : FSt := if 0 < v then dryA (uWe a (up (qWe a) k (qWe a k + imax1 (v - nI (belowA a k))))) k else a
theorem met_weir (b : BSt) (a : FSt) (k : Nat) : metA (bSp b (qPl a k)) a k = weirA b a k := rfl
theorem cnt_congr {P P' : Nat → Bool} : ∀ n : Nat, (∀ k, k < n → P k = P' k) → cnt n P = cnt n P'
  | 0, _ => rfl
  | n + 1, h => by
    simp only [cnt]
    rw [cnt_congr n (fun k hk => h k (by omega)), h n (by omega)]
theorem cnt_le (P : Nat → Bool) : ∀ n : Nat, cnt n P ≤ n
  | 0 => Nat.le_refl 0
  | n + 1 => by
    have h := cnt_le P n
    simp only [cnt]
    split <;> omega
/-- those at a spot, by their frames -/
theorem cnt_frames {a : FSt} {l p : Nat} : ∀ n : Nat, (∀ k, k < n → qFr a k < 3) → cnt n (spotF a l p 0) + cnt n (spotF a l p 1) + cnt n (spotF a l p 2) = cnt n (spotA a l p 0)
  | 0, _ => rfl
  | n + 1, h => by
    have h1 := cnt_frames (a := a) (l := l) (p := p) n (fun k hk => h k (by omega))
    have h2 := h n (by omega)
    simp only [cnt]
    have h3 : ∀ f, spotF a l p f n = (spotA a l p 0 n && qFr a n == f) := fun f => by simp only [spotF, spotA, Bool.and_assoc]
    rw [h3, h3, h3]
    cases hs : spotA a l p 0 n
    · simp; omega
    · rcases (show qFr a n = 0 ∨ qFr a n = 1 ∨ qFr a n = 2 by omega) with e | e | e <;> simp [e] <;> omega
theorem ck_at {c : Nat → Int32} {a : FSt} {l p f : Nat} (hcr : CRa a c) (h3 : l < 3) (h6 : p < 60) (hf : f < 3) : rg 540 c (ck l p f) = nI (cnt (qN a) (spotF a l p f)) := by
  unfold ck
  rw [if_pos h6, rg_nI (by unfold ckA; omega) (by decide), hcr l p f h3 h6 hf]
theorem float_at {c : Nat → Int32} {a : FSt} {l p : Nat} (hw : WFa a) (hcr : CRa a c) (h3 : l < 3) (h6 : p < 60) : (0 : Int32) + rg 540 c (ck l p 0) + rg 540 c (ck l p 1) + rg 540 c (ck l p 2) = nI (atA a l p 0) := by
  rw [ck_at hcr h3 h6 (by decide), ck_at hcr h3 h6 (by decide), ck_at hcr h3 h6 (by decide)]
  rw [show (0 : Int32) = nI 0 from rfl, nI_add, nI_add, nI_add]
  unfold atA
  rw [← cnt_frames (qN a) (fun k hk => (hw.2 k hk).1)]
  congr 1
  omega
end
section
set_option maxHeartbeats 4000000 in
set_option maxRecDepth 100000 in
/-- Row.get at a place of the row -/
theorem K_X2_getk (lch : Launch) (D : va_G) (cA : ClassId) (r : Nat) (b : Nat) (n : Nat) (f : Nat → Int32) (k : Nat) (v : Int32) (sz : Nat) (hk : k < n) (hn : n < 2 ^ 31) (hv : f k = v) : Met lch yX2_get wsX2_get ({ frames := 0, cells := 0, slots := 0, locals := 0 }) (Pr D cA [.ref r, .int (nI k)] sz (wR cA r b n f) X0) (va_Qi (fun (r : Int32) (u : Unit) => r = v) (fun _ _ => True) (fun q : Nat => sz ≤ q)) 0 0 (fun q : Nat => sz ≤ q) := by
  refine Met.ofW (cc := cX2_get) (maxL := 2) (ret := (some .int)) (by decide) rfl ?_
  intro pg ev s mi args below meth cd s₁ B hml hv
  obtain ⟨hav, hsz, hP, hE, hD, hXs⟩ := hv
  have hx := B.exec
  have hb := B.bytes
  have hr := B.returns
  have hts := atoms_spec (ws := wsX2_get) B.pre
  have hown : s.vm.findClass RX2 = some mi.cls := findClass_of_methodNamed B.named
  have hlocks := B.notSynchronized
  clear B
  subst hav
  subst hsz
  have hA : ∀ q : Nat, s.heap.size ≤ q → (fun q : Nat => s.heap.size ≤ q) q := fun _ h => h
  have hS : va_S (fun q : Nat => s.heap.size ≤ q) s.heap s.heap [] := va_S.rf
  obtain ⟨QQ, hQQ⟩ : ∃ qq9, qq9 = MQ below (va_Qi (fun (r : Int32) (u : Unit) => r = v) (fun _ _ => True) (fun q : Nat => s.heap.size ≤ q)) ([.ref r, .int (nI k)] : List Value).toArray s 0 0 (fun q : Nat => s.heap.size ≤ q) := ⟨_, rfl⟩
  rw [← hQQ]
  have hl := lv_entry ([.ref r, .int (nI k)]) (n := 2) (Nat.le_of_ble_eq_true rfl)
  rw [lg_entry_eq]
  generalize (lg_sl ([.ref r, .int (nI k)]) ++ List.replicate (2 - (lg_sl ([.ref r, .int (nI k)])).length) Slot.unset).toArray = ls at hl ⊢
  have hl : lv_has ls 2 [(0, .ref r), (1, .int (nI k))] := hl
  have kf7 := hts (.fieldLink RX2 7 "LanternWeirs$Row" "cells" "[I") (by decide +kernel)
  have inX2 : ∀ w ∈ u_ws RX2 TX2 1, w ∈ wsX2_get := by decide +kernel
  obtain ⟨H, locs, hP, hS, hgo⟩ : ∃ H locs, va_P D vwCl (wR cA r b n f) H ∧ va_S (fun q : Nat => s.heap.size ≤ q) s.heap H locs ∧ (H = s.heap ∧ locs = []) := ⟨_, _, hP, hS, rfl, rfl⟩
  obtain ⟨hg1, hg2⟩ := hgo
  have hgoal : W pg lch ev (headSpec wsX2_get ({ frames := 0, cells := 0, slots := 0, locals := 0 })).room s mi ([.ref r, .int (nI k)] : List Value).toArray below meth cd H locs 0 0 QQ (F0 mi 0 ls []) := by
    refine lv_iload_n hx hb dX2_get_0 rfl (lv_at hl 1 rfl) ?_
    refine lv_if_lt (tgt := 22) hx hb dX2_get_1 (by decide) (fun c1 => ?_) (fun c1 => ?_)
    · skip
      have c1 := (nI_ltI (a := k) (b := 0) (by omega) (by omega)).mp c1
      exfalso; omega
    · skip
      have c1 := (not_congr (nI_ltI (a := k) (b := 0) (by omega) (by omega))).mp c1
      refine lv_iload_n hx hb dX2_get_4 rfl (lv_at hl 1 rfl) ?_
      refine lv_aload_n hx hb dX2_get_5 rfl (lv_at hl 0 rfl) ?_
      refine va_get (D := D) (ci := 2) (v := .ref b) (C := RX2) (T := TX2) (N := 1) hx hb hts inX2 hown hE.1 hP 0 rfl rfl 0 (by decide) kf7 (fun _ h9 => h9) rfl dX2_get_6 ?_
      refine va_alen hx hb hE.1 hP 1 0 rfl rfl (v := nI n) rfl dX2_get_9 ?_
      refine lv_icmp_ge (tgt := 22) hx hb dX2_get_10 (by decide) (fun c10 => ?_) (fun c10 => ?_)
      · skip
        have c10 := (nI_leI (a := n) (b := k) (by omega) (by omega)).mp c10
        exfalso; omega
      · skip
        have c10 := (not_congr (nI_leI (a := n) (b := k) (by omega) (by omega))).mp c10
        refine lv_aload_n hx hb dX2_get_13 rfl (lv_at hl 0 rfl) ?_
        refine va_get (D := D) (ci := 2) (v := .ref b) (C := RX2) (T := TX2) (N := 1) hx hb hts inX2 hown hE.1 hP 0 rfl rfl 0 (by decide) kf7 (fun _ h9 => h9) rfl dX2_get_14 ?_
        refine lv_iload_n hx hb dX2_get_17 rfl (lv_at hl 1 rfl) ?_
        refine ald hx hb hE hP 1 rfl hk hn (v := v) hv dX2_get_18 ?_
        refine lv_goto (tgt := 23) hx hb dX2_get_19 (by decide) ?_
        rw [hQQ]
        exact W.iret (v := v) hx hb hr (fun t ht hW => ⟨⟨v, (), rfl, rfl, trivial⟩, hS.F ht⟩) hS.2.2 dX2_get_23
  rw [hg1, hg2] at hgoal
  exact hgoal

set_option maxHeartbeats 4000000 in
set_option maxRecDepth 100000 in
/-- Row.get -/
theorem K_X2_get (lch : Launch) (D : va_G) (cA : ClassId) (r : Nat) (b : Nat) (n : Nat) (f : Nat → Int32) (x : Int32) (sz : Nat) (hn : n < 2 ^ 31) : Met lch yX2_get wsX2_get ({ frames := 0, cells := 0, slots := 0, locals := 0 }) (Pr D cA [.ref r, .int x] sz (wR cA r b n f) X0) (va_Qi (fun (r : Int32) (u : Unit) => r = rg n f x) (fun _ _ => True) (fun q : Nat => sz ≤ q)) 0 0 (fun q : Nat => sz ≤ q) := by
  refine Met.ofW (cc := cX2_get) (maxL := 2) (ret := (some .int)) (by decide) rfl ?_
  intro pg ev s mi args below meth cd s₁ B hml hv
  obtain ⟨hav, hsz, hP, hE, hD, hXs⟩ := hv
  have hx := B.exec
  have hb := B.bytes
  have hr := B.returns
  have hts := atoms_spec (ws := wsX2_get) B.pre
  have hown : s.vm.findClass RX2 = some mi.cls := findClass_of_methodNamed B.named
  have hlocks := B.notSynchronized
  clear B
  subst hav
  subst hsz
  have hA : ∀ q : Nat, s.heap.size ≤ q → (fun q : Nat => s.heap.size ≤ q) q := fun _ h => h
  have hS : va_S (fun q : Nat => s.heap.size ≤ q) s.heap s.heap [] := va_S.rf
  obtain ⟨QQ, hQQ⟩ : ∃ qq9, qq9 = MQ below (va_Qi (fun (r : Int32) (u : Unit) => r = rg n f x) (fun _ _ => True) (fun q : Nat => s.heap.size ≤ q)) ([.ref r, .int x] : List Value).toArray s 0 0 (fun q : Nat => s.heap.size ≤ q) := ⟨_, rfl⟩
  rw [← hQQ]
  have hl := lv_entry ([.ref r, .int x]) (n := 2) (Nat.le_of_ble_eq_true rfl)
  rw [lg_entry_eq]
  generalize (lg_sl ([.ref r, .int x]) ++ List.replicate (2 - (lg_sl ([.ref r, .int x])).length) Slot.unset).toArray = ls at hl ⊢
  have hl : lv_has ls 2 [(0, .ref r), (1, .int x)] := hl
  have kf7 := hts (.fieldLink RX2 7 "LanternWeirs$Row" "cells" "[I") (by decide +kernel)
  have inX2 : ∀ w ∈ u_ws RX2 TX2 1, w ∈ wsX2_get := by decide +kernel
  obtain ⟨H, locs, hP, hS, hgo⟩ : ∃ H locs, va_P D vwCl (wR cA r b n f) H ∧ va_S (fun q : Nat => s.heap.size ≤ q) s.heap H locs ∧ (H = s.heap ∧ locs = []) := ⟨_, _, hP, hS, rfl, rfl⟩
  obtain ⟨hg1, hg2⟩ := hgo
  have hgoal : W pg lch ev (headSpec wsX2_get ({ frames := 0, cells := 0, slots := 0, locals := 0 })).room s mi ([.ref r, .int x] : List Value).toArray below meth cd H locs 0 0 QQ (F0 mi 0 ls []) := by
    refine lv_iload_n hx hb dX2_get_0 rfl (lv_at hl 1 rfl) ?_
    refine lv_if_lt (tgt := 22) hx hb dX2_get_1 (by decide) (fun c1 => ?_) (fun c1 => ?_)
    · skip
      refine lv_iconst (v := 0) hx hb dX2_get_22 (by decide) ?_
      rw [hQQ]
      exact W.iret (v := 0) hx hb hr (fun t ht hW => ⟨⟨0, (), rfl, (rg_neg c1).symm, trivial⟩, hS.F ht⟩) hS.2.2 dX2_get_23
    · skip
      refine lv_iload_n hx hb dX2_get_4 rfl (lv_at hl 1 rfl) ?_
      refine lv_aload_n hx hb dX2_get_5 rfl (lv_at hl 0 rfl) ?_
      refine va_get (D := D) (ci := 2) (v := .ref b) (C := RX2) (T := TX2) (N := 1) hx hb hts inX2 hown hE.1 hP 0 rfl rfl 0 (by decide) kf7 (fun _ h9 => h9) rfl dX2_get_6 ?_
      refine va_alen hx hb hE.1 hP 1 0 rfl rfl (v := nI n) rfl dX2_get_9 ?_
      refine lv_icmp_ge (tgt := 22) hx hb dX2_get_10 (by decide) (fun c10 => ?_) (fun c10 => ?_)
      · skip
        refine lv_iconst (v := 0) hx hb dX2_get_22 (by decide) ?_
        rw [hQQ]
        exact W.iret (v := 0) hx hb hr (fun t ht hW => ⟨⟨0, (), rfl, (rg_big c10).symm, trivial⟩, hS.F ht⟩) hS.2.2 dX2_get_23
      · skip
        obtain ⟨j, hj, hxj⟩ := ix_of hn c1 c10
        subst hxj
        refine lv_aload_n hx hb dX2_get_13 rfl (lv_at hl 0 rfl) ?_
        refine va_get (D := D) (ci := 2) (v := .ref b) (C := RX2) (T := TX2) (N := 1) hx hb hts inX2 hown hE.1 hP 0 rfl rfl 0 (by decide) kf7 (fun _ h9 => h9) rfl dX2_get_14 ?_
        refine lv_iload_n hx hb dX2_get_17 rfl (lv_at hl 1 rfl) ?_
        refine ald hx hb hE hP 1 rfl hj hn (v := f j) rfl dX2_get_18 ?_
        refine lv_goto (tgt := 23) hx hb dX2_get_19 (by decide) ?_
        rw [hQQ]
        exact W.iret (v := f j) hx hb hr (fun t ht hW => ⟨⟨f j, (), rfl, (rg_nI hj hn).symm, trivial⟩, hS.F ht⟩) hS.2.2 dX2_get_23
  rw [hg1, hg2] at hgoal
  exact hgoal

set_option maxHeartbeats 4000000 in
set_option maxRecDepth 100000 in
/-- Row.put at a place of the row -/
theorem K_X2_putk (lch : Launch) (D : va_G) (cA : ClassId) (r : Nat) (b : Nat) (n : Nat) (f : Nat → Int32) (k : Nat) (v : Int32) (g : Nat → Int32) (sz : Nat) (hk : k < n) (hn : n < 2 ^ 31) (hg : ∀ j, j < n → upd f k v j = g j) : Met lch yX2_put wsX2_put ({ frames := 0, cells := 0, slots := 0, locals := 0 }) (Pr D cA [.ref r, .int (nI k), .int v] sz (wR cA r b n f) X0) (va_Qv (fun (u : Unit) => True) (fun (u : Unit) t => va_P D vwCl (wR cA r b n g) t.heap) (va_A (wR cA r b n f) sz)) 0 0 (va_A (wR cA r b n f) sz) := by
  refine Met.ofW (cc := cX2_put) (maxL := 3) (ret := none) (by decide) rfl ?_
  intro pg ev s mi args below meth cd s₁ B hml hv
  obtain ⟨hav, hsz, hP, hE, hD, hXs⟩ := hv
  have hx := B.exec
  have hb := B.bytes
  have hr := B.returns
  have hts := atoms_spec (ws := wsX2_put) B.pre
  have hown : s.vm.findClass RX2 = some mi.cls := findClass_of_methodNamed B.named
  have hlocks := B.notSynchronized
  clear B
  subst hav
  subst hsz
  have hD := hD.self (sz := s.heap.size)
  generalize hAe : va_A (wR cA r b n f) s.heap.size = A at hD ⊢
  have hA : ∀ q : Nat, s.heap.size ≤ q → A q := fun q h => by rw [← hAe]; exact Or.inr h
  have hS : va_S A s.heap s.heap [] := va_S.rf
  obtain ⟨QQ, hQQ⟩ : ∃ qq9, qq9 = MQ below (va_Qv (fun (u : Unit) => True) (fun (u : Unit) t => va_P D vwCl (wR cA r b n g) t.heap) A) ([.ref r, .int (nI k), .int v] : List Value).toArray s 0 0 A := ⟨_, rfl⟩
  rw [← hQQ]
  have hl := lv_entry ([.ref r, .int (nI k), .int v]) (n := 3) (Nat.le_of_ble_eq_true rfl)
  rw [lg_entry_eq]
  generalize (lg_sl ([.ref r, .int (nI k), .int v]) ++ List.replicate (3 - (lg_sl ([.ref r, .int (nI k), .int v])).length) Slot.unset).toArray = ls at hl ⊢
  have hl : lv_has ls 3 [(0, .ref r), (1, .int (nI k)), (2, .int v)] := hl
  have kf7 := hts (.fieldLink RX2 7 "LanternWeirs$Row" "cells" "[I") (by decide +kernel)
  have inX2 : ∀ w ∈ u_ws RX2 TX2 1, w ∈ wsX2_put := by decide +kernel
  obtain ⟨H, locs, hP, hS, hgo⟩ : ∃ H locs, va_P D vwCl (wR cA r b n f) H ∧ va_S A s.heap H locs ∧ (H = s.heap ∧ locs = []) := ⟨_, _, hP, hS, rfl, rfl⟩
  obtain ⟨hg1, hg2⟩ := hgo
  have hgoal : W pg lch ev (headSpec wsX2_put ({ frames := 0, cells := 0, slots := 0, locals := 0 })).room s mi ([.ref r, .int (nI k), .int v] : List Value).toArray below meth cd H locs 0 0 QQ (F0 mi 0 ls []) := by
    refine lv_iload_n hx hb dX2_put_0 rfl (lv_at hl 1 rfl) ?_
    refine lv_if_lt (tgt := 20) hx hb dX2_put_1 (by decide) (fun c1 => ?_) (fun c1 => ?_)
    · skip
      have c1 := (nI_ltI (a := k) (b := 0) (by omega) (by omega)).mp c1
      exfalso; omega
    · skip
      have c1 := (not_congr (nI_ltI (a := k) (b := 0) (by omega) (by omega))).mp c1
      refine lv_iload_n hx hb dX2_put_4 rfl (lv_at hl 1 rfl) ?_
      refine lv_aload_n hx hb dX2_put_5 rfl (lv_at hl 0 rfl) ?_
      refine va_get (D := D) (ci := 2) (v := .ref b) (C := RX2) (T := TX2) (N := 1) hx hb hts inX2 hown hE.1 hP 0 rfl rfl 0 (by decide) kf7 (fun _ h9 => h9) rfl dX2_put_6 ?_
      refine va_alen hx hb hE.1 hP 1 0 rfl rfl (v := nI n) rfl dX2_put_9 ?_
      refine lv_icmp_ge (tgt := 20) hx hb dX2_put_10 (by decide) (fun c10 => ?_) (fun c10 => ?_)
      · skip
        have c10 := (nI_leI (a := n) (b := k) (by omega) (by omega)).mp c10
        exfalso; omega
      · skip
        have c10 := (not_congr (nI_leI (a := n) (b := k) (by omega) (by omega))).mp c10
        refine lv_aload_n hx hb dX2_put_13 rfl (lv_at hl 0 rfl) ?_
        refine va_get (D := D) (ci := 2) (v := .ref b) (C := RX2) (T := TX2) (N := 1) hx hb hts inX2 hown hE.1 hP 0 rfl rfl 0 (by decide) kf7 (fun _ h9 => h9) rfl dX2_put_14 ?_
        refine lv_iload_n hx hb dX2_put_17 rfl (lv_at hl 1 rfl) ?_
        refine lv_iload_n hx hb dX2_put_18 rfl (lv_at hl 2 rfl) ?_
        refine ast hx hb hE hP hD hS 1 rfl (k := k) hk hn (g) (hg) dX2_put_19 (fun H locs hP hD hS => ?_)
        have hP : va_P D vwCl (wR cA r b n g) H := hP
        have hD : va_D A (wR cA r b n g) := hD
        rw [hQQ]
        exact W.vret hx hb hr (fun t ht hW => ⟨⟨(), rfl, trivial, by show va_P _ _ _ t.heap; rw [ht]; exact hP⟩, hS.F ht⟩) hS.2.2 dX2_put_20
  rw [hg1, hg2] at hgoal
  exact hgoal

set_option maxHeartbeats 4000000 in
set_option maxRecDepth 100000 in
/-- Row.put -/
theorem K_X2_put (lch : Launch) (D : va_G) (cA : ClassId) (r : Nat) (b : Nat) (n : Nat) (f : Nat → Int32) (x : Int32) (v : Int32) (sz : Nat) (hn : n < 2 ^ 31) : Met lch yX2_put wsX2_put ({ frames := 0, cells := 0, slots := 0, locals := 0 }) (Pr D cA [.ref r, .int x, .int v] sz (wR cA r b n f) X0) (va_Qv (fun (u : Unit) => True) (fun (u : Unit) t => va_P D vwCl (wR cA r b n (rp n f x v)) t.heap) (va_A (wR cA r b n f) sz)) 0 0 (va_A (wR cA r b n f) sz) := by
  refine Met.ofW (cc := cX2_put) (maxL := 3) (ret := none) (by decide) rfl ?_
  intro pg ev s mi args below meth cd s₁ B hml hv
  obtain ⟨hav, hsz, hP, hE, hD, hXs⟩ := hv
  have hx := B.exec
  have hb := B.bytes
  have hr := B.returns
  have hts := atoms_spec (ws := wsX2_put) B.pre
  have hown : s.vm.findClass RX2 = some mi.cls := findClass_of_methodNamed B.named
  have hlocks := B.notSynchronized
  clear B
  subst hav
  subst hsz
  have hD := hD.self (sz := s.heap.size)
  generalize hAe : va_A (wR cA r b n f) s.heap.size = A at hD ⊢
  have hA : ∀ q : Nat, s.heap.size ≤ q → A q := fun q h => by rw [← hAe]; exact Or.inr h
  have hS : va_S A s.heap s.heap [] := va_S.rf
  obtain ⟨QQ, hQQ⟩ : ∃ qq9, qq9 = MQ below (va_Qv (fun (u : Unit) => True) (fun (u : Unit) t => va_P D vwCl (wR cA r b n (rp n f x v)) t.heap) A) ([.ref r, .int x, .int v] : List Value).toArray s 0 0 A := ⟨_, rfl⟩
  rw [← hQQ]
  have hl := lv_entry ([.ref r, .int x, .int v]) (n := 3) (Nat.le_of_ble_eq_true rfl)
  rw [lg_entry_eq]
  generalize (lg_sl ([.ref r, .int x, .int v]) ++ List.replicate (3 - (lg_sl ([.ref r, .int x, .int v])).length) Slot.unset).toArray = ls at hl ⊢
  have hl : lv_has ls 3 [(0, .ref r), (1, .int x), (2, .int v)] := hl
  have kf7 := hts (.fieldLink RX2 7 "LanternWeirs$Row" "cells" "[I") (by decide +kernel)
  have inX2 : ∀ w ∈ u_ws RX2 TX2 1, w ∈ wsX2_put := by decide +kernel
  obtain ⟨H, locs, hP, hS, hgo⟩ : ∃ H locs, va_P D vwCl (wR cA r b n f) H ∧ va_S A s.heap H locs ∧ (H = s.heap ∧ locs = []) := ⟨_, _, hP, hS, rfl, rfl⟩
  obtain ⟨hg1, hg2⟩ := hgo
  have hgoal : W pg lch ev (headSpec wsX2_put ({ frames := 0, cells := 0, slots := 0, locals := 0 })).room s mi ([.ref r, .int x, .int v] : List Value).toArray below meth cd H locs 0 0 QQ (F0 mi 0 ls []) := by
    refine lv_iload_n hx hb dX2_put_0 rfl (lv_at hl 1 rfl) ?_
    refine lv_if_lt (tgt := 20) hx hb dX2_put_1 (by decide) (fun c1 => ?_) (fun c1 => ?_)
    · skip
      have hP : va_P D vwCl (wR cA r b n (rp n f x v)) H := by rw [rp_neg c1]; exact hP
      rw [hQQ]
      exact W.vret hx hb hr (fun t ht hW => ⟨⟨(), rfl, trivial, by show va_P _ _ _ t.heap; rw [ht]; exact hP⟩, hS.F ht⟩) hS.2.2 dX2_put_20
    · skip
      refine lv_iload_n hx hb dX2_put_4 rfl (lv_at hl 1 rfl) ?_
      refine lv_aload_n hx hb dX2_put_5 rfl (lv_at hl 0 rfl) ?_
      refine va_get (D := D) (ci := 2) (v := .ref b) (C := RX2) (T := TX2) (N := 1) hx hb hts inX2 hown hE.1 hP 0 rfl rfl 0 (by decide) kf7 (fun _ h9 => h9) rfl dX2_put_6 ?_
      refine va_alen hx hb hE.1 hP 1 0 rfl rfl (v := nI n) rfl dX2_put_9 ?_
      refine lv_icmp_ge (tgt := 20) hx hb dX2_put_10 (by decide) (fun c10 => ?_) (fun c10 => ?_)
      · skip
        have hP : va_P D vwCl (wR cA r b n (rp n f x v)) H := by rw [rp_big c10]; exact hP
        rw [hQQ]
        exact W.vret hx hb hr (fun t ht hW => ⟨⟨(), rfl, trivial, by show va_P _ _ _ t.heap; rw [ht]; exact hP⟩, hS.F ht⟩) hS.2.2 dX2_put_20
      · skip
        obtain ⟨j, hj, hxj⟩ := ix_of hn c1 c10
        subst hxj
        refine lv_aload_n hx hb dX2_put_13 rfl (lv_at hl 0 rfl) ?_
        refine va_get (D := D) (ci := 2) (v := .ref b) (C := RX2) (T := TX2) (N := 1) hx hb hts inX2 hown hE.1 hP 0 rfl rfl 0 (by decide) kf7 (fun _ h9 => h9) rfl dX2_put_14 ?_
        refine lv_iload_n hx hb dX2_put_17 rfl (lv_at hl 1 rfl) ?_
        refine lv_iload_n hx hb dX2_put_18 rfl (lv_at hl 2 rfl) ?_
        refine ast hx hb hE hP hD hS 1 rfl (k := j) hj hn (rp n f (nI j) v) (fun i _ => by rw [rp_nI hj hn]) dX2_put_19 (fun H locs hP hD hS => ?_)
        have hP : va_P D vwCl (wR cA r b n (rp n f (nI j) v)) H := hP
        have hD : va_D A (wR cA r b n (rp n f (nI j) v)) := hD
        rw [hQQ]
        exact W.vret hx hb hr (fun t ht hW => ⟨⟨(), rfl, trivial, by show va_P _ _ _ t.heap; rw [ht]; exact hP⟩, hS.F ht⟩) hS.2.2 dX2_put_20
  rw [hg1, hg2] at hgoal
  exact hgoal

set_option maxHeartbeats 4000000 in
set_option maxRecDepth 100000 in
/-- Row.copy: the row holds what the other holds -/
theorem K_X2_copy (lch : Launch) (D : va_G) (cA : ClassId) (r : Nat) (b : Nat) (n : Nat) (f : Nat → Int32) (r2 : Nat) (b2 : Nat) (f2 : Nat → Int32) (sz : Nat) (hn : n < 2 ^ 31) : Met lch yX2_copy wsX2_copy ({ frames := 1, cells := 0, slots := 0, locals := 21 }) (Pr D cA [.ref r, .ref r2] sz ((wR cA r b n f) ++ (wR cA r2 b2 n f2)) X0) (va_Qv (fun (u : Unit) => True) (fun (u : Unit) t => va_P D vwCl ((wR cA r b n f2) ++ (wR cA r2 b2 n f2)) t.heap) (va_A ((wR cA r b n f) ++ (wR cA r2 b2 n f2)) sz)) 0 0 (va_A ((wR cA r b n f) ++ (wR cA r2 b2 n f2)) sz) := by
  refine Met.ofW (cc := cX2_copy) (maxL := 3) (ret := none) (by decide) rfl ?_
  intro pg ev s mi args below meth cd s₁ B hml hv
  obtain ⟨hav, hsz, hP, hE, hD, hXs⟩ := hv
  have hx := B.exec
  have hb := B.bytes
  have hr := B.returns
  have hts := atoms_spec (ws := wsX2_copy) B.pre
  have hown : s.vm.findClass RX2 = some mi.cls := findClass_of_methodNamed B.named
  have hlocks := B.notSynchronized
  clear B
  subst hav
  subst hsz
  have hD := hD.self (sz := s.heap.size)
  generalize hAe : va_A ((wR cA r b n f) ++ (wR cA r2 b2 n f2)) s.heap.size = A at hD ⊢
  have hA : ∀ q : Nat, s.heap.size ≤ q → A q := fun q h => by rw [← hAe]; exact Or.inr h
  have hS : va_S A s.heap s.heap [] := va_S.rf
  obtain ⟨QQ, hQQ⟩ : ∃ qq9, qq9 = MQ below (va_Qv (fun (u : Unit) => True) (fun (u : Unit) t => va_P D vwCl ((wR cA r b n f2) ++ (wR cA r2 b2 n f2)) t.heap) A) ([.ref r, .ref r2] : List Value).toArray s 0 0 A := ⟨_, rfl⟩
  rw [← hQQ]
  have hl := lv_entry ([.ref r, .ref r2]) (n := 3) (Nat.le_of_ble_eq_true rfl)
  rw [lg_entry_eq]
  generalize (lg_sl ([.ref r, .ref r2]) ++ List.replicate (3 - (lg_sl ([.ref r, .ref r2])).length) Slot.unset).toArray = ls at hl ⊢
  have hl : lv_has ls 3 [(0, .ref r), (1, .ref r2)] := hl
  have kf7 := hts (.fieldLink RX2 7 "LanternWeirs$Row" "cells" "[I") (by decide +kernel)
  have inX2 : ∀ w ∈ u_ws RX2 TX2 1, w ∈ wsX2_copy := by decide +kernel
  obtain ⟨H, locs, hP, hS, hgo⟩ : ∃ H locs, va_P D vwCl ((wR cA r b n f) ++ (wR cA r2 b2 n f2)) H ∧ va_S A s.heap H locs ∧ (H = s.heap ∧ locs = []) := ⟨_, _, hP, hS, rfl, rfl⟩
  obtain ⟨hg1, hg2⟩ := hgo
  have hgoal : W pg lch ev (headSpec wsX2_copy ({ frames := 1, cells := 0, slots := 0, locals := 21 })).room s mi ([.ref r, .ref r2] : List Value).toArray below meth cd H locs 0 0 QQ (F0 mi 0 ls []) := by
    refine lv_iconst (v := 0) hx hb dX2_copy_0 (by decide) ?_
    refine lv_istore_n (lv' := [(2, .int 0), (0, .ref r), (1, .ref r2)]) hx hb dX2_copy_1 rfl hl (by decide) rfl (fun ls hl => ?_)
    have L2 : ∀ (fu2 : Nat) (i : Nat) (g : Nat → Int32), (i ≤ n) → (∀ j, j < i → g j = f2 j) → n - i < fu2 → ∀ (H : Heap) (locs : List Loc), va_P D vwCl ((wR cA r b n g) ++ (wR cA r2 b2 n f2)) H → va_D A ((wR cA r b n g) ++ (wR cA r2 b2 n f2)) → va_S A s.heap H locs → ∀ ls : Array Slot, lv_has ls 3 [(2, .int (nI i)), (0, .ref r), (1, .ref r2)] → W pg lch ev (headSpec wsX2_copy ({ frames := 1, cells := 0, slots := 0, locals := 21 })).room s mi ([.ref r, .ref r2] : List Value).toArray below meth cd H locs 0 0 QQ (F0 mi 2 ls []) := by
      intro fu2
      induction fu2 with
      | zero => intro i g hi hg hms; exact absurd hms (Nat.not_lt_zero _)
      | succ fu2 ih2 =>
        intro i g hi hg hms2 H locs hP hD hS ls hl
        refine lv_iload_n hx hb dX2_copy_2 rfl (lv_at hl 0 rfl) ?_
        refine lv_aload_n hx hb dX2_copy_3 rfl (lv_at hl 1 rfl) ?_
        refine va_get (D := D) (ci := 2) (v := .ref b) (C := RX2) (T := TX2) (N := 1) hx hb hts inX2 hown hE.1 hP 0 rfl rfl 0 (by decide) kf7 (fun _ h9 => h9) rfl dX2_copy_4 ?_
        refine va_alen hx hb hE.1 hP 1 0 rfl rfl (v := nI n) rfl dX2_copy_7 ?_
        refine lv_icmp_ge (tgt := 28) hx hb dX2_copy_8 (by decide) (fun c8 => ?_) (fun c8 => ?_)
        · skip
          have c8 := (nI_leI (a := n) (b := i) (by omega) (by omega)).mp c8
          have hgg : ∀ j, j < n → g j = f2 j := fun j hj => hg j (by omega)
          have hP : va_P D vwCl ((wR cA r b n f2) ++ (wR cA r2 b2 n f2)) H := hP.arr 1 f2 rfl hgg
          rw [hQQ]
          exact W.vret hx hb hr (fun t ht hW => ⟨⟨(), rfl, trivial, by show va_P _ _ _ t.heap; rw [ht]; exact hP⟩, hS.F ht⟩) hS.2.2 dX2_copy_28
        · skip
          have c8 := (not_congr (nI_leI (a := n) (b := i) (by omega) (by omega))).mp c8
          refine lv_aload_n hx hb dX2_copy_11 rfl (lv_at hl 1 rfl) ?_
          refine va_get (D := D) (ci := 2) (v := .ref b) (C := RX2) (T := TX2) (N := 1) hx hb hts inX2 hown hE.1 hP 0 rfl rfl 0 (by decide) kf7 (fun _ h9 => h9) rfl dX2_copy_12 ?_
          refine lv_iload_n hx hb dX2_copy_15 rfl (lv_at hl 0 rfl) ?_
          refine lv_aload_n hx hb dX2_copy_16 rfl (lv_at hl 2 rfl) ?_
          refine lv_iload_n hx hb dX2_copy_17 rfl (lv_at hl 0 rfl) ?_
          refine pVi (As := [.int (nI i)]) (rest := [.int (nI i), .ref b]) (wc := (wR cA r2 b2 n f2)) ⟨hx, hb, hml, hown, hts⟩ (K_X2_getk lch D cA r2 b2 n f2 i (f2 i) H.size (by omega) (hn) (rfl)) (cwV 1 hts gX2_copy_X2_get rfl rfl rfl (by decide +kernel) ⟨Nat.le_of_ble_eq_true rfl, Nat.le_of_ble_eq_true rfl⟩) hE hP hD hS hA [2, 3] rfl rfl X0.blind (fun _ _ _ => trivial) 2 2 rfl rfl rfl hl.1 rfl rfl (Nat.le_of_ble_eq_true rfl) dX2_copy_18 ⟨Nat.zero_le _, Nat.zero_le _⟩ (fun r_1 u_2 H locs h_3 hP hS => ?_)
          subst h_3
          refine ast hx hb hE hP hD hS 1 rfl (k := i) (by omega) hn (upd g i (f2 i)) (fun j _ => rfl) dX2_copy_21 (fun H locs hP hD hS => ?_)
          have hP : va_P D vwCl ((wR cA r b n (upd g i (f2 i))) ++ (wR cA r2 b2 n f2)) H := hP
          have hD : va_D A ((wR cA r b n (upd g i (f2 i))) ++ (wR cA r2 b2 n f2)) := hD
          refine lv_iinc (v := nI (i + 1)) (lv' := [(2, .int (nI (i + 1))), (0, .ref r), (1, .ref r2)]) hx hb dX2_copy_22 hl (k := 0) rfl (nI_add i 1) (by decide) rfl (fun ls hl => ?_)
          refine lv_goto (tgt := 2) hx hb dX2_copy_25 (by decide) ?_
          exact ih2 (i + 1) (upd g i (f2 i)) (by omega) (cpy_step hg) (by omega) H locs hP hD hS ls (lv_sub hl [0, 1, 2] rfl)
    exact L2 (n + 1) 0 f (Nat.zero_le _) (fun j hj => absurd hj (Nat.not_lt_zero j)) (by omega) H locs hP hD hS ls (lv_sub hl [0, 1, 2] rfl)
  rw [hg1, hg2] at hgoal
  exact hgoal
end
section
set_option maxHeartbeats 4000000 in
set_option maxRecDepth 100000 in
/-- isWithin -/
theorem K_X3_isWithin (lch : Launch) (D : va_G) (cA : ClassId) (x : Int32) (lo : Int32) (hi : Int32) (sz : Nat)  : Met lch yX3_isWithin wsX3_isWithin ({ frames := 0, cells := 0, slots := 0, locals := 0 }) (Pr D cA [.int x, .int lo, .int hi] sz ([] : va_W) X0) (va_Qi (fun (r : Int32) (u : Unit) => r = bi (isW x lo hi)) (fun _ _ => True) (fun q : Nat => sz ≤ q)) 0 0 (fun q : Nat => sz ≤ q) := by
  refine Met.ofW (cc := cX3_isWithin) (maxL := 3) (ret := (some .boolean)) (by decide) rfl ?_
  intro pg ev s mi args below meth cd s₁ B hml hv
  obtain ⟨hav, hsz, hP, hE, hD, hXs⟩ := hv
  have hx := B.exec
  have hb := B.bytes
  have hr := B.returns
  have hts := atoms_spec (ws := wsX3_isWithin) B.pre
  have hown : s.vm.findClass RX3 = some mi.cls := findClass_of_methodNamed B.named
  have hlocks := B.notSynchronized
  clear B
  subst hav
  subst hsz
  have hA : ∀ q : Nat, s.heap.size ≤ q → (fun q : Nat => s.heap.size ≤ q) q := fun _ h => h
  have hS : va_S (fun q : Nat => s.heap.size ≤ q) s.heap s.heap [] := va_S.rf
  obtain ⟨QQ, hQQ⟩ : ∃ qq9, qq9 = MQ below (va_Qi (fun (r : Int32) (u : Unit) => r = bi (isW x lo hi)) (fun _ _ => True) (fun q : Nat => s.heap.size ≤ q)) ([.int x, .int lo, .int hi] : List Value).toArray s 0 0 (fun q : Nat => s.heap.size ≤ q) := ⟨_, rfl⟩
  rw [← hQQ]
  have hl := lv_entry ([.int x, .int lo, .int hi]) (n := 3) (Nat.le_of_ble_eq_true rfl)
  rw [lg_entry_eq]
  generalize (lg_sl ([.int x, .int lo, .int hi]) ++ List.replicate (3 - (lg_sl ([.int x, .int lo, .int hi])).length) Slot.unset).toArray = ls at hl ⊢
  have hl : lv_has ls 3 [(0, .int x), (1, .int lo), (2, .int hi)] := hl
  obtain ⟨H, locs, hP, hS, hgo⟩ : ∃ H locs, va_P D vwCl ([] : va_W) H ∧ va_S (fun q : Nat => s.heap.size ≤ q) s.heap H locs ∧ (H = s.heap ∧ locs = []) := ⟨_, _, hP, hS, rfl, rfl⟩
  obtain ⟨hg1, hg2⟩ := hgo
  have hgoal : W pg lch ev (headSpec wsX3_isWithin ({ frames := 0, cells := 0, slots := 0, locals := 0 })).room s mi ([.int x, .int lo, .int hi] : List Value).toArray below meth cd H locs 0 0 QQ (F0 mi 0 ls []) := by
    refine lv_iload_n hx hb dX3_isWithin_0 rfl (lv_at hl 0 rfl) ?_
    refine lv_iload_n hx hb dX3_isWithin_1 rfl (lv_at hl 1 rfl) ?_
    refine lv_icmp_lt (tgt := 14) hx hb dX3_isWithin_2 (by decide) (fun c2 => ?_) (fun c2 => ?_)
    · skip
      refine lv_iconst (v := 0) hx hb dX3_isWithin_14 (by decide) ?_
      rw [hQQ]
      exact W.zret (v := 0) hx hb hr (by decide) (fun t ht hW => ⟨⟨0, (), rfl, (isW_lt c2).symm, trivial⟩, hS.F ht⟩) hS.2.2 dX3_isWithin_15
    · skip
      refine lv_iload_n hx hb dX3_isWithin_5 rfl (lv_at hl 0 rfl) ?_
      refine lv_iload_n hx hb dX3_isWithin_6 rfl (lv_at hl 2 rfl) ?_
      refine lv_icmp_gt (tgt := 14) hx hb dX3_isWithin_7 (by decide) (fun c7 => ?_) (fun c7 => ?_)
      · skip
        refine lv_iconst (v := 0) hx hb dX3_isWithin_14 (by decide) ?_
        rw [hQQ]
        exact W.zret (v := 0) hx hb hr (by decide) (fun t ht hW => ⟨⟨0, (), rfl, (isW_gt c7).symm, trivial⟩, hS.F ht⟩) hS.2.2 dX3_isWithin_15
      · skip
        refine lv_iconst (v := 1) hx hb dX3_isWithin_10 (by decide) ?_
        refine lv_goto (tgt := 15) hx hb dX3_isWithin_11 (by decide) ?_
        rw [hQQ]
        exact W.zret (v := 1) hx hb hr (by decide) (fun t ht hW => ⟨⟨1, (), rfl, (isW_in c2 c7).symm, trivial⟩, hS.F ht⟩) hS.2.2 dX3_isWithin_15
  rw [hg1, hg2] at hgoal
  exact hgoal

set_option maxHeartbeats 4000000 in
set_option maxRecDepth 100000 in
/-- isLane -/
theorem K_X3_isLane (lch : Launch) (D : va_G) (cA : ClassId) (x : Int32) (sz : Nat)  : Met lch yX3_isLane wsX3_isLane ({ frames := 1, cells := 0, slots := 0, locals := 22 }) (Pr D cA [.int x] sz ([] : va_W) X0) (va_Qi (fun (r : Int32) (u : Unit) => r = bi (isW x 0 2)) (fun _ _ => True) (fun q : Nat => sz ≤ q)) 0 0 (fun q : Nat => sz ≤ q) := by
  refine Met.ofW (cc := cX3_isLane) (maxL := 1) (ret := (some .boolean)) (by decide) rfl ?_
  intro pg ev s mi args below meth cd s₁ B hml hv
  obtain ⟨hav, hsz, hP, hE, hD, hXs⟩ := hv
  have hx := B.exec
  have hb := B.bytes
  have hr := B.returns
  have hts := atoms_spec (ws := wsX3_isLane) B.pre
  have hown : s.vm.findClass RX3 = some mi.cls := findClass_of_methodNamed B.named
  have hlocks := B.notSynchronized
  clear B
  subst hav
  subst hsz
  have hA : ∀ q : Nat, s.heap.size ≤ q → (fun q : Nat => s.heap.size ≤ q) q := fun _ h => h
  have hS : va_S (fun q : Nat => s.heap.size ≤ q) s.heap s.heap [] := va_S.rf
  obtain ⟨QQ, hQQ⟩ : ∃ qq9, qq9 = MQ below (va_Qi (fun (r : Int32) (u : Unit) => r = bi (isW x 0 2)) (fun _ _ => True) (fun q : Nat => s.heap.size ≤ q)) ([.int x] : List Value).toArray s 0 0 (fun q : Nat => s.heap.size ≤ q) := ⟨_, rfl⟩
  rw [← hQQ]
  have hl := lv_entry ([.int x]) (n := 1) (Nat.le_of_ble_eq_true rfl)
  rw [lg_entry_eq]
  generalize (lg_sl ([.int x]) ++ List.replicate (1 - (lg_sl ([.int x])).length) Slot.unset).toArray = ls at hl ⊢
  have hl : lv_has ls 1 [(0, .int x)] := hl
  obtain ⟨H, locs, hP, hS, hgo⟩ : ∃ H locs, va_P D vwCl ([] : va_W) H ∧ va_S (fun q : Nat => s.heap.size ≤ q) s.heap H locs ∧ (H = s.heap ∧ locs = []) := ⟨_, _, hP, hS, rfl, rfl⟩
  obtain ⟨hg1, hg2⟩ := hgo
  have hgoal : W pg lch ev (headSpec wsX3_isLane ({ frames := 1, cells := 0, slots := 0, locals := 22 })).room s mi ([.int x] : List Value).toArray below meth cd H locs 0 0 QQ (F0 mi 0 ls []) := by
    refine lv_iload_n hx hb dX3_isLane_0 rfl (lv_at hl 0 rfl) ?_
    refine lv_iconst (v := 0) hx hb dX3_isLane_1 (by decide) ?_
    refine lv_iconst (v := 2) hx hb dX3_isLane_2 (by decide) ?_
    refine pSi (As := [.int x, .int 0, .int 2]) (rest := []) (wc := ([] : va_W)) ⟨hx, hb, hml, hown, hts⟩ (K_X3_isWithin lch D cA x 0 2 H.size ) (cwS 3 hts gX3_isLane_X3_isWithin rfl rfl rfl (by decide +kernel) ⟨Nat.le_of_ble_eq_true rfl, Nat.le_of_ble_eq_true rfl⟩) hE hP hD hS hA [] rfl rfl X0.blind (fun _ _ _ => trivial) hl.1 rfl rfl (Nat.le_of_ble_eq_true rfl) dX3_isLane_3 ⟨Nat.zero_le _, Nat.zero_le _⟩ (fun r_1 u_2 H locs h_3 hP hS => ?_)
    subst h_3
    rw [hQQ]
    exact W.zret (v := bi (isW x 0 2)) hx hb hr (nar_bi _) (fun t ht hW => ⟨⟨bi (isW x 0 2), (), rfl, rfl, trivial⟩, hS.F ht⟩) hS.2.2 dX3_isLane_6
  rw [hg1, hg2] at hgoal
  exact hgoal

set_option maxHeartbeats 4000000 in
set_option maxRecDepth 100000 in
/-- isPlace -/
theorem K_X3_isPlace (lch : Launch) (D : va_G) (cA : ClassId) (x : Int32) (sz : Nat)  : Met lch yX3_isPlace wsX3_isPlace ({ frames := 1, cells := 0, slots := 0, locals := 22 }) (Pr D cA [.int x] sz ([] : va_W) X0) (va_Qi (fun (r : Int32) (u : Unit) => r = bi (isW x 0 59)) (fun _ _ => True) (fun q : Nat => sz ≤ q)) 0 0 (fun q : Nat => sz ≤ q) := by
  refine Met.ofW (cc := cX3_isPlace) (maxL := 1) (ret := (some .boolean)) (by decide) rfl ?_
  intro pg ev s mi args below meth cd s₁ B hml hv
  obtain ⟨hav, hsz, hP, hE, hD, hXs⟩ := hv
  have hx := B.exec
  have hb := B.bytes
  have hr := B.returns
  have hts := atoms_spec (ws := wsX3_isPlace) B.pre
  have hown : s.vm.findClass RX3 = some mi.cls := findClass_of_methodNamed B.named
  have hlocks := B.notSynchronized
  clear B
  subst hav
  subst hsz
  have hA : ∀ q : Nat, s.heap.size ≤ q → (fun q : Nat => s.heap.size ≤ q) q := fun _ h => h
  have hS : va_S (fun q : Nat => s.heap.size ≤ q) s.heap s.heap [] := va_S.rf
  obtain ⟨QQ, hQQ⟩ : ∃ qq9, qq9 = MQ below (va_Qi (fun (r : Int32) (u : Unit) => r = bi (isW x 0 59)) (fun _ _ => True) (fun q : Nat => s.heap.size ≤ q)) ([.int x] : List Value).toArray s 0 0 (fun q : Nat => s.heap.size ≤ q) := ⟨_, rfl⟩
  rw [← hQQ]
  have hl := lv_entry ([.int x]) (n := 1) (Nat.le_of_ble_eq_true rfl)
  rw [lg_entry_eq]
  generalize (lg_sl ([.int x]) ++ List.replicate (1 - (lg_sl ([.int x])).length) Slot.unset).toArray = ls at hl ⊢
  have hl : lv_has ls 1 [(0, .int x)] := hl
  obtain ⟨H, locs, hP, hS, hgo⟩ : ∃ H locs, va_P D vwCl ([] : va_W) H ∧ va_S (fun q : Nat => s.heap.size ≤ q) s.heap H locs ∧ (H = s.heap ∧ locs = []) := ⟨_, _, hP, hS, rfl, rfl⟩
  obtain ⟨hg1, hg2⟩ := hgo
  have hgoal : W pg lch ev (headSpec wsX3_isPlace ({ frames := 1, cells := 0, slots := 0, locals := 22 })).room s mi ([.int x] : List Value).toArray below meth cd H locs 0 0 QQ (F0 mi 0 ls []) := by
    refine lv_iload_n hx hb dX3_isPlace_0 rfl (lv_at hl 0 rfl) ?_
    refine lv_iconst (v := 0) hx hb dX3_isPlace_1 (by decide) ?_
    refine lv_bipush (v := 59) hx hb dX3_isPlace_2 (by decide) ?_
    refine pSi (As := [.int x, .int 0, .int 59]) (rest := []) (wc := ([] : va_W)) ⟨hx, hb, hml, hown, hts⟩ (K_X3_isWithin lch D cA x 0 59 H.size ) (cwS 3 hts gX3_isPlace_X3_isWithin rfl rfl rfl (by decide +kernel) ⟨Nat.le_of_ble_eq_true rfl, Nat.le_of_ble_eq_true rfl⟩) hE hP hD hS hA [] rfl rfl X0.blind (fun _ _ _ => trivial) hl.1 rfl rfl (Nat.le_of_ble_eq_true rfl) dX3_isPlace_4 ⟨Nat.zero_le _, Nat.zero_le _⟩ (fun r_1 u_2 H locs h_3 hP hS => ?_)
    subst h_3
    rw [hQQ]
    exact W.zret (v := bi (isW x 0 59)) hx hb hr (nar_bi _) (fun t ht hW => ⟨⟨bi (isW x 0 59), (), rfl, rfl, trivial⟩, hS.F ht⟩) hS.2.2 dX3_isPlace_7
  rw [hg1, hg2] at hgoal
  exact hgoal

set_option maxHeartbeats 4000000 in
set_option maxRecDepth 100000 in
/-- isFrame -/
theorem K_X3_isFrame (lch : Launch) (D : va_G) (cA : ClassId) (x : Int32) (sz : Nat)  : Met lch yX3_isFrame wsX3_isFrame ({ frames := 1, cells := 0, slots := 0, locals := 22 }) (Pr D cA [.int x] sz ([] : va_W) X0) (va_Qi (fun (r : Int32) (u : Unit) => r = bi (isW x 0 2)) (fun _ _ => True) (fun q : Nat => sz ≤ q)) 0 0 (fun q : Nat => sz ≤ q) := by
  refine Met.ofW (cc := cX3_isFrame) (maxL := 1) (ret := (some .boolean)) (by decide) rfl ?_
  intro pg ev s mi args below meth cd s₁ B hml hv
  obtain ⟨hav, hsz, hP, hE, hD, hXs⟩ := hv
  have hx := B.exec
  have hb := B.bytes
  have hr := B.returns
  have hts := atoms_spec (ws := wsX3_isFrame) B.pre
  have hown : s.vm.findClass RX3 = some mi.cls := findClass_of_methodNamed B.named
  have hlocks := B.notSynchronized
  clear B
  subst hav
  subst hsz
  have hA : ∀ q : Nat, s.heap.size ≤ q → (fun q : Nat => s.heap.size ≤ q) q := fun _ h => h
  have hS : va_S (fun q : Nat => s.heap.size ≤ q) s.heap s.heap [] := va_S.rf
  obtain ⟨QQ, hQQ⟩ : ∃ qq9, qq9 = MQ below (va_Qi (fun (r : Int32) (u : Unit) => r = bi (isW x 0 2)) (fun _ _ => True) (fun q : Nat => s.heap.size ≤ q)) ([.int x] : List Value).toArray s 0 0 (fun q : Nat => s.heap.size ≤ q) := ⟨_, rfl⟩
  rw [← hQQ]
  have hl := lv_entry ([.int x]) (n := 1) (Nat.le_of_ble_eq_true rfl)
  rw [lg_entry_eq]
  generalize (lg_sl ([.int x]) ++ List.replicate (1 - (lg_sl ([.int x])).length) Slot.unset).toArray = ls at hl ⊢
  have hl : lv_has ls 1 [(0, .int x)] := hl
  obtain ⟨H, locs, hP, hS, hgo⟩ : ∃ H locs, va_P D vwCl ([] : va_W) H ∧ va_S (fun q : Nat => s.heap.size ≤ q) s.heap H locs ∧ (H = s.heap ∧ locs = []) := ⟨_, _, hP, hS, rfl, rfl⟩
  obtain ⟨hg1, hg2⟩ := hgo
  have hgoal : W pg lch ev (headSpec wsX3_isFrame ({ frames := 1, cells := 0, slots := 0, locals := 22 })).room s mi ([.int x] : List Value).toArray below meth cd H locs 0 0 QQ (F0 mi 0 ls []) := by
    refine lv_iload_n hx hb dX3_isFrame_0 rfl (lv_at hl 0 rfl) ?_
    refine lv_iconst (v := 0) hx hb dX3_isFrame_1 (by decide) ?_
    refine lv_iconst (v := 2) hx hb dX3_isFrame_2 (by decide) ?_
    refine pSi (As := [.int x, .int 0, .int 2]) (rest := []) (wc := ([] : va_W)) ⟨hx, hb, hml, hown, hts⟩ (K_X3_isWithin lch D cA x 0 2 H.size ) (cwS 3 hts gX3_isFrame_X3_isWithin rfl rfl rfl (by decide +kernel) ⟨Nat.le_of_ble_eq_true rfl, Nat.le_of_ble_eq_true rfl⟩) hE hP hD hS hA [] rfl rfl X0.blind (fun _ _ _ => trivial) hl.1 rfl rfl (Nat.le_of_ble_eq_true rfl) dX3_isFrame_3 ⟨Nat.zero_le _, Nat.zero_le _⟩ (fun r_1 u_2 H locs h_3 hP hS => ?_)
    subst h_3
    rw [hQQ]
    exact W.zret (v := bi (isW x 0 2)) hx hb hr (nar_bi _) (fun t ht hW => ⟨⟨bi (isW x 0 2), (), rfl, rfl, trivial⟩, hS.F ht⟩) hS.2.2 dX3_isFrame_6
  rw [hg1, hg2] at hgoal
  exact hgoal

set_option maxHeartbeats 4000000 in
set_option maxRecDepth 100000 in
/-- waxOf -/
theorem K_X3_waxOf (lch : Launch) (D : va_G) (cA : ClassId) (f : Nat) (sz : Nat) (hf : f < 3) : Met lch yX3_waxOf wsX3_waxOf ({ frames := 0, cells := 0, slots := 0, locals := 0 }) (Pr D cA [.int (nI f)] sz ([] : va_W) X0) (va_Qi (fun (r : Int32) (u : Unit) => r = nI (waxOf f)) (fun _ _ => True) (fun q : Nat => sz ≤ q)) 0 0 (fun q : Nat => sz ≤ q) := by
  refine Met.ofW (cc := cX3_waxOf) (maxL := 1) (ret := (some .int)) (by decide) rfl ?_
  intro pg ev s mi args below meth cd s₁ B hml hv
  obtain ⟨hav, hsz, hP, hE, hD, hXs⟩ := hv
  have hx := B.exec
  have hb := B.bytes
  have hr := B.returns
  have hts := atoms_spec (ws := wsX3_waxOf) B.pre
  have hown : s.vm.findClass RX3 = some mi.cls := findClass_of_methodNamed B.named
  have hlocks := B.notSynchronized
  clear B
  subst hav
  subst hsz
  have hA : ∀ q : Nat, s.heap.size ≤ q → (fun q : Nat => s.heap.size ≤ q) q := fun _ h => h
  have hS : va_S (fun q : Nat => s.heap.size ≤ q) s.heap s.heap [] := va_S.rf
  obtain ⟨QQ, hQQ⟩ : ∃ qq9, qq9 = MQ below (va_Qi (fun (r : Int32) (u : Unit) => r = nI (waxOf f)) (fun _ _ => True) (fun q : Nat => s.heap.size ≤ q)) ([.int (nI f)] : List Value).toArray s 0 0 (fun q : Nat => s.heap.size ≤ q) := ⟨_, rfl⟩
  rw [← hQQ]
  have hl := lv_entry ([.int (nI f)]) (n := 1) (Nat.le_of_ble_eq_true rfl)
  rw [lg_entry_eq]
  generalize (lg_sl ([.int (nI f)]) ++ List.replicate (1 - (lg_sl ([.int (nI f)])).length) Slot.unset).toArray = ls at hl ⊢
  have hl : lv_has ls 1 [(0, .int (nI f))] := hl
  obtain ⟨H, locs, hP, hS, hgo⟩ : ∃ H locs, va_P D vwCl ([] : va_W) H ∧ va_S (fun q : Nat => s.heap.size ≤ q) s.heap H locs ∧ (H = s.heap ∧ locs = []) := ⟨_, _, hP, hS, rfl, rfl⟩
  obtain ⟨hg1, hg2⟩ := hgo
  have hgoal : W pg lch ev (headSpec wsX3_waxOf ({ frames := 0, cells := 0, slots := 0, locals := 0 })).room s mi ([.int (nI f)] : List Value).toArray below meth cd H locs 0 0 QQ (F0 mi 0 ls []) := by
    refine lv_iload_n hx hb dX3_waxOf_0 rfl (lv_at hl 0 rfl) ?_
    refine lv_if_ne (tgt := 9) hx hb dX3_waxOf_1 (by decide) (fun c1 => ?_) (fun c1 => ?_)
    · skip
      have c1 := (not_congr (nI_eq (a := f) (b := 0) (by omega) (by omega))).mp c1
      refine lv_iload_n hx hb dX3_waxOf_9 rfl (lv_at hl 0 rfl) ?_
      refine lv_iconst (v := 1) hx hb dX3_waxOf_10 (by decide) ?_
      refine lv_icmp_ne (tgt := 19) hx hb dX3_waxOf_11 (by decide) (fun c11 => ?_) (fun c11 => ?_)
      · skip
        have c11 := (not_congr (nI_eq (a := f) (b := 1) (by omega) (by omega))).mp c11
        refine lv_bipush (v := 45) hx hb dX3_waxOf_19 (by decide) ?_
        rw [hQQ]
        exact W.iret (v := 45) hx hb hr (fun t ht hW => ⟨⟨45, (), rfl, by unfold waxOf; rw [if_neg c1, if_neg c11]; rfl, trivial⟩, hS.F ht⟩) hS.2.2 dX3_waxOf_21
      · skip
        have c11 := (nI_eq (a := f) (b := 1) (by omega) (by omega)).mp c11
        refine lv_bipush (v := 30) hx hb dX3_waxOf_14 (by decide) ?_
        refine lv_goto (tgt := 21) hx hb dX3_waxOf_16 (by decide) ?_
        rw [hQQ]
        exact W.iret (v := 30) hx hb hr (fun t ht hW => ⟨⟨30, (), rfl, by unfold waxOf; rw [if_neg c1, if_pos c11]; rfl, trivial⟩, hS.F ht⟩) hS.2.2 dX3_waxOf_21
    · skip
      have c1 := (nI_eq (a := f) (b := 0) (by omega) (by omega)).mp c1
      refine lv_bipush (v := 20) hx hb dX3_waxOf_4 (by decide) ?_
      refine lv_goto (tgt := 21) hx hb dX3_waxOf_6 (by decide) ?_
      rw [hQQ]
      exact W.iret (v := 20) hx hb hr (fun t ht hW => ⟨⟨20, (), rfl, by unfold waxOf; rw [if_pos c1]; rfl, trivial⟩, hS.F ht⟩) hS.2.2 dX3_waxOf_21
  rw [hg1, hg2] at hgoal
  exact hgoal

set_option maxHeartbeats 4000000 in
set_option maxRecDepth 100000 in
/-- sprayTakenBy -/
theorem K_X3_sprayTakenBy (lch : Launch) (D : va_G) (cA : ClassId) (f : Nat) (sz : Nat) (hf : f < 3) : Met lch yX3_sprayTakenBy wsX3_sprayTakenBy ({ frames := 0, cells := 0, slots := 0, locals := 0 }) (Pr D cA [.int (nI f)] sz ([] : va_W) X0) (va_Qi (fun (r : Int32) (u : Unit) => r = takes f) (fun _ _ => True) (fun q : Nat => sz ≤ q)) 0 0 (fun q : Nat => sz ≤ q) := by
  refine Met.ofW (cc := cX3_sprayTakenBy) (maxL := 1) (ret := (some .int)) (by decide) rfl ?_
  intro pg ev s mi args below meth cd s₁ B hml hv
  obtain ⟨hav, hsz, hP, hE, hD, hXs⟩ := hv
  have hx := B.exec
  have hb := B.bytes
  have hr := B.returns
  have hts := atoms_spec (ws := wsX3_sprayTakenBy) B.pre
  have hown : s.vm.findClass RX3 = some mi.cls := findClass_of_methodNamed B.named
  have hlocks := B.notSynchronized
  clear B
  subst hav
  subst hsz
  have hA : ∀ q : Nat, s.heap.size ≤ q → (fun q : Nat => s.heap.size ≤ q) q := fun _ h => h
  have hS : va_S (fun q : Nat => s.heap.size ≤ q) s.heap s.heap [] := va_S.rf
  obtain ⟨QQ, hQQ⟩ : ∃ qq9, qq9 = MQ below (va_Qi (fun (r : Int32) (u : Unit) => r = takes f) (fun _ _ => True) (fun q : Nat => s.heap.size ≤ q)) ([.int (nI f)] : List Value).toArray s 0 0 (fun q : Nat => s.heap.size ≤ q) := ⟨_, rfl⟩
  rw [← hQQ]
  have hl := lv_entry ([.int (nI f)]) (n := 1) (Nat.le_of_ble_eq_true rfl)
  rw [lg_entry_eq]
  generalize (lg_sl ([.int (nI f)]) ++ List.replicate (1 - (lg_sl ([.int (nI f)])).length) Slot.unset).toArray = ls at hl ⊢
  have hl : lv_has ls 1 [(0, .int (nI f))] := hl
  obtain ⟨H, locs, hP, hS, hgo⟩ : ∃ H locs, va_P D vwCl ([] : va_W) H ∧ va_S (fun q : Nat => s.heap.size ≤ q) s.heap H locs ∧ (H = s.heap ∧ locs = []) := ⟨_, _, hP, hS, rfl, rfl⟩
  obtain ⟨hg1, hg2⟩ := hgo
  have hgoal : W pg lch ev (headSpec wsX3_sprayTakenBy ({ frames := 0, cells := 0, slots := 0, locals := 0 })).room s mi ([.int (nI f)] : List Value).toArray below meth cd H locs 0 0 QQ (F0 mi 0 ls []) := by
    refine lv_iload_n hx hb dX3_sprayTakenBy_0 rfl (lv_at hl 0 rfl) ?_
    refine lv_if_ne (tgt := 9) hx hb dX3_sprayTakenBy_1 (by decide) (fun c1 => ?_) (fun c1 => ?_)
    · skip
      have c1 := (not_congr (nI_eq (a := f) (b := 0) (by omega) (by omega))).mp c1
      refine lv_iload_n hx hb dX3_sprayTakenBy_9 rfl (lv_at hl 0 rfl) ?_
      refine lv_iconst (v := 1) hx hb dX3_sprayTakenBy_10 (by decide) ?_
      refine lv_icmp_ne (tgt := 19) hx hb dX3_sprayTakenBy_11 (by decide) (fun c11 => ?_) (fun c11 => ?_)
      · skip
        have c11 := (not_congr (nI_eq (a := f) (b := 1) (by omega) (by omega))).mp c11
        refine lv_iconst (v := 5) hx hb dX3_sprayTakenBy_19 (by decide) ?_
        rw [hQQ]
        exact W.iret (v := 5) hx hb hr (fun t ht hW => ⟨⟨5, (), rfl, by unfold takes; rw [if_neg c1, if_neg c11], trivial⟩, hS.F ht⟩) hS.2.2 dX3_sprayTakenBy_20
      · skip
        have c11 := (nI_eq (a := f) (b := 1) (by omega) (by omega)).mp c11
        refine lv_bipush (v := 8) hx hb dX3_sprayTakenBy_14 (by decide) ?_
        refine lv_goto (tgt := 20) hx hb dX3_sprayTakenBy_16 (by decide) ?_
        rw [hQQ]
        exact W.iret (v := 8) hx hb hr (fun t ht hW => ⟨⟨8, (), rfl, by unfold takes; rw [if_neg c1, if_pos c11], trivial⟩, hS.F ht⟩) hS.2.2 dX3_sprayTakenBy_20
    · skip
      have c1 := (nI_eq (a := f) (b := 0) (by omega) (by omega)).mp c1
      refine lv_bipush (v := 12) hx hb dX3_sprayTakenBy_4 (by decide) ?_
      refine lv_goto (tgt := 20) hx hb dX3_sprayTakenBy_6 (by decide) ?_
      rw [hQQ]
      exact W.iret (v := 12) hx hb hr (fun t ht hW => ⟨⟨12, (), rfl, by unfold takes; rw [if_pos c1], trivial⟩, hS.F ht⟩) hS.2.2 dX3_sprayTakenBy_20
  rw [hg1, hg2] at hgoal
  exact hgoal
end
section
set_option maxHeartbeats 4000000 in
set_option maxRecDepth 100000 in
/-- hasNet -/
theorem K_X0_hasNet (lch : Launch) (D : va_G) (cA : ClassId) (B : Nat → Nat) (b : BSt) (la : Nat) (pl : Nat) (sz : Nat) (h1 : la < 3) (h2 : pl < 60) : Met lch yX0_hasNet wsX0_hasNet ({ frames := 1, cells := 0, slots := 0, locals := 21 }) (Pr D cA [.ref (B 0), .int (nI la), .int (nI pl)] sz (wB cA B b) X0) (va_Qi (fun (r : Int32) (u : Unit) => r = bi (bNe b (la * 60 + pl))) (fun _ _ => True) (fun q : Nat => sz ≤ q)) 0 0 (fun q : Nat => sz ≤ q) := by
  refine Met.ofW (cc := cX0_hasNet) (maxL := 3) (ret := (some .boolean)) (by decide) rfl ?_
  intro pg ev s mi args below meth cd s₁ B hml hv
  obtain ⟨hav, hsz, hP, hE, hD, hXs⟩ := hv
  have hx := B.exec
  have hb := B.bytes
  have hr := B.returns
  have hts := atoms_spec (ws := wsX0_hasNet) B.pre
  have hown : s.vm.findClass RX0 = some mi.cls := findClass_of_methodNamed B.named
  have hlocks := B.notSynchronized
  clear B
  subst hav
  subst hsz
  have hA : ∀ q : Nat, s.heap.size ≤ q → (fun q : Nat => s.heap.size ≤ q) q := fun _ h => h
  have hS : va_S (fun q : Nat => s.heap.size ≤ q) s.heap s.heap [] := va_S.rf
  obtain ⟨QQ, hQQ⟩ : ∃ qq9, qq9 = MQ below (va_Qi (fun (r : Int32) (u : Unit) => r = bi (bNe b (la * 60 + pl))) (fun _ _ => True) (fun q : Nat => s.heap.size ≤ q)) ([.ref (B 0), .int (nI la), .int (nI pl)] : List Value).toArray s 0 0 (fun q : Nat => s.heap.size ≤ q) := ⟨_, rfl⟩
  rw [← hQQ]
  have hl := lv_entry ([.ref (B 0), .int (nI la), .int (nI pl)]) (n := 3) (Nat.le_of_ble_eq_true rfl)
  rw [lg_entry_eq]
  generalize (lg_sl ([.ref (B 0), .int (nI la), .int (nI pl)]) ++ List.replicate (3 - (lg_sl ([.ref (B 0), .int (nI la), .int (nI pl)])).length) Slot.unset).toArray = ls at hl ⊢
  have hl : lv_has ls 3 [(0, .ref (B 0)), (1, .int (nI la)), (2, .int (nI pl))] := hl
  have kf23 := hts (.fieldLink RX0 23 "LanternWeirs$Bed" "nets" "LLanternWeirs$Row;") (by decide +kernel)
  have inX0 : ∀ w ∈ u_ws RX0 TX0 5, w ∈ wsX0_hasNet := by decide +kernel
  obtain ⟨H, locs, hP, hS, hgo⟩ : ∃ H locs, va_P D vwCl (wB cA B b) H ∧ va_S (fun q : Nat => s.heap.size ≤ q) s.heap H locs ∧ (H = s.heap ∧ locs = []) := ⟨_, _, hP, hS, rfl, rfl⟩
  obtain ⟨hg1, hg2⟩ := hgo
  have hgoal : W pg lch ev (headSpec wsX0_hasNet ({ frames := 1, cells := 0, slots := 0, locals := 21 })).room s mi ([.ref (B 0), .int (nI la), .int (nI pl)] : List Value).toArray below meth cd H locs 0 0 QQ (F0 mi 0 ls []) := by
    refine lv_aload_n hx hb dX0_hasNet_0 rfl (lv_at hl 0 rfl) ?_
    refine va_get (D := D) (ci := 0) (v := .ref (B 3)) (C := RX0) (T := TX0) (N := 5) hx hb hts inX0 hown hE.1 hP 0 rfl rfl 2 (by decide) kf23 (fun _ h9 => h9) rfl dX0_hasNet_1 ?_
    refine lv_iload_n hx hb dX0_hasNet_4 rfl (lv_at hl 1 rfl) ?_
    refine lv_bipush (v := 60) hx hb dX0_hasNet_5 (by decide) ?_
    refine lv_imul hx hb dX0_hasNet_7 ?_
    refine top_i (y := nI (la * 60)) (pk_mul _ _) ?_
    refine lv_iload_n hx hb dX0_hasNet_8 rfl (lv_at hl 2 rfl) ?_
    refine lv_iadd hx hb dX0_hasNet_9 ?_
    refine top_i (y := nI ((la * 60) + pl)) (nI_add _ _) ?_
    refine pVi (As := [.int (nI ((la * 60) + pl))]) (rest := []) (wc := (wR cA (B 3) (B 6) 180 (fun z9 => bi (bNe b z9)))) ⟨hx, hb, hml, hown, hts⟩ (K_X2_getk lch D cA (B 3) (B 6) 180 (fun z9 => bi (bNe b z9)) ((la * 60) + pl) (bi (bNe b ((la * 60) + pl))) H.size (by omega) (Nat.le_of_ble_eq_true rfl) (rfl)) (cwV 1 hts gX0_hasNet_X2_get rfl rfl rfl (by decide +kernel) ⟨Nat.le_of_ble_eq_true rfl, Nat.le_of_ble_eq_true rfl⟩) hE hP hD hS hA [3, 6] rfl rfl X0.blind (fun _ _ _ => trivial) 3 2 rfl rfl rfl hl.1 rfl rfl (Nat.le_of_ble_eq_true rfl) dX0_hasNet_10 ⟨Nat.zero_le _, Nat.zero_le _⟩ (fun r_1 u_2 H locs h_3 hP hS => ?_)
    subst h_3
    refine lv_iconst (v := 1) hx hb dX0_hasNet_13 (by decide) ?_
    refine lv_icmp_ne (tgt := 21) hx hb dX0_hasNet_14 (by decide) (fun c14 => ?_) (fun c14 => ?_)
    · skip
      have c14 := bi_f.mp c14
      refine lv_iconst (v := 0) hx hb dX0_hasNet_21 (by decide) ?_
      rw [hQQ]
      exact W.zret (v := 0) hx hb hr (by decide) (fun t ht hW => ⟨⟨0, (), rfl, by rw [c14]; rfl, trivial⟩, hS.F ht⟩) hS.2.2 dX0_hasNet_22
    · skip
      have c14 := bi_t.mp c14
      refine lv_iconst (v := 1) hx hb dX0_hasNet_17 (by decide) ?_
      refine lv_goto (tgt := 22) hx hb dX0_hasNet_18 (by decide) ?_
      rw [hQQ]
      exact W.zret (v := 1) hx hb hr (by decide) (fun t ht hW => ⟨⟨1, (), rfl, by rw [c14]; rfl, trivial⟩, hS.F ht⟩) hS.2.2 dX0_hasNet_22
  rw [hg1, hg2] at hgoal
  exact hgoal

set_option maxHeartbeats 4000000 in
set_option maxRecDepth 100000 in
/-- addWeir -/
theorem K_X0_addWeir (lch : Launch) (D : va_G) (cA : ClassId) (B : Nat → Nat) (b : BSt) (pl : Nat) (v : Int32) (sz : Nat) (h2 : pl < 60) : Met lch yX0_addWeir wsX0_addWeir ({ frames := 1, cells := 0, slots := 0, locals := 22 }) (Pr D cA [.ref (B 0), .int (nI pl), .int v] sz (wB cA B b) X0) (va_Qi (fun (r : Int32) (u : Unit) => r = nI (bW b + 1)) (fun (u : Unit) t => va_P D vwCl (wB cA B (vW (vSp b (up (bSp b) pl v)) (bW b + 1))) t.heap) (va_A (wB cA B b) sz)) 0 0 (va_A (wB cA B b) sz) := by
  refine Met.ofW (cc := cX0_addWeir) (maxL := 3) (ret := (some .int)) (by decide) rfl ?_
  intro pg ev s mi args below meth cd s₁ B hml hv
  obtain ⟨hav, hsz, hP, hE, hD, hXs⟩ := hv
  have hx := B.exec
  have hb := B.bytes
  have hr := B.returns
  have hts := atoms_spec (ws := wsX0_addWeir) B.pre
  have hown : s.vm.findClass RX0 = some mi.cls := findClass_of_methodNamed B.named
  have hlocks := B.notSynchronized
  clear B
  subst hav
  subst hsz
  have hD := hD.self (sz := s.heap.size)
  generalize hAe : va_A (wB cA B b) s.heap.size = A at hD ⊢
  have hA : ∀ q : Nat, s.heap.size ≤ q → A q := fun q h => by rw [← hAe]; exact Or.inr h
  have hS : va_S A s.heap s.heap [] := va_S.rf
  obtain ⟨QQ, hQQ⟩ : ∃ qq9, qq9 = MQ below (va_Qi (fun (r : Int32) (u : Unit) => r = nI (bW b + 1)) (fun (u : Unit) t => va_P D vwCl (wB cA B (vW (vSp b (up (bSp b) pl v)) (bW b + 1))) t.heap) A) ([.ref (B 0), .int (nI pl), .int v] : List Value).toArray s 0 0 A := ⟨_, rfl⟩
  rw [← hQQ]
  have hl := lv_entry ([.ref (B 0), .int (nI pl), .int v]) (n := 3) (Nat.le_of_ble_eq_true rfl)
  rw [lg_entry_eq]
  generalize (lg_sl ([.ref (B 0), .int (nI pl), .int v]) ++ List.replicate (3 - (lg_sl ([.ref (B 0), .int (nI pl), .int v])).length) Slot.unset).toArray = ls at hl ⊢
  have hl : lv_has ls 3 [(0, .ref (B 0)), (1, .int (nI pl)), (2, .int v)] := hl
  have kf20 := hts (.fieldLink RX0 20 "LanternWeirs$Bed" "sprays" "LLanternWeirs$Row;") (by decide +kernel)
  have inX0 : ∀ w ∈ u_ws RX0 TX0 5, w ∈ wsX0_addWeir := by decide +kernel
  have kf30 := hts (.fieldLink RX0 30 "LanternWeirs$Bed" "weirs" "I") (by decide +kernel)
  obtain ⟨H, locs, hP, hS, hgo⟩ : ∃ H locs, va_P D vwCl (wB cA B b) H ∧ va_S A s.heap H locs ∧ (H = s.heap ∧ locs = []) := ⟨_, _, hP, hS, rfl, rfl⟩
  obtain ⟨hg1, hg2⟩ := hgo
  have hgoal : W pg lch ev (headSpec wsX0_addWeir ({ frames := 1, cells := 0, slots := 0, locals := 22 })).room s mi ([.ref (B 0), .int (nI pl), .int v] : List Value).toArray below meth cd H locs 0 0 QQ (F0 mi 0 ls []) := by
    refine lv_aload_n hx hb dX0_addWeir_0 rfl (lv_at hl 0 rfl) ?_
    refine va_get (D := D) (ci := 0) (v := .ref (B 2)) (C := RX0) (T := TX0) (N := 5) hx hb hts inX0 hown hE.1 hP 0 rfl rfl 1 (by decide) kf20 (fun _ h9 => h9) rfl dX0_addWeir_1 ?_
    refine lv_iload_n hx hb dX0_addWeir_4 rfl (lv_at hl 1 rfl) ?_
    refine lv_iload_n hx hb dX0_addWeir_5 rfl (lv_at hl 2 rfl) ?_
    refine cVv (As := [.int (nI pl), .int v]) (rest := []) (wc := (wR cA (B 2) (B 5) 60 (bSp b))) ⟨hx, hb, hml, hown, hts⟩ (K_X2_putk lch D cA (B 2) (B 5) 60 (bSp b) pl v (bSp (vSp b (up (bSp b) pl v))) H.size (by omega) (Nat.le_of_ble_eq_true rfl) (fun j _ => upd_I j)) (cwV 2 hts gX0_addWeir_X2_put rfl rfl rfl (by decide +kernel) ⟨Nat.le_of_ble_eq_true rfl, Nat.le_of_ble_eq_true rfl⟩) hE hP hD hS hA [2, 5] rfl rfl [B 2, B 5] (fun _ => rfl) rfl (fun (u_2 : Unit) => (wB cA B (vSp b (up (bSp b) pl v)))) (fun _ => rfl) X0.blind (fun _ _ _ => trivial) 2 2 rfl rfl rfl hl.1 rfl rfl (Nat.le_of_ble_eq_true rfl) dX0_addWeir_6 ⟨Nat.zero_le _, Nat.zero_le _⟩ (fun u_2 H locs h_3 hP hD hS => ?_)
    refine lv_aload_n hx hb dX0_addWeir_9 rfl (lv_at hl 0 rfl) ?_
    refine lv_dup hx hb dX0_addWeir_10 rfl ?_
    refine va_get (D := D) (ci := 0) (v := .int (nI (bW (vSp b (up (bSp b) pl v))))) (C := RX0) (T := TX0) (N := 5) hx hb hts inX0 hown hE.1 hP 0 rfl rfl 3 (by decide) kf30 (fun _ h9 => h9) rfl dX0_addWeir_11 ?_
    refine lv_iconst (v := 1) hx hb dX0_addWeir_14 (by decide) ?_
    refine lv_iadd hx hb dX0_addWeir_15 ?_
    refine top_i (y := nI ((bW (vSp b (up (bSp b) pl v))) + 1)) (nI_add _ _) ?_
    refine va_put (D := D) (ci := 0) (v := .int (nI ((bW (vSp b (up (bSp b) pl v))) + 1))) (ty := .int) (C := RX0) (T := TX0) (N := 5) hx hb hts inX0 tyX0 tyX0_ok nmX0 hown hE.1 hP hD hS 0 rfl rfl 3 (by decide) kf30 (fun _ h9 => h9) rfl (by decide +kernel) rfl rfl (Nat.le_of_ble_eq_true rfl) dX0_addWeir_16 (fun H locs hP hD hS => ?_)
    have hP : va_P D vwCl (wB cA B (vW (vSp b (up (bSp b) pl v)) (bW b + 1))) H := hP
    have hD : va_D A (wB cA B (vW (vSp b (up (bSp b) pl v)) (bW b + 1))) := hD
    refine lv_aload_n hx hb dX0_addWeir_19 rfl (lv_at hl 0 rfl) ?_
    refine va_get (D := D) (ci := 0) (v := .int (nI (bW (vW (vSp b (up (bSp b) pl v)) (bW b + 1))))) (C := RX0) (T := TX0) (N := 5) hx hb hts inX0 hown hE.1 hP 0 rfl rfl 3 (by decide) kf30 (fun _ h9 => h9) rfl dX0_addWeir_20 ?_
    rw [hQQ]
    exact W.iret (v := nI (bW (vW (vSp b (up (bSp b) pl v)) (bW b + 1)))) hx hb hr (fun t ht hW => ⟨⟨nI (bW (vW (vSp b (up (bSp b) pl v)) (bW b + 1))), (), rfl, rfl, by show va_P _ _ _ t.heap; rw [ht]; exact hP⟩, hS.F ht⟩) hS.2.2 dX0_addWeir_23
  rw [hg1, hg2] at hgoal
  exact hgoal

set_option maxHeartbeats 4000000 in
set_option maxRecDepth 100000 in
/-- addNet -/
theorem K_X0_addNet (lch : Launch) (D : va_G) (cA : ClassId) (B : Nat → Nat) (b : BSt) (la : Nat) (pl : Nat) (sz : Nat) (h1 : la < 3) (h2 : pl < 60) : Met lch yX0_addNet wsX0_addNet ({ frames := 1, cells := 0, slots := 0, locals := 22 }) (Pr D cA [.ref (B 0), .int (nI la), .int (nI pl)] sz (wB cA B b) X0) (va_Qi (fun (r : Int32) (u : Unit) => r = nI (bK b + 1)) (fun (u : Unit) t => va_P D vwCl (wB cA B (vK (vNe b (up (bNe b) (la * 60 + pl) true)) (bK b + 1))) t.heap) (va_A (wB cA B b) sz)) 0 0 (va_A (wB cA B b) sz) := by
  refine Met.ofW (cc := cX0_addNet) (maxL := 3) (ret := (some .int)) (by decide) rfl ?_
  intro pg ev s mi args below meth cd s₁ B hml hv
  obtain ⟨hav, hsz, hP, hE, hD, hXs⟩ := hv
  have hx := B.exec
  have hb := B.bytes
  have hr := B.returns
  have hts := atoms_spec (ws := wsX0_addNet) B.pre
  have hown : s.vm.findClass RX0 = some mi.cls := findClass_of_methodNamed B.named
  have hlocks := B.notSynchronized
  clear B
  subst hav
  subst hsz
  have hD := hD.self (sz := s.heap.size)
  generalize hAe : va_A (wB cA B b) s.heap.size = A at hD ⊢
  have hA : ∀ q : Nat, s.heap.size ≤ q → A q := fun q h => by rw [← hAe]; exact Or.inr h
  have hS : va_S A s.heap s.heap [] := va_S.rf
  obtain ⟨QQ, hQQ⟩ : ∃ qq9, qq9 = MQ below (va_Qi (fun (r : Int32) (u : Unit) => r = nI (bK b + 1)) (fun (u : Unit) t => va_P D vwCl (wB cA B (vK (vNe b (up (bNe b) (la * 60 + pl) true)) (bK b + 1))) t.heap) A) ([.ref (B 0), .int (nI la), .int (nI pl)] : List Value).toArray s 0 0 A := ⟨_, rfl⟩
  rw [← hQQ]
  have hl := lv_entry ([.ref (B 0), .int (nI la), .int (nI pl)]) (n := 3) (Nat.le_of_ble_eq_true rfl)
  rw [lg_entry_eq]
  generalize (lg_sl ([.ref (B 0), .int (nI la), .int (nI pl)]) ++ List.replicate (3 - (lg_sl ([.ref (B 0), .int (nI la), .int (nI pl)])).length) Slot.unset).toArray = ls at hl ⊢
  have hl : lv_has ls 3 [(0, .ref (B 0)), (1, .int (nI la)), (2, .int (nI pl))] := hl
  have kf23 := hts (.fieldLink RX0 23 "LanternWeirs$Bed" "nets" "LLanternWeirs$Row;") (by decide +kernel)
  have inX0 : ∀ w ∈ u_ws RX0 TX0 5, w ∈ wsX0_addNet := by decide +kernel
  have kf34 := hts (.fieldLink RX0 34 "LanternWeirs$Bed" "netCount" "I") (by decide +kernel)
  obtain ⟨H, locs, hP, hS, hgo⟩ : ∃ H locs, va_P D vwCl (wB cA B b) H ∧ va_S A s.heap H locs ∧ (H = s.heap ∧ locs = []) := ⟨_, _, hP, hS, rfl, rfl⟩
  obtain ⟨hg1, hg2⟩ := hgo
  have hgoal : W pg lch ev (headSpec wsX0_addNet ({ frames := 1, cells := 0, slots := 0, locals := 22 })).room s mi ([.ref (B 0), .int (nI la), .int (nI pl)] : List Value).toArray below meth cd H locs 0 0 QQ (F0 mi 0 ls []) := by
    refine lv_aload_n hx hb dX0_addNet_0 rfl (lv_at hl 0 rfl) ?_
    refine va_get (D := D) (ci := 0) (v := .ref (B 3)) (C := RX0) (T := TX0) (N := 5) hx hb hts inX0 hown hE.1 hP 0 rfl rfl 2 (by decide) kf23 (fun _ h9 => h9) rfl dX0_addNet_1 ?_
    refine lv_iload_n hx hb dX0_addNet_4 rfl (lv_at hl 1 rfl) ?_
    refine lv_bipush (v := 60) hx hb dX0_addNet_5 (by decide) ?_
    refine lv_imul hx hb dX0_addNet_7 ?_
    refine top_i (y := nI (la * 60)) (pk_mul _ _) ?_
    refine lv_iload_n hx hb dX0_addNet_8 rfl (lv_at hl 2 rfl) ?_
    refine lv_iadd hx hb dX0_addNet_9 ?_
    refine top_i (y := nI ((la * 60) + pl)) (nI_add _ _) ?_
    refine lv_iconst (v := 1) hx hb dX0_addNet_10 (by decide) ?_
    refine cVv (As := [.int (nI ((la * 60) + pl)), .int 1]) (rest := []) (wc := (wR cA (B 3) (B 6) 180 (fun z9 => bi (bNe b z9)))) ⟨hx, hb, hml, hown, hts⟩ (K_X2_putk lch D cA (B 3) (B 6) 180 (fun z9 => bi (bNe b z9)) ((la * 60) + pl) 1 (fun z9 => bi (bNe (vNe b (up (bNe b) (la * 60 + pl) true)) z9)) H.size (by omega) (Nat.le_of_ble_eq_true rfl) (fun j _ => upd_B (v := true) j)) (cwV 2 hts gX0_addNet_X2_put rfl rfl rfl (by decide +kernel) ⟨Nat.le_of_ble_eq_true rfl, Nat.le_of_ble_eq_true rfl⟩) hE hP hD hS hA [3, 6] rfl rfl [B 3, B 6] (fun _ => rfl) rfl (fun (u_2 : Unit) => (wB cA B (vNe b (up (bNe b) (la * 60 + pl) true)))) (fun _ => rfl) X0.blind (fun _ _ _ => trivial) 3 2 rfl rfl rfl hl.1 rfl rfl (Nat.le_of_ble_eq_true rfl) dX0_addNet_11 ⟨Nat.zero_le _, Nat.zero_le _⟩ (fun u_2 H locs h_3 hP hD hS => ?_)
    refine lv_aload_n hx hb dX0_addNet_14 rfl (lv_at hl 0 rfl) ?_
    refine lv_dup hx hb dX0_addNet_15 rfl ?_
    refine va_get (D := D) (ci := 0) (v := .int (nI (bK (vNe b (up (bNe b) (la * 60 + pl) true))))) (C := RX0) (T := TX0) (N := 5) hx hb hts inX0 hown hE.1 hP 0 rfl rfl 4 (by decide) kf34 (fun _ h9 => h9) rfl dX0_addNet_16 ?_
    refine lv_iconst (v := 1) hx hb dX0_addNet_19 (by decide) ?_
    refine lv_iadd hx hb dX0_addNet_20 ?_
    refine top_i (y := nI ((bK (vNe b (up (bNe b) (la * 60 + pl) true))) + 1)) (nI_add _ _) ?_
    refine va_put (D := D) (ci := 0) (v := .int (nI ((bK (vNe b (up (bNe b) (la * 60 + pl) true))) + 1))) (ty := .int) (C := RX0) (T := TX0) (N := 5) hx hb hts inX0 tyX0 tyX0_ok nmX0 hown hE.1 hP hD hS 0 rfl rfl 4 (by decide) kf34 (fun _ h9 => h9) rfl (by decide +kernel) rfl rfl (Nat.le_of_ble_eq_true rfl) dX0_addNet_21 (fun H locs hP hD hS => ?_)
    have hP : va_P D vwCl (wB cA B (vK (vNe b (up (bNe b) (la * 60 + pl) true)) (bK b + 1))) H := hP
    have hD : va_D A (wB cA B (vK (vNe b (up (bNe b) (la * 60 + pl) true)) (bK b + 1))) := hD
    refine lv_aload_n hx hb dX0_addNet_24 rfl (lv_at hl 0 rfl) ?_
    refine va_get (D := D) (ci := 0) (v := .int (nI (bK (vK (vNe b (up (bNe b) (la * 60 + pl) true)) (bK b + 1))))) (C := RX0) (T := TX0) (N := 5) hx hb hts inX0 hown hE.1 hP 0 rfl rfl 4 (by decide) kf34 (fun _ h9 => h9) rfl dX0_addNet_25 ?_
    rw [hQQ]
    exact W.iret (v := nI (bK (vK (vNe b (up (bNe b) (la * 60 + pl) true)) (bK b + 1)))) hx hb hr (fun t ht hW => ⟨⟨nI (bK (vK (vNe b (up (bNe b) (la * 60 + pl) true)) (bK b + 1))), (), rfl, rfl, by show va_P _ _ _ t.heap; rw [ht]; exact hP⟩, hS.F ht⟩) hS.2.2 dX0_addNet_28
  rw [hg1, hg2] at hgoal
  exact hgoal
end
section
set_option maxHeartbeats 4000000 in
set_option maxRecDepth 100000 in
/-- cell -/
theorem K_X1_cell (lch : Launch) (D : va_G) (cA : ClassId) (l : Nat) (p : Nat) (f : Nat) (sz : Nat) (hp : p < 100) : Met lch yX1_cell wsX1_cell ({ frames := 0, cells := 0, slots := 0, locals := 0 }) (Pr D cA [.int (nI l), .int (nI p), .int (nI f)] sz ([] : va_W) X0) (va_Qi (fun (r : Int32) (u : Unit) => r = ck l p f) (fun _ _ => True) (fun q : Nat => sz ≤ q)) 0 0 (fun q : Nat => sz ≤ q) := by
  refine Met.ofW (cc := cX1_cell) (maxL := 3) (ret := (some .int)) (by decide) rfl ?_
  intro pg ev s mi args below meth cd s₁ B hml hv
  obtain ⟨hav, hsz, hP, hE, hD, hXs⟩ := hv
  have hx := B.exec
  have hb := B.bytes
  have hr := B.returns
  have hts := atoms_spec (ws := wsX1_cell) B.pre
  have hown : s.vm.findClass RX1 = some mi.cls := findClass_of_methodNamed B.named
  have hlocks := B.notSynchronized
  clear B
  subst hav
  subst hsz
  have hA : ∀ q : Nat, s.heap.size ≤ q → (fun q : Nat => s.heap.size ≤ q) q := fun _ h => h
  have hS : va_S (fun q : Nat => s.heap.size ≤ q) s.heap s.heap [] := va_S.rf
  obtain ⟨QQ, hQQ⟩ : ∃ qq9, qq9 = MQ below (va_Qi (fun (r : Int32) (u : Unit) => r = ck l p f) (fun _ _ => True) (fun q : Nat => s.heap.size ≤ q)) ([.int (nI l), .int (nI p), .int (nI f)] : List Value).toArray s 0 0 (fun q : Nat => s.heap.size ≤ q) := ⟨_, rfl⟩
  rw [← hQQ]
  have hl := lv_entry ([.int (nI l), .int (nI p), .int (nI f)]) (n := 3) (Nat.le_of_ble_eq_true rfl)
  rw [lg_entry_eq]
  generalize (lg_sl ([.int (nI l), .int (nI p), .int (nI f)]) ++ List.replicate (3 - (lg_sl ([.int (nI l), .int (nI p), .int (nI f)])).length) Slot.unset).toArray = ls at hl ⊢
  have hl : lv_has ls 3 [(0, .int (nI l)), (1, .int (nI p)), (2, .int (nI f))] := hl
  obtain ⟨H, locs, hP, hS, hgo⟩ : ∃ H locs, va_P D vwCl ([] : va_W) H ∧ va_S (fun q : Nat => s.heap.size ≤ q) s.heap H locs ∧ (H = s.heap ∧ locs = []) := ⟨_, _, hP, hS, rfl, rfl⟩
  obtain ⟨hg1, hg2⟩ := hgo
  have hgoal : W pg lch ev (headSpec wsX1_cell ({ frames := 0, cells := 0, slots := 0, locals := 0 })).room s mi ([.int (nI l), .int (nI p), .int (nI f)] : List Value).toArray below meth cd H locs 0 0 QQ (F0 mi 0 ls []) := by
    refine lv_iload_n hx hb dX1_cell_0 rfl (lv_at hl 1 rfl) ?_
    refine lv_bipush (v := 60) hx hb dX1_cell_1 (by decide) ?_
    refine lv_icmp_ge (tgt := 19) hx hb dX1_cell_3 (by decide) (fun c3 => ?_) (fun c3 => ?_)
    · skip
      have c3 := (nI_leI (a := 60) (b := p) (by omega) (by omega)).mp c3
      refine lv_iconst (v := (-1)) hx hb dX1_cell_19 (by decide) ?_
      rw [hQQ]
      exact W.iret (v := (-1)) hx hb hr (fun t ht hW => ⟨⟨(-1), (), rfl, ck_out c3, trivial⟩, hS.F ht⟩) hS.2.2 dX1_cell_20
    · skip
      have c3 := (not_congr (nI_leI (a := 60) (b := p) (by omega) (by omega))).mp c3
      refine lv_iload_n hx hb dX1_cell_6 rfl (lv_at hl 0 rfl) ?_
      refine lv_bipush (v := 60) hx hb dX1_cell_7 (by decide) ?_
      refine lv_imul hx hb dX1_cell_9 ?_
      refine top_i (y := nI (l * 60)) (pk_mul _ _) ?_
      refine lv_iload_n hx hb dX1_cell_10 rfl (lv_at hl 1 rfl) ?_
      refine lv_iadd hx hb dX1_cell_11 ?_
      refine top_i (y := nI ((l * 60) + p)) (nI_add _ _) ?_
      refine lv_iconst (v := 3) hx hb dX1_cell_12 (by decide) ?_
      refine lv_imul hx hb dX1_cell_13 ?_
      refine top_i (y := nI (((l * 60) + p) * 3)) (pk_mul _ _) ?_
      refine lv_iload_n hx hb dX1_cell_14 rfl (lv_at hl 2 rfl) ?_
      refine lv_iadd hx hb dX1_cell_15 ?_
      refine top_i (y := nI ((((l * 60) + p) * 3) + f)) (nI_add _ _) ?_
      refine lv_goto (tgt := 20) hx hb dX1_cell_16 (by decide) ?_
      rw [hQQ]
      exact W.iret (v := nI ((((l * 60) + p) * 3) + f)) hx hb hr (fun t ht hW => ⟨⟨nI ((((l * 60) + p) * 3) + f), (), rfl, ck_in c3, trivial⟩, hS.F ht⟩) hS.2.2 dX1_cell_20
  rw [hg1, hg2] at hgoal
  exact hgoal

set_option maxHeartbeats 4000000 in
set_option maxRecDepth 100000 in
/-- has -/
theorem K_X1_has (lch : Launch) (D : va_G) (cA : ClassId) (F : Nat → Nat) (a : FSt) (c : Nat → Int32) (q : Nat → Int32) (k : Int32) (sz : Nat)  : Met lch yX1_has wsX1_has ({ frames := 1, cells := 0, slots := 0, locals := 22 }) (Pr D cA [.ref (F 0), .int k] sz (wF cA F a c q) X0) (va_Qi (fun (r : Int32) (u : Unit) => r = bi (isW k 0 (nI (qN a) - 1))) (fun _ _ => True) (fun q : Nat => sz ≤ q)) 0 0 (fun q : Nat => sz ≤ q) := by
  refine Met.ofW (cc := cX1_has) (maxL := 2) (ret := (some .boolean)) (by decide) rfl ?_
  intro pg ev s mi args below meth cd s₁ B hml hv
  obtain ⟨hav, hsz, hP, hE, hD, hXs⟩ := hv
  have hx := B.exec
  have hb := B.bytes
  have hr := B.returns
  have hts := atoms_spec (ws := wsX1_has) B.pre
  have hown : s.vm.findClass RX1 = some mi.cls := findClass_of_methodNamed B.named
  have hlocks := B.notSynchronized
  clear B
  subst hav
  subst hsz
  have hA : ∀ q : Nat, s.heap.size ≤ q → (fun q : Nat => s.heap.size ≤ q) q := fun _ h => h
  have hS : va_S (fun q : Nat => s.heap.size ≤ q) s.heap s.heap [] := va_S.rf
  obtain ⟨QQ, hQQ⟩ : ∃ qq9, qq9 = MQ below (va_Qi (fun (r : Int32) (u : Unit) => r = bi (isW k 0 (nI (qN a) - 1))) (fun _ _ => True) (fun q : Nat => s.heap.size ≤ q)) ([.ref (F 0), .int k] : List Value).toArray s 0 0 (fun q : Nat => s.heap.size ≤ q) := ⟨_, rfl⟩
  rw [← hQQ]
  have hl := lv_entry ([.ref (F 0), .int k]) (n := 2) (Nat.le_of_ble_eq_true rfl)
  rw [lg_entry_eq]
  generalize (lg_sl ([.ref (F 0), .int k]) ++ List.replicate (2 - (lg_sl ([.ref (F 0), .int k])).length) Slot.unset).toArray = ls at hl ⊢
  have hl : lv_has ls 2 [(0, .ref (F 0)), (1, .int k)] := hl
  have kf54 := hts (.fieldLink RX1 54 "LanternWeirs$Fleet" "size" "I") (by decide +kernel)
  have inX1 : ∀ w ∈ u_ws RX1 TX1 13, w ∈ wsX1_has := by decide +kernel
  have kw2 := hts (.initialized RX3) (by decide +kernel)
  have kw3 := hts (.static yX3_isWithin) (by decide +kernel)
  obtain ⟨H, locs, hP, hS, hgo⟩ : ∃ H locs, va_P D vwCl (wF cA F a c q) H ∧ va_S (fun q : Nat => s.heap.size ≤ q) s.heap H locs ∧ (H = s.heap ∧ locs = []) := ⟨_, _, hP, hS, rfl, rfl⟩
  obtain ⟨hg1, hg2⟩ := hgo
  have hgoal : W pg lch ev (headSpec wsX1_has ({ frames := 1, cells := 0, slots := 0, locals := 22 })).room s mi ([.ref (F 0), .int k] : List Value).toArray below meth cd H locs 0 0 QQ (F0 mi 0 ls []) := by
    refine lv_iload_n hx hb dX1_has_0 rfl (lv_at hl 1 rfl) ?_
    refine lv_iconst (v := 0) hx hb dX1_has_1 (by decide) ?_
    refine lv_aload_n hx hb dX1_has_2 rfl (lv_at hl 0 rfl) ?_
    refine va_get (D := D) (ci := 1) (v := .int (nI (qN a))) (C := RX1) (T := TX1) (N := 13) hx hb hts inX1 hown hE.1 hP 0 rfl rfl 11 (by decide) kf54 (fun _ h9 => h9) rfl dX1_has_3 ?_
    refine lv_iconst (v := 1) hx hb dX1_has_6 (by decide) ?_
    refine lv_isub hx hb dX1_has_7 ?_
    refine top_i (y := nI (qN a) - 1) (rfl) ?_
    refine pNi (As := [.int k, .int 0, .int (nI (qN a) - 1)]) (rest := []) (wc := ([] : va_W)) ⟨hx, hb, hml, hown, hts⟩ (K_X3_isWithin lch D cA k 0 (nI (qN a) - 1) H.size ) ⟨va_cnB 3 hts gX1_has_X3_isWithin_n72 rfl rfl rfl (hE.2.2 (.methodLinkNest "LanternWeirs$Fleet" 72 ⟨"LanternWeirs", "isWithin", "(III)Z"⟩ "LanternWeirs") (by decide +kernel)) kw2 (by decide +kernel) ⟨Nat.le_of_ble_eq_true rfl, Nat.le_of_ble_eq_true rfl⟩, kw3, trivial⟩ hE hP hD hS hA [] rfl rfl X0.blind (fun _ _ _ => trivial) hl.1 rfl rfl (Nat.le_of_ble_eq_true rfl) dX1_has_8 ⟨Nat.zero_le _, Nat.zero_le _⟩ (fun r_1 u_2 H locs h_3 hP hS => ?_)
    subst h_3
    rw [hQQ]
    exact W.zret (v := bi (isW k 0 (nI (qN a) - 1))) hx hb hr (nar_bi _) (fun t ht hW => ⟨⟨bi (isW k 0 (nI (qN a) - 1)), (), rfl, rfl, trivial⟩, hS.F ht⟩) hS.2.2 dX1_has_11
  rw [hg1, hg2] at hgoal
  exact hgoal

set_option maxHeartbeats 4000000 in
set_option maxRecDepth 100000 in
/-- has, of one that is there -/
theorem K_X1_hask (lch : Launch) (D : va_G) (cA : ClassId) (F : Nat → Nat) (a : FSt) (c : Nat → Int32) (q : Nat → Int32) (i : Nat) (sz : Nat) (hi : i < qN a) (hn : qN a ≤ 41) : Met lch yX1_has wsX1_has ({ frames := 1, cells := 0, slots := 0, locals := 22 }) (Pr D cA [.ref (F 0), .int (nI i)] sz (wF cA F a c q) X0) (va_Qi (fun (r : Int32) (u : Unit) => r = bi true) (fun _ _ => True) (fun q : Nat => sz ≤ q)) 0 0 (fun q : Nat => sz ≤ q) := by
  refine Met.ofW (cc := cX1_has) (maxL := 2) (ret := (some .boolean)) (by decide) rfl ?_
  intro pg ev s mi args below meth cd s₁ B hml hv
  obtain ⟨hav, hsz, hP, hE, hD, hXs⟩ := hv
  have hx := B.exec
  have hb := B.bytes
  have hr := B.returns
  have hts := atoms_spec (ws := wsX1_has) B.pre
  have hown : s.vm.findClass RX1 = some mi.cls := findClass_of_methodNamed B.named
  have hlocks := B.notSynchronized
  clear B
  subst hav
  subst hsz
  have hA : ∀ q : Nat, s.heap.size ≤ q → (fun q : Nat => s.heap.size ≤ q) q := fun _ h => h
  have hS : va_S (fun q : Nat => s.heap.size ≤ q) s.heap s.heap [] := va_S.rf
  obtain ⟨QQ, hQQ⟩ : ∃ qq9, qq9 = MQ below (va_Qi (fun (r : Int32) (u : Unit) => r = bi true) (fun _ _ => True) (fun q : Nat => s.heap.size ≤ q)) ([.ref (F 0), .int (nI i)] : List Value).toArray s 0 0 (fun q : Nat => s.heap.size ≤ q) := ⟨_, rfl⟩
  rw [← hQQ]
  have hl := lv_entry ([.ref (F 0), .int (nI i)]) (n := 2) (Nat.le_of_ble_eq_true rfl)
  rw [lg_entry_eq]
  generalize (lg_sl ([.ref (F 0), .int (nI i)]) ++ List.replicate (2 - (lg_sl ([.ref (F 0), .int (nI i)])).length) Slot.unset).toArray = ls at hl ⊢
  have hl : lv_has ls 2 [(0, .ref (F 0)), (1, .int (nI i))] := hl
  have kf54 := hts (.fieldLink RX1 54 "LanternWeirs$Fleet" "size" "I") (by decide +kernel)
  have inX1 : ∀ w ∈ u_ws RX1 TX1 13, w ∈ wsX1_has := by decide +kernel
  have kw2 := hts (.initialized RX3) (by decide +kernel)
  have kw3 := hts (.static yX3_isWithin) (by decide +kernel)
  obtain ⟨H, locs, hP, hS, hgo⟩ : ∃ H locs, va_P D vwCl (wF cA F a c q) H ∧ va_S (fun q : Nat => s.heap.size ≤ q) s.heap H locs ∧ (H = s.heap ∧ locs = []) := ⟨_, _, hP, hS, rfl, rfl⟩
  obtain ⟨hg1, hg2⟩ := hgo
  have hgoal : W pg lch ev (headSpec wsX1_has ({ frames := 1, cells := 0, slots := 0, locals := 22 })).room s mi ([.ref (F 0), .int (nI i)] : List Value).toArray below meth cd H locs 0 0 QQ (F0 mi 0 ls []) := by
    refine lv_iload_n hx hb dX1_has_0 rfl (lv_at hl 1 rfl) ?_
    refine lv_iconst (v := 0) hx hb dX1_has_1 (by decide) ?_
    refine lv_aload_n hx hb dX1_has_2 rfl (lv_at hl 0 rfl) ?_
    refine va_get (D := D) (ci := 1) (v := .int (nI (qN a))) (C := RX1) (T := TX1) (N := 13) hx hb hts inX1 hown hE.1 hP 0 rfl rfl 11 (by decide) kf54 (fun _ h9 => h9) rfl dX1_has_3 ?_
    refine lv_iconst (v := 1) hx hb dX1_has_6 (by decide) ?_
    refine lv_isub hx hb dX1_has_7 ?_
    refine top_i (y := nI (qN a) - 1) (rfl) ?_
    refine pNi (As := [.int (nI i), .int 0, .int (nI (qN a) - 1)]) (rest := []) (wc := ([] : va_W)) ⟨hx, hb, hml, hown, hts⟩ (K_X3_isWithin lch D cA (nI i) 0 (nI (qN a) - 1) H.size ) ⟨va_cnB 3 hts gX1_has_X3_isWithin_n72 rfl rfl rfl (hE.2.2 (.methodLinkNest "LanternWeirs$Fleet" 72 ⟨"LanternWeirs", "isWithin", "(III)Z"⟩ "LanternWeirs") (by decide +kernel)) kw2 (by decide +kernel) ⟨Nat.le_of_ble_eq_true rfl, Nat.le_of_ble_eq_true rfl⟩, kw3, trivial⟩ hE hP hD hS hA [] rfl rfl X0.blind (fun _ _ _ => trivial) hl.1 rfl rfl (Nat.le_of_ble_eq_true rfl) dX1_has_8 ⟨Nat.zero_le _, Nat.zero_le _⟩ (fun r_1 u_2 H locs h_3 hP hS => ?_)
    subst h_3
    rw [hQQ]
    exact W.zret (v := bi (isW (nI i) 0 (nI (qN a) - 1))) hx hb hr (nar_bi _) (fun t ht hW => ⟨⟨bi (isW (nI i) 0 (nI (qN a) - 1)), (), rfl, by rw [isW_lan hi hn], trivial⟩, hS.F ht⟩) hS.2.2 dX1_has_11
  rw [hg1, hg2] at hgoal
  exact hgoal

set_option maxHeartbeats 4000000 in
set_option maxRecDepth 100000 in
/-- isAfloat -/
theorem K_X1_isAfloat (lch : Launch) (D : va_G) (cA : ClassId) (F : Nat → Nat) (a : FSt) (c : Nat → Int32) (q : Nat → Int32) (i : Nat) (sz : Nat) (hi : i < qN a) (hn : qN a ≤ 41) (hs : qSt a i < 3) : Met lch yX1_isAfloat wsX1_isAfloat ({ frames := 2, cells := 0, slots := 0, locals := 43 }) (Pr D cA [.ref (F 0), .int (nI i)] sz (wF cA F a c q) X0) (va_Qi (fun (r : Int32) (u : Unit) => r = bi (qSt a i == 0)) (fun _ _ => True) (fun q : Nat => sz ≤ q)) 0 0 (fun q : Nat => sz ≤ q) := by
  refine Met.ofW (cc := cX1_isAfloat) (maxL := 2) (ret := (some .boolean)) (by decide) rfl ?_
  intro pg ev s mi args below meth cd s₁ B hml hv
  obtain ⟨hav, hsz, hP, hE, hD, hXs⟩ := hv
  have hx := B.exec
  have hb := B.bytes
  have hr := B.returns
  have hts := atoms_spec (ws := wsX1_isAfloat) B.pre
  have hown : s.vm.findClass RX1 = some mi.cls := findClass_of_methodNamed B.named
  have hlocks := B.notSynchronized
  clear B
  subst hav
  subst hsz
  have hA : ∀ q : Nat, s.heap.size ≤ q → (fun q : Nat => s.heap.size ≤ q) q := fun _ h => h
  have hS : va_S (fun q : Nat => s.heap.size ≤ q) s.heap s.heap [] := va_S.rf
  obtain ⟨QQ, hQQ⟩ : ∃ qq9, qq9 = MQ below (va_Qi (fun (r : Int32) (u : Unit) => r = bi (qSt a i == 0)) (fun _ _ => True) (fun q : Nat => s.heap.size ≤ q)) ([.ref (F 0), .int (nI i)] : List Value).toArray s 0 0 (fun q : Nat => s.heap.size ≤ q) := ⟨_, rfl⟩
  rw [← hQQ]
  have hl := lv_entry ([.ref (F 0), .int (nI i)]) (n := 2) (Nat.le_of_ble_eq_true rfl)
  rw [lg_entry_eq]
  generalize (lg_sl ([.ref (F 0), .int (nI i)]) ++ List.replicate (2 - (lg_sl ([.ref (F 0), .int (nI i)])).length) Slot.unset).toArray = ls at hl ⊢
  have hl : lv_has ls 2 [(0, .ref (F 0)), (1, .int (nI i))] := hl
  have kf38 := hts (.fieldLink RX1 38 "LanternWeirs$Fleet" "states" "LLanternWeirs$Row;") (by decide +kernel)
  have inX1 : ∀ w ∈ u_ws RX1 TX1 13, w ∈ wsX1_isAfloat := by decide +kernel
  obtain ⟨H, locs, hP, hS, hgo⟩ : ∃ H locs, va_P D vwCl (wF cA F a c q) H ∧ va_S (fun q : Nat => s.heap.size ≤ q) s.heap H locs ∧ (H = s.heap ∧ locs = []) := ⟨_, _, hP, hS, rfl, rfl⟩
  obtain ⟨hg1, hg2⟩ := hgo
  have hgoal : W pg lch ev (headSpec wsX1_isAfloat ({ frames := 2, cells := 0, slots := 0, locals := 43 })).room s mi ([.ref (F 0), .int (nI i)] : List Value).toArray below meth cd H locs 0 0 QQ (F0 mi 0 ls []) := by
    refine lv_aload_n hx hb dX1_isAfloat_0 rfl (lv_at hl 0 rfl) ?_
    refine lv_iload_n hx hb dX1_isAfloat_1 rfl (lv_at hl 1 rfl) ?_
    refine pVi (As := [.int (nI i)]) (rest := []) (wc := (wF cA F a c q)) ⟨hx, hb, hml, hown, hts⟩ (K_X1_hask lch D cA F a c q i H.size (by first | assumption | omega) (by first | assumption | omega)) (cwV 1 hts gX1_isAfloat_X1_has rfl rfl rfl (by decide +kernel) ⟨Nat.le_of_ble_eq_true rfl, Nat.le_of_ble_eq_true rfl⟩) hE hP hD hS hA [0, 1, 2, 3, 4, 5, 6, 7, 8, 9, 10, 11, 12, 13, 14, 15, 16, 17, 18, 19, 20, 21, 22] rfl rfl X0.blind (fun _ _ _ => trivial) 0 1 rfl rfl rfl hl.1 rfl rfl (Nat.le_of_ble_eq_true rfl) dX1_isAfloat_2 ⟨Nat.zero_le _, Nat.zero_le _⟩ (fun r_1 u_2 H locs h_3 hP hS => ?_)
    subst h_3
    refine lv_if_eq (tgt := 23) hx hb dX1_isAfloat_5 (by decide) (fun c5 => ?_) (fun c5 => ?_)
    · skip
      exfalso; revert c5; decide
    · skip
      have c5 := bi_1.mp c5
      refine lv_aload_n hx hb dX1_isAfloat_8 rfl (lv_at hl 0 rfl) ?_
      refine va_get (D := D) (ci := 1) (v := .ref (F 8)) (C := RX1) (T := TX1) (N := 13) hx hb hts inX1 hown hE.1 hP 0 rfl rfl 7 (by decide) kf38 (fun _ h9 => h9) rfl dX1_isAfloat_9 ?_
      refine lv_iload_n hx hb dX1_isAfloat_12 rfl (lv_at hl 1 rfl) ?_
      refine pVi (As := [.int (nI i)]) (rest := []) (wc := (wR cA (F 8) (F 19) 41 (fun z9 => nI (qSt a z9)))) ⟨hx, hb, hml, hown, hts⟩ (K_X2_getk lch D cA (F 8) (F 19) 41 (fun z9 => nI (qSt a z9)) i (nI (qSt a i)) H.size (by omega) (Nat.le_of_ble_eq_true rfl) (rfl)) (cwV 1 hts gX1_isAfloat_X2_get rfl rfl rfl (by decide +kernel) ⟨Nat.le_of_ble_eq_true rfl, Nat.le_of_ble_eq_true rfl⟩) hE hP hD hS hA [8, 19] rfl rfl X0.blind (fun _ _ _ => trivial) 8 2 rfl rfl rfl hl.1 rfl rfl (Nat.le_of_ble_eq_true rfl) dX1_isAfloat_13 ⟨Nat.zero_le _, Nat.zero_le _⟩ (fun r_4 u_5 H locs h_6 hP hS => ?_)
      subst h_6
      refine lv_if_ne (tgt := 23) hx hb dX1_isAfloat_16 (by decide) (fun c16 => ?_) (fun c16 => ?_)
      · skip
        have c16 := (not_congr (nI_eq (a := qSt a i) (b := 0) (by omega) (by omega))).mp c16
        refine lv_iconst (v := 0) hx hb dX1_isAfloat_23 (by decide) ?_
        rw [hQQ]
        exact W.zret (v := 0) hx hb hr (by decide) (fun t ht hW => ⟨⟨0, (), rfl, beq_f c16, trivial⟩, hS.F ht⟩) hS.2.2 dX1_isAfloat_24
      · skip
        have c16 := (nI_eq (a := qSt a i) (b := 0) (by omega) (by omega)).mp c16
        refine lv_iconst (v := 1) hx hb dX1_isAfloat_19 (by decide) ?_
        refine lv_goto (tgt := 24) hx hb dX1_isAfloat_20 (by decide) ?_
        rw [hQQ]
        exact W.zret (v := 1) hx hb hr (by decide) (fun t ht hW => ⟨⟨1, (), rfl, beq_t c16, trivial⟩, hS.F ht⟩) hS.2.2 dX1_isAfloat_24
  rw [hg1, hg2] at hgoal
  exact hgoal

set_option maxHeartbeats 4000000 in
set_option maxRecDepth 100000 in
/-- isBurning -/
theorem K_X1_isBurning (lch : Launch) (D : va_G) (cA : ClassId) (F : Nat → Nat) (a : FSt) (c : Nat → Int32) (q : Nat → Int32) (i : Nat) (sz : Nat) (hi : i < qN a) (hn : qN a ≤ 41) : Met lch yX1_isBurning wsX1_isBurning ({ frames := 2, cells := 0, slots := 0, locals := 43 }) (Pr D cA [.ref (F 0), .int (nI i)] sz (wF cA F a c q) X0) (va_Qi (fun (r : Int32) (u : Unit) => r = bi (qBu a i)) (fun _ _ => True) (fun q : Nat => sz ≤ q)) 0 0 (fun q : Nat => sz ≤ q) := by
  refine Met.ofW (cc := cX1_isBurning) (maxL := 2) (ret := (some .boolean)) (by decide) rfl ?_
  intro pg ev s mi args below meth cd s₁ B hml hv
  obtain ⟨hav, hsz, hP, hE, hD, hXs⟩ := hv
  have hx := B.exec
  have hb := B.bytes
  have hr := B.returns
  have hts := atoms_spec (ws := wsX1_isBurning) B.pre
  have hown : s.vm.findClass RX1 = some mi.cls := findClass_of_methodNamed B.named
  have hlocks := B.notSynchronized
  clear B
  subst hav
  subst hsz
  have hA : ∀ q : Nat, s.heap.size ≤ q → (fun q : Nat => s.heap.size ≤ q) q := fun _ h => h
  have hS : va_S (fun q : Nat => s.heap.size ≤ q) s.heap s.heap [] := va_S.rf
  obtain ⟨QQ, hQQ⟩ : ∃ qq9, qq9 = MQ below (va_Qi (fun (r : Int32) (u : Unit) => r = bi (qBu a i)) (fun _ _ => True) (fun q : Nat => s.heap.size ≤ q)) ([.ref (F 0), .int (nI i)] : List Value).toArray s 0 0 (fun q : Nat => s.heap.size ≤ q) := ⟨_, rfl⟩
  rw [← hQQ]
  have hl := lv_entry ([.ref (F 0), .int (nI i)]) (n := 2) (Nat.le_of_ble_eq_true rfl)
  rw [lg_entry_eq]
  generalize (lg_sl ([.ref (F 0), .int (nI i)]) ++ List.replicate (2 - (lg_sl ([.ref (F 0), .int (nI i)])).length) Slot.unset).toArray = ls at hl ⊢
  have hl : lv_has ls 2 [(0, .ref (F 0)), (1, .int (nI i))] := hl
  have kf35 := hts (.fieldLink RX1 35 "LanternWeirs$Fleet" "burning" "LLanternWeirs$Row;") (by decide +kernel)
  have inX1 : ∀ w ∈ u_ws RX1 TX1 13, w ∈ wsX1_isBurning := by decide +kernel
  obtain ⟨H, locs, hP, hS, hgo⟩ : ∃ H locs, va_P D vwCl (wF cA F a c q) H ∧ va_S (fun q : Nat => s.heap.size ≤ q) s.heap H locs ∧ (H = s.heap ∧ locs = []) := ⟨_, _, hP, hS, rfl, rfl⟩
  obtain ⟨hg1, hg2⟩ := hgo
  have hgoal : W pg lch ev (headSpec wsX1_isBurning ({ frames := 2, cells := 0, slots := 0, locals := 43 })).room s mi ([.ref (F 0), .int (nI i)] : List Value).toArray below meth cd H locs 0 0 QQ (F0 mi 0 ls []) := by
    refine lv_aload_n hx hb dX1_isBurning_0 rfl (lv_at hl 0 rfl) ?_
    refine lv_iload_n hx hb dX1_isBurning_1 rfl (lv_at hl 1 rfl) ?_
    refine pVi (As := [.int (nI i)]) (rest := []) (wc := (wF cA F a c q)) ⟨hx, hb, hml, hown, hts⟩ (K_X1_hask lch D cA F a c q i H.size (by first | assumption | omega) (by first | assumption | omega)) (cwV 1 hts gX1_isBurning_X1_has rfl rfl rfl (by decide +kernel) ⟨Nat.le_of_ble_eq_true rfl, Nat.le_of_ble_eq_true rfl⟩) hE hP hD hS hA [0, 1, 2, 3, 4, 5, 6, 7, 8, 9, 10, 11, 12, 13, 14, 15, 16, 17, 18, 19, 20, 21, 22] rfl rfl X0.blind (fun _ _ _ => trivial) 0 1 rfl rfl rfl hl.1 rfl rfl (Nat.le_of_ble_eq_true rfl) dX1_isBurning_2 ⟨Nat.zero_le _, Nat.zero_le _⟩ (fun r_1 u_2 H locs h_3 hP hS => ?_)
    subst h_3
    refine lv_if_eq (tgt := 24) hx hb dX1_isBurning_5 (by decide) (fun c5 => ?_) (fun c5 => ?_)
    · skip
      exfalso; revert c5; decide
    · skip
      have c5 := bi_1.mp c5
      refine lv_aload_n hx hb dX1_isBurning_8 rfl (lv_at hl 0 rfl) ?_
      refine va_get (D := D) (ci := 1) (v := .ref (F 7)) (C := RX1) (T := TX1) (N := 13) hx hb hts inX1 hown hE.1 hP 0 rfl rfl 6 (by decide) kf35 (fun _ h9 => h9) rfl dX1_isBurning_9 ?_
      refine lv_iload_n hx hb dX1_isBurning_12 rfl (lv_at hl 1 rfl) ?_
      refine pVi (As := [.int (nI i)]) (rest := []) (wc := (wR cA (F 7) (F 18) 41 (fun z9 => bi (qBu a z9)))) ⟨hx, hb, hml, hown, hts⟩ (K_X2_getk lch D cA (F 7) (F 18) 41 (fun z9 => bi (qBu a z9)) i (bi (qBu a i)) H.size (by omega) (Nat.le_of_ble_eq_true rfl) (rfl)) (cwV 1 hts gX1_isBurning_X2_get rfl rfl rfl (by decide +kernel) ⟨Nat.le_of_ble_eq_true rfl, Nat.le_of_ble_eq_true rfl⟩) hE hP hD hS hA [7, 18] rfl rfl X0.blind (fun _ _ _ => trivial) 7 2 rfl rfl rfl hl.1 rfl rfl (Nat.le_of_ble_eq_true rfl) dX1_isBurning_13 ⟨Nat.zero_le _, Nat.zero_le _⟩ (fun r_4 u_5 H locs h_6 hP hS => ?_)
      subst h_6
      refine lv_iconst (v := 1) hx hb dX1_isBurning_16 (by decide) ?_
      refine lv_icmp_ne (tgt := 24) hx hb dX1_isBurning_17 (by decide) (fun c17 => ?_) (fun c17 => ?_)
      · skip
        have c17 := bi_f.mp c17
        refine lv_iconst (v := 0) hx hb dX1_isBurning_24 (by decide) ?_
        rw [hQQ]
        exact W.zret (v := 0) hx hb hr (by decide) (fun t ht hW => ⟨⟨0, (), rfl, by rw [c17]; rfl, trivial⟩, hS.F ht⟩) hS.2.2 dX1_isBurning_25
      · skip
        have c17 := bi_t.mp c17
        refine lv_iconst (v := 1) hx hb dX1_isBurning_20 (by decide) ?_
        refine lv_goto (tgt := 25) hx hb dX1_isBurning_21 (by decide) ?_
        rw [hQQ]
        exact W.zret (v := 1) hx hb hr (by decide) (fun t ht hW => ⟨⟨1, (), rfl, by rw [c17]; rfl, trivial⟩, hS.F ht⟩) hS.2.2 dX1_isBurning_25
  rw [hg1, hg2] at hgoal
  exact hgoal

set_option maxHeartbeats 4000000 in
set_option maxRecDepth 100000 in
/-- isSoaked -/
theorem K_X1_isSoaked (lch : Launch) (D : va_G) (cA : ClassId) (F : Nat → Nat) (a : FSt) (c : Nat → Int32) (q : Nat → Int32) (i : Nat) (sz : Nat) (hk : i < 41) (hf : qFr a i < 3) : Met lch yX1_isSoaked wsX1_isSoaked ({ frames := 1, cells := 0, slots := 0, locals := 21 }) (Pr D cA [.ref (F 0), .int (nI i)] sz (wF cA F a c q) X0) (va_Qi (fun (r : Int32) (u : Unit) => r = bi (soaked a i)) (fun _ _ => True) (fun q : Nat => sz ≤ q)) 0 0 (fun q : Nat => sz ≤ q) := by
  refine Met.ofW (cc := cX1_isSoaked) (maxL := 2) (ret := (some .boolean)) (by decide) rfl ?_
  intro pg ev s mi args below meth cd s₁ B hml hv
  obtain ⟨hav, hsz, hP, hE, hD, hXs⟩ := hv
  have hx := B.exec
  have hb := B.bytes
  have hr := B.returns
  have hts := atoms_spec (ws := wsX1_isSoaked) B.pre
  have hown : s.vm.findClass RX1 = some mi.cls := findClass_of_methodNamed B.named
  have hlocks := B.notSynchronized
  clear B
  subst hav
  subst hsz
  have hA : ∀ q : Nat, s.heap.size ≤ q → (fun q : Nat => s.heap.size ≤ q) q := fun _ h => h
  have hS : va_S (fun q : Nat => s.heap.size ≤ q) s.heap s.heap [] := va_S.rf
  obtain ⟨QQ, hQQ⟩ : ∃ qq9, qq9 = MQ below (va_Qi (fun (r : Int32) (u : Unit) => r = bi (soaked a i)) (fun _ _ => True) (fun q : Nat => s.heap.size ≤ q)) ([.ref (F 0), .int (nI i)] : List Value).toArray s 0 0 (fun q : Nat => s.heap.size ≤ q) := ⟨_, rfl⟩
  rw [← hQQ]
  have hl := lv_entry ([.ref (F 0), .int (nI i)]) (n := 2) (Nat.le_of_ble_eq_true rfl)
  rw [lg_entry_eq]
  generalize (lg_sl ([.ref (F 0), .int (nI i)]) ++ List.replicate (2 - (lg_sl ([.ref (F 0), .int (nI i)])).length) Slot.unset).toArray = ls at hl ⊢
  have hl : lv_has ls 2 [(0, .ref (F 0)), (1, .int (nI i))] := hl
  have kf32 := hts (.fieldLink RX1 32 "LanternWeirs$Fleet" "wets" "LLanternWeirs$Row;") (by decide +kernel)
  have inX1 : ∀ w ∈ u_ws RX1 TX1 13, w ∈ wsX1_isSoaked := by decide +kernel
  have kf16 := hts (.fieldLink RX1 16 "LanternWeirs$Fleet" "frames" "LLanternWeirs$Row;") (by decide +kernel)
  have kw3 := hts (.initialized RX3) (by decide +kernel)
  have kw4 := hts (.static yX3_sprayTakenBy) (by decide +kernel)
  obtain ⟨H, locs, hP, hS, hgo⟩ : ∃ H locs, va_P D vwCl (wF cA F a c q) H ∧ va_S (fun q : Nat => s.heap.size ≤ q) s.heap H locs ∧ (H = s.heap ∧ locs = []) := ⟨_, _, hP, hS, rfl, rfl⟩
  obtain ⟨hg1, hg2⟩ := hgo
  have hgoal : W pg lch ev (headSpec wsX1_isSoaked ({ frames := 1, cells := 0, slots := 0, locals := 21 })).room s mi ([.ref (F 0), .int (nI i)] : List Value).toArray below meth cd H locs 0 0 QQ (F0 mi 0 ls []) := by
    refine lv_aload_n hx hb dX1_isSoaked_0 rfl (lv_at hl 0 rfl) ?_
    refine va_get (D := D) (ci := 1) (v := .ref (F 6)) (C := RX1) (T := TX1) (N := 13) hx hb hts inX1 hown hE.1 hP 0 rfl rfl 5 (by decide) kf32 (fun _ h9 => h9) rfl dX1_isSoaked_1 ?_
    refine lv_iload_n hx hb dX1_isSoaked_4 rfl (lv_at hl 1 rfl) ?_
    refine pVi (As := [.int (nI i)]) (rest := []) (wc := (wR cA (F 6) (F 17) 41 (qWe a))) ⟨hx, hb, hml, hown, hts⟩ (K_X2_getk lch D cA (F 6) (F 17) 41 (qWe a) i (qWe a i) H.size (by omega) (Nat.le_of_ble_eq_true rfl) (rfl)) (cwV 1 hts gX1_isSoaked_X2_get rfl rfl rfl (by decide +kernel) ⟨Nat.le_of_ble_eq_true rfl, Nat.le_of_ble_eq_true rfl⟩) hE hP hD hS hA [6, 17] rfl rfl X0.blind (fun _ _ _ => trivial) 6 2 rfl rfl rfl hl.1 rfl rfl (Nat.le_of_ble_eq_true rfl) dX1_isSoaked_5 ⟨Nat.zero_le _, Nat.zero_le _⟩ (fun r_1 u_2 H locs h_3 hP hS => ?_)
    subst h_3
    refine lv_aload_n hx hb dX1_isSoaked_8 rfl (lv_at hl 0 rfl) ?_
    refine va_get (D := D) (ci := 1) (v := .ref (F 1)) (C := RX1) (T := TX1) (N := 13) hx hb hts inX1 hown hE.1 hP 0 rfl rfl 0 (by decide) kf16 (fun _ h9 => h9) rfl dX1_isSoaked_9 ?_
    refine lv_iload_n hx hb dX1_isSoaked_12 rfl (lv_at hl 1 rfl) ?_
    refine pVi (As := [.int (nI i)]) (rest := [.int (qWe a i)]) (wc := (wR cA (F 1) (F 12) 41 (fun z9 => nI (qFr a z9)))) ⟨hx, hb, hml, hown, hts⟩ (K_X2_getk lch D cA (F 1) (F 12) 41 (fun z9 => nI (qFr a z9)) i (nI (qFr a i)) H.size (by omega) (Nat.le_of_ble_eq_true rfl) (rfl)) (cwV 1 hts gX1_isSoaked_X2_get rfl rfl rfl (by decide +kernel) ⟨Nat.le_of_ble_eq_true rfl, Nat.le_of_ble_eq_true rfl⟩) hE hP hD hS hA [1, 12] rfl rfl X0.blind (fun _ _ _ => trivial) 1 2 rfl rfl rfl hl.1 rfl rfl (Nat.le_of_ble_eq_true rfl) dX1_isSoaked_13 ⟨Nat.zero_le _, Nat.zero_le _⟩ (fun r_4 u_5 H locs h_6 hP hS => ?_)
    subst h_6
    refine pNi (As := [.int (nI (qFr a i))]) (rest := [.int (qWe a i)]) (wc := ([] : va_W)) ⟨hx, hb, hml, hown, hts⟩ (K_X3_sprayTakenBy lch D cA (qFr a i) H.size (by first | assumption | omega)) ⟨va_cnB 1 hts gX1_isSoaked_X3_sprayTakenBy_n83 rfl rfl rfl (hE.2.2 (.methodLinkNest "LanternWeirs$Fleet" 83 ⟨"LanternWeirs", "sprayTakenBy", "(I)I"⟩ "LanternWeirs") (by decide +kernel)) kw3 (by decide +kernel) ⟨Nat.le_of_ble_eq_true rfl, Nat.le_of_ble_eq_true rfl⟩, kw4, trivial⟩ hE hP hD hS hA [] rfl rfl X0.blind (fun _ _ _ => trivial) hl.1 rfl rfl (Nat.le_of_ble_eq_true rfl) dX1_isSoaked_16 ⟨Nat.zero_le _, Nat.zero_le _⟩ (fun r_7 u_8 H locs h_9 hP hS => ?_)
    subst h_9
    refine lv_icmp_le (tgt := 26) hx hb dX1_isSoaked_19 (by decide) (fun c19 => ?_) (fun c19 => ?_)
    · skip
      refine lv_iconst (v := 0) hx hb dX1_isSoaked_26 (by decide) ?_
      rw [hQQ]
      exact W.zret (v := 0) hx hb hr (by decide) (fun t ht hW => ⟨⟨0, (), rfl, sk_f c19, trivial⟩, hS.F ht⟩) hS.2.2 dX1_isSoaked_27
    · skip
      refine lv_iconst (v := 1) hx hb dX1_isSoaked_22 (by decide) ?_
      refine lv_goto (tgt := 27) hx hb dX1_isSoaked_23 (by decide) ?_
      rw [hQQ]
      exact W.zret (v := 1) hx hb hr (by decide) (fun t ht hW => ⟨⟨1, (), rfl, sk_t c19, trivial⟩, hS.F ht⟩) hS.2.2 dX1_isSoaked_27
  rw [hg1, hg2] at hgoal
  exact hgoal

set_option maxHeartbeats 4000000 in
set_option maxRecDepth 100000 in
/-- canBeLit -/
theorem K_X1_canBeLit (lch : Launch) (D : va_G) (cA : ClassId) (F : Nat → Nat) (a : FSt) (c : Nat → Int32) (q : Nat → Int32) (i : Nat) (sz : Nat) (hi : i < qN a) (hn : qN a ≤ 41) (hf : qFr a i < 3) (hx4 : qWx a i ≤ 45) : Met lch yX1_canBeLit wsX1_canBeLit ({ frames := 3, cells := 0, slots := 0, locals := 64 }) (Pr D cA [.ref (F 0), .int (nI i)] sz (wF cA F a c q) X0) (va_Qi (fun (r : Int32) (u : Unit) => r = bi (litA a i)) (fun _ _ => True) (fun q : Nat => sz ≤ q)) 0 0 (fun q : Nat => sz ≤ q) := by
  refine Met.ofW (cc := cX1_canBeLit) (maxL := 2) (ret := (some .boolean)) (by decide) rfl ?_
  intro pg ev s mi args below meth cd s₁ B hml hv
  obtain ⟨hav, hsz, hP, hE, hD, hXs⟩ := hv
  have hx := B.exec
  have hb := B.bytes
  have hr := B.returns
  have hts := atoms_spec (ws := wsX1_canBeLit) B.pre
  have hown : s.vm.findClass RX1 = some mi.cls := findClass_of_methodNamed B.named
  have hlocks := B.notSynchronized
  clear B
  subst hav
  subst hsz
  have hA : ∀ q : Nat, s.heap.size ≤ q → (fun q : Nat => s.heap.size ≤ q) q := fun _ h => h
  have hS : va_S (fun q : Nat => s.heap.size ≤ q) s.heap s.heap [] := va_S.rf
  obtain ⟨QQ, hQQ⟩ : ∃ qq9, qq9 = MQ below (va_Qi (fun (r : Int32) (u : Unit) => r = bi (litA a i)) (fun _ _ => True) (fun q : Nat => s.heap.size ≤ q)) ([.ref (F 0), .int (nI i)] : List Value).toArray s 0 0 (fun q : Nat => s.heap.size ≤ q) := ⟨_, rfl⟩
  rw [← hQQ]
  have hl := lv_entry ([.ref (F 0), .int (nI i)]) (n := 2) (Nat.le_of_ble_eq_true rfl)
  rw [lg_entry_eq]
  generalize (lg_sl ([.ref (F 0), .int (nI i)]) ++ List.replicate (2 - (lg_sl ([.ref (F 0), .int (nI i)])).length) Slot.unset).toArray = ls at hl ⊢
  have hl : lv_has ls 2 [(0, .ref (F 0)), (1, .int (nI i))] := hl
  have kf29 := hts (.fieldLink RX1 29 "LanternWeirs$Fleet" "waxes" "LLanternWeirs$Row;") (by decide +kernel)
  have inX1 : ∀ w ∈ u_ws RX1 TX1 13, w ∈ wsX1_canBeLit := by decide +kernel
  obtain ⟨H, locs, hP, hS, hgo⟩ : ∃ H locs, va_P D vwCl (wF cA F a c q) H ∧ va_S (fun q : Nat => s.heap.size ≤ q) s.heap H locs ∧ (H = s.heap ∧ locs = []) := ⟨_, _, hP, hS, rfl, rfl⟩
  obtain ⟨hg1, hg2⟩ := hgo
  have hgoal : W pg lch ev (headSpec wsX1_canBeLit ({ frames := 3, cells := 0, slots := 0, locals := 64 })).room s mi ([.ref (F 0), .int (nI i)] : List Value).toArray below meth cd H locs 0 0 QQ (F0 mi 0 ls []) := by
    refine lv_aload_n hx hb dX1_canBeLit_0 rfl (lv_at hl 0 rfl) ?_
    refine lv_iload_n hx hb dX1_canBeLit_1 rfl (lv_at hl 1 rfl) ?_
    refine pVi (As := [.int (nI i)]) (rest := []) (wc := (wF cA F a c q)) ⟨hx, hb, hml, hown, hts⟩ (K_X1_isBurning lch D cA F a c q i H.size (by first | assumption | omega) (by first | assumption | omega)) (cwV 1 hts gX1_canBeLit_X1_isBurning rfl rfl rfl (by decide +kernel) ⟨Nat.le_of_ble_eq_true rfl, Nat.le_of_ble_eq_true rfl⟩) hE hP hD hS hA [0, 1, 2, 3, 4, 5, 6, 7, 8, 9, 10, 11, 12, 13, 14, 15, 16, 17, 18, 19, 20, 21, 22] rfl rfl X0.blind (fun _ _ _ => trivial) 0 1 rfl rfl rfl hl.1 rfl rfl (Nat.le_of_ble_eq_true rfl) dX1_canBeLit_2 ⟨Nat.zero_le _, Nat.zero_le _⟩ (fun r_1 u_2 H locs h_3 hP hS => ?_)
    subst h_3
    refine lv_if_ne (tgt := 31) hx hb dX1_canBeLit_5 (by decide) (fun c5 => ?_) (fun c5 => ?_)
    · skip
      have c5 := bi_1.mp c5
      refine lv_iconst (v := 0) hx hb dX1_canBeLit_31 (by decide) ?_
      rw [hQQ]
      exact W.zret (v := 0) hx hb hr (by decide) (fun t ht hW => ⟨⟨0, (), rfl, by simp [litA, c5, bi], trivial⟩, hS.F ht⟩) hS.2.2 dX1_canBeLit_32
    · skip
      have c5 := bi_0.mp c5
      refine lv_aload_n hx hb dX1_canBeLit_8 rfl (lv_at hl 0 rfl) ?_
      refine lv_iload_n hx hb dX1_canBeLit_9 rfl (lv_at hl 1 rfl) ?_
      refine pVi (As := [.int (nI i)]) (rest := []) (wc := (wF cA F a c q)) ⟨hx, hb, hml, hown, hts⟩ (K_X1_isSoaked lch D cA F a c q i H.size (by first | assumption | omega) (by first | assumption | omega)) (cwV 1 hts gX1_canBeLit_X1_isSoaked rfl rfl rfl (by decide +kernel) ⟨Nat.le_of_ble_eq_true rfl, Nat.le_of_ble_eq_true rfl⟩) hE hP hD hS hA [0, 1, 2, 3, 4, 5, 6, 7, 8, 9, 10, 11, 12, 13, 14, 15, 16, 17, 18, 19, 20, 21, 22] rfl rfl X0.blind (fun _ _ _ => trivial) 0 1 rfl rfl rfl hl.1 rfl rfl (Nat.le_of_ble_eq_true rfl) dX1_canBeLit_10 ⟨Nat.zero_le _, Nat.zero_le _⟩ (fun r_4 u_5 H locs h_6 hP hS => ?_)
      subst h_6
      refine lv_if_ne (tgt := 31) hx hb dX1_canBeLit_13 (by decide) (fun c13 => ?_) (fun c13 => ?_)
      · skip
        have c13 := bi_1.mp c13
        refine lv_iconst (v := 0) hx hb dX1_canBeLit_31 (by decide) ?_
        rw [hQQ]
        exact W.zret (v := 0) hx hb hr (by decide) (fun t ht hW => ⟨⟨0, (), rfl, by simp [litA, c13, bi], trivial⟩, hS.F ht⟩) hS.2.2 dX1_canBeLit_32
      · skip
        have c13 := bi_0.mp c13
        refine lv_aload_n hx hb dX1_canBeLit_16 rfl (lv_at hl 0 rfl) ?_
        refine va_get (D := D) (ci := 1) (v := .ref (F 5)) (C := RX1) (T := TX1) (N := 13) hx hb hts inX1 hown hE.1 hP 0 rfl rfl 4 (by decide) kf29 (fun _ h9 => h9) rfl dX1_canBeLit_17 ?_
        refine lv_iload_n hx hb dX1_canBeLit_20 rfl (lv_at hl 1 rfl) ?_
        refine pVi (As := [.int (nI i)]) (rest := []) (wc := (wR cA (F 5) (F 16) 41 (fun z9 => nI (qWx a z9)))) ⟨hx, hb, hml, hown, hts⟩ (K_X2_getk lch D cA (F 5) (F 16) 41 (fun z9 => nI (qWx a z9)) i (nI (qWx a i)) H.size (by omega) (Nat.le_of_ble_eq_true rfl) (rfl)) (cwV 1 hts gX1_canBeLit_X2_get rfl rfl rfl (by decide +kernel) ⟨Nat.le_of_ble_eq_true rfl, Nat.le_of_ble_eq_true rfl⟩) hE hP hD hS hA [5, 16] rfl rfl X0.blind (fun _ _ _ => trivial) 5 2 rfl rfl rfl hl.1 rfl rfl (Nat.le_of_ble_eq_true rfl) dX1_canBeLit_21 ⟨Nat.zero_le _, Nat.zero_le _⟩ (fun r_7 u_8 H locs h_9 hP hS => ?_)
        subst h_9
        refine lv_if_le (tgt := 31) hx hb dX1_canBeLit_24 (by decide) (fun c24 => ?_) (fun c24 => ?_)
        · skip
          have c24 := (nI_leI (a := qWx a i) (b := 0) (by omega) (by omega)).mp c24
          refine lv_iconst (v := 0) hx hb dX1_canBeLit_31 (by decide) ?_
          rw [hQQ]
          exact W.zret (v := 0) hx hb hr (by decide) (fun t ht hW => ⟨⟨0, (), rfl, by simp [litA, c24, bi], trivial⟩, hS.F ht⟩) hS.2.2 dX1_canBeLit_32
        · skip
          have c24 := (not_congr (nI_leI (a := qWx a i) (b := 0) (by omega) (by omega))).mp c24
          refine lv_iconst (v := 1) hx hb dX1_canBeLit_27 (by decide) ?_
          refine lv_goto (tgt := 32) hx hb dX1_canBeLit_28 (by decide) ?_
          rw [hQQ]
          exact W.zret (v := 1) hx hb hr (by decide) (fun t ht hW => ⟨⟨1, (), rfl, by simp [litA, c5, c13, bi]; omega, trivial⟩, hS.F ht⟩) hS.2.2 dX1_canBeLit_32
  rw [hg1, hg2] at hgoal
  exact hgoal

set_option maxHeartbeats 4000000 in
set_option maxRecDepth 100000 in
/-- crowdBy -/
theorem K_X1_crowdBy (lch : Launch) (D : va_G) (cA : ClassId) (F : Nat → Nat) (a : FSt) (c : Nat → Int32) (q : Nat → Int32) (i : Nat) (v : Int32) (sz : Nat) (hk : i < 41) (hp6 : qPl a i ≤ 60) : Met lch yX1_crowdBy wsX1_crowdBy ({ frames := 1, cells := 0, slots := 0, locals := 22 }) (Pr D cA [.ref (F 0), .int (nI i), .int v] sz (wF cA F a c q) X0) (va_Qv (fun (u : Unit) => True) (fun (u : Unit) t => va_P D vwCl (wF cA F a (cby a c i v) q) t.heap) (va_A (wF cA F a c q) sz)) 0 0 (va_A (wF cA F a c q) sz) := by
  refine Met.ofW (cc := cX1_crowdBy) (maxL := 4) (ret := none) (by decide) rfl ?_
  intro pg ev s mi args below meth cd s₁ B hml hv
  obtain ⟨hav, hsz, hP, hE, hD, hXs⟩ := hv
  have hx := B.exec
  have hb := B.bytes
  have hr := B.returns
  have hts := atoms_spec (ws := wsX1_crowdBy) B.pre
  have hown : s.vm.findClass RX1 = some mi.cls := findClass_of_methodNamed B.named
  have hlocks := B.notSynchronized
  clear B
  subst hav
  subst hsz
  have hD := hD.self (sz := s.heap.size)
  generalize hAe : va_A (wF cA F a c q) s.heap.size = A at hD ⊢
  have hA : ∀ q : Nat, s.heap.size ≤ q → A q := fun q h => by rw [← hAe]; exact Or.inr h
  have hS : va_S A s.heap s.heap [] := va_S.rf
  obtain ⟨QQ, hQQ⟩ : ∃ qq9, qq9 = MQ below (va_Qv (fun (u : Unit) => True) (fun (u : Unit) t => va_P D vwCl (wF cA F a (cby a c i v) q) t.heap) A) ([.ref (F 0), .int (nI i), .int v] : List Value).toArray s 0 0 A := ⟨_, rfl⟩
  rw [← hQQ]
  have hl := lv_entry ([.ref (F 0), .int (nI i), .int v]) (n := 4) (Nat.le_of_ble_eq_true rfl)
  rw [lg_entry_eq]
  generalize (lg_sl ([.ref (F 0), .int (nI i), .int v]) ++ List.replicate (4 - (lg_sl ([.ref (F 0), .int (nI i), .int v])).length) Slot.unset).toArray = ls at hl ⊢
  have hl : lv_has ls 4 [(0, .ref (F 0)), (1, .int (nI i)), (2, .int v)] := hl
  have kf23 := hts (.fieldLink RX1 23 "LanternWeirs$Fleet" "lanes" "LLanternWeirs$Row;") (by decide +kernel)
  have inX1 : ∀ w ∈ u_ws RX1 TX1 13, w ∈ wsX1_crowdBy := by decide +kernel
  have kf26 := hts (.fieldLink RX1 26 "LanternWeirs$Fleet" "places" "LLanternWeirs$Row;") (by decide +kernel)
  have kf16 := hts (.fieldLink RX1 16 "LanternWeirs$Fleet" "frames" "LLanternWeirs$Row;") (by decide +kernel)
  have kf44 := hts (.fieldLink RX1 44 "LanternWeirs$Fleet" "crowd" "LLanternWeirs$Row;") (by decide +kernel)
  obtain ⟨H, locs, hP, hS, hgo⟩ : ∃ H locs, va_P D vwCl (wF cA F a c q) H ∧ va_S A s.heap H locs ∧ (H = s.heap ∧ locs = []) := ⟨_, _, hP, hS, rfl, rfl⟩
  obtain ⟨hg1, hg2⟩ := hgo
  have hgoal : W pg lch ev (headSpec wsX1_crowdBy ({ frames := 1, cells := 0, slots := 0, locals := 22 })).room s mi ([.ref (F 0), .int (nI i), .int v] : List Value).toArray below meth cd H locs 0 0 QQ (F0 mi 0 ls []) := by
    refine lv_aload_n hx hb dX1_crowdBy_0 rfl (lv_at hl 0 rfl) ?_
    refine va_get (D := D) (ci := 1) (v := .ref (F 3)) (C := RX1) (T := TX1) (N := 13) hx hb hts inX1 hown hE.1 hP 0 rfl rfl 2 (by decide) kf23 (fun _ h9 => h9) rfl dX1_crowdBy_1 ?_
    refine lv_iload_n hx hb dX1_crowdBy_4 rfl (lv_at hl 1 rfl) ?_
    refine pVi (As := [.int (nI i)]) (rest := []) (wc := (wR cA (F 3) (F 14) 41 (fun z9 => nI (qLa a z9)))) ⟨hx, hb, hml, hown, hts⟩ (K_X2_getk lch D cA (F 3) (F 14) 41 (fun z9 => nI (qLa a z9)) i (nI (qLa a i)) H.size (by omega) (Nat.le_of_ble_eq_true rfl) (rfl)) (cwV 1 hts gX1_crowdBy_X2_get rfl rfl rfl (by decide +kernel) ⟨Nat.le_of_ble_eq_true rfl, Nat.le_of_ble_eq_true rfl⟩) hE hP hD hS hA [3, 14] rfl rfl X0.blind (fun _ _ _ => trivial) 3 2 rfl rfl rfl hl.1 rfl rfl (Nat.le_of_ble_eq_true rfl) dX1_crowdBy_5 ⟨Nat.zero_le _, Nat.zero_le _⟩ (fun r_1 u_2 H locs h_3 hP hS => ?_)
    subst h_3
    refine lv_aload_n hx hb dX1_crowdBy_8 rfl (lv_at hl 0 rfl) ?_
    refine va_get (D := D) (ci := 1) (v := .ref (F 4)) (C := RX1) (T := TX1) (N := 13) hx hb hts inX1 hown hE.1 hP 0 rfl rfl 3 (by decide) kf26 (fun _ h9 => h9) rfl dX1_crowdBy_9 ?_
    refine lv_iload_n hx hb dX1_crowdBy_12 rfl (lv_at hl 1 rfl) ?_
    refine pVi (As := [.int (nI i)]) (rest := [.int (nI (qLa a i))]) (wc := (wR cA (F 4) (F 15) 41 (fun z9 => nI (qPl a z9)))) ⟨hx, hb, hml, hown, hts⟩ (K_X2_getk lch D cA (F 4) (F 15) 41 (fun z9 => nI (qPl a z9)) i (nI (qPl a i)) H.size (by omega) (Nat.le_of_ble_eq_true rfl) (rfl)) (cwV 1 hts gX1_crowdBy_X2_get rfl rfl rfl (by decide +kernel) ⟨Nat.le_of_ble_eq_true rfl, Nat.le_of_ble_eq_true rfl⟩) hE hP hD hS hA [4, 15] rfl rfl X0.blind (fun _ _ _ => trivial) 4 2 rfl rfl rfl hl.1 rfl rfl (Nat.le_of_ble_eq_true rfl) dX1_crowdBy_13 ⟨Nat.zero_le _, Nat.zero_le _⟩ (fun r_4 u_5 H locs h_6 hP hS => ?_)
    subst h_6
    refine lv_aload_n hx hb dX1_crowdBy_16 rfl (lv_at hl 0 rfl) ?_
    refine va_get (D := D) (ci := 1) (v := .ref (F 1)) (C := RX1) (T := TX1) (N := 13) hx hb hts inX1 hown hE.1 hP 0 rfl rfl 0 (by decide) kf16 (fun _ h9 => h9) rfl dX1_crowdBy_17 ?_
    refine lv_iload_n hx hb dX1_crowdBy_20 rfl (lv_at hl 1 rfl) ?_
    refine pVi (As := [.int (nI i)]) (rest := [.int (nI (qPl a i)), .int (nI (qLa a i))]) (wc := (wR cA (F 1) (F 12) 41 (fun z9 => nI (qFr a z9)))) ⟨hx, hb, hml, hown, hts⟩ (K_X2_getk lch D cA (F 1) (F 12) 41 (fun z9 => nI (qFr a z9)) i (nI (qFr a i)) H.size (by omega) (Nat.le_of_ble_eq_true rfl) (rfl)) (cwV 1 hts gX1_crowdBy_X2_get rfl rfl rfl (by decide +kernel) ⟨Nat.le_of_ble_eq_true rfl, Nat.le_of_ble_eq_true rfl⟩) hE hP hD hS hA [1, 12] rfl rfl X0.blind (fun _ _ _ => trivial) 1 2 rfl rfl rfl hl.1 rfl rfl (Nat.le_of_ble_eq_true rfl) dX1_crowdBy_21 ⟨Nat.zero_le _, Nat.zero_le _⟩ (fun r_7 u_8 H locs h_9 hP hS => ?_)
    subst h_9
    refine pSi (As := [.int (nI (qLa a i)), .int (nI (qPl a i)), .int (nI (qFr a i))]) (rest := []) (wc := ([] : va_W)) ⟨hx, hb, hml, hown, hts⟩ (K_X1_cell lch D cA (qLa a i) (qPl a i) (qFr a i) H.size (by first | assumption | omega)) (cwS 3 hts gX1_crowdBy_X1_cell rfl rfl rfl (by decide +kernel) ⟨Nat.le_of_ble_eq_true rfl, Nat.le_of_ble_eq_true rfl⟩) hE hP hD hS hA [] rfl rfl X0.blind (fun _ _ _ => trivial) hl.1 rfl rfl (Nat.le_of_ble_eq_true rfl) dX1_crowdBy_24 ⟨Nat.zero_le _, Nat.zero_le _⟩ (fun r_10 u_11 H locs h_12 hP hS => ?_)
    subst h_12
    refine lv_istore_n (lv' := [(3, .int (ck (qLa a i) (qPl a i) (qFr a i))), (0, .ref (F 0)), (1, .int (nI i)), (2, .int v)]) hx hb dX1_crowdBy_27 rfl hl (by decide) rfl (fun ls hl => ?_)
    refine lv_aload_n hx hb dX1_crowdBy_28 rfl (lv_at hl 1 rfl) ?_
    refine va_get (D := D) (ci := 1) (v := .ref (F 10)) (C := RX1) (T := TX1) (N := 13) hx hb hts inX1 hown hE.1 hP 0 rfl rfl 9 (by decide) kf44 (fun _ h9 => h9) rfl dX1_crowdBy_29 ?_
    refine lv_iload_n hx hb dX1_crowdBy_32 rfl (lv_at hl 0 rfl) ?_
    refine lv_aload_n hx hb dX1_crowdBy_33 rfl (lv_at hl 1 rfl) ?_
    refine va_get (D := D) (ci := 1) (v := .ref (F 10)) (C := RX1) (T := TX1) (N := 13) hx hb hts inX1 hown hE.1 hP 0 rfl rfl 9 (by decide) kf44 (fun _ h9 => h9) rfl dX1_crowdBy_34 ?_
    refine lv_iload_n hx hb dX1_crowdBy_37 rfl (lv_at hl 0 rfl) ?_
    refine pVi (As := [.int (ck (qLa a i) (qPl a i) (qFr a i))]) (rest := [.int (ck (qLa a i) (qPl a i) (qFr a i)), .ref (F 10)]) (wc := (wR cA (F 10) (F 21) 540 c)) ⟨hx, hb, hml, hown, hts⟩ (K_X2_get lch D cA (F 10) (F 21) 540 c (ck (qLa a i) (qPl a i) (qFr a i)) H.size (Nat.le_of_ble_eq_true rfl)) (cwV 1 hts gX1_crowdBy_X2_get rfl rfl rfl (by decide +kernel) ⟨Nat.le_of_ble_eq_true rfl, Nat.le_of_ble_eq_true rfl⟩) hE hP hD hS hA [10, 21] rfl rfl X0.blind (fun _ _ _ => trivial) 10 2 rfl rfl rfl hl.1 rfl rfl (Nat.le_of_ble_eq_true rfl) dX1_crowdBy_38 ⟨Nat.zero_le _, Nat.zero_le _⟩ (fun r_13 u_14 H locs h_15 hP hS => ?_)
    subst h_15
    refine lv_iload_n hx hb dX1_crowdBy_41 rfl (lv_at hl 3 rfl) ?_
    refine lv_iadd hx hb dX1_crowdBy_42 ?_
    refine cVv (As := [.int (ck (qLa a i) (qPl a i) (qFr a i)), .int ((rg 540 c (ck (qLa a i) (qPl a i) (qFr a i))) + v)]) (rest := []) (wc := (wR cA (F 10) (F 21) 540 c)) ⟨hx, hb, hml, hown, hts⟩ (K_X2_put lch D cA (F 10) (F 21) 540 c (ck (qLa a i) (qPl a i) (qFr a i)) ((rg 540 c (ck (qLa a i) (qPl a i) (qFr a i))) + v) H.size (Nat.le_of_ble_eq_true rfl)) (cwV 2 hts gX1_crowdBy_X2_put rfl rfl rfl (by decide +kernel) ⟨Nat.le_of_ble_eq_true rfl, Nat.le_of_ble_eq_true rfl⟩) hE hP hD hS hA [10, 21] rfl rfl [F 10, F 21] (fun _ => rfl) rfl (fun (u_17 : Unit) => (wF cA F a (cby a c i v) q)) (fun _ => rfl) X0.blind (fun _ _ _ => trivial) 10 2 rfl rfl rfl hl.1 rfl rfl (Nat.le_of_ble_eq_true rfl) dX1_crowdBy_43 ⟨Nat.zero_le _, Nat.zero_le _⟩ (fun u_17 H locs h_18 hP hD hS => ?_)
    rw [hQQ]
    exact W.vret hx hb hr (fun t ht hW => ⟨⟨(), rfl, trivial, by show va_P _ _ _ t.heap; rw [ht]; exact hP⟩, hS.F ht⟩) hS.2.2 dX1_crowdBy_46
  rw [hg1, hg2] at hgoal
  exact hgoal

set_option maxHeartbeats 4000000 in
set_option maxRecDepth 100000 in
/-- moveTo -/
theorem K_X1_moveTo (lch : Launch) (D : va_G) (cA : ClassId) (F : Nat → Nat) (a : FSt) (c : Nat → Int32) (q : Nat → Int32) (i : Nat) (l : Nat) (p : Nat) (sz : Nat) (hk : i < 41) (hp6 : qPl a i ≤ 60) (h60 : p ≤ 60) : Met lch yX1_moveTo wsX1_moveTo ({ frames := 2, cells := 0, slots := 0, locals := 45 }) (Pr D cA [.ref (F 0), .int (nI i), .int (nI l), .int (nI p)] sz (wF cA F a c q) X0) (va_Qv (fun (u : Unit) => True) (fun (u : Unit) t => va_P D vwCl (wF cA F (mvA a i l p) (cby (mvA a i l p) (cby a c i (-1)) i 1) q) t.heap) (va_A (wF cA F a c q) sz)) 0 0 (va_A (wF cA F a c q) sz) := by
  refine Met.ofW (cc := cX1_moveTo) (maxL := 4) (ret := none) (by decide) rfl ?_
  intro pg ev s mi args below meth cd s₁ B hml hv
  obtain ⟨hav, hsz, hP, hE, hD, hXs⟩ := hv
  have hx := B.exec
  have hb := B.bytes
  have hr := B.returns
  have hts := atoms_spec (ws := wsX1_moveTo) B.pre
  have hown : s.vm.findClass RX1 = some mi.cls := findClass_of_methodNamed B.named
  have hlocks := B.notSynchronized
  clear B
  subst hav
  subst hsz
  have hD := hD.self (sz := s.heap.size)
  generalize hAe : va_A (wF cA F a c q) s.heap.size = A at hD ⊢
  have hA : ∀ q : Nat, s.heap.size ≤ q → A q := fun q h => by rw [← hAe]; exact Or.inr h
  have hS : va_S A s.heap s.heap [] := va_S.rf
  obtain ⟨QQ, hQQ⟩ : ∃ qq9, qq9 = MQ below (va_Qv (fun (u : Unit) => True) (fun (u : Unit) t => va_P D vwCl (wF cA F (mvA a i l p) (cby (mvA a i l p) (cby a c i (-1)) i 1) q) t.heap) A) ([.ref (F 0), .int (nI i), .int (nI l), .int (nI p)] : List Value).toArray s 0 0 A := ⟨_, rfl⟩
  rw [← hQQ]
  have hl := lv_entry ([.ref (F 0), .int (nI i), .int (nI l), .int (nI p)]) (n := 4) (Nat.le_of_ble_eq_true rfl)
  rw [lg_entry_eq]
  generalize (lg_sl ([.ref (F 0), .int (nI i), .int (nI l), .int (nI p)]) ++ List.replicate (4 - (lg_sl ([.ref (F 0), .int (nI i), .int (nI l), .int (nI p)])).length) Slot.unset).toArray = ls at hl ⊢
  have hl : lv_has ls 4 [(0, .ref (F 0)), (1, .int (nI i)), (2, .int (nI l)), (3, .int (nI p))] := hl
  have kf23 := hts (.fieldLink RX1 23 "LanternWeirs$Fleet" "lanes" "LLanternWeirs$Row;") (by decide +kernel)
  have inX1 : ∀ w ∈ u_ws RX1 TX1 13, w ∈ wsX1_moveTo := by decide +kernel
  have kf26 := hts (.fieldLink RX1 26 "LanternWeirs$Fleet" "places" "LLanternWeirs$Row;") (by decide +kernel)
  obtain ⟨H, locs, hP, hS, hgo⟩ : ∃ H locs, va_P D vwCl (wF cA F a c q) H ∧ va_S A s.heap H locs ∧ (H = s.heap ∧ locs = []) := ⟨_, _, hP, hS, rfl, rfl⟩
  obtain ⟨hg1, hg2⟩ := hgo
  have hgoal : W pg lch ev (headSpec wsX1_moveTo ({ frames := 2, cells := 0, slots := 0, locals := 45 })).room s mi ([.ref (F 0), .int (nI i), .int (nI l), .int (nI p)] : List Value).toArray below meth cd H locs 0 0 QQ (F0 mi 0 ls []) := by
    refine lv_aload_n hx hb dX1_moveTo_0 rfl (lv_at hl 0 rfl) ?_
    refine lv_iload_n hx hb dX1_moveTo_1 rfl (lv_at hl 1 rfl) ?_
    refine lv_iconst (v := (-1)) hx hb dX1_moveTo_2 (by decide) ?_
    refine cVv (As := [.int (nI i), .int ((-1))]) (rest := []) (wc := (wF cA F a c q)) ⟨hx, hb, hml, hown, hts⟩ (K_X1_crowdBy lch D cA F a c q i ((-1)) H.size (by first | assumption | omega) (by first | assumption | omega)) (cwV 2 hts gX1_moveTo_X1_crowdBy rfl rfl rfl (by decide +kernel) ⟨Nat.le_of_ble_eq_true rfl, Nat.le_of_ble_eq_true rfl⟩) hE hP hD hS hA [0, 1, 2, 3, 4, 5, 6, 7, 8, 9, 10, 11, 12, 13, 14, 15, 16, 17, 18, 19, 20, 21, 22] rfl rfl [F 0, F 1, F 2, F 3, F 4, F 5, F 6, F 7, F 8, F 9, F 10, F 11, F 12, F 13, F 14, F 15, F 16, F 17, F 18, F 19, F 20, F 21, F 22] (fun _ => rfl) rfl (fun (u_2 : Unit) => (wF cA F a (cby a c i (-1)) q)) (fun _ => pst_all 23 rfl rfl rfl) X0.blind (fun _ _ _ => trivial) 0 1 rfl rfl rfl hl.1 rfl rfl (Nat.le_of_ble_eq_true rfl) dX1_moveTo_3 ⟨Nat.zero_le _, Nat.zero_le _⟩ (fun u_2 H locs h_3 hP hD hS => ?_)
    refine lv_aload_n hx hb dX1_moveTo_6 rfl (lv_at hl 0 rfl) ?_
    refine va_get (D := D) (ci := 1) (v := .ref (F 3)) (C := RX1) (T := TX1) (N := 13) hx hb hts inX1 hown hE.1 hP 0 rfl rfl 2 (by decide) kf23 (fun _ h9 => h9) rfl dX1_moveTo_7 ?_
    refine lv_iload_n hx hb dX1_moveTo_10 rfl (lv_at hl 1 rfl) ?_
    refine lv_iload_n hx hb dX1_moveTo_11 rfl (lv_at hl 2 rfl) ?_
    refine cVv (As := [.int (nI i), .int (nI l)]) (rest := []) (wc := (wR cA (F 3) (F 14) 41 (fun z9 => nI (qLa a z9)))) ⟨hx, hb, hml, hown, hts⟩ (K_X2_putk lch D cA (F 3) (F 14) 41 (fun z9 => nI (qLa a z9)) i (nI l) (fun z9 => nI (qLa (uLa a (up (qLa a) i l)) z9)) H.size (by omega) (Nat.le_of_ble_eq_true rfl) (fun j _ => upd_N j)) (cwV 2 hts gX1_moveTo_X2_put rfl rfl rfl (by decide +kernel) ⟨Nat.le_of_ble_eq_true rfl, Nat.le_of_ble_eq_true rfl⟩) hE hP hD hS hA [3, 14] rfl rfl [F 3, F 14] (fun _ => rfl) rfl (fun (u_5 : Unit) => (wF cA F (uLa a (up (qLa a) i l)) (cby a c i (-1)) q)) (fun _ => rfl) X0.blind (fun _ _ _ => trivial) 3 2 rfl rfl rfl hl.1 rfl rfl (Nat.le_of_ble_eq_true rfl) dX1_moveTo_12 ⟨Nat.zero_le _, Nat.zero_le _⟩ (fun u_5 H locs h_6 hP hD hS => ?_)
    refine lv_aload_n hx hb dX1_moveTo_15 rfl (lv_at hl 0 rfl) ?_
    refine va_get (D := D) (ci := 1) (v := .ref (F 4)) (C := RX1) (T := TX1) (N := 13) hx hb hts inX1 hown hE.1 hP 0 rfl rfl 3 (by decide) kf26 (fun _ h9 => h9) rfl dX1_moveTo_16 ?_
    refine lv_iload_n hx hb dX1_moveTo_19 rfl (lv_at hl 1 rfl) ?_
    refine lv_iload_n hx hb dX1_moveTo_20 rfl (lv_at hl 3 rfl) ?_
    refine cVv (As := [.int (nI i), .int (nI p)]) (rest := []) (wc := (wR cA (F 4) (F 15) 41 (fun z9 => nI (qPl (uLa a (up (qLa a) i l)) z9)))) ⟨hx, hb, hml, hown, hts⟩ (K_X2_putk lch D cA (F 4) (F 15) 41 (fun z9 => nI (qPl (uLa a (up (qLa a) i l)) z9)) i (nI p) (fun z9 => nI (qPl (mvA a i l p) z9)) H.size (by omega) (Nat.le_of_ble_eq_true rfl) (fun j _ => upd_N j)) (cwV 2 hts gX1_moveTo_X2_put rfl rfl rfl (by decide +kernel) ⟨Nat.le_of_ble_eq_true rfl, Nat.le_of_ble_eq_true rfl⟩) hE hP hD hS hA [4, 15] rfl rfl [F 4, F 15] (fun _ => rfl) rfl (fun (u_8 : Unit) => (wF cA F (mvA a i l p) (cby a c i (-1)) q)) (fun _ => rfl) X0.blind (fun _ _ _ => trivial) 4 2 rfl rfl rfl hl.1 rfl rfl (Nat.le_of_ble_eq_true rfl) dX1_moveTo_21 ⟨Nat.zero_le _, Nat.zero_le _⟩ (fun u_8 H locs h_9 hP hD hS => ?_)
    refine lv_aload_n hx hb dX1_moveTo_24 rfl (lv_at hl 0 rfl) ?_
    refine lv_iload_n hx hb dX1_moveTo_25 rfl (lv_at hl 1 rfl) ?_
    refine lv_iconst (v := 1) hx hb dX1_moveTo_26 (by decide) ?_
    refine cVv (As := [.int (nI i), .int 1]) (rest := []) (wc := (wF cA F (mvA a i l p) (cby a c i (-1)) q)) ⟨hx, hb, hml, hown, hts⟩ (K_X1_crowdBy lch D cA F (mvA a i l p) (cby a c i (-1)) q i 1 H.size (by first | assumption | omega) (by show up (qPl a) i p i ≤ 60; rw [up_s]; exact h60)) (cwV 2 hts gX1_moveTo_X1_crowdBy rfl rfl rfl (by decide +kernel) ⟨Nat.le_of_ble_eq_true rfl, Nat.le_of_ble_eq_true rfl⟩) hE hP hD hS hA [0, 1, 2, 3, 4, 5, 6, 7, 8, 9, 10, 11, 12, 13, 14, 15, 16, 17, 18, 19, 20, 21, 22] rfl rfl [F 0, F 1, F 2, F 3, F 4, F 5, F 6, F 7, F 8, F 9, F 10, F 11, F 12, F 13, F 14, F 15, F 16, F 17, F 18, F 19, F 20, F 21, F 22] (fun _ => rfl) rfl (fun (u_11 : Unit) => (wF cA F (mvA a i l p) (cby (mvA a i l p) (cby a c i (-1)) i 1) q)) (fun _ => pst_all 23 rfl rfl rfl) X0.blind (fun _ _ _ => trivial) 0 1 rfl rfl rfl hl.1 rfl rfl (Nat.le_of_ble_eq_true rfl) dX1_moveTo_27 ⟨Nat.zero_le _, Nat.zero_le _⟩ (fun u_11 H locs h_12 hP hD hS => ?_)
    rw [hQQ]
    exact W.vret hx hb hr (fun t ht hW => ⟨⟨(), rfl, trivial, by show va_P _ _ _ t.heap; rw [ht]; exact hP⟩, hS.F ht⟩) hS.2.2 dX1_moveTo_30
  rw [hg1, hg2] at hgoal
  exact hgoal

set_option maxHeartbeats 4000000 in
set_option maxRecDepth 100000 in
/-- leave -/
theorem K_X1_leave (lch : Launch) (D : va_G) (cA : ClassId) (F : Nat → Nat) (a : FSt) (c : Nat → Int32) (q : Nat → Int32) (i : Nat) (so : Nat) (sz : Nat) (hk : i < 41) (hp6 : qPl a i ≤ 60) : Met lch yX1_leave wsX1_leave ({ frames := 2, cells := 0, slots := 0, locals := 45 }) (Pr D cA [.ref (F 0), .int (nI i), .int (nI so)] sz (wF cA F a c q) X0) (va_Qv (fun (u : Unit) => True) (fun (u : Unit) t => va_P D vwCl (wF cA F (endA a i so) (cby a c i (-1)) q) t.heap) (va_A (wF cA F a c q) sz)) 0 0 (va_A (wF cA F a c q) sz) := by
  refine Met.ofW (cc := cX1_leave) (maxL := 3) (ret := none) (by decide) rfl ?_
  intro pg ev s mi args below meth cd s₁ B hml hv
  obtain ⟨hav, hsz, hP, hE, hD, hXs⟩ := hv
  have hx := B.exec
  have hb := B.bytes
  have hr := B.returns
  have hts := atoms_spec (ws := wsX1_leave) B.pre
  have hown : s.vm.findClass RX1 = some mi.cls := findClass_of_methodNamed B.named
  have hlocks := B.notSynchronized
  clear B
  subst hav
  subst hsz
  have hD := hD.self (sz := s.heap.size)
  generalize hAe : va_A (wF cA F a c q) s.heap.size = A at hD ⊢
  have hA : ∀ q : Nat, s.heap.size ≤ q → A q := fun q h => by rw [← hAe]; exact Or.inr h
  have hS : va_S A s.heap s.heap [] := va_S.rf
  obtain ⟨QQ, hQQ⟩ : ∃ qq9, qq9 = MQ below (va_Qv (fun (u : Unit) => True) (fun (u : Unit) t => va_P D vwCl (wF cA F (endA a i so) (cby a c i (-1)) q) t.heap) A) ([.ref (F 0), .int (nI i), .int (nI so)] : List Value).toArray s 0 0 A := ⟨_, rfl⟩
  rw [← hQQ]
  have hl := lv_entry ([.ref (F 0), .int (nI i), .int (nI so)]) (n := 3) (Nat.le_of_ble_eq_true rfl)
  rw [lg_entry_eq]
  generalize (lg_sl ([.ref (F 0), .int (nI i), .int (nI so)]) ++ List.replicate (3 - (lg_sl ([.ref (F 0), .int (nI i), .int (nI so)])).length) Slot.unset).toArray = ls at hl ⊢
  have hl : lv_has ls 3 [(0, .ref (F 0)), (1, .int (nI i)), (2, .int (nI so))] := hl
  have kf38 := hts (.fieldLink RX1 38 "LanternWeirs$Fleet" "states" "LLanternWeirs$Row;") (by decide +kernel)
  have inX1 : ∀ w ∈ u_ws RX1 TX1 13, w ∈ wsX1_leave := by decide +kernel
  have kf41 := hts (.fieldLink RX1 41 "LanternWeirs$Fleet" "ends" "LLanternWeirs$Row;") (by decide +kernel)
  have kf58 := hts (.fieldLink RX1 58 "LanternWeirs$Fleet" "minute" "I") (by decide +kernel)
  obtain ⟨H, locs, hP, hS, hgo⟩ : ∃ H locs, va_P D vwCl (wF cA F a c q) H ∧ va_S A s.heap H locs ∧ (H = s.heap ∧ locs = []) := ⟨_, _, hP, hS, rfl, rfl⟩
  obtain ⟨hg1, hg2⟩ := hgo
  have hgoal : W pg lch ev (headSpec wsX1_leave ({ frames := 2, cells := 0, slots := 0, locals := 45 })).room s mi ([.ref (F 0), .int (nI i), .int (nI so)] : List Value).toArray below meth cd H locs 0 0 QQ (F0 mi 0 ls []) := by
    refine lv_aload_n hx hb dX1_leave_0 rfl (lv_at hl 0 rfl) ?_
    refine lv_iload_n hx hb dX1_leave_1 rfl (lv_at hl 1 rfl) ?_
    refine lv_iconst (v := (-1)) hx hb dX1_leave_2 (by decide) ?_
    refine cVv (As := [.int (nI i), .int ((-1))]) (rest := []) (wc := (wF cA F a c q)) ⟨hx, hb, hml, hown, hts⟩ (K_X1_crowdBy lch D cA F a c q i ((-1)) H.size (by first | assumption | omega) (by first | assumption | omega)) (cwV 2 hts gX1_leave_X1_crowdBy rfl rfl rfl (by decide +kernel) ⟨Nat.le_of_ble_eq_true rfl, Nat.le_of_ble_eq_true rfl⟩) hE hP hD hS hA [0, 1, 2, 3, 4, 5, 6, 7, 8, 9, 10, 11, 12, 13, 14, 15, 16, 17, 18, 19, 20, 21, 22] rfl rfl [F 0, F 1, F 2, F 3, F 4, F 5, F 6, F 7, F 8, F 9, F 10, F 11, F 12, F 13, F 14, F 15, F 16, F 17, F 18, F 19, F 20, F 21, F 22] (fun _ => rfl) rfl (fun (u_2 : Unit) => (wF cA F a (cby a c i (-1)) q)) (fun _ => pst_all 23 rfl rfl rfl) X0.blind (fun _ _ _ => trivial) 0 1 rfl rfl rfl hl.1 rfl rfl (Nat.le_of_ble_eq_true rfl) dX1_leave_3 ⟨Nat.zero_le _, Nat.zero_le _⟩ (fun u_2 H locs h_3 hP hD hS => ?_)
    refine lv_aload_n hx hb dX1_leave_6 rfl (lv_at hl 0 rfl) ?_
    refine va_get (D := D) (ci := 1) (v := .ref (F 8)) (C := RX1) (T := TX1) (N := 13) hx hb hts inX1 hown hE.1 hP 0 rfl rfl 7 (by decide) kf38 (fun _ h9 => h9) rfl dX1_leave_7 ?_
    refine lv_iload_n hx hb dX1_leave_10 rfl (lv_at hl 1 rfl) ?_
    refine lv_iload_n hx hb dX1_leave_11 rfl (lv_at hl 2 rfl) ?_
    refine cVv (As := [.int (nI i), .int (nI so)]) (rest := []) (wc := (wR cA (F 8) (F 19) 41 (fun z9 => nI (qSt a z9)))) ⟨hx, hb, hml, hown, hts⟩ (K_X2_putk lch D cA (F 8) (F 19) 41 (fun z9 => nI (qSt a z9)) i (nI so) (fun z9 => nI (qSt (uSt a (up (qSt a) i so)) z9)) H.size (by omega) (Nat.le_of_ble_eq_true rfl) (fun j _ => upd_N j)) (cwV 2 hts gX1_leave_X2_put rfl rfl rfl (by decide +kernel) ⟨Nat.le_of_ble_eq_true rfl, Nat.le_of_ble_eq_true rfl⟩) hE hP hD hS hA [8, 19] rfl rfl [F 8, F 19] (fun _ => rfl) rfl (fun (u_5 : Unit) => (wF cA F (uSt a (up (qSt a) i so)) (cby a c i (-1)) q)) (fun _ => rfl) X0.blind (fun _ _ _ => trivial) 8 2 rfl rfl rfl hl.1 rfl rfl (Nat.le_of_ble_eq_true rfl) dX1_leave_12 ⟨Nat.zero_le _, Nat.zero_le _⟩ (fun u_5 H locs h_6 hP hD hS => ?_)
    refine lv_aload_n hx hb dX1_leave_15 rfl (lv_at hl 0 rfl) ?_
    refine va_get (D := D) (ci := 1) (v := .ref (F 9)) (C := RX1) (T := TX1) (N := 13) hx hb hts inX1 hown hE.1 hP 0 rfl rfl 8 (by decide) kf41 (fun _ h9 => h9) rfl dX1_leave_16 ?_
    refine lv_iload_n hx hb dX1_leave_19 rfl (lv_at hl 1 rfl) ?_
    refine lv_aload_n hx hb dX1_leave_20 rfl (lv_at hl 0 rfl) ?_
    refine va_get (D := D) (ci := 1) (v := .int (qM (uSt a (up (qSt a) i so)))) (C := RX1) (T := TX1) (N := 13) hx hb hts inX1 hown hE.1 hP 0 rfl rfl 12 (by decide) kf58 (fun _ h9 => h9) rfl dX1_leave_21 ?_
    refine cVv (As := [.int (nI i), .int (qM (uSt a (up (qSt a) i so)))]) (rest := []) (wc := (wR cA (F 9) (F 20) 41 (qEn (uSt a (up (qSt a) i so))))) ⟨hx, hb, hml, hown, hts⟩ (K_X2_putk lch D cA (F 9) (F 20) 41 (qEn (uSt a (up (qSt a) i so))) i (qM (uSt a (up (qSt a) i so))) (qEn (endA a i so)) H.size (by omega) (Nat.le_of_ble_eq_true rfl) (fun j _ => upd_I j)) (cwV 2 hts gX1_leave_X2_put rfl rfl rfl (by decide +kernel) ⟨Nat.le_of_ble_eq_true rfl, Nat.le_of_ble_eq_true rfl⟩) hE hP hD hS hA [9, 20] rfl rfl [F 9, F 20] (fun _ => rfl) rfl (fun (u_8 : Unit) => (wF cA F (endA a i so) (cby a c i (-1)) q)) (fun _ => rfl) X0.blind (fun _ _ _ => trivial) 9 2 rfl rfl rfl hl.1 rfl rfl (Nat.le_of_ble_eq_true rfl) dX1_leave_24 ⟨Nat.zero_le _, Nat.zero_le _⟩ (fun u_8 H locs h_9 hP hD hS => ?_)
    rw [hQQ]
    exact W.vret hx hb hr (fun t ht hW => ⟨⟨(), rfl, trivial, by show va_P _ _ _ t.heap; rw [ht]; exact hP⟩, hS.F ht⟩) hS.2.2 dX1_leave_27
  rw [hg1, hg2] at hgoal
  exact hgoal

set_option maxHeartbeats 4000000 in
set_option maxRecDepth 100000 in
/-- fact -/
theorem K_X1_fact (lch : Launch) (D : va_G) (cA : ClassId) (F : Nat → Nat) (a : FSt) (c : Nat → Int32) (q : Nat → Int32) (i : Nat) (w : Nat) (sz : Nat) (hk : i < 41) (hw : w ≤ 8) : Met lch yX1_fact wsX1_fact ({ frames := 1, cells := 0, slots := 0, locals := 21 }) (Pr D cA [.ref (F 0), .int (nI i), .int (nI w)] sz (wF cA F a c q) X0) (va_Qi (fun (r : Int32) (u : Unit) => r = factA a i w) (fun _ _ => True) (fun q : Nat => sz ≤ q)) 0 0 (fun q : Nat => sz ≤ q) := by
  refine Met.ofW (cc := cX1_fact) (maxL := 3) (ret := (some .int)) (by decide) rfl ?_
  intro pg ev s mi args below meth cd s₁ B hml hv
  obtain ⟨hav, hsz, hP, hE, hD, hXs⟩ := hv
  have hx := B.exec
  have hb := B.bytes
  have hr := B.returns
  have hts := atoms_spec (ws := wsX1_fact) B.pre
  have hown : s.vm.findClass RX1 = some mi.cls := findClass_of_methodNamed B.named
  have hlocks := B.notSynchronized
  clear B
  subst hav
  subst hsz
  have hA : ∀ q : Nat, s.heap.size ≤ q → (fun q : Nat => s.heap.size ≤ q) q := fun _ h => h
  have hS : va_S (fun q : Nat => s.heap.size ≤ q) s.heap s.heap [] := va_S.rf
  obtain ⟨QQ, hQQ⟩ : ∃ qq9, qq9 = MQ below (va_Qi (fun (r : Int32) (u : Unit) => r = factA a i w) (fun _ _ => True) (fun q : Nat => s.heap.size ≤ q)) ([.ref (F 0), .int (nI i), .int (nI w)] : List Value).toArray s 0 0 (fun q : Nat => s.heap.size ≤ q) := ⟨_, rfl⟩
  rw [← hQQ]
  have hl := lv_entry ([.ref (F 0), .int (nI i), .int (nI w)]) (n := 3) (Nat.le_of_ble_eq_true rfl)
  rw [lg_entry_eq]
  generalize (lg_sl ([.ref (F 0), .int (nI i), .int (nI w)]) ++ List.replicate (3 - (lg_sl ([.ref (F 0), .int (nI i), .int (nI w)])).length) Slot.unset).toArray = ls at hl ⊢
  have hl : lv_has ls 3 [(0, .ref (F 0)), (1, .int (nI i)), (2, .int (nI w))] := hl
  have kf16 := hts (.fieldLink RX1 16 "LanternWeirs$Fleet" "frames" "LLanternWeirs$Row;") (by decide +kernel)
  have inX1 : ∀ w ∈ u_ws RX1 TX1 13, w ∈ wsX1_fact := by decide +kernel
  have kf20 := hts (.fieldLink RX1 20 "LanternWeirs$Fleet" "wishes" "LLanternWeirs$Row;") (by decide +kernel)
  have kf23 := hts (.fieldLink RX1 23 "LanternWeirs$Fleet" "lanes" "LLanternWeirs$Row;") (by decide +kernel)
  have kf26 := hts (.fieldLink RX1 26 "LanternWeirs$Fleet" "places" "LLanternWeirs$Row;") (by decide +kernel)
  have kf29 := hts (.fieldLink RX1 29 "LanternWeirs$Fleet" "waxes" "LLanternWeirs$Row;") (by decide +kernel)
  have kf32 := hts (.fieldLink RX1 32 "LanternWeirs$Fleet" "wets" "LLanternWeirs$Row;") (by decide +kernel)
  have kf35 := hts (.fieldLink RX1 35 "LanternWeirs$Fleet" "burning" "LLanternWeirs$Row;") (by decide +kernel)
  have kf38 := hts (.fieldLink RX1 38 "LanternWeirs$Fleet" "states" "LLanternWeirs$Row;") (by decide +kernel)
  have kf41 := hts (.fieldLink RX1 41 "LanternWeirs$Fleet" "ends" "LLanternWeirs$Row;") (by decide +kernel)
  obtain ⟨H, locs, hP, hS, hgo⟩ : ∃ H locs, va_P D vwCl (wF cA F a c q) H ∧ va_S (fun q : Nat => s.heap.size ≤ q) s.heap H locs ∧ (H = s.heap ∧ locs = []) := ⟨_, _, hP, hS, rfl, rfl⟩
  obtain ⟨hg1, hg2⟩ := hgo
  have hgoal : W pg lch ev (headSpec wsX1_fact ({ frames := 1, cells := 0, slots := 0, locals := 21 })).room s mi ([.ref (F 0), .int (nI i), .int (nI w)] : List Value).toArray below meth cd H locs 0 0 QQ (F0 mi 0 ls []) := by
    refine lv_iload_n hx hb dX1_fact_0 rfl (lv_at hl 2 rfl) ?_
    obtain rfl | rfl | rfl | rfl | rfl | rfl | rfl | rfl | rfl : w = 0 ∨ w = 1 ∨ w = 2 ∨ w = 3 ∨ w = 4 ∨ w = 5 ∨ w = 6 ∨ w = 7 ∨ w = 8 := by omega
    · skip
      refine lv_tableIn (tgt := 48) (off := 47) hx hb dX1_fact_1 (by decide) (by decide) (by decide) (by decide) ?_
      refine lv_aload_n hx hb dX1_fact_48 rfl (lv_at hl 0 rfl) ?_
      refine va_get (D := D) (ci := 1) (v := .ref (F 1)) (C := RX1) (T := TX1) (N := 13) hx hb hts inX1 hown hE.1 hP 0 rfl rfl 0 (by decide) kf16 (fun _ h9 => h9) rfl dX1_fact_49 ?_
      refine lv_iload_n hx hb dX1_fact_52 rfl (lv_at hl 1 rfl) ?_
      refine pVi (As := [.int (nI i)]) (rest := []) (wc := (wR cA (F 1) (F 12) 41 (fun z9 => nI (qFr a z9)))) ⟨hx, hb, hml, hown, hts⟩ (K_X2_getk lch D cA (F 1) (F 12) 41 (fun z9 => nI (qFr a z9)) i (nI (qFr a i)) H.size (by omega) (Nat.le_of_ble_eq_true rfl) (rfl)) (cwV 1 hts gX1_fact_X2_get rfl rfl rfl (by decide +kernel) ⟨Nat.le_of_ble_eq_true rfl, Nat.le_of_ble_eq_true rfl⟩) hE hP hD hS hA [1, 12] rfl rfl X0.blind (fun _ _ _ => trivial) 1 2 rfl rfl rfl hl.1 rfl rfl (Nat.le_of_ble_eq_true rfl) dX1_fact_53 ⟨Nat.zero_le _, Nat.zero_le _⟩ (fun r_1 u_2 H locs h_3 hP hS => ?_)
      subst h_3
      rw [hQQ]
      exact W.iret (v := nI (qFr a i)) hx hb hr (fun t ht hW => ⟨⟨nI (qFr a i), (), rfl, rfl, trivial⟩, hS.F ht⟩) hS.2.2 dX1_fact_56
    · skip
      refine lv_tableIn (tgt := 57) (off := 56) hx hb dX1_fact_1 (by decide) (by decide) (by decide) (by decide) ?_
      refine lv_aload_n hx hb dX1_fact_57 rfl (lv_at hl 0 rfl) ?_
      refine va_get (D := D) (ci := 1) (v := .ref (F 2)) (C := RX1) (T := TX1) (N := 13) hx hb hts inX1 hown hE.1 hP 0 rfl rfl 1 (by decide) kf20 (fun _ h9 => h9) rfl dX1_fact_58 ?_
      refine lv_iload_n hx hb dX1_fact_61 rfl (lv_at hl 1 rfl) ?_
      refine pVi (As := [.int (nI i)]) (rest := []) (wc := (wR cA (F 2) (F 13) 41 (qWi a))) ⟨hx, hb, hml, hown, hts⟩ (K_X2_getk lch D cA (F 2) (F 13) 41 (qWi a) i (qWi a i) H.size (by omega) (Nat.le_of_ble_eq_true rfl) (rfl)) (cwV 1 hts gX1_fact_X2_get rfl rfl rfl (by decide +kernel) ⟨Nat.le_of_ble_eq_true rfl, Nat.le_of_ble_eq_true rfl⟩) hE hP hD hS hA [2, 13] rfl rfl X0.blind (fun _ _ _ => trivial) 2 2 rfl rfl rfl hl.1 rfl rfl (Nat.le_of_ble_eq_true rfl) dX1_fact_62 ⟨Nat.zero_le _, Nat.zero_le _⟩ (fun r_4 u_5 H locs h_6 hP hS => ?_)
      subst h_6
      rw [hQQ]
      exact W.iret (v := qWi a i) hx hb hr (fun t ht hW => ⟨⟨qWi a i, (), rfl, rfl, trivial⟩, hS.F ht⟩) hS.2.2 dX1_fact_65
    · skip
      refine lv_tableIn (tgt := 66) (off := 65) hx hb dX1_fact_1 (by decide) (by decide) (by decide) (by decide) ?_
      refine lv_aload_n hx hb dX1_fact_66 rfl (lv_at hl 0 rfl) ?_
      refine va_get (D := D) (ci := 1) (v := .ref (F 3)) (C := RX1) (T := TX1) (N := 13) hx hb hts inX1 hown hE.1 hP 0 rfl rfl 2 (by decide) kf23 (fun _ h9 => h9) rfl dX1_fact_67 ?_
      refine lv_iload_n hx hb dX1_fact_70 rfl (lv_at hl 1 rfl) ?_
      refine pVi (As := [.int (nI i)]) (rest := []) (wc := (wR cA (F 3) (F 14) 41 (fun z9 => nI (qLa a z9)))) ⟨hx, hb, hml, hown, hts⟩ (K_X2_getk lch D cA (F 3) (F 14) 41 (fun z9 => nI (qLa a z9)) i (nI (qLa a i)) H.size (by omega) (Nat.le_of_ble_eq_true rfl) (rfl)) (cwV 1 hts gX1_fact_X2_get rfl rfl rfl (by decide +kernel) ⟨Nat.le_of_ble_eq_true rfl, Nat.le_of_ble_eq_true rfl⟩) hE hP hD hS hA [3, 14] rfl rfl X0.blind (fun _ _ _ => trivial) 3 2 rfl rfl rfl hl.1 rfl rfl (Nat.le_of_ble_eq_true rfl) dX1_fact_71 ⟨Nat.zero_le _, Nat.zero_le _⟩ (fun r_7 u_8 H locs h_9 hP hS => ?_)
      subst h_9
      rw [hQQ]
      exact W.iret (v := nI (qLa a i)) hx hb hr (fun t ht hW => ⟨⟨nI (qLa a i), (), rfl, rfl, trivial⟩, hS.F ht⟩) hS.2.2 dX1_fact_74
    · skip
      refine lv_tableIn (tgt := 75) (off := 74) hx hb dX1_fact_1 (by decide) (by decide) (by decide) (by decide) ?_
      refine lv_aload_n hx hb dX1_fact_75 rfl (lv_at hl 0 rfl) ?_
      refine va_get (D := D) (ci := 1) (v := .ref (F 4)) (C := RX1) (T := TX1) (N := 13) hx hb hts inX1 hown hE.1 hP 0 rfl rfl 3 (by decide) kf26 (fun _ h9 => h9) rfl dX1_fact_76 ?_
      refine lv_iload_n hx hb dX1_fact_79 rfl (lv_at hl 1 rfl) ?_
      refine pVi (As := [.int (nI i)]) (rest := []) (wc := (wR cA (F 4) (F 15) 41 (fun z9 => nI (qPl a z9)))) ⟨hx, hb, hml, hown, hts⟩ (K_X2_getk lch D cA (F 4) (F 15) 41 (fun z9 => nI (qPl a z9)) i (nI (qPl a i)) H.size (by omega) (Nat.le_of_ble_eq_true rfl) (rfl)) (cwV 1 hts gX1_fact_X2_get rfl rfl rfl (by decide +kernel) ⟨Nat.le_of_ble_eq_true rfl, Nat.le_of_ble_eq_true rfl⟩) hE hP hD hS hA [4, 15] rfl rfl X0.blind (fun _ _ _ => trivial) 4 2 rfl rfl rfl hl.1 rfl rfl (Nat.le_of_ble_eq_true rfl) dX1_fact_80 ⟨Nat.zero_le _, Nat.zero_le _⟩ (fun r_10 u_11 H locs h_12 hP hS => ?_)
      subst h_12
      rw [hQQ]
      exact W.iret (v := nI (qPl a i)) hx hb hr (fun t ht hW => ⟨⟨nI (qPl a i), (), rfl, rfl, trivial⟩, hS.F ht⟩) hS.2.2 dX1_fact_83
    · skip
      refine lv_tableIn (tgt := 84) (off := 83) hx hb dX1_fact_1 (by decide) (by decide) (by decide) (by decide) ?_
      refine lv_aload_n hx hb dX1_fact_84 rfl (lv_at hl 0 rfl) ?_
      refine va_get (D := D) (ci := 1) (v := .ref (F 5)) (C := RX1) (T := TX1) (N := 13) hx hb hts inX1 hown hE.1 hP 0 rfl rfl 4 (by decide) kf29 (fun _ h9 => h9) rfl dX1_fact_85 ?_
      refine lv_iload_n hx hb dX1_fact_88 rfl (lv_at hl 1 rfl) ?_
      refine pVi (As := [.int (nI i)]) (rest := []) (wc := (wR cA (F 5) (F 16) 41 (fun z9 => nI (qWx a z9)))) ⟨hx, hb, hml, hown, hts⟩ (K_X2_getk lch D cA (F 5) (F 16) 41 (fun z9 => nI (qWx a z9)) i (nI (qWx a i)) H.size (by omega) (Nat.le_of_ble_eq_true rfl) (rfl)) (cwV 1 hts gX1_fact_X2_get rfl rfl rfl (by decide +kernel) ⟨Nat.le_of_ble_eq_true rfl, Nat.le_of_ble_eq_true rfl⟩) hE hP hD hS hA [5, 16] rfl rfl X0.blind (fun _ _ _ => trivial) 5 2 rfl rfl rfl hl.1 rfl rfl (Nat.le_of_ble_eq_true rfl) dX1_fact_89 ⟨Nat.zero_le _, Nat.zero_le _⟩ (fun r_13 u_14 H locs h_15 hP hS => ?_)
      subst h_15
      rw [hQQ]
      exact W.iret (v := nI (qWx a i)) hx hb hr (fun t ht hW => ⟨⟨nI (qWx a i), (), rfl, rfl, trivial⟩, hS.F ht⟩) hS.2.2 dX1_fact_92
    · skip
      refine lv_tableIn (tgt := 93) (off := 92) hx hb dX1_fact_1 (by decide) (by decide) (by decide) (by decide) ?_
      refine lv_aload_n hx hb dX1_fact_93 rfl (lv_at hl 0 rfl) ?_
      refine va_get (D := D) (ci := 1) (v := .ref (F 6)) (C := RX1) (T := TX1) (N := 13) hx hb hts inX1 hown hE.1 hP 0 rfl rfl 5 (by decide) kf32 (fun _ h9 => h9) rfl dX1_fact_94 ?_
      refine lv_iload_n hx hb dX1_fact_97 rfl (lv_at hl 1 rfl) ?_
      refine pVi (As := [.int (nI i)]) (rest := []) (wc := (wR cA (F 6) (F 17) 41 (qWe a))) ⟨hx, hb, hml, hown, hts⟩ (K_X2_getk lch D cA (F 6) (F 17) 41 (qWe a) i (qWe a i) H.size (by omega) (Nat.le_of_ble_eq_true rfl) (rfl)) (cwV 1 hts gX1_fact_X2_get rfl rfl rfl (by decide +kernel) ⟨Nat.le_of_ble_eq_true rfl, Nat.le_of_ble_eq_true rfl⟩) hE hP hD hS hA [6, 17] rfl rfl X0.blind (fun _ _ _ => trivial) 6 2 rfl rfl rfl hl.1 rfl rfl (Nat.le_of_ble_eq_true rfl) dX1_fact_98 ⟨Nat.zero_le _, Nat.zero_le _⟩ (fun r_16 u_17 H locs h_18 hP hS => ?_)
      subst h_18
      rw [hQQ]
      exact W.iret (v := qWe a i) hx hb hr (fun t ht hW => ⟨⟨qWe a i, (), rfl, rfl, trivial⟩, hS.F ht⟩) hS.2.2 dX1_fact_101
    · skip
      refine lv_tableIn (tgt := 102) (off := 101) hx hb dX1_fact_1 (by decide) (by decide) (by decide) (by decide) ?_
      refine lv_aload_n hx hb dX1_fact_102 rfl (lv_at hl 0 rfl) ?_
      refine va_get (D := D) (ci := 1) (v := .ref (F 7)) (C := RX1) (T := TX1) (N := 13) hx hb hts inX1 hown hE.1 hP 0 rfl rfl 6 (by decide) kf35 (fun _ h9 => h9) rfl dX1_fact_103 ?_
      refine lv_iload_n hx hb dX1_fact_106 rfl (lv_at hl 1 rfl) ?_
      refine pVi (As := [.int (nI i)]) (rest := []) (wc := (wR cA (F 7) (F 18) 41 (fun z9 => bi (qBu a z9)))) ⟨hx, hb, hml, hown, hts⟩ (K_X2_getk lch D cA (F 7) (F 18) 41 (fun z9 => bi (qBu a z9)) i (bi (qBu a i)) H.size (by omega) (Nat.le_of_ble_eq_true rfl) (rfl)) (cwV 1 hts gX1_fact_X2_get rfl rfl rfl (by decide +kernel) ⟨Nat.le_of_ble_eq_true rfl, Nat.le_of_ble_eq_true rfl⟩) hE hP hD hS hA [7, 18] rfl rfl X0.blind (fun _ _ _ => trivial) 7 2 rfl rfl rfl hl.1 rfl rfl (Nat.le_of_ble_eq_true rfl) dX1_fact_107 ⟨Nat.zero_le _, Nat.zero_le _⟩ (fun r_19 u_20 H locs h_21 hP hS => ?_)
      subst h_21
      rw [hQQ]
      exact W.iret (v := bi (qBu a i)) hx hb hr (fun t ht hW => ⟨⟨bi (qBu a i), (), rfl, rfl, trivial⟩, hS.F ht⟩) hS.2.2 dX1_fact_110
    · skip
      refine lv_tableIn (tgt := 111) (off := 110) hx hb dX1_fact_1 (by decide) (by decide) (by decide) (by decide) ?_
      refine lv_aload_n hx hb dX1_fact_111 rfl (lv_at hl 0 rfl) ?_
      refine va_get (D := D) (ci := 1) (v := .ref (F 8)) (C := RX1) (T := TX1) (N := 13) hx hb hts inX1 hown hE.1 hP 0 rfl rfl 7 (by decide) kf38 (fun _ h9 => h9) rfl dX1_fact_112 ?_
      refine lv_iload_n hx hb dX1_fact_115 rfl (lv_at hl 1 rfl) ?_
      refine pVi (As := [.int (nI i)]) (rest := []) (wc := (wR cA (F 8) (F 19) 41 (fun z9 => nI (qSt a z9)))) ⟨hx, hb, hml, hown, hts⟩ (K_X2_getk lch D cA (F 8) (F 19) 41 (fun z9 => nI (qSt a z9)) i (nI (qSt a i)) H.size (by omega) (Nat.le_of_ble_eq_true rfl) (rfl)) (cwV 1 hts gX1_fact_X2_get rfl rfl rfl (by decide +kernel) ⟨Nat.le_of_ble_eq_true rfl, Nat.le_of_ble_eq_true rfl⟩) hE hP hD hS hA [8, 19] rfl rfl X0.blind (fun _ _ _ => trivial) 8 2 rfl rfl rfl hl.1 rfl rfl (Nat.le_of_ble_eq_true rfl) dX1_fact_116 ⟨Nat.zero_le _, Nat.zero_le _⟩ (fun r_22 u_23 H locs h_24 hP hS => ?_)
      subst h_24
      rw [hQQ]
      exact W.iret (v := nI (qSt a i)) hx hb hr (fun t ht hW => ⟨⟨nI (qSt a i), (), rfl, rfl, trivial⟩, hS.F ht⟩) hS.2.2 dX1_fact_119
    · skip
      refine lv_tableOut (tgt := 120) hx hb dX1_fact_1 (Or.inr (by decide)) (by decide) ?_
      refine lv_aload_n hx hb dX1_fact_120 rfl (lv_at hl 0 rfl) ?_
      refine va_get (D := D) (ci := 1) (v := .ref (F 9)) (C := RX1) (T := TX1) (N := 13) hx hb hts inX1 hown hE.1 hP 0 rfl rfl 8 (by decide) kf41 (fun _ h9 => h9) rfl dX1_fact_121 ?_
      refine lv_iload_n hx hb dX1_fact_124 rfl (lv_at hl 1 rfl) ?_
      refine pVi (As := [.int (nI i)]) (rest := []) (wc := (wR cA (F 9) (F 20) 41 (qEn a))) ⟨hx, hb, hml, hown, hts⟩ (K_X2_getk lch D cA (F 9) (F 20) 41 (qEn a) i (qEn a i) H.size (by omega) (Nat.le_of_ble_eq_true rfl) (rfl)) (cwV 1 hts gX1_fact_X2_get rfl rfl rfl (by decide +kernel) ⟨Nat.le_of_ble_eq_true rfl, Nat.le_of_ble_eq_true rfl⟩) hE hP hD hS hA [9, 20] rfl rfl X0.blind (fun _ _ _ => trivial) 9 2 rfl rfl rfl hl.1 rfl rfl (Nat.le_of_ble_eq_true rfl) dX1_fact_125 ⟨Nat.zero_le _, Nat.zero_le _⟩ (fun r_25 u_26 H locs h_27 hP hS => ?_)
      subst h_27
      rw [hQQ]
      exact W.iret (v := qEn a i) hx hb hr (fun t ht hW => ⟨⟨qEn a i, (), rfl, rfl, trivial⟩, hS.F ht⟩) hS.2.2 dX1_fact_128
  rw [hg1, hg2] at hgoal
  exact hgoal

set_option maxHeartbeats 4000000 in
set_option maxRecDepth 100000 in
/-- share -/
theorem K_X1_share (lch : Launch) (D : va_G) (cA : ClassId) (F : Nat → Nat) (a : FSt) (c : Nat → Int32) (q : Nat → Int32) (i : Nat) (w : Nat) (sz : Nat) (hk : i < 41) (hs : qSt a i < 3) (hw : w = 2 ∨ w = 3 ∨ w = 4 ∨ w = 5 ∨ w = 6 ∨ w = 9) : Met lch yX1_share wsX1_share ({ frames := 1, cells := 0, slots := 0, locals := 21 }) (Pr D cA [.ref (F 0), .int (nI i), .int (nI w)] sz (wF cA F a c q) X0) (va_Qi (fun (r : Int32) (u : Unit) => r = shareA a w i) (fun _ _ => True) (fun q : Nat => sz ≤ q)) 0 0 (fun q : Nat => sz ≤ q) := by
  refine Met.ofW (cc := cX1_share) (maxL := 5) (ret := (some .int)) (by decide) rfl ?_
  intro pg ev s mi args below meth cd s₁ B hml hv
  obtain ⟨hav, hsz, hP, hE, hD, hXs⟩ := hv
  have hx := B.exec
  have hb := B.bytes
  have hr := B.returns
  have hts := atoms_spec (ws := wsX1_share) B.pre
  have hown : s.vm.findClass RX1 = some mi.cls := findClass_of_methodNamed B.named
  have hlocks := B.notSynchronized
  clear B
  subst hav
  subst hsz
  have hA : ∀ q : Nat, s.heap.size ≤ q → (fun q : Nat => s.heap.size ≤ q) q := fun _ h => h
  have hS : va_S (fun q : Nat => s.heap.size ≤ q) s.heap s.heap [] := va_S.rf
  obtain ⟨QQ, hQQ⟩ : ∃ qq9, qq9 = MQ below (va_Qi (fun (r : Int32) (u : Unit) => r = shareA a w i) (fun _ _ => True) (fun q : Nat => s.heap.size ≤ q)) ([.ref (F 0), .int (nI i), .int (nI w)] : List Value).toArray s 0 0 (fun q : Nat => s.heap.size ≤ q) := ⟨_, rfl⟩
  rw [← hQQ]
  have hl := lv_entry ([.ref (F 0), .int (nI i), .int (nI w)]) (n := 5) (Nat.le_of_ble_eq_true rfl)
  rw [lg_entry_eq]
  generalize (lg_sl ([.ref (F 0), .int (nI i), .int (nI w)]) ++ List.replicate (5 - (lg_sl ([.ref (F 0), .int (nI i), .int (nI w)])).length) Slot.unset).toArray = ls at hl ⊢
  have hl : lv_has ls 5 [(0, .ref (F 0)), (1, .int (nI i)), (2, .int (nI w))] := hl
  have kf38 := hts (.fieldLink RX1 38 "LanternWeirs$Fleet" "states" "LLanternWeirs$Row;") (by decide +kernel)
  have inX1 : ∀ w ∈ u_ws RX1 TX1 13, w ∈ wsX1_share := by decide +kernel
  have kf35 := hts (.fieldLink RX1 35 "LanternWeirs$Fleet" "burning" "LLanternWeirs$Row;") (by decide +kernel)
  have kf20 := hts (.fieldLink RX1 20 "LanternWeirs$Fleet" "wishes" "LLanternWeirs$Row;") (by decide +kernel)
  obtain ⟨H, locs, hP, hS, hgo⟩ : ∃ H locs, va_P D vwCl (wF cA F a c q) H ∧ va_S (fun q : Nat => s.heap.size ≤ q) s.heap H locs ∧ (H = s.heap ∧ locs = []) := ⟨_, _, hP, hS, rfl, rfl⟩
  obtain ⟨hg1, hg2⟩ := hgo
  have hgoal : W pg lch ev (headSpec wsX1_share ({ frames := 1, cells := 0, slots := 0, locals := 21 })).room s mi ([.ref (F 0), .int (nI i), .int (nI w)] : List Value).toArray below meth cd H locs 0 0 QQ (F0 mi 0 ls []) := by
    refine lv_aload_n hx hb dX1_share_0 rfl (lv_at hl 0 rfl) ?_
    refine va_get (D := D) (ci := 1) (v := .ref (F 8)) (C := RX1) (T := TX1) (N := 13) hx hb hts inX1 hown hE.1 hP 0 rfl rfl 7 (by decide) kf38 (fun _ h9 => h9) rfl dX1_share_1 ?_
    refine lv_iload_n hx hb dX1_share_4 rfl (lv_at hl 1 rfl) ?_
    refine pVi (As := [.int (nI i)]) (rest := []) (wc := (wR cA (F 8) (F 19) 41 (fun z9 => nI (qSt a z9)))) ⟨hx, hb, hml, hown, hts⟩ (K_X2_getk lch D cA (F 8) (F 19) 41 (fun z9 => nI (qSt a z9)) i (nI (qSt a i)) H.size (by omega) (Nat.le_of_ble_eq_true rfl) (rfl)) (cwV 1 hts gX1_share_X2_get rfl rfl rfl (by decide +kernel) ⟨Nat.le_of_ble_eq_true rfl, Nat.le_of_ble_eq_true rfl⟩) hE hP hD hS hA [8, 19] rfl rfl X0.blind (fun _ _ _ => trivial) 8 2 rfl rfl rfl hl.1 rfl rfl (Nat.le_of_ble_eq_true rfl) dX1_share_5 ⟨Nat.zero_le _, Nat.zero_le _⟩ (fun r_1 u_2 H locs h_3 hP hS => ?_)
    subst h_3
    refine lv_istore_n (lv' := [(3, .int (nI (qSt a i))), (0, .ref (F 0)), (1, .int (nI i)), (2, .int (nI w))]) hx hb dX1_share_8 rfl hl (by decide) rfl (fun ls hl => ?_)
    refine lv_aload_n hx hb dX1_share_9 rfl (lv_at hl 1 rfl) ?_
    refine va_get (D := D) (ci := 1) (v := .ref (F 7)) (C := RX1) (T := TX1) (N := 13) hx hb hts inX1 hown hE.1 hP 0 rfl rfl 6 (by decide) kf35 (fun _ h9 => h9) rfl dX1_share_10 ?_
    refine lv_iload_n hx hb dX1_share_13 rfl (lv_at hl 2 rfl) ?_
    refine pVi (As := [.int (nI i)]) (rest := []) (wc := (wR cA (F 7) (F 18) 41 (fun z9 => bi (qBu a z9)))) ⟨hx, hb, hml, hown, hts⟩ (K_X2_getk lch D cA (F 7) (F 18) 41 (fun z9 => bi (qBu a z9)) i (bi (qBu a i)) H.size (by omega) (Nat.le_of_ble_eq_true rfl) (rfl)) (cwV 1 hts gX1_share_X2_get rfl rfl rfl (by decide +kernel) ⟨Nat.le_of_ble_eq_true rfl, Nat.le_of_ble_eq_true rfl⟩) hE hP hD hS hA [7, 18] rfl rfl X0.blind (fun _ _ _ => trivial) 7 2 rfl rfl rfl hl.1 rfl rfl (Nat.le_of_ble_eq_true rfl) dX1_share_14 ⟨Nat.zero_le _, Nat.zero_le _⟩ (fun r_4 u_5 H locs h_6 hP hS => ?_)
    subst h_6
    refine lv_istore (lv' := [(4, .int (bi (qBu a i))), (3, .int (nI (qSt a i))), (0, .ref (F 0)), (1, .int (nI i)), (2, .int (nI w))]) hx hb dX1_share_17 hl (by decide) rfl (fun ls hl => ?_)
    refine lv_iload_n hx hb dX1_share_19 rfl (lv_at hl 4 rfl) ?_
    obtain rfl | rfl | rfl | rfl | rfl | rfl := hw
    · skip
      refine lv_tableIn (tgt := 56) (off := 36) hx hb dX1_share_20 (by decide) (by decide) (by decide) (by decide) ?_
      refine lv_iload_n hx hb dX1_share_56 rfl (lv_at hl 1 rfl) ?_
      refine lv_if_ne (tgt := 64) hx hb dX1_share_57 (by decide) (fun c57 => ?_) (fun c57 => ?_)
      · skip
        have c57 := (not_congr (nI_eq (a := qSt a i) (b := 0) (by omega) (by omega))).mp c57
        refine lv_iconst (v := 0) hx hb dX1_share_64 (by decide) ?_
        rw [hQQ]
        exact W.iret (v := 0) hx hb hr (fun t ht hW => ⟨⟨0, (), rfl, by simp [shareA, c57], trivial⟩, hS.F ht⟩) hS.2.2 dX1_share_65
      · skip
        have c57 := (nI_eq (a := qSt a i) (b := 0) (by omega) (by omega)).mp c57
        refine lv_iconst (v := 1) hx hb dX1_share_60 (by decide) ?_
        refine lv_goto (tgt := 65) hx hb dX1_share_61 (by decide) ?_
        rw [hQQ]
        exact W.iret (v := 1) hx hb hr (fun t ht hW => ⟨⟨1, (), rfl, by simp [shareA, c57], trivial⟩, hS.F ht⟩) hS.2.2 dX1_share_65
    · skip
      refine lv_tableIn (tgt := 66) (off := 46) hx hb dX1_share_20 (by decide) (by decide) (by decide) (by decide) ?_
      refine lv_iload_n hx hb dX1_share_66 rfl (lv_at hl 1 rfl) ?_
      refine lv_iconst (v := 1) hx hb dX1_share_67 (by decide) ?_
      refine lv_icmp_ne (tgt := 75) hx hb dX1_share_68 (by decide) (fun c68 => ?_) (fun c68 => ?_)
      · skip
        have c68 := (not_congr (nI_eq (a := qSt a i) (b := 1) (by omega) (by omega))).mp c68
        refine lv_iconst (v := 0) hx hb dX1_share_75 (by decide) ?_
        rw [hQQ]
        exact W.iret (v := 0) hx hb hr (fun t ht hW => ⟨⟨0, (), rfl, by simp [shareA, c68], trivial⟩, hS.F ht⟩) hS.2.2 dX1_share_76
      · skip
        have c68 := (nI_eq (a := qSt a i) (b := 1) (by omega) (by omega)).mp c68
        refine lv_iconst (v := 1) hx hb dX1_share_71 (by decide) ?_
        refine lv_goto (tgt := 76) hx hb dX1_share_72 (by decide) ?_
        rw [hQQ]
        exact W.iret (v := 1) hx hb hr (fun t ht hW => ⟨⟨1, (), rfl, by simp [shareA, c68], trivial⟩, hS.F ht⟩) hS.2.2 dX1_share_76
    · skip
      refine lv_tableIn (tgt := 77) (off := 57) hx hb dX1_share_20 (by decide) (by decide) (by decide) (by decide) ?_
      refine lv_iload_n hx hb dX1_share_77 rfl (lv_at hl 1 rfl) ?_
      refine lv_iconst (v := 2) hx hb dX1_share_78 (by decide) ?_
      refine lv_icmp_ne (tgt := 86) hx hb dX1_share_79 (by decide) (fun c79 => ?_) (fun c79 => ?_)
      · skip
        have c79 := (not_congr (nI_eq (a := qSt a i) (b := 2) (by omega) (by omega))).mp c79
        refine lv_iconst (v := 0) hx hb dX1_share_86 (by decide) ?_
        rw [hQQ]
        exact W.iret (v := 0) hx hb hr (fun t ht hW => ⟨⟨0, (), rfl, by simp [shareA, c79], trivial⟩, hS.F ht⟩) hS.2.2 dX1_share_87
      · skip
        have c79 := (nI_eq (a := qSt a i) (b := 2) (by omega) (by omega)).mp c79
        refine lv_iconst (v := 1) hx hb dX1_share_82 (by decide) ?_
        refine lv_goto (tgt := 87) hx hb dX1_share_83 (by decide) ?_
        rw [hQQ]
        exact W.iret (v := 1) hx hb hr (fun t ht hW => ⟨⟨1, (), rfl, by simp [shareA, c79], trivial⟩, hS.F ht⟩) hS.2.2 dX1_share_87
    · skip
      refine lv_tableIn (tgt := 88) (off := 68) hx hb dX1_share_20 (by decide) (by decide) (by decide) (by decide) ?_
      refine lv_iload_n hx hb dX1_share_88 rfl (lv_at hl 1 rfl) ?_
      refine lv_if_ne (tgt := 97) hx hb dX1_share_89 (by decide) (fun c89 => ?_) (fun c89 => ?_)
      · skip
        have c89 := (not_congr (nI_eq (a := qSt a i) (b := 0) (by omega) (by omega))).mp c89
        refine lv_iconst (v := 0) hx hb dX1_share_97 (by decide) ?_
        rw [hQQ]
        exact W.iret (v := 0) hx hb hr (fun t ht hW => ⟨⟨0, (), rfl, by simp [shareA, c89], trivial⟩, hS.F ht⟩) hS.2.2 dX1_share_98
      · skip
        have c89 := (nI_eq (a := qSt a i) (b := 0) (by omega) (by omega)).mp c89
        refine lv_iload hx hb dX1_share_92 (lv_at hl 0 rfl) ?_
        refine lv_goto (tgt := 98) hx hb dX1_share_94 (by decide) ?_
        rw [hQQ]
        exact W.iret (v := bi (qBu a i)) hx hb hr (fun t ht hW => ⟨⟨bi (qBu a i), (), rfl, by simp [shareA, c89], trivial⟩, hS.F ht⟩) hS.2.2 dX1_share_98
    · skip
      refine lv_tableIn (tgt := 99) (off := 79) hx hb dX1_share_20 (by decide) (by decide) (by decide) (by decide) ?_
      refine lv_iload_n hx hb dX1_share_99 rfl (lv_at hl 1 rfl) ?_
      refine lv_iconst (v := 1) hx hb dX1_share_100 (by decide) ?_
      refine lv_icmp_ne (tgt := 109) hx hb dX1_share_101 (by decide) (fun c101 => ?_) (fun c101 => ?_)
      · skip
        have c101 := (not_congr (nI_eq (a := qSt a i) (b := 1) (by omega) (by omega))).mp c101
        refine lv_iconst (v := 0) hx hb dX1_share_109 (by decide) ?_
        rw [hQQ]
        exact W.iret (v := 0) hx hb hr (fun t ht hW => ⟨⟨0, (), rfl, by simp [shareA, c101], trivial⟩, hS.F ht⟩) hS.2.2 dX1_share_110
      · skip
        have c101 := (nI_eq (a := qSt a i) (b := 1) (by omega) (by omega)).mp c101
        refine lv_iload hx hb dX1_share_104 (lv_at hl 0 rfl) ?_
        refine lv_goto (tgt := 110) hx hb dX1_share_106 (by decide) ?_
        rw [hQQ]
        exact W.iret (v := bi (qBu a i)) hx hb hr (fun t ht hW => ⟨⟨bi (qBu a i), (), rfl, by simp [shareA, c101], trivial⟩, hS.F ht⟩) hS.2.2 dX1_share_110
    · skip
      refine lv_tableOut (tgt := 111) hx hb dX1_share_20 (Or.inr (by decide)) (by decide) ?_
      refine lv_iload_n hx hb dX1_share_111 rfl (lv_at hl 1 rfl) ?_
      refine lv_iconst (v := 1) hx hb dX1_share_112 (by decide) ?_
      refine lv_icmp_ne (tgt := 130) hx hb dX1_share_113 (by decide) (fun c113 => ?_) (fun c113 => ?_)
      · skip
        have c113 := (not_congr (nI_eq (a := qSt a i) (b := 1) (by omega) (by omega))).mp c113
        refine lv_iconst (v := 0) hx hb dX1_share_130 (by decide) ?_
        rw [hQQ]
        exact W.iret (v := 0) hx hb hr (fun t ht hW => ⟨⟨0, (), rfl, by simp [shareA, c113], trivial⟩, hS.F ht⟩) hS.2.2 dX1_share_131
      · skip
        have c113 := (nI_eq (a := qSt a i) (b := 1) (by omega) (by omega)).mp c113
        refine lv_iload hx hb dX1_share_116 (lv_at hl 0 rfl) ?_
        refine lv_aload_n hx hb dX1_share_118 rfl (lv_at hl 2 rfl) ?_
        refine va_get (D := D) (ci := 1) (v := .ref (F 2)) (C := RX1) (T := TX1) (N := 13) hx hb hts inX1 hown hE.1 hP 0 rfl rfl 1 (by decide) kf20 (fun _ h9 => h9) rfl dX1_share_119 ?_
        refine lv_iload_n hx hb dX1_share_122 rfl (lv_at hl 3 rfl) ?_
        refine pVi (As := [.int (nI i)]) (rest := [.int (bi (qBu a i))]) (wc := (wR cA (F 2) (F 13) 41 (qWi a))) ⟨hx, hb, hml, hown, hts⟩ (K_X2_getk lch D cA (F 2) (F 13) 41 (qWi a) i (qWi a i) H.size (by omega) (Nat.le_of_ble_eq_true rfl) (rfl)) (cwV 1 hts gX1_share_X2_get rfl rfl rfl (by decide +kernel) ⟨Nat.le_of_ble_eq_true rfl, Nat.le_of_ble_eq_true rfl⟩) hE hP hD hS hA [2, 13] rfl rfl X0.blind (fun _ _ _ => trivial) 2 2 rfl rfl rfl hl.1 rfl rfl (Nat.le_of_ble_eq_true rfl) dX1_share_123 ⟨Nat.zero_le _, Nat.zero_le _⟩ (fun r_7 u_8 H locs h_9 hP hS => ?_)
        subst h_9
        refine lv_imul hx hb dX1_share_126 ?_
        refine top_i (y := bi (qBu a i) * qWi a i) (rfl) ?_
        refine lv_goto (tgt := 131) hx hb dX1_share_127 (by decide) ?_
        rw [hQQ]
        exact W.iret (v := bi (qBu a i) * qWi a i) hx hb hr (fun t ht hW => ⟨⟨bi (qBu a i) * qWi a i, (), rfl, by simp [shareA, c113], trivial⟩, hS.F ht⟩) hS.2.2 dX1_share_131
  rw [hg1, hg2] at hgoal
  exact hgoal

set_option maxHeartbeats 4000000 in
set_option maxRecDepth 100000 in
/-- tally -/
theorem K_X1_tally (lch : Launch) (D : va_G) (cA : ClassId) (F : Nat → Nat) (a : FSt) (c : Nat → Int32) (q : Nat → Int32) (w : Nat) (sz : Nat) (hw1 : WFa a) (hw : w = 2 ∨ w = 3 ∨ w = 4 ∨ w = 5 ∨ w = 6 ∨ w = 9) : Met lch yX1_tally wsX1_tally ({ frames := 2, cells := 0, slots := 0, locals := 45 }) (Pr D cA [.ref (F 0), .int (nI w)] sz (wF cA F a c q) X0) (va_Qi (fun (r : Int32) (u : Unit) => r = tallyA a w) (fun _ _ => True) (fun q : Nat => sz ≤ q)) 0 0 (fun q : Nat => sz ≤ q) := by
  refine Met.ofW (cc := cX1_tally) (maxL := 4) (ret := (some .int)) (by decide) rfl ?_
  intro pg ev s mi args below meth cd s₁ B hml hv
  obtain ⟨hav, hsz, hP, hE, hD, hXs⟩ := hv
  have hx := B.exec
  have hb := B.bytes
  have hr := B.returns
  have hts := atoms_spec (ws := wsX1_tally) B.pre
  have hown : s.vm.findClass RX1 = some mi.cls := findClass_of_methodNamed B.named
  have hlocks := B.notSynchronized
  clear B
  subst hav
  subst hsz
  have hA : ∀ q : Nat, s.heap.size ≤ q → (fun q : Nat => s.heap.size ≤ q) q := fun _ h => h
  have hS : va_S (fun q : Nat => s.heap.size ≤ q) s.heap s.heap [] := va_S.rf
  obtain ⟨QQ, hQQ⟩ : ∃ qq9, qq9 = MQ below (va_Qi (fun (r : Int32) (u : Unit) => r = tallyA a w) (fun _ _ => True) (fun q : Nat => s.heap.size ≤ q)) ([.ref (F 0), .int (nI w)] : List Value).toArray s 0 0 (fun q : Nat => s.heap.size ≤ q) := ⟨_, rfl⟩
  rw [← hQQ]
  have hl := lv_entry ([.ref (F 0), .int (nI w)]) (n := 4) (Nat.le_of_ble_eq_true rfl)
  rw [lg_entry_eq]
  generalize (lg_sl ([.ref (F 0), .int (nI w)]) ++ List.replicate (4 - (lg_sl ([.ref (F 0), .int (nI w)])).length) Slot.unset).toArray = ls at hl ⊢
  have hl : lv_has ls 4 [(0, .ref (F 0)), (1, .int (nI w))] := hl
  have kf54 := hts (.fieldLink RX1 54 "LanternWeirs$Fleet" "size" "I") (by decide +kernel)
  have inX1 : ∀ w ∈ u_ws RX1 TX1 13, w ∈ wsX1_tally := by decide +kernel
  obtain ⟨H, locs, hP, hS, hgo⟩ : ∃ H locs, va_P D vwCl (wF cA F a c q) H ∧ va_S (fun q : Nat => s.heap.size ≤ q) s.heap H locs ∧ (H = s.heap ∧ locs = []) := ⟨_, _, hP, hS, rfl, rfl⟩
  obtain ⟨hg1, hg2⟩ := hgo
  have hgoal : W pg lch ev (headSpec wsX1_tally ({ frames := 2, cells := 0, slots := 0, locals := 45 })).room s mi ([.ref (F 0), .int (nI w)] : List Value).toArray below meth cd H locs 0 0 QQ (F0 mi 0 ls []) := by
    refine lv_iconst (v := 0) hx hb dX1_tally_0 (by decide) ?_
    refine lv_istore_n (lv' := [(2, .int 0), (0, .ref (F 0)), (1, .int (nI w))]) hx hb dX1_tally_1 rfl hl (by decide) rfl (fun ls hl => ?_)
    refine lv_iconst (v := 0) hx hb dX1_tally_2 (by decide) ?_
    refine lv_istore_n (lv' := [(3, .int 0), (2, .int 0), (0, .ref (F 0)), (1, .int (nI w))]) hx hb dX1_tally_3 rfl hl (by decide) rfl (fun ls hl => ?_)
    have L4 : ∀ (fu4 : Nat) (i : Nat), (i ≤ qN a) → qN a - i < fu4 → ∀ (H : Heap) (locs : List Loc), va_P D vwCl (wF cA F a c q) H → va_S (fun q : Nat => s.heap.size ≤ q) s.heap H locs → ∀ ls : Array Slot, lv_has ls 4 [(3, .int (nI i)), (2, .int (sumA a w i)), (0, .ref (F 0)), (1, .int (nI w))] → W pg lch ev (headSpec wsX1_tally ({ frames := 2, cells := 0, slots := 0, locals := 45 })).room s mi ([.ref (F 0), .int (nI w)] : List Value).toArray below meth cd H locs 0 0 QQ (F0 mi 4 ls []) := by
      intro fu4
      induction fu4 with
      | zero => intro i hi hms; exact absurd hms (Nat.not_lt_zero _)
      | succ fu4 ih4 =>
        intro i hi hms4 H locs hP hS ls hl
        have hn := hw1.1
        refine lv_iload_n hx hb dX1_tally_4 rfl (lv_at hl 0 rfl) ?_
        refine lv_aload_n hx hb dX1_tally_5 rfl (lv_at hl 2 rfl) ?_
        refine va_get (D := D) (ci := 1) (v := .int (nI (qN a))) (C := RX1) (T := TX1) (N := 13) hx hb hts inX1 hown hE.1 hP 0 rfl rfl 11 (by decide) kf54 (fun _ h9 => h9) rfl dX1_tally_6 ?_
        refine lv_icmp_ge (tgt := 27) hx hb dX1_tally_9 (by decide) (fun c9 => ?_) (fun c9 => ?_)
        · skip
          have c9 := (nI_leI (a := qN a) (b := i) (by omega) (by omega)).mp c9
          refine lv_iload_n hx hb dX1_tally_27 rfl (lv_at hl 1 rfl) ?_
          rw [hQQ]
          exact W.iret (v := sumA a w i) hx hb hr (fun t ht hW => ⟨⟨sumA a w i, (), rfl, by rw [show i = qN a by omega]; rfl, trivial⟩, hS.F ht⟩) hS.2.2 dX1_tally_28
        · skip
          have c9 := (not_congr (nI_leI (a := qN a) (b := i) (by omega) (by omega))).mp c9
          refine lv_iload_n hx hb dX1_tally_12 rfl (lv_at hl 1 rfl) ?_
          refine lv_aload_n hx hb dX1_tally_13 rfl (lv_at hl 2 rfl) ?_
          refine lv_iload_n hx hb dX1_tally_14 rfl (lv_at hl 0 rfl) ?_
          refine lv_iload_n hx hb dX1_tally_15 rfl (lv_at hl 3 rfl) ?_
          refine pVi (As := [.int (nI i), .int (nI w)]) (rest := [.int (sumA a w i)]) (wc := (wF cA F a c q)) ⟨hx, hb, hml, hown, hts⟩ (K_X1_share lch D cA F a c q i w H.size (by omega) ((hw1.2 i (by omega)).2.2.2.1) (hw)) (cwV 2 hts gX1_tally_X1_share rfl rfl rfl (by decide +kernel) ⟨Nat.le_of_ble_eq_true rfl, Nat.le_of_ble_eq_true rfl⟩) hE hP hD hS hA [0, 1, 2, 3, 4, 5, 6, 7, 8, 9, 10, 11, 12, 13, 14, 15, 16, 17, 18, 19, 20, 21, 22] rfl rfl X0.blind (fun _ _ _ => trivial) 0 1 rfl rfl rfl hl.1 rfl rfl (Nat.le_of_ble_eq_true rfl) dX1_tally_16 ⟨Nat.zero_le _, Nat.zero_le _⟩ (fun r_1 u_2 H locs h_3 hP hS => ?_)
          subst h_3
          refine lv_iadd hx hb dX1_tally_19 ?_
          refine lv_istore_n (lv' := [(2, .int ((sumA a w i) + (shareA a w i))), (3, .int (nI i)), (0, .ref (F 0)), (1, .int (nI w))]) hx hb dX1_tally_20 rfl hl (by decide) rfl (fun ls hl => ?_)
          refine lv_iinc (v := nI (i + 1)) (lv' := [(3, .int (nI (i + 1))), (2, .int ((sumA a w i) + (shareA a w i))), (0, .ref (F 0)), (1, .int (nI w))]) hx hb dX1_tally_21 hl (k := 1) rfl (nI_add i 1) (by decide) rfl (fun ls hl => ?_)
          refine lv_goto (tgt := 4) hx hb dX1_tally_24 (by decide) ?_
          exact ih4 (i + 1) (by omega) (by omega) H locs hP hS ls (lv_sub hl [0, 1, 2, 3] rfl)
    exact L4 (qN a + 1) 0 (Nat.zero_le _) (by omega) H locs hP hS ls (lv_sub hl [0, 1, 2, 3] rfl)
  rw [hg1, hg2] at hgoal
  exact hgoal

set_option maxHeartbeats 4000000 in
set_option maxRecDepth 100000 in
/-- floatingAt -/
theorem K_X1_floatingAt (lch : Launch) (D : va_G) (cA : ClassId) (F : Nat → Nat) (a : FSt) (c : Nat → Int32) (q : Nat → Int32) (l : Nat) (p : Nat) (sz : Nat) (hw1 : WFa a) (hcr : CRa a c) (h3 : l < 3) (h6 : p < 60) : Met lch yX1_floatingAt wsX1_floatingAt ({ frames := 1, cells := 0, slots := 0, locals := 22 }) (Pr D cA [.ref (F 0), .int (nI l), .int (nI p)] sz (wF cA F a c q) X0) (va_Qi (fun (r : Int32) (u : Unit) => r = nI (atA a l p 0)) (fun _ _ => True) (fun q : Nat => sz ≤ q)) 0 0 (fun q : Nat => sz ≤ q) := by
  refine Met.ofW (cc := cX1_floatingAt) (maxL := 5) (ret := (some .int)) (by decide) rfl ?_
  intro pg ev s mi args below meth cd s₁ B hml hv
  obtain ⟨hav, hsz, hP, hE, hD, hXs⟩ := hv
  have hx := B.exec
  have hb := B.bytes
  have hr := B.returns
  have hts := atoms_spec (ws := wsX1_floatingAt) B.pre
  have hown : s.vm.findClass RX1 = some mi.cls := findClass_of_methodNamed B.named
  have hlocks := B.notSynchronized
  clear B
  subst hav
  subst hsz
  have hA : ∀ q : Nat, s.heap.size ≤ q → (fun q : Nat => s.heap.size ≤ q) q := fun _ h => h
  have hS : va_S (fun q : Nat => s.heap.size ≤ q) s.heap s.heap [] := va_S.rf
  obtain ⟨QQ, hQQ⟩ : ∃ qq9, qq9 = MQ below (va_Qi (fun (r : Int32) (u : Unit) => r = nI (atA a l p 0)) (fun _ _ => True) (fun q : Nat => s.heap.size ≤ q)) ([.ref (F 0), .int (nI l), .int (nI p)] : List Value).toArray s 0 0 (fun q : Nat => s.heap.size ≤ q) := ⟨_, rfl⟩
  rw [← hQQ]
  have hl := lv_entry ([.ref (F 0), .int (nI l), .int (nI p)]) (n := 5) (Nat.le_of_ble_eq_true rfl)
  rw [lg_entry_eq]
  generalize (lg_sl ([.ref (F 0), .int (nI l), .int (nI p)]) ++ List.replicate (5 - (lg_sl ([.ref (F 0), .int (nI l), .int (nI p)])).length) Slot.unset).toArray = ls at hl ⊢
  have hl : lv_has ls 5 [(0, .ref (F 0)), (1, .int (nI l)), (2, .int (nI p))] := hl
  have kf44 := hts (.fieldLink RX1 44 "LanternWeirs$Fleet" "crowd" "LLanternWeirs$Row;") (by decide +kernel)
  have inX1 : ∀ w ∈ u_ws RX1 TX1 13, w ∈ wsX1_floatingAt := by decide +kernel
  obtain ⟨H, locs, hP, hS, hgo⟩ : ∃ H locs, va_P D vwCl (wF cA F a c q) H ∧ va_S (fun q : Nat => s.heap.size ≤ q) s.heap H locs ∧ (H = s.heap ∧ locs = []) := ⟨_, _, hP, hS, rfl, rfl⟩
  obtain ⟨hg1, hg2⟩ := hgo
  have hgoal : W pg lch ev (headSpec wsX1_floatingAt ({ frames := 1, cells := 0, slots := 0, locals := 22 })).room s mi ([.ref (F 0), .int (nI l), .int (nI p)] : List Value).toArray below meth cd H locs 0 0 QQ (F0 mi 0 ls []) := by
    refine lv_iconst (v := 0) hx hb dX1_floatingAt_0 (by decide) ?_
    refine lv_istore_n (lv' := [(3, .int 0), (0, .ref (F 0)), (1, .int (nI l)), (2, .int (nI p))]) hx hb dX1_floatingAt_1 rfl hl (by decide) rfl (fun ls hl => ?_)
    refine lv_iconst (v := 0) hx hb dX1_floatingAt_2 (by decide) ?_
    refine lv_istore (lv' := [(4, .int 0), (3, .int 0), (0, .ref (F 0)), (1, .int (nI l)), (2, .int (nI p))]) hx hb dX1_floatingAt_3 hl (by decide) rfl (fun ls hl => ?_)
    refine lv_iload hx hb dX1_floatingAt_5 (lv_at hl 0 rfl) ?_
    refine lv_iconst (v := 3) hx hb dX1_floatingAt_7 (by decide) ?_
    refine lv_icmp_ge (tgt := 34) hx hb dX1_floatingAt_8 (by decide) (fun c8 => ?_) (fun c8 => ?_)
    · skip
      exfalso; revert c8; decide
    · skip
      have c8 := (not_congr (nI_leI (a := 3) (b := 0) (by omega) (by omega))).mp c8
      refine lv_iload_n hx hb dX1_floatingAt_11 rfl (lv_at hl 1 rfl) ?_
      refine lv_aload_n hx hb dX1_floatingAt_12 rfl (lv_at hl 2 rfl) ?_
      refine va_get (D := D) (ci := 1) (v := .ref (F 10)) (C := RX1) (T := TX1) (N := 13) hx hb hts inX1 hown hE.1 hP 0 rfl rfl 9 (by decide) kf44 (fun _ h9 => h9) rfl dX1_floatingAt_13 ?_
      refine lv_iload_n hx hb dX1_floatingAt_16 rfl (lv_at hl 3 rfl) ?_
      refine lv_iload_n hx hb dX1_floatingAt_17 rfl (lv_at hl 4 rfl) ?_
      refine lv_iload hx hb dX1_floatingAt_18 (lv_at hl 0 rfl) ?_
      refine pSi (As := [.int (nI l), .int (nI p), .int 0]) (rest := [.ref (F 10), .int 0]) (wc := ([] : va_W)) ⟨hx, hb, hml, hown, hts⟩ (K_X1_cell lch D cA l p 0 H.size (by first | assumption | omega)) (cwS 3 hts gX1_floatingAt_X1_cell rfl rfl rfl (by decide +kernel) ⟨Nat.le_of_ble_eq_true rfl, Nat.le_of_ble_eq_true rfl⟩) hE hP hD hS hA [] rfl rfl X0.blind (fun _ _ _ => trivial) hl.1 rfl rfl (Nat.le_of_ble_eq_true rfl) dX1_floatingAt_20 ⟨Nat.zero_le _, Nat.zero_le _⟩ (fun r_1 u_2 H locs h_3 hP hS => ?_)
      subst h_3
      refine pVi (As := [.int (ck l p 0)]) (rest := [.int 0]) (wc := (wR cA (F 10) (F 21) 540 c)) ⟨hx, hb, hml, hown, hts⟩ (K_X2_get lch D cA (F 10) (F 21) 540 c (ck l p 0) H.size (Nat.le_of_ble_eq_true rfl)) (cwV 1 hts gX1_floatingAt_X2_get rfl rfl rfl (by decide +kernel) ⟨Nat.le_of_ble_eq_true rfl, Nat.le_of_ble_eq_true rfl⟩) hE hP hD hS hA [10, 21] rfl rfl X0.blind (fun _ _ _ => trivial) 10 2 rfl rfl rfl hl.1 rfl rfl (Nat.le_of_ble_eq_true rfl) dX1_floatingAt_23 ⟨Nat.zero_le _, Nat.zero_le _⟩ (fun r_4 u_5 H locs h_6 hP hS => ?_)
      subst h_6
      refine lv_iadd hx hb dX1_floatingAt_26 ?_
      refine lv_istore_n (lv' := [(3, .int (0 + (rg 540 c (ck l p 0)))), (4, .int 0), (0, .ref (F 0)), (1, .int (nI l)), (2, .int (nI p))]) hx hb dX1_floatingAt_27 rfl hl (by decide) rfl (fun ls hl => ?_)
      refine lv_iinc (v := 1) (lv' := [(4, .int 1), (3, .int (0 + (rg 540 c (ck l p 0)))), (0, .ref (F 0)), (1, .int (nI l)), (2, .int (nI p))]) hx hb dX1_floatingAt_28 hl (k := 1) rfl (by decide) (by decide) rfl (fun ls hl => ?_)
      refine lv_goto (tgt := 5) hx hb dX1_floatingAt_31 (by decide) ?_
      refine lv_iload hx hb dX1_floatingAt_5 (lv_at hl 0 rfl) ?_
      refine lv_iconst (v := 3) hx hb dX1_floatingAt_7 (by decide) ?_
      refine lv_icmp_ge (tgt := 34) hx hb dX1_floatingAt_8 (by decide) (fun c8_1 => ?_) (fun c8_1 => ?_)
      · skip
        exfalso; revert c8_1; decide
      · skip
        have c8_1 := (not_congr (nI_leI (a := 3) (b := 1) (by omega) (by omega))).mp c8_1
        refine lv_iload_n hx hb dX1_floatingAt_11 rfl (lv_at hl 1 rfl) ?_
        refine lv_aload_n hx hb dX1_floatingAt_12 rfl (lv_at hl 2 rfl) ?_
        refine va_get (D := D) (ci := 1) (v := .ref (F 10)) (C := RX1) (T := TX1) (N := 13) hx hb hts inX1 hown hE.1 hP 0 rfl rfl 9 (by decide) kf44 (fun _ h9 => h9) rfl dX1_floatingAt_13 ?_
        refine lv_iload_n hx hb dX1_floatingAt_16 rfl (lv_at hl 3 rfl) ?_
        refine lv_iload_n hx hb dX1_floatingAt_17 rfl (lv_at hl 4 rfl) ?_
        refine lv_iload hx hb dX1_floatingAt_18 (lv_at hl 0 rfl) ?_
        refine pSi (As := [.int (nI l), .int (nI p), .int 1]) (rest := [.ref (F 10), .int (0 + (rg 540 c (ck l p 0)))]) (wc := ([] : va_W)) ⟨hx, hb, hml, hown, hts⟩ (K_X1_cell lch D cA l p 1 H.size (by first | assumption | omega)) (cwS 3 hts gX1_floatingAt_X1_cell rfl rfl rfl (by decide +kernel) ⟨Nat.le_of_ble_eq_true rfl, Nat.le_of_ble_eq_true rfl⟩) hE hP hD hS hA [] rfl rfl X0.blind (fun _ _ _ => trivial) hl.1 rfl rfl (Nat.le_of_ble_eq_true rfl) dX1_floatingAt_20 ⟨Nat.zero_le _, Nat.zero_le _⟩ (fun r_7 u_8 H locs h_9 hP hS => ?_)
        subst h_9
        refine pVi (As := [.int (ck l p 1)]) (rest := [.int (0 + (rg 540 c (ck l p 0)))]) (wc := (wR cA (F 10) (F 21) 540 c)) ⟨hx, hb, hml, hown, hts⟩ (K_X2_get lch D cA (F 10) (F 21) 540 c (ck l p 1) H.size (Nat.le_of_ble_eq_true rfl)) (cwV 1 hts gX1_floatingAt_X2_get rfl rfl rfl (by decide +kernel) ⟨Nat.le_of_ble_eq_true rfl, Nat.le_of_ble_eq_true rfl⟩) hE hP hD hS hA [10, 21] rfl rfl X0.blind (fun _ _ _ => trivial) 10 2 rfl rfl rfl hl.1 rfl rfl (Nat.le_of_ble_eq_true rfl) dX1_floatingAt_23 ⟨Nat.zero_le _, Nat.zero_le _⟩ (fun r_10 u_11 H locs h_12 hP hS => ?_)
        subst h_12
        refine lv_iadd hx hb dX1_floatingAt_26 ?_
        refine lv_istore_n (lv' := [(3, .int ((0 + (rg 540 c (ck l p 0))) + (rg 540 c (ck l p 1)))), (4, .int 1), (0, .ref (F 0)), (1, .int (nI l)), (2, .int (nI p))]) hx hb dX1_floatingAt_27 rfl hl (by decide) rfl (fun ls hl => ?_)
        refine lv_iinc (v := 2) (lv' := [(4, .int 2), (3, .int ((0 + (rg 540 c (ck l p 0))) + (rg 540 c (ck l p 1)))), (0, .ref (F 0)), (1, .int (nI l)), (2, .int (nI p))]) hx hb dX1_floatingAt_28 hl (k := 1) rfl (by decide) (by decide) rfl (fun ls hl => ?_)
        refine lv_goto (tgt := 5) hx hb dX1_floatingAt_31 (by decide) ?_
        refine lv_iload hx hb dX1_floatingAt_5 (lv_at hl 0 rfl) ?_
        refine lv_iconst (v := 3) hx hb dX1_floatingAt_7 (by decide) ?_
        refine lv_icmp_ge (tgt := 34) hx hb dX1_floatingAt_8 (by decide) (fun c8_2 => ?_) (fun c8_2 => ?_)
        · skip
          exfalso; revert c8_2; decide
        · skip
          have c8_2 := (not_congr (nI_leI (a := 3) (b := 2) (by omega) (by omega))).mp c8_2
          refine lv_iload_n hx hb dX1_floatingAt_11 rfl (lv_at hl 1 rfl) ?_
          refine lv_aload_n hx hb dX1_floatingAt_12 rfl (lv_at hl 2 rfl) ?_
          refine va_get (D := D) (ci := 1) (v := .ref (F 10)) (C := RX1) (T := TX1) (N := 13) hx hb hts inX1 hown hE.1 hP 0 rfl rfl 9 (by decide) kf44 (fun _ h9 => h9) rfl dX1_floatingAt_13 ?_
          refine lv_iload_n hx hb dX1_floatingAt_16 rfl (lv_at hl 3 rfl) ?_
          refine lv_iload_n hx hb dX1_floatingAt_17 rfl (lv_at hl 4 rfl) ?_
          refine lv_iload hx hb dX1_floatingAt_18 (lv_at hl 0 rfl) ?_
          refine pSi (As := [.int (nI l), .int (nI p), .int 2]) (rest := [.ref (F 10), .int ((0 + (rg 540 c (ck l p 0))) + (rg 540 c (ck l p 1)))]) (wc := ([] : va_W)) ⟨hx, hb, hml, hown, hts⟩ (K_X1_cell lch D cA l p 2 H.size (by first | assumption | omega)) (cwS 3 hts gX1_floatingAt_X1_cell rfl rfl rfl (by decide +kernel) ⟨Nat.le_of_ble_eq_true rfl, Nat.le_of_ble_eq_true rfl⟩) hE hP hD hS hA [] rfl rfl X0.blind (fun _ _ _ => trivial) hl.1 rfl rfl (Nat.le_of_ble_eq_true rfl) dX1_floatingAt_20 ⟨Nat.zero_le _, Nat.zero_le _⟩ (fun r_13 u_14 H locs h_15 hP hS => ?_)
          subst h_15
          refine pVi (As := [.int (ck l p 2)]) (rest := [.int ((0 + (rg 540 c (ck l p 0))) + (rg 540 c (ck l p 1)))]) (wc := (wR cA (F 10) (F 21) 540 c)) ⟨hx, hb, hml, hown, hts⟩ (K_X2_get lch D cA (F 10) (F 21) 540 c (ck l p 2) H.size (Nat.le_of_ble_eq_true rfl)) (cwV 1 hts gX1_floatingAt_X2_get rfl rfl rfl (by decide +kernel) ⟨Nat.le_of_ble_eq_true rfl, Nat.le_of_ble_eq_true rfl⟩) hE hP hD hS hA [10, 21] rfl rfl X0.blind (fun _ _ _ => trivial) 10 2 rfl rfl rfl hl.1 rfl rfl (Nat.le_of_ble_eq_true rfl) dX1_floatingAt_23 ⟨Nat.zero_le _, Nat.zero_le _⟩ (fun r_16 u_17 H locs h_18 hP hS => ?_)
          subst h_18
          refine lv_iadd hx hb dX1_floatingAt_26 ?_
          refine lv_istore_n (lv' := [(3, .int (((0 + (rg 540 c (ck l p 0))) + (rg 540 c (ck l p 1))) + (rg 540 c (ck l p 2)))), (4, .int 2), (0, .ref (F 0)), (1, .int (nI l)), (2, .int (nI p))]) hx hb dX1_floatingAt_27 rfl hl (by decide) rfl (fun ls hl => ?_)
          refine lv_iinc (v := 3) (lv' := [(4, .int 3), (3, .int (((0 + (rg 540 c (ck l p 0))) + (rg 540 c (ck l p 1))) + (rg 540 c (ck l p 2)))), (0, .ref (F 0)), (1, .int (nI l)), (2, .int (nI p))]) hx hb dX1_floatingAt_28 hl (k := 1) rfl (by decide) (by decide) rfl (fun ls hl => ?_)
          refine lv_goto (tgt := 5) hx hb dX1_floatingAt_31 (by decide) ?_
          refine lv_iload hx hb dX1_floatingAt_5 (lv_at hl 0 rfl) ?_
          refine lv_iconst (v := 3) hx hb dX1_floatingAt_7 (by decide) ?_
          refine lv_icmp_ge (tgt := 34) hx hb dX1_floatingAt_8 (by decide) (fun c8_3 => ?_) (fun c8_3 => ?_)
          · skip
            have c8_3 := (nI_leI (a := 3) (b := 3) (by omega) (by omega)).mp c8_3
            refine lv_iload_n hx hb dX1_floatingAt_34 rfl (lv_at hl 1 rfl) ?_
            rw [hQQ]
            exact W.iret (v := ((0 + (rg 540 c (ck l p 0))) + (rg 540 c (ck l p 1))) + (rg 540 c (ck l p 2))) hx hb hr (fun t ht hW => ⟨⟨((0 + (rg 540 c (ck l p 0))) + (rg 540 c (ck l p 1))) + (rg 540 c (ck l p 2)), (), rfl, float_at hw1 hcr h3 h6, trivial⟩, hS.F ht⟩) hS.2.2 dX1_floatingAt_35
          · skip
            exfalso; revert c8_3; decide
  rw [hg1, hg2] at hgoal
  exact hgoal

set_option maxHeartbeats 4000000 in
set_option maxRecDepth 100000 in
/-- caughtAt -/
theorem K_X1_caughtAt (lch : Launch) (D : va_G) (cA : ClassId) (F : Nat → Nat) (a : FSt) (c : Nat → Int32) (q : Nat → Int32) (l : Nat) (p : Nat) (sz : Nat) (hw1 : WFa a) (h3 : l < 3) (h6 : p < 60) : Met lch yX1_caughtAt wsX1_caughtAt ({ frames := 1, cells := 0, slots := 0, locals := 21 }) (Pr D cA [.ref (F 0), .int (nI l), .int (nI p)] sz (wF cA F a c q) X0) (va_Qi (fun (r : Int32) (u : Unit) => r = nI (atA a l p 1)) (fun _ _ => True) (fun q : Nat => sz ≤ q)) 0 0 (fun q : Nat => sz ≤ q) := by
  refine Met.ofW (cc := cX1_caughtAt) (maxL := 5) (ret := (some .int)) (by decide) rfl ?_
  intro pg ev s mi args below meth cd s₁ B hml hv
  obtain ⟨hav, hsz, hP, hE, hD, hXs⟩ := hv
  have hx := B.exec
  have hb := B.bytes
  have hr := B.returns
  have hts := atoms_spec (ws := wsX1_caughtAt) B.pre
  have hown : s.vm.findClass RX1 = some mi.cls := findClass_of_methodNamed B.named
  have hlocks := B.notSynchronized
  clear B
  subst hav
  subst hsz
  have hA : ∀ q : Nat, s.heap.size ≤ q → (fun q : Nat => s.heap.size ≤ q) q := fun _ h => h
  have hS : va_S (fun q : Nat => s.heap.size ≤ q) s.heap s.heap [] := va_S.rf
  obtain ⟨QQ, hQQ⟩ : ∃ qq9, qq9 = MQ below (va_Qi (fun (r : Int32) (u : Unit) => r = nI (atA a l p 1)) (fun _ _ => True) (fun q : Nat => s.heap.size ≤ q)) ([.ref (F 0), .int (nI l), .int (nI p)] : List Value).toArray s 0 0 (fun q : Nat => s.heap.size ≤ q) := ⟨_, rfl⟩
  rw [← hQQ]
  have hl := lv_entry ([.ref (F 0), .int (nI l), .int (nI p)]) (n := 5) (Nat.le_of_ble_eq_true rfl)
  rw [lg_entry_eq]
  generalize (lg_sl ([.ref (F 0), .int (nI l), .int (nI p)]) ++ List.replicate (5 - (lg_sl ([.ref (F 0), .int (nI l), .int (nI p)])).length) Slot.unset).toArray = ls at hl ⊢
  have hl : lv_has ls 5 [(0, .ref (F 0)), (1, .int (nI l)), (2, .int (nI p))] := hl
  have kf54 := hts (.fieldLink RX1 54 "LanternWeirs$Fleet" "size" "I") (by decide +kernel)
  have inX1 : ∀ w ∈ u_ws RX1 TX1 13, w ∈ wsX1_caughtAt := by decide +kernel
  have kf38 := hts (.fieldLink RX1 38 "LanternWeirs$Fleet" "states" "LLanternWeirs$Row;") (by decide +kernel)
  have kf23 := hts (.fieldLink RX1 23 "LanternWeirs$Fleet" "lanes" "LLanternWeirs$Row;") (by decide +kernel)
  have kf26 := hts (.fieldLink RX1 26 "LanternWeirs$Fleet" "places" "LLanternWeirs$Row;") (by decide +kernel)
  obtain ⟨H, locs, hP, hS, hgo⟩ : ∃ H locs, va_P D vwCl (wF cA F a c q) H ∧ va_S (fun q : Nat => s.heap.size ≤ q) s.heap H locs ∧ (H = s.heap ∧ locs = []) := ⟨_, _, hP, hS, rfl, rfl⟩
  obtain ⟨hg1, hg2⟩ := hgo
  have hgoal : W pg lch ev (headSpec wsX1_caughtAt ({ frames := 1, cells := 0, slots := 0, locals := 21 })).room s mi ([.ref (F 0), .int (nI l), .int (nI p)] : List Value).toArray below meth cd H locs 0 0 QQ (F0 mi 0 ls []) := by
    refine lv_iconst (v := 0) hx hb dX1_caughtAt_0 (by decide) ?_
    refine lv_istore_n (lv' := [(3, .int 0), (0, .ref (F 0)), (1, .int (nI l)), (2, .int (nI p))]) hx hb dX1_caughtAt_1 rfl hl (by decide) rfl (fun ls hl => ?_)
    refine lv_iconst (v := 0) hx hb dX1_caughtAt_2 (by decide) ?_
    refine lv_istore (lv' := [(4, .int 0), (3, .int 0), (0, .ref (F 0)), (1, .int (nI l)), (2, .int (nI p))]) hx hb dX1_caughtAt_3 hl (by decide) rfl (fun ls hl => ?_)
    have L5 : ∀ (fu5 : Nat) (i : Nat), (i ≤ qN a) → qN a - i < fu5 → ∀ (H : Heap) (locs : List Loc), va_P D vwCl (wF cA F a c q) H → va_S (fun q : Nat => s.heap.size ≤ q) s.heap H locs → ∀ ls : Array Slot, lv_has ls 5 [(4, .int (nI i)), (3, .int (nI (cnt i (spotA a l p 1)))), (0, .ref (F 0)), (1, .int (nI l)), (2, .int (nI p))] → W pg lch ev (headSpec wsX1_caughtAt ({ frames := 1, cells := 0, slots := 0, locals := 21 })).room s mi ([.ref (F 0), .int (nI l), .int (nI p)] : List Value).toArray below meth cd H locs 0 0 QQ (F0 mi 5 ls []) := by
      intro fu5
      induction fu5 with
      | zero => intro i hi hms; exact absurd hms (Nat.not_lt_zero _)
      | succ fu5 ih5 =>
        intro i hi hms5 H locs hP hS ls hl
        have hn := hw1.1
        refine lv_iload hx hb dX1_caughtAt_5 (lv_at hl 0 rfl) ?_
        refine lv_aload_n hx hb dX1_caughtAt_7 rfl (lv_at hl 2 rfl) ?_
        refine va_get (D := D) (ci := 1) (v := .int (nI (qN a))) (C := RX1) (T := TX1) (N := 13) hx hb hts inX1 hown hE.1 hP 0 rfl rfl 11 (by decide) kf54 (fun _ h9 => h9) rfl dX1_caughtAt_8 ?_
        refine lv_icmp_ge (tgt := 62) hx hb dX1_caughtAt_11 (by decide) (fun c11 => ?_) (fun c11 => ?_)
        · skip
          have c11 := (nI_leI (a := qN a) (b := i) (by omega) (by omega)).mp c11
          refine lv_iload_n hx hb dX1_caughtAt_62 rfl (lv_at hl 1 rfl) ?_
          rw [hQQ]
          exact W.iret (v := nI (cnt i (spotA a l p 1))) hx hb hr (fun t ht hW => ⟨⟨nI (cnt i (spotA a l p 1)), (), rfl, by rw [show i = qN a by omega]; rfl, trivial⟩, hS.F ht⟩) hS.2.2 dX1_caughtAt_63
        · skip
          have c11 := (not_congr (nI_leI (a := qN a) (b := i) (by omega) (by omega))).mp c11
          obtain ⟨w1, w2, w3, w4, w5, w6, w7, w8⟩ := hw1.2 i (by omega)
          refine lv_aload_n hx hb dX1_caughtAt_14 rfl (lv_at hl 2 rfl) ?_
          refine va_get (D := D) (ci := 1) (v := .ref (F 8)) (C := RX1) (T := TX1) (N := 13) hx hb hts inX1 hown hE.1 hP 0 rfl rfl 7 (by decide) kf38 (fun _ h9 => h9) rfl dX1_caughtAt_15 ?_
          refine lv_iload hx hb dX1_caughtAt_18 (lv_at hl 0 rfl) ?_
          refine pVi (As := [.int (nI i)]) (rest := []) (wc := (wR cA (F 8) (F 19) 41 (fun z9 => nI (qSt a z9)))) ⟨hx, hb, hml, hown, hts⟩ (K_X2_getk lch D cA (F 8) (F 19) 41 (fun z9 => nI (qSt a z9)) i (nI (qSt a i)) H.size (by omega) (Nat.le_of_ble_eq_true rfl) (rfl)) (cwV 1 hts gX1_caughtAt_X2_get rfl rfl rfl (by decide +kernel) ⟨Nat.le_of_ble_eq_true rfl, Nat.le_of_ble_eq_true rfl⟩) hE hP hD hS hA [8, 19] rfl rfl X0.blind (fun _ _ _ => trivial) 8 2 rfl rfl rfl hl.1 rfl rfl (Nat.le_of_ble_eq_true rfl) dX1_caughtAt_20 ⟨Nat.zero_le _, Nat.zero_le _⟩ (fun r_1 u_2 H locs h_3 hP hS => ?_)
          subst h_3
          refine lv_iconst (v := 1) hx hb dX1_caughtAt_23 (by decide) ?_
          refine lv_icmp_ne (tgt := 56) hx hb dX1_caughtAt_24 (by decide) (fun c24 => ?_) (fun c24 => ?_)
          · skip
            have c24 := (not_congr (nI_eq (a := qSt a i) (b := 1) (by omega) (by omega))).mp c24
            refine lv_iinc (v := nI (i + 1)) (lv' := [(4, .int (nI (i + 1))), (3, .int (nI (cnt i (spotA a l p 1)))), (0, .ref (F 0)), (1, .int (nI l)), (2, .int (nI p))]) hx hb dX1_caughtAt_56 hl (k := 0) rfl (nI_add i 1) (by decide) rfl (fun ls hl => ?_)
            refine lv_goto (tgt := 5) hx hb dX1_caughtAt_59 (by decide) ?_
            have e9 : cnt (i + 1) (spotA a l p 1) = cnt i (spotA a l p 1) := by simp [cnt, spotA, c24]
            rw [← e9] at hl
            exact ih5 (i + 1) (by omega) (by omega) H locs hP hS ls (lv_sub hl [0, 1, 2, 3, 4] rfl)
          · skip
            have c24 := (nI_eq (a := qSt a i) (b := 1) (by omega) (by omega)).mp c24
            refine lv_aload_n hx hb dX1_caughtAt_27 rfl (lv_at hl 2 rfl) ?_
            refine va_get (D := D) (ci := 1) (v := .ref (F 3)) (C := RX1) (T := TX1) (N := 13) hx hb hts inX1 hown hE.1 hP 0 rfl rfl 2 (by decide) kf23 (fun _ h9 => h9) rfl dX1_caughtAt_28 ?_
            refine lv_iload hx hb dX1_caughtAt_31 (lv_at hl 0 rfl) ?_
            refine pVi (As := [.int (nI i)]) (rest := []) (wc := (wR cA (F 3) (F 14) 41 (fun z9 => nI (qLa a z9)))) ⟨hx, hb, hml, hown, hts⟩ (K_X2_getk lch D cA (F 3) (F 14) 41 (fun z9 => nI (qLa a z9)) i (nI (qLa a i)) H.size (by omega) (Nat.le_of_ble_eq_true rfl) (rfl)) (cwV 1 hts gX1_caughtAt_X2_get rfl rfl rfl (by decide +kernel) ⟨Nat.le_of_ble_eq_true rfl, Nat.le_of_ble_eq_true rfl⟩) hE hP hD hS hA [3, 14] rfl rfl X0.blind (fun _ _ _ => trivial) 3 2 rfl rfl rfl hl.1 rfl rfl (Nat.le_of_ble_eq_true rfl) dX1_caughtAt_33 ⟨Nat.zero_le _, Nat.zero_le _⟩ (fun r_4 u_5 H locs h_6 hP hS => ?_)
            subst h_6
            refine lv_iload_n hx hb dX1_caughtAt_36 rfl (lv_at hl 3 rfl) ?_
            refine lv_icmp_ne (tgt := 56) hx hb dX1_caughtAt_37 (by decide) (fun c37 => ?_) (fun c37 => ?_)
            · skip
              have c37 := (not_congr (nI_eq (a := qLa a i) (b := l) (by omega) (by omega))).mp c37
              refine lv_iinc (v := nI (i + 1)) (lv' := [(4, .int (nI (i + 1))), (3, .int (nI (cnt i (spotA a l p 1)))), (0, .ref (F 0)), (1, .int (nI l)), (2, .int (nI p))]) hx hb dX1_caughtAt_56 hl (k := 0) rfl (nI_add i 1) (by decide) rfl (fun ls hl => ?_)
              refine lv_goto (tgt := 5) hx hb dX1_caughtAt_59 (by decide) ?_
              have e9 : cnt (i + 1) (spotA a l p 1) = cnt i (spotA a l p 1) := by simp [cnt, spotA, c37]
              rw [← e9] at hl
              exact ih5 (i + 1) (by omega) (by omega) H locs hP hS ls (lv_sub hl [0, 1, 2, 3, 4] rfl)
            · skip
              have c37 := (nI_eq (a := qLa a i) (b := l) (by omega) (by omega)).mp c37
              refine lv_aload_n hx hb dX1_caughtAt_40 rfl (lv_at hl 2 rfl) ?_
              refine va_get (D := D) (ci := 1) (v := .ref (F 4)) (C := RX1) (T := TX1) (N := 13) hx hb hts inX1 hown hE.1 hP 0 rfl rfl 3 (by decide) kf26 (fun _ h9 => h9) rfl dX1_caughtAt_41 ?_
              refine lv_iload hx hb dX1_caughtAt_44 (lv_at hl 0 rfl) ?_
              refine pVi (As := [.int (nI i)]) (rest := []) (wc := (wR cA (F 4) (F 15) 41 (fun z9 => nI (qPl a z9)))) ⟨hx, hb, hml, hown, hts⟩ (K_X2_getk lch D cA (F 4) (F 15) 41 (fun z9 => nI (qPl a z9)) i (nI (qPl a i)) H.size (by omega) (Nat.le_of_ble_eq_true rfl) (rfl)) (cwV 1 hts gX1_caughtAt_X2_get rfl rfl rfl (by decide +kernel) ⟨Nat.le_of_ble_eq_true rfl, Nat.le_of_ble_eq_true rfl⟩) hE hP hD hS hA [4, 15] rfl rfl X0.blind (fun _ _ _ => trivial) 4 2 rfl rfl rfl hl.1 rfl rfl (Nat.le_of_ble_eq_true rfl) dX1_caughtAt_46 ⟨Nat.zero_le _, Nat.zero_le _⟩ (fun r_7 u_8 H locs h_9 hP hS => ?_)
              subst h_9
              refine lv_iload_n hx hb dX1_caughtAt_49 rfl (lv_at hl 4 rfl) ?_
              refine lv_icmp_ne (tgt := 56) hx hb dX1_caughtAt_50 (by decide) (fun c50 => ?_) (fun c50 => ?_)
              · skip
                have c50 := (not_congr (nI_eq (a := qPl a i) (b := p) (by omega) (by omega))).mp c50
                refine lv_iinc (v := nI (i + 1)) (lv' := [(4, .int (nI (i + 1))), (3, .int (nI (cnt i (spotA a l p 1)))), (0, .ref (F 0)), (1, .int (nI l)), (2, .int (nI p))]) hx hb dX1_caughtAt_56 hl (k := 0) rfl (nI_add i 1) (by decide) rfl (fun ls hl => ?_)
                refine lv_goto (tgt := 5) hx hb dX1_caughtAt_59 (by decide) ?_
                have e9 : cnt (i + 1) (spotA a l p 1) = cnt i (spotA a l p 1) := by simp [cnt, spotA, c50]
                rw [← e9] at hl
                exact ih5 (i + 1) (by omega) (by omega) H locs hP hS ls (lv_sub hl [0, 1, 2, 3, 4] rfl)
              · skip
                have c50 := (nI_eq (a := qPl a i) (b := p) (by omega) (by omega)).mp c50
                refine lv_iinc (v := nI ((cnt i (spotA a l p 1)) + 1)) (lv' := [(3, .int (nI ((cnt i (spotA a l p 1)) + 1))), (4, .int (nI i)), (0, .ref (F 0)), (1, .int (nI l)), (2, .int (nI p))]) hx hb dX1_caughtAt_53 hl (k := 1) rfl (nI_add (cnt i (spotA a l p 1)) 1) (by decide) rfl (fun ls hl => ?_)
                refine lv_iinc (v := nI (i + 1)) (lv' := [(4, .int (nI (i + 1))), (3, .int (nI ((cnt i (spotA a l p 1)) + 1))), (0, .ref (F 0)), (1, .int (nI l)), (2, .int (nI p))]) hx hb dX1_caughtAt_56 hl (k := 1) rfl (nI_add i 1) (by decide) rfl (fun ls hl => ?_)
                refine lv_goto (tgt := 5) hx hb dX1_caughtAt_59 (by decide) ?_
                have e9 : cnt (i + 1) (spotA a l p 1) = cnt i (spotA a l p 1) + 1 := by simp [cnt, spotA, c24, c37, c50]
                rw [← e9] at hl
                exact ih5 (i + 1) (by omega) (by omega) H locs hP hS ls (lv_sub hl [0, 1, 2, 3, 4] rfl)
    exact L5 (qN a + 1) 0 (Nat.zero_le _) (by omega) H locs hP hS ls (lv_sub hl [0, 1, 2, 3, 4] rfl)
  rw [hg1, hg2] at hgoal
  exact hgoal
end
section
/-! the crowd, the order, what is kept: facts of the mathematical state -/
theorem any_iff {P : Nat → Bool} : ∀ n : Nat, anyN n P = true ↔ ∃ k, k < n ∧ P k = true
  | 0 => ⟨fun h => by simp [anyN] at h, fun ⟨k, h, _⟩ => absurd h (Nat.not_lt_zero k)⟩
  | n + 1 => by
    simp only [anyN, Bool.or_eq_true, any_iff n]
    constructor
    · rintro (⟨k, h1, h2⟩ | h)
      · exact ⟨k, by omega, h2⟩
      · exact ⟨n, by omega, h⟩
    · rintro ⟨k, h1, h2⟩
      rcases Nat.lt_or_ge k n with h | h
      · exact Or.inl ⟨k, h, h2⟩
      · have e : k = n := by omega
        exact Or.inr (e ▸ h2)
theorem cnt_pos {P : Nat → Bool} : ∀ n : Nat, 0 < cnt n P ↔ ∃ k, k < n ∧ P k = true
  | 0 => ⟨fun h => by simp [cnt] at h, fun ⟨k, h, _⟩ => absurd h (Nat.not_lt_zero k)⟩
  | n + 1 => by
    simp only [cnt]
    constructor
    · intro h
      by_cases hp : P n = true
      · exact ⟨n, by omega, hp⟩
      · rw [if_neg hp] at h
        obtain ⟨k, h1, h2⟩ := (cnt_pos n).mp (by omega)
        exact ⟨k, by omega, h2⟩
    · rintro ⟨k, h1, h2⟩
      rcases Nat.lt_or_ge k n with h | h
      · have := (cnt_pos n).mpr ⟨k, h, h2⟩
        omega
      · have e : k = n := by omega
        rw [e] at h2
        rw [if_pos h2]
        omega
theorem cnt_zero {P : Nat → Bool} {n : Nat} (h : ∀ k, k < n → P k = false) : cnt n P = 0 := by
  rcases Nat.eq_zero_or_pos (cnt n P) with e | e
  · exact e
  · obtain ⟨k, h1, h2⟩ := (cnt_pos n).mp e
    rw [h k h1] at h2
    cases h2
theorem spotF_iff {a : FSt} {l p f k : Nat} : spotF a l p f k = true ↔ qSt a k = 0 ∧ qLa a k = l ∧ qPl a k = p ∧ qFr a k = f := by simp [spotF]
theorem spotA_iff {a : FSt} {l p so k : Nat} : spotA a l p so k = true ↔ qSt a k = so ∧ qLa a k = l ∧ qPl a k = p := by simp [spotA]
theorem catches_iff {a : FSt} {k o : Nat} : catches a k o = true ↔ qSt a o = 0 ∧ qLa a o = qLa a k ∧ qPl a o = qPl a k + 1 ∧ qFr a o ≠ qFr a k := by simp [catches]
/-- beyond the last place nobody is afloat -/
theorem ck_rg {c : Nat → Int32} {a : FSt} {l p f : Nat} (hw : WFa a) (hcr : CRa a c) (h3 : l < 3) (hf : f < 3) : rg 540 c (ck l p f) = nI (cnt (qN a) (spotF a l p f)) := by
  by_cases h6 : p < 60
  · exact ck_at hcr h3 h6 hf
  · unfold ck
    rw [if_neg h6, rg_neg (by decide), cnt_zero (fun k hk => ?_)]
    · rfl
    · cases hs : spotF a l p f k
      · rfl
      · obtain ⟨h1, -, h2, -⟩ := spotF_iff.mp hs
        have := (hw.2 k hk).2.2.2.2.1 h1
        omega
theorem cnt_small {a : FSt} (hw : WFa a) (P : Nat → Bool) : cnt (qN a) P ≤ 41 := Nat.le_trans (cnt_le P _) hw.1
theorem catch_t {c : Nat → Int32} {a : FSt} {i f : Nat} (hw : WFa a) (hcr : CRa a c) (hi : i < qN a) (hf : f < 3) (hne : ¬ f = qFr a i) (h : ¬ rg 540 c (ck (qLa a i) (qPl a i + 1) f) ≤ 0) : (1 : Int32) = bi (caughtA a i) := by
  rw [ck_rg hw hcr (hw.2 i hi).2.1 hf] at h
  have hs := cnt_small hw (spotF a (qLa a i) (qPl a i + 1) f)
  have h1 : 0 < cnt (qN a) (spotF a (qLa a i) (qPl a i + 1) f) := by
    rcases Nat.eq_zero_or_pos (cnt (qN a) (spotF a (qLa a i) (qPl a i + 1) f)) with e | e
    · rw [e] at h
      exact absurd (by decide) h
    · exact e
  obtain ⟨k, hk, hs⟩ := (cnt_pos _).mp h1
  obtain ⟨g1, g2, g3, g4⟩ := spotF_iff.mp hs
  have h2 : caughtA a i = true := (any_iff _).mpr ⟨k, hk, catches_iff.mpr ⟨g1, g2, g3, by omega⟩⟩
  rw [h2]
  rfl
theorem catch_no {c : Nat → Int32} {a : FSt} {i f : Nat} (hw : WFa a) (hcr : CRa a c) (hi : i < qN a) (hf : f < 3) (h : f = qFr a i ∨ rg 540 c (ck (qLa a i) (qPl a i + 1) f) ≤ 0) (k : Nat) (hk : k < qN a) (hc : catches a i k = true) : ¬ qFr a k = f := by
  intro e
  obtain ⟨g1, g2, g3, g4⟩ := catches_iff.mp hc
  rcases h with h | h
  · omega
  · rw [ck_rg hw hcr (hw.2 i hi).2.1 hf] at h
    have hs := cnt_small hw (spotF a (qLa a i) (qPl a i + 1) f)
    have h1 := (cnt_pos (qN a)).mpr ⟨k, hk, spotF_iff.mpr ⟨g1, g2, g3, e⟩⟩
    exact nI_nle h1 (by omega) h
theorem catch_f {c : Nat → Int32} {a : FSt} {i : Nat} (hw : WFa a) (hcr : CRa a c) (hi : i < qN a) (h0 : 0 = qFr a i ∨ rg 540 c (ck (qLa a i) (qPl a i + 1) 0) ≤ 0) (h1 : 1 = qFr a i ∨ rg 540 c (ck (qLa a i) (qPl a i + 1) 1) ≤ 0) (h2 : 2 = qFr a i ∨ rg 540 c (ck (qLa a i) (qPl a i + 1) 2) ≤ 0) : (0 : Int32) = bi (caughtA a i) := by
  have h : caughtA a i = false := by
    cases hc : caughtA a i
    · rfl
    · obtain ⟨k, hk, hc⟩ := (any_iff _).mp hc
      have g0 := catch_no hw hcr hi (by decide) h0 k hk hc
      have g1 := catch_no hw hcr hi (by decide) h1 k hk hc
      have g2 := catch_no hw hcr hi (by decide) h2 k hk hc
      have := (hw.2 k hk).1
      omega
  rw [h]
  rfl
theorem sub_3 (x a b c : Int32) : x - a - b - c = x - (a + b + c) := by
  simp only [Int32.sub_eq_add_neg, Int32.neg_add, Int32.add_assoc]
theorem sub_9 (x a b c d e f g h i : Int32) : x - a - b - c - d - e - f - g - h - i = x - ((a + b + c) + (d + e + f) + (g + h + i)) := by
  simp only [Int32.sub_eq_add_neg, Int32.neg_add, Int32.add_assoc]
theorem at_3 {c : Nat → Int32} {a : FSt} {l p : Nat} (hw : WFa a) (hcr : CRa a c) (h3 : l < 3) : rg 540 c (ck l p 0) + rg 540 c (ck l p 1) + rg 540 c (ck l p 2) = nI (atA a l p 0) := by
  rw [ck_rg hw hcr h3 (by decide), ck_rg hw hcr h3 (by decide), ck_rg hw hcr h3 (by decide), nI_add, nI_add]
  unfold atA
  rw [← cnt_frames (qN a) (fun k hk => (hw.2 k hk).1)]
theorem wet_sum {c : Nat → Int32} {a : FSt} {i : Nat} {v : Int32} (hw : WFa a) (hcr : CRa a c) (hi : i < qN a) : v - rg 540 c (ck (qLa a i) (qPl a i + 1) 0) - rg 540 c (ck (qLa a i) (qPl a i + 1) 1) - rg 540 c (ck (qLa a i) (qPl a i + 1) 2) - rg 540 c (ck (qLa a i) (qPl a i + 2) 0) - rg 540 c (ck (qLa a i) (qPl a i + 2) 1) - rg 540 c (ck (qLa a i) (qPl a i + 2) 2) - rg 540 c (ck (qLa a i) (qPl a i + 3) 0) - rg 540 c (ck (qLa a i) (qPl a i + 3) 1) - rg 540 c (ck (qLa a i) (qPl a i + 3) 2) = v - nI (belowA a i) := by
  have h3 := (hw.2 i hi).2.1
  rw [sub_9, at_3 hw hcr h3, at_3 hw hcr h3, at_3 hw hcr h3, nI_add, nI_add]
  rfl
theorem imax_t {x : Int32} (h : x ≤ 1) : imax1 x = 1 := if_neg ((nlt_iff 1 x).mpr h)
theorem imax_f {x : Int32} (h : ¬ x ≤ 1) : imax1 x = x := if_pos ((nle_iff x 1).mp h)
/-! the wax -/
theorem wax_same (a : FSt) (k : Nat) : qN (waxA a k) = qN a ∧ qFr (waxA a k) = qFr a ∧ qLa (waxA a k) = qLa a ∧ qPl (waxA a k) = qPl a ∧ qSt (waxA a k) = qSt a ∧ qM (waxA a k) = qM a := by
  unfold waxA
  split
  · split <;> exact ⟨rfl, rfl, rfl, rfl, rfl, rfl⟩
  · exact ⟨rfl, rfl, rfl, rfl, rfl, rfl⟩
theorem up_cases {α : Type} (f : Nat → α) (k : Nat) (x : α) (j : Nat) : (j = k ∧ up f k x j = x) ∨ (j ≠ k ∧ up f k x j = f j) := by
  by_cases h : j = k
  · exact Or.inl ⟨h, by rw [h, up_s]⟩
  · exact Or.inr ⟨h, up_n h⟩
theorem WFa_wax {a : FSt} (k : Nat) (h : WFa a) : WFa (waxA a k) := by
  obtain ⟨e1, e2, e3, e4, e5, -⟩ := wax_same a k
  refine ⟨by rw [e1]; exact h.1, fun i hi => ?_⟩
  rw [e1] at hi
  obtain ⟨h1, h2, h3, h4, h5, h6, h7, h8⟩ := h.2 i hi
  rw [e2, e3, e4, e5]
  refine ⟨h1, h2, h3, h4, h5, ?_, ?_, ?_⟩ <;> unfold waxA
  · intro hs
    split
    · split
      · show up (qBu a) k false i = false
        rcases up_cases (qBu a) k false i with ⟨-, e⟩ | ⟨-, e⟩ <;> rw [e]
        exact h6 hs
      · exact h6 hs
    · exact h6 hs
  · split
    · have g : up (qWx a) k (qWx a k - 1) i ≤ 45 := by
        rcases up_cases (qWx a) k (qWx a k - 1) i with ⟨ei, e⟩ | ⟨-, e⟩ <;> rw [e]
        · subst ei; omega
        · exact h7
      split <;> exact g
    · exact h7
  · split
    · next hc =>
      split
      · next h0 =>
        intro g1 g2
        change up (qBu a) k false i = true at g2
        show 0 < up (qWx a) k (qWx a k - 1) i
        rcases up_cases (qBu a) k false i with ⟨-, e⟩ | ⟨en, e⟩
        · rw [e] at g2; cases g2
        · rw [e] at g2
          rw [up_n en]
          exact h8 g1 g2
      · next h0 =>
        intro g1 g2
        change qBu a i = true at g2
        show 0 < up (qWx a) k (qWx a k - 1) i
        rcases up_cases (qWx a) k (qWx a k - 1) i with ⟨ei, e⟩ | ⟨-, e⟩ <;> rw [e]
        · omega
        · exact h8 g1 g2
    · exact h8
theorem burn_same (a : FSt) : ∀ m : Nat, qN (burnA m a) = qN a ∧ qFr (burnA m a) = qFr a ∧ qLa (burnA m a) = qLa a ∧ qPl (burnA m a) = qPl a ∧ qSt (burnA m a) = qSt a ∧ qM (burnA m a) = qM a
  | 0 => ⟨rfl, rfl, rfl, rfl, rfl, rfl⟩
  | m + 1 => by
    obtain ⟨e1, e2, e3, e4, e5, e6⟩ := burn_same a m
    obtain ⟨g1, g2, g3, g4, g5, g6⟩ := wax_same (burnA m a) m
    exact ⟨g1.trans e1, g2.trans e2, g3.trans e3, g4.trans e4, g5.trans e5, g6.trans e6⟩
theorem WFa_burn {a : FSt} (h : WFa a) : ∀ m : Nat, WFa (burnA m a)
  | 0 => h
  | m + 1 => WFa_wax m (WFa_burn h m)
/-! the crowd follows -/
theorem CRa_of {a a' : FSt} {c : Nat → Int32} (h : CRa a c) (e1 : qN a' = qN a) (e2 : ∀ j, j < qN a → ∀ l p f, l < 3 → p < 60 → f < 3 → spotF a' l p f j = spotF a l p f j) : CRa a' c := fun l p f hl hp hf => by
  rw [h l p f hl hp hf, e1, cnt_congr (qN a) (fun k hk => (e2 k hk l p f hl hp hf).symm)]
theorem CRa_same {a a' : FSt} {c : Nat → Int32} (h : CRa a c) (e1 : qN a' = qN a) (e2 : qFr a' = qFr a) (e3 : qLa a' = qLa a) (e4 : qPl a' = qPl a) (e5 : qSt a' = qSt a) : CRa a' c := CRa_of h e1 (fun j _ l p f _ _ _ => by unfold spotF; rw [e2, e3, e4, e5])
theorem CRa_burn {a : FSt} {c : Nat → Int32} (h : CRa a c) (m : Nat) : CRa (burnA m a) c := by
  obtain ⟨e1, e2, e3, e4, e5, -⟩ := burn_same a m
  exact CRa_same h e1 e2 e3 e4 e5
theorem ckA_inj {l p f l' p' f' : Nat} (hp : p < 60) (hf : f < 3) (hp' : p' < 60) (hf' : f' < 3) (h : ckA l p f = ckA l' p' f') : l = l' ∧ p = p' ∧ f = f' := by
  unfold ckA at h
  omega
/-- the crowd without the lantern k -/
def CRx (a : FSt) (c : Nat → Int32) (k : Nat) : Prop := ∀ l p f, l < 3 → p < 60 → f < 3 → c (ckA l p f) = nI (cnt (qN a) (fun j => spotF a l p f j && j != k))
theorem cnt_without {P : Nat → Bool} {k : Nat} : ∀ n : Nat, cnt n P = cnt n (fun j => P j && j != k) + (if k < n ∧ P k = true then 1 else 0)
  | 0 => by simp [cnt]
  | n + 1 => by
    have h := cnt_without (P := P) (k := k) n
    simp only [cnt]
    rw [h]
    by_cases hk : n = k
    · subst hk
      simp
    · by_cases hp : P n = true
      · by_cases hkn : k < n
        · simp [hp, hk, hkn, show k < n + 1 by omega]; omega
        · simp [hp, hk, hkn, show ¬ k < n + 1 by omega]
      · by_cases hkn : k < n
        · simp [hp, hkn, show k < n + 1 by omega]
        · simp [hp, hkn, show ¬ k < n + 1 by omega]
theorem cby_at {a : FSt} {c : Nat → Int32} {k : Nat} {v : Int32} {l p f : Nat} (h3 : qLa a k < 3) (hf3 : qFr a k < 3) (hl : l < 3) (hp : p < 60) (hf : f < 3) : cby a c k v (ckA l p f) = if qLa a k = l ∧ qPl a k = p ∧ qFr a k = f then c (ckA l p f) + v else c (ckA l p f) := by
  unfold cby
  by_cases h6 : qPl a k < 60
  · have hb : ckA (qLa a k) (qPl a k) (qFr a k) < 540 := by unfold ckA; omega
    unfold ck
    rw [if_pos h6, rp_nI hb (by decide), rg_nI hb (by decide)]
    unfold upd
    by_cases e : ckA l p f = ckA (qLa a k) (qPl a k) (qFr a k)
    · obtain ⟨e1, e2, e3⟩ := ckA_inj hp hf h6 hf3 e
      rw [if_pos e, if_pos ⟨e1.symm, e2.symm, e3.symm⟩, e]
    · rw [if_neg e, if_neg (fun q => e (by rw [q.1, q.2.1, q.2.2]))]
  · unfold ck
    rw [if_neg h6, rp_neg (by decide), if_neg (fun q => h6 (by omega))]
theorem CR_out {a : FSt} {c : Nat → Int32} {k : Nat} (h : CRa a c) (hw : qLa a k < 3 ∧ qFr a k < 3) (hk : k < qN a) (hs : qSt a k = 0) : CRx a (cby a c k (-1)) k := fun l p f hl hp hf => by
  rw [cby_at hw.1 hw.2 hl hp hf, h l p f hl hp hf, cnt_without (k := k)]
  by_cases e : qLa a k = l ∧ qPl a k = p ∧ qFr a k = f
  · rw [if_pos e, if_pos ⟨hk, spotF_iff.mpr ⟨hs, e⟩⟩]
    exact pk_m1 _
  · rw [if_neg e, if_neg (fun q => e (spotF_iff.mp q.2).2)]
    rfl
theorem CR_in {a a' : FSt} {c : Nat → Int32} {k : Nat} (h : CRx a c k) (hN : qN a' = qN a) (ho : ∀ j, j ≠ k → ∀ l p f, spotF a' l p f j = spotF a l p f j) (hw : qLa a' k < 3 ∧ qFr a' k < 3) (hk : k < qN a) (hs : qSt a' k = 0) : CRa a' (cby a' c k 1) := fun l p f hl hp hf => by
  rw [cby_at hw.1 hw.2 hl hp hf, h l p f hl hp hf, cnt_without (P := spotF a' l p f) (k := k), hN]
  have e0 : cnt (qN a) (fun j => spotF a l p f j && j != k) = cnt (qN a) (fun j => spotF a' l p f j && j != k) := cnt_congr _ (fun j _ => by
    by_cases ej : j = k
    · simp [ej]
    · rw [ho j ej])
  rw [e0]
  by_cases e : qLa a' k = l ∧ qPl a' k = p ∧ qFr a' k = f
  · rw [if_pos e, if_pos ⟨hk, spotF_iff.mpr ⟨hs, e⟩⟩]
    exact nI_1 _
  · rw [if_neg e, if_neg (fun q => e (spotF_iff.mp q.2).2)]
    rfl
theorem CR_gone {a a' : FSt} {c : Nat → Int32} {k : Nat} (h : CRx a c k) (hN : qN a' = qN a) (ho : ∀ j, j ≠ k → ∀ l p f, spotF a' l p f j = spotF a l p f j) (hs : ¬ qSt a' k = 0) : CRa a' c := fun l p f hl hp hf => by
  rw [h l p f hl hp hf, cnt_without (P := spotF a' l p f) (k := k), hN, if_neg (fun q => hs (spotF_iff.mp q.2).1)]
  congr 1
  exact cnt_congr _ (fun j _ => by
    by_cases ej : j = k
    · simp [ej]
    · rw [ho j ej])
theorem CR_move {a : FSt} {c : Nat → Int32} {k l p : Nat} (h : CRa a c) (hw : qLa a k < 3 ∧ qFr a k < 3) (hk : k < qN a) (hs : qSt a k = 0) (hl : l < 3) : CRa (mvA a k l p) (cby (mvA a k l p) (cby a c k (-1)) k 1) :=
  CR_in (CR_out h hw hk hs) rfl (fun j hj l' p' f' => by
    have e1 : qLa (mvA a k l p) j = qLa a j := up_n hj
    have e2 : qPl (mvA a k l p) j = qPl a j := up_n hj
    have e3 : qSt (mvA a k l p) j = qSt a j := rfl
    have e4 : qFr (mvA a k l p) j = qFr a j := rfl
    unfold spotF
    rw [e1, e2, e3, e4]) ⟨by show up (qLa a) k l k < 3; rw [up_s]; exact hl, hw.2⟩ hk hs
theorem CR_leave {a : FSt} {c : Nat → Int32} {k so : Nat} (h : CRa a c) (hw : qLa a k < 3 ∧ qFr a k < 3) (hk : k < qN a) (hs : qSt a k = 0) (hso : ¬ so = 0) : CRa (endA a k so) (cby a c k (-1)) :=
  CR_gone (CR_out h hw hk hs) rfl (fun j hj l' p' f' => by
    have e1 : qLa (endA a k so) j = qLa a j := rfl
    have e2 : qPl (endA a k so) j = qPl a j := rfl
    have e3 : qSt (endA a k so) j = qSt a j := up_n hj
    have e4 : qFr (endA a k so) j = qFr a j := rfl
    unfold spotF
    rw [e1, e2, e3, e4]) (by show ¬ up (qSt a) k so k = 0; rw [up_s]; exact hso)
/-! the order -/
def keyA (a : FSt) (k : Nat) : Nat := ((59 - qPl a k) * 3 + qLa a k) * 64 + k
theorem key_lt {a : FSt} {i o : Nat} (hi : qPl a i < 60 ∧ qLa a i < 3 ∧ i < 41) (ho : qPl a o < 60 ∧ qLa a o < 3 ∧ o < 41) : keyA a i < keyA a o ↔ aheadA a i o = true := by
  unfold keyA aheadA
  by_cases h1 : qPl a i = qPl a o
  · rw [if_pos h1]
    by_cases h2 : qLa a i = qLa a o
    · rw [if_pos h2]
      simp
      omega
    · rw [if_neg h2]
      simp
      omega
  · rw [if_neg h1]
    simp
    omega
theorem key_small {a : FSt} {i : Nat} (hi : qPl a i < 60 ∧ qLa a i < 3 ∧ i < 41) : keyA a i < 2 ^ 31 := by
  unfold keyA
  omega
theorem key_mod {a : FSt} {i : Nat} (hi : i < 41) : keyA a i % 64 = i := by
  unfold keyA
  omega
end
section
/-! a step, a drift, a minute: what they keep -/
theorem met_same (v : Int32) (a : FSt) (k : Nat) : qN (metA v a k) = qN a ∧ qFr (metA v a k) = qFr a ∧ qLa (metA v a k) = qLa a ∧ qPl (metA v a k) = qPl a ∧ qSt (metA v a k) = qSt a ∧ qWx (metA v a k) = qWx a ∧ qM (metA v a k) = qM a := by
  unfold metA dryA
  split
  · split <;> exact ⟨rfl, rfl, rfl, rfl, rfl, rfl, rfl⟩
  · exact ⟨rfl, rfl, rfl, rfl, rfl, rfl, rfl⟩
theorem met_bu (v : Int32) (a : FSt) (k i : Nat) : qBu (metA v a k) i = true → qBu a i = true := by
  unfold metA dryA
  split
  · split
    · intro h
      change up (qBu a) k false i = true at h
      rcases up_cases (qBu a) k false i with ⟨-, e⟩ | ⟨-, e⟩ <;> rw [e] at h
      · cases h
      · exact h
    · exact fun h => h
  · exact fun h => h
theorem bu_f {x : Bool} {P : Prop} (h : x = true → P) (hn : ¬ P) : x = false := by cases x with
  | false => rfl
  | true => exact absurd (h rfl) hn
theorem WFa_met {a : FSt} (v : Int32) (k : Nat) (h : WFa a) : WFa (metA v a k) := by
  obtain ⟨e1, e2, e3, e4, e5, e6, -⟩ := met_same v a k
  refine ⟨by rw [e1]; exact h.1, fun i hi => ?_⟩
  rw [e1] at hi
  obtain ⟨h1, h2, h3, h4, h5, h6, h7, h8⟩ := h.2 i hi
  rw [e2, e3, e4, e5, e6]
  exact ⟨h1, h2, h3, h4, h5, fun hs => bu_f (met_bu v a k i) (by rw [h6 hs]; exact Bool.noConfusion), h7, fun hs hb => h8 hs (met_bu v a k i hb)⟩
theorem WFa_mov {a : FSt} {k : Nat} (h : WFa a) (h6 : qPl a k + 1 < 60) : WFa (movA a k) := by
  refine ⟨h.1, fun i hi => ?_⟩
  obtain ⟨h1, h2, h3, h4, h5, h6', h7, h8⟩ := h.2 i hi
  refine ⟨h1, h2, ?_, h4, ?_, h6', h7, h8⟩
  · show up (qPl a) k (qPl a k + 1) i ≤ 60
    rcases up_cases (qPl a) k (qPl a k + 1) i with ⟨-, e⟩ | ⟨-, e⟩ <;> rw [e] <;> omega
  · intro hs
    show up (qPl a) k (qPl a k + 1) i < 60
    rcases up_cases (qPl a) k (qPl a k + 1) i with ⟨-, e⟩ | ⟨-, e⟩ <;> rw [e]
    · exact h6
    · exact h5 hs
theorem WFa_end1 {a : FSt} {k : Nat} (h : WFa a) : WFa (endA a k 1) := by
  refine ⟨h.1, fun i hi => ?_⟩
  obtain ⟨h1, h2, h3, h4, h5, h6, h7, h8⟩ := h.2 i hi
  have hc : (i = k ∧ qSt (endA a k 1) i = 1) ∨ (i ≠ k ∧ qSt (endA a k 1) i = qSt a i) := up_cases (qSt a) k 1 i
  refine ⟨h1, h2, h3, ?_, ?_, ?_, h7, ?_⟩ <;> rcases hc with ⟨-, e⟩ | ⟨-, e⟩ <;> rw [e]
  · decide
  · exact h4
  · exact fun q => absurd q (by decide)
  · exact h5
  · exact fun q => absurd q (by decide)
  · exact h6
  · exact fun q => absurd q (by decide)
  · exact h8
theorem WFa_lost {a : FSt} {k : Nat} (h : WFa a) (h6 : qPl a k + 1 = 60) : WFa (outA (endA (movA a k) k 2) k) := by
  refine ⟨h.1, fun i hi => ?_⟩
  obtain ⟨h1, h2, h3, h4, h5, h6', h7, h8⟩ := h.2 i hi
  by_cases hik : i = k
  · subst hik
    refine ⟨h1, h2, ?_, ?_, ?_, ?_, h7, ?_⟩
    · show up (qPl a) i (qPl a i + 1) i ≤ 60
      rw [up_s]; omega
    · show up (qSt a) i 2 i < 3
      rw [up_s]; decide
    · intro q
      change up (qSt a) i 2 i = 0 at q
      rw [up_s] at q
      exact absurd q (by decide)
    · intro _
      show up (qBu a) i false i = false
      rw [up_s]
    · intro q
      change up (qSt a) i 2 i = 0 at q
      rw [up_s] at q
      exact absurd q (by decide)
  · have e1 : qPl (outA (endA (movA a k) k 2) k) i = qPl a i := up_n hik
    have e2 : qSt (outA (endA (movA a k) k 2) k) i = qSt a i := up_n hik
    have e3 : qBu (outA (endA (movA a k) k 2) k) i = qBu a i := up_n hik
    rw [e1, e2, e3]
    exact ⟨h1, h2, h3, h4, h5, h6', h7, h8⟩
theorem mov_at (a : FSt) (k : Nat) : qPl (movA a k) k = qPl a k + 1 := up_s
theorem step_lost {b : BSt} {a : FSt} {k : Nat} (h : qPl a k + 1 = 60) : stepA b a k = outA (endA (movA a k) k 2) k := if_pos h
theorem step_on {b : BSt} {a : FSt} {k : Nat} (h : ¬ qPl a k + 1 = 60) : stepA b a k = netA b (metA (bSp b (qPl a k + 1)) (movA a k) k) k := by
  unfold stepA
  rw [if_neg h, ← met_weir, mov_at]
theorem net_at {b : BSt} {a : FSt} {k : Nat} (v : Int32) (h : bNe b (qLa a k * 60 + (qPl a k + 1)) = true) : netA b (metA v (movA a k) k) k = endA (metA v (movA a k) k) k 1 := by
  obtain ⟨-, -, e3, e4, -⟩ := met_same v (movA a k) k
  unfold netA
  rw [e3, e4, mov_at, show qLa (movA a k) = qLa a from rfl, if_pos h]
theorem net_no {b : BSt} {a : FSt} {k : Nat} (v : Int32) (h : bNe b (qLa a k * 60 + (qPl a k + 1)) = false) : netA b (metA v (movA a k) k) k = metA v (movA a k) k := by
  obtain ⟨-, -, e3, e4, -⟩ := met_same v (movA a k) k
  unfold netA
  rw [e3, e4, mov_at, show qLa (movA a k) = qLa a from rfl, h]
  rfl
theorem step_keep {b : BSt} {a : FSt} {k : Nat} (hw : WFa a) (hk : k < qN a) (hs : qSt a k = 0) : WFa (stepA b a k) ∧ qN (stepA b a k) = qN a ∧ qLa (stepA b a k) = qLa a ∧ qFr (stepA b a k) = qFr a ∧ qM (stepA b a k) = qM a := by
  by_cases h : qPl a k + 1 = 60
  · rw [step_lost h]
    exact ⟨WFa_lost hw h, rfl, rfl, rfl, rfl⟩
  · have h5 := (hw.2 k hk).2.2.2.2.1 hs
    have hm := WFa_met (bSp b (qPl a k + 1)) k (WFa_mov (k := k) hw (by omega))
    obtain ⟨e1, e2, e3, -, -, -, e7⟩ := met_same (bSp b (qPl a k + 1)) (movA a k) k
    rw [step_on h]
    cases hn : bNe b (qLa a k * 60 + (qPl a k + 1))
    · rw [net_no _ hn]
      exact ⟨hm, e1, e3, e2, e7⟩
    · rw [net_at _ hn]
      exact ⟨WFa_end1 hm, e1, e3, e2, e7⟩
theorem drift_keep {b : BSt} {k : Nat} : ∀ (n : Nat) (a : FSt), WFa a → k < qN a → WFa (driftN b n a k) ∧ qN (driftN b n a k) = qN a ∧ qLa (driftN b n a k) = qLa a ∧ qFr (driftN b n a k) = qFr a ∧ qM (driftN b n a k) = qM a
  | 0, a, hw, _ => ⟨hw, rfl, rfl, rfl, rfl⟩
  | n + 1, a, hw, hk => by
    unfold driftN
    split
    · next hs =>
      split
      · exact ⟨hw, rfl, rfl, rfl, rfl⟩
      · obtain ⟨g1, g2, g3, g4, g5⟩ := step_keep (b := b) hw hk hs
        obtain ⟨r1, r2, r3, r4, r5⟩ := drift_keep n (stepA b a k) g1 (by rw [g2]; exact hk)
        exact ⟨r1, r2.trans g2, r3.trans g3, r4.trans g4, r5.trans g5⟩
    · exact ⟨hw, rfl, rfl, rfl, rfl⟩
theorem drift_stop {b : BSt} {k : Nat} {a : FSt} (h : ¬ qSt a k = 0 ∨ caughtA a k = true) : ∀ n : Nat, driftN b n a k = a
  | 0 => rfl
  | n + 1 => by
    unfold driftN
    rcases h with h | h
    · rw [if_neg h]
    · split
      · first | rfl | rw [if_pos h]
      · rfl
theorem drift_go {b : BSt} {k n : Nat} {a : FSt} (h1 : qSt a k = 0) (h2 : caughtA a k = false) : driftN b (n + 1) a k = driftN b n (stepA b a k) k := by
  show (if qSt a k = 0 then (if caughtA a k = true then a else driftN b n (stepA b a k) k) else a) = _
  rw [if_pos h1, h2]
  rfl
theorem float_keep {b : BSt} {o : Nat → Nat} {a : FSt} : ∀ (m : Nat), WFa a → (∀ j, j < m → o j < qN a) → WFa (floatA b o m a) ∧ qN (floatA b o m a) = qN a ∧ qFr (floatA b o m a) = qFr a ∧ qM (floatA b o m a) = qM a
  | 0, hw, _ => ⟨hw, rfl, rfl, rfl⟩
  | m + 1, hw, ho => by
    obtain ⟨g1, g2, g3, g4⟩ := float_keep (b := b) m hw (fun j hj => ho j (by omega))
    obtain ⟨r1, r2, -, r4, r5⟩ := drift_keep (b := b) (k := o m) (bCu b (qLa (floatA b o m a) (o m))) (floatA b o m a) g1 (by rw [g2]; exact ho m (by omega))
    exact ⟨r1, r2.trans g2, r4.trans g3, r5.trans g4⟩
/-! the order's places are lanterns that are afloat -/
theorem shift_ok {P : Nat → Bool} {V : Nat → Prop} : ∀ (m : Nat) (g : Nat → Nat), (∀ j, j < m → V (g j)) → (shiftO P m g).1 ≤ m ∧ ∀ j, j ≤ m → j ≠ (shiftO P m g).1 → V ((shiftO P m g).2 j)
  | 0, g, _ => ⟨Nat.le_refl 0, fun j hj hn => absurd (Nat.le_zero.mp hj) hn⟩
  | m + 1, g, h => by
    unfold shiftO
    split
    · obtain ⟨h1, h2⟩ := shift_ok (P := P) m (up g (m + 1) (g m)) (fun j hj => by rw [up_n (by omega)]; exact h j (by omega))
      refine ⟨by omega, fun j hj hn => ?_⟩
      by_cases e : j = m + 1
      · subst e
        have h3 : ∀ (t : Nat) (g' : Nat → Nat), t ≤ m → (shiftO P t g').2 (m + 1) = g' (m + 1) := by
          intro t
          induction t with
          | zero => intro g' _; rfl
          | succ t ih =>
            intro g' ht
            unfold shiftO
            split
            · rw [ih _ (by omega), up_n (by omega)]
            · rfl
        rw [h3 m _ (Nat.le_refl m), up_s]
        exact h m (by omega)
      · exact h2 j (by omega) hn
    · exact ⟨Nat.le_refl _, fun j hj hn => h j (by simp only at hn; omega)⟩
theorem ins_ok {P : Nat → Bool} {V : Nat → Prop} {k m : Nat} {g : Nat → Nat} (h : ∀ j, j < m → V (g j)) (hk : V k) : ∀ j, j < m + 1 → V (insO P k m g j) := fun j hj => by
  obtain ⟨-, h2⟩ := shift_ok (P := P) m g h
  unfold insO
  rcases up_cases (shiftO P m g).2 (shiftO P m g).1 k j with ⟨-, e⟩ | ⟨en, e⟩ <;> rw [e]
  · exact hk
  · exact h2 j (by omega) en
theorem sort_ok {a : FSt} : ∀ i : Nat, (sortN a i).1 ≤ i ∧ ∀ j, j < (sortN a i).1 → (sortN a i).2 j < i ∧ qSt a ((sortN a i).2 j) = 0
  | 0 => ⟨Nat.le_refl 0, fun j hj => absurd hj (Nat.not_lt_zero j)⟩
  | i + 1 => by
    obtain ⟨h1, h2⟩ := sort_ok (a := a) i
    unfold sortN
    split
    · next hs =>
      refine ⟨by simp only; omega, fun j hj => ?_⟩
      exact ins_ok (V := fun x => x < i + 1 ∧ qSt a x = 0) (fun j hj => ⟨Nat.lt_succ_of_lt (h2 j hj).1, (h2 j hj).2⟩) ⟨Nat.lt_succ_self i, hs⟩ j hj
    · exact ⟨by omega, fun j hj => ⟨Nat.lt_succ_of_lt (h2 j hj).1, (h2 j hj).2⟩⟩
theorem ord_ok (a : FSt) : ordM a ≤ qN a ∧ ∀ j, j < ordM a → ordF a j < qN a ∧ qSt a (ordF a j) = 0 := sort_ok (qN a)
theorem WFa_tick {a : FSt} (h : WFa a) : WFa (tickA a) := h
theorem min_keep {b : BSt} {a : FSt} (hw : WFa a) : WFa (minA b a) ∧ qN (minA b a) = qN a ∧ qFr (minA b a) = qFr a := by
  obtain ⟨g1, g2, g3, g4⟩ := float_keep (b := b) (ordM a) hw (fun j hj => ((ord_ok a).2 j hj).1)
  obtain ⟨r1, r2, -⟩ := burn_same (floatA b (ordF a) (ordM a) a) (qN a)
  exact ⟨WFa_tick (WFa_burn g1 (qN a)), r1.trans g2, r2.trans g3⟩
theorem mins_keep {b : BSt} {a : FSt} (hw : WFa a) : ∀ m : Nat, WFa (minsA b m a) ∧ qN (minsA b m a) = qN a
  | 0 => ⟨hw, rfl⟩
  | m + 1 => by
    obtain ⟨g1, g2⟩ := mins_keep (b := b) hw m
    obtain ⟨r1, r2, -⟩ := min_keep (b := b) g1
    exact ⟨r1, r2.trans g2⟩
theorem shift_0 {P : Nat → Bool} {g : Nat → Nat} : shiftO P 0 g = (0, g) := rfl
theorem shift_go {P : Nat → Bool} {t : Nat} {g : Nat → Nat} (h : P (g t) = true) : shiftO P (t + 1) g = shiftO P t (up g (t + 1) (g t)) := by
  show (if P (g t) = true then _ else _) = _
  rw [if_pos h]
theorem shift_stop {P : Nat → Bool} {t : Nat} {g : Nat → Nat} (h : ¬ P (g t) = true) : shiftO P (t + 1) g = (t + 1, g) := by
  show (if P (g t) = true then _ else _) = _
  rw [if_neg h]
theorem sort_in {a : FSt} {i : Nat} (h : qSt a i = 0) : sortN a (i + 1) = ((sortN a i).1 + 1, insO (aheadA a i) i (sortN a i).1 (sortN a i).2) := by
  show (if qSt a i = 0 then _ else _) = _
  rw [if_pos h]
theorem sort_out {a : FSt} {i : Nat} (h : ¬ qSt a i = 0) : sortN a (i + 1) = sortN a i := by
  show (if qSt a i = 0 then _ else _) = _
  rw [if_neg h]
/-- the queue holds the order's keys, as far as n -/
def QK (a : FSt) (g : Nat → Int32) (o : Nat → Nat) (n : Nat) : Prop := ∀ j, j < n → g j = nI (keyA a (o j))
/-- .. with a hole at t -/
def QH (a : FSt) (g : Nat → Int32) (o : Nat → Nat) (m t i : Nat) : Prop := ∀ j, j ≤ m → j ≠ t → g j = nI (keyA a (o j)) ∧ o j < i ∧ qSt a (o j) = 0
theorem QH_start {a : FSt} {g : Nat → Int32} {i : Nat} (h : QK a g (sortN a i).2 (sortN a i).1) : QH a g (sortN a i).2 (sortN a i).1 (sortN a i).1 i := fun j h1 h2 => ⟨h j (by omega), (sort_ok i).2 j (by omega)⟩
theorem QH_step {a : FSt} {g : Nat → Int32} {o : Nat → Nat} {m t i : Nat} (ht : t + 1 ≤ m) (h : QH a g o m (t + 1) i) : QH a (up g (t + 1) (g t)) (up o (t + 1) (o t)) m t i := fun j h1 h2 => by
  have h3 := h t (by omega) (by omega)
  rcases up_cases o (t + 1) (o t) j with ⟨ej, e⟩ | ⟨ej, e⟩
  · subst ej
    rw [e, up_s]
    exact h3
  · rw [e, up_n ej]
    exact h j h1 ej
theorem QH_end {a : FSt} {g : Nat → Int32} {o : Nat → Nat} {m t i : Nat} (h : QH a g o m t i) {P : Nat → Bool} {g0 : Nat → Nat} (he : shiftO P m g0 = (t, o)) : QK a (up g t (nI (keyA a i))) (insO P i m g0) (m + 1) := fun j hj => by
  unfold insO
  rw [he]
  rcases up_cases o t i j with ⟨ej, e⟩ | ⟨ej, e⟩
  · rw [e, ej, up_s]
  · rw [e, up_n ej]
    exact (h j (by omega) ej).1
end
section
set_option maxHeartbeats 4000000 in
set_option maxRecDepth 100000 in
/-- catchesAhead -/
theorem K_X1_catchesAhead (lch : Launch) (D : va_G) (cA : ClassId) (F : Nat → Nat) (a : FSt) (c : Nat → Int32) (q : Nat → Int32) (i : Nat) (sz : Nat) (hi : i < qN a) (hw1 : WFa a) (hcr : CRa a c) : Met lch yX1_catchesAhead wsX1_catchesAhead ({ frames := 1, cells := 0, slots := 0, locals := 22 }) (Pr D cA [.ref (F 0), .int (nI i)] sz (wF cA F a c q) X0) (va_Qi (fun (r : Int32) (u : Unit) => r = bi (caughtA a i)) (fun _ _ => True) (fun q : Nat => sz ≤ q)) 0 0 (fun q : Nat => sz ≤ q) := by
  refine Met.ofW (cc := cX1_catchesAhead) (maxL := 4) (ret := (some .boolean)) (by decide) rfl ?_
  intro pg ev s mi args below meth cd s₁ B hml hv
  obtain ⟨hav, hsz, hP, hE, hD, hXs⟩ := hv
  have hx := B.exec
  have hb := B.bytes
  have hr := B.returns
  have hts := atoms_spec (ws := wsX1_catchesAhead) B.pre
  have hown : s.vm.findClass RX1 = some mi.cls := findClass_of_methodNamed B.named
  have hlocks := B.notSynchronized
  clear B
  subst hav
  subst hsz
  have hA : ∀ q : Nat, s.heap.size ≤ q → (fun q : Nat => s.heap.size ≤ q) q := fun _ h => h
  have hS : va_S (fun q : Nat => s.heap.size ≤ q) s.heap s.heap [] := va_S.rf
  obtain ⟨QQ, hQQ⟩ : ∃ qq9, qq9 = MQ below (va_Qi (fun (r : Int32) (u : Unit) => r = bi (caughtA a i)) (fun _ _ => True) (fun q : Nat => s.heap.size ≤ q)) ([.ref (F 0), .int (nI i)] : List Value).toArray s 0 0 (fun q : Nat => s.heap.size ≤ q) := ⟨_, rfl⟩
  rw [← hQQ]
  have hl := lv_entry ([.ref (F 0), .int (nI i)]) (n := 4) (Nat.le_of_ble_eq_true rfl)
  rw [lg_entry_eq]
  generalize (lg_sl ([.ref (F 0), .int (nI i)]) ++ List.replicate (4 - (lg_sl ([.ref (F 0), .int (nI i)])).length) Slot.unset).toArray = ls at hl ⊢
  have hl : lv_has ls 4 [(0, .ref (F 0)), (1, .int (nI i))] := hl
  have kf26 := hts (.fieldLink RX1 26 "LanternWeirs$Fleet" "places" "LLanternWeirs$Row;") (by decide +kernel)
  have inX1 : ∀ w ∈ u_ws RX1 TX1 13, w ∈ wsX1_catchesAhead := by decide +kernel
  have kf16 := hts (.fieldLink RX1 16 "LanternWeirs$Fleet" "frames" "LLanternWeirs$Row;") (by decide +kernel)
  have kf44 := hts (.fieldLink RX1 44 "LanternWeirs$Fleet" "crowd" "LLanternWeirs$Row;") (by decide +kernel)
  have kf23 := hts (.fieldLink RX1 23 "LanternWeirs$Fleet" "lanes" "LLanternWeirs$Row;") (by decide +kernel)
  obtain ⟨H, locs, hP, hS, hgo⟩ : ∃ H locs, va_P D vwCl (wF cA F a c q) H ∧ va_S (fun q : Nat => s.heap.size ≤ q) s.heap H locs ∧ (H = s.heap ∧ locs = []) := ⟨_, _, hP, hS, rfl, rfl⟩
  obtain ⟨hg1, hg2⟩ := hgo
  have hgoal : W pg lch ev (headSpec wsX1_catchesAhead ({ frames := 1, cells := 0, slots := 0, locals := 22 })).room s mi ([.ref (F 0), .int (nI i)] : List Value).toArray below meth cd H locs 0 0 QQ (F0 mi 0 ls []) := by
    have hn := hw1.1
    obtain ⟨w1, w2, w3, w4, w5, w6, w7, w8⟩ := hw1.2 i hi
    refine lv_aload_n hx hb dX1_catchesAhead_0 rfl (lv_at hl 0 rfl) ?_
    refine va_get (D := D) (ci := 1) (v := .ref (F 4)) (C := RX1) (T := TX1) (N := 13) hx hb hts inX1 hown hE.1 hP 0 rfl rfl 3 (by decide) kf26 (fun _ h9 => h9) rfl dX1_catchesAhead_1 ?_
    refine lv_iload_n hx hb dX1_catchesAhead_4 rfl (lv_at hl 1 rfl) ?_
    refine pVi (As := [.int (nI i)]) (rest := []) (wc := (wR cA (F 4) (F 15) 41 (fun z9 => nI (qPl a z9)))) ⟨hx, hb, hml, hown, hts⟩ (K_X2_getk lch D cA (F 4) (F 15) 41 (fun z9 => nI (qPl a z9)) i (nI (qPl a i)) H.size (by omega) (Nat.le_of_ble_eq_true rfl) (rfl)) (cwV 1 hts gX1_catchesAhead_X2_get rfl rfl rfl (by decide +kernel) ⟨Nat.le_of_ble_eq_true rfl, Nat.le_of_ble_eq_true rfl⟩) hE hP hD hS hA [4, 15] rfl rfl X0.blind (fun _ _ _ => trivial) 4 2 rfl rfl rfl hl.1 rfl rfl (Nat.le_of_ble_eq_true rfl) dX1_catchesAhead_5 ⟨Nat.zero_le _, Nat.zero_le _⟩ (fun r_1 u_2 H locs h_3 hP hS => ?_)
    subst h_3
    refine lv_iconst (v := 1) hx hb dX1_catchesAhead_8 (by decide) ?_
    refine lv_iadd hx hb dX1_catchesAhead_9 ?_
    refine top_i (y := nI ((qPl a i) + 1)) (nI_add _ _) ?_
    refine lv_istore_n (lv' := [(2, .int (nI ((qPl a i) + 1))), (0, .ref (F 0)), (1, .int (nI i))]) hx hb dX1_catchesAhead_10 rfl hl (by decide) rfl (fun ls hl => ?_)
    refine lv_iconst (v := 0) hx hb dX1_catchesAhead_11 (by decide) ?_
    refine lv_istore_n (lv' := [(3, .int 0), (2, .int (nI ((qPl a i) + 1))), (0, .ref (F 0)), (1, .int (nI i))]) hx hb dX1_catchesAhead_12 rfl hl (by decide) rfl (fun ls hl => ?_)
    refine lv_iload_n hx hb dX1_catchesAhead_13 rfl (lv_at hl 0 rfl) ?_
    refine lv_iconst (v := 3) hx hb dX1_catchesAhead_14 (by decide) ?_
    refine lv_icmp_ge (tgt := 61) hx hb dX1_catchesAhead_15 (by decide) (fun c15 => ?_) (fun c15 => ?_)
    · skip
      exfalso; revert c15; decide
    · skip
      have c15 := (not_congr (nI_leI (a := 3) (b := 0) (by omega) (by omega))).mp c15
      refine lv_iload_n hx hb dX1_catchesAhead_18 rfl (lv_at hl 0 rfl) ?_
      refine lv_aload_n hx hb dX1_catchesAhead_19 rfl (lv_at hl 2 rfl) ?_
      refine va_get (D := D) (ci := 1) (v := .ref (F 1)) (C := RX1) (T := TX1) (N := 13) hx hb hts inX1 hown hE.1 hP 0 rfl rfl 0 (by decide) kf16 (fun _ h9 => h9) rfl dX1_catchesAhead_20 ?_
      refine lv_iload_n hx hb dX1_catchesAhead_23 rfl (lv_at hl 3 rfl) ?_
      refine pVi (As := [.int (nI i)]) (rest := [.int 0]) (wc := (wR cA (F 1) (F 12) 41 (fun z9 => nI (qFr a z9)))) ⟨hx, hb, hml, hown, hts⟩ (K_X2_getk lch D cA (F 1) (F 12) 41 (fun z9 => nI (qFr a z9)) i (nI (qFr a i)) H.size (by omega) (Nat.le_of_ble_eq_true rfl) (rfl)) (cwV 1 hts gX1_catchesAhead_X2_get rfl rfl rfl (by decide +kernel) ⟨Nat.le_of_ble_eq_true rfl, Nat.le_of_ble_eq_true rfl⟩) hE hP hD hS hA [1, 12] rfl rfl X0.blind (fun _ _ _ => trivial) 1 2 rfl rfl rfl hl.1 rfl rfl (Nat.le_of_ble_eq_true rfl) dX1_catchesAhead_24 ⟨Nat.zero_le _, Nat.zero_le _⟩ (fun r_4 u_5 H locs h_6 hP hS => ?_)
      subst h_6
      refine lv_icmp_eq (tgt := 55) hx hb dX1_catchesAhead_27 (by decide) (fun c27 => ?_) (fun c27 => ?_)
      · skip
        have c27 := (nI_eq (a := 0) (b := qFr a i) (by omega) (by omega)).mp c27
        refine lv_iinc (v := 1) (lv' := [(3, .int 1), (2, .int (nI ((qPl a i) + 1))), (0, .ref (F 0)), (1, .int (nI i))]) hx hb dX1_catchesAhead_55 hl (k := 0) rfl (by decide) (by decide) rfl (fun ls hl => ?_)
        refine lv_goto (tgt := 13) hx hb dX1_catchesAhead_58 (by decide) ?_
        refine lv_iload_n hx hb dX1_catchesAhead_13 rfl (lv_at hl 0 rfl) ?_
        refine lv_iconst (v := 3) hx hb dX1_catchesAhead_14 (by decide) ?_
        refine lv_icmp_ge (tgt := 61) hx hb dX1_catchesAhead_15 (by decide) (fun c15_1 => ?_) (fun c15_1 => ?_)
        · skip
          exfalso; revert c15_1; decide
        · skip
          have c15_1 := (not_congr (nI_leI (a := 3) (b := 1) (by omega) (by omega))).mp c15_1
          refine lv_iload_n hx hb dX1_catchesAhead_18 rfl (lv_at hl 0 rfl) ?_
          refine lv_aload_n hx hb dX1_catchesAhead_19 rfl (lv_at hl 2 rfl) ?_
          refine va_get (D := D) (ci := 1) (v := .ref (F 1)) (C := RX1) (T := TX1) (N := 13) hx hb hts inX1 hown hE.1 hP 0 rfl rfl 0 (by decide) kf16 (fun _ h9 => h9) rfl dX1_catchesAhead_20 ?_
          refine lv_iload_n hx hb dX1_catchesAhead_23 rfl (lv_at hl 3 rfl) ?_
          refine pVi (As := [.int (nI i)]) (rest := [.int 1]) (wc := (wR cA (F 1) (F 12) 41 (fun z9 => nI (qFr a z9)))) ⟨hx, hb, hml, hown, hts⟩ (K_X2_getk lch D cA (F 1) (F 12) 41 (fun z9 => nI (qFr a z9)) i (nI (qFr a i)) H.size (by omega) (Nat.le_of_ble_eq_true rfl) (rfl)) (cwV 1 hts gX1_catchesAhead_X2_get rfl rfl rfl (by decide +kernel) ⟨Nat.le_of_ble_eq_true rfl, Nat.le_of_ble_eq_true rfl⟩) hE hP hD hS hA [1, 12] rfl rfl X0.blind (fun _ _ _ => trivial) 1 2 rfl rfl rfl hl.1 rfl rfl (Nat.le_of_ble_eq_true rfl) dX1_catchesAhead_24 ⟨Nat.zero_le _, Nat.zero_le _⟩ (fun r_7 u_8 H locs h_9 hP hS => ?_)
          subst h_9
          refine lv_icmp_eq (tgt := 55) hx hb dX1_catchesAhead_27 (by decide) (fun c27_1 => ?_) (fun c27_1 => ?_)
          · skip
            have c27_1 := (nI_eq (a := 1) (b := qFr a i) (by omega) (by omega)).mp c27_1
            refine lv_iinc (v := 2) (lv' := [(3, .int 2), (2, .int (nI ((qPl a i) + 1))), (0, .ref (F 0)), (1, .int (nI i))]) hx hb dX1_catchesAhead_55 hl (k := 0) rfl (by decide) (by decide) rfl (fun ls hl => ?_)
            refine lv_goto (tgt := 13) hx hb dX1_catchesAhead_58 (by decide) ?_
            refine lv_iload_n hx hb dX1_catchesAhead_13 rfl (lv_at hl 0 rfl) ?_
            refine lv_iconst (v := 3) hx hb dX1_catchesAhead_14 (by decide) ?_
            refine lv_icmp_ge (tgt := 61) hx hb dX1_catchesAhead_15 (by decide) (fun c15_2 => ?_) (fun c15_2 => ?_)
            · skip
              exfalso; revert c15_2; decide
            · skip
              have c15_2 := (not_congr (nI_leI (a := 3) (b := 2) (by omega) (by omega))).mp c15_2
              refine lv_iload_n hx hb dX1_catchesAhead_18 rfl (lv_at hl 0 rfl) ?_
              refine lv_aload_n hx hb dX1_catchesAhead_19 rfl (lv_at hl 2 rfl) ?_
              refine va_get (D := D) (ci := 1) (v := .ref (F 1)) (C := RX1) (T := TX1) (N := 13) hx hb hts inX1 hown hE.1 hP 0 rfl rfl 0 (by decide) kf16 (fun _ h9 => h9) rfl dX1_catchesAhead_20 ?_
              refine lv_iload_n hx hb dX1_catchesAhead_23 rfl (lv_at hl 3 rfl) ?_
              refine pVi (As := [.int (nI i)]) (rest := [.int 2]) (wc := (wR cA (F 1) (F 12) 41 (fun z9 => nI (qFr a z9)))) ⟨hx, hb, hml, hown, hts⟩ (K_X2_getk lch D cA (F 1) (F 12) 41 (fun z9 => nI (qFr a z9)) i (nI (qFr a i)) H.size (by omega) (Nat.le_of_ble_eq_true rfl) (rfl)) (cwV 1 hts gX1_catchesAhead_X2_get rfl rfl rfl (by decide +kernel) ⟨Nat.le_of_ble_eq_true rfl, Nat.le_of_ble_eq_true rfl⟩) hE hP hD hS hA [1, 12] rfl rfl X0.blind (fun _ _ _ => trivial) 1 2 rfl rfl rfl hl.1 rfl rfl (Nat.le_of_ble_eq_true rfl) dX1_catchesAhead_24 ⟨Nat.zero_le _, Nat.zero_le _⟩ (fun r_10 u_11 H locs h_12 hP hS => ?_)
              subst h_12
              refine lv_icmp_eq (tgt := 55) hx hb dX1_catchesAhead_27 (by decide) (fun c27_2 => ?_) (fun c27_2 => ?_)
              · skip
                have c27_2 := (nI_eq (a := 2) (b := qFr a i) (by omega) (by omega)).mp c27_2
                refine lv_iinc (v := 3) (lv' := [(3, .int 3), (2, .int (nI ((qPl a i) + 1))), (0, .ref (F 0)), (1, .int (nI i))]) hx hb dX1_catchesAhead_55 hl (k := 0) rfl (by decide) (by decide) rfl (fun ls hl => ?_)
                refine lv_goto (tgt := 13) hx hb dX1_catchesAhead_58 (by decide) ?_
                refine lv_iload_n hx hb dX1_catchesAhead_13 rfl (lv_at hl 0 rfl) ?_
                refine lv_iconst (v := 3) hx hb dX1_catchesAhead_14 (by decide) ?_
                refine lv_icmp_ge (tgt := 61) hx hb dX1_catchesAhead_15 (by decide) (fun c15_3 => ?_) (fun c15_3 => ?_)
                · skip
                  have c15_3 := (nI_leI (a := 3) (b := 3) (by omega) (by omega)).mp c15_3
                  refine lv_iconst (v := 0) hx hb dX1_catchesAhead_61 (by decide) ?_
                  rw [hQQ]
                  exact W.zret (v := 0) hx hb hr (by decide) (fun t ht hW => ⟨⟨0, (), rfl, catch_f hw1 hcr hi (Or.inl c27) (Or.inl c27_1) (Or.inl c27_2), trivial⟩, hS.F ht⟩) hS.2.2 dX1_catchesAhead_62
                · skip
                  exfalso; revert c15_3; decide
              · skip
                have c27_2 := (not_congr (nI_eq (a := 2) (b := qFr a i) (by omega) (by omega))).mp c27_2
                refine lv_aload_n hx hb dX1_catchesAhead_30 rfl (lv_at hl 2 rfl) ?_
                refine va_get (D := D) (ci := 1) (v := .ref (F 10)) (C := RX1) (T := TX1) (N := 13) hx hb hts inX1 hown hE.1 hP 0 rfl rfl 9 (by decide) kf44 (fun _ h9 => h9) rfl dX1_catchesAhead_31 ?_
                refine lv_aload_n hx hb dX1_catchesAhead_34 rfl (lv_at hl 2 rfl) ?_
                refine va_get (D := D) (ci := 1) (v := .ref (F 3)) (C := RX1) (T := TX1) (N := 13) hx hb hts inX1 hown hE.1 hP 0 rfl rfl 2 (by decide) kf23 (fun _ h9 => h9) rfl dX1_catchesAhead_35 ?_
                refine lv_iload_n hx hb dX1_catchesAhead_38 rfl (lv_at hl 3 rfl) ?_
                refine pVi (As := [.int (nI i)]) (rest := [.ref (F 10)]) (wc := (wR cA (F 3) (F 14) 41 (fun z9 => nI (qLa a z9)))) ⟨hx, hb, hml, hown, hts⟩ (K_X2_getk lch D cA (F 3) (F 14) 41 (fun z9 => nI (qLa a z9)) i (nI (qLa a i)) H.size (by omega) (Nat.le_of_ble_eq_true rfl) (rfl)) (cwV 1 hts gX1_catchesAhead_X2_get rfl rfl rfl (by decide +kernel) ⟨Nat.le_of_ble_eq_true rfl, Nat.le_of_ble_eq_true rfl⟩) hE hP hD hS hA [3, 14] rfl rfl X0.blind (fun _ _ _ => trivial) 3 2 rfl rfl rfl hl.1 rfl rfl (Nat.le_of_ble_eq_true rfl) dX1_catchesAhead_39 ⟨Nat.zero_le _, Nat.zero_le _⟩ (fun r_13 u_14 H locs h_15 hP hS => ?_)
                subst h_15
                refine lv_iload_n hx hb dX1_catchesAhead_42 rfl (lv_at hl 1 rfl) ?_
                refine lv_iload_n hx hb dX1_catchesAhead_43 rfl (lv_at hl 0 rfl) ?_
                refine pSi (As := [.int (nI (qLa a i)), .int (nI ((qPl a i) + 1)), .int 2]) (rest := [.ref (F 10)]) (wc := ([] : va_W)) ⟨hx, hb, hml, hown, hts⟩ (K_X1_cell lch D cA (qLa a i) ((qPl a i) + 1) 2 H.size (by first | assumption | omega)) (cwS 3 hts gX1_catchesAhead_X1_cell rfl rfl rfl (by decide +kernel) ⟨Nat.le_of_ble_eq_true rfl, Nat.le_of_ble_eq_true rfl⟩) hE hP hD hS hA [] rfl rfl X0.blind (fun _ _ _ => trivial) hl.1 rfl rfl (Nat.le_of_ble_eq_true rfl) dX1_catchesAhead_44 ⟨Nat.zero_le _, Nat.zero_le _⟩ (fun r_16 u_17 H locs h_18 hP hS => ?_)
                subst h_18
                refine pVi (As := [.int (ck (qLa a i) ((qPl a i) + 1) 2)]) (rest := []) (wc := (wR cA (F 10) (F 21) 540 c)) ⟨hx, hb, hml, hown, hts⟩ (K_X2_get lch D cA (F 10) (F 21) 540 c (ck (qLa a i) ((qPl a i) + 1) 2) H.size (Nat.le_of_ble_eq_true rfl)) (cwV 1 hts gX1_catchesAhead_X2_get rfl rfl rfl (by decide +kernel) ⟨Nat.le_of_ble_eq_true rfl, Nat.le_of_ble_eq_true rfl⟩) hE hP hD hS hA [10, 21] rfl rfl X0.blind (fun _ _ _ => trivial) 10 2 rfl rfl rfl hl.1 rfl rfl (Nat.le_of_ble_eq_true rfl) dX1_catchesAhead_47 ⟨Nat.zero_le _, Nat.zero_le _⟩ (fun r_19 u_20 H locs h_21 hP hS => ?_)
                subst h_21
                refine lv_if_le (tgt := 55) hx hb dX1_catchesAhead_50 (by decide) (fun c50 => ?_) (fun c50 => ?_)
                · skip
                  refine lv_iinc (v := 3) (lv' := [(3, .int 3), (2, .int (nI ((qPl a i) + 1))), (0, .ref (F 0)), (1, .int (nI i))]) hx hb dX1_catchesAhead_55 hl (k := 0) rfl (by decide) (by decide) rfl (fun ls hl => ?_)
                  refine lv_goto (tgt := 13) hx hb dX1_catchesAhead_58 (by decide) ?_
                  refine lv_iload_n hx hb dX1_catchesAhead_13 rfl (lv_at hl 0 rfl) ?_
                  refine lv_iconst (v := 3) hx hb dX1_catchesAhead_14 (by decide) ?_
                  refine lv_icmp_ge (tgt := 61) hx hb dX1_catchesAhead_15 (by decide) (fun c15_3 => ?_) (fun c15_3 => ?_)
                  · skip
                    have c15_3 := (nI_leI (a := 3) (b := 3) (by omega) (by omega)).mp c15_3
                    refine lv_iconst (v := 0) hx hb dX1_catchesAhead_61 (by decide) ?_
                    rw [hQQ]
                    exact W.zret (v := 0) hx hb hr (by decide) (fun t ht hW => ⟨⟨0, (), rfl, catch_f hw1 hcr hi (Or.inl c27) (Or.inl c27_1) (Or.inr c50), trivial⟩, hS.F ht⟩) hS.2.2 dX1_catchesAhead_62
                  · skip
                    exfalso; revert c15_3; decide
                · skip
                  refine lv_iconst (v := 1) hx hb dX1_catchesAhead_53 (by decide) ?_
                  rw [hQQ]
                  exact W.zret (v := 1) hx hb hr (by decide) (fun t ht hW => ⟨⟨1, (), rfl, catch_t hw1 hcr hi (f := 2) (by decide) c27_2 c50, trivial⟩, hS.F ht⟩) hS.2.2 dX1_catchesAhead_54
          · skip
            have c27_1 := (not_congr (nI_eq (a := 1) (b := qFr a i) (by omega) (by omega))).mp c27_1
            refine lv_aload_n hx hb dX1_catchesAhead_30 rfl (lv_at hl 2 rfl) ?_
            refine va_get (D := D) (ci := 1) (v := .ref (F 10)) (C := RX1) (T := TX1) (N := 13) hx hb hts inX1 hown hE.1 hP 0 rfl rfl 9 (by decide) kf44 (fun _ h9 => h9) rfl dX1_catchesAhead_31 ?_
            refine lv_aload_n hx hb dX1_catchesAhead_34 rfl (lv_at hl 2 rfl) ?_
            refine va_get (D := D) (ci := 1) (v := .ref (F 3)) (C := RX1) (T := TX1) (N := 13) hx hb hts inX1 hown hE.1 hP 0 rfl rfl 2 (by decide) kf23 (fun _ h9 => h9) rfl dX1_catchesAhead_35 ?_
            refine lv_iload_n hx hb dX1_catchesAhead_38 rfl (lv_at hl 3 rfl) ?_
            refine pVi (As := [.int (nI i)]) (rest := [.ref (F 10)]) (wc := (wR cA (F 3) (F 14) 41 (fun z9 => nI (qLa a z9)))) ⟨hx, hb, hml, hown, hts⟩ (K_X2_getk lch D cA (F 3) (F 14) 41 (fun z9 => nI (qLa a z9)) i (nI (qLa a i)) H.size (by omega) (Nat.le_of_ble_eq_true rfl) (rfl)) (cwV 1 hts gX1_catchesAhead_X2_get rfl rfl rfl (by decide +kernel) ⟨Nat.le_of_ble_eq_true rfl, Nat.le_of_ble_eq_true rfl⟩) hE hP hD hS hA [3, 14] rfl rfl X0.blind (fun _ _ _ => trivial) 3 2 rfl rfl rfl hl.1 rfl rfl (Nat.le_of_ble_eq_true rfl) dX1_catchesAhead_39 ⟨Nat.zero_le _, Nat.zero_le _⟩ (fun r_22 u_23 H locs h_24 hP hS => ?_)
            subst h_24
            refine lv_iload_n hx hb dX1_catchesAhead_42 rfl (lv_at hl 1 rfl) ?_
            refine lv_iload_n hx hb dX1_catchesAhead_43 rfl (lv_at hl 0 rfl) ?_
            refine pSi (As := [.int (nI (qLa a i)), .int (nI ((qPl a i) + 1)), .int 1]) (rest := [.ref (F 10)]) (wc := ([] : va_W)) ⟨hx, hb, hml, hown, hts⟩ (K_X1_cell lch D cA (qLa a i) ((qPl a i) + 1) 1 H.size (by first | assumption | omega)) (cwS 3 hts gX1_catchesAhead_X1_cell rfl rfl rfl (by decide +kernel) ⟨Nat.le_of_ble_eq_true rfl, Nat.le_of_ble_eq_true rfl⟩) hE hP hD hS hA [] rfl rfl X0.blind (fun _ _ _ => trivial) hl.1 rfl rfl (Nat.le_of_ble_eq_true rfl) dX1_catchesAhead_44 ⟨Nat.zero_le _, Nat.zero_le _⟩ (fun r_25 u_26 H locs h_27 hP hS => ?_)
            subst h_27
            refine pVi (As := [.int (ck (qLa a i) ((qPl a i) + 1) 1)]) (rest := []) (wc := (wR cA (F 10) (F 21) 540 c)) ⟨hx, hb, hml, hown, hts⟩ (K_X2_get lch D cA (F 10) (F 21) 540 c (ck (qLa a i) ((qPl a i) + 1) 1) H.size (Nat.le_of_ble_eq_true rfl)) (cwV 1 hts gX1_catchesAhead_X2_get rfl rfl rfl (by decide +kernel) ⟨Nat.le_of_ble_eq_true rfl, Nat.le_of_ble_eq_true rfl⟩) hE hP hD hS hA [10, 21] rfl rfl X0.blind (fun _ _ _ => trivial) 10 2 rfl rfl rfl hl.1 rfl rfl (Nat.le_of_ble_eq_true rfl) dX1_catchesAhead_47 ⟨Nat.zero_le _, Nat.zero_le _⟩ (fun r_28 u_29 H locs h_30 hP hS => ?_)
            subst h_30
            refine lv_if_le (tgt := 55) hx hb dX1_catchesAhead_50 (by decide) (fun c50 => ?_) (fun c50 => ?_)
            · skip
              refine lv_iinc (v := 2) (lv' := [(3, .int 2), (2, .int (nI ((qPl a i) + 1))), (0, .ref (F 0)), (1, .int (nI i))]) hx hb dX1_catchesAhead_55 hl (k := 0) rfl (by decide) (by decide) rfl (fun ls hl => ?_)
              refine lv_goto (tgt := 13) hx hb dX1_catchesAhead_58 (by decide) ?_
              refine lv_iload_n hx hb dX1_catchesAhead_13 rfl (lv_at hl 0 rfl) ?_
              refine lv_iconst (v := 3) hx hb dX1_catchesAhead_14 (by decide) ?_
              refine lv_icmp_ge (tgt := 61) hx hb dX1_catchesAhead_15 (by decide) (fun c15_2 => ?_) (fun c15_2 => ?_)
              · skip
                exfalso; revert c15_2; decide
              · skip
                have c15_2 := (not_congr (nI_leI (a := 3) (b := 2) (by omega) (by omega))).mp c15_2
                refine lv_iload_n hx hb dX1_catchesAhead_18 rfl (lv_at hl 0 rfl) ?_
                refine lv_aload_n hx hb dX1_catchesAhead_19 rfl (lv_at hl 2 rfl) ?_
                refine va_get (D := D) (ci := 1) (v := .ref (F 1)) (C := RX1) (T := TX1) (N := 13) hx hb hts inX1 hown hE.1 hP 0 rfl rfl 0 (by decide) kf16 (fun _ h9 => h9) rfl dX1_catchesAhead_20 ?_
                refine lv_iload_n hx hb dX1_catchesAhead_23 rfl (lv_at hl 3 rfl) ?_
                refine pVi (As := [.int (nI i)]) (rest := [.int 2]) (wc := (wR cA (F 1) (F 12) 41 (fun z9 => nI (qFr a z9)))) ⟨hx, hb, hml, hown, hts⟩ (K_X2_getk lch D cA (F 1) (F 12) 41 (fun z9 => nI (qFr a z9)) i (nI (qFr a i)) H.size (by omega) (Nat.le_of_ble_eq_true rfl) (rfl)) (cwV 1 hts gX1_catchesAhead_X2_get rfl rfl rfl (by decide +kernel) ⟨Nat.le_of_ble_eq_true rfl, Nat.le_of_ble_eq_true rfl⟩) hE hP hD hS hA [1, 12] rfl rfl X0.blind (fun _ _ _ => trivial) 1 2 rfl rfl rfl hl.1 rfl rfl (Nat.le_of_ble_eq_true rfl) dX1_catchesAhead_24 ⟨Nat.zero_le _, Nat.zero_le _⟩ (fun r_31 u_32 H locs h_33 hP hS => ?_)
                subst h_33
                refine lv_icmp_eq (tgt := 55) hx hb dX1_catchesAhead_27 (by decide) (fun c27_2 => ?_) (fun c27_2 => ?_)
                · skip
                  have c27_2 := (nI_eq (a := 2) (b := qFr a i) (by omega) (by omega)).mp c27_2
                  refine lv_iinc (v := 3) (lv' := [(3, .int 3), (2, .int (nI ((qPl a i) + 1))), (0, .ref (F 0)), (1, .int (nI i))]) hx hb dX1_catchesAhead_55 hl (k := 0) rfl (by decide) (by decide) rfl (fun ls hl => ?_)
                  refine lv_goto (tgt := 13) hx hb dX1_catchesAhead_58 (by decide) ?_
                  refine lv_iload_n hx hb dX1_catchesAhead_13 rfl (lv_at hl 0 rfl) ?_
                  refine lv_iconst (v := 3) hx hb dX1_catchesAhead_14 (by decide) ?_
                  refine lv_icmp_ge (tgt := 61) hx hb dX1_catchesAhead_15 (by decide) (fun c15_3 => ?_) (fun c15_3 => ?_)
                  · skip
                    have c15_3 := (nI_leI (a := 3) (b := 3) (by omega) (by omega)).mp c15_3
                    refine lv_iconst (v := 0) hx hb dX1_catchesAhead_61 (by decide) ?_
                    rw [hQQ]
                    exact W.zret (v := 0) hx hb hr (by decide) (fun t ht hW => ⟨⟨0, (), rfl, catch_f hw1 hcr hi (Or.inl c27) (Or.inr c50) (Or.inl c27_2), trivial⟩, hS.F ht⟩) hS.2.2 dX1_catchesAhead_62
                  · skip
                    exfalso; revert c15_3; decide
                · skip
                  have c27_2 := (not_congr (nI_eq (a := 2) (b := qFr a i) (by omega) (by omega))).mp c27_2
                  refine lv_aload_n hx hb dX1_catchesAhead_30 rfl (lv_at hl 2 rfl) ?_
                  refine va_get (D := D) (ci := 1) (v := .ref (F 10)) (C := RX1) (T := TX1) (N := 13) hx hb hts inX1 hown hE.1 hP 0 rfl rfl 9 (by decide) kf44 (fun _ h9 => h9) rfl dX1_catchesAhead_31 ?_
                  refine lv_aload_n hx hb dX1_catchesAhead_34 rfl (lv_at hl 2 rfl) ?_
                  refine va_get (D := D) (ci := 1) (v := .ref (F 3)) (C := RX1) (T := TX1) (N := 13) hx hb hts inX1 hown hE.1 hP 0 rfl rfl 2 (by decide) kf23 (fun _ h9 => h9) rfl dX1_catchesAhead_35 ?_
                  refine lv_iload_n hx hb dX1_catchesAhead_38 rfl (lv_at hl 3 rfl) ?_
                  refine pVi (As := [.int (nI i)]) (rest := [.ref (F 10)]) (wc := (wR cA (F 3) (F 14) 41 (fun z9 => nI (qLa a z9)))) ⟨hx, hb, hml, hown, hts⟩ (K_X2_getk lch D cA (F 3) (F 14) 41 (fun z9 => nI (qLa a z9)) i (nI (qLa a i)) H.size (by omega) (Nat.le_of_ble_eq_true rfl) (rfl)) (cwV 1 hts gX1_catchesAhead_X2_get rfl rfl rfl (by decide +kernel) ⟨Nat.le_of_ble_eq_true rfl, Nat.le_of_ble_eq_true rfl⟩) hE hP hD hS hA [3, 14] rfl rfl X0.blind (fun _ _ _ => trivial) 3 2 rfl rfl rfl hl.1 rfl rfl (Nat.le_of_ble_eq_true rfl) dX1_catchesAhead_39 ⟨Nat.zero_le _, Nat.zero_le _⟩ (fun r_34 u_35 H locs h_36 hP hS => ?_)
                  subst h_36
                  refine lv_iload_n hx hb dX1_catchesAhead_42 rfl (lv_at hl 1 rfl) ?_
                  refine lv_iload_n hx hb dX1_catchesAhead_43 rfl (lv_at hl 0 rfl) ?_
                  refine pSi (As := [.int (nI (qLa a i)), .int (nI ((qPl a i) + 1)), .int 2]) (rest := [.ref (F 10)]) (wc := ([] : va_W)) ⟨hx, hb, hml, hown, hts⟩ (K_X1_cell lch D cA (qLa a i) ((qPl a i) + 1) 2 H.size (by first | assumption | omega)) (cwS 3 hts gX1_catchesAhead_X1_cell rfl rfl rfl (by decide +kernel) ⟨Nat.le_of_ble_eq_true rfl, Nat.le_of_ble_eq_true rfl⟩) hE hP hD hS hA [] rfl rfl X0.blind (fun _ _ _ => trivial) hl.1 rfl rfl (Nat.le_of_ble_eq_true rfl) dX1_catchesAhead_44 ⟨Nat.zero_le _, Nat.zero_le _⟩ (fun r_37 u_38 H locs h_39 hP hS => ?_)
                  subst h_39
                  refine pVi (As := [.int (ck (qLa a i) ((qPl a i) + 1) 2)]) (rest := []) (wc := (wR cA (F 10) (F 21) 540 c)) ⟨hx, hb, hml, hown, hts⟩ (K_X2_get lch D cA (F 10) (F 21) 540 c (ck (qLa a i) ((qPl a i) + 1) 2) H.size (Nat.le_of_ble_eq_true rfl)) (cwV 1 hts gX1_catchesAhead_X2_get rfl rfl rfl (by decide +kernel) ⟨Nat.le_of_ble_eq_true rfl, Nat.le_of_ble_eq_true rfl⟩) hE hP hD hS hA [10, 21] rfl rfl X0.blind (fun _ _ _ => trivial) 10 2 rfl rfl rfl hl.1 rfl rfl (Nat.le_of_ble_eq_true rfl) dX1_catchesAhead_47 ⟨Nat.zero_le _, Nat.zero_le _⟩ (fun r_40 u_41 H locs h_42 hP hS => ?_)
                  subst h_42
                  refine lv_if_le (tgt := 55) hx hb dX1_catchesAhead_50 (by decide) (fun c50_1 => ?_) (fun c50_1 => ?_)
                  · skip
                    refine lv_iinc (v := 3) (lv' := [(3, .int 3), (2, .int (nI ((qPl a i) + 1))), (0, .ref (F 0)), (1, .int (nI i))]) hx hb dX1_catchesAhead_55 hl (k := 0) rfl (by decide) (by decide) rfl (fun ls hl => ?_)
                    refine lv_goto (tgt := 13) hx hb dX1_catchesAhead_58 (by decide) ?_
                    refine lv_iload_n hx hb dX1_catchesAhead_13 rfl (lv_at hl 0 rfl) ?_
                    refine lv_iconst (v := 3) hx hb dX1_catchesAhead_14 (by decide) ?_
                    refine lv_icmp_ge (tgt := 61) hx hb dX1_catchesAhead_15 (by decide) (fun c15_3 => ?_) (fun c15_3 => ?_)
                    · skip
                      have c15_3 := (nI_leI (a := 3) (b := 3) (by omega) (by omega)).mp c15_3
                      refine lv_iconst (v := 0) hx hb dX1_catchesAhead_61 (by decide) ?_
                      rw [hQQ]
                      exact W.zret (v := 0) hx hb hr (by decide) (fun t ht hW => ⟨⟨0, (), rfl, catch_f hw1 hcr hi (Or.inl c27) (Or.inr c50) (Or.inr c50_1), trivial⟩, hS.F ht⟩) hS.2.2 dX1_catchesAhead_62
                    · skip
                      exfalso; revert c15_3; decide
                  · skip
                    refine lv_iconst (v := 1) hx hb dX1_catchesAhead_53 (by decide) ?_
                    rw [hQQ]
                    exact W.zret (v := 1) hx hb hr (by decide) (fun t ht hW => ⟨⟨1, (), rfl, catch_t hw1 hcr hi (f := 2) (by decide) c27_2 c50_1, trivial⟩, hS.F ht⟩) hS.2.2 dX1_catchesAhead_54
            · skip
              refine lv_iconst (v := 1) hx hb dX1_catchesAhead_53 (by decide) ?_
              rw [hQQ]
              exact W.zret (v := 1) hx hb hr (by decide) (fun t ht hW => ⟨⟨1, (), rfl, catch_t hw1 hcr hi (f := 1) (by decide) c27_1 c50, trivial⟩, hS.F ht⟩) hS.2.2 dX1_catchesAhead_54
      · skip
        have c27 := (not_congr (nI_eq (a := 0) (b := qFr a i) (by omega) (by omega))).mp c27
        refine lv_aload_n hx hb dX1_catchesAhead_30 rfl (lv_at hl 2 rfl) ?_
        refine va_get (D := D) (ci := 1) (v := .ref (F 10)) (C := RX1) (T := TX1) (N := 13) hx hb hts inX1 hown hE.1 hP 0 rfl rfl 9 (by decide) kf44 (fun _ h9 => h9) rfl dX1_catchesAhead_31 ?_
        refine lv_aload_n hx hb dX1_catchesAhead_34 rfl (lv_at hl 2 rfl) ?_
        refine va_get (D := D) (ci := 1) (v := .ref (F 3)) (C := RX1) (T := TX1) (N := 13) hx hb hts inX1 hown hE.1 hP 0 rfl rfl 2 (by decide) kf23 (fun _ h9 => h9) rfl dX1_catchesAhead_35 ?_
        refine lv_iload_n hx hb dX1_catchesAhead_38 rfl (lv_at hl 3 rfl) ?_
        refine pVi (As := [.int (nI i)]) (rest := [.ref (F 10)]) (wc := (wR cA (F 3) (F 14) 41 (fun z9 => nI (qLa a z9)))) ⟨hx, hb, hml, hown, hts⟩ (K_X2_getk lch D cA (F 3) (F 14) 41 (fun z9 => nI (qLa a z9)) i (nI (qLa a i)) H.size (by omega) (Nat.le_of_ble_eq_true rfl) (rfl)) (cwV 1 hts gX1_catchesAhead_X2_get rfl rfl rfl (by decide +kernel) ⟨Nat.le_of_ble_eq_true rfl, Nat.le_of_ble_eq_true rfl⟩) hE hP hD hS hA [3, 14] rfl rfl X0.blind (fun _ _ _ => trivial) 3 2 rfl rfl rfl hl.1 rfl rfl (Nat.le_of_ble_eq_true rfl) dX1_catchesAhead_39 ⟨Nat.zero_le _, Nat.zero_le _⟩ (fun r_43 u_44 H locs h_45 hP hS => ?_)
        subst h_45
        refine lv_iload_n hx hb dX1_catchesAhead_42 rfl (lv_at hl 1 rfl) ?_
        refine lv_iload_n hx hb dX1_catchesAhead_43 rfl (lv_at hl 0 rfl) ?_
        refine pSi (As := [.int (nI (qLa a i)), .int (nI ((qPl a i) + 1)), .int 0]) (rest := [.ref (F 10)]) (wc := ([] : va_W)) ⟨hx, hb, hml, hown, hts⟩ (K_X1_cell lch D cA (qLa a i) ((qPl a i) + 1) 0 H.size (by first | assumption | omega)) (cwS 3 hts gX1_catchesAhead_X1_cell rfl rfl rfl (by decide +kernel) ⟨Nat.le_of_ble_eq_true rfl, Nat.le_of_ble_eq_true rfl⟩) hE hP hD hS hA [] rfl rfl X0.blind (fun _ _ _ => trivial) hl.1 rfl rfl (Nat.le_of_ble_eq_true rfl) dX1_catchesAhead_44 ⟨Nat.zero_le _, Nat.zero_le _⟩ (fun r_46 u_47 H locs h_48 hP hS => ?_)
        subst h_48
        refine pVi (As := [.int (ck (qLa a i) ((qPl a i) + 1) 0)]) (rest := []) (wc := (wR cA (F 10) (F 21) 540 c)) ⟨hx, hb, hml, hown, hts⟩ (K_X2_get lch D cA (F 10) (F 21) 540 c (ck (qLa a i) ((qPl a i) + 1) 0) H.size (Nat.le_of_ble_eq_true rfl)) (cwV 1 hts gX1_catchesAhead_X2_get rfl rfl rfl (by decide +kernel) ⟨Nat.le_of_ble_eq_true rfl, Nat.le_of_ble_eq_true rfl⟩) hE hP hD hS hA [10, 21] rfl rfl X0.blind (fun _ _ _ => trivial) 10 2 rfl rfl rfl hl.1 rfl rfl (Nat.le_of_ble_eq_true rfl) dX1_catchesAhead_47 ⟨Nat.zero_le _, Nat.zero_le _⟩ (fun r_49 u_50 H locs h_51 hP hS => ?_)
        subst h_51
        refine lv_if_le (tgt := 55) hx hb dX1_catchesAhead_50 (by decide) (fun c50 => ?_) (fun c50 => ?_)
        · skip
          refine lv_iinc (v := 1) (lv' := [(3, .int 1), (2, .int (nI ((qPl a i) + 1))), (0, .ref (F 0)), (1, .int (nI i))]) hx hb dX1_catchesAhead_55 hl (k := 0) rfl (by decide) (by decide) rfl (fun ls hl => ?_)
          refine lv_goto (tgt := 13) hx hb dX1_catchesAhead_58 (by decide) ?_
          refine lv_iload_n hx hb dX1_catchesAhead_13 rfl (lv_at hl 0 rfl) ?_
          refine lv_iconst (v := 3) hx hb dX1_catchesAhead_14 (by decide) ?_
          refine lv_icmp_ge (tgt := 61) hx hb dX1_catchesAhead_15 (by decide) (fun c15_1 => ?_) (fun c15_1 => ?_)
          · skip
            exfalso; revert c15_1; decide
          · skip
            have c15_1 := (not_congr (nI_leI (a := 3) (b := 1) (by omega) (by omega))).mp c15_1
            refine lv_iload_n hx hb dX1_catchesAhead_18 rfl (lv_at hl 0 rfl) ?_
            refine lv_aload_n hx hb dX1_catchesAhead_19 rfl (lv_at hl 2 rfl) ?_
            refine va_get (D := D) (ci := 1) (v := .ref (F 1)) (C := RX1) (T := TX1) (N := 13) hx hb hts inX1 hown hE.1 hP 0 rfl rfl 0 (by decide) kf16 (fun _ h9 => h9) rfl dX1_catchesAhead_20 ?_
            refine lv_iload_n hx hb dX1_catchesAhead_23 rfl (lv_at hl 3 rfl) ?_
            refine pVi (As := [.int (nI i)]) (rest := [.int 1]) (wc := (wR cA (F 1) (F 12) 41 (fun z9 => nI (qFr a z9)))) ⟨hx, hb, hml, hown, hts⟩ (K_X2_getk lch D cA (F 1) (F 12) 41 (fun z9 => nI (qFr a z9)) i (nI (qFr a i)) H.size (by omega) (Nat.le_of_ble_eq_true rfl) (rfl)) (cwV 1 hts gX1_catchesAhead_X2_get rfl rfl rfl (by decide +kernel) ⟨Nat.le_of_ble_eq_true rfl, Nat.le_of_ble_eq_true rfl⟩) hE hP hD hS hA [1, 12] rfl rfl X0.blind (fun _ _ _ => trivial) 1 2 rfl rfl rfl hl.1 rfl rfl (Nat.le_of_ble_eq_true rfl) dX1_catchesAhead_24 ⟨Nat.zero_le _, Nat.zero_le _⟩ (fun r_52 u_53 H locs h_54 hP hS => ?_)
            subst h_54
            refine lv_icmp_eq (tgt := 55) hx hb dX1_catchesAhead_27 (by decide) (fun c27_1 => ?_) (fun c27_1 => ?_)
            · skip
              have c27_1 := (nI_eq (a := 1) (b := qFr a i) (by omega) (by omega)).mp c27_1
              refine lv_iinc (v := 2) (lv' := [(3, .int 2), (2, .int (nI ((qPl a i) + 1))), (0, .ref (F 0)), (1, .int (nI i))]) hx hb dX1_catchesAhead_55 hl (k := 0) rfl (by decide) (by decide) rfl (fun ls hl => ?_)
              refine lv_goto (tgt := 13) hx hb dX1_catchesAhead_58 (by decide) ?_
              refine lv_iload_n hx hb dX1_catchesAhead_13 rfl (lv_at hl 0 rfl) ?_
              refine lv_iconst (v := 3) hx hb dX1_catchesAhead_14 (by decide) ?_
              refine lv_icmp_ge (tgt := 61) hx hb dX1_catchesAhead_15 (by decide) (fun c15_2 => ?_) (fun c15_2 => ?_)
              · skip
                exfalso; revert c15_2; decide
              · skip
                have c15_2 := (not_congr (nI_leI (a := 3) (b := 2) (by omega) (by omega))).mp c15_2
                refine lv_iload_n hx hb dX1_catchesAhead_18 rfl (lv_at hl 0 rfl) ?_
                refine lv_aload_n hx hb dX1_catchesAhead_19 rfl (lv_at hl 2 rfl) ?_
                refine va_get (D := D) (ci := 1) (v := .ref (F 1)) (C := RX1) (T := TX1) (N := 13) hx hb hts inX1 hown hE.1 hP 0 rfl rfl 0 (by decide) kf16 (fun _ h9 => h9) rfl dX1_catchesAhead_20 ?_
                refine lv_iload_n hx hb dX1_catchesAhead_23 rfl (lv_at hl 3 rfl) ?_
                refine pVi (As := [.int (nI i)]) (rest := [.int 2]) (wc := (wR cA (F 1) (F 12) 41 (fun z9 => nI (qFr a z9)))) ⟨hx, hb, hml, hown, hts⟩ (K_X2_getk lch D cA (F 1) (F 12) 41 (fun z9 => nI (qFr a z9)) i (nI (qFr a i)) H.size (by omega) (Nat.le_of_ble_eq_true rfl) (rfl)) (cwV 1 hts gX1_catchesAhead_X2_get rfl rfl rfl (by decide +kernel) ⟨Nat.le_of_ble_eq_true rfl, Nat.le_of_ble_eq_true rfl⟩) hE hP hD hS hA [1, 12] rfl rfl X0.blind (fun _ _ _ => trivial) 1 2 rfl rfl rfl hl.1 rfl rfl (Nat.le_of_ble_eq_true rfl) dX1_catchesAhead_24 ⟨Nat.zero_le _, Nat.zero_le _⟩ (fun r_55 u_56 H locs h_57 hP hS => ?_)
                subst h_57
                refine lv_icmp_eq (tgt := 55) hx hb dX1_catchesAhead_27 (by decide) (fun c27_2 => ?_) (fun c27_2 => ?_)
                · skip
                  have c27_2 := (nI_eq (a := 2) (b := qFr a i) (by omega) (by omega)).mp c27_2
                  refine lv_iinc (v := 3) (lv' := [(3, .int 3), (2, .int (nI ((qPl a i) + 1))), (0, .ref (F 0)), (1, .int (nI i))]) hx hb dX1_catchesAhead_55 hl (k := 0) rfl (by decide) (by decide) rfl (fun ls hl => ?_)
                  refine lv_goto (tgt := 13) hx hb dX1_catchesAhead_58 (by decide) ?_
                  refine lv_iload_n hx hb dX1_catchesAhead_13 rfl (lv_at hl 0 rfl) ?_
                  refine lv_iconst (v := 3) hx hb dX1_catchesAhead_14 (by decide) ?_
                  refine lv_icmp_ge (tgt := 61) hx hb dX1_catchesAhead_15 (by decide) (fun c15_3 => ?_) (fun c15_3 => ?_)
                  · skip
                    have c15_3 := (nI_leI (a := 3) (b := 3) (by omega) (by omega)).mp c15_3
                    refine lv_iconst (v := 0) hx hb dX1_catchesAhead_61 (by decide) ?_
                    rw [hQQ]
                    exact W.zret (v := 0) hx hb hr (by decide) (fun t ht hW => ⟨⟨0, (), rfl, catch_f hw1 hcr hi (Or.inr c50) (Or.inl c27_1) (Or.inl c27_2), trivial⟩, hS.F ht⟩) hS.2.2 dX1_catchesAhead_62
                  · skip
                    exfalso; revert c15_3; decide
                · skip
                  have c27_2 := (not_congr (nI_eq (a := 2) (b := qFr a i) (by omega) (by omega))).mp c27_2
                  refine lv_aload_n hx hb dX1_catchesAhead_30 rfl (lv_at hl 2 rfl) ?_
                  refine va_get (D := D) (ci := 1) (v := .ref (F 10)) (C := RX1) (T := TX1) (N := 13) hx hb hts inX1 hown hE.1 hP 0 rfl rfl 9 (by decide) kf44 (fun _ h9 => h9) rfl dX1_catchesAhead_31 ?_
                  refine lv_aload_n hx hb dX1_catchesAhead_34 rfl (lv_at hl 2 rfl) ?_
                  refine va_get (D := D) (ci := 1) (v := .ref (F 3)) (C := RX1) (T := TX1) (N := 13) hx hb hts inX1 hown hE.1 hP 0 rfl rfl 2 (by decide) kf23 (fun _ h9 => h9) rfl dX1_catchesAhead_35 ?_
                  refine lv_iload_n hx hb dX1_catchesAhead_38 rfl (lv_at hl 3 rfl) ?_
                  refine pVi (As := [.int (nI i)]) (rest := [.ref (F 10)]) (wc := (wR cA (F 3) (F 14) 41 (fun z9 => nI (qLa a z9)))) ⟨hx, hb, hml, hown, hts⟩ (K_X2_getk lch D cA (F 3) (F 14) 41 (fun z9 => nI (qLa a z9)) i (nI (qLa a i)) H.size (by omega) (Nat.le_of_ble_eq_true rfl) (rfl)) (cwV 1 hts gX1_catchesAhead_X2_get rfl rfl rfl (by decide +kernel) ⟨Nat.le_of_ble_eq_true rfl, Nat.le_of_ble_eq_true rfl⟩) hE hP hD hS hA [3, 14] rfl rfl X0.blind (fun _ _ _ => trivial) 3 2 rfl rfl rfl hl.1 rfl rfl (Nat.le_of_ble_eq_true rfl) dX1_catchesAhead_39 ⟨Nat.zero_le _, Nat.zero_le _⟩ (fun r_58 u_59 H locs h_60 hP hS => ?_)
                  subst h_60
                  refine lv_iload_n hx hb dX1_catchesAhead_42 rfl (lv_at hl 1 rfl) ?_
                  refine lv_iload_n hx hb dX1_catchesAhead_43 rfl (lv_at hl 0 rfl) ?_
                  refine pSi (As := [.int (nI (qLa a i)), .int (nI ((qPl a i) + 1)), .int 2]) (rest := [.ref (F 10)]) (wc := ([] : va_W)) ⟨hx, hb, hml, hown, hts⟩ (K_X1_cell lch D cA (qLa a i) ((qPl a i) + 1) 2 H.size (by first | assumption | omega)) (cwS 3 hts gX1_catchesAhead_X1_cell rfl rfl rfl (by decide +kernel) ⟨Nat.le_of_ble_eq_true rfl, Nat.le_of_ble_eq_true rfl⟩) hE hP hD hS hA [] rfl rfl X0.blind (fun _ _ _ => trivial) hl.1 rfl rfl (Nat.le_of_ble_eq_true rfl) dX1_catchesAhead_44 ⟨Nat.zero_le _, Nat.zero_le _⟩ (fun r_61 u_62 H locs h_63 hP hS => ?_)
                  subst h_63
                  refine pVi (As := [.int (ck (qLa a i) ((qPl a i) + 1) 2)]) (rest := []) (wc := (wR cA (F 10) (F 21) 540 c)) ⟨hx, hb, hml, hown, hts⟩ (K_X2_get lch D cA (F 10) (F 21) 540 c (ck (qLa a i) ((qPl a i) + 1) 2) H.size (Nat.le_of_ble_eq_true rfl)) (cwV 1 hts gX1_catchesAhead_X2_get rfl rfl rfl (by decide +kernel) ⟨Nat.le_of_ble_eq_true rfl, Nat.le_of_ble_eq_true rfl⟩) hE hP hD hS hA [10, 21] rfl rfl X0.blind (fun _ _ _ => trivial) 10 2 rfl rfl rfl hl.1 rfl rfl (Nat.le_of_ble_eq_true rfl) dX1_catchesAhead_47 ⟨Nat.zero_le _, Nat.zero_le _⟩ (fun r_64 u_65 H locs h_66 hP hS => ?_)
                  subst h_66
                  refine lv_if_le (tgt := 55) hx hb dX1_catchesAhead_50 (by decide) (fun c50_1 => ?_) (fun c50_1 => ?_)
                  · skip
                    refine lv_iinc (v := 3) (lv' := [(3, .int 3), (2, .int (nI ((qPl a i) + 1))), (0, .ref (F 0)), (1, .int (nI i))]) hx hb dX1_catchesAhead_55 hl (k := 0) rfl (by decide) (by decide) rfl (fun ls hl => ?_)
                    refine lv_goto (tgt := 13) hx hb dX1_catchesAhead_58 (by decide) ?_
                    refine lv_iload_n hx hb dX1_catchesAhead_13 rfl (lv_at hl 0 rfl) ?_
                    refine lv_iconst (v := 3) hx hb dX1_catchesAhead_14 (by decide) ?_
                    refine lv_icmp_ge (tgt := 61) hx hb dX1_catchesAhead_15 (by decide) (fun c15_3 => ?_) (fun c15_3 => ?_)
                    · skip
                      have c15_3 := (nI_leI (a := 3) (b := 3) (by omega) (by omega)).mp c15_3
                      refine lv_iconst (v := 0) hx hb dX1_catchesAhead_61 (by decide) ?_
                      rw [hQQ]
                      exact W.zret (v := 0) hx hb hr (by decide) (fun t ht hW => ⟨⟨0, (), rfl, catch_f hw1 hcr hi (Or.inr c50) (Or.inl c27_1) (Or.inr c50_1), trivial⟩, hS.F ht⟩) hS.2.2 dX1_catchesAhead_62
                    · skip
                      exfalso; revert c15_3; decide
                  · skip
                    refine lv_iconst (v := 1) hx hb dX1_catchesAhead_53 (by decide) ?_
                    rw [hQQ]
                    exact W.zret (v := 1) hx hb hr (by decide) (fun t ht hW => ⟨⟨1, (), rfl, catch_t hw1 hcr hi (f := 2) (by decide) c27_2 c50_1, trivial⟩, hS.F ht⟩) hS.2.2 dX1_catchesAhead_54
            · skip
              have c27_1 := (not_congr (nI_eq (a := 1) (b := qFr a i) (by omega) (by omega))).mp c27_1
              refine lv_aload_n hx hb dX1_catchesAhead_30 rfl (lv_at hl 2 rfl) ?_
              refine va_get (D := D) (ci := 1) (v := .ref (F 10)) (C := RX1) (T := TX1) (N := 13) hx hb hts inX1 hown hE.1 hP 0 rfl rfl 9 (by decide) kf44 (fun _ h9 => h9) rfl dX1_catchesAhead_31 ?_
              refine lv_aload_n hx hb dX1_catchesAhead_34 rfl (lv_at hl 2 rfl) ?_
              refine va_get (D := D) (ci := 1) (v := .ref (F 3)) (C := RX1) (T := TX1) (N := 13) hx hb hts inX1 hown hE.1 hP 0 rfl rfl 2 (by decide) kf23 (fun _ h9 => h9) rfl dX1_catchesAhead_35 ?_
              refine lv_iload_n hx hb dX1_catchesAhead_38 rfl (lv_at hl 3 rfl) ?_
              refine pVi (As := [.int (nI i)]) (rest := [.ref (F 10)]) (wc := (wR cA (F 3) (F 14) 41 (fun z9 => nI (qLa a z9)))) ⟨hx, hb, hml, hown, hts⟩ (K_X2_getk lch D cA (F 3) (F 14) 41 (fun z9 => nI (qLa a z9)) i (nI (qLa a i)) H.size (by omega) (Nat.le_of_ble_eq_true rfl) (rfl)) (cwV 1 hts gX1_catchesAhead_X2_get rfl rfl rfl (by decide +kernel) ⟨Nat.le_of_ble_eq_true rfl, Nat.le_of_ble_eq_true rfl⟩) hE hP hD hS hA [3, 14] rfl rfl X0.blind (fun _ _ _ => trivial) 3 2 rfl rfl rfl hl.1 rfl rfl (Nat.le_of_ble_eq_true rfl) dX1_catchesAhead_39 ⟨Nat.zero_le _, Nat.zero_le _⟩ (fun r_67 u_68 H locs h_69 hP hS => ?_)
              subst h_69
              refine lv_iload_n hx hb dX1_catchesAhead_42 rfl (lv_at hl 1 rfl) ?_
              refine lv_iload_n hx hb dX1_catchesAhead_43 rfl (lv_at hl 0 rfl) ?_
              refine pSi (As := [.int (nI (qLa a i)), .int (nI ((qPl a i) + 1)), .int 1]) (rest := [.ref (F 10)]) (wc := ([] : va_W)) ⟨hx, hb, hml, hown, hts⟩ (K_X1_cell lch D cA (qLa a i) ((qPl a i) + 1) 1 H.size (by first | assumption | omega)) (cwS 3 hts gX1_catchesAhead_X1_cell rfl rfl rfl (by decide +kernel) ⟨Nat.le_of_ble_eq_true rfl, Nat.le_of_ble_eq_true rfl⟩) hE hP hD hS hA [] rfl rfl X0.blind (fun _ _ _ => trivial) hl.1 rfl rfl (Nat.le_of_ble_eq_true rfl) dX1_catchesAhead_44 ⟨Nat.zero_le _, Nat.zero_le _⟩ (fun r_70 u_71 H locs h_72 hP hS => ?_)
              subst h_72
              refine pVi (As := [.int (ck (qLa a i) ((qPl a i) + 1) 1)]) (rest := []) (wc := (wR cA (F 10) (F 21) 540 c)) ⟨hx, hb, hml, hown, hts⟩ (K_X2_get lch D cA (F 10) (F 21) 540 c (ck (qLa a i) ((qPl a i) + 1) 1) H.size (Nat.le_of_ble_eq_true rfl)) (cwV 1 hts gX1_catchesAhead_X2_get rfl rfl rfl (by decide +kernel) ⟨Nat.le_of_ble_eq_true rfl, Nat.le_of_ble_eq_true rfl⟩) hE hP hD hS hA [10, 21] rfl rfl X0.blind (fun _ _ _ => trivial) 10 2 rfl rfl rfl hl.1 rfl rfl (Nat.le_of_ble_eq_true rfl) dX1_catchesAhead_47 ⟨Nat.zero_le _, Nat.zero_le _⟩ (fun r_73 u_74 H locs h_75 hP hS => ?_)
              subst h_75
              refine lv_if_le (tgt := 55) hx hb dX1_catchesAhead_50 (by decide) (fun c50_1 => ?_) (fun c50_1 => ?_)
              · skip
                refine lv_iinc (v := 2) (lv' := [(3, .int 2), (2, .int (nI ((qPl a i) + 1))), (0, .ref (F 0)), (1, .int (nI i))]) hx hb dX1_catchesAhead_55 hl (k := 0) rfl (by decide) (by decide) rfl (fun ls hl => ?_)
                refine lv_goto (tgt := 13) hx hb dX1_catchesAhead_58 (by decide) ?_
                refine lv_iload_n hx hb dX1_catchesAhead_13 rfl (lv_at hl 0 rfl) ?_
                refine lv_iconst (v := 3) hx hb dX1_catchesAhead_14 (by decide) ?_
                refine lv_icmp_ge (tgt := 61) hx hb dX1_catchesAhead_15 (by decide) (fun c15_2 => ?_) (fun c15_2 => ?_)
                · skip
                  exfalso; revert c15_2; decide
                · skip
                  have c15_2 := (not_congr (nI_leI (a := 3) (b := 2) (by omega) (by omega))).mp c15_2
                  refine lv_iload_n hx hb dX1_catchesAhead_18 rfl (lv_at hl 0 rfl) ?_
                  refine lv_aload_n hx hb dX1_catchesAhead_19 rfl (lv_at hl 2 rfl) ?_
                  refine va_get (D := D) (ci := 1) (v := .ref (F 1)) (C := RX1) (T := TX1) (N := 13) hx hb hts inX1 hown hE.1 hP 0 rfl rfl 0 (by decide) kf16 (fun _ h9 => h9) rfl dX1_catchesAhead_20 ?_
                  refine lv_iload_n hx hb dX1_catchesAhead_23 rfl (lv_at hl 3 rfl) ?_
                  refine pVi (As := [.int (nI i)]) (rest := [.int 2]) (wc := (wR cA (F 1) (F 12) 41 (fun z9 => nI (qFr a z9)))) ⟨hx, hb, hml, hown, hts⟩ (K_X2_getk lch D cA (F 1) (F 12) 41 (fun z9 => nI (qFr a z9)) i (nI (qFr a i)) H.size (by omega) (Nat.le_of_ble_eq_true rfl) (rfl)) (cwV 1 hts gX1_catchesAhead_X2_get rfl rfl rfl (by decide +kernel) ⟨Nat.le_of_ble_eq_true rfl, Nat.le_of_ble_eq_true rfl⟩) hE hP hD hS hA [1, 12] rfl rfl X0.blind (fun _ _ _ => trivial) 1 2 rfl rfl rfl hl.1 rfl rfl (Nat.le_of_ble_eq_true rfl) dX1_catchesAhead_24 ⟨Nat.zero_le _, Nat.zero_le _⟩ (fun r_76 u_77 H locs h_78 hP hS => ?_)
                  subst h_78
                  refine lv_icmp_eq (tgt := 55) hx hb dX1_catchesAhead_27 (by decide) (fun c27_2 => ?_) (fun c27_2 => ?_)
                  · skip
                    have c27_2 := (nI_eq (a := 2) (b := qFr a i) (by omega) (by omega)).mp c27_2
                    refine lv_iinc (v := 3) (lv' := [(3, .int 3), (2, .int (nI ((qPl a i) + 1))), (0, .ref (F 0)), (1, .int (nI i))]) hx hb dX1_catchesAhead_55 hl (k := 0) rfl (by decide) (by decide) rfl (fun ls hl => ?_)
                    refine lv_goto (tgt := 13) hx hb dX1_catchesAhead_58 (by decide) ?_
                    refine lv_iload_n hx hb dX1_catchesAhead_13 rfl (lv_at hl 0 rfl) ?_
                    refine lv_iconst (v := 3) hx hb dX1_catchesAhead_14 (by decide) ?_
                    refine lv_icmp_ge (tgt := 61) hx hb dX1_catchesAhead_15 (by decide) (fun c15_3 => ?_) (fun c15_3 => ?_)
                    · skip
                      have c15_3 := (nI_leI (a := 3) (b := 3) (by omega) (by omega)).mp c15_3
                      refine lv_iconst (v := 0) hx hb dX1_catchesAhead_61 (by decide) ?_
                      rw [hQQ]
                      exact W.zret (v := 0) hx hb hr (by decide) (fun t ht hW => ⟨⟨0, (), rfl, catch_f hw1 hcr hi (Or.inr c50) (Or.inr c50_1) (Or.inl c27_2), trivial⟩, hS.F ht⟩) hS.2.2 dX1_catchesAhead_62
                    · skip
                      exfalso; revert c15_3; decide
                  · skip
                    have c27_2 := (not_congr (nI_eq (a := 2) (b := qFr a i) (by omega) (by omega))).mp c27_2
                    refine lv_aload_n hx hb dX1_catchesAhead_30 rfl (lv_at hl 2 rfl) ?_
                    refine va_get (D := D) (ci := 1) (v := .ref (F 10)) (C := RX1) (T := TX1) (N := 13) hx hb hts inX1 hown hE.1 hP 0 rfl rfl 9 (by decide) kf44 (fun _ h9 => h9) rfl dX1_catchesAhead_31 ?_
                    refine lv_aload_n hx hb dX1_catchesAhead_34 rfl (lv_at hl 2 rfl) ?_
                    refine va_get (D := D) (ci := 1) (v := .ref (F 3)) (C := RX1) (T := TX1) (N := 13) hx hb hts inX1 hown hE.1 hP 0 rfl rfl 2 (by decide) kf23 (fun _ h9 => h9) rfl dX1_catchesAhead_35 ?_
                    refine lv_iload_n hx hb dX1_catchesAhead_38 rfl (lv_at hl 3 rfl) ?_
                    refine pVi (As := [.int (nI i)]) (rest := [.ref (F 10)]) (wc := (wR cA (F 3) (F 14) 41 (fun z9 => nI (qLa a z9)))) ⟨hx, hb, hml, hown, hts⟩ (K_X2_getk lch D cA (F 3) (F 14) 41 (fun z9 => nI (qLa a z9)) i (nI (qLa a i)) H.size (by omega) (Nat.le_of_ble_eq_true rfl) (rfl)) (cwV 1 hts gX1_catchesAhead_X2_get rfl rfl rfl (by decide +kernel) ⟨Nat.le_of_ble_eq_true rfl, Nat.le_of_ble_eq_true rfl⟩) hE hP hD hS hA [3, 14] rfl rfl X0.blind (fun _ _ _ => trivial) 3 2 rfl rfl rfl hl.1 rfl rfl (Nat.le_of_ble_eq_true rfl) dX1_catchesAhead_39 ⟨Nat.zero_le _, Nat.zero_le _⟩ (fun r_79 u_80 H locs h_81 hP hS => ?_)
                    subst h_81
                    refine lv_iload_n hx hb dX1_catchesAhead_42 rfl (lv_at hl 1 rfl) ?_
                    refine lv_iload_n hx hb dX1_catchesAhead_43 rfl (lv_at hl 0 rfl) ?_
                    refine pSi (As := [.int (nI (qLa a i)), .int (nI ((qPl a i) + 1)), .int 2]) (rest := [.ref (F 10)]) (wc := ([] : va_W)) ⟨hx, hb, hml, hown, hts⟩ (K_X1_cell lch D cA (qLa a i) ((qPl a i) + 1) 2 H.size (by first | assumption | omega)) (cwS 3 hts gX1_catchesAhead_X1_cell rfl rfl rfl (by decide +kernel) ⟨Nat.le_of_ble_eq_true rfl, Nat.le_of_ble_eq_true rfl⟩) hE hP hD hS hA [] rfl rfl X0.blind (fun _ _ _ => trivial) hl.1 rfl rfl (Nat.le_of_ble_eq_true rfl) dX1_catchesAhead_44 ⟨Nat.zero_le _, Nat.zero_le _⟩ (fun r_82 u_83 H locs h_84 hP hS => ?_)
                    subst h_84
                    refine pVi (As := [.int (ck (qLa a i) ((qPl a i) + 1) 2)]) (rest := []) (wc := (wR cA (F 10) (F 21) 540 c)) ⟨hx, hb, hml, hown, hts⟩ (K_X2_get lch D cA (F 10) (F 21) 540 c (ck (qLa a i) ((qPl a i) + 1) 2) H.size (Nat.le_of_ble_eq_true rfl)) (cwV 1 hts gX1_catchesAhead_X2_get rfl rfl rfl (by decide +kernel) ⟨Nat.le_of_ble_eq_true rfl, Nat.le_of_ble_eq_true rfl⟩) hE hP hD hS hA [10, 21] rfl rfl X0.blind (fun _ _ _ => trivial) 10 2 rfl rfl rfl hl.1 rfl rfl (Nat.le_of_ble_eq_true rfl) dX1_catchesAhead_47 ⟨Nat.zero_le _, Nat.zero_le _⟩ (fun r_85 u_86 H locs h_87 hP hS => ?_)
                    subst h_87
                    refine lv_if_le (tgt := 55) hx hb dX1_catchesAhead_50 (by decide) (fun c50_2 => ?_) (fun c50_2 => ?_)
                    · skip
                      refine lv_iinc (v := 3) (lv' := [(3, .int 3), (2, .int (nI ((qPl a i) + 1))), (0, .ref (F 0)), (1, .int (nI i))]) hx hb dX1_catchesAhead_55 hl (k := 0) rfl (by decide) (by decide) rfl (fun ls hl => ?_)
                      refine lv_goto (tgt := 13) hx hb dX1_catchesAhead_58 (by decide) ?_
                      refine lv_iload_n hx hb dX1_catchesAhead_13 rfl (lv_at hl 0 rfl) ?_
                      refine lv_iconst (v := 3) hx hb dX1_catchesAhead_14 (by decide) ?_
                      refine lv_icmp_ge (tgt := 61) hx hb dX1_catchesAhead_15 (by decide) (fun c15_3 => ?_) (fun c15_3 => ?_)
                      · skip
                        have c15_3 := (nI_leI (a := 3) (b := 3) (by omega) (by omega)).mp c15_3
                        refine lv_iconst (v := 0) hx hb dX1_catchesAhead_61 (by decide) ?_
                        rw [hQQ]
                        exact W.zret (v := 0) hx hb hr (by decide) (fun t ht hW => ⟨⟨0, (), rfl, catch_f hw1 hcr hi (Or.inr c50) (Or.inr c50_1) (Or.inr c50_2), trivial⟩, hS.F ht⟩) hS.2.2 dX1_catchesAhead_62
                      · skip
                        exfalso; revert c15_3; decide
                    · skip
                      refine lv_iconst (v := 1) hx hb dX1_catchesAhead_53 (by decide) ?_
                      rw [hQQ]
                      exact W.zret (v := 1) hx hb hr (by decide) (fun t ht hW => ⟨⟨1, (), rfl, catch_t hw1 hcr hi (f := 2) (by decide) c27_2 c50_2, trivial⟩, hS.F ht⟩) hS.2.2 dX1_catchesAhead_54
              · skip
                refine lv_iconst (v := 1) hx hb dX1_catchesAhead_53 (by decide) ?_
                rw [hQQ]
                exact W.zret (v := 1) hx hb hr (by decide) (fun t ht hW => ⟨⟨1, (), rfl, catch_t hw1 hcr hi (f := 1) (by decide) c27_1 c50_1, trivial⟩, hS.F ht⟩) hS.2.2 dX1_catchesAhead_54
        · skip
          refine lv_iconst (v := 1) hx hb dX1_catchesAhead_53 (by decide) ?_
          rw [hQQ]
          exact W.zret (v := 1) hx hb hr (by decide) (fun t ht hW => ⟨⟨1, (), rfl, catch_t hw1 hcr hi (f := 0) (by decide) c27 c50, trivial⟩, hS.F ht⟩) hS.2.2 dX1_catchesAhead_54
  rw [hg1, hg2] at hgoal
  exact hgoal

set_option maxHeartbeats 4000000 in
set_option maxRecDepth 100000 in
/-- meetWeir -/
theorem K_X1_meetWeir (lch : Launch) (D : va_G) (cA : ClassId) (F : Nat → Nat) (a : FSt) (c : Nat → Int32) (q : Nat → Int32) (i : Nat) (v : Int32) (sz : Nat) (hi : i < qN a) (hw1 : WFa a) (hcr : CRa a c) : Met lch yX1_meetWeir wsX1_meetWeir ({ frames := 2, cells := 0, slots := 0, locals := 42 }) (Pr D cA [.ref (F 0), .int (nI i), .int v] sz (wF cA F a c q) X0) (va_Qv (fun (u : Unit) => True) (fun (u : Unit) t => va_P D vwCl (wF cA F (metA v a i) c q) t.heap) (va_A (wF cA F a c q) sz)) 0 0 (va_A (wF cA F a c q) sz) := by
  refine Met.ofW (cc := cX1_meetWeir) (maxL := 6) (ret := none) (by decide) rfl ?_
  intro pg ev s mi args below meth cd s₁ B hml hv
  obtain ⟨hav, hsz, hP, hE, hD, hXs⟩ := hv
  have hx := B.exec
  have hb := B.bytes
  have hr := B.returns
  have hts := atoms_spec (ws := wsX1_meetWeir) B.pre
  have hown : s.vm.findClass RX1 = some mi.cls := findClass_of_methodNamed B.named
  have hlocks := B.notSynchronized
  clear B
  subst hav
  subst hsz
  have hD := hD.self (sz := s.heap.size)
  generalize hAe : va_A (wF cA F a c q) s.heap.size = A at hD ⊢
  have hA : ∀ q : Nat, s.heap.size ≤ q → A q := fun q h => by rw [← hAe]; exact Or.inr h
  have hS : va_S A s.heap s.heap [] := va_S.rf
  obtain ⟨QQ, hQQ⟩ : ∃ qq9, qq9 = MQ below (va_Qv (fun (u : Unit) => True) (fun (u : Unit) t => va_P D vwCl (wF cA F (metA v a i) c q) t.heap) A) ([.ref (F 0), .int (nI i), .int v] : List Value).toArray s 0 0 A := ⟨_, rfl⟩
  rw [← hQQ]
  have hl := lv_entry ([.ref (F 0), .int (nI i), .int v]) (n := 6) (Nat.le_of_ble_eq_true rfl)
  rw [lg_entry_eq]
  generalize (lg_sl ([.ref (F 0), .int (nI i), .int v]) ++ List.replicate (6 - (lg_sl ([.ref (F 0), .int (nI i), .int v])).length) Slot.unset).toArray = ls at hl ⊢
  have hl : lv_has ls 6 [(0, .ref (F 0)), (1, .int (nI i)), (2, .int v)] := hl
  have kf44 := hts (.fieldLink RX1 44 "LanternWeirs$Fleet" "crowd" "LLanternWeirs$Row;") (by decide +kernel)
  have inX1 : ∀ w ∈ u_ws RX1 TX1 13, w ∈ wsX1_meetWeir := by decide +kernel
  have kf23 := hts (.fieldLink RX1 23 "LanternWeirs$Fleet" "lanes" "LLanternWeirs$Row;") (by decide +kernel)
  have kf26 := hts (.fieldLink RX1 26 "LanternWeirs$Fleet" "places" "LLanternWeirs$Row;") (by decide +kernel)
  have kf32 := hts (.fieldLink RX1 32 "LanternWeirs$Fleet" "wets" "LLanternWeirs$Row;") (by decide +kernel)
  have kf35 := hts (.fieldLink RX1 35 "LanternWeirs$Fleet" "burning" "LLanternWeirs$Row;") (by decide +kernel)
  obtain ⟨H, locs, hP, hS, hgo⟩ : ∃ H locs, va_P D vwCl (wF cA F a c q) H ∧ va_S A s.heap H locs ∧ (H = s.heap ∧ locs = []) := ⟨_, _, hP, hS, rfl, rfl⟩
  obtain ⟨hg1, hg2⟩ := hgo
  have hgoal : W pg lch ev (headSpec wsX1_meetWeir ({ frames := 2, cells := 0, slots := 0, locals := 42 })).room s mi ([.ref (F 0), .int (nI i), .int v] : List Value).toArray below meth cd H locs 0 0 QQ (F0 mi 0 ls []) := by
    have hn := hw1.1
    obtain ⟨w1, w2, w3, w4, w5, w6, w7, w8⟩ := hw1.2 i hi
    refine lv_iload_n hx hb dX1_meetWeir_0 rfl (lv_at hl 2 rfl) ?_
    refine lv_if_gt (tgt := 5) hx hb dX1_meetWeir_1 (by decide) (fun c1 => ?_) (fun c1 => ?_)
    · skip
      refine lv_iload_n hx hb dX1_meetWeir_5 rfl (lv_at hl 2 rfl) ?_
      refine lv_istore_n (lv' := [(3, .int v), (0, .ref (F 0)), (1, .int (nI i)), (2, .int v)]) hx hb dX1_meetWeir_6 rfl hl (by decide) rfl (fun ls hl => ?_)
      refine lv_iconst (v := 1) hx hb dX1_meetWeir_7 (by decide) ?_
      refine lv_istore (lv' := [(4, .int 1), (3, .int v), (0, .ref (F 0)), (1, .int (nI i)), (2, .int v)]) hx hb dX1_meetWeir_8 hl (by decide) rfl (fun ls hl => ?_)
      refine lv_iload hx hb dX1_meetWeir_10 (lv_at hl 0 rfl) ?_
      refine lv_iconst (v := 3) hx hb dX1_meetWeir_12 (by decide) ?_
      refine lv_icmp_gt (tgt := 71) hx hb dX1_meetWeir_13 (by decide) (fun c13 => ?_) (fun c13 => ?_)
      · skip
        exfalso; revert c13; decide
      · skip
        have c13 := (not_congr (nI_ltI (a := 3) (b := 1) (by omega) (by omega))).mp c13
        refine lv_iconst (v := 0) hx hb dX1_meetWeir_16 (by decide) ?_
        refine lv_istore (lv' := [(5, .int 0), (4, .int 1), (3, .int v), (0, .ref (F 0)), (1, .int (nI i)), (2, .int v)]) hx hb dX1_meetWeir_17 hl (by decide) rfl (fun ls hl => ?_)
        refine lv_iload hx hb dX1_meetWeir_19 (lv_at hl 0 rfl) ?_
        refine lv_iconst (v := 3) hx hb dX1_meetWeir_21 (by decide) ?_
        refine lv_icmp_ge (tgt := 65) hx hb dX1_meetWeir_22 (by decide) (fun c22 => ?_) (fun c22 => ?_)
        · skip
          exfalso; revert c22; decide
        · skip
          have c22 := (not_congr (nI_leI (a := 3) (b := 0) (by omega) (by omega))).mp c22
          refine lv_iload_n hx hb dX1_meetWeir_25 rfl (lv_at hl 2 rfl) ?_
          refine lv_aload_n hx hb dX1_meetWeir_26 rfl (lv_at hl 3 rfl) ?_
          refine va_get (D := D) (ci := 1) (v := .ref (F 10)) (C := RX1) (T := TX1) (N := 13) hx hb hts inX1 hown hE.1 hP 0 rfl rfl 9 (by decide) kf44 (fun _ h9 => h9) rfl dX1_meetWeir_27 ?_
          refine lv_aload_n hx hb dX1_meetWeir_30 rfl (lv_at hl 3 rfl) ?_
          refine va_get (D := D) (ci := 1) (v := .ref (F 3)) (C := RX1) (T := TX1) (N := 13) hx hb hts inX1 hown hE.1 hP 0 rfl rfl 2 (by decide) kf23 (fun _ h9 => h9) rfl dX1_meetWeir_31 ?_
          refine lv_iload_n hx hb dX1_meetWeir_34 rfl (lv_at hl 4 rfl) ?_
          refine pVi (As := [.int (nI i)]) (rest := [.ref (F 10), .int v]) (wc := (wR cA (F 3) (F 14) 41 (fun z9 => nI (qLa a z9)))) ⟨hx, hb, hml, hown, hts⟩ (K_X2_getk lch D cA (F 3) (F 14) 41 (fun z9 => nI (qLa a z9)) i (nI (qLa a i)) H.size (by omega) (Nat.le_of_ble_eq_true rfl) (rfl)) (cwV 1 hts gX1_meetWeir_X2_get rfl rfl rfl (by decide +kernel) ⟨Nat.le_of_ble_eq_true rfl, Nat.le_of_ble_eq_true rfl⟩) hE hP hD hS hA [3, 14] rfl rfl X0.blind (fun _ _ _ => trivial) 3 2 rfl rfl rfl hl.1 rfl rfl (Nat.le_of_ble_eq_true rfl) dX1_meetWeir_35 ⟨Nat.zero_le _, Nat.zero_le _⟩ (fun r_1 u_2 H locs h_3 hP hS => ?_)
          subst h_3
          refine lv_aload_n hx hb dX1_meetWeir_38 rfl (lv_at hl 3 rfl) ?_
          refine va_get (D := D) (ci := 1) (v := .ref (F 4)) (C := RX1) (T := TX1) (N := 13) hx hb hts inX1 hown hE.1 hP 0 rfl rfl 3 (by decide) kf26 (fun _ h9 => h9) rfl dX1_meetWeir_39 ?_
          refine lv_iload_n hx hb dX1_meetWeir_42 rfl (lv_at hl 4 rfl) ?_
          refine pVi (As := [.int (nI i)]) (rest := [.int (nI (qLa a i)), .ref (F 10), .int v]) (wc := (wR cA (F 4) (F 15) 41 (fun z9 => nI (qPl a z9)))) ⟨hx, hb, hml, hown, hts⟩ (K_X2_getk lch D cA (F 4) (F 15) 41 (fun z9 => nI (qPl a z9)) i (nI (qPl a i)) H.size (by omega) (Nat.le_of_ble_eq_true rfl) (rfl)) (cwV 1 hts gX1_meetWeir_X2_get rfl rfl rfl (by decide +kernel) ⟨Nat.le_of_ble_eq_true rfl, Nat.le_of_ble_eq_true rfl⟩) hE hP hD hS hA [4, 15] rfl rfl X0.blind (fun _ _ _ => trivial) 4 2 rfl rfl rfl hl.1 rfl rfl (Nat.le_of_ble_eq_true rfl) dX1_meetWeir_43 ⟨Nat.zero_le _, Nat.zero_le _⟩ (fun r_4 u_5 H locs h_6 hP hS => ?_)
          subst h_6
          refine lv_iload hx hb dX1_meetWeir_46 (lv_at hl 1 rfl) ?_
          refine lv_iadd hx hb dX1_meetWeir_48 ?_
          refine top_i (y := nI ((qPl a i) + 1)) (nI_add _ _) ?_
          refine lv_iload hx hb dX1_meetWeir_49 (lv_at hl 0 rfl) ?_
          refine pSi (As := [.int (nI (qLa a i)), .int (nI ((qPl a i) + 1)), .int 0]) (rest := [.ref (F 10), .int v]) (wc := ([] : va_W)) ⟨hx, hb, hml, hown, hts⟩ (K_X1_cell lch D cA (qLa a i) ((qPl a i) + 1) 0 H.size (by first | assumption | omega)) (cwS 3 hts gX1_meetWeir_X1_cell rfl rfl rfl (by decide +kernel) ⟨Nat.le_of_ble_eq_true rfl, Nat.le_of_ble_eq_true rfl⟩) hE hP hD hS hA [] rfl rfl X0.blind (fun _ _ _ => trivial) hl.1 rfl rfl (Nat.le_of_ble_eq_true rfl) dX1_meetWeir_51 ⟨Nat.zero_le _, Nat.zero_le _⟩ (fun r_7 u_8 H locs h_9 hP hS => ?_)
          subst h_9
          refine pVi (As := [.int (ck (qLa a i) ((qPl a i) + 1) 0)]) (rest := [.int v]) (wc := (wR cA (F 10) (F 21) 540 c)) ⟨hx, hb, hml, hown, hts⟩ (K_X2_get lch D cA (F 10) (F 21) 540 c (ck (qLa a i) ((qPl a i) + 1) 0) H.size (Nat.le_of_ble_eq_true rfl)) (cwV 1 hts gX1_meetWeir_X2_get rfl rfl rfl (by decide +kernel) ⟨Nat.le_of_ble_eq_true rfl, Nat.le_of_ble_eq_true rfl⟩) hE hP hD hS hA [10, 21] rfl rfl X0.blind (fun _ _ _ => trivial) 10 2 rfl rfl rfl hl.1 rfl rfl (Nat.le_of_ble_eq_true rfl) dX1_meetWeir_54 ⟨Nat.zero_le _, Nat.zero_le _⟩ (fun r_10 u_11 H locs h_12 hP hS => ?_)
          subst h_12
          refine lv_isub hx hb dX1_meetWeir_57 ?_
          refine lv_istore_n (lv' := [(3, .int (v - (rg 540 c (ck (qLa a i) ((qPl a i) + 1) 0)))), (5, .int 0), (4, .int 1), (0, .ref (F 0)), (1, .int (nI i)), (2, .int v)]) hx hb dX1_meetWeir_58 rfl hl (by decide) rfl (fun ls hl => ?_)
          refine lv_iinc (v := 1) (lv' := [(5, .int 1), (3, .int (v - (rg 540 c (ck (qLa a i) ((qPl a i) + 1) 0)))), (4, .int 1), (0, .ref (F 0)), (1, .int (nI i)), (2, .int v)]) hx hb dX1_meetWeir_59 hl (k := 1) rfl (by decide) (by decide) rfl (fun ls hl => ?_)
          refine lv_goto (tgt := 19) hx hb dX1_meetWeir_62 (by decide) ?_
          refine lv_iload hx hb dX1_meetWeir_19 (lv_at hl 0 rfl) ?_
          refine lv_iconst (v := 3) hx hb dX1_meetWeir_21 (by decide) ?_
          refine lv_icmp_ge (tgt := 65) hx hb dX1_meetWeir_22 (by decide) (fun c22_1 => ?_) (fun c22_1 => ?_)
          · skip
            exfalso; revert c22_1; decide
          · skip
            have c22_1 := (not_congr (nI_leI (a := 3) (b := 1) (by omega) (by omega))).mp c22_1
            refine lv_iload_n hx hb dX1_meetWeir_25 rfl (lv_at hl 1 rfl) ?_
            refine lv_aload_n hx hb dX1_meetWeir_26 rfl (lv_at hl 3 rfl) ?_
            refine va_get (D := D) (ci := 1) (v := .ref (F 10)) (C := RX1) (T := TX1) (N := 13) hx hb hts inX1 hown hE.1 hP 0 rfl rfl 9 (by decide) kf44 (fun _ h9 => h9) rfl dX1_meetWeir_27 ?_
            refine lv_aload_n hx hb dX1_meetWeir_30 rfl (lv_at hl 3 rfl) ?_
            refine va_get (D := D) (ci := 1) (v := .ref (F 3)) (C := RX1) (T := TX1) (N := 13) hx hb hts inX1 hown hE.1 hP 0 rfl rfl 2 (by decide) kf23 (fun _ h9 => h9) rfl dX1_meetWeir_31 ?_
            refine lv_iload_n hx hb dX1_meetWeir_34 rfl (lv_at hl 4 rfl) ?_
            refine pVi (As := [.int (nI i)]) (rest := [.ref (F 10), .int (v - (rg 540 c (ck (qLa a i) ((qPl a i) + 1) 0)))]) (wc := (wR cA (F 3) (F 14) 41 (fun z9 => nI (qLa a z9)))) ⟨hx, hb, hml, hown, hts⟩ (K_X2_getk lch D cA (F 3) (F 14) 41 (fun z9 => nI (qLa a z9)) i (nI (qLa a i)) H.size (by omega) (Nat.le_of_ble_eq_true rfl) (rfl)) (cwV 1 hts gX1_meetWeir_X2_get rfl rfl rfl (by decide +kernel) ⟨Nat.le_of_ble_eq_true rfl, Nat.le_of_ble_eq_true rfl⟩) hE hP hD hS hA [3, 14] rfl rfl X0.blind (fun _ _ _ => trivial) 3 2 rfl rfl rfl hl.1 rfl rfl (Nat.le_of_ble_eq_true rfl) dX1_meetWeir_35 ⟨Nat.zero_le _, Nat.zero_le _⟩ (fun r_13 u_14 H locs h_15 hP hS => ?_)
            subst h_15
            refine lv_aload_n hx hb dX1_meetWeir_38 rfl (lv_at hl 3 rfl) ?_
            refine va_get (D := D) (ci := 1) (v := .ref (F 4)) (C := RX1) (T := TX1) (N := 13) hx hb hts inX1 hown hE.1 hP 0 rfl rfl 3 (by decide) kf26 (fun _ h9 => h9) rfl dX1_meetWeir_39 ?_
            refine lv_iload_n hx hb dX1_meetWeir_42 rfl (lv_at hl 4 rfl) ?_
            refine pVi (As := [.int (nI i)]) (rest := [.int (nI (qLa a i)), .ref (F 10), .int (v - (rg 540 c (ck (qLa a i) ((qPl a i) + 1) 0)))]) (wc := (wR cA (F 4) (F 15) 41 (fun z9 => nI (qPl a z9)))) ⟨hx, hb, hml, hown, hts⟩ (K_X2_getk lch D cA (F 4) (F 15) 41 (fun z9 => nI (qPl a z9)) i (nI (qPl a i)) H.size (by omega) (Nat.le_of_ble_eq_true rfl) (rfl)) (cwV 1 hts gX1_meetWeir_X2_get rfl rfl rfl (by decide +kernel) ⟨Nat.le_of_ble_eq_true rfl, Nat.le_of_ble_eq_true rfl⟩) hE hP hD hS hA [4, 15] rfl rfl X0.blind (fun _ _ _ => trivial) 4 2 rfl rfl rfl hl.1 rfl rfl (Nat.le_of_ble_eq_true rfl) dX1_meetWeir_43 ⟨Nat.zero_le _, Nat.zero_le _⟩ (fun r_16 u_17 H locs h_18 hP hS => ?_)
            subst h_18
            refine lv_iload hx hb dX1_meetWeir_46 (lv_at hl 2 rfl) ?_
            refine lv_iadd hx hb dX1_meetWeir_48 ?_
            refine top_i (y := nI ((qPl a i) + 1)) (nI_add _ _) ?_
            refine lv_iload hx hb dX1_meetWeir_49 (lv_at hl 0 rfl) ?_
            refine pSi (As := [.int (nI (qLa a i)), .int (nI ((qPl a i) + 1)), .int 1]) (rest := [.ref (F 10), .int (v - (rg 540 c (ck (qLa a i) ((qPl a i) + 1) 0)))]) (wc := ([] : va_W)) ⟨hx, hb, hml, hown, hts⟩ (K_X1_cell lch D cA (qLa a i) ((qPl a i) + 1) 1 H.size (by first | assumption | omega)) (cwS 3 hts gX1_meetWeir_X1_cell rfl rfl rfl (by decide +kernel) ⟨Nat.le_of_ble_eq_true rfl, Nat.le_of_ble_eq_true rfl⟩) hE hP hD hS hA [] rfl rfl X0.blind (fun _ _ _ => trivial) hl.1 rfl rfl (Nat.le_of_ble_eq_true rfl) dX1_meetWeir_51 ⟨Nat.zero_le _, Nat.zero_le _⟩ (fun r_19 u_20 H locs h_21 hP hS => ?_)
            subst h_21
            refine pVi (As := [.int (ck (qLa a i) ((qPl a i) + 1) 1)]) (rest := [.int (v - (rg 540 c (ck (qLa a i) ((qPl a i) + 1) 0)))]) (wc := (wR cA (F 10) (F 21) 540 c)) ⟨hx, hb, hml, hown, hts⟩ (K_X2_get lch D cA (F 10) (F 21) 540 c (ck (qLa a i) ((qPl a i) + 1) 1) H.size (Nat.le_of_ble_eq_true rfl)) (cwV 1 hts gX1_meetWeir_X2_get rfl rfl rfl (by decide +kernel) ⟨Nat.le_of_ble_eq_true rfl, Nat.le_of_ble_eq_true rfl⟩) hE hP hD hS hA [10, 21] rfl rfl X0.blind (fun _ _ _ => trivial) 10 2 rfl rfl rfl hl.1 rfl rfl (Nat.le_of_ble_eq_true rfl) dX1_meetWeir_54 ⟨Nat.zero_le _, Nat.zero_le _⟩ (fun r_22 u_23 H locs h_24 hP hS => ?_)
            subst h_24
            refine lv_isub hx hb dX1_meetWeir_57 ?_
            refine lv_istore_n (lv' := [(3, .int ((v - (rg 540 c (ck (qLa a i) ((qPl a i) + 1) 0))) - (rg 540 c (ck (qLa a i) ((qPl a i) + 1) 1)))), (5, .int 1), (4, .int 1), (0, .ref (F 0)), (1, .int (nI i)), (2, .int v)]) hx hb dX1_meetWeir_58 rfl hl (by decide) rfl (fun ls hl => ?_)
            refine lv_iinc (v := 2) (lv' := [(5, .int 2), (3, .int ((v - (rg 540 c (ck (qLa a i) ((qPl a i) + 1) 0))) - (rg 540 c (ck (qLa a i) ((qPl a i) + 1) 1)))), (4, .int 1), (0, .ref (F 0)), (1, .int (nI i)), (2, .int v)]) hx hb dX1_meetWeir_59 hl (k := 1) rfl (by decide) (by decide) rfl (fun ls hl => ?_)
            refine lv_goto (tgt := 19) hx hb dX1_meetWeir_62 (by decide) ?_
            refine lv_iload hx hb dX1_meetWeir_19 (lv_at hl 0 rfl) ?_
            refine lv_iconst (v := 3) hx hb dX1_meetWeir_21 (by decide) ?_
            refine lv_icmp_ge (tgt := 65) hx hb dX1_meetWeir_22 (by decide) (fun c22_2 => ?_) (fun c22_2 => ?_)
            · skip
              exfalso; revert c22_2; decide
            · skip
              have c22_2 := (not_congr (nI_leI (a := 3) (b := 2) (by omega) (by omega))).mp c22_2
              refine lv_iload_n hx hb dX1_meetWeir_25 rfl (lv_at hl 1 rfl) ?_
              refine lv_aload_n hx hb dX1_meetWeir_26 rfl (lv_at hl 3 rfl) ?_
              refine va_get (D := D) (ci := 1) (v := .ref (F 10)) (C := RX1) (T := TX1) (N := 13) hx hb hts inX1 hown hE.1 hP 0 rfl rfl 9 (by decide) kf44 (fun _ h9 => h9) rfl dX1_meetWeir_27 ?_
              refine lv_aload_n hx hb dX1_meetWeir_30 rfl (lv_at hl 3 rfl) ?_
              refine va_get (D := D) (ci := 1) (v := .ref (F 3)) (C := RX1) (T := TX1) (N := 13) hx hb hts inX1 hown hE.1 hP 0 rfl rfl 2 (by decide) kf23 (fun _ h9 => h9) rfl dX1_meetWeir_31 ?_
              refine lv_iload_n hx hb dX1_meetWeir_34 rfl (lv_at hl 4 rfl) ?_
              refine pVi (As := [.int (nI i)]) (rest := [.ref (F 10), .int ((v - (rg 540 c (ck (qLa a i) ((qPl a i) + 1) 0))) - (rg 540 c (ck (qLa a i) ((qPl a i) + 1) 1)))]) (wc := (wR cA (F 3) (F 14) 41 (fun z9 => nI (qLa a z9)))) ⟨hx, hb, hml, hown, hts⟩ (K_X2_getk lch D cA (F 3) (F 14) 41 (fun z9 => nI (qLa a z9)) i (nI (qLa a i)) H.size (by omega) (Nat.le_of_ble_eq_true rfl) (rfl)) (cwV 1 hts gX1_meetWeir_X2_get rfl rfl rfl (by decide +kernel) ⟨Nat.le_of_ble_eq_true rfl, Nat.le_of_ble_eq_true rfl⟩) hE hP hD hS hA [3, 14] rfl rfl X0.blind (fun _ _ _ => trivial) 3 2 rfl rfl rfl hl.1 rfl rfl (Nat.le_of_ble_eq_true rfl) dX1_meetWeir_35 ⟨Nat.zero_le _, Nat.zero_le _⟩ (fun r_25 u_26 H locs h_27 hP hS => ?_)
              subst h_27
              refine lv_aload_n hx hb dX1_meetWeir_38 rfl (lv_at hl 3 rfl) ?_
              refine va_get (D := D) (ci := 1) (v := .ref (F 4)) (C := RX1) (T := TX1) (N := 13) hx hb hts inX1 hown hE.1 hP 0 rfl rfl 3 (by decide) kf26 (fun _ h9 => h9) rfl dX1_meetWeir_39 ?_
              refine lv_iload_n hx hb dX1_meetWeir_42 rfl (lv_at hl 4 rfl) ?_
              refine pVi (As := [.int (nI i)]) (rest := [.int (nI (qLa a i)), .ref (F 10), .int ((v - (rg 540 c (ck (qLa a i) ((qPl a i) + 1) 0))) - (rg 540 c (ck (qLa a i) ((qPl a i) + 1) 1)))]) (wc := (wR cA (F 4) (F 15) 41 (fun z9 => nI (qPl a z9)))) ⟨hx, hb, hml, hown, hts⟩ (K_X2_getk lch D cA (F 4) (F 15) 41 (fun z9 => nI (qPl a z9)) i (nI (qPl a i)) H.size (by omega) (Nat.le_of_ble_eq_true rfl) (rfl)) (cwV 1 hts gX1_meetWeir_X2_get rfl rfl rfl (by decide +kernel) ⟨Nat.le_of_ble_eq_true rfl, Nat.le_of_ble_eq_true rfl⟩) hE hP hD hS hA [4, 15] rfl rfl X0.blind (fun _ _ _ => trivial) 4 2 rfl rfl rfl hl.1 rfl rfl (Nat.le_of_ble_eq_true rfl) dX1_meetWeir_43 ⟨Nat.zero_le _, Nat.zero_le _⟩ (fun r_28 u_29 H locs h_30 hP hS => ?_)
              subst h_30
              refine lv_iload hx hb dX1_meetWeir_46 (lv_at hl 2 rfl) ?_
              refine lv_iadd hx hb dX1_meetWeir_48 ?_
              refine top_i (y := nI ((qPl a i) + 1)) (nI_add _ _) ?_
              refine lv_iload hx hb dX1_meetWeir_49 (lv_at hl 0 rfl) ?_
              refine pSi (As := [.int (nI (qLa a i)), .int (nI ((qPl a i) + 1)), .int 2]) (rest := [.ref (F 10), .int ((v - (rg 540 c (ck (qLa a i) ((qPl a i) + 1) 0))) - (rg 540 c (ck (qLa a i) ((qPl a i) + 1) 1)))]) (wc := ([] : va_W)) ⟨hx, hb, hml, hown, hts⟩ (K_X1_cell lch D cA (qLa a i) ((qPl a i) + 1) 2 H.size (by first | assumption | omega)) (cwS 3 hts gX1_meetWeir_X1_cell rfl rfl rfl (by decide +kernel) ⟨Nat.le_of_ble_eq_true rfl, Nat.le_of_ble_eq_true rfl⟩) hE hP hD hS hA [] rfl rfl X0.blind (fun _ _ _ => trivial) hl.1 rfl rfl (Nat.le_of_ble_eq_true rfl) dX1_meetWeir_51 ⟨Nat.zero_le _, Nat.zero_le _⟩ (fun r_31 u_32 H locs h_33 hP hS => ?_)
              subst h_33
              refine pVi (As := [.int (ck (qLa a i) ((qPl a i) + 1) 2)]) (rest := [.int ((v - (rg 540 c (ck (qLa a i) ((qPl a i) + 1) 0))) - (rg 540 c (ck (qLa a i) ((qPl a i) + 1) 1)))]) (wc := (wR cA (F 10) (F 21) 540 c)) ⟨hx, hb, hml, hown, hts⟩ (K_X2_get lch D cA (F 10) (F 21) 540 c (ck (qLa a i) ((qPl a i) + 1) 2) H.size (Nat.le_of_ble_eq_true rfl)) (cwV 1 hts gX1_meetWeir_X2_get rfl rfl rfl (by decide +kernel) ⟨Nat.le_of_ble_eq_true rfl, Nat.le_of_ble_eq_true rfl⟩) hE hP hD hS hA [10, 21] rfl rfl X0.blind (fun _ _ _ => trivial) 10 2 rfl rfl rfl hl.1 rfl rfl (Nat.le_of_ble_eq_true rfl) dX1_meetWeir_54 ⟨Nat.zero_le _, Nat.zero_le _⟩ (fun r_34 u_35 H locs h_36 hP hS => ?_)
              subst h_36
              refine lv_isub hx hb dX1_meetWeir_57 ?_
              refine lv_istore_n (lv' := [(3, .int (((v - (rg 540 c (ck (qLa a i) ((qPl a i) + 1) 0))) - (rg 540 c (ck (qLa a i) ((qPl a i) + 1) 1))) - (rg 540 c (ck (qLa a i) ((qPl a i) + 1) 2)))), (5, .int 2), (4, .int 1), (0, .ref (F 0)), (1, .int (nI i)), (2, .int v)]) hx hb dX1_meetWeir_58 rfl hl (by decide) rfl (fun ls hl => ?_)
              refine lv_iinc (v := 3) (lv' := [(5, .int 3), (3, .int (((v - (rg 540 c (ck (qLa a i) ((qPl a i) + 1) 0))) - (rg 540 c (ck (qLa a i) ((qPl a i) + 1) 1))) - (rg 540 c (ck (qLa a i) ((qPl a i) + 1) 2)))), (4, .int 1), (0, .ref (F 0)), (1, .int (nI i)), (2, .int v)]) hx hb dX1_meetWeir_59 hl (k := 1) rfl (by decide) (by decide) rfl (fun ls hl => ?_)
              refine lv_goto (tgt := 19) hx hb dX1_meetWeir_62 (by decide) ?_
              refine lv_iload hx hb dX1_meetWeir_19 (lv_at hl 0 rfl) ?_
              refine lv_iconst (v := 3) hx hb dX1_meetWeir_21 (by decide) ?_
              refine lv_icmp_ge (tgt := 65) hx hb dX1_meetWeir_22 (by decide) (fun c22_3 => ?_) (fun c22_3 => ?_)
              · skip
                have c22_3 := (nI_leI (a := 3) (b := 3) (by omega) (by omega)).mp c22_3
                refine lv_iinc (v := 2) (lv' := [(4, .int 2), (5, .int 3), (3, .int (((v - (rg 540 c (ck (qLa a i) ((qPl a i) + 1) 0))) - (rg 540 c (ck (qLa a i) ((qPl a i) + 1) 1))) - (rg 540 c (ck (qLa a i) ((qPl a i) + 1) 2)))), (0, .ref (F 0)), (1, .int (nI i)), (2, .int v)]) hx hb dX1_meetWeir_65 hl (k := 2) rfl (by decide) (by decide) rfl (fun ls hl => ?_)
                refine lv_goto (tgt := 10) hx hb dX1_meetWeir_68 (by decide) ?_
                refine lv_iload hx hb dX1_meetWeir_10 (lv_at hl 0 rfl) ?_
                refine lv_iconst (v := 3) hx hb dX1_meetWeir_12 (by decide) ?_
                refine lv_icmp_gt (tgt := 71) hx hb dX1_meetWeir_13 (by decide) (fun c13_1 => ?_) (fun c13_1 => ?_)
                · skip
                  exfalso; revert c13_1; decide
                · skip
                  have c13_1 := (not_congr (nI_ltI (a := 3) (b := 2) (by omega) (by omega))).mp c13_1
                  refine lv_iconst (v := 0) hx hb dX1_meetWeir_16 (by decide) ?_
                  refine lv_istore (lv' := [(5, .int 0), (4, .int 2), (3, .int (((v - (rg 540 c (ck (qLa a i) ((qPl a i) + 1) 0))) - (rg 540 c (ck (qLa a i) ((qPl a i) + 1) 1))) - (rg 540 c (ck (qLa a i) ((qPl a i) + 1) 2)))), (0, .ref (F 0)), (1, .int (nI i)), (2, .int v)]) hx hb dX1_meetWeir_17 hl (by decide) rfl (fun ls hl => ?_)
                  refine lv_iload hx hb dX1_meetWeir_19 (lv_at hl 0 rfl) ?_
                  refine lv_iconst (v := 3) hx hb dX1_meetWeir_21 (by decide) ?_
                  refine lv_icmp_ge (tgt := 65) hx hb dX1_meetWeir_22 (by decide) (fun c22_4 => ?_) (fun c22_4 => ?_)
                  · skip
                    exfalso; revert c22_4; decide
                  · skip
                    have c22_4 := (not_congr (nI_leI (a := 3) (b := 0) (by omega) (by omega))).mp c22_4
                    refine lv_iload_n hx hb dX1_meetWeir_25 rfl (lv_at hl 2 rfl) ?_
                    refine lv_aload_n hx hb dX1_meetWeir_26 rfl (lv_at hl 3 rfl) ?_
                    refine va_get (D := D) (ci := 1) (v := .ref (F 10)) (C := RX1) (T := TX1) (N := 13) hx hb hts inX1 hown hE.1 hP 0 rfl rfl 9 (by decide) kf44 (fun _ h9 => h9) rfl dX1_meetWeir_27 ?_
                    refine lv_aload_n hx hb dX1_meetWeir_30 rfl (lv_at hl 3 rfl) ?_
                    refine va_get (D := D) (ci := 1) (v := .ref (F 3)) (C := RX1) (T := TX1) (N := 13) hx hb hts inX1 hown hE.1 hP 0 rfl rfl 2 (by decide) kf23 (fun _ h9 => h9) rfl dX1_meetWeir_31 ?_
                    refine lv_iload_n hx hb dX1_meetWeir_34 rfl (lv_at hl 4 rfl) ?_
                    refine pVi (As := [.int (nI i)]) (rest := [.ref (F 10), .int (((v - (rg 540 c (ck (qLa a i) ((qPl a i) + 1) 0))) - (rg 540 c (ck (qLa a i) ((qPl a i) + 1) 1))) - (rg 540 c (ck (qLa a i) ((qPl a i) + 1) 2)))]) (wc := (wR cA (F 3) (F 14) 41 (fun z9 => nI (qLa a z9)))) ⟨hx, hb, hml, hown, hts⟩ (K_X2_getk lch D cA (F 3) (F 14) 41 (fun z9 => nI (qLa a z9)) i (nI (qLa a i)) H.size (by omega) (Nat.le_of_ble_eq_true rfl) (rfl)) (cwV 1 hts gX1_meetWeir_X2_get rfl rfl rfl (by decide +kernel) ⟨Nat.le_of_ble_eq_true rfl, Nat.le_of_ble_eq_true rfl⟩) hE hP hD hS hA [3, 14] rfl rfl X0.blind (fun _ _ _ => trivial) 3 2 rfl rfl rfl hl.1 rfl rfl (Nat.le_of_ble_eq_true rfl) dX1_meetWeir_35 ⟨Nat.zero_le _, Nat.zero_le _⟩ (fun r_37 u_38 H locs h_39 hP hS => ?_)
                    subst h_39
                    refine lv_aload_n hx hb dX1_meetWeir_38 rfl (lv_at hl 3 rfl) ?_
                    refine va_get (D := D) (ci := 1) (v := .ref (F 4)) (C := RX1) (T := TX1) (N := 13) hx hb hts inX1 hown hE.1 hP 0 rfl rfl 3 (by decide) kf26 (fun _ h9 => h9) rfl dX1_meetWeir_39 ?_
                    refine lv_iload_n hx hb dX1_meetWeir_42 rfl (lv_at hl 4 rfl) ?_
                    refine pVi (As := [.int (nI i)]) (rest := [.int (nI (qLa a i)), .ref (F 10), .int (((v - (rg 540 c (ck (qLa a i) ((qPl a i) + 1) 0))) - (rg 540 c (ck (qLa a i) ((qPl a i) + 1) 1))) - (rg 540 c (ck (qLa a i) ((qPl a i) + 1) 2)))]) (wc := (wR cA (F 4) (F 15) 41 (fun z9 => nI (qPl a z9)))) ⟨hx, hb, hml, hown, hts⟩ (K_X2_getk lch D cA (F 4) (F 15) 41 (fun z9 => nI (qPl a z9)) i (nI (qPl a i)) H.size (by omega) (Nat.le_of_ble_eq_true rfl) (rfl)) (cwV 1 hts gX1_meetWeir_X2_get rfl rfl rfl (by decide +kernel) ⟨Nat.le_of_ble_eq_true rfl, Nat.le_of_ble_eq_true rfl⟩) hE hP hD hS hA [4, 15] rfl rfl X0.blind (fun _ _ _ => trivial) 4 2 rfl rfl rfl hl.1 rfl rfl (Nat.le_of_ble_eq_true rfl) dX1_meetWeir_43 ⟨Nat.zero_le _, Nat.zero_le _⟩ (fun r_40 u_41 H locs h_42 hP hS => ?_)
                    subst h_42
                    refine lv_iload hx hb dX1_meetWeir_46 (lv_at hl 1 rfl) ?_
                    refine lv_iadd hx hb dX1_meetWeir_48 ?_
                    refine top_i (y := nI ((qPl a i) + 2)) (nI_add _ _) ?_
                    refine lv_iload hx hb dX1_meetWeir_49 (lv_at hl 0 rfl) ?_
                    refine pSi (As := [.int (nI (qLa a i)), .int (nI ((qPl a i) + 2)), .int 0]) (rest := [.ref (F 10), .int (((v - (rg 540 c (ck (qLa a i) ((qPl a i) + 1) 0))) - (rg 540 c (ck (qLa a i) ((qPl a i) + 1) 1))) - (rg 540 c (ck (qLa a i) ((qPl a i) + 1) 2)))]) (wc := ([] : va_W)) ⟨hx, hb, hml, hown, hts⟩ (K_X1_cell lch D cA (qLa a i) ((qPl a i) + 2) 0 H.size (by first | assumption | omega)) (cwS 3 hts gX1_meetWeir_X1_cell rfl rfl rfl (by decide +kernel) ⟨Nat.le_of_ble_eq_true rfl, Nat.le_of_ble_eq_true rfl⟩) hE hP hD hS hA [] rfl rfl X0.blind (fun _ _ _ => trivial) hl.1 rfl rfl (Nat.le_of_ble_eq_true rfl) dX1_meetWeir_51 ⟨Nat.zero_le _, Nat.zero_le _⟩ (fun r_43 u_44 H locs h_45 hP hS => ?_)
                    subst h_45
                    refine pVi (As := [.int (ck (qLa a i) ((qPl a i) + 2) 0)]) (rest := [.int (((v - (rg 540 c (ck (qLa a i) ((qPl a i) + 1) 0))) - (rg 540 c (ck (qLa a i) ((qPl a i) + 1) 1))) - (rg 540 c (ck (qLa a i) ((qPl a i) + 1) 2)))]) (wc := (wR cA (F 10) (F 21) 540 c)) ⟨hx, hb, hml, hown, hts⟩ (K_X2_get lch D cA (F 10) (F 21) 540 c (ck (qLa a i) ((qPl a i) + 2) 0) H.size (Nat.le_of_ble_eq_true rfl)) (cwV 1 hts gX1_meetWeir_X2_get rfl rfl rfl (by decide +kernel) ⟨Nat.le_of_ble_eq_true rfl, Nat.le_of_ble_eq_true rfl⟩) hE hP hD hS hA [10, 21] rfl rfl X0.blind (fun _ _ _ => trivial) 10 2 rfl rfl rfl hl.1 rfl rfl (Nat.le_of_ble_eq_true rfl) dX1_meetWeir_54 ⟨Nat.zero_le _, Nat.zero_le _⟩ (fun r_46 u_47 H locs h_48 hP hS => ?_)
                    subst h_48
                    refine lv_isub hx hb dX1_meetWeir_57 ?_
                    refine lv_istore_n (lv' := [(3, .int ((((v - (rg 540 c (ck (qLa a i) ((qPl a i) + 1) 0))) - (rg 540 c (ck (qLa a i) ((qPl a i) + 1) 1))) - (rg 540 c (ck (qLa a i) ((qPl a i) + 1) 2))) - (rg 540 c (ck (qLa a i) ((qPl a i) + 2) 0)))), (5, .int 0), (4, .int 2), (0, .ref (F 0)), (1, .int (nI i)), (2, .int v)]) hx hb dX1_meetWeir_58 rfl hl (by decide) rfl (fun ls hl => ?_)
                    refine lv_iinc (v := 1) (lv' := [(5, .int 1), (3, .int ((((v - (rg 540 c (ck (qLa a i) ((qPl a i) + 1) 0))) - (rg 540 c (ck (qLa a i) ((qPl a i) + 1) 1))) - (rg 540 c (ck (qLa a i) ((qPl a i) + 1) 2))) - (rg 540 c (ck (qLa a i) ((qPl a i) + 2) 0)))), (4, .int 2), (0, .ref (F 0)), (1, .int (nI i)), (2, .int v)]) hx hb dX1_meetWeir_59 hl (k := 1) rfl (by decide) (by decide) rfl (fun ls hl => ?_)
                    refine lv_goto (tgt := 19) hx hb dX1_meetWeir_62 (by decide) ?_
                    refine lv_iload hx hb dX1_meetWeir_19 (lv_at hl 0 rfl) ?_
                    refine lv_iconst (v := 3) hx hb dX1_meetWeir_21 (by decide) ?_
                    refine lv_icmp_ge (tgt := 65) hx hb dX1_meetWeir_22 (by decide) (fun c22_5 => ?_) (fun c22_5 => ?_)
                    · skip
                      exfalso; revert c22_5; decide
                    · skip
                      have c22_5 := (not_congr (nI_leI (a := 3) (b := 1) (by omega) (by omega))).mp c22_5
                      refine lv_iload_n hx hb dX1_meetWeir_25 rfl (lv_at hl 1 rfl) ?_
                      refine lv_aload_n hx hb dX1_meetWeir_26 rfl (lv_at hl 3 rfl) ?_
                      refine va_get (D := D) (ci := 1) (v := .ref (F 10)) (C := RX1) (T := TX1) (N := 13) hx hb hts inX1 hown hE.1 hP 0 rfl rfl 9 (by decide) kf44 (fun _ h9 => h9) rfl dX1_meetWeir_27 ?_
                      refine lv_aload_n hx hb dX1_meetWeir_30 rfl (lv_at hl 3 rfl) ?_
                      refine va_get (D := D) (ci := 1) (v := .ref (F 3)) (C := RX1) (T := TX1) (N := 13) hx hb hts inX1 hown hE.1 hP 0 rfl rfl 2 (by decide) kf23 (fun _ h9 => h9) rfl dX1_meetWeir_31 ?_
                      refine lv_iload_n hx hb dX1_meetWeir_34 rfl (lv_at hl 4 rfl) ?_
                      refine pVi (As := [.int (nI i)]) (rest := [.ref (F 10), .int ((((v - (rg 540 c (ck (qLa a i) ((qPl a i) + 1) 0))) - (rg 540 c (ck (qLa a i) ((qPl a i) + 1) 1))) - (rg 540 c (ck (qLa a i) ((qPl a i) + 1) 2))) - (rg 540 c (ck (qLa a i) ((qPl a i) + 2) 0)))]) (wc := (wR cA (F 3) (F 14) 41 (fun z9 => nI (qLa a z9)))) ⟨hx, hb, hml, hown, hts⟩ (K_X2_getk lch D cA (F 3) (F 14) 41 (fun z9 => nI (qLa a z9)) i (nI (qLa a i)) H.size (by omega) (Nat.le_of_ble_eq_true rfl) (rfl)) (cwV 1 hts gX1_meetWeir_X2_get rfl rfl rfl (by decide +kernel) ⟨Nat.le_of_ble_eq_true rfl, Nat.le_of_ble_eq_true rfl⟩) hE hP hD hS hA [3, 14] rfl rfl X0.blind (fun _ _ _ => trivial) 3 2 rfl rfl rfl hl.1 rfl rfl (Nat.le_of_ble_eq_true rfl) dX1_meetWeir_35 ⟨Nat.zero_le _, Nat.zero_le _⟩ (fun r_49 u_50 H locs h_51 hP hS => ?_)
                      subst h_51
                      refine lv_aload_n hx hb dX1_meetWeir_38 rfl (lv_at hl 3 rfl) ?_
                      refine va_get (D := D) (ci := 1) (v := .ref (F 4)) (C := RX1) (T := TX1) (N := 13) hx hb hts inX1 hown hE.1 hP 0 rfl rfl 3 (by decide) kf26 (fun _ h9 => h9) rfl dX1_meetWeir_39 ?_
                      refine lv_iload_n hx hb dX1_meetWeir_42 rfl (lv_at hl 4 rfl) ?_
                      refine pVi (As := [.int (nI i)]) (rest := [.int (nI (qLa a i)), .ref (F 10), .int ((((v - (rg 540 c (ck (qLa a i) ((qPl a i) + 1) 0))) - (rg 540 c (ck (qLa a i) ((qPl a i) + 1) 1))) - (rg 540 c (ck (qLa a i) ((qPl a i) + 1) 2))) - (rg 540 c (ck (qLa a i) ((qPl a i) + 2) 0)))]) (wc := (wR cA (F 4) (F 15) 41 (fun z9 => nI (qPl a z9)))) ⟨hx, hb, hml, hown, hts⟩ (K_X2_getk lch D cA (F 4) (F 15) 41 (fun z9 => nI (qPl a z9)) i (nI (qPl a i)) H.size (by omega) (Nat.le_of_ble_eq_true rfl) (rfl)) (cwV 1 hts gX1_meetWeir_X2_get rfl rfl rfl (by decide +kernel) ⟨Nat.le_of_ble_eq_true rfl, Nat.le_of_ble_eq_true rfl⟩) hE hP hD hS hA [4, 15] rfl rfl X0.blind (fun _ _ _ => trivial) 4 2 rfl rfl rfl hl.1 rfl rfl (Nat.le_of_ble_eq_true rfl) dX1_meetWeir_43 ⟨Nat.zero_le _, Nat.zero_le _⟩ (fun r_52 u_53 H locs h_54 hP hS => ?_)
                      subst h_54
                      refine lv_iload hx hb dX1_meetWeir_46 (lv_at hl 2 rfl) ?_
                      refine lv_iadd hx hb dX1_meetWeir_48 ?_
                      refine top_i (y := nI ((qPl a i) + 2)) (nI_add _ _) ?_
                      refine lv_iload hx hb dX1_meetWeir_49 (lv_at hl 0 rfl) ?_
                      refine pSi (As := [.int (nI (qLa a i)), .int (nI ((qPl a i) + 2)), .int 1]) (rest := [.ref (F 10), .int ((((v - (rg 540 c (ck (qLa a i) ((qPl a i) + 1) 0))) - (rg 540 c (ck (qLa a i) ((qPl a i) + 1) 1))) - (rg 540 c (ck (qLa a i) ((qPl a i) + 1) 2))) - (rg 540 c (ck (qLa a i) ((qPl a i) + 2) 0)))]) (wc := ([] : va_W)) ⟨hx, hb, hml, hown, hts⟩ (K_X1_cell lch D cA (qLa a i) ((qPl a i) + 2) 1 H.size (by first | assumption | omega)) (cwS 3 hts gX1_meetWeir_X1_cell rfl rfl rfl (by decide +kernel) ⟨Nat.le_of_ble_eq_true rfl, Nat.le_of_ble_eq_true rfl⟩) hE hP hD hS hA [] rfl rfl X0.blind (fun _ _ _ => trivial) hl.1 rfl rfl (Nat.le_of_ble_eq_true rfl) dX1_meetWeir_51 ⟨Nat.zero_le _, Nat.zero_le _⟩ (fun r_55 u_56 H locs h_57 hP hS => ?_)
                      subst h_57
                      refine pVi (As := [.int (ck (qLa a i) ((qPl a i) + 2) 1)]) (rest := [.int ((((v - (rg 540 c (ck (qLa a i) ((qPl a i) + 1) 0))) - (rg 540 c (ck (qLa a i) ((qPl a i) + 1) 1))) - (rg 540 c (ck (qLa a i) ((qPl a i) + 1) 2))) - (rg 540 c (ck (qLa a i) ((qPl a i) + 2) 0)))]) (wc := (wR cA (F 10) (F 21) 540 c)) ⟨hx, hb, hml, hown, hts⟩ (K_X2_get lch D cA (F 10) (F 21) 540 c (ck (qLa a i) ((qPl a i) + 2) 1) H.size (Nat.le_of_ble_eq_true rfl)) (cwV 1 hts gX1_meetWeir_X2_get rfl rfl rfl (by decide +kernel) ⟨Nat.le_of_ble_eq_true rfl, Nat.le_of_ble_eq_true rfl⟩) hE hP hD hS hA [10, 21] rfl rfl X0.blind (fun _ _ _ => trivial) 10 2 rfl rfl rfl hl.1 rfl rfl (Nat.le_of_ble_eq_true rfl) dX1_meetWeir_54 ⟨Nat.zero_le _, Nat.zero_le _⟩ (fun r_58 u_59 H locs h_60 hP hS => ?_)
                      subst h_60
                      refine lv_isub hx hb dX1_meetWeir_57 ?_
                      refine lv_istore_n (lv' := [(3, .int (((((v - (rg 540 c (ck (qLa a i) ((qPl a i) + 1) 0))) - (rg 540 c (ck (qLa a i) ((qPl a i) + 1) 1))) - (rg 540 c (ck (qLa a i) ((qPl a i) + 1) 2))) - (rg 540 c (ck (qLa a i) ((qPl a i) + 2) 0))) - (rg 540 c (ck (qLa a i) ((qPl a i) + 2) 1)))), (5, .int 1), (4, .int 2), (0, .ref (F 0)), (1, .int (nI i)), (2, .int v)]) hx hb dX1_meetWeir_58 rfl hl (by decide) rfl (fun ls hl => ?_)
                      refine lv_iinc (v := 2) (lv' := [(5, .int 2), (3, .int (((((v - (rg 540 c (ck (qLa a i) ((qPl a i) + 1) 0))) - (rg 540 c (ck (qLa a i) ((qPl a i) + 1) 1))) - (rg 540 c (ck (qLa a i) ((qPl a i) + 1) 2))) - (rg 540 c (ck (qLa a i) ((qPl a i) + 2) 0))) - (rg 540 c (ck (qLa a i) ((qPl a i) + 2) 1)))), (4, .int 2), (0, .ref (F 0)), (1, .int (nI i)), (2, .int v)]) hx hb dX1_meetWeir_59 hl (k := 1) rfl (by decide) (by decide) rfl (fun ls hl => ?_)
                      refine lv_goto (tgt := 19) hx hb dX1_meetWeir_62 (by decide) ?_
                      refine lv_iload hx hb dX1_meetWeir_19 (lv_at hl 0 rfl) ?_
                      refine lv_iconst (v := 3) hx hb dX1_meetWeir_21 (by decide) ?_
                      refine lv_icmp_ge (tgt := 65) hx hb dX1_meetWeir_22 (by decide) (fun c22_6 => ?_) (fun c22_6 => ?_)
                      · skip
                        exfalso; revert c22_6; decide
                      · skip
                        have c22_6 := (not_congr (nI_leI (a := 3) (b := 2) (by omega) (by omega))).mp c22_6
                        refine lv_iload_n hx hb dX1_meetWeir_25 rfl (lv_at hl 1 rfl) ?_
                        refine lv_aload_n hx hb dX1_meetWeir_26 rfl (lv_at hl 3 rfl) ?_
                        refine va_get (D := D) (ci := 1) (v := .ref (F 10)) (C := RX1) (T := TX1) (N := 13) hx hb hts inX1 hown hE.1 hP 0 rfl rfl 9 (by decide) kf44 (fun _ h9 => h9) rfl dX1_meetWeir_27 ?_
                        refine lv_aload_n hx hb dX1_meetWeir_30 rfl (lv_at hl 3 rfl) ?_
                        refine va_get (D := D) (ci := 1) (v := .ref (F 3)) (C := RX1) (T := TX1) (N := 13) hx hb hts inX1 hown hE.1 hP 0 rfl rfl 2 (by decide) kf23 (fun _ h9 => h9) rfl dX1_meetWeir_31 ?_
                        refine lv_iload_n hx hb dX1_meetWeir_34 rfl (lv_at hl 4 rfl) ?_
                        refine pVi (As := [.int (nI i)]) (rest := [.ref (F 10), .int (((((v - (rg 540 c (ck (qLa a i) ((qPl a i) + 1) 0))) - (rg 540 c (ck (qLa a i) ((qPl a i) + 1) 1))) - (rg 540 c (ck (qLa a i) ((qPl a i) + 1) 2))) - (rg 540 c (ck (qLa a i) ((qPl a i) + 2) 0))) - (rg 540 c (ck (qLa a i) ((qPl a i) + 2) 1)))]) (wc := (wR cA (F 3) (F 14) 41 (fun z9 => nI (qLa a z9)))) ⟨hx, hb, hml, hown, hts⟩ (K_X2_getk lch D cA (F 3) (F 14) 41 (fun z9 => nI (qLa a z9)) i (nI (qLa a i)) H.size (by omega) (Nat.le_of_ble_eq_true rfl) (rfl)) (cwV 1 hts gX1_meetWeir_X2_get rfl rfl rfl (by decide +kernel) ⟨Nat.le_of_ble_eq_true rfl, Nat.le_of_ble_eq_true rfl⟩) hE hP hD hS hA [3, 14] rfl rfl X0.blind (fun _ _ _ => trivial) 3 2 rfl rfl rfl hl.1 rfl rfl (Nat.le_of_ble_eq_true rfl) dX1_meetWeir_35 ⟨Nat.zero_le _, Nat.zero_le _⟩ (fun r_61 u_62 H locs h_63 hP hS => ?_)
                        subst h_63
                        refine lv_aload_n hx hb dX1_meetWeir_38 rfl (lv_at hl 3 rfl) ?_
                        refine va_get (D := D) (ci := 1) (v := .ref (F 4)) (C := RX1) (T := TX1) (N := 13) hx hb hts inX1 hown hE.1 hP 0 rfl rfl 3 (by decide) kf26 (fun _ h9 => h9) rfl dX1_meetWeir_39 ?_
                        refine lv_iload_n hx hb dX1_meetWeir_42 rfl (lv_at hl 4 rfl) ?_
                        refine pVi (As := [.int (nI i)]) (rest := [.int (nI (qLa a i)), .ref (F 10), .int (((((v - (rg 540 c (ck (qLa a i) ((qPl a i) + 1) 0))) - (rg 540 c (ck (qLa a i) ((qPl a i) + 1) 1))) - (rg 540 c (ck (qLa a i) ((qPl a i) + 1) 2))) - (rg 540 c (ck (qLa a i) ((qPl a i) + 2) 0))) - (rg 540 c (ck (qLa a i) ((qPl a i) + 2) 1)))]) (wc := (wR cA (F 4) (F 15) 41 (fun z9 => nI (qPl a z9)))) ⟨hx, hb, hml, hown, hts⟩ (K_X2_getk lch D cA (F 4) (F 15) 41 (fun z9 => nI (qPl a z9)) i (nI (qPl a i)) H.size (by omega) (Nat.le_of_ble_eq_true rfl) (rfl)) (cwV 1 hts gX1_meetWeir_X2_get rfl rfl rfl (by decide +kernel) ⟨Nat.le_of_ble_eq_true rfl, Nat.le_of_ble_eq_true rfl⟩) hE hP hD hS hA [4, 15] rfl rfl X0.blind (fun _ _ _ => trivial) 4 2 rfl rfl rfl hl.1 rfl rfl (Nat.le_of_ble_eq_true rfl) dX1_meetWeir_43 ⟨Nat.zero_le _, Nat.zero_le _⟩ (fun r_64 u_65 H locs h_66 hP hS => ?_)
                        subst h_66
                        refine lv_iload hx hb dX1_meetWeir_46 (lv_at hl 2 rfl) ?_
                        refine lv_iadd hx hb dX1_meetWeir_48 ?_
                        refine top_i (y := nI ((qPl a i) + 2)) (nI_add _ _) ?_
                        refine lv_iload hx hb dX1_meetWeir_49 (lv_at hl 0 rfl) ?_
                        refine pSi (As := [.int (nI (qLa a i)), .int (nI ((qPl a i) + 2)), .int 2]) (rest := [.ref (F 10), .int (((((v - (rg 540 c (ck (qLa a i) ((qPl a i) + 1) 0))) - (rg 540 c (ck (qLa a i) ((qPl a i) + 1) 1))) - (rg 540 c (ck (qLa a i) ((qPl a i) + 1) 2))) - (rg 540 c (ck (qLa a i) ((qPl a i) + 2) 0))) - (rg 540 c (ck (qLa a i) ((qPl a i) + 2) 1)))]) (wc := ([] : va_W)) ⟨hx, hb, hml, hown, hts⟩ (K_X1_cell lch D cA (qLa a i) ((qPl a i) + 2) 2 H.size (by first | assumption | omega)) (cwS 3 hts gX1_meetWeir_X1_cell rfl rfl rfl (by decide +kernel) ⟨Nat.le_of_ble_eq_true rfl, Nat.le_of_ble_eq_true rfl⟩) hE hP hD hS hA [] rfl rfl X0.blind (fun _ _ _ => trivial) hl.1 rfl rfl (Nat.le_of_ble_eq_true rfl) dX1_meetWeir_51 ⟨Nat.zero_le _, Nat.zero_le _⟩ (fun r_67 u_68 H locs h_69 hP hS => ?_)
                        subst h_69
                        refine pVi (As := [.int (ck (qLa a i) ((qPl a i) + 2) 2)]) (rest := [.int (((((v - (rg 540 c (ck (qLa a i) ((qPl a i) + 1) 0))) - (rg 540 c (ck (qLa a i) ((qPl a i) + 1) 1))) - (rg 540 c (ck (qLa a i) ((qPl a i) + 1) 2))) - (rg 540 c (ck (qLa a i) ((qPl a i) + 2) 0))) - (rg 540 c (ck (qLa a i) ((qPl a i) + 2) 1)))]) (wc := (wR cA (F 10) (F 21) 540 c)) ⟨hx, hb, hml, hown, hts⟩ (K_X2_get lch D cA (F 10) (F 21) 540 c (ck (qLa a i) ((qPl a i) + 2) 2) H.size (Nat.le_of_ble_eq_true rfl)) (cwV 1 hts gX1_meetWeir_X2_get rfl rfl rfl (by decide +kernel) ⟨Nat.le_of_ble_eq_true rfl, Nat.le_of_ble_eq_true rfl⟩) hE hP hD hS hA [10, 21] rfl rfl X0.blind (fun _ _ _ => trivial) 10 2 rfl rfl rfl hl.1 rfl rfl (Nat.le_of_ble_eq_true rfl) dX1_meetWeir_54 ⟨Nat.zero_le _, Nat.zero_le _⟩ (fun r_70 u_71 H locs h_72 hP hS => ?_)
                        subst h_72
                        refine lv_isub hx hb dX1_meetWeir_57 ?_
                        refine lv_istore_n (lv' := [(3, .int ((((((v - (rg 540 c (ck (qLa a i) ((qPl a i) + 1) 0))) - (rg 540 c (ck (qLa a i) ((qPl a i) + 1) 1))) - (rg 540 c (ck (qLa a i) ((qPl a i) + 1) 2))) - (rg 540 c (ck (qLa a i) ((qPl a i) + 2) 0))) - (rg 540 c (ck (qLa a i) ((qPl a i) + 2) 1))) - (rg 540 c (ck (qLa a i) ((qPl a i) + 2) 2)))), (5, .int 2), (4, .int 2), (0, .ref (F 0)), (1, .int (nI i)), (2, .int v)]) hx hb dX1_meetWeir_58 rfl hl (by decide) rfl (fun ls hl => ?_)
                        refine lv_iinc (v := 3) (lv' := [(5, .int 3), (3, .int ((((((v - (rg 540 c (ck (qLa a i) ((qPl a i) + 1) 0))) - (rg 540 c (ck (qLa a i) ((qPl a i) + 1) 1))) - (rg 540 c (ck (qLa a i) ((qPl a i) + 1) 2))) - (rg 540 c (ck (qLa a i) ((qPl a i) + 2) 0))) - (rg 540 c (ck (qLa a i) ((qPl a i) + 2) 1))) - (rg 540 c (ck (qLa a i) ((qPl a i) + 2) 2)))), (4, .int 2), (0, .ref (F 0)), (1, .int (nI i)), (2, .int v)]) hx hb dX1_meetWeir_59 hl (k := 1) rfl (by decide) (by decide) rfl (fun ls hl => ?_)
                        refine lv_goto (tgt := 19) hx hb dX1_meetWeir_62 (by decide) ?_
                        refine lv_iload hx hb dX1_meetWeir_19 (lv_at hl 0 rfl) ?_
                        refine lv_iconst (v := 3) hx hb dX1_meetWeir_21 (by decide) ?_
                        refine lv_icmp_ge (tgt := 65) hx hb dX1_meetWeir_22 (by decide) (fun c22_7 => ?_) (fun c22_7 => ?_)
                        · skip
                          have c22_7 := (nI_leI (a := 3) (b := 3) (by omega) (by omega)).mp c22_7
                          refine lv_iinc (v := 3) (lv' := [(4, .int 3), (5, .int 3), (3, .int ((((((v - (rg 540 c (ck (qLa a i) ((qPl a i) + 1) 0))) - (rg 540 c (ck (qLa a i) ((qPl a i) + 1) 1))) - (rg 540 c (ck (qLa a i) ((qPl a i) + 1) 2))) - (rg 540 c (ck (qLa a i) ((qPl a i) + 2) 0))) - (rg 540 c (ck (qLa a i) ((qPl a i) + 2) 1))) - (rg 540 c (ck (qLa a i) ((qPl a i) + 2) 2)))), (0, .ref (F 0)), (1, .int (nI i)), (2, .int v)]) hx hb dX1_meetWeir_65 hl (k := 2) rfl (by decide) (by decide) rfl (fun ls hl => ?_)
                          refine lv_goto (tgt := 10) hx hb dX1_meetWeir_68 (by decide) ?_
                          refine lv_iload hx hb dX1_meetWeir_10 (lv_at hl 0 rfl) ?_
                          refine lv_iconst (v := 3) hx hb dX1_meetWeir_12 (by decide) ?_
                          refine lv_icmp_gt (tgt := 71) hx hb dX1_meetWeir_13 (by decide) (fun c13_2 => ?_) (fun c13_2 => ?_)
                          · skip
                            exfalso; revert c13_2; decide
                          · skip
                            have c13_2 := (not_congr (nI_ltI (a := 3) (b := 3) (by omega) (by omega))).mp c13_2
                            refine lv_iconst (v := 0) hx hb dX1_meetWeir_16 (by decide) ?_
                            refine lv_istore (lv' := [(5, .int 0), (4, .int 3), (3, .int ((((((v - (rg 540 c (ck (qLa a i) ((qPl a i) + 1) 0))) - (rg 540 c (ck (qLa a i) ((qPl a i) + 1) 1))) - (rg 540 c (ck (qLa a i) ((qPl a i) + 1) 2))) - (rg 540 c (ck (qLa a i) ((qPl a i) + 2) 0))) - (rg 540 c (ck (qLa a i) ((qPl a i) + 2) 1))) - (rg 540 c (ck (qLa a i) ((qPl a i) + 2) 2)))), (0, .ref (F 0)), (1, .int (nI i)), (2, .int v)]) hx hb dX1_meetWeir_17 hl (by decide) rfl (fun ls hl => ?_)
                            refine lv_iload hx hb dX1_meetWeir_19 (lv_at hl 0 rfl) ?_
                            refine lv_iconst (v := 3) hx hb dX1_meetWeir_21 (by decide) ?_
                            refine lv_icmp_ge (tgt := 65) hx hb dX1_meetWeir_22 (by decide) (fun c22_8 => ?_) (fun c22_8 => ?_)
                            · skip
                              exfalso; revert c22_8; decide
                            · skip
                              have c22_8 := (not_congr (nI_leI (a := 3) (b := 0) (by omega) (by omega))).mp c22_8
                              refine lv_iload_n hx hb dX1_meetWeir_25 rfl (lv_at hl 2 rfl) ?_
                              refine lv_aload_n hx hb dX1_meetWeir_26 rfl (lv_at hl 3 rfl) ?_
                              refine va_get (D := D) (ci := 1) (v := .ref (F 10)) (C := RX1) (T := TX1) (N := 13) hx hb hts inX1 hown hE.1 hP 0 rfl rfl 9 (by decide) kf44 (fun _ h9 => h9) rfl dX1_meetWeir_27 ?_
                              refine lv_aload_n hx hb dX1_meetWeir_30 rfl (lv_at hl 3 rfl) ?_
                              refine va_get (D := D) (ci := 1) (v := .ref (F 3)) (C := RX1) (T := TX1) (N := 13) hx hb hts inX1 hown hE.1 hP 0 rfl rfl 2 (by decide) kf23 (fun _ h9 => h9) rfl dX1_meetWeir_31 ?_
                              refine lv_iload_n hx hb dX1_meetWeir_34 rfl (lv_at hl 4 rfl) ?_
                              refine pVi (As := [.int (nI i)]) (rest := [.ref (F 10), .int ((((((v - (rg 540 c (ck (qLa a i) ((qPl a i) + 1) 0))) - (rg 540 c (ck (qLa a i) ((qPl a i) + 1) 1))) - (rg 540 c (ck (qLa a i) ((qPl a i) + 1) 2))) - (rg 540 c (ck (qLa a i) ((qPl a i) + 2) 0))) - (rg 540 c (ck (qLa a i) ((qPl a i) + 2) 1))) - (rg 540 c (ck (qLa a i) ((qPl a i) + 2) 2)))]) (wc := (wR cA (F 3) (F 14) 41 (fun z9 => nI (qLa a z9)))) ⟨hx, hb, hml, hown, hts⟩ (K_X2_getk lch D cA (F 3) (F 14) 41 (fun z9 => nI (qLa a z9)) i (nI (qLa a i)) H.size (by omega) (Nat.le_of_ble_eq_true rfl) (rfl)) (cwV 1 hts gX1_meetWeir_X2_get rfl rfl rfl (by decide +kernel) ⟨Nat.le_of_ble_eq_true rfl, Nat.le_of_ble_eq_true rfl⟩) hE hP hD hS hA [3, 14] rfl rfl X0.blind (fun _ _ _ => trivial) 3 2 rfl rfl rfl hl.1 rfl rfl (Nat.le_of_ble_eq_true rfl) dX1_meetWeir_35 ⟨Nat.zero_le _, Nat.zero_le _⟩ (fun r_73 u_74 H locs h_75 hP hS => ?_)
                              subst h_75
                              refine lv_aload_n hx hb dX1_meetWeir_38 rfl (lv_at hl 3 rfl) ?_
                              refine va_get (D := D) (ci := 1) (v := .ref (F 4)) (C := RX1) (T := TX1) (N := 13) hx hb hts inX1 hown hE.1 hP 0 rfl rfl 3 (by decide) kf26 (fun _ h9 => h9) rfl dX1_meetWeir_39 ?_
                              refine lv_iload_n hx hb dX1_meetWeir_42 rfl (lv_at hl 4 rfl) ?_
                              refine pVi (As := [.int (nI i)]) (rest := [.int (nI (qLa a i)), .ref (F 10), .int ((((((v - (rg 540 c (ck (qLa a i) ((qPl a i) + 1) 0))) - (rg 540 c (ck (qLa a i) ((qPl a i) + 1) 1))) - (rg 540 c (ck (qLa a i) ((qPl a i) + 1) 2))) - (rg 540 c (ck (qLa a i) ((qPl a i) + 2) 0))) - (rg 540 c (ck (qLa a i) ((qPl a i) + 2) 1))) - (rg 540 c (ck (qLa a i) ((qPl a i) + 2) 2)))]) (wc := (wR cA (F 4) (F 15) 41 (fun z9 => nI (qPl a z9)))) ⟨hx, hb, hml, hown, hts⟩ (K_X2_getk lch D cA (F 4) (F 15) 41 (fun z9 => nI (qPl a z9)) i (nI (qPl a i)) H.size (by omega) (Nat.le_of_ble_eq_true rfl) (rfl)) (cwV 1 hts gX1_meetWeir_X2_get rfl rfl rfl (by decide +kernel) ⟨Nat.le_of_ble_eq_true rfl, Nat.le_of_ble_eq_true rfl⟩) hE hP hD hS hA [4, 15] rfl rfl X0.blind (fun _ _ _ => trivial) 4 2 rfl rfl rfl hl.1 rfl rfl (Nat.le_of_ble_eq_true rfl) dX1_meetWeir_43 ⟨Nat.zero_le _, Nat.zero_le _⟩ (fun r_76 u_77 H locs h_78 hP hS => ?_)
                              subst h_78
                              refine lv_iload hx hb dX1_meetWeir_46 (lv_at hl 1 rfl) ?_
                              refine lv_iadd hx hb dX1_meetWeir_48 ?_
                              refine top_i (y := nI ((qPl a i) + 3)) (nI_add _ _) ?_
                              refine lv_iload hx hb dX1_meetWeir_49 (lv_at hl 0 rfl) ?_
                              refine pSi (As := [.int (nI (qLa a i)), .int (nI ((qPl a i) + 3)), .int 0]) (rest := [.ref (F 10), .int ((((((v - (rg 540 c (ck (qLa a i) ((qPl a i) + 1) 0))) - (rg 540 c (ck (qLa a i) ((qPl a i) + 1) 1))) - (rg 540 c (ck (qLa a i) ((qPl a i) + 1) 2))) - (rg 540 c (ck (qLa a i) ((qPl a i) + 2) 0))) - (rg 540 c (ck (qLa a i) ((qPl a i) + 2) 1))) - (rg 540 c (ck (qLa a i) ((qPl a i) + 2) 2)))]) (wc := ([] : va_W)) ⟨hx, hb, hml, hown, hts⟩ (K_X1_cell lch D cA (qLa a i) ((qPl a i) + 3) 0 H.size (by first | assumption | omega)) (cwS 3 hts gX1_meetWeir_X1_cell rfl rfl rfl (by decide +kernel) ⟨Nat.le_of_ble_eq_true rfl, Nat.le_of_ble_eq_true rfl⟩) hE hP hD hS hA [] rfl rfl X0.blind (fun _ _ _ => trivial) hl.1 rfl rfl (Nat.le_of_ble_eq_true rfl) dX1_meetWeir_51 ⟨Nat.zero_le _, Nat.zero_le _⟩ (fun r_79 u_80 H locs h_81 hP hS => ?_)
                              subst h_81
                              refine pVi (As := [.int (ck (qLa a i) ((qPl a i) + 3) 0)]) (rest := [.int ((((((v - (rg 540 c (ck (qLa a i) ((qPl a i) + 1) 0))) - (rg 540 c (ck (qLa a i) ((qPl a i) + 1) 1))) - (rg 540 c (ck (qLa a i) ((qPl a i) + 1) 2))) - (rg 540 c (ck (qLa a i) ((qPl a i) + 2) 0))) - (rg 540 c (ck (qLa a i) ((qPl a i) + 2) 1))) - (rg 540 c (ck (qLa a i) ((qPl a i) + 2) 2)))]) (wc := (wR cA (F 10) (F 21) 540 c)) ⟨hx, hb, hml, hown, hts⟩ (K_X2_get lch D cA (F 10) (F 21) 540 c (ck (qLa a i) ((qPl a i) + 3) 0) H.size (Nat.le_of_ble_eq_true rfl)) (cwV 1 hts gX1_meetWeir_X2_get rfl rfl rfl (by decide +kernel) ⟨Nat.le_of_ble_eq_true rfl, Nat.le_of_ble_eq_true rfl⟩) hE hP hD hS hA [10, 21] rfl rfl X0.blind (fun _ _ _ => trivial) 10 2 rfl rfl rfl hl.1 rfl rfl (Nat.le_of_ble_eq_true rfl) dX1_meetWeir_54 ⟨Nat.zero_le _, Nat.zero_le _⟩ (fun r_82 u_83 H locs h_84 hP hS => ?_)
                              subst h_84
                              refine lv_isub hx hb dX1_meetWeir_57 ?_
                              refine lv_istore_n (lv' := [(3, .int (((((((v - (rg 540 c (ck (qLa a i) ((qPl a i) + 1) 0))) - (rg 540 c (ck (qLa a i) ((qPl a i) + 1) 1))) - (rg 540 c (ck (qLa a i) ((qPl a i) + 1) 2))) - (rg 540 c (ck (qLa a i) ((qPl a i) + 2) 0))) - (rg 540 c (ck (qLa a i) ((qPl a i) + 2) 1))) - (rg 540 c (ck (qLa a i) ((qPl a i) + 2) 2))) - (rg 540 c (ck (qLa a i) ((qPl a i) + 3) 0)))), (5, .int 0), (4, .int 3), (0, .ref (F 0)), (1, .int (nI i)), (2, .int v)]) hx hb dX1_meetWeir_58 rfl hl (by decide) rfl (fun ls hl => ?_)
                              refine lv_iinc (v := 1) (lv' := [(5, .int 1), (3, .int (((((((v - (rg 540 c (ck (qLa a i) ((qPl a i) + 1) 0))) - (rg 540 c (ck (qLa a i) ((qPl a i) + 1) 1))) - (rg 540 c (ck (qLa a i) ((qPl a i) + 1) 2))) - (rg 540 c (ck (qLa a i) ((qPl a i) + 2) 0))) - (rg 540 c (ck (qLa a i) ((qPl a i) + 2) 1))) - (rg 540 c (ck (qLa a i) ((qPl a i) + 2) 2))) - (rg 540 c (ck (qLa a i) ((qPl a i) + 3) 0)))), (4, .int 3), (0, .ref (F 0)), (1, .int (nI i)), (2, .int v)]) hx hb dX1_meetWeir_59 hl (k := 1) rfl (by decide) (by decide) rfl (fun ls hl => ?_)
                              refine lv_goto (tgt := 19) hx hb dX1_meetWeir_62 (by decide) ?_
                              refine lv_iload hx hb dX1_meetWeir_19 (lv_at hl 0 rfl) ?_
                              refine lv_iconst (v := 3) hx hb dX1_meetWeir_21 (by decide) ?_
                              refine lv_icmp_ge (tgt := 65) hx hb dX1_meetWeir_22 (by decide) (fun c22_9 => ?_) (fun c22_9 => ?_)
                              · skip
                                exfalso; revert c22_9; decide
                              · skip
                                have c22_9 := (not_congr (nI_leI (a := 3) (b := 1) (by omega) (by omega))).mp c22_9
                                refine lv_iload_n hx hb dX1_meetWeir_25 rfl (lv_at hl 1 rfl) ?_
                                refine lv_aload_n hx hb dX1_meetWeir_26 rfl (lv_at hl 3 rfl) ?_
                                refine va_get (D := D) (ci := 1) (v := .ref (F 10)) (C := RX1) (T := TX1) (N := 13) hx hb hts inX1 hown hE.1 hP 0 rfl rfl 9 (by decide) kf44 (fun _ h9 => h9) rfl dX1_meetWeir_27 ?_
                                refine lv_aload_n hx hb dX1_meetWeir_30 rfl (lv_at hl 3 rfl) ?_
                                refine va_get (D := D) (ci := 1) (v := .ref (F 3)) (C := RX1) (T := TX1) (N := 13) hx hb hts inX1 hown hE.1 hP 0 rfl rfl 2 (by decide) kf23 (fun _ h9 => h9) rfl dX1_meetWeir_31 ?_
                                refine lv_iload_n hx hb dX1_meetWeir_34 rfl (lv_at hl 4 rfl) ?_
                                refine pVi (As := [.int (nI i)]) (rest := [.ref (F 10), .int (((((((v - (rg 540 c (ck (qLa a i) ((qPl a i) + 1) 0))) - (rg 540 c (ck (qLa a i) ((qPl a i) + 1) 1))) - (rg 540 c (ck (qLa a i) ((qPl a i) + 1) 2))) - (rg 540 c (ck (qLa a i) ((qPl a i) + 2) 0))) - (rg 540 c (ck (qLa a i) ((qPl a i) + 2) 1))) - (rg 540 c (ck (qLa a i) ((qPl a i) + 2) 2))) - (rg 540 c (ck (qLa a i) ((qPl a i) + 3) 0)))]) (wc := (wR cA (F 3) (F 14) 41 (fun z9 => nI (qLa a z9)))) ⟨hx, hb, hml, hown, hts⟩ (K_X2_getk lch D cA (F 3) (F 14) 41 (fun z9 => nI (qLa a z9)) i (nI (qLa a i)) H.size (by omega) (Nat.le_of_ble_eq_true rfl) (rfl)) (cwV 1 hts gX1_meetWeir_X2_get rfl rfl rfl (by decide +kernel) ⟨Nat.le_of_ble_eq_true rfl, Nat.le_of_ble_eq_true rfl⟩) hE hP hD hS hA [3, 14] rfl rfl X0.blind (fun _ _ _ => trivial) 3 2 rfl rfl rfl hl.1 rfl rfl (Nat.le_of_ble_eq_true rfl) dX1_meetWeir_35 ⟨Nat.zero_le _, Nat.zero_le _⟩ (fun r_85 u_86 H locs h_87 hP hS => ?_)
                                subst h_87
                                refine lv_aload_n hx hb dX1_meetWeir_38 rfl (lv_at hl 3 rfl) ?_
                                refine va_get (D := D) (ci := 1) (v := .ref (F 4)) (C := RX1) (T := TX1) (N := 13) hx hb hts inX1 hown hE.1 hP 0 rfl rfl 3 (by decide) kf26 (fun _ h9 => h9) rfl dX1_meetWeir_39 ?_
                                refine lv_iload_n hx hb dX1_meetWeir_42 rfl (lv_at hl 4 rfl) ?_
                                refine pVi (As := [.int (nI i)]) (rest := [.int (nI (qLa a i)), .ref (F 10), .int (((((((v - (rg 540 c (ck (qLa a i) ((qPl a i) + 1) 0))) - (rg 540 c (ck (qLa a i) ((qPl a i) + 1) 1))) - (rg 540 c (ck (qLa a i) ((qPl a i) + 1) 2))) - (rg 540 c (ck (qLa a i) ((qPl a i) + 2) 0))) - (rg 540 c (ck (qLa a i) ((qPl a i) + 2) 1))) - (rg 540 c (ck (qLa a i) ((qPl a i) + 2) 2))) - (rg 540 c (ck (qLa a i) ((qPl a i) + 3) 0)))]) (wc := (wR cA (F 4) (F 15) 41 (fun z9 => nI (qPl a z9)))) ⟨hx, hb, hml, hown, hts⟩ (K_X2_getk lch D cA (F 4) (F 15) 41 (fun z9 => nI (qPl a z9)) i (nI (qPl a i)) H.size (by omega) (Nat.le_of_ble_eq_true rfl) (rfl)) (cwV 1 hts gX1_meetWeir_X2_get rfl rfl rfl (by decide +kernel) ⟨Nat.le_of_ble_eq_true rfl, Nat.le_of_ble_eq_true rfl⟩) hE hP hD hS hA [4, 15] rfl rfl X0.blind (fun _ _ _ => trivial) 4 2 rfl rfl rfl hl.1 rfl rfl (Nat.le_of_ble_eq_true rfl) dX1_meetWeir_43 ⟨Nat.zero_le _, Nat.zero_le _⟩ (fun r_88 u_89 H locs h_90 hP hS => ?_)
                                subst h_90
                                refine lv_iload hx hb dX1_meetWeir_46 (lv_at hl 2 rfl) ?_
                                refine lv_iadd hx hb dX1_meetWeir_48 ?_
                                refine top_i (y := nI ((qPl a i) + 3)) (nI_add _ _) ?_
                                refine lv_iload hx hb dX1_meetWeir_49 (lv_at hl 0 rfl) ?_
                                refine pSi (As := [.int (nI (qLa a i)), .int (nI ((qPl a i) + 3)), .int 1]) (rest := [.ref (F 10), .int (((((((v - (rg 540 c (ck (qLa a i) ((qPl a i) + 1) 0))) - (rg 540 c (ck (qLa a i) ((qPl a i) + 1) 1))) - (rg 540 c (ck (qLa a i) ((qPl a i) + 1) 2))) - (rg 540 c (ck (qLa a i) ((qPl a i) + 2) 0))) - (rg 540 c (ck (qLa a i) ((qPl a i) + 2) 1))) - (rg 540 c (ck (qLa a i) ((qPl a i) + 2) 2))) - (rg 540 c (ck (qLa a i) ((qPl a i) + 3) 0)))]) (wc := ([] : va_W)) ⟨hx, hb, hml, hown, hts⟩ (K_X1_cell lch D cA (qLa a i) ((qPl a i) + 3) 1 H.size (by first | assumption | omega)) (cwS 3 hts gX1_meetWeir_X1_cell rfl rfl rfl (by decide +kernel) ⟨Nat.le_of_ble_eq_true rfl, Nat.le_of_ble_eq_true rfl⟩) hE hP hD hS hA [] rfl rfl X0.blind (fun _ _ _ => trivial) hl.1 rfl rfl (Nat.le_of_ble_eq_true rfl) dX1_meetWeir_51 ⟨Nat.zero_le _, Nat.zero_le _⟩ (fun r_91 u_92 H locs h_93 hP hS => ?_)
                                subst h_93
                                refine pVi (As := [.int (ck (qLa a i) ((qPl a i) + 3) 1)]) (rest := [.int (((((((v - (rg 540 c (ck (qLa a i) ((qPl a i) + 1) 0))) - (rg 540 c (ck (qLa a i) ((qPl a i) + 1) 1))) - (rg 540 c (ck (qLa a i) ((qPl a i) + 1) 2))) - (rg 540 c (ck (qLa a i) ((qPl a i) + 2) 0))) - (rg 540 c (ck (qLa a i) ((qPl a i) + 2) 1))) - (rg 540 c (ck (qLa a i) ((qPl a i) + 2) 2))) - (rg 540 c (ck (qLa a i) ((qPl a i) + 3) 0)))]) (wc := (wR cA (F 10) (F 21) 540 c)) ⟨hx, hb, hml, hown, hts⟩ (K_X2_get lch D cA (F 10) (F 21) 540 c (ck (qLa a i) ((qPl a i) + 3) 1) H.size (Nat.le_of_ble_eq_true rfl)) (cwV 1 hts gX1_meetWeir_X2_get rfl rfl rfl (by decide +kernel) ⟨Nat.le_of_ble_eq_true rfl, Nat.le_of_ble_eq_true rfl⟩) hE hP hD hS hA [10, 21] rfl rfl X0.blind (fun _ _ _ => trivial) 10 2 rfl rfl rfl hl.1 rfl rfl (Nat.le_of_ble_eq_true rfl) dX1_meetWeir_54 ⟨Nat.zero_le _, Nat.zero_le _⟩ (fun r_94 u_95 H locs h_96 hP hS => ?_)
                                subst h_96
                                refine lv_isub hx hb dX1_meetWeir_57 ?_
                                refine lv_istore_n (lv' := [(3, .int ((((((((v - (rg 540 c (ck (qLa a i) ((qPl a i) + 1) 0))) - (rg 540 c (ck (qLa a i) ((qPl a i) + 1) 1))) - (rg 540 c (ck (qLa a i) ((qPl a i) + 1) 2))) - (rg 540 c (ck (qLa a i) ((qPl a i) + 2) 0))) - (rg 540 c (ck (qLa a i) ((qPl a i) + 2) 1))) - (rg 540 c (ck (qLa a i) ((qPl a i) + 2) 2))) - (rg 540 c (ck (qLa a i) ((qPl a i) + 3) 0))) - (rg 540 c (ck (qLa a i) ((qPl a i) + 3) 1)))), (5, .int 1), (4, .int 3), (0, .ref (F 0)), (1, .int (nI i)), (2, .int v)]) hx hb dX1_meetWeir_58 rfl hl (by decide) rfl (fun ls hl => ?_)
                                refine lv_iinc (v := 2) (lv' := [(5, .int 2), (3, .int ((((((((v - (rg 540 c (ck (qLa a i) ((qPl a i) + 1) 0))) - (rg 540 c (ck (qLa a i) ((qPl a i) + 1) 1))) - (rg 540 c (ck (qLa a i) ((qPl a i) + 1) 2))) - (rg 540 c (ck (qLa a i) ((qPl a i) + 2) 0))) - (rg 540 c (ck (qLa a i) ((qPl a i) + 2) 1))) - (rg 540 c (ck (qLa a i) ((qPl a i) + 2) 2))) - (rg 540 c (ck (qLa a i) ((qPl a i) + 3) 0))) - (rg 540 c (ck (qLa a i) ((qPl a i) + 3) 1)))), (4, .int 3), (0, .ref (F 0)), (1, .int (nI i)), (2, .int v)]) hx hb dX1_meetWeir_59 hl (k := 1) rfl (by decide) (by decide) rfl (fun ls hl => ?_)
                                refine lv_goto (tgt := 19) hx hb dX1_meetWeir_62 (by decide) ?_
                                refine lv_iload hx hb dX1_meetWeir_19 (lv_at hl 0 rfl) ?_
                                refine lv_iconst (v := 3) hx hb dX1_meetWeir_21 (by decide) ?_
                                refine lv_icmp_ge (tgt := 65) hx hb dX1_meetWeir_22 (by decide) (fun c22_10 => ?_) (fun c22_10 => ?_)
                                · skip
                                  exfalso; revert c22_10; decide
                                · skip
                                  have c22_10 := (not_congr (nI_leI (a := 3) (b := 2) (by omega) (by omega))).mp c22_10
                                  refine lv_iload_n hx hb dX1_meetWeir_25 rfl (lv_at hl 1 rfl) ?_
                                  refine lv_aload_n hx hb dX1_meetWeir_26 rfl (lv_at hl 3 rfl) ?_
                                  refine va_get (D := D) (ci := 1) (v := .ref (F 10)) (C := RX1) (T := TX1) (N := 13) hx hb hts inX1 hown hE.1 hP 0 rfl rfl 9 (by decide) kf44 (fun _ h9 => h9) rfl dX1_meetWeir_27 ?_
                                  refine lv_aload_n hx hb dX1_meetWeir_30 rfl (lv_at hl 3 rfl) ?_
                                  refine va_get (D := D) (ci := 1) (v := .ref (F 3)) (C := RX1) (T := TX1) (N := 13) hx hb hts inX1 hown hE.1 hP 0 rfl rfl 2 (by decide) kf23 (fun _ h9 => h9) rfl dX1_meetWeir_31 ?_
                                  refine lv_iload_n hx hb dX1_meetWeir_34 rfl (lv_at hl 4 rfl) ?_
                                  refine pVi (As := [.int (nI i)]) (rest := [.ref (F 10), .int ((((((((v - (rg 540 c (ck (qLa a i) ((qPl a i) + 1) 0))) - (rg 540 c (ck (qLa a i) ((qPl a i) + 1) 1))) - (rg 540 c (ck (qLa a i) ((qPl a i) + 1) 2))) - (rg 540 c (ck (qLa a i) ((qPl a i) + 2) 0))) - (rg 540 c (ck (qLa a i) ((qPl a i) + 2) 1))) - (rg 540 c (ck (qLa a i) ((qPl a i) + 2) 2))) - (rg 540 c (ck (qLa a i) ((qPl a i) + 3) 0))) - (rg 540 c (ck (qLa a i) ((qPl a i) + 3) 1)))]) (wc := (wR cA (F 3) (F 14) 41 (fun z9 => nI (qLa a z9)))) ⟨hx, hb, hml, hown, hts⟩ (K_X2_getk lch D cA (F 3) (F 14) 41 (fun z9 => nI (qLa a z9)) i (nI (qLa a i)) H.size (by omega) (Nat.le_of_ble_eq_true rfl) (rfl)) (cwV 1 hts gX1_meetWeir_X2_get rfl rfl rfl (by decide +kernel) ⟨Nat.le_of_ble_eq_true rfl, Nat.le_of_ble_eq_true rfl⟩) hE hP hD hS hA [3, 14] rfl rfl X0.blind (fun _ _ _ => trivial) 3 2 rfl rfl rfl hl.1 rfl rfl (Nat.le_of_ble_eq_true rfl) dX1_meetWeir_35 ⟨Nat.zero_le _, Nat.zero_le _⟩ (fun r_97 u_98 H locs h_99 hP hS => ?_)
                                  subst h_99
                                  refine lv_aload_n hx hb dX1_meetWeir_38 rfl (lv_at hl 3 rfl) ?_
                                  refine va_get (D := D) (ci := 1) (v := .ref (F 4)) (C := RX1) (T := TX1) (N := 13) hx hb hts inX1 hown hE.1 hP 0 rfl rfl 3 (by decide) kf26 (fun _ h9 => h9) rfl dX1_meetWeir_39 ?_
                                  refine lv_iload_n hx hb dX1_meetWeir_42 rfl (lv_at hl 4 rfl) ?_
                                  refine pVi (As := [.int (nI i)]) (rest := [.int (nI (qLa a i)), .ref (F 10), .int ((((((((v - (rg 540 c (ck (qLa a i) ((qPl a i) + 1) 0))) - (rg 540 c (ck (qLa a i) ((qPl a i) + 1) 1))) - (rg 540 c (ck (qLa a i) ((qPl a i) + 1) 2))) - (rg 540 c (ck (qLa a i) ((qPl a i) + 2) 0))) - (rg 540 c (ck (qLa a i) ((qPl a i) + 2) 1))) - (rg 540 c (ck (qLa a i) ((qPl a i) + 2) 2))) - (rg 540 c (ck (qLa a i) ((qPl a i) + 3) 0))) - (rg 540 c (ck (qLa a i) ((qPl a i) + 3) 1)))]) (wc := (wR cA (F 4) (F 15) 41 (fun z9 => nI (qPl a z9)))) ⟨hx, hb, hml, hown, hts⟩ (K_X2_getk lch D cA (F 4) (F 15) 41 (fun z9 => nI (qPl a z9)) i (nI (qPl a i)) H.size (by omega) (Nat.le_of_ble_eq_true rfl) (rfl)) (cwV 1 hts gX1_meetWeir_X2_get rfl rfl rfl (by decide +kernel) ⟨Nat.le_of_ble_eq_true rfl, Nat.le_of_ble_eq_true rfl⟩) hE hP hD hS hA [4, 15] rfl rfl X0.blind (fun _ _ _ => trivial) 4 2 rfl rfl rfl hl.1 rfl rfl (Nat.le_of_ble_eq_true rfl) dX1_meetWeir_43 ⟨Nat.zero_le _, Nat.zero_le _⟩ (fun r_100 u_101 H locs h_102 hP hS => ?_)
                                  subst h_102
                                  refine lv_iload hx hb dX1_meetWeir_46 (lv_at hl 2 rfl) ?_
                                  refine lv_iadd hx hb dX1_meetWeir_48 ?_
                                  refine top_i (y := nI ((qPl a i) + 3)) (nI_add _ _) ?_
                                  refine lv_iload hx hb dX1_meetWeir_49 (lv_at hl 0 rfl) ?_
                                  refine pSi (As := [.int (nI (qLa a i)), .int (nI ((qPl a i) + 3)), .int 2]) (rest := [.ref (F 10), .int ((((((((v - (rg 540 c (ck (qLa a i) ((qPl a i) + 1) 0))) - (rg 540 c (ck (qLa a i) ((qPl a i) + 1) 1))) - (rg 540 c (ck (qLa a i) ((qPl a i) + 1) 2))) - (rg 540 c (ck (qLa a i) ((qPl a i) + 2) 0))) - (rg 540 c (ck (qLa a i) ((qPl a i) + 2) 1))) - (rg 540 c (ck (qLa a i) ((qPl a i) + 2) 2))) - (rg 540 c (ck (qLa a i) ((qPl a i) + 3) 0))) - (rg 540 c (ck (qLa a i) ((qPl a i) + 3) 1)))]) (wc := ([] : va_W)) ⟨hx, hb, hml, hown, hts⟩ (K_X1_cell lch D cA (qLa a i) ((qPl a i) + 3) 2 H.size (by first | assumption | omega)) (cwS 3 hts gX1_meetWeir_X1_cell rfl rfl rfl (by decide +kernel) ⟨Nat.le_of_ble_eq_true rfl, Nat.le_of_ble_eq_true rfl⟩) hE hP hD hS hA [] rfl rfl X0.blind (fun _ _ _ => trivial) hl.1 rfl rfl (Nat.le_of_ble_eq_true rfl) dX1_meetWeir_51 ⟨Nat.zero_le _, Nat.zero_le _⟩ (fun r_103 u_104 H locs h_105 hP hS => ?_)
                                  subst h_105
                                  refine pVi (As := [.int (ck (qLa a i) ((qPl a i) + 3) 2)]) (rest := [.int ((((((((v - (rg 540 c (ck (qLa a i) ((qPl a i) + 1) 0))) - (rg 540 c (ck (qLa a i) ((qPl a i) + 1) 1))) - (rg 540 c (ck (qLa a i) ((qPl a i) + 1) 2))) - (rg 540 c (ck (qLa a i) ((qPl a i) + 2) 0))) - (rg 540 c (ck (qLa a i) ((qPl a i) + 2) 1))) - (rg 540 c (ck (qLa a i) ((qPl a i) + 2) 2))) - (rg 540 c (ck (qLa a i) ((qPl a i) + 3) 0))) - (rg 540 c (ck (qLa a i) ((qPl a i) + 3) 1)))]) (wc := (wR cA (F 10) (F 21) 540 c)) ⟨hx, hb, hml, hown, hts⟩ (K_X2_get lch D cA (F 10) (F 21) 540 c (ck (qLa a i) ((qPl a i) + 3) 2) H.size (Nat.le_of_ble_eq_true rfl)) (cwV 1 hts gX1_meetWeir_X2_get rfl rfl rfl (by decide +kernel) ⟨Nat.le_of_ble_eq_true rfl, Nat.le_of_ble_eq_true rfl⟩) hE hP hD hS hA [10, 21] rfl rfl X0.blind (fun _ _ _ => trivial) 10 2 rfl rfl rfl hl.1 rfl rfl (Nat.le_of_ble_eq_true rfl) dX1_meetWeir_54 ⟨Nat.zero_le _, Nat.zero_le _⟩ (fun r_106 u_107 H locs h_108 hP hS => ?_)
                                  subst h_108
                                  refine lv_isub hx hb dX1_meetWeir_57 ?_
                                  refine lv_istore_n (lv' := [(3, .int (((((((((v - (rg 540 c (ck (qLa a i) ((qPl a i) + 1) 0))) - (rg 540 c (ck (qLa a i) ((qPl a i) + 1) 1))) - (rg 540 c (ck (qLa a i) ((qPl a i) + 1) 2))) - (rg 540 c (ck (qLa a i) ((qPl a i) + 2) 0))) - (rg 540 c (ck (qLa a i) ((qPl a i) + 2) 1))) - (rg 540 c (ck (qLa a i) ((qPl a i) + 2) 2))) - (rg 540 c (ck (qLa a i) ((qPl a i) + 3) 0))) - (rg 540 c (ck (qLa a i) ((qPl a i) + 3) 1))) - (rg 540 c (ck (qLa a i) ((qPl a i) + 3) 2)))), (5, .int 2), (4, .int 3), (0, .ref (F 0)), (1, .int (nI i)), (2, .int v)]) hx hb dX1_meetWeir_58 rfl hl (by decide) rfl (fun ls hl => ?_)
                                  refine lv_iinc (v := 3) (lv' := [(5, .int 3), (3, .int (((((((((v - (rg 540 c (ck (qLa a i) ((qPl a i) + 1) 0))) - (rg 540 c (ck (qLa a i) ((qPl a i) + 1) 1))) - (rg 540 c (ck (qLa a i) ((qPl a i) + 1) 2))) - (rg 540 c (ck (qLa a i) ((qPl a i) + 2) 0))) - (rg 540 c (ck (qLa a i) ((qPl a i) + 2) 1))) - (rg 540 c (ck (qLa a i) ((qPl a i) + 2) 2))) - (rg 540 c (ck (qLa a i) ((qPl a i) + 3) 0))) - (rg 540 c (ck (qLa a i) ((qPl a i) + 3) 1))) - (rg 540 c (ck (qLa a i) ((qPl a i) + 3) 2)))), (4, .int 3), (0, .ref (F 0)), (1, .int (nI i)), (2, .int v)]) hx hb dX1_meetWeir_59 hl (k := 1) rfl (by decide) (by decide) rfl (fun ls hl => ?_)
                                  refine lv_goto (tgt := 19) hx hb dX1_meetWeir_62 (by decide) ?_
                                  refine lv_iload hx hb dX1_meetWeir_19 (lv_at hl 0 rfl) ?_
                                  refine lv_iconst (v := 3) hx hb dX1_meetWeir_21 (by decide) ?_
                                  refine lv_icmp_ge (tgt := 65) hx hb dX1_meetWeir_22 (by decide) (fun c22_11 => ?_) (fun c22_11 => ?_)
                                  · skip
                                    have c22_11 := (nI_leI (a := 3) (b := 3) (by omega) (by omega)).mp c22_11
                                    refine lv_iinc (v := 4) (lv' := [(4, .int 4), (5, .int 3), (3, .int (((((((((v - (rg 540 c (ck (qLa a i) ((qPl a i) + 1) 0))) - (rg 540 c (ck (qLa a i) ((qPl a i) + 1) 1))) - (rg 540 c (ck (qLa a i) ((qPl a i) + 1) 2))) - (rg 540 c (ck (qLa a i) ((qPl a i) + 2) 0))) - (rg 540 c (ck (qLa a i) ((qPl a i) + 2) 1))) - (rg 540 c (ck (qLa a i) ((qPl a i) + 2) 2))) - (rg 540 c (ck (qLa a i) ((qPl a i) + 3) 0))) - (rg 540 c (ck (qLa a i) ((qPl a i) + 3) 1))) - (rg 540 c (ck (qLa a i) ((qPl a i) + 3) 2)))), (0, .ref (F 0)), (1, .int (nI i)), (2, .int v)]) hx hb dX1_meetWeir_65 hl (k := 2) rfl (by decide) (by decide) rfl (fun ls hl => ?_)
                                    refine lv_goto (tgt := 10) hx hb dX1_meetWeir_68 (by decide) ?_
                                    refine lv_iload hx hb dX1_meetWeir_10 (lv_at hl 0 rfl) ?_
                                    refine lv_iconst (v := 3) hx hb dX1_meetWeir_12 (by decide) ?_
                                    refine lv_icmp_gt (tgt := 71) hx hb dX1_meetWeir_13 (by decide) (fun c13_3 => ?_) (fun c13_3 => ?_)
                                    · skip
                                      have c13_3 := (nI_ltI (a := 3) (b := 4) (by omega) (by omega)).mp c13_3
                                      rw [wet_sum hw1 hcr hi] at hl
                                      refine lv_aload_n hx hb dX1_meetWeir_71 rfl (lv_at hl 3 rfl) ?_
                                      refine va_get (D := D) (ci := 1) (v := .ref (F 6)) (C := RX1) (T := TX1) (N := 13) hx hb hts inX1 hown hE.1 hP 0 rfl rfl 5 (by decide) kf32 (fun _ h9 => h9) rfl dX1_meetWeir_72 ?_
                                      refine lv_iload_n hx hb dX1_meetWeir_75 rfl (lv_at hl 4 rfl) ?_
                                      refine lv_aload_n hx hb dX1_meetWeir_76 rfl (lv_at hl 3 rfl) ?_
                                      refine va_get (D := D) (ci := 1) (v := .ref (F 6)) (C := RX1) (T := TX1) (N := 13) hx hb hts inX1 hown hE.1 hP 0 rfl rfl 5 (by decide) kf32 (fun _ h9 => h9) rfl dX1_meetWeir_77 ?_
                                      refine lv_iload_n hx hb dX1_meetWeir_80 rfl (lv_at hl 4 rfl) ?_
                                      refine pVi (As := [.int (nI i)]) (rest := [.int (nI i), .ref (F 6)]) (wc := (wR cA (F 6) (F 17) 41 (qWe a))) ⟨hx, hb, hml, hown, hts⟩ (K_X2_getk lch D cA (F 6) (F 17) 41 (qWe a) i (qWe a i) H.size (by omega) (Nat.le_of_ble_eq_true rfl) (rfl)) (cwV 1 hts gX1_meetWeir_X2_get rfl rfl rfl (by decide +kernel) ⟨Nat.le_of_ble_eq_true rfl, Nat.le_of_ble_eq_true rfl⟩) hE hP hD hS hA [6, 17] rfl rfl X0.blind (fun _ _ _ => trivial) 6 2 rfl rfl rfl hl.1 rfl rfl (Nat.le_of_ble_eq_true rfl) dX1_meetWeir_81 ⟨Nat.zero_le _, Nat.zero_le _⟩ (fun r_109 u_110 H locs h_111 hP hS => ?_)
                                      subst h_111
                                      refine lv_iload_n hx hb dX1_meetWeir_84 rfl (lv_at hl 2 rfl) ?_
                                      refine lv_iconst (v := 1) hx hb dX1_meetWeir_85 (by decide) ?_
                                      refine lv_icmp_le (tgt := 93) hx hb dX1_meetWeir_86 (by decide) (fun c86 => ?_) (fun c86 => ?_)
                                      · skip
                                        refine lv_iconst (v := 1) hx hb dX1_meetWeir_93 (by decide) ?_
                                        refine lv_iadd hx hb dX1_meetWeir_94 ?_
                                        refine top_i (y := qWe a i + imax1 (v - nI (belowA a i))) (by rw [imax_t c86]) ?_
                                        refine cVv (As := [.int (nI i), .int (qWe a i + imax1 (v - nI (belowA a i)))]) (rest := []) (wc := (wR cA (F 6) (F 17) 41 (qWe a))) ⟨hx, hb, hml, hown, hts⟩ (K_X2_putk lch D cA (F 6) (F 17) 41 (qWe a) i (qWe a i + imax1 (v - nI (belowA a i))) (qWe (uWe a (up (qWe a) i (qWe a i + imax1 (v - nI (belowA a i)))))) H.size (by omega) (Nat.le_of_ble_eq_true rfl) (fun j _ => upd_I j)) (cwV 2 hts gX1_meetWeir_X2_put rfl rfl rfl (by decide +kernel) ⟨Nat.le_of_ble_eq_true rfl, Nat.le_of_ble_eq_true rfl⟩) hE hP hD hS hA [6, 17] rfl rfl [F 6, F 17] (fun _ => rfl) rfl (fun (u_113 : Unit) => (wF cA F (uWe a (up (qWe a) i (qWe a i + imax1 (v - nI (belowA a i))))) c q)) (fun _ => rfl) X0.blind (fun _ _ _ => trivial) 6 2 rfl rfl rfl hl.1 rfl rfl (Nat.le_of_ble_eq_true rfl) dX1_meetWeir_95 ⟨Nat.zero_le _, Nat.zero_le _⟩ (fun u_113 H locs h_114 hP hD hS => ?_)
                                        refine lv_aload_n hx hb dX1_meetWeir_98 rfl (lv_at hl 3 rfl) ?_
                                        refine lv_iload_n hx hb dX1_meetWeir_99 rfl (lv_at hl 4 rfl) ?_
                                        refine pVi (As := [.int (nI i)]) (rest := []) (wc := (wF cA F (uWe a (up (qWe a) i (qWe a i + imax1 (v - nI (belowA a i))))) c q)) ⟨hx, hb, hml, hown, hts⟩ (K_X1_isSoaked lch D cA F (uWe a (up (qWe a) i (qWe a i + imax1 (v - nI (belowA a i))))) c q i H.size (by first | assumption | omega) (by first | assumption | omega)) (cwV 1 hts gX1_meetWeir_X1_isSoaked rfl rfl rfl (by decide +kernel) ⟨Nat.le_of_ble_eq_true rfl, Nat.le_of_ble_eq_true rfl⟩) hE hP hD hS hA [0, 1, 2, 3, 4, 5, 6, 7, 8, 9, 10, 11, 12, 13, 14, 15, 16, 17, 18, 19, 20, 21, 22] rfl rfl X0.blind (fun _ _ _ => trivial) 0 1 rfl rfl rfl hl.1 rfl rfl (Nat.le_of_ble_eq_true rfl) dX1_meetWeir_100 ⟨Nat.zero_le _, Nat.zero_le _⟩ (fun r_115 u_116 H locs h_117 hP hS => ?_)
                                        subst h_117
                                        refine lv_if_eq (tgt := 115) hx hb dX1_meetWeir_103 (by decide) (fun c103 => ?_) (fun c103 => ?_)
                                        · skip
                                          have c103 := bi_0.mp c103
                                          have e9 : metA v a i = uWe a (up (qWe a) i (qWe a i + imax1 (v - nI (belowA a i)))) := by unfold metA dryA; rw [if_pos c1, c103]; rfl
                                          have hP : va_P D vwCl (wF cA F (metA v a i) c q) H := by rw [e9]; exact hP
                                          rw [hQQ]
                                          exact W.vret hx hb hr (fun t ht hW => ⟨⟨(), rfl, trivial, by show va_P _ _ _ t.heap; rw [ht]; exact hP⟩, hS.F ht⟩) hS.2.2 dX1_meetWeir_115
                                        · skip
                                          have c103 := bi_1.mp c103
                                          refine lv_aload_n hx hb dX1_meetWeir_106 rfl (lv_at hl 3 rfl) ?_
                                          refine va_get (D := D) (ci := 1) (v := .ref (F 7)) (C := RX1) (T := TX1) (N := 13) hx hb hts inX1 hown hE.1 hP 0 rfl rfl 6 (by decide) kf35 (fun _ h9 => h9) rfl dX1_meetWeir_107 ?_
                                          refine lv_iload_n hx hb dX1_meetWeir_110 rfl (lv_at hl 4 rfl) ?_
                                          refine lv_iconst (v := 0) hx hb dX1_meetWeir_111 (by decide) ?_
                                          refine cVv (As := [.int (nI i), .int 0]) (rest := []) (wc := (wR cA (F 7) (F 18) 41 (fun z9 => bi (qBu (uWe a (up (qWe a) i (qWe a i + imax1 (v - nI (belowA a i))))) z9)))) ⟨hx, hb, hml, hown, hts⟩ (K_X2_putk lch D cA (F 7) (F 18) 41 (fun z9 => bi (qBu (uWe a (up (qWe a) i (qWe a i + imax1 (v - nI (belowA a i))))) z9)) i 0 (fun z9 => bi (qBu (outA (uWe a (up (qWe a) i (qWe a i + imax1 (v - nI (belowA a i))))) i) z9)) H.size (by omega) (Nat.le_of_ble_eq_true rfl) (fun j _ => upd_B (v := false) j)) (cwV 2 hts gX1_meetWeir_X2_put rfl rfl rfl (by decide +kernel) ⟨Nat.le_of_ble_eq_true rfl, Nat.le_of_ble_eq_true rfl⟩) hE hP hD hS hA [7, 18] rfl rfl [F 7, F 18] (fun _ => rfl) rfl (fun (u_119 : Unit) => (wF cA F (outA (uWe a (up (qWe a) i (qWe a i + imax1 (v - nI (belowA a i))))) i) c q)) (fun _ => rfl) X0.blind (fun _ _ _ => trivial) 7 2 rfl rfl rfl hl.1 rfl rfl (Nat.le_of_ble_eq_true rfl) dX1_meetWeir_112 ⟨Nat.zero_le _, Nat.zero_le _⟩ (fun u_119 H locs h_120 hP hD hS => ?_)
                                          have e9 : metA v a i = outA (uWe a (up (qWe a) i (qWe a i + imax1 (v - nI (belowA a i))))) i := by unfold metA dryA; rw [if_pos c1, if_pos c103]
                                          have hP : va_P D vwCl (wF cA F (metA v a i) c q) H := by rw [e9]; exact hP
                                          rw [hQQ]
                                          exact W.vret hx hb hr (fun t ht hW => ⟨⟨(), rfl, trivial, by show va_P _ _ _ t.heap; rw [ht]; exact hP⟩, hS.F ht⟩) hS.2.2 dX1_meetWeir_115
                                      · skip
                                        refine lv_iload_n hx hb dX1_meetWeir_89 rfl (lv_at hl 2 rfl) ?_
                                        refine lv_goto (tgt := 94) hx hb dX1_meetWeir_90 (by decide) ?_
                                        refine lv_iadd hx hb dX1_meetWeir_94 ?_
                                        refine top_i (y := qWe a i + imax1 (v - nI (belowA a i))) (by rw [imax_f c86]) ?_
                                        refine cVv (As := [.int (nI i), .int (qWe a i + imax1 (v - nI (belowA a i)))]) (rest := []) (wc := (wR cA (F 6) (F 17) 41 (qWe a))) ⟨hx, hb, hml, hown, hts⟩ (K_X2_putk lch D cA (F 6) (F 17) 41 (qWe a) i (qWe a i + imax1 (v - nI (belowA a i))) (qWe (uWe a (up (qWe a) i (qWe a i + imax1 (v - nI (belowA a i)))))) H.size (by omega) (Nat.le_of_ble_eq_true rfl) (fun j _ => upd_I j)) (cwV 2 hts gX1_meetWeir_X2_put rfl rfl rfl (by decide +kernel) ⟨Nat.le_of_ble_eq_true rfl, Nat.le_of_ble_eq_true rfl⟩) hE hP hD hS hA [6, 17] rfl rfl [F 6, F 17] (fun _ => rfl) rfl (fun (u_122 : Unit) => (wF cA F (uWe a (up (qWe a) i (qWe a i + imax1 (v - nI (belowA a i))))) c q)) (fun _ => rfl) X0.blind (fun _ _ _ => trivial) 6 2 rfl rfl rfl hl.1 rfl rfl (Nat.le_of_ble_eq_true rfl) dX1_meetWeir_95 ⟨Nat.zero_le _, Nat.zero_le _⟩ (fun u_122 H locs h_123 hP hD hS => ?_)
                                        refine lv_aload_n hx hb dX1_meetWeir_98 rfl (lv_at hl 3 rfl) ?_
                                        refine lv_iload_n hx hb dX1_meetWeir_99 rfl (lv_at hl 4 rfl) ?_
                                        refine pVi (As := [.int (nI i)]) (rest := []) (wc := (wF cA F (uWe a (up (qWe a) i (qWe a i + imax1 (v - nI (belowA a i))))) c q)) ⟨hx, hb, hml, hown, hts⟩ (K_X1_isSoaked lch D cA F (uWe a (up (qWe a) i (qWe a i + imax1 (v - nI (belowA a i))))) c q i H.size (by first | assumption | omega) (by first | assumption | omega)) (cwV 1 hts gX1_meetWeir_X1_isSoaked rfl rfl rfl (by decide +kernel) ⟨Nat.le_of_ble_eq_true rfl, Nat.le_of_ble_eq_true rfl⟩) hE hP hD hS hA [0, 1, 2, 3, 4, 5, 6, 7, 8, 9, 10, 11, 12, 13, 14, 15, 16, 17, 18, 19, 20, 21, 22] rfl rfl X0.blind (fun _ _ _ => trivial) 0 1 rfl rfl rfl hl.1 rfl rfl (Nat.le_of_ble_eq_true rfl) dX1_meetWeir_100 ⟨Nat.zero_le _, Nat.zero_le _⟩ (fun r_124 u_125 H locs h_126 hP hS => ?_)
                                        subst h_126
                                        refine lv_if_eq (tgt := 115) hx hb dX1_meetWeir_103 (by decide) (fun c103 => ?_) (fun c103 => ?_)
                                        · skip
                                          have c103 := bi_0.mp c103
                                          have e9 : metA v a i = uWe a (up (qWe a) i (qWe a i + imax1 (v - nI (belowA a i)))) := by unfold metA dryA; rw [if_pos c1, c103]; rfl
                                          have hP : va_P D vwCl (wF cA F (metA v a i) c q) H := by rw [e9]; exact hP
                                          rw [hQQ]
                                          exact W.vret hx hb hr (fun t ht hW => ⟨⟨(), rfl, trivial, by show va_P _ _ _ t.heap; rw [ht]; exact hP⟩, hS.F ht⟩) hS.2.2 dX1_meetWeir_115
                                        · skip
                                          have c103 := bi_1.mp c103
                                          refine lv_aload_n hx hb dX1_meetWeir_106 rfl (lv_at hl 3 rfl) ?_
                                          refine va_get (D := D) (ci := 1) (v := .ref (F 7)) (C := RX1) (T := TX1) (N := 13) hx hb hts inX1 hown hE.1 hP 0 rfl rfl 6 (by decide) kf35 (fun _ h9 => h9) rfl dX1_meetWeir_107 ?_
                                          refine lv_iload_n hx hb dX1_meetWeir_110 rfl (lv_at hl 4 rfl) ?_
                                          refine lv_iconst (v := 0) hx hb dX1_meetWeir_111 (by decide) ?_
                                          refine cVv (As := [.int (nI i), .int 0]) (rest := []) (wc := (wR cA (F 7) (F 18) 41 (fun z9 => bi (qBu (uWe a (up (qWe a) i (qWe a i + imax1 (v - nI (belowA a i))))) z9)))) ⟨hx, hb, hml, hown, hts⟩ (K_X2_putk lch D cA (F 7) (F 18) 41 (fun z9 => bi (qBu (uWe a (up (qWe a) i (qWe a i + imax1 (v - nI (belowA a i))))) z9)) i 0 (fun z9 => bi (qBu (outA (uWe a (up (qWe a) i (qWe a i + imax1 (v - nI (belowA a i))))) i) z9)) H.size (by omega) (Nat.le_of_ble_eq_true rfl) (fun j _ => upd_B (v := false) j)) (cwV 2 hts gX1_meetWeir_X2_put rfl rfl rfl (by decide +kernel) ⟨Nat.le_of_ble_eq_true rfl, Nat.le_of_ble_eq_true rfl⟩) hE hP hD hS hA [7, 18] rfl rfl [F 7, F 18] (fun _ => rfl) rfl (fun (u_128 : Unit) => (wF cA F (outA (uWe a (up (qWe a) i (qWe a i + imax1 (v - nI (belowA a i))))) i) c q)) (fun _ => rfl) X0.blind (fun _ _ _ => trivial) 7 2 rfl rfl rfl hl.1 rfl rfl (Nat.le_of_ble_eq_true rfl) dX1_meetWeir_112 ⟨Nat.zero_le _, Nat.zero_le _⟩ (fun u_128 H locs h_129 hP hD hS => ?_)
                                          have e9 : metA v a i = outA (uWe a (up (qWe a) i (qWe a i + imax1 (v - nI (belowA a i))))) i := by unfold metA dryA; rw [if_pos c1, if_pos c103]
                                          have hP : va_P D vwCl (wF cA F (metA v a i) c q) H := by rw [e9]; exact hP
                                          rw [hQQ]
                                          exact W.vret hx hb hr (fun t ht hW => ⟨⟨(), rfl, trivial, by show va_P _ _ _ t.heap; rw [ht]; exact hP⟩, hS.F ht⟩) hS.2.2 dX1_meetWeir_115
                                    · skip
                                      exfalso; revert c13_3; decide
                                  · skip
                                    exfalso; revert c22_11; decide
                        · skip
                          exfalso; revert c22_7; decide
              · skip
                exfalso; revert c22_3; decide
    · skip
      have e9 : metA v a i = a := if_neg ((nlt_iff 0 v).mpr ((nlt_iff 0 v).mp c1))
      have hP : va_P D vwCl (wF cA F (metA v a i) c q) H := by rw [e9]; exact hP
      rw [hQQ]
      exact W.vret hx hb hr (fun t ht hW => ⟨⟨(), rfl, trivial, by show va_P _ _ _ t.heap; rw [ht]; exact hP⟩, hS.F ht⟩) hS.2.2 dX1_meetWeir_4
  rw [hg1, hg2] at hgoal
  exact hgoal

set_option maxHeartbeats 4000000 in
set_option maxRecDepth 100000 in
/-- useWax -/
theorem K_X1_useWax (lch : Launch) (D : va_G) (cA : ClassId) (F : Nat → Nat) (a : FSt) (c : Nat → Int32) (q : Nat → Int32) (sz : Nat) (hw1 : WFa a) : Met lch yX1_useWax wsX1_useWax ({ frames := 3, cells := 0, slots := 0, locals := 64 }) (Pr D cA [.ref (F 0)] sz (wF cA F a c q) X0) (va_Qv (fun (u : Unit) => True) (fun (u : Unit) t => va_P D vwCl (wF cA F (burnA (qN a) a) c q) t.heap) (va_A (wF cA F a c q) sz)) 0 0 (va_A (wF cA F a c q) sz) := by
  refine Met.ofW (cc := cX1_useWax) (maxL := 3) (ret := none) (by decide) rfl ?_
  intro pg ev s mi args below meth cd s₁ B hml hv
  obtain ⟨hav, hsz, hP, hE, hD, hXs⟩ := hv
  have hx := B.exec
  have hb := B.bytes
  have hr := B.returns
  have hts := atoms_spec (ws := wsX1_useWax) B.pre
  have hown : s.vm.findClass RX1 = some mi.cls := findClass_of_methodNamed B.named
  have hlocks := B.notSynchronized
  clear B
  subst hav
  subst hsz
  have hD := hD.self (sz := s.heap.size)
  generalize hAe : va_A (wF cA F a c q) s.heap.size = A at hD ⊢
  have hA : ∀ q : Nat, s.heap.size ≤ q → A q := fun q h => by rw [← hAe]; exact Or.inr h
  have hS : va_S A s.heap s.heap [] := va_S.rf
  obtain ⟨QQ, hQQ⟩ : ∃ qq9, qq9 = MQ below (va_Qv (fun (u : Unit) => True) (fun (u : Unit) t => va_P D vwCl (wF cA F (burnA (qN a) a) c q) t.heap) A) ([.ref (F 0)] : List Value).toArray s 0 0 A := ⟨_, rfl⟩
  rw [← hQQ]
  have hl := lv_entry ([.ref (F 0)]) (n := 3) (Nat.le_of_ble_eq_true rfl)
  rw [lg_entry_eq]
  generalize (lg_sl ([.ref (F 0)]) ++ List.replicate (3 - (lg_sl ([.ref (F 0)])).length) Slot.unset).toArray = ls at hl ⊢
  have hl : lv_has ls 3 [(0, .ref (F 0))] := hl
  have kf54 := hts (.fieldLink RX1 54 "LanternWeirs$Fleet" "size" "I") (by decide +kernel)
  have inX1 : ∀ w ∈ u_ws RX1 TX1 13, w ∈ wsX1_useWax := by decide +kernel
  have kf29 := hts (.fieldLink RX1 29 "LanternWeirs$Fleet" "waxes" "LLanternWeirs$Row;") (by decide +kernel)
  have kf35 := hts (.fieldLink RX1 35 "LanternWeirs$Fleet" "burning" "LLanternWeirs$Row;") (by decide +kernel)
  obtain ⟨H, locs, hP, hS, hgo⟩ : ∃ H locs, va_P D vwCl (wF cA F a c q) H ∧ va_S A s.heap H locs ∧ (H = s.heap ∧ locs = []) := ⟨_, _, hP, hS, rfl, rfl⟩
  obtain ⟨hg1, hg2⟩ := hgo
  have hgoal : W pg lch ev (headSpec wsX1_useWax ({ frames := 3, cells := 0, slots := 0, locals := 64 })).room s mi ([.ref (F 0)] : List Value).toArray below meth cd H locs 0 0 QQ (F0 mi 0 ls []) := by
    refine lv_iconst (v := 0) hx hb dX1_useWax_0 (by decide) ?_
    refine lv_istore_n (lv' := [(1, .int 0), (0, .ref (F 0))]) hx hb dX1_useWax_1 rfl hl (by decide) rfl (fun ls hl => ?_)
    have L2 : ∀ (fu2 : Nat) (i : Nat), (i ≤ qN a) → qN a - i < fu2 → ∀ (H : Heap) (locs : List Loc), va_P D vwCl (wF cA F (burnA i a) c q) H → va_D A (wF cA F (burnA i a) c q) → va_S A s.heap H locs → ∀ ls : Array Slot, lv_has ls 3 [(1, .int (nI i)), (0, .ref (F 0))] → W pg lch ev (headSpec wsX1_useWax ({ frames := 3, cells := 0, slots := 0, locals := 64 })).room s mi ([.ref (F 0)] : List Value).toArray below meth cd H locs 0 0 QQ (F0 mi 2 ls []) := by
      intro fu2
      induction fu2 with
      | zero => intro i hi hms; exact absurd hms (Nat.not_lt_zero _)
      | succ fu2 ih2 =>
        intro i hi hms2 H locs hP hD hS ls hl
        have hn := hw1.1
        have hwb := WFa_burn hw1 i
        obtain ⟨b1, b2, b3, b4, b5, b6⟩ := burn_same a i
        refine lv_iload_n hx hb dX1_useWax_2 rfl (lv_at hl 0 rfl) ?_
        refine lv_aload_n hx hb dX1_useWax_3 rfl (lv_at hl 1 rfl) ?_
        refine va_get (D := D) (ci := 1) (v := .int (nI (qN (burnA i a)))) (C := RX1) (T := TX1) (N := 13) hx hb hts inX1 hown hE.1 hP 0 rfl rfl 11 (by decide) kf54 (fun _ h9 => h9) rfl dX1_useWax_4 ?_
        refine lv_icmp_ge (tgt := 65) hx hb dX1_useWax_7 (by decide) (fun c7 => ?_) (fun c7 => ?_)
        · skip
          have c7 := (nI_leI (a := qN (burnA i a)) (b := i) (by omega) (by omega)).mp c7
          rw [b1] at c7
          have ei : i = qN a := by omega
          have hP : va_P D vwCl (wF cA F (burnA (qN a) a) c q) H := by rw [← ei]; exact hP
          rw [hQQ]
          exact W.vret hx hb hr (fun t ht hW => ⟨⟨(), rfl, trivial, by show va_P _ _ _ t.heap; rw [ht]; exact hP⟩, hS.F ht⟩) hS.2.2 dX1_useWax_65
        · skip
          have c7 := (not_congr (nI_leI (a := qN (burnA i a)) (b := i) (by omega) (by omega))).mp c7
          have hib : i < qN (burnA i a) := by omega
          obtain ⟨w1, w2, w3, w4, w5, w6, w7, w8⟩ := hwb.2 i hib
          refine lv_aload_n hx hb dX1_useWax_10 rfl (lv_at hl 1 rfl) ?_
          refine lv_iload_n hx hb dX1_useWax_11 rfl (lv_at hl 0 rfl) ?_
          refine pVi (As := [.int (nI i)]) (rest := []) (wc := (wF cA F (burnA i a) c q)) ⟨hx, hb, hml, hown, hts⟩ (K_X1_isAfloat lch D cA F (burnA i a) c q i H.size (hib) (hwb.1) (w4)) (cwV 1 hts gX1_useWax_X1_isAfloat rfl rfl rfl (by decide +kernel) ⟨Nat.le_of_ble_eq_true rfl, Nat.le_of_ble_eq_true rfl⟩) hE hP hD hS hA [0, 1, 2, 3, 4, 5, 6, 7, 8, 9, 10, 11, 12, 13, 14, 15, 16, 17, 18, 19, 20, 21, 22] rfl rfl X0.blind (fun _ _ _ => trivial) 0 1 rfl rfl rfl hl.1 rfl rfl (Nat.le_of_ble_eq_true rfl) dX1_useWax_12 ⟨Nat.zero_le _, Nat.zero_le _⟩ (fun r_1 u_2 H locs h_3 hP hS => ?_)
          subst h_3
          refine lv_if_eq (tgt := 59) hx hb dX1_useWax_15 (by decide) (fun c15 => ?_) (fun c15 => ?_)
          · skip
            have c15 := bi_0.mp c15
            refine lv_iinc (v := nI (i + 1)) (lv' := [(1, .int (nI (i + 1))), (0, .ref (F 0))]) hx hb dX1_useWax_59 hl (k := 0) rfl (nI_add i 1) (by decide) rfl (fun ls hl => ?_)
            refine lv_goto (tgt := 2) hx hb dX1_useWax_62 (by decide) ?_
            have e9 : waxA (burnA i a) i = burnA i a := if_neg (fun q => absurd q.1 (by simpa using c15))
            have hP : va_P D vwCl (wF cA F (burnA (i + 1) a) c q) H := by show va_P D vwCl (wF cA F (waxA (burnA i a) i) c q) H; rw [e9]; exact hP
            have hD : va_D A (wF cA F (burnA (i + 1) a) c q) := by show va_D A (wF cA F (waxA (burnA i a) i) c q); rw [e9]; exact hD
            exact ih2 (i + 1) (by omega) (by omega) H locs hP hD hS ls (lv_sub hl [0, 1] rfl)
          · skip
            have c15 := bi_1.mp c15
            have h0 : qSt (burnA i a) i = 0 := by simpa using c15
            refine lv_aload_n hx hb dX1_useWax_18 rfl (lv_at hl 1 rfl) ?_
            refine lv_iload_n hx hb dX1_useWax_19 rfl (lv_at hl 0 rfl) ?_
            refine pVi (As := [.int (nI i)]) (rest := []) (wc := (wF cA F (burnA i a) c q)) ⟨hx, hb, hml, hown, hts⟩ (K_X1_isBurning lch D cA F (burnA i a) c q i H.size (hib) (hwb.1)) (cwV 1 hts gX1_useWax_X1_isBurning rfl rfl rfl (by decide +kernel) ⟨Nat.le_of_ble_eq_true rfl, Nat.le_of_ble_eq_true rfl⟩) hE hP hD hS hA [0, 1, 2, 3, 4, 5, 6, 7, 8, 9, 10, 11, 12, 13, 14, 15, 16, 17, 18, 19, 20, 21, 22] rfl rfl X0.blind (fun _ _ _ => trivial) 0 1 rfl rfl rfl hl.1 rfl rfl (Nat.le_of_ble_eq_true rfl) dX1_useWax_20 ⟨Nat.zero_le _, Nat.zero_le _⟩ (fun r_4 u_5 H locs h_6 hP hS => ?_)
            subst h_6
            refine lv_if_eq (tgt := 59) hx hb dX1_useWax_23 (by decide) (fun c23 => ?_) (fun c23 => ?_)
            · skip
              have c23 := bi_0.mp c23
              refine lv_iinc (v := nI (i + 1)) (lv' := [(1, .int (nI (i + 1))), (0, .ref (F 0))]) hx hb dX1_useWax_59 hl (k := 0) rfl (nI_add i 1) (by decide) rfl (fun ls hl => ?_)
              refine lv_goto (tgt := 2) hx hb dX1_useWax_62 (by decide) ?_
              have e9 : waxA (burnA i a) i = burnA i a := if_neg (fun q => absurd q.2 (by rw [c23]; decide))
              have hP : va_P D vwCl (wF cA F (burnA (i + 1) a) c q) H := by show va_P D vwCl (wF cA F (waxA (burnA i a) i) c q) H; rw [e9]; exact hP
              have hD : va_D A (wF cA F (burnA (i + 1) a) c q) := by show va_D A (wF cA F (waxA (burnA i a) i) c q); rw [e9]; exact hD
              exact ih2 (i + 1) (by omega) (by omega) H locs hP hD hS ls (lv_sub hl [0, 1] rfl)
            · skip
              have c23 := bi_1.mp c23
              have hx0 := w8 h0 c23
              refine lv_aload_n hx hb dX1_useWax_26 rfl (lv_at hl 1 rfl) ?_
              refine va_get (D := D) (ci := 1) (v := .ref (F 5)) (C := RX1) (T := TX1) (N := 13) hx hb hts inX1 hown hE.1 hP 0 rfl rfl 4 (by decide) kf29 (fun _ h9 => h9) rfl dX1_useWax_27 ?_
              refine lv_iload_n hx hb dX1_useWax_30 rfl (lv_at hl 0 rfl) ?_
              refine pVi (As := [.int (nI i)]) (rest := []) (wc := (wR cA (F 5) (F 16) 41 (fun z9 => nI (qWx (burnA i a) z9)))) ⟨hx, hb, hml, hown, hts⟩ (K_X2_getk lch D cA (F 5) (F 16) 41 (fun z9 => nI (qWx (burnA i a) z9)) i (nI (qWx (burnA i a) i)) H.size (by have := hwb.1; omega) (Nat.le_of_ble_eq_true rfl) (rfl)) (cwV 1 hts gX1_useWax_X2_get rfl rfl rfl (by decide +kernel) ⟨Nat.le_of_ble_eq_true rfl, Nat.le_of_ble_eq_true rfl⟩) hE hP hD hS hA [5, 16] rfl rfl X0.blind (fun _ _ _ => trivial) 5 2 rfl rfl rfl hl.1 rfl rfl (Nat.le_of_ble_eq_true rfl) dX1_useWax_31 ⟨Nat.zero_le _, Nat.zero_le _⟩ (fun r_7 u_8 H locs h_9 hP hS => ?_)
              subst h_9
              refine lv_iconst (v := 1) hx hb dX1_useWax_34 (by decide) ?_
              refine lv_isub hx hb dX1_useWax_35 ?_
              refine top_i (y := nI ((qWx (burnA i a) i) - 1)) (pk_sub (a := qWx (burnA i a) i) (b := 1) (by omega)) ?_
              refine lv_istore_n (lv' := [(2, .int (nI ((qWx (burnA i a) i) - 1))), (1, .int (nI i)), (0, .ref (F 0))]) hx hb dX1_useWax_36 rfl hl (by decide) rfl (fun ls hl => ?_)
              refine lv_aload_n hx hb dX1_useWax_37 rfl (lv_at hl 2 rfl) ?_
              refine va_get (D := D) (ci := 1) (v := .ref (F 5)) (C := RX1) (T := TX1) (N := 13) hx hb hts inX1 hown hE.1 hP 0 rfl rfl 4 (by decide) kf29 (fun _ h9 => h9) rfl dX1_useWax_38 ?_
              refine lv_iload_n hx hb dX1_useWax_41 rfl (lv_at hl 1 rfl) ?_
              refine lv_iload_n hx hb dX1_useWax_42 rfl (lv_at hl 0 rfl) ?_
              refine cVv (As := [.int (nI i), .int (nI ((qWx (burnA i a) i) - 1))]) (rest := []) (wc := (wR cA (F 5) (F 16) 41 (fun z9 => nI (qWx (burnA i a) z9)))) ⟨hx, hb, hml, hown, hts⟩ (K_X2_putk lch D cA (F 5) (F 16) 41 (fun z9 => nI (qWx (burnA i a) z9)) i (nI ((qWx (burnA i a) i) - 1)) (fun z9 => nI (qWx (uWx (burnA i a) (up (qWx (burnA i a)) i (qWx (burnA i a) i - 1))) z9)) H.size (by have := hwb.1; omega) (Nat.le_of_ble_eq_true rfl) (fun j _ => upd_N j)) (cwV 2 hts gX1_useWax_X2_put rfl rfl rfl (by decide +kernel) ⟨Nat.le_of_ble_eq_true rfl, Nat.le_of_ble_eq_true rfl⟩) hE hP hD hS hA [5, 16] rfl rfl [F 5, F 16] (fun _ => rfl) rfl (fun (u_11 : Unit) => (wF cA F (uWx (burnA i a) (up (qWx (burnA i a)) i (qWx (burnA i a) i - 1))) c q)) (fun _ => rfl) X0.blind (fun _ _ _ => trivial) 5 2 rfl rfl rfl hl.1 rfl rfl (Nat.le_of_ble_eq_true rfl) dX1_useWax_43 ⟨Nat.zero_le _, Nat.zero_le _⟩ (fun u_11 H locs h_12 hP hD hS => ?_)
              refine lv_iload_n hx hb dX1_useWax_46 rfl (lv_at hl 0 rfl) ?_
              refine lv_if_gt (tgt := 59) hx hb dX1_useWax_47 (by decide) (fun c47 => ?_) (fun c47 => ?_)
              · skip
                have c47 := (nI_ltI (a := 0) (b := (qWx (burnA i a) i) - 1) (by omega) (by omega)).mp c47
                refine lv_iinc (v := nI (i + 1)) (lv' := [(1, .int (nI (i + 1))), (2, .int (nI ((qWx (burnA i a) i) - 1))), (0, .ref (F 0))]) hx hb dX1_useWax_59 hl (k := 1) rfl (nI_add i 1) (by decide) rfl (fun ls hl => ?_)
                refine lv_goto (tgt := 2) hx hb dX1_useWax_62 (by decide) ?_
                have e9 : waxA (burnA i a) i = uWx (burnA i a) (up (qWx (burnA i a)) i (qWx (burnA i a) i - 1)) := by unfold waxA; rw [if_pos ⟨h0, c23⟩, if_neg (by omega)]
                have hP : va_P D vwCl (wF cA F (burnA (i + 1) a) c q) H := by show va_P D vwCl (wF cA F (waxA (burnA i a) i) c q) H; rw [e9]; exact hP
                have hD : va_D A (wF cA F (burnA (i + 1) a) c q) := by show va_D A (wF cA F (waxA (burnA i a) i) c q); rw [e9]; exact hD
                exact ih2 (i + 1) (by omega) (by omega) H locs hP hD hS ls (lv_sub hl [0, 2] rfl)
              · skip
                have c47 := (not_congr (nI_ltI (a := 0) (b := (qWx (burnA i a) i) - 1) (by omega) (by omega))).mp c47
                refine lv_aload_n hx hb dX1_useWax_50 rfl (lv_at hl 2 rfl) ?_
                refine va_get (D := D) (ci := 1) (v := .ref (F 7)) (C := RX1) (T := TX1) (N := 13) hx hb hts inX1 hown hE.1 hP 0 rfl rfl 6 (by decide) kf35 (fun _ h9 => h9) rfl dX1_useWax_51 ?_
                refine lv_iload_n hx hb dX1_useWax_54 rfl (lv_at hl 1 rfl) ?_
                refine lv_iconst (v := 0) hx hb dX1_useWax_55 (by decide) ?_
                refine cVv (As := [.int (nI i), .int 0]) (rest := []) (wc := (wR cA (F 7) (F 18) 41 (fun z9 => bi (qBu (uWx (burnA i a) (up (qWx (burnA i a)) i (qWx (burnA i a) i - 1))) z9)))) ⟨hx, hb, hml, hown, hts⟩ (K_X2_putk lch D cA (F 7) (F 18) 41 (fun z9 => bi (qBu (uWx (burnA i a) (up (qWx (burnA i a)) i (qWx (burnA i a) i - 1))) z9)) i 0 (fun z9 => bi (qBu (outA (uWx (burnA i a) (up (qWx (burnA i a)) i (qWx (burnA i a) i - 1))) i) z9)) H.size (by have := hwb.1; omega) (Nat.le_of_ble_eq_true rfl) (fun j _ => upd_B (v := false) j)) (cwV 2 hts gX1_useWax_X2_put rfl rfl rfl (by decide +kernel) ⟨Nat.le_of_ble_eq_true rfl, Nat.le_of_ble_eq_true rfl⟩) hE hP hD hS hA [7, 18] rfl rfl [F 7, F 18] (fun _ => rfl) rfl (fun (u_14 : Unit) => (wF cA F (outA (uWx (burnA i a) (up (qWx (burnA i a)) i (qWx (burnA i a) i - 1))) i) c q)) (fun _ => rfl) X0.blind (fun _ _ _ => trivial) 7 2 rfl rfl rfl hl.1 rfl rfl (Nat.le_of_ble_eq_true rfl) dX1_useWax_56 ⟨Nat.zero_le _, Nat.zero_le _⟩ (fun u_14 H locs h_15 hP hD hS => ?_)
                refine lv_iinc (v := nI (i + 1)) (lv' := [(1, .int (nI (i + 1))), (2, .int (nI ((qWx (burnA i a) i) - 1))), (0, .ref (F 0))]) hx hb dX1_useWax_59 hl (k := 1) rfl (nI_add i 1) (by decide) rfl (fun ls hl => ?_)
                refine lv_goto (tgt := 2) hx hb dX1_useWax_62 (by decide) ?_
                have e9 : waxA (burnA i a) i = outA (uWx (burnA i a) (up (qWx (burnA i a)) i (qWx (burnA i a) i - 1))) i := by unfold waxA; rw [if_pos ⟨h0, c23⟩, if_pos (by omega)]
                have hP : va_P D vwCl (wF cA F (burnA (i + 1) a) c q) H := by show va_P D vwCl (wF cA F (waxA (burnA i a) i) c q) H; rw [e9]; exact hP
                have hD : va_D A (wF cA F (burnA (i + 1) a) c q) := by show va_D A (wF cA F (waxA (burnA i a) i) c q); rw [e9]; exact hD
                exact ih2 (i + 1) (by omega) (by omega) H locs hP hD hS ls (lv_sub hl [0, 2] rfl)
    exact L2 (qN a + 1) 0 (Nat.zero_le _) (by omega) H locs hP hD hS ls (lv_sub hl [0, 1] rfl)
  rw [hg1, hg2] at hgoal
  exact hgoal

set_option maxHeartbeats 4000000 in
set_option maxRecDepth 100000 in
/-- Fleet.copy -/
theorem K_X1_copy (lch : Launch) (D : va_G) (cA : ClassId) (F : Nat → Nat) (G : Nat → Nat) (a : FSt) (c : Nat → Int32) (q : Nat → Int32) (a2 : FSt) (c2 : Nat → Int32) (q2 : Nat → Int32) (sz : Nat)  : Met lch yX1_copy wsX1_copy ({ frames := 2, cells := 0, slots := 0, locals := 43 }) (Pr D cA [.ref (F 0), .ref (G 0)] sz ((wF cA F a c q) ++ (wF cA G a2 c2 q2)) X0) (va_Qv (fun (u : Unit) => True) (fun (u : Unit) t => va_P D vwCl ((wF cA F a2 c2 q) ++ (wF cA G a2 c2 q2)) t.heap) (va_A ((wF cA F a c q) ++ (wF cA G a2 c2 q2)) sz)) 0 0 (va_A ((wF cA F a c q) ++ (wF cA G a2 c2 q2)) sz) := by
  refine Met.ofW (cc := cX1_copy) (maxL := 2) (ret := none) (by decide) rfl ?_
  intro pg ev s mi args below meth cd s₁ B hml hv
  obtain ⟨hav, hsz, hP, hE, hD, hXs⟩ := hv
  have hx := B.exec
  have hb := B.bytes
  have hr := B.returns
  have hts := atoms_spec (ws := wsX1_copy) B.pre
  have hown : s.vm.findClass RX1 = some mi.cls := findClass_of_methodNamed B.named
  have hlocks := B.notSynchronized
  clear B
  subst hav
  subst hsz
  have hD := hD.self (sz := s.heap.size)
  generalize hAe : va_A ((wF cA F a c q) ++ (wF cA G a2 c2 q2)) s.heap.size = A at hD ⊢
  have hA : ∀ q : Nat, s.heap.size ≤ q → A q := fun q h => by rw [← hAe]; exact Or.inr h
  have hS : va_S A s.heap s.heap [] := va_S.rf
  obtain ⟨QQ, hQQ⟩ : ∃ qq9, qq9 = MQ below (va_Qv (fun (u : Unit) => True) (fun (u : Unit) t => va_P D vwCl ((wF cA F a2 c2 q) ++ (wF cA G a2 c2 q2)) t.heap) A) ([.ref (F 0), .ref (G 0)] : List Value).toArray s 0 0 A := ⟨_, rfl⟩
  rw [← hQQ]
  have hl := lv_entry ([.ref (F 0), .ref (G 0)]) (n := 2) (Nat.le_of_ble_eq_true rfl)
  rw [lg_entry_eq]
  generalize (lg_sl ([.ref (F 0), .ref (G 0)]) ++ List.replicate (2 - (lg_sl ([.ref (F 0), .ref (G 0)])).length) Slot.unset).toArray = ls at hl ⊢
  have hl : lv_has ls 2 [(0, .ref (F 0)), (1, .ref (G 0))] := hl
  have kf16 := hts (.fieldLink RX1 16 "LanternWeirs$Fleet" "frames" "LLanternWeirs$Row;") (by decide +kernel)
  have inX1 : ∀ w ∈ u_ws RX1 TX1 13, w ∈ wsX1_copy := by decide +kernel
  have kf20 := hts (.fieldLink RX1 20 "LanternWeirs$Fleet" "wishes" "LLanternWeirs$Row;") (by decide +kernel)
  have kf23 := hts (.fieldLink RX1 23 "LanternWeirs$Fleet" "lanes" "LLanternWeirs$Row;") (by decide +kernel)
  have kf26 := hts (.fieldLink RX1 26 "LanternWeirs$Fleet" "places" "LLanternWeirs$Row;") (by decide +kernel)
  have kf29 := hts (.fieldLink RX1 29 "LanternWeirs$Fleet" "waxes" "LLanternWeirs$Row;") (by decide +kernel)
  have kf32 := hts (.fieldLink RX1 32 "LanternWeirs$Fleet" "wets" "LLanternWeirs$Row;") (by decide +kernel)
  have kf35 := hts (.fieldLink RX1 35 "LanternWeirs$Fleet" "burning" "LLanternWeirs$Row;") (by decide +kernel)
  have kf38 := hts (.fieldLink RX1 38 "LanternWeirs$Fleet" "states" "LLanternWeirs$Row;") (by decide +kernel)
  have kf41 := hts (.fieldLink RX1 41 "LanternWeirs$Fleet" "ends" "LLanternWeirs$Row;") (by decide +kernel)
  have kf44 := hts (.fieldLink RX1 44 "LanternWeirs$Fleet" "crowd" "LLanternWeirs$Row;") (by decide +kernel)
  have kf54 := hts (.fieldLink RX1 54 "LanternWeirs$Fleet" "size" "I") (by decide +kernel)
  have kf58 := hts (.fieldLink RX1 58 "LanternWeirs$Fleet" "minute" "I") (by decide +kernel)
  obtain ⟨H, locs, hP, hS, hgo⟩ : ∃ H locs, va_P D vwCl ((wF cA F a c q) ++ (wF cA G a2 c2 q2)) H ∧ va_S A s.heap H locs ∧ (H = s.heap ∧ locs = []) := ⟨_, _, hP, hS, rfl, rfl⟩
  obtain ⟨hg1, hg2⟩ := hgo
  have hgoal : W pg lch ev (headSpec wsX1_copy ({ frames := 2, cells := 0, slots := 0, locals := 43 })).room s mi ([.ref (F 0), .ref (G 0)] : List Value).toArray below meth cd H locs 0 0 QQ (F0 mi 0 ls []) := by
    refine lv_aload_n hx hb dX1_copy_0 rfl (lv_at hl 0 rfl) ?_
    refine va_get (D := D) (ci := 1) (v := .ref (F 1)) (C := RX1) (T := TX1) (N := 13) hx hb hts inX1 hown hE.1 hP 0 rfl rfl 0 (by decide) kf16 (fun _ h9 => h9) rfl dX1_copy_1 ?_
    refine lv_aload_n hx hb dX1_copy_4 rfl (lv_at hl 1 rfl) ?_
    refine va_get (D := D) (ci := 1) (v := .ref (G 1)) (C := RX1) (T := TX1) (N := 13) hx hb hts inX1 hown hE.1 hP 23 rfl rfl 0 (by decide) kf16 (fun _ h9 => h9) rfl dX1_copy_5 ?_
    refine cVv (As := [.ref (G 1)]) (rest := []) (wc := ((wR cA (F 1) (F 12) 41 (fun z9 => nI (qFr a z9))) ++ (wR cA (G 1) (G 12) 41 (fun z9 => nI (qFr a2 z9))))) ⟨hx, hb, hml, hown, hts⟩ (K_X2_copy lch D cA (F 1) (F 12) 41 (fun z9 => nI (qFr a z9)) (G 1) (G 12) (fun z9 => nI (qFr a2 z9)) H.size (Nat.le_of_ble_eq_true rfl)) (cwV 1 hts gX1_copy_X2_copy rfl rfl rfl (by decide +kernel) ⟨Nat.le_of_ble_eq_true rfl, Nat.le_of_ble_eq_true rfl⟩) hE hP hD hS hA [1, 12, 24, 35] rfl rfl [F 1, F 12, G 1, G 12] (fun _ => rfl) rfl (fun (u_2 : Unit) => ((wF cA F (uFr (a) (qFr a2)) c q) ++ (wF cA G a2 c2 q2))) (fun _ => rfl) X0.blind (fun _ _ _ => trivial) 1 2 rfl rfl rfl hl.1 rfl rfl (Nat.le_of_ble_eq_true rfl) dX1_copy_8 ⟨Nat.zero_le _, Nat.zero_le _⟩ (fun u_2 H locs h_3 hP hD hS => ?_)
    refine lv_aload_n hx hb dX1_copy_11 rfl (lv_at hl 0 rfl) ?_
    refine va_get (D := D) (ci := 1) (v := .ref (F 2)) (C := RX1) (T := TX1) (N := 13) hx hb hts inX1 hown hE.1 hP 0 rfl rfl 1 (by decide) kf20 (fun _ h9 => h9) rfl dX1_copy_12 ?_
    refine lv_aload_n hx hb dX1_copy_15 rfl (lv_at hl 1 rfl) ?_
    refine va_get (D := D) (ci := 1) (v := .ref (G 2)) (C := RX1) (T := TX1) (N := 13) hx hb hts inX1 hown hE.1 hP 23 rfl rfl 1 (by decide) kf20 (fun _ h9 => h9) rfl dX1_copy_16 ?_
    refine cVv (As := [.ref (G 2)]) (rest := []) (wc := ((wR cA (F 2) (F 13) 41 (qWi (uFr (a) (qFr a2)))) ++ (wR cA (G 2) (G 13) 41 (qWi a2)))) ⟨hx, hb, hml, hown, hts⟩ (K_X2_copy lch D cA (F 2) (F 13) 41 (qWi (uFr (a) (qFr a2))) (G 2) (G 13) (qWi a2) H.size (Nat.le_of_ble_eq_true rfl)) (cwV 1 hts gX1_copy_X2_copy rfl rfl rfl (by decide +kernel) ⟨Nat.le_of_ble_eq_true rfl, Nat.le_of_ble_eq_true rfl⟩) hE hP hD hS hA [2, 13, 25, 36] rfl rfl [F 2, F 13, G 2, G 13] (fun _ => rfl) rfl (fun (u_5 : Unit) => ((wF cA F (uWi (uFr (a) (qFr a2)) (qWi a2)) c q) ++ (wF cA G a2 c2 q2))) (fun _ => rfl) X0.blind (fun _ _ _ => trivial) 2 2 rfl rfl rfl hl.1 rfl rfl (Nat.le_of_ble_eq_true rfl) dX1_copy_19 ⟨Nat.zero_le _, Nat.zero_le _⟩ (fun u_5 H locs h_6 hP hD hS => ?_)
    refine lv_aload_n hx hb dX1_copy_22 rfl (lv_at hl 0 rfl) ?_
    refine va_get (D := D) (ci := 1) (v := .ref (F 3)) (C := RX1) (T := TX1) (N := 13) hx hb hts inX1 hown hE.1 hP 0 rfl rfl 2 (by decide) kf23 (fun _ h9 => h9) rfl dX1_copy_23 ?_
    refine lv_aload_n hx hb dX1_copy_26 rfl (lv_at hl 1 rfl) ?_
    refine va_get (D := D) (ci := 1) (v := .ref (G 3)) (C := RX1) (T := TX1) (N := 13) hx hb hts inX1 hown hE.1 hP 23 rfl rfl 2 (by decide) kf23 (fun _ h9 => h9) rfl dX1_copy_27 ?_
    refine cVv (As := [.ref (G 3)]) (rest := []) (wc := ((wR cA (F 3) (F 14) 41 (fun z9 => nI (qLa (uWi (uFr (a) (qFr a2)) (qWi a2)) z9))) ++ (wR cA (G 3) (G 14) 41 (fun z9 => nI (qLa a2 z9))))) ⟨hx, hb, hml, hown, hts⟩ (K_X2_copy lch D cA (F 3) (F 14) 41 (fun z9 => nI (qLa (uWi (uFr (a) (qFr a2)) (qWi a2)) z9)) (G 3) (G 14) (fun z9 => nI (qLa a2 z9)) H.size (Nat.le_of_ble_eq_true rfl)) (cwV 1 hts gX1_copy_X2_copy rfl rfl rfl (by decide +kernel) ⟨Nat.le_of_ble_eq_true rfl, Nat.le_of_ble_eq_true rfl⟩) hE hP hD hS hA [3, 14, 26, 37] rfl rfl [F 3, F 14, G 3, G 14] (fun _ => rfl) rfl (fun (u_8 : Unit) => ((wF cA F (uLa (uWi (uFr (a) (qFr a2)) (qWi a2)) (qLa a2)) c q) ++ (wF cA G a2 c2 q2))) (fun _ => rfl) X0.blind (fun _ _ _ => trivial) 3 2 rfl rfl rfl hl.1 rfl rfl (Nat.le_of_ble_eq_true rfl) dX1_copy_30 ⟨Nat.zero_le _, Nat.zero_le _⟩ (fun u_8 H locs h_9 hP hD hS => ?_)
    refine lv_aload_n hx hb dX1_copy_33 rfl (lv_at hl 0 rfl) ?_
    refine va_get (D := D) (ci := 1) (v := .ref (F 4)) (C := RX1) (T := TX1) (N := 13) hx hb hts inX1 hown hE.1 hP 0 rfl rfl 3 (by decide) kf26 (fun _ h9 => h9) rfl dX1_copy_34 ?_
    refine lv_aload_n hx hb dX1_copy_37 rfl (lv_at hl 1 rfl) ?_
    refine va_get (D := D) (ci := 1) (v := .ref (G 4)) (C := RX1) (T := TX1) (N := 13) hx hb hts inX1 hown hE.1 hP 23 rfl rfl 3 (by decide) kf26 (fun _ h9 => h9) rfl dX1_copy_38 ?_
    refine cVv (As := [.ref (G 4)]) (rest := []) (wc := ((wR cA (F 4) (F 15) 41 (fun z9 => nI (qPl (uLa (uWi (uFr (a) (qFr a2)) (qWi a2)) (qLa a2)) z9))) ++ (wR cA (G 4) (G 15) 41 (fun z9 => nI (qPl a2 z9))))) ⟨hx, hb, hml, hown, hts⟩ (K_X2_copy lch D cA (F 4) (F 15) 41 (fun z9 => nI (qPl (uLa (uWi (uFr (a) (qFr a2)) (qWi a2)) (qLa a2)) z9)) (G 4) (G 15) (fun z9 => nI (qPl a2 z9)) H.size (Nat.le_of_ble_eq_true rfl)) (cwV 1 hts gX1_copy_X2_copy rfl rfl rfl (by decide +kernel) ⟨Nat.le_of_ble_eq_true rfl, Nat.le_of_ble_eq_true rfl⟩) hE hP hD hS hA [4, 15, 27, 38] rfl rfl [F 4, F 15, G 4, G 15] (fun _ => rfl) rfl (fun (u_11 : Unit) => ((wF cA F (uPl (uLa (uWi (uFr (a) (qFr a2)) (qWi a2)) (qLa a2)) (qPl a2)) c q) ++ (wF cA G a2 c2 q2))) (fun _ => rfl) X0.blind (fun _ _ _ => trivial) 4 2 rfl rfl rfl hl.1 rfl rfl (Nat.le_of_ble_eq_true rfl) dX1_copy_41 ⟨Nat.zero_le _, Nat.zero_le _⟩ (fun u_11 H locs h_12 hP hD hS => ?_)
    refine lv_aload_n hx hb dX1_copy_44 rfl (lv_at hl 0 rfl) ?_
    refine va_get (D := D) (ci := 1) (v := .ref (F 5)) (C := RX1) (T := TX1) (N := 13) hx hb hts inX1 hown hE.1 hP 0 rfl rfl 4 (by decide) kf29 (fun _ h9 => h9) rfl dX1_copy_45 ?_
    refine lv_aload_n hx hb dX1_copy_48 rfl (lv_at hl 1 rfl) ?_
    refine va_get (D := D) (ci := 1) (v := .ref (G 5)) (C := RX1) (T := TX1) (N := 13) hx hb hts inX1 hown hE.1 hP 23 rfl rfl 4 (by decide) kf29 (fun _ h9 => h9) rfl dX1_copy_49 ?_
    refine cVv (As := [.ref (G 5)]) (rest := []) (wc := ((wR cA (F 5) (F 16) 41 (fun z9 => nI (qWx (uPl (uLa (uWi (uFr (a) (qFr a2)) (qWi a2)) (qLa a2)) (qPl a2)) z9))) ++ (wR cA (G 5) (G 16) 41 (fun z9 => nI (qWx a2 z9))))) ⟨hx, hb, hml, hown, hts⟩ (K_X2_copy lch D cA (F 5) (F 16) 41 (fun z9 => nI (qWx (uPl (uLa (uWi (uFr (a) (qFr a2)) (qWi a2)) (qLa a2)) (qPl a2)) z9)) (G 5) (G 16) (fun z9 => nI (qWx a2 z9)) H.size (Nat.le_of_ble_eq_true rfl)) (cwV 1 hts gX1_copy_X2_copy rfl rfl rfl (by decide +kernel) ⟨Nat.le_of_ble_eq_true rfl, Nat.le_of_ble_eq_true rfl⟩) hE hP hD hS hA [5, 16, 28, 39] rfl rfl [F 5, F 16, G 5, G 16] (fun _ => rfl) rfl (fun (u_14 : Unit) => ((wF cA F (uWx (uPl (uLa (uWi (uFr (a) (qFr a2)) (qWi a2)) (qLa a2)) (qPl a2)) (qWx a2)) c q) ++ (wF cA G a2 c2 q2))) (fun _ => rfl) X0.blind (fun _ _ _ => trivial) 5 2 rfl rfl rfl hl.1 rfl rfl (Nat.le_of_ble_eq_true rfl) dX1_copy_52 ⟨Nat.zero_le _, Nat.zero_le _⟩ (fun u_14 H locs h_15 hP hD hS => ?_)
    refine lv_aload_n hx hb dX1_copy_55 rfl (lv_at hl 0 rfl) ?_
    refine va_get (D := D) (ci := 1) (v := .ref (F 6)) (C := RX1) (T := TX1) (N := 13) hx hb hts inX1 hown hE.1 hP 0 rfl rfl 5 (by decide) kf32 (fun _ h9 => h9) rfl dX1_copy_56 ?_
    refine lv_aload_n hx hb dX1_copy_59 rfl (lv_at hl 1 rfl) ?_
    refine va_get (D := D) (ci := 1) (v := .ref (G 6)) (C := RX1) (T := TX1) (N := 13) hx hb hts inX1 hown hE.1 hP 23 rfl rfl 5 (by decide) kf32 (fun _ h9 => h9) rfl dX1_copy_60 ?_
    refine cVv (As := [.ref (G 6)]) (rest := []) (wc := ((wR cA (F 6) (F 17) 41 (qWe (uWx (uPl (uLa (uWi (uFr (a) (qFr a2)) (qWi a2)) (qLa a2)) (qPl a2)) (qWx a2)))) ++ (wR cA (G 6) (G 17) 41 (qWe a2)))) ⟨hx, hb, hml, hown, hts⟩ (K_X2_copy lch D cA (F 6) (F 17) 41 (qWe (uWx (uPl (uLa (uWi (uFr (a) (qFr a2)) (qWi a2)) (qLa a2)) (qPl a2)) (qWx a2))) (G 6) (G 17) (qWe a2) H.size (Nat.le_of_ble_eq_true rfl)) (cwV 1 hts gX1_copy_X2_copy rfl rfl rfl (by decide +kernel) ⟨Nat.le_of_ble_eq_true rfl, Nat.le_of_ble_eq_true rfl⟩) hE hP hD hS hA [6, 17, 29, 40] rfl rfl [F 6, F 17, G 6, G 17] (fun _ => rfl) rfl (fun (u_17 : Unit) => ((wF cA F (uWe (uWx (uPl (uLa (uWi (uFr (a) (qFr a2)) (qWi a2)) (qLa a2)) (qPl a2)) (qWx a2)) (qWe a2)) c q) ++ (wF cA G a2 c2 q2))) (fun _ => rfl) X0.blind (fun _ _ _ => trivial) 6 2 rfl rfl rfl hl.1 rfl rfl (Nat.le_of_ble_eq_true rfl) dX1_copy_63 ⟨Nat.zero_le _, Nat.zero_le _⟩ (fun u_17 H locs h_18 hP hD hS => ?_)
    refine lv_aload_n hx hb dX1_copy_66 rfl (lv_at hl 0 rfl) ?_
    refine va_get (D := D) (ci := 1) (v := .ref (F 7)) (C := RX1) (T := TX1) (N := 13) hx hb hts inX1 hown hE.1 hP 0 rfl rfl 6 (by decide) kf35 (fun _ h9 => h9) rfl dX1_copy_67 ?_
    refine lv_aload_n hx hb dX1_copy_70 rfl (lv_at hl 1 rfl) ?_
    refine va_get (D := D) (ci := 1) (v := .ref (G 7)) (C := RX1) (T := TX1) (N := 13) hx hb hts inX1 hown hE.1 hP 23 rfl rfl 6 (by decide) kf35 (fun _ h9 => h9) rfl dX1_copy_71 ?_
    refine cVv (As := [.ref (G 7)]) (rest := []) (wc := ((wR cA (F 7) (F 18) 41 (fun z9 => bi (qBu (uWe (uWx (uPl (uLa (uWi (uFr (a) (qFr a2)) (qWi a2)) (qLa a2)) (qPl a2)) (qWx a2)) (qWe a2)) z9))) ++ (wR cA (G 7) (G 18) 41 (fun z9 => bi (qBu a2 z9))))) ⟨hx, hb, hml, hown, hts⟩ (K_X2_copy lch D cA (F 7) (F 18) 41 (fun z9 => bi (qBu (uWe (uWx (uPl (uLa (uWi (uFr (a) (qFr a2)) (qWi a2)) (qLa a2)) (qPl a2)) (qWx a2)) (qWe a2)) z9)) (G 7) (G 18) (fun z9 => bi (qBu a2 z9)) H.size (Nat.le_of_ble_eq_true rfl)) (cwV 1 hts gX1_copy_X2_copy rfl rfl rfl (by decide +kernel) ⟨Nat.le_of_ble_eq_true rfl, Nat.le_of_ble_eq_true rfl⟩) hE hP hD hS hA [7, 18, 30, 41] rfl rfl [F 7, F 18, G 7, G 18] (fun _ => rfl) rfl (fun (u_20 : Unit) => ((wF cA F (uBu (uWe (uWx (uPl (uLa (uWi (uFr (a) (qFr a2)) (qWi a2)) (qLa a2)) (qPl a2)) (qWx a2)) (qWe a2)) (qBu a2)) c q) ++ (wF cA G a2 c2 q2))) (fun _ => rfl) X0.blind (fun _ _ _ => trivial) 7 2 rfl rfl rfl hl.1 rfl rfl (Nat.le_of_ble_eq_true rfl) dX1_copy_74 ⟨Nat.zero_le _, Nat.zero_le _⟩ (fun u_20 H locs h_21 hP hD hS => ?_)
    refine lv_aload_n hx hb dX1_copy_77 rfl (lv_at hl 0 rfl) ?_
    refine va_get (D := D) (ci := 1) (v := .ref (F 8)) (C := RX1) (T := TX1) (N := 13) hx hb hts inX1 hown hE.1 hP 0 rfl rfl 7 (by decide) kf38 (fun _ h9 => h9) rfl dX1_copy_78 ?_
    refine lv_aload_n hx hb dX1_copy_81 rfl (lv_at hl 1 rfl) ?_
    refine va_get (D := D) (ci := 1) (v := .ref (G 8)) (C := RX1) (T := TX1) (N := 13) hx hb hts inX1 hown hE.1 hP 23 rfl rfl 7 (by decide) kf38 (fun _ h9 => h9) rfl dX1_copy_82 ?_
    refine cVv (As := [.ref (G 8)]) (rest := []) (wc := ((wR cA (F 8) (F 19) 41 (fun z9 => nI (qSt (uBu (uWe (uWx (uPl (uLa (uWi (uFr (a) (qFr a2)) (qWi a2)) (qLa a2)) (qPl a2)) (qWx a2)) (qWe a2)) (qBu a2)) z9))) ++ (wR cA (G 8) (G 19) 41 (fun z9 => nI (qSt a2 z9))))) ⟨hx, hb, hml, hown, hts⟩ (K_X2_copy lch D cA (F 8) (F 19) 41 (fun z9 => nI (qSt (uBu (uWe (uWx (uPl (uLa (uWi (uFr (a) (qFr a2)) (qWi a2)) (qLa a2)) (qPl a2)) (qWx a2)) (qWe a2)) (qBu a2)) z9)) (G 8) (G 19) (fun z9 => nI (qSt a2 z9)) H.size (Nat.le_of_ble_eq_true rfl)) (cwV 1 hts gX1_copy_X2_copy rfl rfl rfl (by decide +kernel) ⟨Nat.le_of_ble_eq_true rfl, Nat.le_of_ble_eq_true rfl⟩) hE hP hD hS hA [8, 19, 31, 42] rfl rfl [F 8, F 19, G 8, G 19] (fun _ => rfl) rfl (fun (u_23 : Unit) => ((wF cA F (uSt (uBu (uWe (uWx (uPl (uLa (uWi (uFr (a) (qFr a2)) (qWi a2)) (qLa a2)) (qPl a2)) (qWx a2)) (qWe a2)) (qBu a2)) (qSt a2)) c q) ++ (wF cA G a2 c2 q2))) (fun _ => rfl) X0.blind (fun _ _ _ => trivial) 8 2 rfl rfl rfl hl.1 rfl rfl (Nat.le_of_ble_eq_true rfl) dX1_copy_85 ⟨Nat.zero_le _, Nat.zero_le _⟩ (fun u_23 H locs h_24 hP hD hS => ?_)
    refine lv_aload_n hx hb dX1_copy_88 rfl (lv_at hl 0 rfl) ?_
    refine va_get (D := D) (ci := 1) (v := .ref (F 9)) (C := RX1) (T := TX1) (N := 13) hx hb hts inX1 hown hE.1 hP 0 rfl rfl 8 (by decide) kf41 (fun _ h9 => h9) rfl dX1_copy_89 ?_
    refine lv_aload_n hx hb dX1_copy_92 rfl (lv_at hl 1 rfl) ?_
    refine va_get (D := D) (ci := 1) (v := .ref (G 9)) (C := RX1) (T := TX1) (N := 13) hx hb hts inX1 hown hE.1 hP 23 rfl rfl 8 (by decide) kf41 (fun _ h9 => h9) rfl dX1_copy_93 ?_
    refine cVv (As := [.ref (G 9)]) (rest := []) (wc := ((wR cA (F 9) (F 20) 41 (qEn (uSt (uBu (uWe (uWx (uPl (uLa (uWi (uFr (a) (qFr a2)) (qWi a2)) (qLa a2)) (qPl a2)) (qWx a2)) (qWe a2)) (qBu a2)) (qSt a2)))) ++ (wR cA (G 9) (G 20) 41 (qEn a2)))) ⟨hx, hb, hml, hown, hts⟩ (K_X2_copy lch D cA (F 9) (F 20) 41 (qEn (uSt (uBu (uWe (uWx (uPl (uLa (uWi (uFr (a) (qFr a2)) (qWi a2)) (qLa a2)) (qPl a2)) (qWx a2)) (qWe a2)) (qBu a2)) (qSt a2))) (G 9) (G 20) (qEn a2) H.size (Nat.le_of_ble_eq_true rfl)) (cwV 1 hts gX1_copy_X2_copy rfl rfl rfl (by decide +kernel) ⟨Nat.le_of_ble_eq_true rfl, Nat.le_of_ble_eq_true rfl⟩) hE hP hD hS hA [9, 20, 32, 43] rfl rfl [F 9, F 20, G 9, G 20] (fun _ => rfl) rfl (fun (u_26 : Unit) => ((wF cA F (uEn (uSt (uBu (uWe (uWx (uPl (uLa (uWi (uFr (a) (qFr a2)) (qWi a2)) (qLa a2)) (qPl a2)) (qWx a2)) (qWe a2)) (qBu a2)) (qSt a2)) (qEn a2)) c q) ++ (wF cA G a2 c2 q2))) (fun _ => rfl) X0.blind (fun _ _ _ => trivial) 9 2 rfl rfl rfl hl.1 rfl rfl (Nat.le_of_ble_eq_true rfl) dX1_copy_96 ⟨Nat.zero_le _, Nat.zero_le _⟩ (fun u_26 H locs h_27 hP hD hS => ?_)
    refine lv_aload_n hx hb dX1_copy_99 rfl (lv_at hl 0 rfl) ?_
    refine va_get (D := D) (ci := 1) (v := .ref (F 10)) (C := RX1) (T := TX1) (N := 13) hx hb hts inX1 hown hE.1 hP 0 rfl rfl 9 (by decide) kf44 (fun _ h9 => h9) rfl dX1_copy_100 ?_
    refine lv_aload_n hx hb dX1_copy_103 rfl (lv_at hl 1 rfl) ?_
    refine va_get (D := D) (ci := 1) (v := .ref (G 10)) (C := RX1) (T := TX1) (N := 13) hx hb hts inX1 hown hE.1 hP 23 rfl rfl 9 (by decide) kf44 (fun _ h9 => h9) rfl dX1_copy_104 ?_
    refine cVv (As := [.ref (G 10)]) (rest := []) (wc := ((wR cA (F 10) (F 21) 540 c) ++ (wR cA (G 10) (G 21) 540 c2))) ⟨hx, hb, hml, hown, hts⟩ (K_X2_copy lch D cA (F 10) (F 21) 540 c (G 10) (G 21) c2 H.size (Nat.le_of_ble_eq_true rfl)) (cwV 1 hts gX1_copy_X2_copy rfl rfl rfl (by decide +kernel) ⟨Nat.le_of_ble_eq_true rfl, Nat.le_of_ble_eq_true rfl⟩) hE hP hD hS hA [10, 21, 33, 44] rfl rfl [F 10, F 21, G 10, G 21] (fun _ => rfl) rfl (fun (u_29 : Unit) => ((wF cA F (uEn (uSt (uBu (uWe (uWx (uPl (uLa (uWi (uFr (a) (qFr a2)) (qWi a2)) (qLa a2)) (qPl a2)) (qWx a2)) (qWe a2)) (qBu a2)) (qSt a2)) (qEn a2)) c2 q) ++ (wF cA G a2 c2 q2))) (fun _ => rfl) X0.blind (fun _ _ _ => trivial) 10 2 rfl rfl rfl hl.1 rfl rfl (Nat.le_of_ble_eq_true rfl) dX1_copy_107 ⟨Nat.zero_le _, Nat.zero_le _⟩ (fun u_29 H locs h_30 hP hD hS => ?_)
    refine lv_aload_n hx hb dX1_copy_110 rfl (lv_at hl 0 rfl) ?_
    refine lv_aload_n hx hb dX1_copy_111 rfl (lv_at hl 1 rfl) ?_
    refine va_get (D := D) (ci := 1) (v := .int (nI (qN a2))) (C := RX1) (T := TX1) (N := 13) hx hb hts inX1 hown hE.1 hP 23 rfl rfl 11 (by decide) kf54 (fun _ h9 => h9) rfl dX1_copy_112 ?_
    refine va_put (D := D) (ci := 1) (v := .int (nI (qN a2))) (ty := .int) (C := RX1) (T := TX1) (N := 13) hx hb hts inX1 tyX1 tyX1_ok nmX1 hown hE.1 hP hD hS 0 rfl rfl 11 (by decide) kf54 (fun _ h9 => h9) rfl (by decide +kernel) rfl rfl (Nat.le_of_ble_eq_true rfl) dX1_copy_115 (fun H locs hP hD hS => ?_)
    have hP : va_P D vwCl ((wF cA F (uN (uEn (uSt (uBu (uWe (uWx (uPl (uLa (uWi (uFr (a) (qFr a2)) (qWi a2)) (qLa a2)) (qPl a2)) (qWx a2)) (qWe a2)) (qBu a2)) (qSt a2)) (qEn a2)) (qN a2)) c2 q) ++ (wF cA G a2 c2 q2)) H := hP
    have hD : va_D A ((wF cA F (uN (uEn (uSt (uBu (uWe (uWx (uPl (uLa (uWi (uFr (a) (qFr a2)) (qWi a2)) (qLa a2)) (qPl a2)) (qWx a2)) (qWe a2)) (qBu a2)) (qSt a2)) (qEn a2)) (qN a2)) c2 q) ++ (wF cA G a2 c2 q2)) := hD
    refine lv_aload_n hx hb dX1_copy_118 rfl (lv_at hl 0 rfl) ?_
    refine lv_aload_n hx hb dX1_copy_119 rfl (lv_at hl 1 rfl) ?_
    refine va_get (D := D) (ci := 1) (v := .int (qM a2)) (C := RX1) (T := TX1) (N := 13) hx hb hts inX1 hown hE.1 hP 23 rfl rfl 12 (by decide) kf58 (fun _ h9 => h9) rfl dX1_copy_120 ?_
    refine va_put (D := D) (ci := 1) (v := .int (qM a2)) (ty := .int) (C := RX1) (T := TX1) (N := 13) hx hb hts inX1 tyX1 tyX1_ok nmX1 hown hE.1 hP hD hS 0 rfl rfl 12 (by decide) kf58 (fun _ h9 => h9) rfl (by decide +kernel) rfl rfl (Nat.le_of_ble_eq_true rfl) dX1_copy_123 (fun H locs hP hD hS => ?_)
    have hP : va_P D vwCl ((wF cA F (uM (uN (uEn (uSt (uBu (uWe (uWx (uPl (uLa (uWi (uFr (a) (qFr a2)) (qWi a2)) (qLa a2)) (qPl a2)) (qWx a2)) (qWe a2)) (qBu a2)) (qSt a2)) (qEn a2)) (qN a2)) (qM a2)) c2 q) ++ (wF cA G a2 c2 q2)) H := hP
    have hD : va_D A ((wF cA F (uM (uN (uEn (uSt (uBu (uWe (uWx (uPl (uLa (uWi (uFr (a) (qFr a2)) (qWi a2)) (qLa a2)) (qPl a2)) (qWx a2)) (qWe a2)) (qBu a2)) (qSt a2)) (qEn a2)) (qN a2)) (qM a2)) c2 q) ++ (wF cA G a2 c2 q2)) := hD
    have hP : va_P D vwCl ((wF cA F a2 c2 q) ++ (wF cA G a2 c2 q2)) H := hP
    rw [hQQ]
    exact W.vret hx hb hr (fun t ht hW => ⟨⟨(), rfl, trivial, by show va_P _ _ _ t.heap; rw [ht]; exact hP⟩, hS.F ht⟩) hS.2.2 dX1_copy_126
  rw [hg1, hg2] at hgoal
  exact hgoal
end
section
set_option maxHeartbeats 4000000 in
set_option maxRecDepth 100000 in
/-- lineUp -/
theorem K_X1_lineUp (lch : Launch) (D : va_G) (cA : ClassId) (F : Nat → Nat) (a : FSt) (c : Nat → Int32) (q : Nat → Int32) (sz : Nat) (hw1 : WFa a) : Met lch yX1_lineUp wsX1_lineUp ({ frames := 3, cells := 0, slots := 0, locals := 64 }) (Pr D cA [.ref (F 0)] sz (wF cA F a c q) X0) (va_Qi (fun (r : Int32) (u : Nat → Int32) => r = nI (ordM a) ∧ QK a u (ordF a) (ordM a)) (fun (u : Nat → Int32) t => va_P D vwCl (wF cA F a c u) t.heap) (va_A (wF cA F a c q) sz)) 0 0 (va_A (wF cA F a c q) sz) := by
  refine Met.ofW (cc := cX1_lineUp) (maxL := 6) (ret := (some .int)) (by decide) rfl ?_
  intro pg ev s mi args below meth cd s₁ B hml hv
  obtain ⟨hav, hsz, hP, hE, hD, hXs⟩ := hv
  have hx := B.exec
  have hb := B.bytes
  have hr := B.returns
  have hts := atoms_spec (ws := wsX1_lineUp) B.pre
  have hown : s.vm.findClass RX1 = some mi.cls := findClass_of_methodNamed B.named
  have hlocks := B.notSynchronized
  clear B
  subst hav
  subst hsz
  have hD := hD.self (sz := s.heap.size)
  generalize hAe : va_A (wF cA F a c q) s.heap.size = A at hD ⊢
  have hA : ∀ q : Nat, s.heap.size ≤ q → A q := fun q h => by rw [← hAe]; exact Or.inr h
  have hS : va_S A s.heap s.heap [] := va_S.rf
  obtain ⟨QQ, hQQ⟩ : ∃ qq9, qq9 = MQ below (va_Qi (fun (r : Int32) (u : Nat → Int32) => r = nI (ordM a) ∧ QK a u (ordF a) (ordM a)) (fun (u : Nat → Int32) t => va_P D vwCl (wF cA F a c u) t.heap) A) ([.ref (F 0)] : List Value).toArray s 0 0 A := ⟨_, rfl⟩
  rw [← hQQ]
  have hl := lv_entry ([.ref (F 0)]) (n := 6) (Nat.le_of_ble_eq_true rfl)
  rw [lg_entry_eq]
  generalize (lg_sl ([.ref (F 0)]) ++ List.replicate (6 - (lg_sl ([.ref (F 0)])).length) Slot.unset).toArray = ls at hl ⊢
  have hl : lv_has ls 6 [(0, .ref (F 0))] := hl
  have kf54 := hts (.fieldLink RX1 54 "LanternWeirs$Fleet" "size" "I") (by decide +kernel)
  have inX1 : ∀ w ∈ u_ws RX1 TX1 13, w ∈ wsX1_lineUp := by decide +kernel
  have kf26 := hts (.fieldLink RX1 26 "LanternWeirs$Fleet" "places" "LLanternWeirs$Row;") (by decide +kernel)
  have kf23 := hts (.fieldLink RX1 23 "LanternWeirs$Fleet" "lanes" "LLanternWeirs$Row;") (by decide +kernel)
  have kf47 := hts (.fieldLink RX1 47 "LanternWeirs$Fleet" "queue" "LLanternWeirs$Row;") (by decide +kernel)
  obtain ⟨H, locs, hP, hS, hgo⟩ : ∃ H locs, va_P D vwCl (wF cA F a c q) H ∧ va_S A s.heap H locs ∧ (H = s.heap ∧ locs = []) := ⟨_, _, hP, hS, rfl, rfl⟩
  obtain ⟨hg1, hg2⟩ := hgo
  have hgoal : W pg lch ev (headSpec wsX1_lineUp ({ frames := 3, cells := 0, slots := 0, locals := 64 })).room s mi ([.ref (F 0)] : List Value).toArray below meth cd H locs 0 0 QQ (F0 mi 0 ls []) := by
    refine lv_iconst (v := 0) hx hb dX1_lineUp_0 (by decide) ?_
    refine lv_istore_n (lv' := [(1, .int 0), (0, .ref (F 0))]) hx hb dX1_lineUp_1 rfl hl (by decide) rfl (fun ls hl => ?_)
    refine lv_iconst (v := 0) hx hb dX1_lineUp_2 (by decide) ?_
    refine lv_istore_n (lv' := [(2, .int 0), (1, .int 0), (0, .ref (F 0))]) hx hb dX1_lineUp_3 rfl hl (by decide) rfl (fun ls hl => ?_)
    have L4 : ∀ (fu4 : Nat) (i : Nat) (g : Nat → Int32), (i ≤ qN a) → (QK a g (sortN a i).2 (sortN a i).1) → qN a - i < fu4 → ∀ (H : Heap) (locs : List Loc), va_P D vwCl (wF cA F a c g) H → va_D A (wF cA F a c g) → va_S A s.heap H locs → ∀ ls : Array Slot, lv_has ls 6 [(2, .int (nI i)), (1, .int (nI ((sortN a i).1))), (0, .ref (F 0))] → W pg lch ev (headSpec wsX1_lineUp ({ frames := 3, cells := 0, slots := 0, locals := 64 })).room s mi ([.ref (F 0)] : List Value).toArray below meth cd H locs 0 0 QQ (F0 mi 4 ls []) := by
      intro fu4
      induction fu4 with
      | zero => intro i g hi hq hms; exact absurd hms (Nat.not_lt_zero _)
      | succ fu4 ih4 =>
        intro i g hi hq hms4 H locs hP hD hS ls hl
        have hn := hw1.1
        have hso := sort_ok (a := a) i
        refine lv_iload_n hx hb dX1_lineUp_4 rfl (lv_at hl 0 rfl) ?_
        refine lv_aload_n hx hb dX1_lineUp_5 rfl (lv_at hl 2 rfl) ?_
        refine va_get (D := D) (ci := 1) (v := .int (nI (qN a))) (C := RX1) (T := TX1) (N := 13) hx hb hts inX1 hown hE.1 hP 0 rfl rfl 11 (by decide) kf54 (fun _ h9 => h9) rfl dX1_lineUp_6 ?_
        refine lv_icmp_ge (tgt := 121) hx hb dX1_lineUp_9 (by decide) (fun c9 => ?_) (fun c9 => ?_)
        · skip
          have c9 := (nI_leI (a := qN a) (b := i) (by omega) (by omega)).mp c9
          refine lv_iload_n hx hb dX1_lineUp_121 rfl (lv_at hl 1 rfl) ?_
          have ei : i = qN a := by omega
          have hq : QK a g (ordF a) (ordM a) := by rw [ei] at hq; exact hq
          rw [hQQ]
          exact W.iret (v := nI ((sortN a i).1)) hx hb hr (fun t ht hW => ⟨⟨nI ((sortN a i).1), g, rfl, ⟨by rw [ei]; rfl, hq⟩, by show va_P _ _ _ t.heap; rw [ht]; exact hP⟩, hS.F ht⟩) hS.2.2 dX1_lineUp_122
        · skip
          have c9 := (not_congr (nI_leI (a := qN a) (b := i) (by omega) (by omega))).mp c9
          obtain ⟨w1, w2, w3, w4, w5, w6, w7, w8⟩ := hw1.2 i (by omega)
          refine lv_aload_n hx hb dX1_lineUp_12 rfl (lv_at hl 2 rfl) ?_
          refine lv_iload_n hx hb dX1_lineUp_13 rfl (lv_at hl 0 rfl) ?_
          refine pVi (As := [.int (nI i)]) (rest := []) (wc := (wF cA F a c g)) ⟨hx, hb, hml, hown, hts⟩ (K_X1_isAfloat lch D cA F a c g i H.size (by first | assumption | omega) (by first | assumption | omega) (by first | assumption | omega)) (cwV 1 hts gX1_lineUp_X1_isAfloat rfl rfl rfl (by decide +kernel) ⟨Nat.le_of_ble_eq_true rfl, Nat.le_of_ble_eq_true rfl⟩) hE hP hD hS hA [0, 1, 2, 3, 4, 5, 6, 7, 8, 9, 10, 11, 12, 13, 14, 15, 16, 17, 18, 19, 20, 21, 22] rfl rfl X0.blind (fun _ _ _ => trivial) 0 1 rfl rfl rfl hl.1 rfl rfl (Nat.le_of_ble_eq_true rfl) dX1_lineUp_14 ⟨Nat.zero_le _, Nat.zero_le _⟩ (fun r_1 u_2 H locs h_3 hP hS => ?_)
          subst h_3
          refine lv_if_eq (tgt := 115) hx hb dX1_lineUp_17 (by decide) (fun c17 => ?_) (fun c17 => ?_)
          · skip
            have c17 := bi_0.mp c17
            refine lv_iinc (v := nI (i + 1)) (lv' := [(2, .int (nI (i + 1))), (1, .int (nI ((sortN a i).1))), (0, .ref (F 0))]) hx hb dX1_lineUp_115 hl (k := 0) rfl (nI_add i 1) (by decide) rfl (fun ls hl => ?_)
            refine lv_goto (tgt := 4) hx hb dX1_lineUp_118 (by decide) ?_
            have e9 := sort_out (a := a) (i := i) (by simpa using c17)
            rw [← e9] at hl hq
            exact ih4 (i + 1) g (by omega) (hq) (by omega) H locs hP hD hS ls (lv_sub hl [0, 1, 2] rfl)
          · skip
            have c17 := bi_1.mp c17
            have h0 : qSt a i = 0 := by simpa using c17
            have hpl := w5 h0
            have hks := key_small (a := a) (i := i) ⟨hpl, w2, by omega⟩
            refine lv_bipush (v := 59) hx hb dX1_lineUp_20 (by decide) ?_
            refine lv_aload_n hx hb dX1_lineUp_22 rfl (lv_at hl 2 rfl) ?_
            refine va_get (D := D) (ci := 1) (v := .ref (F 4)) (C := RX1) (T := TX1) (N := 13) hx hb hts inX1 hown hE.1 hP 0 rfl rfl 3 (by decide) kf26 (fun _ h9 => h9) rfl dX1_lineUp_23 ?_
            refine lv_iload_n hx hb dX1_lineUp_26 rfl (lv_at hl 0 rfl) ?_
            refine pVi (As := [.int (nI i)]) (rest := [.int 59]) (wc := (wR cA (F 4) (F 15) 41 (fun z9 => nI (qPl a z9)))) ⟨hx, hb, hml, hown, hts⟩ (K_X2_getk lch D cA (F 4) (F 15) 41 (fun z9 => nI (qPl a z9)) i (nI (qPl a i)) H.size (by omega) (Nat.le_of_ble_eq_true rfl) (rfl)) (cwV 1 hts gX1_lineUp_X2_get rfl rfl rfl (by decide +kernel) ⟨Nat.le_of_ble_eq_true rfl, Nat.le_of_ble_eq_true rfl⟩) hE hP hD hS hA [4, 15] rfl rfl X0.blind (fun _ _ _ => trivial) 4 2 rfl rfl rfl hl.1 rfl rfl (Nat.le_of_ble_eq_true rfl) dX1_lineUp_27 ⟨Nat.zero_le _, Nat.zero_le _⟩ (fun r_4 u_5 H locs h_6 hP hS => ?_)
            subst h_6
            refine lv_isub hx hb dX1_lineUp_30 ?_
            refine top_i (y := nI (59 - (qPl a i))) (pk_sub (a := 59) (b := qPl a i) (by omega)) ?_
            refine lv_iconst (v := 3) hx hb dX1_lineUp_31 (by decide) ?_
            refine lv_imul hx hb dX1_lineUp_32 ?_
            refine top_i (y := nI ((59 - (qPl a i)) * 3)) (pk_mul _ _) ?_
            refine lv_aload_n hx hb dX1_lineUp_33 rfl (lv_at hl 2 rfl) ?_
            refine va_get (D := D) (ci := 1) (v := .ref (F 3)) (C := RX1) (T := TX1) (N := 13) hx hb hts inX1 hown hE.1 hP 0 rfl rfl 2 (by decide) kf23 (fun _ h9 => h9) rfl dX1_lineUp_34 ?_
            refine lv_iload_n hx hb dX1_lineUp_37 rfl (lv_at hl 0 rfl) ?_
            refine pVi (As := [.int (nI i)]) (rest := [.int (nI ((59 - (qPl a i)) * 3))]) (wc := (wR cA (F 3) (F 14) 41 (fun z9 => nI (qLa a z9)))) ⟨hx, hb, hml, hown, hts⟩ (K_X2_getk lch D cA (F 3) (F 14) 41 (fun z9 => nI (qLa a z9)) i (nI (qLa a i)) H.size (by omega) (Nat.le_of_ble_eq_true rfl) (rfl)) (cwV 1 hts gX1_lineUp_X2_get rfl rfl rfl (by decide +kernel) ⟨Nat.le_of_ble_eq_true rfl, Nat.le_of_ble_eq_true rfl⟩) hE hP hD hS hA [3, 14] rfl rfl X0.blind (fun _ _ _ => trivial) 3 2 rfl rfl rfl hl.1 rfl rfl (Nat.le_of_ble_eq_true rfl) dX1_lineUp_38 ⟨Nat.zero_le _, Nat.zero_le _⟩ (fun r_7 u_8 H locs h_9 hP hS => ?_)
            subst h_9
            refine lv_iadd hx hb dX1_lineUp_41 ?_
            refine top_i (y := nI (((59 - (qPl a i)) * 3) + (qLa a i))) (nI_add _ _) ?_
            refine lv_istore_n (lv' := [(3, .int (nI (((59 - (qPl a i)) * 3) + (qLa a i)))), (2, .int (nI i)), (1, .int (nI ((sortN a i).1))), (0, .ref (F 0))]) hx hb dX1_lineUp_42 rfl hl (by decide) rfl (fun ls hl => ?_)
            refine lv_iload_n hx hb dX1_lineUp_43 rfl (lv_at hl 0 rfl) ?_
            refine lv_bipush (v := 64) hx hb dX1_lineUp_44 (by decide) ?_
            refine lv_imul hx hb dX1_lineUp_46 ?_
            refine top_i (y := nI ((((59 - (qPl a i)) * 3) + (qLa a i)) * 64)) (pk_mul _ _) ?_
            refine lv_iload_n hx hb dX1_lineUp_47 rfl (lv_at hl 1 rfl) ?_
            refine lv_iadd hx hb dX1_lineUp_48 ?_
            refine top_i (y := nI (keyA a i)) (nI_add _ _) ?_
            refine lv_istore (lv' := [(4, .int (nI (keyA a i))), (3, .int (nI (((59 - (qPl a i)) * 3) + (qLa a i)))), (2, .int (nI i)), (1, .int (nI ((sortN a i).1))), (0, .ref (F 0))]) hx hb dX1_lineUp_49 hl (by decide) rfl (fun ls hl => ?_)
            refine lv_iload_n hx hb dX1_lineUp_51 rfl (lv_at hl 3 rfl) ?_
            refine lv_istore (lv' := [(5, .int (nI ((sortN a i).1))), (4, .int (nI (keyA a i))), (3, .int (nI (((59 - (qPl a i)) * 3) + (qLa a i)))), (2, .int (nI i)), (1, .int (nI ((sortN a i).1))), (0, .ref (F 0))]) hx hb dX1_lineUp_52 hl (by decide) rfl (fun ls hl => ?_)
            have L54 : ∀ (fu54 : Nat) (t : Nat) (o : Nat → Nat) (g2 : Nat → Int32), (t ≤ (sortN a i).1) → (shiftO (aheadA a i) (sortN a i).1 (sortN a i).2 = shiftO (aheadA a i) t o) → (QH a g2 o (sortN a i).1 t i) → t < fu54 → ∀ (H : Heap) (locs : List Loc), va_P D vwCl (wF cA F a c g2) H → va_D A (wF cA F a c g2) → va_S A s.heap H locs → ∀ ls : Array Slot, lv_has ls 6 [(5, .int (nI t)), (4, .int (nI (keyA a i))), (2, .int (nI i)), (1, .int (nI ((sortN a i).1))), (0, .ref (F 0))] → W pg lch ev (headSpec wsX1_lineUp ({ frames := 3, cells := 0, slots := 0, locals := 64 })).room s mi ([.ref (F 0)] : List Value).toArray below meth cd H locs 0 0 QQ (F0 mi 54 ls []) := by
              intro fu54
              induction fu54 with
              | zero => intro t o g2 ht hs hqh hms; exact absurd hms (Nat.not_lt_zero _)
              | succ fu54 ih54 =>
                intro t o g2 ht hs hqh hms54 H locs hP hD hS ls hl
                refine lv_iload hx hb dX1_lineUp_54 (lv_at hl 0 rfl) ?_
                refine lv_if_le (tgt := 101) hx hb dX1_lineUp_56 (by decide) (fun c56 => ?_) (fun c56 => ?_)
                · skip
                  have c56 := (nI_leI (a := t) (b := 0) (by omega) (by omega)).mp c56
                  have et : t = 0 := by omega
                  have hs9 : shiftO (aheadA a i) (sortN a i).1 (sortN a i).2 = (t, o) := by rw [hs, et]; rfl
                  have hq9 := QH_end (i := i) hqh hs9
                  refine lv_aload_n hx hb dX1_lineUp_101 rfl (lv_at hl 4 rfl) ?_
                  refine va_get (D := D) (ci := 1) (v := .ref (F 11)) (C := RX1) (T := TX1) (N := 13) hx hb hts inX1 hown hE.1 hP 0 rfl rfl 10 (by decide) kf47 (fun _ h9 => h9) rfl dX1_lineUp_102 ?_
                  refine lv_iload hx hb dX1_lineUp_105 (lv_at hl 0 rfl) ?_
                  refine lv_iload hx hb dX1_lineUp_107 (lv_at hl 1 rfl) ?_
                  refine cVv (As := [.int (nI t), .int (nI (keyA a i))]) (rest := []) (wc := (wR cA (F 11) (F 22) 41 g2)) ⟨hx, hb, hml, hown, hts⟩ (K_X2_putk lch D cA (F 11) (F 22) 41 g2 t (nI (keyA a i)) (up g2 t (nI (keyA a i))) H.size (by omega) (Nat.le_of_ble_eq_true rfl) (fun j _ => upd_I j)) (cwV 2 hts gX1_lineUp_X2_put rfl rfl rfl (by decide +kernel) ⟨Nat.le_of_ble_eq_true rfl, Nat.le_of_ble_eq_true rfl⟩) hE hP hD hS hA [11, 22] rfl rfl [F 11, F 22] (fun _ => rfl) rfl (fun (u_11 : Unit) => (wF cA F a c (up g2 t (nI (keyA a i))))) (fun _ => rfl) X0.blind (fun _ _ _ => trivial) 11 2 rfl rfl rfl hl.1 rfl rfl (Nat.le_of_ble_eq_true rfl) dX1_lineUp_109 ⟨Nat.zero_le _, Nat.zero_le _⟩ (fun u_11 H locs h_12 hP hD hS => ?_)
                  refine lv_iinc (v := nI (((sortN a i).1) + 1)) (lv' := [(1, .int (nI (((sortN a i).1) + 1))), (5, .int (nI t)), (4, .int (nI (keyA a i))), (2, .int (nI i)), (0, .ref (F 0))]) hx hb dX1_lineUp_112 hl (k := 3) rfl (nI_add ((sortN a i).1) 1) (by decide) rfl (fun ls hl => ?_)
                  refine lv_iinc (v := nI (i + 1)) (lv' := [(2, .int (nI (i + 1))), (1, .int (nI (((sortN a i).1) + 1))), (5, .int (nI t)), (4, .int (nI (keyA a i))), (0, .ref (F 0))]) hx hb dX1_lineUp_115 hl (k := 3) rfl (nI_add i 1) (by decide) rfl (fun ls hl => ?_)
                  refine lv_goto (tgt := 4) hx hb dX1_lineUp_118 (by decide) ?_
                  have e9 := sort_in (a := a) (i := i) h0
                  have e1 : (sortN a i).1 + 1 = (sortN a (i + 1)).1 := by rw [e9]
                  have e2 : insO (aheadA a i) i (sortN a i).1 (sortN a i).2 = (sortN a (i + 1)).2 := by rw [e9]
                  rw [e1] at hl
                  rw [e1, e2] at hq9
                  exact ih4 (i + 1) (up g2 t (nI (keyA a i))) (by omega) (hq9) (by omega) H locs hP hD hS ls (lv_sub hl [0, 1, 4] rfl)
                · skip
                  have c56 := (not_congr (nI_leI (a := t) (b := 0) (by omega) (by omega))).mp c56
                  refine lv_aload_n hx hb dX1_lineUp_59 rfl (lv_at hl 4 rfl) ?_
                  refine va_get (D := D) (ci := 1) (v := .ref (F 11)) (C := RX1) (T := TX1) (N := 13) hx hb hts inX1 hown hE.1 hP 0 rfl rfl 10 (by decide) kf47 (fun _ h9 => h9) rfl dX1_lineUp_60 ?_
                  refine lv_iload hx hb dX1_lineUp_63 (lv_at hl 0 rfl) ?_
                  refine lv_iconst (v := 1) hx hb dX1_lineUp_65 (by decide) ?_
                  refine lv_isub hx hb dX1_lineUp_66 ?_
                  refine top_i (y := nI (t - 1)) (pk_sub (a := t) (b := 1) (by omega)) ?_
                  refine pVi (As := [.int (nI (t - 1))]) (rest := []) (wc := (wR cA (F 11) (F 22) 41 g2)) ⟨hx, hb, hml, hown, hts⟩ (K_X2_getk lch D cA (F 11) (F 22) 41 g2 (t - 1) (g2 (t - 1)) H.size (by omega) (Nat.le_of_ble_eq_true rfl) (rfl)) (cwV 1 hts gX1_lineUp_X2_get rfl rfl rfl (by decide +kernel) ⟨Nat.le_of_ble_eq_true rfl, Nat.le_of_ble_eq_true rfl⟩) hE hP hD hS hA [11, 22] rfl rfl X0.blind (fun _ _ _ => trivial) 11 2 rfl rfl rfl hl.1 rfl rfl (Nat.le_of_ble_eq_true rfl) dX1_lineUp_67 ⟨Nat.zero_le _, Nat.zero_le _⟩ (fun r_13 u_14 H locs h_15 hP hS => ?_)
                  subst h_15
                  have hv := hqh (t - 1) (by omega) (by omega)
                  have hvv := hw1.2 (o (t - 1)) (by omega)
                  have hv1 : qPl a (o (t - 1)) < 60 ∧ qLa a (o (t - 1)) < 3 ∧ o (t - 1) < 41 := ⟨hvv.2.2.2.2.1 hv.2.2, hvv.2.1, by omega⟩
                  have hk1 := key_small hv1
                  refine top_i (y := nI (keyA a (o (t - 1)))) hv.1 ?_
                  refine lv_iload hx hb dX1_lineUp_70 (lv_at hl 1 rfl) ?_
                  refine lv_icmp_le (tgt := 101) hx hb dX1_lineUp_72 (by decide) (fun c72 => ?_) (fun c72 => ?_)
                  · skip
                    have c72 := (nI_leI (a := keyA a (o (t - 1))) (b := keyA a i) (by omega) (by omega)).mp c72
                    have hna : ¬ aheadA a i (o (t - 1)) = true := fun q => absurd ((key_lt ⟨w5 h0, w2, by omega⟩ hv1).mpr q) (by omega)
                    have hst := shift_stop (P := aheadA a i) (t := t - 1) (g := o) hna
                    rw [show t - 1 + 1 = t by omega] at hst
                    rw [hst] at hs
                    have hq9 := QH_end (i := i) hqh hs
                    refine lv_aload_n hx hb dX1_lineUp_101 rfl (lv_at hl 4 rfl) ?_
                    refine va_get (D := D) (ci := 1) (v := .ref (F 11)) (C := RX1) (T := TX1) (N := 13) hx hb hts inX1 hown hE.1 hP 0 rfl rfl 10 (by decide) kf47 (fun _ h9 => h9) rfl dX1_lineUp_102 ?_
                    refine lv_iload hx hb dX1_lineUp_105 (lv_at hl 0 rfl) ?_
                    refine lv_iload hx hb dX1_lineUp_107 (lv_at hl 1 rfl) ?_
                    refine cVv (As := [.int (nI t), .int (nI (keyA a i))]) (rest := []) (wc := (wR cA (F 11) (F 22) 41 g2)) ⟨hx, hb, hml, hown, hts⟩ (K_X2_putk lch D cA (F 11) (F 22) 41 g2 t (nI (keyA a i)) (up g2 t (nI (keyA a i))) H.size (by omega) (Nat.le_of_ble_eq_true rfl) (fun j _ => upd_I j)) (cwV 2 hts gX1_lineUp_X2_put rfl rfl rfl (by decide +kernel) ⟨Nat.le_of_ble_eq_true rfl, Nat.le_of_ble_eq_true rfl⟩) hE hP hD hS hA [11, 22] rfl rfl [F 11, F 22] (fun _ => rfl) rfl (fun (u_17 : Unit) => (wF cA F a c (up g2 t (nI (keyA a i))))) (fun _ => rfl) X0.blind (fun _ _ _ => trivial) 11 2 rfl rfl rfl hl.1 rfl rfl (Nat.le_of_ble_eq_true rfl) dX1_lineUp_109 ⟨Nat.zero_le _, Nat.zero_le _⟩ (fun u_17 H locs h_18 hP hD hS => ?_)
                    refine lv_iinc (v := nI (((sortN a i).1) + 1)) (lv' := [(1, .int (nI (((sortN a i).1) + 1))), (5, .int (nI t)), (4, .int (nI (keyA a i))), (2, .int (nI i)), (0, .ref (F 0))]) hx hb dX1_lineUp_112 hl (k := 3) rfl (nI_add ((sortN a i).1) 1) (by decide) rfl (fun ls hl => ?_)
                    refine lv_iinc (v := nI (i + 1)) (lv' := [(2, .int (nI (i + 1))), (1, .int (nI (((sortN a i).1) + 1))), (5, .int (nI t)), (4, .int (nI (keyA a i))), (0, .ref (F 0))]) hx hb dX1_lineUp_115 hl (k := 3) rfl (nI_add i 1) (by decide) rfl (fun ls hl => ?_)
                    refine lv_goto (tgt := 4) hx hb dX1_lineUp_118 (by decide) ?_
                    have e9 := sort_in (a := a) (i := i) h0
                    have e1 : (sortN a i).1 + 1 = (sortN a (i + 1)).1 := by rw [e9]
                    have e2 : insO (aheadA a i) i (sortN a i).1 (sortN a i).2 = (sortN a (i + 1)).2 := by rw [e9]
                    rw [e1] at hl
                    rw [e1, e2] at hq9
                    exact ih4 (i + 1) (up g2 t (nI (keyA a i))) (by omega) (hq9) (by omega) H locs hP hD hS ls (lv_sub hl [0, 1, 4] rfl)
                  · skip
                    have c72 := (not_congr (nI_leI (a := keyA a (o (t - 1))) (b := keyA a i) (by omega) (by omega))).mp c72
                    have hah : aheadA a i (o (t - 1)) = true := (key_lt ⟨w5 h0, w2, by omega⟩ hv1).mp (by omega)
                    refine lv_aload_n hx hb dX1_lineUp_75 rfl (lv_at hl 4 rfl) ?_
                    refine va_get (D := D) (ci := 1) (v := .ref (F 11)) (C := RX1) (T := TX1) (N := 13) hx hb hts inX1 hown hE.1 hP 0 rfl rfl 10 (by decide) kf47 (fun _ h9 => h9) rfl dX1_lineUp_76 ?_
                    refine lv_iload hx hb dX1_lineUp_79 (lv_at hl 0 rfl) ?_
                    refine lv_aload_n hx hb dX1_lineUp_81 rfl (lv_at hl 4 rfl) ?_
                    refine va_get (D := D) (ci := 1) (v := .ref (F 11)) (C := RX1) (T := TX1) (N := 13) hx hb hts inX1 hown hE.1 hP 0 rfl rfl 10 (by decide) kf47 (fun _ h9 => h9) rfl dX1_lineUp_82 ?_
                    refine lv_iload hx hb dX1_lineUp_85 (lv_at hl 0 rfl) ?_
                    refine lv_iconst (v := 1) hx hb dX1_lineUp_87 (by decide) ?_
                    refine lv_isub hx hb dX1_lineUp_88 ?_
                    refine top_i (y := nI (t - 1)) (pk_sub (a := t) (b := 1) (by omega)) ?_
                    refine pVi (As := [.int (nI (t - 1))]) (rest := [.int (nI t), .ref (F 11)]) (wc := (wR cA (F 11) (F 22) 41 g2)) ⟨hx, hb, hml, hown, hts⟩ (K_X2_getk lch D cA (F 11) (F 22) 41 g2 (t - 1) (g2 (t - 1)) H.size (by omega) (Nat.le_of_ble_eq_true rfl) (rfl)) (cwV 1 hts gX1_lineUp_X2_get rfl rfl rfl (by decide +kernel) ⟨Nat.le_of_ble_eq_true rfl, Nat.le_of_ble_eq_true rfl⟩) hE hP hD hS hA [11, 22] rfl rfl X0.blind (fun _ _ _ => trivial) 11 2 rfl rfl rfl hl.1 rfl rfl (Nat.le_of_ble_eq_true rfl) dX1_lineUp_89 ⟨Nat.zero_le _, Nat.zero_le _⟩ (fun r_19 u_20 H locs h_21 hP hS => ?_)
                    subst h_21
                    refine cVv (As := [.int (nI t), .int (g2 (t - 1))]) (rest := []) (wc := (wR cA (F 11) (F 22) 41 g2)) ⟨hx, hb, hml, hown, hts⟩ (K_X2_putk lch D cA (F 11) (F 22) 41 g2 t (g2 (t - 1)) (up g2 t (g2 (t - 1))) H.size (by omega) (Nat.le_of_ble_eq_true rfl) (fun j _ => upd_I j)) (cwV 2 hts gX1_lineUp_X2_put rfl rfl rfl (by decide +kernel) ⟨Nat.le_of_ble_eq_true rfl, Nat.le_of_ble_eq_true rfl⟩) hE hP hD hS hA [11, 22] rfl rfl [F 11, F 22] (fun _ => rfl) rfl (fun (u_23 : Unit) => (wF cA F a c (up g2 t (g2 (t - 1))))) (fun _ => rfl) X0.blind (fun _ _ _ => trivial) 11 2 rfl rfl rfl hl.1 rfl rfl (Nat.le_of_ble_eq_true rfl) dX1_lineUp_92 ⟨Nat.zero_le _, Nat.zero_le _⟩ (fun u_23 H locs h_24 hP hD hS => ?_)
                    refine lv_iinc (v := nI (t - 1)) (lv' := [(5, .int (nI (t - 1))), (4, .int (nI (keyA a i))), (2, .int (nI i)), (1, .int (nI ((sortN a i).1))), (0, .ref (F 0))]) hx hb dX1_lineUp_95 hl (k := 0) rfl (dec_nI t (by omega)) (by decide) rfl (fun ls hl => ?_)
                    refine lv_goto (tgt := 54) hx hb dX1_lineUp_98 (by decide) ?_
                    have hst := shift_go (P := aheadA a i) (t := t - 1) (g := o) hah
                    rw [show t - 1 + 1 = t by omega] at hst
                    have hqs := QH_step (m := (sortN a i).1) (t := t - 1) (by omega) (by rw [show t - 1 + 1 = t by omega]; exact hqh)
                    rw [show t - 1 + 1 = t by omega] at hqs
                    exact ih54 (t - 1) (up o t (o (t - 1))) (up g2 t (g2 (t - 1))) (by omega) (hs.trans hst) (hqs) (by omega) H locs hP hD hS ls (lv_sub hl [0, 1, 2, 3, 4] rfl)
            exact L54 ((sortN a i).1 + 1) ((sortN a i).1) ((sortN a i).2) g (Nat.le_refl _) (rfl) (QH_start hq) (by omega) H locs hP hD hS ls (lv_sub hl [0, 1, 3, 4, 5] rfl)
    exact L4 (qN a + 1) 0 q (Nat.zero_le _) (fun j hj => absurd hj (Nat.not_lt_zero j)) (by omega) H locs hP hD hS ls (lv_sub hl [0, 1, 2] rfl)
  rw [hg1, hg2] at hgoal
  exact hgoal
end
section
set_option maxHeartbeats 4000000 in
set_option maxRecDepth 100000 in
/-- drift -/
theorem K_X1_drift (lch : Launch) (D : va_G) (cA : ClassId) (F : Nat → Nat) (a : FSt) (c : Nat → Int32) (q : Nat → Int32) (B : Nat → Nat) (b : BSt) (i : Nat) (sz : Nat) (hi : i < qN a) (hw1 : WFa a) (hwb : WFb b) (hcr : CRa a c) : Met lch yX1_drift wsX1_drift ({ frames := 3, cells := 0, slots := 0, locals := 68 }) (Pr D cA [.ref (F 0), .int (nI i), .ref (B 0)] sz ((wF cA F a c q) ++ (wB cA B b)) X0) (va_Qv (fun (u : Nat → Int32) => CRa (driftA b a i) u) (fun (u : Nat → Int32) t => va_P D vwCl ((wF cA F (driftA b a i) u q) ++ (wB cA B b)) t.heap) (va_A ((wF cA F a c q) ++ (wB cA B b)) sz)) 0 0 (va_A ((wF cA F a c q) ++ (wB cA B b)) sz) := by
  refine Met.ofW (cc := cX1_drift) (maxL := 7) (ret := none) (by decide) rfl ?_
  intro pg ev s mi args below meth cd s₁ B hml hv
  obtain ⟨hav, hsz, hP, hE, hD, hXs⟩ := hv
  have hx := B.exec
  have hb := B.bytes
  have hr := B.returns
  have hts := atoms_spec (ws := wsX1_drift) B.pre
  have hown : s.vm.findClass RX1 = some mi.cls := findClass_of_methodNamed B.named
  have hlocks := B.notSynchronized
  clear B
  subst hav
  subst hsz
  have hD := hD.self (sz := s.heap.size)
  generalize hAe : va_A ((wF cA F a c q) ++ (wB cA B b)) s.heap.size = A at hD ⊢
  have hA : ∀ q : Nat, s.heap.size ≤ q → A q := fun q h => by rw [← hAe]; exact Or.inr h
  have hS : va_S A s.heap s.heap [] := va_S.rf
  obtain ⟨QQ, hQQ⟩ : ∃ qq9, qq9 = MQ below (va_Qv (fun (u : Nat → Int32) => CRa (driftA b a i) u) (fun (u : Nat → Int32) t => va_P D vwCl ((wF cA F (driftA b a i) u q) ++ (wB cA B b)) t.heap) A) ([.ref (F 0), .int (nI i), .ref (B 0)] : List Value).toArray s 0 0 A := ⟨_, rfl⟩
  rw [← hQQ]
  have hl := lv_entry ([.ref (F 0), .int (nI i), .ref (B 0)]) (n := 7) (Nat.le_of_ble_eq_true rfl)
  rw [lg_entry_eq]
  generalize (lg_sl ([.ref (F 0), .int (nI i), .ref (B 0)]) ++ List.replicate (7 - (lg_sl ([.ref (F 0), .int (nI i), .ref (B 0)])).length) Slot.unset).toArray = ls at hl ⊢
  have hl : lv_has ls 7 [(0, .ref (F 0)), (1, .int (nI i)), (2, .ref (B 0))] := hl
  have kf23 := hts (.fieldLink RX1 23 "LanternWeirs$Fleet" "lanes" "LLanternWeirs$Row;") (by decide +kernel)
  have inX1 : ∀ w ∈ u_ws RX1 TX1 13, w ∈ wsX1_drift := by decide +kernel
  have kf114 := hts (.fieldLink RX1 114 "LanternWeirs$Bed" "currents" "LLanternWeirs$Row;") (by decide +kernel)
  have inX0 : ∀ w ∈ u_ws RX0 TX0 5, w ∈ wsX1_drift := by decide +kernel
  have kf26 := hts (.fieldLink RX1 26 "LanternWeirs$Fleet" "places" "LLanternWeirs$Row;") (by decide +kernel)
  have kf129 := hts (.fieldLink RX1 129 "LanternWeirs$Bed" "sprays" "LLanternWeirs$Row;") (by decide +kernel)
  have kf35 := hts (.fieldLink RX1 35 "LanternWeirs$Fleet" "burning" "LLanternWeirs$Row;") (by decide +kernel)
  obtain ⟨H, locs, hP, hS, hgo⟩ : ∃ H locs, va_P D vwCl ((wF cA F a c q) ++ (wB cA B b)) H ∧ va_S A s.heap H locs ∧ (H = s.heap ∧ locs = []) := ⟨_, _, hP, hS, rfl, rfl⟩
  obtain ⟨hg1, hg2⟩ := hgo
  have hgoal : W pg lch ev (headSpec wsX1_drift ({ frames := 3, cells := 0, slots := 0, locals := 68 })).room s mi ([.ref (F 0), .int (nI i), .ref (B 0)] : List Value).toArray below meth cd H locs 0 0 QQ (F0 mi 0 ls []) := by
    have hn := hw1.1
    have wl2 := (hw1.2 i hi).2.1
    have hcu := hwb.1 (qLa a i) wl2
    refine lv_aload_n hx hb dX1_drift_0 rfl (lv_at hl 0 rfl) ?_
    refine va_get (D := D) (ci := 1) (v := .ref (F 3)) (C := RX1) (T := TX1) (N := 13) hx hb hts inX1 hown hE.1 hP 0 rfl rfl 2 (by decide) kf23 (fun _ h9 => h9) rfl dX1_drift_1 ?_
    refine lv_iload_n hx hb dX1_drift_4 rfl (lv_at hl 1 rfl) ?_
    refine pVi (As := [.int (nI i)]) (rest := []) (wc := (wR cA (F 3) (F 14) 41 (fun z9 => nI (qLa a z9)))) ⟨hx, hb, hml, hown, hts⟩ (K_X2_getk lch D cA (F 3) (F 14) 41 (fun z9 => nI (qLa a z9)) i (nI (qLa a i)) H.size (by first | omega | (have := hw2.1; omega)) (Nat.le_of_ble_eq_true rfl) (rfl)) (cwV 1 hts gX1_drift_X2_get rfl rfl rfl (by decide +kernel) ⟨Nat.le_of_ble_eq_true rfl, Nat.le_of_ble_eq_true rfl⟩) hE hP hD hS hA [3, 14] rfl rfl X0.blind (fun _ _ _ => trivial) 3 2 rfl rfl rfl hl.1 rfl rfl (Nat.le_of_ble_eq_true rfl) dX1_drift_5 ⟨Nat.zero_le _, Nat.zero_le _⟩ (fun r_1 u_2 H locs h_3 hP hS => ?_)
    subst h_3
    refine lv_istore_n (lv' := [(3, .int (nI (qLa a i))), (0, .ref (F 0)), (1, .int (nI i)), (2, .ref (B 0))]) hx hb dX1_drift_8 rfl hl (by decide) rfl (fun ls hl => ?_)
    refine lv_aload_n hx hb dX1_drift_9 rfl (lv_at hl 3 rfl) ?_
    refine va_get (D := D) (ci := 0) (v := .ref (B 1)) (C := RX0) (T := TX0) (N := 5) hx hb hts inX0 hown hE.1 hP 23 rfl rfl 0 (by decide) kf114 (fun _ h9 => h9) rfl dX1_drift_10 ?_
    refine lv_iload_n hx hb dX1_drift_13 rfl (lv_at hl 0 rfl) ?_
    refine pVi (As := [.int (nI (qLa a i))]) (rest := []) (wc := (wR cA (B 1) (B 4) 3 (fun z9 => nI (bCu b z9)))) ⟨hx, hb, hml, hown, hts⟩ (K_X2_getk lch D cA (B 1) (B 4) 3 (fun z9 => nI (bCu b z9)) (qLa a i) (nI (bCu b (qLa a i))) H.size (by first | omega | (have := hw2.1; omega)) (Nat.le_of_ble_eq_true rfl) (rfl)) (cwV 1 hts gX1_drift_X2_get rfl rfl rfl (by decide +kernel) ⟨Nat.le_of_ble_eq_true rfl, Nat.le_of_ble_eq_true rfl⟩) hE hP hD hS hA [24, 27] rfl rfl X0.blind (fun _ _ _ => trivial) 24 2 rfl rfl rfl hl.1 rfl rfl (Nat.le_of_ble_eq_true rfl) dX1_drift_14 ⟨Nat.zero_le _, Nat.zero_le _⟩ (fun r_4 u_5 H locs h_6 hP hS => ?_)
    subst h_6
    refine lv_istore (lv' := [(4, .int (nI (bCu b (qLa a i)))), (3, .int (nI (qLa a i))), (0, .ref (F 0)), (1, .int (nI i)), (2, .ref (B 0))]) hx hb dX1_drift_17 hl (by decide) rfl (fun ls hl => ?_)
    refine lv_iconst (v := 0) hx hb dX1_drift_19 (by decide) ?_
    refine lv_istore (lv' := [(5, .int 0), (4, .int (nI (bCu b (qLa a i)))), (3, .int (nI (qLa a i))), (0, .ref (F 0)), (1, .int (nI i)), (2, .ref (B 0))]) hx hb dX1_drift_20 hl (by decide) rfl (fun ls hl => ?_)
    have L22 : ∀ (fu22 : Nat) (t : Nat) (a1 : FSt) (c1 : Nat → Int32), (t ≤ bCu b (qLa a i)) → (driftN b (bCu b (qLa a i) - t) a1 i = driftA b a i) → (WFa a1) → (CRa a1 c1) → (qN a1 = qN a) → (qLa a1 i = qLa a i) → bCu b (qLa a i) - t < fu22 → ∀ (H : Heap) (locs : List Loc), va_P D vwCl ((wF cA F a1 c1 q) ++ (wB cA B b)) H → va_D A ((wF cA F a1 c1 q) ++ (wB cA B b)) → va_S A s.heap H locs → ∀ ls : Array Slot, lv_has ls 7 [(5, .int (nI t)), (4, .int (nI (bCu b (qLa a i)))), (3, .int (nI (qLa a i))), (0, .ref (F 0)), (1, .int (nI i)), (2, .ref (B 0))] → W pg lch ev (headSpec wsX1_drift ({ frames := 3, cells := 0, slots := 0, locals := 68 })).room s mi ([.ref (F 0), .int (nI i), .ref (B 0)] : List Value).toArray below meth cd H locs 0 0 QQ (F0 mi 22 ls []) := by
      intro fu22
      induction fu22 with
      | zero => intro t a1 c1 ht hd hw2 hc1 hN hL hms; exact absurd hms (Nat.not_lt_zero _)
      | succ fu22 ih22 =>
        intro t a1 c1 ht hd hw2 hc1 hN hL hms22 H locs hP hD hS ls hl
        have hk1 : i < qN a1 := by rw [hN]; exact hi
        obtain ⟨w1, w2, w3, w4, w5, w6, w7, w8⟩ := hw2.2 i hk1
        refine lv_iload hx hb dX1_drift_22 (lv_at hl 0 rfl) ?_
        refine lv_iload hx hb dX1_drift_24 (lv_at hl 1 rfl) ?_
        refine lv_icmp_ge (tgt := 126) hx hb dX1_drift_26 (by decide) (fun c26 => ?_) (fun c26 => ?_)
        · skip
          have c26 := (nI_leI (a := bCu b (qLa a i)) (b := t) (by omega) (by omega)).mp c26
          have ed : driftA b a i = a1 := by rw [← hd, show bCu b (qLa a i) - t = 0 by omega]; rfl
          have hP : va_P D vwCl ((wF cA F (driftA b a i) c1 q) ++ (wB cA B b)) H := by rw [ed]; exact hP
          rw [hQQ]
          exact W.vret hx hb hr (fun t ht hW => ⟨⟨c1, rfl, by rw [ed]; exact hc1, by show va_P _ _ _ t.heap; rw [ht]; exact hP⟩, hS.F ht⟩) hS.2.2 dX1_drift_126
        · skip
          have c26 := (not_congr (nI_leI (a := bCu b (qLa a i)) (b := t) (by omega) (by omega))).mp c26
          refine lv_aload_n hx hb dX1_drift_29 rfl (lv_at hl 3 rfl) ?_
          refine lv_iload_n hx hb dX1_drift_30 rfl (lv_at hl 4 rfl) ?_
          refine pVi (As := [.int (nI i)]) (rest := []) (wc := (wF cA F a1 c1 q)) ⟨hx, hb, hml, hown, hts⟩ (K_X1_isAfloat lch D cA F a1 c1 q i H.size (hk1) (hw2.1) (w4)) (cwV 1 hts gX1_drift_X1_isAfloat rfl rfl rfl (by decide +kernel) ⟨Nat.le_of_ble_eq_true rfl, Nat.le_of_ble_eq_true rfl⟩) hE hP hD hS hA [0, 1, 2, 3, 4, 5, 6, 7, 8, 9, 10, 11, 12, 13, 14, 15, 16, 17, 18, 19, 20, 21, 22] rfl rfl X0.blind (fun _ _ _ => trivial) 0 1 rfl rfl rfl hl.1 rfl rfl (Nat.le_of_ble_eq_true rfl) dX1_drift_31 ⟨Nat.zero_le _, Nat.zero_le _⟩ (fun r_7 u_8 H locs h_9 hP hS => ?_)
          subst h_9
          refine lv_if_eq (tgt := 126) hx hb dX1_drift_34 (by decide) (fun c34 => ?_) (fun c34 => ?_)
          · skip
            have c34 := bi_0.mp c34
            have ed : driftA b a i = a1 := hd.symm.trans (drift_stop (Or.inl (by simpa using c34)) _)
            have hP : va_P D vwCl ((wF cA F (driftA b a i) c1 q) ++ (wB cA B b)) H := by rw [ed]; exact hP
            rw [hQQ]
            exact W.vret hx hb hr (fun t ht hW => ⟨⟨c1, rfl, by rw [ed]; exact hc1, by show va_P _ _ _ t.heap; rw [ht]; exact hP⟩, hS.F ht⟩) hS.2.2 dX1_drift_126
          · skip
            have c34 := bi_1.mp c34
            have hst : qSt a1 i = 0 := by simpa using c34
            have h59 := w5 hst
            refine lv_aload_n hx hb dX1_drift_37 rfl (lv_at hl 3 rfl) ?_
            refine lv_iload_n hx hb dX1_drift_38 rfl (lv_at hl 4 rfl) ?_
            refine pVi (As := [.int (nI i)]) (rest := []) (wc := (wF cA F a1 c1 q)) ⟨hx, hb, hml, hown, hts⟩ (K_X1_catchesAhead lch D cA F a1 c1 q i H.size (hk1) (hw2) (hc1)) (cwV 1 hts gX1_drift_X1_catchesAhead rfl rfl rfl (by decide +kernel) ⟨Nat.le_of_ble_eq_true rfl, Nat.le_of_ble_eq_true rfl⟩) hE hP hD hS hA [0, 1, 2, 3, 4, 5, 6, 7, 8, 9, 10, 11, 12, 13, 14, 15, 16, 17, 18, 19, 20, 21, 22] rfl rfl X0.blind (fun _ _ _ => trivial) 0 1 rfl rfl rfl hl.1 rfl rfl (Nat.le_of_ble_eq_true rfl) dX1_drift_39 ⟨Nat.zero_le _, Nat.zero_le _⟩ (fun r_10 u_11 H locs h_12 hP hS => ?_)
            subst h_12
            refine lv_if_ne (tgt := 126) hx hb dX1_drift_42 (by decide) (fun c42 => ?_) (fun c42 => ?_)
            · skip
              have c42 := bi_1.mp c42
              have ed : driftA b a i = a1 := hd.symm.trans (drift_stop (Or.inr c42) _)
              have hP : va_P D vwCl ((wF cA F (driftA b a i) c1 q) ++ (wB cA B b)) H := by rw [ed]; exact hP
              rw [hQQ]
              exact W.vret hx hb hr (fun t ht hW => ⟨⟨c1, rfl, by rw [ed]; exact hc1, by show va_P _ _ _ t.heap; rw [ht]; exact hP⟩, hS.F ht⟩) hS.2.2 dX1_drift_126
            · skip
              have c42 := bi_0.mp c42
              refine lv_aload_n hx hb dX1_drift_45 rfl (lv_at hl 3 rfl) ?_
              refine va_get (D := D) (ci := 1) (v := .ref (F 4)) (C := RX1) (T := TX1) (N := 13) hx hb hts inX1 hown hE.1 hP 0 rfl rfl 3 (by decide) kf26 (fun _ h9 => h9) rfl dX1_drift_46 ?_
              refine lv_iload_n hx hb dX1_drift_49 rfl (lv_at hl 4 rfl) ?_
              refine pVi (As := [.int (nI i)]) (rest := []) (wc := (wR cA (F 4) (F 15) 41 (fun z9 => nI (qPl a1 z9)))) ⟨hx, hb, hml, hown, hts⟩ (K_X2_getk lch D cA (F 4) (F 15) 41 (fun z9 => nI (qPl a1 z9)) i (nI (qPl a1 i)) H.size (by first | omega | (have := hw2.1; omega)) (Nat.le_of_ble_eq_true rfl) (rfl)) (cwV 1 hts gX1_drift_X2_get rfl rfl rfl (by decide +kernel) ⟨Nat.le_of_ble_eq_true rfl, Nat.le_of_ble_eq_true rfl⟩) hE hP hD hS hA [4, 15] rfl rfl X0.blind (fun _ _ _ => trivial) 4 2 rfl rfl rfl hl.1 rfl rfl (Nat.le_of_ble_eq_true rfl) dX1_drift_50 ⟨Nat.zero_le _, Nat.zero_le _⟩ (fun r_13 u_14 H locs h_15 hP hS => ?_)
              subst h_15
              refine lv_iconst (v := 1) hx hb dX1_drift_53 (by decide) ?_
              refine lv_iadd hx hb dX1_drift_54 ?_
              refine top_i (y := nI ((qPl a1 i) + 1)) (nI_add _ _) ?_
              refine lv_istore (lv' := [(6, .int (nI ((qPl a1 i) + 1))), (5, .int (nI t)), (4, .int (nI (bCu b (qLa a i)))), (3, .int (nI (qLa a i))), (0, .ref (F 0)), (1, .int (nI i)), (2, .ref (B 0))]) hx hb dX1_drift_55 hl (by decide) rfl (fun ls hl => ?_)
              refine lv_aload_n hx hb dX1_drift_57 rfl (lv_at hl 4 rfl) ?_
              refine lv_iload_n hx hb dX1_drift_58 rfl (lv_at hl 5 rfl) ?_
              refine lv_iload_n hx hb dX1_drift_59 rfl (lv_at hl 3 rfl) ?_
              refine lv_iload hx hb dX1_drift_60 (lv_at hl 0 rfl) ?_
              refine cVv (wB := fun (u_17 : Unit) => (wF cA F (mvA a1 i (qLa a i) ((qPl a1 i) + 1)) (cby (mvA a1 i (qLa a i) ((qPl a1 i) + 1)) (cby a1 c1 i (-1)) i 1) q)) (As := [.int (nI i), .int (nI (qLa a i)), .int (nI ((qPl a1 i) + 1))]) (rest := []) (wc := (wF cA F a1 c1 q)) ⟨hx, hb, hml, hown, hts⟩ (K_X1_moveTo lch D cA F a1 c1 q i (qLa a i) ((qPl a1 i) + 1) H.size (by have := hw2.1; omega) (w3) (by omega)) (cwV 3 hts gX1_drift_X1_moveTo rfl rfl rfl (by decide +kernel) ⟨Nat.le_of_ble_eq_true rfl, Nat.le_of_ble_eq_true rfl⟩) hE hP hD hS hA [0, 1, 2, 3, 4, 5, 6, 7, 8, 9, 10, 11, 12, 13, 14, 15, 16, 17, 18, 19, 20, 21, 22] rfl rfl [F 0, F 1, F 2, F 3, F 4, F 5, F 6, F 7, F 8, F 9, F 10, F 11, F 12, F 13, F 14, F 15, F 16, F 17, F 18, F 19, F 20, F 21, F 22] (fun _ => rfl) rfl (fun (u_17 : Unit) => ((wF cA F (mvA a1 i (qLa a i) ((qPl a1 i) + 1)) (cby (mvA a1 i (qLa a i) ((qPl a1 i) + 1)) (cby a1 c1 i (-1)) i 1) q) ++ (wB cA B b))) (fun _ => pst_blk [] (wB cA B b) (wc := (wF cA F a1 c1 q)) 23 0 rfl rfl rfl rfl rfl rfl) X0.blind (fun _ _ _ => trivial) 0 1 rfl rfl rfl hl.1 rfl rfl (Nat.le_of_ble_eq_true rfl) dX1_drift_62 ⟨Nat.zero_le _, Nat.zero_le _⟩ (fun u_17 H locs h_18 hP hD hS => ?_)
              have em : mvA a1 i (qLa a i) (qPl a1 i + 1) = movA a1 i := by rw [← hL]; exact mv_mov a1 i
              have hc2 : CRa (movA a1 i) (cby (movA a1 i) (cby a1 c1 i (-1)) i 1) := by have h9 := CR_move (l := qLa a i) (p := qPl a1 i + 1) hc1 ⟨by rw [hL]; exact wl2, w1⟩ hk1 hst wl2; rw [em] at h9; exact h9
              rw [em] at hP hD
              refine lv_iload hx hb dX1_drift_65 (lv_at hl 0 rfl) ?_
              refine lv_bipush (v := 60) hx hb dX1_drift_67 (by decide) ?_
              refine lv_icmp_lt (tgt := 90) hx hb dX1_drift_69 (by decide) (fun c69 => ?_) (fun c69 => ?_)
              · skip
                have c69 := (nI_ltI (a := (qPl a1 i) + 1) (b := 60) (by omega) (by omega)).mp c69
                refine lv_aload_n hx hb dX1_drift_90 rfl (lv_at hl 4 rfl) ?_
                refine lv_iload_n hx hb dX1_drift_91 rfl (lv_at hl 5 rfl) ?_
                refine lv_aload_n hx hb dX1_drift_92 rfl (lv_at hl 6 rfl) ?_
                refine va_get (D := D) (ci := 0) (v := .ref (B 2)) (C := RX0) (T := TX0) (N := 5) hx hb hts inX0 hown hE.1 hP 23 rfl rfl 1 (by decide) kf129 (fun _ h9 => h9) rfl dX1_drift_93 ?_
                refine lv_iload hx hb dX1_drift_96 (lv_at hl 0 rfl) ?_
                refine pVi (As := [.int (nI ((qPl a1 i) + 1))]) (rest := [.int (nI i), .ref (F 0)]) (wc := (wR cA (B 2) (B 5) 60 (bSp b))) ⟨hx, hb, hml, hown, hts⟩ (K_X2_getk lch D cA (B 2) (B 5) 60 (bSp b) ((qPl a1 i) + 1) (bSp b ((qPl a1 i) + 1)) H.size (by first | omega | (have := hw2.1; omega)) (Nat.le_of_ble_eq_true rfl) (rfl)) (cwV 1 hts gX1_drift_X2_get rfl rfl rfl (by decide +kernel) ⟨Nat.le_of_ble_eq_true rfl, Nat.le_of_ble_eq_true rfl⟩) hE hP hD hS hA [25, 28] rfl rfl X0.blind (fun _ _ _ => trivial) 25 2 rfl rfl rfl hl.1 rfl rfl (Nat.le_of_ble_eq_true rfl) dX1_drift_98 ⟨Nat.zero_le _, Nat.zero_le _⟩ (fun r_19 u_20 H locs h_21 hP hS => ?_)
                subst h_21
                refine cVv (wB := fun (u_23 : Unit) => (wF cA F (metA (bSp b ((qPl a1 i) + 1)) (movA a1 i) i) ((cby (movA a1 i) (cby a1 c1 i (-1)) i 1)) q)) (As := [.int (nI i), .int (bSp b ((qPl a1 i) + 1))]) (rest := []) (wc := (wF cA F (movA a1 i) ((cby (movA a1 i) (cby a1 c1 i (-1)) i 1)) q)) ⟨hx, hb, hml, hown, hts⟩ (K_X1_meetWeir lch D cA F (movA a1 i) ((cby (movA a1 i) (cby a1 c1 i (-1)) i 1)) q i (bSp b ((qPl a1 i) + 1)) H.size (hk1) (WFa_mov (k := i) hw2 (by omega)) (hc2)) (cwV 2 hts gX1_drift_X1_meetWeir rfl rfl rfl (by decide +kernel) ⟨Nat.le_of_ble_eq_true rfl, Nat.le_of_ble_eq_true rfl⟩) hE hP hD hS hA [0, 1, 2, 3, 4, 5, 6, 7, 8, 9, 10, 11, 12, 13, 14, 15, 16, 17, 18, 19, 20, 21, 22] rfl rfl [F 0, F 1, F 2, F 3, F 4, F 5, F 6, F 7, F 8, F 9, F 10, F 11, F 12, F 13, F 14, F 15, F 16, F 17, F 18, F 19, F 20, F 21, F 22] (fun _ => rfl) rfl (fun (u_23 : Unit) => ((wF cA F (metA (bSp b ((qPl a1 i) + 1)) (movA a1 i) i) ((cby (movA a1 i) (cby a1 c1 i (-1)) i 1)) q) ++ (wB cA B b))) (fun _ => pst_blk [] (wB cA B b) (wc := (wF cA F (movA a1 i) ((cby (movA a1 i) (cby a1 c1 i (-1)) i 1)) q)) 23 0 rfl rfl rfl rfl rfl rfl) X0.blind (fun _ _ _ => trivial) 0 1 rfl rfl rfl hl.1 rfl rfl (Nat.le_of_ble_eq_true rfl) dX1_drift_101 ⟨Nat.zero_le _, Nat.zero_le _⟩ (fun u_23 H locs h_24 hP hD hS => ?_)
                obtain ⟨m1, m2, m3, m4, m5, m6, m7⟩ := met_same (bSp b (qPl a1 i + 1)) (movA a1 i) i
                have hc3 : CRa (metA (bSp b (qPl a1 i + 1)) (movA a1 i) i) (cby (movA a1 i) (cby a1 c1 i (-1)) i 1) := CRa_same hc2 m1 m2 m3 m4 m5
                refine lv_aload_n hx hb dX1_drift_104 rfl (lv_at hl 6 rfl) ?_
                refine lv_iload_n hx hb dX1_drift_105 rfl (lv_at hl 3 rfl) ?_
                refine lv_iload hx hb dX1_drift_106 (lv_at hl 0 rfl) ?_
                refine pVi (As := [.int (nI (qLa a i)), .int (nI ((qPl a1 i) + 1))]) (rest := []) (wc := (wB cA B b)) ⟨hx, hb, hml, hown, hts⟩ (K_X0_hasNet lch D cA B b (qLa a i) ((qPl a1 i) + 1) H.size (wl2) (by omega)) (cwV 2 hts gX1_drift_X0_hasNet rfl rfl rfl (by decide +kernel) ⟨Nat.le_of_ble_eq_true rfl, Nat.le_of_ble_eq_true rfl⟩) hE hP hD hS hA [23, 24, 25, 26, 27, 28, 29] rfl rfl X0.blind (fun _ _ _ => trivial) 23 0 rfl rfl rfl hl.1 rfl rfl (Nat.le_of_ble_eq_true rfl) dX1_drift_108 ⟨Nat.zero_le _, Nat.zero_le _⟩ (fun r_25 u_26 H locs h_27 hP hS => ?_)
                subst h_27
                refine lv_if_eq (tgt := 120) hx hb dX1_drift_111 (by decide) (fun c111 => ?_) (fun c111 => ?_)
                · skip
                  have c111 := bi_0.mp c111
                  refine lv_iinc (v := nI (t + 1)) (lv' := [(5, .int (nI (t + 1))), (6, .int (nI ((qPl a1 i) + 1))), (4, .int (nI (bCu b (qLa a i)))), (3, .int (nI (qLa a i))), (0, .ref (F 0)), (1, .int (nI i)), (2, .ref (B 0))]) hx hb dX1_drift_120 hl (k := 1) rfl (nI_add t 1) (by decide) rfl (fun ls hl => ?_)
                  refine lv_goto (tgt := 22) hx hb dX1_drift_123 (by decide) ?_
                  have h60 : ¬ qPl a1 i + 1 = 60 := by omega
                  have e8 : stepA b a1 i = (metA (bSp b (qPl a1 i + 1)) (movA a1 i) i) := by rw [step_on h60]; exact net_no _ (by rw [hL]; exact c111)
                  have hP : va_P D vwCl ((wF cA F (stepA b a1 i) ((cby (movA a1 i) (cby a1 c1 i (-1)) i 1)) q) ++ (wB cA B b)) H := by rw [e8]; exact hP
                  have hD : va_D A ((wF cA F (stepA b a1 i) ((cby (movA a1 i) (cby a1 c1 i (-1)) i 1)) q) ++ (wB cA B b)) := by rw [e8]; exact hD
                  have hc4 : CRa (stepA b a1 i) (cby (movA a1 i) (cby a1 c1 i (-1)) i 1) := by rw [e8]; exact hc3
                  obtain ⟨k1, k2, k3, k4, k5⟩ := step_keep (b := b) hw2 hk1 hst
                  have hdn := drift_go (b := b) (k := i) (n := bCu b (qLa a i) - (t + 1)) (a := a1) hst c42
                  rw [show bCu b (qLa a i) - (t + 1) + 1 = bCu b (qLa a i) - t by omega, hd] at hdn
                  exact ih22 (t + 1) (stepA b a1 i) ((cby (movA a1 i) (cby a1 c1 i (-1)) i 1)) (by omega) (hdn.symm) (k1) (hc4) (k2.trans hN) (by rw [k3]; exact hL) (by omega) H locs hP hD hS ls (lv_sub hl [0, 2, 3, 4, 5, 6] rfl)
                · skip
                  have c111 := bi_1.mp c111
                  refine lv_aload_n hx hb dX1_drift_114 rfl (lv_at hl 4 rfl) ?_
                  refine lv_iload_n hx hb dX1_drift_115 rfl (lv_at hl 5 rfl) ?_
                  refine lv_iconst (v := 1) hx hb dX1_drift_116 (by decide) ?_
                  refine cVv (wB := fun (u_29 : Unit) => (wF cA F (endA (metA (bSp b ((qPl a1 i) + 1)) (movA a1 i) i) i 1) (cby (metA (bSp b ((qPl a1 i) + 1)) (movA a1 i) i) ((cby (movA a1 i) (cby a1 c1 i (-1)) i 1)) i (-1)) q)) (As := [.int (nI i), .int 1]) (rest := []) (wc := (wF cA F (metA (bSp b ((qPl a1 i) + 1)) (movA a1 i) i) ((cby (movA a1 i) (cby a1 c1 i (-1)) i 1)) q)) ⟨hx, hb, hml, hown, hts⟩ (K_X1_leave lch D cA F (metA (bSp b ((qPl a1 i) + 1)) (movA a1 i) i) ((cby (movA a1 i) (cby a1 c1 i (-1)) i 1)) q i 1 H.size (by have := hw2.1; omega) (by rw [m4, mov_at]; omega)) (cwV 2 hts gX1_drift_X1_leave rfl rfl rfl (by decide +kernel) ⟨Nat.le_of_ble_eq_true rfl, Nat.le_of_ble_eq_true rfl⟩) hE hP hD hS hA [0, 1, 2, 3, 4, 5, 6, 7, 8, 9, 10, 11, 12, 13, 14, 15, 16, 17, 18, 19, 20, 21, 22] rfl rfl [F 0, F 1, F 2, F 3, F 4, F 5, F 6, F 7, F 8, F 9, F 10, F 11, F 12, F 13, F 14, F 15, F 16, F 17, F 18, F 19, F 20, F 21, F 22] (fun _ => rfl) rfl (fun (u_29 : Unit) => ((wF cA F (endA (metA (bSp b ((qPl a1 i) + 1)) (movA a1 i) i) i 1) (cby (metA (bSp b ((qPl a1 i) + 1)) (movA a1 i) i) ((cby (movA a1 i) (cby a1 c1 i (-1)) i 1)) i (-1)) q) ++ (wB cA B b))) (fun _ => pst_blk [] (wB cA B b) (wc := (wF cA F (metA (bSp b ((qPl a1 i) + 1)) (movA a1 i) i) ((cby (movA a1 i) (cby a1 c1 i (-1)) i 1)) q)) 23 0 rfl rfl rfl rfl rfl rfl) X0.blind (fun _ _ _ => trivial) 0 1 rfl rfl rfl hl.1 rfl rfl (Nat.le_of_ble_eq_true rfl) dX1_drift_117 ⟨Nat.zero_le _, Nat.zero_le _⟩ (fun u_29 H locs h_30 hP hD hS => ?_)
                  refine lv_iinc (v := nI (t + 1)) (lv' := [(5, .int (nI (t + 1))), (6, .int (nI ((qPl a1 i) + 1))), (4, .int (nI (bCu b (qLa a i)))), (3, .int (nI (qLa a i))), (0, .ref (F 0)), (1, .int (nI i)), (2, .ref (B 0))]) hx hb dX1_drift_120 hl (k := 1) rfl (nI_add t 1) (by decide) rfl (fun ls hl => ?_)
                  refine lv_goto (tgt := 22) hx hb dX1_drift_123 (by decide) ?_
                  have h60 : ¬ qPl a1 i + 1 = 60 := by omega
                  have e8 : stepA b a1 i = endA (metA (bSp b (qPl a1 i + 1)) (movA a1 i) i) i 1 := by rw [step_on h60]; exact net_at _ (by rw [hL]; exact c111)
                  have hP : va_P D vwCl ((wF cA F (stepA b a1 i) ((cby (metA (bSp b (qPl a1 i + 1)) (movA a1 i) i) (cby (movA a1 i) (cby a1 c1 i (-1)) i 1) i (-1))) q) ++ (wB cA B b)) H := by rw [e8]; exact hP
                  have hD : va_D A ((wF cA F (stepA b a1 i) ((cby (metA (bSp b (qPl a1 i + 1)) (movA a1 i) i) (cby (movA a1 i) (cby a1 c1 i (-1)) i 1) i (-1))) q) ++ (wB cA B b)) := by rw [e8]; exact hD
                  have hc4 : CRa (stepA b a1 i) (cby (metA (bSp b (qPl a1 i + 1)) (movA a1 i) i) (cby (movA a1 i) (cby a1 c1 i (-1)) i 1) i (-1)) := by rw [e8]; exact CR_leave hc3 ⟨by rw [m3]; show qLa a1 i < 3; rw [hL]; exact wl2, by rw [m2]; exact w1⟩ (by rw [m1]; exact hk1) (by rw [m5]; exact hst) (by decide)
                  obtain ⟨k1, k2, k3, k4, k5⟩ := step_keep (b := b) hw2 hk1 hst
                  have hdn := drift_go (b := b) (k := i) (n := bCu b (qLa a i) - (t + 1)) (a := a1) hst c42
                  rw [show bCu b (qLa a i) - (t + 1) + 1 = bCu b (qLa a i) - t by omega, hd] at hdn
                  exact ih22 (t + 1) (stepA b a1 i) ((cby (metA (bSp b (qPl a1 i + 1)) (movA a1 i) i) (cby (movA a1 i) (cby a1 c1 i (-1)) i 1) i (-1))) (by omega) (hdn.symm) (k1) (hc4) (k2.trans hN) (by rw [k3]; exact hL) (by omega) H locs hP hD hS ls (lv_sub hl [0, 2, 3, 4, 5, 6] rfl)
              · skip
                have c69 := (not_congr (nI_ltI (a := (qPl a1 i) + 1) (b := 60) (by omega) (by omega))).mp c69
                refine lv_aload_n hx hb dX1_drift_72 rfl (lv_at hl 4 rfl) ?_
                refine va_get (D := D) (ci := 1) (v := .ref (F 7)) (C := RX1) (T := TX1) (N := 13) hx hb hts inX1 hown hE.1 hP 0 rfl rfl 6 (by decide) kf35 (fun _ h9 => h9) rfl dX1_drift_73 ?_
                refine lv_iload_n hx hb dX1_drift_76 rfl (lv_at hl 5 rfl) ?_
                refine lv_iconst (v := 0) hx hb dX1_drift_77 (by decide) ?_
                refine cVv (wB := fun (u_32 : Unit) => (wR cA (F 7) (F 18) 41 (fun z9 => bi (qBu (outA (movA a1 i) i) z9)))) (As := [.int (nI i), .int 0]) (rest := []) (wc := (wR cA (F 7) (F 18) 41 (fun z9 => bi (qBu (movA a1 i) z9)))) ⟨hx, hb, hml, hown, hts⟩ (K_X2_putk lch D cA (F 7) (F 18) 41 (fun z9 => bi (qBu (movA a1 i) z9)) i 0 (fun z9 => bi (qBu (outA (movA a1 i) i) z9)) H.size (by first | omega | (have := hw2.1; omega)) (Nat.le_of_ble_eq_true rfl) (fun j _ => upd_B (v := false) j)) (cwV 2 hts gX1_drift_X2_put rfl rfl rfl (by decide +kernel) ⟨Nat.le_of_ble_eq_true rfl, Nat.le_of_ble_eq_true rfl⟩) hE hP hD hS hA [7, 18] rfl rfl [F 7, F 18] (fun _ => rfl) rfl (fun (u_32 : Unit) => ((wF cA F (outA (movA a1 i) i) ((cby (movA a1 i) (cby a1 c1 i (-1)) i 1)) q) ++ (wB cA B b))) (fun _ => rfl) X0.blind (fun _ _ _ => trivial) 7 2 rfl rfl rfl hl.1 rfl rfl (Nat.le_of_ble_eq_true rfl) dX1_drift_78 ⟨Nat.zero_le _, Nat.zero_le _⟩ (fun u_32 H locs h_33 hP hD hS => ?_)
                refine lv_aload_n hx hb dX1_drift_81 rfl (lv_at hl 4 rfl) ?_
                refine lv_iload_n hx hb dX1_drift_82 rfl (lv_at hl 5 rfl) ?_
                refine lv_iconst (v := 2) hx hb dX1_drift_83 (by decide) ?_
                refine cVv (wB := fun (u_35 : Unit) => (wF cA F (endA (outA (movA a1 i) i) i 2) (cby (outA (movA a1 i) i) ((cby (movA a1 i) (cby a1 c1 i (-1)) i 1)) i (-1)) q)) (As := [.int (nI i), .int 2]) (rest := []) (wc := (wF cA F (outA (movA a1 i) i) ((cby (movA a1 i) (cby a1 c1 i (-1)) i 1)) q)) ⟨hx, hb, hml, hown, hts⟩ (K_X1_leave lch D cA F (outA (movA a1 i) i) ((cby (movA a1 i) (cby a1 c1 i (-1)) i 1)) q i 2 H.size (by have := hw2.1; omega) (by show qPl (movA a1 i) i ≤ 60; rw [mov_at]; omega)) (cwV 2 hts gX1_drift_X1_leave rfl rfl rfl (by decide +kernel) ⟨Nat.le_of_ble_eq_true rfl, Nat.le_of_ble_eq_true rfl⟩) hE hP hD hS hA [0, 1, 2, 3, 4, 5, 6, 7, 8, 9, 10, 11, 12, 13, 14, 15, 16, 17, 18, 19, 20, 21, 22] rfl rfl [F 0, F 1, F 2, F 3, F 4, F 5, F 6, F 7, F 8, F 9, F 10, F 11, F 12, F 13, F 14, F 15, F 16, F 17, F 18, F 19, F 20, F 21, F 22] (fun _ => rfl) rfl (fun (u_35 : Unit) => ((wF cA F (endA (outA (movA a1 i) i) i 2) (cby (outA (movA a1 i) i) ((cby (movA a1 i) (cby a1 c1 i (-1)) i 1)) i (-1)) q) ++ (wB cA B b))) (fun _ => pst_blk [] (wB cA B b) (wc := (wF cA F (outA (movA a1 i) i) ((cby (movA a1 i) (cby a1 c1 i (-1)) i 1)) q)) 23 0 rfl rfl rfl rfl rfl rfl) X0.blind (fun _ _ _ => trivial) 0 1 rfl rfl rfl hl.1 rfl rfl (Nat.le_of_ble_eq_true rfl) dX1_drift_84 ⟨Nat.zero_le _, Nat.zero_le _⟩ (fun u_35 H locs h_36 hP hD hS => ?_)
                refine lv_goto (tgt := 120) hx hb dX1_drift_87 (by decide) ?_
                refine lv_iinc (v := nI (t + 1)) (lv' := [(5, .int (nI (t + 1))), (6, .int (nI ((qPl a1 i) + 1))), (4, .int (nI (bCu b (qLa a i)))), (3, .int (nI (qLa a i))), (0, .ref (F 0)), (1, .int (nI i)), (2, .ref (B 0))]) hx hb dX1_drift_120 hl (k := 1) rfl (nI_add t 1) (by decide) rfl (fun ls hl => ?_)
                refine lv_goto (tgt := 22) hx hb dX1_drift_123 (by decide) ?_
                have h60 : qPl a1 i + 1 = 60 := by omega
                have e8 : stepA b a1 i = endA (outA (movA a1 i) i) i 2 := step_lost h60
                have hP : va_P D vwCl ((wF cA F (stepA b a1 i) ((cby (outA (movA a1 i) i) (cby (movA a1 i) (cby a1 c1 i (-1)) i 1) i (-1))) q) ++ (wB cA B b)) H := by rw [e8]; exact hP
                have hD : va_D A ((wF cA F (stepA b a1 i) ((cby (outA (movA a1 i) i) (cby (movA a1 i) (cby a1 c1 i (-1)) i 1) i (-1))) q) ++ (wB cA B b)) := by rw [e8]; exact hD
                have hc3 : CRa (outA (movA a1 i) i) (cby (movA a1 i) (cby a1 c1 i (-1)) i 1) := CRa_same hc2 rfl rfl rfl rfl rfl
                have hc4 : CRa (stepA b a1 i) (cby (outA (movA a1 i) i) (cby (movA a1 i) (cby a1 c1 i (-1)) i 1) i (-1)) := by rw [e8]; exact CR_leave hc3 ⟨by show qLa a1 i < 3; rw [hL]; exact wl2, w1⟩ hk1 hst (by decide)
                obtain ⟨k1, k2, k3, k4, k5⟩ := step_keep (b := b) hw2 hk1 hst
                have hdn := drift_go (b := b) (k := i) (n := bCu b (qLa a i) - (t + 1)) (a := a1) hst c42
                rw [show bCu b (qLa a i) - (t + 1) + 1 = bCu b (qLa a i) - t by omega, hd] at hdn
                exact ih22 (t + 1) (stepA b a1 i) ((cby (outA (movA a1 i) i) (cby (movA a1 i) (cby a1 c1 i (-1)) i 1) i (-1))) (by omega) (hdn.symm) (k1) (hc4) (k2.trans hN) (by rw [k3]; exact hL) (by omega) H locs hP hD hS ls (lv_sub hl [0, 2, 3, 4, 5, 6] rfl)
    exact L22 (bCu b (qLa a i) + 1) 0 a c (Nat.zero_le _) (rfl) (hw1) (hcr) (rfl) (rfl) (by omega) H locs hP hD hS ls (lv_sub hl [0, 1, 2, 3, 4, 5] rfl)
  rw [hg1, hg2] at hgoal
  exact hgoal
end
section
theorem CRa_tick {a : FSt} {c : Nat → Int32} (h : CRa a c) : CRa (tickA a) c := CRa_same h rfl rfl rfl rfl rfl
end
section
set_option maxHeartbeats 4000000 in
set_option maxRecDepth 100000 in
/-- passMinutes -/
theorem K_X1_passMinutes (lch : Launch) (D : va_G) (cA : ClassId) (F : Nat → Nat) (a : FSt) (c : Nat → Int32) (q : Nat → Int32) (B : Nat → Nat) (b : BSt) (m : Nat) (sz : Nat) (hw1 : WFa a) (hwb : WFb b) (hcr : CRa a c) (hm : m < 1000) : Met lch yX1_passMinutes wsX1_passMinutes ({ frames := 4, cells := 0, slots := 0, locals := 94 }) (Pr D cA [.ref (F 0), .int (nI m), .ref (B 0)] sz ((wF cA F a c q) ++ (wB cA B b)) X0) (va_Qv (fun (u : (Nat → Int32) × (Nat → Int32)) => CRa (minsA b m a) u.1) (fun (u : (Nat → Int32) × (Nat → Int32)) t => va_P D vwCl ((wF cA F (minsA b m a) u.1 u.2) ++ (wB cA B b)) t.heap) (va_A ((wF cA F a c q) ++ (wB cA B b)) sz)) 0 0 (va_A ((wF cA F a c q) ++ (wB cA B b)) sz) := by
  refine Met.ofW (cc := cX1_passMinutes) (maxL := 6) (ret := none) (by decide) rfl ?_
  intro pg ev s mi args below meth cd s₁ B hml hv
  obtain ⟨hav, hsz, hP, hE, hD, hXs⟩ := hv
  have hx := B.exec
  have hb := B.bytes
  have hr := B.returns
  have hts := atoms_spec (ws := wsX1_passMinutes) B.pre
  have hown : s.vm.findClass RX1 = some mi.cls := findClass_of_methodNamed B.named
  have hlocks := B.notSynchronized
  clear B
  subst hav
  subst hsz
  have hD := hD.self (sz := s.heap.size)
  generalize hAe : va_A ((wF cA F a c q) ++ (wB cA B b)) s.heap.size = A at hD ⊢
  have hA : ∀ q : Nat, s.heap.size ≤ q → A q := fun q h => by rw [← hAe]; exact Or.inr h
  have hS : va_S A s.heap s.heap [] := va_S.rf
  obtain ⟨QQ, hQQ⟩ : ∃ qq9, qq9 = MQ below (va_Qv (fun (u : (Nat → Int32) × (Nat → Int32)) => CRa (minsA b m a) u.1) (fun (u : (Nat → Int32) × (Nat → Int32)) t => va_P D vwCl ((wF cA F (minsA b m a) u.1 u.2) ++ (wB cA B b)) t.heap) A) ([.ref (F 0), .int (nI m), .ref (B 0)] : List Value).toArray s 0 0 A := ⟨_, rfl⟩
  rw [← hQQ]
  have hl := lv_entry ([.ref (F 0), .int (nI m), .ref (B 0)]) (n := 6) (Nat.le_of_ble_eq_true rfl)
  rw [lg_entry_eq]
  generalize (lg_sl ([.ref (F 0), .int (nI m), .ref (B 0)]) ++ List.replicate (6 - (lg_sl ([.ref (F 0), .int (nI m), .ref (B 0)])).length) Slot.unset).toArray = ls at hl ⊢
  have hl : lv_has ls 6 [(0, .ref (F 0)), (1, .int (nI m)), (2, .ref (B 0))] := hl
  have kf58 := hts (.fieldLink RX1 58 "LanternWeirs$Fleet" "minute" "I") (by decide +kernel)
  have inX1 : ∀ w ∈ u_ws RX1 TX1 13, w ∈ wsX1_passMinutes := by decide +kernel
  have kf47 := hts (.fieldLink RX1 47 "LanternWeirs$Fleet" "queue" "LLanternWeirs$Row;") (by decide +kernel)
  obtain ⟨H, locs, hP, hS, hgo⟩ : ∃ H locs, va_P D vwCl ((wF cA F a c q) ++ (wB cA B b)) H ∧ va_S A s.heap H locs ∧ (H = s.heap ∧ locs = []) := ⟨_, _, hP, hS, rfl, rfl⟩
  obtain ⟨hg1, hg2⟩ := hgo
  have hgoal : W pg lch ev (headSpec wsX1_passMinutes ({ frames := 4, cells := 0, slots := 0, locals := 94 })).room s mi ([.ref (F 0), .int (nI m), .ref (B 0)] : List Value).toArray below meth cd H locs 0 0 QQ (F0 mi 0 ls []) := by
    refine lv_iconst (v := 0) hx hb dX1_passMinutes_0 (by decide) ?_
    refine lv_istore_n (lv' := [(3, .int 0), (0, .ref (F 0)), (1, .int (nI m)), (2, .ref (B 0))]) hx hb dX1_passMinutes_1 rfl hl (by decide) rfl (fun ls hl => ?_)
    have L2 : ∀ (fu2 : Nat) (t : Nat) (c1 : Nat → Int32) (q1 : Nat → Int32), (t ≤ m) → (CRa (minsA b t a) c1) → m - t < fu2 → ∀ (H : Heap) (locs : List Loc), va_P D vwCl ((wF cA F (minsA b t a) c1 q1) ++ (wB cA B b)) H → va_D A ((wF cA F (minsA b t a) c1 q1) ++ (wB cA B b)) → va_S A s.heap H locs → ∀ ls : Array Slot, lv_has ls 6 [(3, .int (nI t)), (0, .ref (F 0)), (1, .int (nI m)), (2, .ref (B 0))] → W pg lch ev (headSpec wsX1_passMinutes ({ frames := 4, cells := 0, slots := 0, locals := 94 })).room s mi ([.ref (F 0), .int (nI m), .ref (B 0)] : List Value).toArray below meth cd H locs 0 0 QQ (F0 mi 2 ls []) := by
      intro fu2
      induction fu2 with
      | zero => intro t c1 q1 ht hc1 hms; exact absurd hms (Nat.not_lt_zero _)
      | succ fu2 ih2 =>
        intro t c1 q1 ht hc1 hms2 H locs hP hD hS ls hl
        obtain ⟨g1, g2⟩ := mins_keep (b := b) hw1 t
        have hn := hw1.1
        have hom := (ord_ok (minsA b t a)).1
        refine lv_iload_n hx hb dX1_passMinutes_2 rfl (lv_at hl 0 rfl) ?_
        refine lv_iload_n hx hb dX1_passMinutes_3 rfl (lv_at hl 2 rfl) ?_
        refine lv_icmp_ge (tgt := 66) hx hb dX1_passMinutes_4 (by decide) (fun c4 => ?_) (fun c4 => ?_)
        · skip
          have c4 := (nI_leI (a := m) (b := t) (by omega) (by omega)).mp c4
          have et : t = m := by omega
          have hP : va_P D vwCl ((wF cA F (minsA b m a) c1 q1) ++ (wB cA B b)) H := by rw [← et]; exact hP
          rw [hQQ]
          exact W.vret hx hb hr (fun t ht hW => ⟨⟨(c1, q1), rfl, by rw [← et]; exact hc1, by show va_P _ _ _ t.heap; rw [ht]; exact hP⟩, hS.F ht⟩) hS.2.2 dX1_passMinutes_66
        · skip
          have c4 := (not_congr (nI_leI (a := m) (b := t) (by omega) (by omega))).mp c4
          refine lv_aload_n hx hb dX1_passMinutes_7 rfl (lv_at hl 1 rfl) ?_
          refine cVi (wB := fun (u : Nat → Int32) => (wF cA F (minsA b t a) c1 u)) (As := []) (rest := []) (wc := (wF cA F (minsA b t a) c1 q1)) ⟨hx, hb, hml, hown, hts⟩ (K_X1_lineUp lch D cA F (minsA b t a) c1 q1 H.size (g1)) (cwV 0 hts gX1_passMinutes_X1_lineUp rfl rfl rfl (by decide +kernel) ⟨Nat.le_of_ble_eq_true rfl, Nat.le_of_ble_eq_true rfl⟩) hE hP hD hS hA [0, 1, 2, 3, 4, 5, 6, 7, 8, 9, 10, 11, 12, 13, 14, 15, 16, 17, 18, 19, 20, 21, 22] rfl rfl [F 0, F 1, F 2, F 3, F 4, F 5, F 6, F 7, F 8, F 9, F 10, F 11, F 12, F 13, F 14, F 15, F 16, F 17, F 18, F 19, F 20, F 21, F 22] (fun _ => rfl) rfl (fun (u : Nat → Int32) => ((wF cA F (minsA b t a) c1 u) ++ (wB cA B b))) (fun _ => pst_blk [] (wB cA B b) (wc := (wF cA F (minsA b t a) c1 q1)) 23 0 rfl rfl rfl rfl rfl rfl) X0.blind (fun _ _ _ => trivial) 0 1 rfl rfl rfl hl.1 rfl rfl (Nat.le_of_ble_eq_true rfl) dX1_passMinutes_8 ⟨Nat.zero_le _, Nat.zero_le _⟩ (fun r_1 u H locs hu hP hD hS => ?_)
          obtain ⟨r_1e, hu⟩ := hu
          subst r_1e
          refine lv_istore (lv' := [(4, .int (nI (ordM (minsA b t a)))), (3, .int (nI t)), (0, .ref (F 0)), (1, .int (nI m)), (2, .ref (B 0))]) hx hb dX1_passMinutes_11 hl (by decide) rfl (fun ls hl => ?_)
          refine lv_iconst (v := 0) hx hb dX1_passMinutes_13 (by decide) ?_
          refine lv_istore (lv' := [(5, .int 0), (4, .int (nI (ordM (minsA b t a)))), (3, .int (nI t)), (0, .ref (F 0)), (1, .int (nI m)), (2, .ref (B 0))]) hx hb dX1_passMinutes_14 hl (by decide) rfl (fun ls hl => ?_)
          have L16 : ∀ (fu16 : Nat) (j : Nat) (c2 : Nat → Int32), (j ≤ ordM (minsA b t a)) → (CRa (floatA b (ordF (minsA b t a)) j (minsA b t a)) c2) → ordM (minsA b t a) - j < fu16 → ∀ (H : Heap) (locs : List Loc), va_P D vwCl ((wF cA F (floatA b (ordF (minsA b t a)) j (minsA b t a)) c2 u) ++ (wB cA B b)) H → va_D A ((wF cA F (floatA b (ordF (minsA b t a)) j (minsA b t a)) c2 u) ++ (wB cA B b)) → va_S A s.heap H locs → ∀ ls : Array Slot, lv_has ls 6 [(5, .int (nI j)), (4, .int (nI (ordM (minsA b t a)))), (3, .int (nI t)), (0, .ref (F 0)), (1, .int (nI m)), (2, .ref (B 0))] → W pg lch ev (headSpec wsX1_passMinutes ({ frames := 4, cells := 0, slots := 0, locals := 94 })).room s mi ([.ref (F 0), .int (nI m), .ref (B 0)] : List Value).toArray below meth cd H locs 0 0 QQ (F0 mi 16 ls []) := by
            intro fu16
            induction fu16 with
            | zero => intro j c2 hj hc2 hms; exact absurd hms (Nat.not_lt_zero _)
            | succ fu16 ih16 =>
              intro j c2 hj hc2 hms16 H locs hP hD hS ls hl
              obtain ⟨f1, f2, f3, f4⟩ := float_keep (b := b) (o := ordF (minsA b t a)) (a := (minsA b t a)) j g1 (fun k hk => ((ord_ok (minsA b t a)).2 k (by omega)).1)
              refine lv_iload hx hb dX1_passMinutes_16 (lv_at hl 0 rfl) ?_
              refine lv_iload hx hb dX1_passMinutes_18 (lv_at hl 1 rfl) ?_
              refine lv_icmp_ge (tgt := 46) hx hb dX1_passMinutes_20 (by decide) (fun c20 => ?_) (fun c20 => ?_)
              · skip
                have c20 := (nI_leI (a := ordM (minsA b t a)) (b := j) (by omega) (by omega)).mp c20
                have ej : j = ordM (minsA b t a) := by omega
                have hc2 : CRa (floatA b (ordF (minsA b t a)) (ordM (minsA b t a)) (minsA b t a)) c2 := by rw [← ej]; exact hc2
                have f1 : WFa (floatA b (ordF (minsA b t a)) (ordM (minsA b t a)) (minsA b t a)) := by rw [← ej]; exact f1
                have f2 : qN (floatA b (ordF (minsA b t a)) (ordM (minsA b t a)) (minsA b t a)) = qN (minsA b t a) := by rw [← ej]; exact f2
                refine lv_aload_n hx hb dX1_passMinutes_46 rfl (lv_at hl 3 rfl) ?_
                rw [ej] at hP hD
                refine cVv (wB := fun (u_4 : Unit) => (wF cA F (burnA (qN (floatA b (ordF (minsA b t a)) (ordM (minsA b t a)) (minsA b t a))) (floatA b (ordF (minsA b t a)) (ordM (minsA b t a)) (minsA b t a))) c2 u)) (As := []) (rest := []) (wc := (wF cA F (floatA b (ordF (minsA b t a)) (ordM (minsA b t a)) (minsA b t a)) c2 u)) ⟨hx, hb, hml, hown, hts⟩ (K_X1_useWax lch D cA F (floatA b (ordF (minsA b t a)) (ordM (minsA b t a)) (minsA b t a)) c2 u H.size (f1)) (cwV 0 hts gX1_passMinutes_X1_useWax rfl rfl rfl (by decide +kernel) ⟨Nat.le_of_ble_eq_true rfl, Nat.le_of_ble_eq_true rfl⟩) hE hP hD hS hA [0, 1, 2, 3, 4, 5, 6, 7, 8, 9, 10, 11, 12, 13, 14, 15, 16, 17, 18, 19, 20, 21, 22] rfl rfl [F 0, F 1, F 2, F 3, F 4, F 5, F 6, F 7, F 8, F 9, F 10, F 11, F 12, F 13, F 14, F 15, F 16, F 17, F 18, F 19, F 20, F 21, F 22] (fun _ => rfl) rfl (fun (u_4 : Unit) => ((wF cA F (burnA (qN (floatA b (ordF (minsA b t a)) (ordM (minsA b t a)) (minsA b t a))) (floatA b (ordF (minsA b t a)) (ordM (minsA b t a)) (minsA b t a))) c2 u) ++ (wB cA B b))) (fun _ => pst_blk [] (wB cA B b) (wc := (wF cA F (floatA b (ordF (minsA b t a)) (ordM (minsA b t a)) (minsA b t a)) c2 u)) 23 0 rfl rfl rfl rfl rfl rfl) X0.blind (fun _ _ _ => trivial) 0 1 rfl rfl rfl hl.1 rfl rfl (Nat.le_of_ble_eq_true rfl) dX1_passMinutes_47 ⟨Nat.zero_le _, Nat.zero_le _⟩ (fun u_4 H locs h_5 hP hD hS => ?_)
                refine lv_aload_n hx hb dX1_passMinutes_50 rfl (lv_at hl 3 rfl) ?_
                refine lv_dup hx hb dX1_passMinutes_51 rfl ?_
                refine va_get (D := D) (ci := 1) (v := .int (qM (burnA (qN (floatA b (ordF (minsA b t a)) (ordM (minsA b t a)) (minsA b t a))) (floatA b (ordF (minsA b t a)) (ordM (minsA b t a)) (minsA b t a))))) (C := RX1) (T := TX1) (N := 13) hx hb hts inX1 hown hE.1 hP 0 rfl rfl 12 (by decide) kf58 (fun _ h9 => h9) rfl dX1_passMinutes_52 ?_
                refine lv_iconst (v := 1) hx hb dX1_passMinutes_55 (by decide) ?_
                refine lv_iadd hx hb dX1_passMinutes_56 ?_
                have e9 : minA b (minsA b t a) = tickA (burnA (qN (floatA b (ordF (minsA b t a)) (ordM (minsA b t a)) (minsA b t a))) (floatA b (ordF (minsA b t a)) (ordM (minsA b t a)) (minsA b t a))) := by unfold minA; rw [f2]
                refine va_put (D := D) (ci := 1) (v := .int ((qM (burnA (qN (floatA b (ordF (minsA b t a)) (ordM (minsA b t a)) (minsA b t a))) (floatA b (ordF (minsA b t a)) (ordM (minsA b t a)) (minsA b t a)))) + 1)) (ty := .int) (C := RX1) (T := TX1) (N := 13) hx hb hts inX1 tyX1 tyX1_ok nmX1 hown hE.1 hP hD hS 0 rfl rfl 12 (by decide) kf58 (fun _ h9 => h9) rfl (by decide +kernel) rfl rfl (Nat.le_of_ble_eq_true rfl) dX1_passMinutes_57 (fun H locs hP hD hS => ?_)
                have hP : va_P D vwCl ((wF cA F (tickA (burnA (qN (floatA b (ordF (minsA b t a)) (ordM (minsA b t a)) (minsA b t a))) (floatA b (ordF (minsA b t a)) (ordM (minsA b t a)) (minsA b t a)))) c2 u) ++ (wB cA B b)) H := hP
                have hD : va_D A ((wF cA F (tickA (burnA (qN (floatA b (ordF (minsA b t a)) (ordM (minsA b t a)) (minsA b t a))) (floatA b (ordF (minsA b t a)) (ordM (minsA b t a)) (minsA b t a)))) c2 u) ++ (wB cA B b)) := hD
                refine lv_iinc (v := nI (t + 1)) (lv' := [(3, .int (nI (t + 1))), (5, .int (nI j)), (4, .int (nI (ordM (minsA b t a)))), (0, .ref (F 0)), (1, .int (nI m)), (2, .ref (B 0))]) hx hb dX1_passMinutes_60 hl (k := 2) rfl (nI_add t 1) (by decide) rfl (fun ls hl => ?_)
                refine lv_goto (tgt := 2) hx hb dX1_passMinutes_63 (by decide) ?_
                have hP : va_P D vwCl ((wF cA F (minsA b (t + 1) a) c2 u) ++ (wB cA B b)) H := by show va_P D vwCl ((wF cA F (minA b (minsA b t a)) c2 u) ++ (wB cA B b)) H; rw [e9]; exact hP
                have hD : va_D A ((wF cA F (minsA b (t + 1) a) c2 u) ++ (wB cA B b)) := by show va_D A ((wF cA F (minA b (minsA b t a)) c2 u) ++ (wB cA B b)); rw [e9]; exact hD
                have hc8 : CRa (minsA b (t + 1) a) c2 := by show CRa (minA b (minsA b t a)) c2; rw [e9]; exact CRa_tick (CRa_burn hc2 _)
                exact ih2 (t + 1) c2 u (by omega) (hc8) (by omega) H locs hP hD hS ls (lv_sub hl [0, 3, 4, 5] rfl)
              · skip
                have c20 := (not_congr (nI_leI (a := ordM (minsA b t a)) (b := j) (by omega) (by omega))).mp c20
                refine lv_aload_n hx hb dX1_passMinutes_23 rfl (lv_at hl 3 rfl) ?_
                refine lv_aload_n hx hb dX1_passMinutes_24 rfl (lv_at hl 3 rfl) ?_
                refine va_get (D := D) (ci := 1) (v := .ref (F 11)) (C := RX1) (T := TX1) (N := 13) hx hb hts inX1 hown hE.1 hP 0 rfl rfl 10 (by decide) kf47 (fun _ h9 => h9) rfl dX1_passMinutes_25 ?_
                refine lv_iload hx hb dX1_passMinutes_28 (lv_at hl 0 rfl) ?_
                refine pVi (As := [.int (nI j)]) (rest := [.ref (F 0)]) (wc := (wR cA (F 11) (F 22) 41 u)) ⟨hx, hb, hml, hown, hts⟩ (K_X2_getk lch D cA (F 11) (F 22) 41 u j (u j) H.size (by omega) (Nat.le_of_ble_eq_true rfl) (rfl)) (cwV 1 hts gX1_passMinutes_X2_get rfl rfl rfl (by decide +kernel) ⟨Nat.le_of_ble_eq_true rfl, Nat.le_of_ble_eq_true rfl⟩) hE hP hD hS hA [11, 22] rfl rfl X0.blind (fun _ _ _ => trivial) 11 2 rfl rfl rfl hl.1 rfl rfl (Nat.le_of_ble_eq_true rfl) dX1_passMinutes_30 ⟨Nat.zero_le _, Nat.zero_le _⟩ (fun r_6 u_7 H locs h_8 hP hS => ?_)
                subst h_8
                have hoj := (ord_ok (minsA b t a)).2 j (by omega)
                have hvv := g1.2 (ordF (minsA b t a) j) hoj.1
                have hv1 : qPl (minsA b t a) (ordF (minsA b t a) j) < 60 ∧ qLa (minsA b t a) (ordF (minsA b t a) j) < 3 ∧ ordF (minsA b t a) j < 41 := ⟨hvv.2.2.2.2.1 hoj.2, hvv.2.1, by have := g1.1; omega⟩
                have hk1 := key_small hv1
                refine top_i (y := nI (keyA (minsA b t a) (ordF (minsA b t a) j))) (hu j (by omega)) ?_
                refine lv_bipush (v := 64) hx hb dX1_passMinutes_33 (by decide) ?_
                refine lv_irem hx hb dX1_passMinutes_35 (by decide) ?_
                refine top_i (y := nI (ordF (minsA b t a) j)) ((pk_rem (a := keyA (minsA b t a) (ordF (minsA b t a) j)) (d := 64) hk1 (by decide) (by decide)).trans (congrArg nI (key_mod hv1.2.2))) ?_
                refine lv_aload_n hx hb dX1_passMinutes_36 rfl (lv_at hl 5 rfl) ?_
                refine cVv (wB := fun (u9 : Nat → Int32) => ((wF cA F (driftA b (floatA b (ordF (minsA b t a)) j (minsA b t a)) (ordF (minsA b t a) j)) u9 u) ++ (wB cA B b))) (As := [.int (nI (ordF (minsA b t a) j)), .ref (B 0)]) (rest := []) (wc := ((wF cA F (floatA b (ordF (minsA b t a)) j (minsA b t a)) c2 u) ++ (wB cA B b))) ⟨hx, hb, hml, hown, hts⟩ (K_X1_drift lch D cA F (floatA b (ordF (minsA b t a)) j (minsA b t a)) c2 u B b (ordF (minsA b t a) j) H.size (by rw [f2]; exact hoj.1) (f1) (hwb) (hc2)) (cwV 2 hts gX1_passMinutes_X1_drift rfl rfl rfl (by decide +kernel) ⟨Nat.le_of_ble_eq_true rfl, Nat.le_of_ble_eq_true rfl⟩) hE hP hD hS hA [0, 1, 2, 3, 4, 5, 6, 7, 8, 9, 10, 11, 12, 13, 14, 15, 16, 17, 18, 19, 20, 21, 22, 23, 24, 25, 26, 27, 28, 29] rfl rfl [F 0, F 1, F 2, F 3, F 4, F 5, F 6, F 7, F 8, F 9, F 10, F 11, F 12, F 13, F 14, F 15, F 16, F 17, F 18, F 19, F 20, F 21, F 22, B 0, B 1, B 2, B 3, B 4, B 5, B 6] (fun _ => rfl) rfl (fun (u9 : Nat → Int32) => ((wF cA F (driftA b (floatA b (ordF (minsA b t a)) j (minsA b t a)) (ordF (minsA b t a) j)) u9 u) ++ (wB cA B b))) (fun _ => pst_all 30 rfl rfl rfl) X0.blind (fun _ _ _ => trivial) 0 1 rfl rfl rfl hl.1 rfl rfl (Nat.le_of_ble_eq_true rfl) dX1_passMinutes_37 ⟨Nat.zero_le _, Nat.zero_le _⟩ (fun u9 H locs h9 hP hD hS => ?_)
                refine lv_iinc (v := nI (j + 1)) (lv' := [(5, .int (nI (j + 1))), (4, .int (nI (ordM (minsA b t a)))), (3, .int (nI t)), (0, .ref (F 0)), (1, .int (nI m)), (2, .ref (B 0))]) hx hb dX1_passMinutes_40 hl (k := 0) rfl (nI_add j 1) (by decide) rfl (fun ls hl => ?_)
                refine lv_goto (tgt := 16) hx hb dX1_passMinutes_43 (by decide) ?_
                exact ih16 (j + 1) u9 (by omega) (h9) (by omega) H locs hP hD hS ls (lv_sub hl [0, 1, 2, 3, 4, 5] rfl)
          exact L16 (ordM (minsA b t a) + 1) 0 c1 (Nat.zero_le _) (hc1) (by omega) H locs hP hD hS ls (lv_sub hl [0, 1, 2, 3, 4, 5] rfl)
    exact L2 (m + 1) 0 c q (Nat.zero_le _) (hcr) (by omega) H locs hP hD hS ls (lv_sub hl [0, 1, 2, 3] rfl)
  rw [hg1, hg2] at hgoal
  exact hgoal
end
