/-! the law: what is carried, calls over a block of the world -/
abbrev LU : Type := BSt × FSt × (Nat → Int32) × (Nat → Int32) × FSt × (Nat → Int32) × (Nat → Int32) × (Nat → Int64)
abbrev wO (cL : ClassId) (o : Nat) (v : Nat → Int64) : va_W := [(o, .inl (cL, 1, .inr (.inl v)))]
abbrev wXU (cA : ClassId) (x : Nat) (B F G : Nat → Nat) (u : LU) : va_W := wX cA x B F G u.1 u.2.1 u.2.2.1 u.2.2.2.1 u.2.2.2.2.1 u.2.2.2.2.2.1 u.2.2.2.2.2.2.1
/-- what holds of the river, the lanterns and the crowd at each call -/
def LI (b : BSt) (a : FSt) (c : Nat → Int32) : Prop := WFa a ∧ WFb b ∧ WFn b a ∧ CRa a c ∧ qN a ≤ 40
/-- what a helper of the law answers -/
def HP (n : Nat) (ans : Int32) (b' : BSt) (a' : FSt) (b : BSt) (a : FSt) (r : Int32) (u : LU) : Prop :=
  r = nI n ∧ n < 4 ∧ CRa u.2.1 u.2.2.1 ∧ (n = 0 → u.2.2.2.2.2.2.2 0 = ans.toInt64 ∧ u.1 = b' ∧ u.2.1 = a') ∧ (¬ n = 0 → u.1 = b ∧ u.2.1 = a)
abbrev nIO : String := "java/lang/IndexOutOfBoundsException"
abbrev nIA : String := "java/lang/IllegalArgumentException"
abbrev nIS : String := "java/lang/IllegalStateException"
def NCx (U : State) : Prop := va_Nc nIA nIO U ∧ va_Nc nIS nIO U ∧ va_Nc nIS nIA U ∧ va_Nc nIO nIA U
theorem NCx.moved {u U : State} (hvm : u.vm.Alike U.vm) (h : NCx u) : NCx U := ⟨h.1.moved hvm, h.2.1.moved hvm, h.2.2.1.moved hvm, h.2.2.2.moved hvm⟩
def LX (sa : Nat → Nat) (D : va_G) (cL : ClassId) (A : Nat → Prop) (U : State) : Prop := TX sa A U ∧ va_K D vwCl [(cL, .long)] U ∧ NCx U
theorem LX.blind (sa : Nat → Nat) (D : va_G) (cL : ClassId) (A : Nat → Prop) : Blind (LX sa D cL A) := fun U g mk a h =>
  ⟨TX.blind sa A U g mk a h.1, va_K.moved (u := U) (U := U.calling g mk a) (Vm.Alike.refl U.vm) h.2.1, NCx.moved (u := U) (U := U.calling g mk a) (Vm.Alike.refl U.vm) h.2.2⟩
theorem LX.at {sa : Nat → Nat} {D : va_G} {cL : ClassId} {A A' : Nat → Prop} {s U : State} {H : Heap} {locs : List Loc} (h : LX sa D cL A s) (hS : va_S A s.heap H locs) (hU : U.heap = H) (hW : s.WarmedH U.vm) (hA : ∀ q, A' q → A q) : LX sa D cL A' U :=
  ⟨h.1.at hS hU hW hA, h.2.1.moved hW.alike, h.2.2.moved hW.alike⟩
theorem met_ofWH {l : Launch} {y : MethodName} {ws ws' : List Cond} {rm : Room} {Pc : Array Value → State → Prop} {Qc : Array Value → State → Outcome → State → Prop} {mc ms : Nat} {free : Addr → Prop} {cc : ByteArray} {maxL : Nat} {ret : Option FieldType} {hh : List (Nat × Nat × Nat × Nat)}
    (hy : plainName y.cls = true) (hw : ws = Cond.codeWith y cc maxL ret hh :: ws')
    (body : ∀ p e s m args below meth c s₁, BodyLoose p l y (headSpec ws rm) cc maxL ret e s m args below meth c s₁ → c.maxLocals = maxL → Pc args s →
      W p l e (headSpec ws rm).room s m args below meth c s.heap [] 0 0 (MQ below Qc args s mc ms free) (entryFrame m args maxL)) : Met l y ws rm Pc Qc mc ms free := by
  refine MetFree.of_bodyS (code := cc) (maxLocals := maxL) (ret := ret) hy ?_ ?_
  · intro args s m h hn
    obtain ⟨m9, meth, c, hn9, h1, h2, h3, h4, -, h5, h6, -⟩ := Cond.codeWith_spec (atoms_spec (ws := ws) h _ (by rw [hw]; exact List.mem_cons_self))
    cases hn.symm.trans hn9
    exact ⟨meth, c, h1, h2, h3, h4, h5, h6⟩
  · intro p e s m args below meth c s₁ B hml hP _
    have hh0 : s₁.heap = s.heap := by rw [B.state]; rfl
    obtain ⟨t, a1, o, b1, b2, b3⟩ := body p e s m args below meth c s₁ B hml hP s₁ hh0 (Stand.of_body B)
    exact ⟨t, o, a1, b1, b2, ⟨b3.1, b3.2⟩⟩
theorem blk_map : ∀ (wc pre suf : va_W), (List.range' pre.length wc.length).map (fun i => (pre ++ (wc ++ suf))[i]?) = wc.map some
  | [], _, _ => rfl
  | c :: wc, pre, suf => by
    have h := blk_map wc (pre ++ [c]) suf
    have e : (pre ++ [c]) ++ (wc ++ suf) = pre ++ (c :: wc ++ suf) := by simp
    have e2 : (pre ++ [c]).length = pre.length + 1 := by simp
    rw [e, e2] at h
    show (pre ++ (c :: wc ++ suf))[pre.length]? :: (List.range' (pre.length + 1) wc.length).map (fun i => (pre ++ (c :: wc ++ suf))[i]?) = some c :: wc.map some
    rw [h]
    congr 1
    simp
theorem blk_get {wc pre suf : va_W} {k : Nat} {q : Nat × va_E} (h : wc[k]? = some q) : (pre ++ (wc ++ suf))[pre.length + k]? = some q := by
  have hk := (List.getElem?_eq_some_iff.mp h).1
  rw [List.getElem?_append_right (by omega), Nat.add_sub_cancel_left, List.getElem?_append_left hk]
  exact h
theorem blk_P {D : va_G} {wc pre suf : va_W} {H : Heap} (h : va_P D vwCl (pre ++ (wc ++ suf)) H) : va_P D vwCl wc H := fun _ q hq => h _ q (blk_get hq)
theorem blk_D {A : Nat → Prop} {wc pre suf : va_W} (h : va_D A (pre ++ (wc ++ suf))) : va_D (fun _ => True) wc :=
  ⟨fun i j p q hp hq e => by have := h.1 _ _ p q (blk_get hp) (blk_get hq) e; omega, fun _ _ _ => trivial⟩
theorem blk_free {A : Nat → Prop} {wc pre suf : va_W} {H0 H : Heap} {locs : List Loc} (hD : va_D A (pre ++ (wc ++ suf))) (hS : va_S A H0 H locs) (hA : ∀ q, H0.size ≤ q → A q) : ∀ q, va_A wc H.size q → A q := fun q h => by
  rcases h with ⟨k, e, hc⟩ | h
  · exact hD.2 _ (q, e) (blk_get hc)
  · exact hA q (Nat.le_trans hS.1 h)
theorem blk_join {A : Nat → Prop} {D : va_G} {wc w1 pre suf : va_W} {H H1 : Heap} (hP : va_P D vwCl (pre ++ (wc ++ suf)) H) (hD : va_D A (pre ++ (wc ++ suf))) (hsame : w1.map (fun q => q.1) = wc.map (fun q => q.1))
    (hk : ∀ q : Nat, q < H.size → ¬ va_A wc H.size q → H1[q]? = H[q]?) (hP1 : va_P D vwCl w1 H1) : va_P D vwCl (pre ++ (w1 ++ suf)) H1 ∧ va_D A (pre ++ (w1 ++ suf)) := by
  have h := pst_join hP hD (List.range' pre.length wc.length) (blk_map wc pre suf) hsame hk hP1
  have hl : wc.length = w1.length := by
    have h2 := congrArg List.length hsame
    simp only [List.length_map] at h2
    exact h2.symm
  rw [pst_mid wc w1 pre suf hl] at h
  exact h
section LAWKIT
variable {p : Program} {l : Launch} {e : Env} {R : Room} {s : State} {m : MethodId} {args : Array Value} {below : List Frame} {meth : Method} {c : Code} {H : Heap} {locs : List Loc} {cells slots : Nat} {Q : State → Prop}
variable {pc : Nat} {ls : Array Slot} {rest st0 : List Value} {A : Nat → Prop} {H0 : Heap} {mc ms : Nat} {D : va_G} {cA : ClassId} {wc pre suf : va_W} {X : State → Prop}
variable {y : MethodName} {bytes cc : ByteArray} {maxL nL n index : Nat} {ws : List Cond} {rm : Room} {Ts : List Cond} {own C : String} {b : Nat} {As : List Value}
theorem pr_blk {av : List Value} (hE : EK D cA s) (hP : va_P D vwCl (pre ++ (wc ++ suf)) H) (hD : va_D A (pre ++ (wc ++ suf))) (hX : ∀ U : State, U.heap = H → s.WarmedH U.vm → X U) (U : State) (hU : U.heap = H) (hW : s.WarmedH U.vm) : Pr D cA av H.size wc X av.toArray U :=
  ⟨rfl, by rw [hU], by rw [hU]; exact blk_P hP, hE.warm hW, blk_D hD, hX U hU hW⟩
/-- a call of the class's method that may throw -/
theorem bXVi {S : Type} {ret : Option FieldType} {post : Int32 → S → Prop} {wB : S → va_W} {EXP : String → Prop} (Sx : CallFix p m c cc nL s args Ts own) (hM : vx_Met l y ws rm (Pr D cA (.ref b :: As) H.size wc X) (va_Qi post (fun u t => va_P D vwCl (wB u) t.heap) (va_A wc H.size)) (vx_X (S := Unit) (fun _ => True) (fun E _ t => EXP E ∧ va_P D vwCl wc t.heap) (va_A wc H.size)) mc ms (va_A wc H.size)) (cw : CallW R s args own C index y bytes maxL ret ws rm mc ms n)
    (hE : EK D cA s) (hP : va_P D vwCl (pre ++ (wc ++ suf)) H) (hD : va_D A (pre ++ (wc ++ suf))) (hS : va_S A H0 H locs) (hA : ∀ q, H0.size ≤ q → A q) (hsame : ∀ u : S, (wB u).map (fun q => q.1) = wc.map (fun q => q.1)) (hXb : Blind X) (hX : ∀ U : State, U.heap = H → s.WarmedH U.vm → X U)
    (q0 ci : Nat) {fs : List Value} {q : vw_C} (hr : wc[q0]? = some (b, .inr (ci, fs))) (hc : vwCl[ci]? = some q) (hC : q.1 = C) (hls : ls.size = nL) (hn : As.length = n) (hst : st0 = As.reverse ++ .ref b :: rest) (hW : (rest.map fun v => v.category).sum ≤ 8) (hdg : decode cc pc = .ok (.invokevirtual index, 3)) (hf : cells + mc ≤ R.cells ∧ slots + ms ≤ R.slots)
    (kx : ∀ (E : String) (ce : Cell) (q9 : Addr) (H1 : Heap) (locs1 : List Loc), EXP E → va_P D vwCl (pre ++ (wc ++ suf)) H1 → va_S A H0 H1 locs1 → H1[q9]? = some ce → ce.vm = .none → s.vm.findClass E = some ce.cls → vx_W p l e R s m args below meth c H1 locs1 (cells + mc) (slots + ms) Q (F0 m pc ls rest) q9)
    (kk : ∀ (r : Int32) (u : S) (H1 : Heap) (locs1 : List Loc), post r u → va_P D vwCl (pre ++ (wB u ++ suf)) H1 → va_D A (pre ++ (wB u ++ suf)) → va_S A H0 H1 locs1 → W p l e R s m args below meth c H1 locs1 (cells + mc) (slots + ms) Q (F0 m (pc + 3) ls (.int r :: rest))) : W p l e R s m args below meth c H locs cells slots Q (F0 m pc ls st0) := by
  subst hst
  have hF := blk_free hD hS hA
  refine vx_calli (vx_runV (rest := rest) Sx hM cw ⟨Pr.blind hXb, va_recv hE.1 hP hc (blk_get hr) |> fun ⟨cl, c1, c2, c3⟩ => ⟨cl, c1, c2, hC ▸ c3⟩, pr_blk hE hP hD hX⟩ rfl hn hls rfl (lv_room hW) hdg hf) hS (fun q _ h => hF q h) hF (fun q _ h => hF q h) (fun E ce q9 u t H1 locs1 ht hvm hpx hB hz1 hk1 hS1 hce hcv hcl => ?_) (fun r u t H1 locs1 ht hvm hw hB hz1 hk1 hS1 => ?_)
  · obtain ⟨hEx, hP1⟩ := hB
    rw [ht] at hP1
    exact kx E ce q9 H1 locs1 hEx (blk_join hP hD rfl hk1 hP1).1 hS1 hce hcv hcl
  · rw [ht] at hB
    obtain ⟨hP1, hD1⟩ := blk_join hP hD (hsame u) hk1 hB
    exact kk r u H1 locs1 hw hP1 hD1 hS1
/-- a call of the law's own helper -/
theorem bSi {S : Type} {ret : Option FieldType} {hh : List (Nat × Nat × Nat × Nat)} {post : Int32 → S → Prop} {wB : S → va_W} (Sx : CallFix p m c cc nL s args Ts own) (hM : Met l y ws rm (Pr D cA As H.size wc X) (va_Qi post (fun u t => va_P D vwCl (wB u) t.heap) (va_A wc H.size)) mc ms (va_A wc H.size)) (cw : vx_CSW R s args own index y bytes maxL ret hh ws rm mc ms n)
    (hE : EK D cA s) (hP : va_P D vwCl (pre ++ (wc ++ suf)) H) (hD : va_D A (pre ++ (wc ++ suf))) (hS : va_S A H0 H locs) (hA : ∀ q, H0.size ≤ q → A q) (hsame : ∀ u : S, (wB u).map (fun q => q.1) = wc.map (fun q => q.1)) (hXb : Blind X) (hX : ∀ U : State, U.heap = H → s.WarmedH U.vm → X U)
    (hls : ls.size = nL) (hn : As.length = n) (hst : st0 = As.reverse ++ rest) (hW : (rest.map fun v => v.category).sum ≤ 8) (hdg : decode cc pc = .ok (.invokestatic index, 3)) (hf : cells + mc ≤ R.cells ∧ slots + ms ≤ R.slots)
    (kk : ∀ (r : Int32) (u : S) (H1 : Heap) (locs1 : List Loc), post r u → va_P D vwCl (pre ++ (wB u ++ suf)) H1 → va_D A (pre ++ (wB u ++ suf)) → va_S A H0 H1 locs1 → W p l e R s m args below meth c H1 locs1 (cells + mc) (slots + ms) Q (F0 m (pc + 3) ls (.int r :: rest))) : W p l e R s m args below meth c H locs cells slots Q (F0 m pc ls st0) := by
  subst hst
  have hF := blk_free hD hS hA
  refine va_calli (vx_runSW (rest := rest) Sx hM cw ⟨Pr.blind hXb, pr_blk hE hP hD hX⟩ rfl hn hls rfl (lv_room hW) hdg hf) hS (fun q _ h => hF q h) hF (fun r u t H1 locs1 ht hvm hw hB hz1 hk1 hS1 => ?_)
  rw [ht] at hB
  obtain ⟨hP1, hD1⟩ := blk_join hP hD (hsame u) hk1 hB
  exact kk r u H1 locs1 hw hP1 hD1 hS1
/-- a call of the reference -/
theorem bVi {S : Type} {ret : Option FieldType} {post : Int32 → S → Prop} {wB : S → va_W} (Sx : CallFix p m c cc nL s args Ts own) (hM : Met l y ws rm (Pr D cA (.ref b :: As) H.size wc X) (va_Qi post (fun u t => va_P D vwCl (wB u) t.heap) (va_A wc H.size)) mc ms (va_A wc H.size)) (cw : CallW R s args own C index y bytes maxL ret ws rm mc ms n)
    (hE : EK D cA s) (hP : va_P D vwCl (pre ++ (wc ++ suf)) H) (hD : va_D A (pre ++ (wc ++ suf))) (hS : va_S A H0 H locs) (hA : ∀ q, H0.size ≤ q → A q) (hsame : ∀ u : S, (wB u).map (fun q => q.1) = wc.map (fun q => q.1)) (hXb : Blind X) (hX : ∀ U : State, U.heap = H → s.WarmedH U.vm → X U)
    (q0 ci : Nat) {fs : List Value} {q : vw_C} (hr : wc[q0]? = some (b, .inr (ci, fs))) (hc : vwCl[ci]? = some q) (hC : q.1 = C) (hls : ls.size = nL) (hn : As.length = n) (hst : st0 = As.reverse ++ .ref b :: rest) (hW : (rest.map fun v => v.category).sum ≤ 8) (hdg : decode cc pc = .ok (.invokevirtual index, 3)) (hf : cells + mc ≤ R.cells ∧ slots + ms ≤ R.slots)
    (kk : ∀ (r : Int32) (u : S) (H1 : Heap) (locs1 : List Loc), post r u → va_P D vwCl (pre ++ (wB u ++ suf)) H1 → va_D A (pre ++ (wB u ++ suf)) → va_S A H0 H1 locs1 → W p l e R s m args below meth c H1 locs1 (cells + mc) (slots + ms) Q (F0 m (pc + 3) ls (.int r :: rest))) : W p l e R s m args below meth c H locs cells slots Q (F0 m pc ls st0) := by
  subst hst
  have hF := blk_free hD hS hA
  refine va_calli (va_runV (rest := rest) Sx hM cw ⟨Pr.blind hXb, va_recv hE.1 hP hc (blk_get hr) |> fun ⟨cl, c1, c2, c3⟩ => ⟨cl, c1, c2, hC ▸ c3⟩, pr_blk hE hP hD hX⟩ rfl hn hls rfl (lv_room hW) hdg hf) hS (fun q _ h => hF q h) hF (fun r u t H1 locs1 ht hvm hw hB hz1 hk1 hS1 => ?_)
  rw [ht] at hB
  obtain ⟨hP1, hD1⟩ := blk_join hP hD (hsame u) hk1 hB
  exact kk r u H1 locs1 hw hP1 hD1 hS1
theorem bVl {S : Type} {ret : Option FieldType} {post : Int64 → S → Prop} {wB : S → va_W} (Sx : CallFix p m c cc nL s args Ts own) (hM : Met l y ws rm (Pr D cA (.ref b :: As) H.size wc X) (va_Ql post (fun u t => va_P D vwCl (wB u) t.heap) (va_A wc H.size)) mc ms (va_A wc H.size)) (cw : CallW R s args own C index y bytes maxL ret ws rm mc ms n)
    (hE : EK D cA s) (hP : va_P D vwCl (pre ++ (wc ++ suf)) H) (hD : va_D A (pre ++ (wc ++ suf))) (hS : va_S A H0 H locs) (hA : ∀ q, H0.size ≤ q → A q) (hsame : ∀ u : S, (wB u).map (fun q => q.1) = wc.map (fun q => q.1)) (hXb : Blind X) (hX : ∀ U : State, U.heap = H → s.WarmedH U.vm → X U)
    (q0 ci : Nat) {fs : List Value} {q : vw_C} (hr : wc[q0]? = some (b, .inr (ci, fs))) (hc : vwCl[ci]? = some q) (hC : q.1 = C) (hls : ls.size = nL) (hn : As.length = n) (hst : st0 = As.reverse ++ .ref b :: rest) (hW : (rest.map fun v => v.category).sum ≤ 8) (hdg : decode cc pc = .ok (.invokevirtual index, 3)) (hf : cells + mc ≤ R.cells ∧ slots + ms ≤ R.slots)
    (kk : ∀ (r : Int64) (u : S) (H1 : Heap) (locs1 : List Loc), post r u → va_P D vwCl (pre ++ (wB u ++ suf)) H1 → va_D A (pre ++ (wB u ++ suf)) → va_S A H0 H1 locs1 → W p l e R s m args below meth c H1 locs1 (cells + mc) (slots + ms) Q (F0 m (pc + 3) ls (.long r :: rest))) : W p l e R s m args below meth c H locs cells slots Q (F0 m pc ls st0) := by
  subst hst
  have hF := blk_free hD hS hA
  refine va_calll (va_runV (rest := rest) Sx hM cw ⟨Pr.blind hXb, va_recv hE.1 hP hc (blk_get hr) |> fun ⟨cl, c1, c2, c3⟩ => ⟨cl, c1, c2, hC ▸ c3⟩, pr_blk hE hP hD hX⟩ rfl hn hls rfl (lv_room hW) hdg hf) hS (fun q _ h => hF q h) hF (fun r u t H1 locs1 ht hvm hw hB hz1 hk1 hS1 => ?_)
  rw [ht] at hB
  obtain ⟨hP1, hD1⟩ := blk_join hP hD (hsame u) hk1 hB
  exact kk r u H1 locs1 hw hP1 hD1 hS1
theorem bVd {S : Type} {ret : Option FieldType} {post : UInt64 → S → Prop} {wB : S → va_W} (Sx : CallFix p m c cc nL s args Ts own) (hM : Met l y ws rm (Pr D cA (.ref b :: As) H.size wc X) (va_Qd post (fun u t => va_P D vwCl (wB u) t.heap) (va_A wc H.size)) mc ms (va_A wc H.size)) (cw : CallW R s args own C index y bytes maxL ret ws rm mc ms n)
    (hE : EK D cA s) (hP : va_P D vwCl (pre ++ (wc ++ suf)) H) (hD : va_D A (pre ++ (wc ++ suf))) (hS : va_S A H0 H locs) (hA : ∀ q, H0.size ≤ q → A q) (hsame : ∀ u : S, (wB u).map (fun q => q.1) = wc.map (fun q => q.1)) (hXb : Blind X) (hX : ∀ U : State, U.heap = H → s.WarmedH U.vm → X U)
    (q0 ci : Nat) {fs : List Value} {q : vw_C} (hr : wc[q0]? = some (b, .inr (ci, fs))) (hc : vwCl[ci]? = some q) (hC : q.1 = C) (hls : ls.size = nL) (hn : As.length = n) (hst : st0 = As.reverse ++ .ref b :: rest) (hW : (rest.map fun v => v.category).sum ≤ 8) (hdg : decode cc pc = .ok (.invokevirtual index, 3)) (hf : cells + mc ≤ R.cells ∧ slots + ms ≤ R.slots)
    (kk : ∀ (r : UInt64) (u : S) (H1 : Heap) (locs1 : List Loc), post r u → va_P D vwCl (pre ++ (wB u ++ suf)) H1 → va_D A (pre ++ (wB u ++ suf)) → va_S A H0 H1 locs1 → W p l e R s m args below meth c H1 locs1 (cells + mc) (slots + ms) Q (F0 m (pc + 3) ls (.double r :: rest))) : W p l e R s m args below meth c H locs cells slots Q (F0 m pc ls st0) := by
  subst hst
  have hF := blk_free hD hS hA
  refine va_calld (va_runV (rest := rest) Sx hM cw ⟨Pr.blind hXb, va_recv hE.1 hP hc (blk_get hr) |> fun ⟨cl, c1, c2, c3⟩ => ⟨cl, c1, c2, hC ▸ c3⟩, pr_blk hE hP hD hX⟩ rfl hn hls rfl (lv_room hW) hdg hf) hS (fun q _ h => hF q h) hF (fun r u t H1 locs1 ht hvm hw hB hz1 hk1 hS1 => ?_)
  rw [ht] at hB
  obtain ⟨hP1, hD1⟩ := blk_join hP hD (hsame u) hk1 hB
  exact kk r u H1 locs1 hw hP1 hD1 hS1
/-- a call that only reads -/
theorem qVi {S : Type} {ret : Option FieldType} {post : Int32 → S → Prop} (Sx : CallFix p m c cc nL s args Ts own) (hM : Met l y ws rm (Pr D cA (.ref b :: As) H.size wc X) (va_Qi post (fun _ _ => True) (fun q => H.size ≤ q)) mc ms (fun q => H.size ≤ q)) (cw : CallW R s args own C index y bytes maxL ret ws rm mc ms n)
    (hE : EK D cA s) (hP : va_P D vwCl (pre ++ (wc ++ suf)) H) {A9 : Nat → Prop} (hD : va_D A9 (pre ++ (wc ++ suf))) (hS : va_S A H0 H locs) (hA : ∀ q, H0.size ≤ q → A q) (hXb : Blind X) (hX : ∀ U : State, U.heap = H → s.WarmedH U.vm → X U)
    (q0 ci : Nat) {fs : List Value} {q : vw_C} (hr : wc[q0]? = some (b, .inr (ci, fs))) (hc : vwCl[ci]? = some q) (hC : q.1 = C) (hls : ls.size = nL) (hn : As.length = n) (hst : st0 = As.reverse ++ .ref b :: rest) (hW : (rest.map fun v => v.category).sum ≤ 8) (hdg : decode cc pc = .ok (.invokevirtual index, 3)) (hf : cells + mc ≤ R.cells ∧ slots + ms ≤ R.slots)
    (kk : ∀ (r : Int32) (u : S) (H1 : Heap) (locs1 : List Loc), post r u → va_P D vwCl (pre ++ (wc ++ suf)) H1 → va_S A H0 H1 locs1 → W p l e R s m args below meth c H1 locs1 (cells + mc) (slots + ms) Q (F0 m (pc + 3) ls (.int r :: rest))) : W p l e R s m args below meth c H locs cells slots Q (F0 m pc ls st0) := by
  subst hst
  have hF : ∀ q, H.size ≤ q → A q := fun q h => hA q (Nat.le_trans hS.1 h)
  refine va_calli (va_runV (rest := rest) Sx hM cw ⟨Pr.blind hXb, va_recv hE.1 hP hc (blk_get hr) |> fun ⟨cl, c1, c2, c3⟩ => ⟨cl, c1, c2, hC ▸ c3⟩, pr_blk hE hP hD hX⟩ rfl hn hls rfl (lv_room hW) hdg hf) hS (fun q _ h => hF q h) hF (fun r u t H1 locs1 ht hvm hw hB hz1 hk1 hS1 => ?_)
  exact kk r u H1 locs1 hw (pure_P hP hk1) hS1
theorem qVl {S : Type} {ret : Option FieldType} {post : Int64 → S → Prop} (Sx : CallFix p m c cc nL s args Ts own) (hM : Met l y ws rm (Pr D cA (.ref b :: As) H.size wc X) (va_Ql post (fun _ _ => True) (fun q => H.size ≤ q)) mc ms (fun q => H.size ≤ q)) (cw : CallW R s args own C index y bytes maxL ret ws rm mc ms n)
    (hE : EK D cA s) (hP : va_P D vwCl (pre ++ (wc ++ suf)) H) {A9 : Nat → Prop} (hD : va_D A9 (pre ++ (wc ++ suf))) (hS : va_S A H0 H locs) (hA : ∀ q, H0.size ≤ q → A q) (hXb : Blind X) (hX : ∀ U : State, U.heap = H → s.WarmedH U.vm → X U)
    (q0 ci : Nat) {fs : List Value} {q : vw_C} (hr : wc[q0]? = some (b, .inr (ci, fs))) (hc : vwCl[ci]? = some q) (hC : q.1 = C) (hls : ls.size = nL) (hn : As.length = n) (hst : st0 = As.reverse ++ .ref b :: rest) (hW : (rest.map fun v => v.category).sum ≤ 8) (hdg : decode cc pc = .ok (.invokevirtual index, 3)) (hf : cells + mc ≤ R.cells ∧ slots + ms ≤ R.slots)
    (kk : ∀ (r : Int64) (u : S) (H1 : Heap) (locs1 : List Loc), post r u → va_P D vwCl (pre ++ (wc ++ suf)) H1 → va_S A H0 H1 locs1 → W p l e R s m args below meth c H1 locs1 (cells + mc) (slots + ms) Q (F0 m (pc + 3) ls (.long r :: rest))) : W p l e R s m args below meth c H locs cells slots Q (F0 m pc ls st0) := by
  subst hst
  have hF : ∀ q, H.size ≤ q → A q := fun q h => hA q (Nat.le_trans hS.1 h)
  refine va_calll (va_runV (rest := rest) Sx hM cw ⟨Pr.blind hXb, va_recv hE.1 hP hc (blk_get hr) |> fun ⟨cl, c1, c2, c3⟩ => ⟨cl, c1, c2, hC ▸ c3⟩, pr_blk hE hP hD hX⟩ rfl hn hls rfl (lv_room hW) hdg hf) hS (fun q _ h => hF q h) hF (fun r u t H1 locs1 ht hvm hw hB hz1 hk1 hS1 => ?_)
  exact kk r u H1 locs1 hw (pure_P hP hk1) hS1
theorem qVd {S : Type} {ret : Option FieldType} {post : UInt64 → S → Prop} (Sx : CallFix p m c cc nL s args Ts own) (hM : Met l y ws rm (Pr D cA (.ref b :: As) H.size wc X) (va_Qd post (fun _ _ => True) (fun q => H.size ≤ q)) mc ms (fun q => H.size ≤ q)) (cw : CallW R s args own C index y bytes maxL ret ws rm mc ms n)
    (hE : EK D cA s) (hP : va_P D vwCl (pre ++ (wc ++ suf)) H) {A9 : Nat → Prop} (hD : va_D A9 (pre ++ (wc ++ suf))) (hS : va_S A H0 H locs) (hA : ∀ q, H0.size ≤ q → A q) (hXb : Blind X) (hX : ∀ U : State, U.heap = H → s.WarmedH U.vm → X U)
    (q0 ci : Nat) {fs : List Value} {q : vw_C} (hr : wc[q0]? = some (b, .inr (ci, fs))) (hc : vwCl[ci]? = some q) (hC : q.1 = C) (hls : ls.size = nL) (hn : As.length = n) (hst : st0 = As.reverse ++ .ref b :: rest) (hW : (rest.map fun v => v.category).sum ≤ 8) (hdg : decode cc pc = .ok (.invokevirtual index, 3)) (hf : cells + mc ≤ R.cells ∧ slots + ms ≤ R.slots)
    (kk : ∀ (r : UInt64) (u : S) (H1 : Heap) (locs1 : List Loc), post r u → va_P D vwCl (pre ++ (wc ++ suf)) H1 → va_S A H0 H1 locs1 → W p l e R s m args below meth c H1 locs1 (cells + mc) (slots + ms) Q (F0 m (pc + 3) ls (.double r :: rest))) : W p l e R s m args below meth c H locs cells slots Q (F0 m pc ls st0) := by
  subst hst
  have hF : ∀ q, H.size ≤ q → A q := fun q h => hA q (Nat.le_trans hS.1 h)
  refine va_calld (va_runV (rest := rest) Sx hM cw ⟨Pr.blind hXb, va_recv hE.1 hP hc (blk_get hr) |> fun ⟨cl, c1, c2, c3⟩ => ⟨cl, c1, c2, hC ▸ c3⟩, pr_blk hE hP hD hX⟩ rfl hn hls rfl (lv_room hW) hdg hf) hS (fun q _ h => hF q h) hF (fun r u t H1 locs1 ht hvm hw hB hz1 hk1 hS1 => ?_)
  exact kk r u H1 locs1 hw (pure_P hP hk1) hS1
/-- the law's row of one long, behind a block: written, read -/
theorem lstO (hexec : p.tables.exec = Jvm.exec) (hb : c.code = cc) {cL : ClassId} {o : Nat} {v : Nat → Int64} (hK : va_K D vwCl [(cL, .long)] s) {w : va_W} (hP : va_P D vwCl (w ++ wO cL o v) H) (hD : va_D A (w ++ wO cL o v)) (hS : va_S A H0 H locs) {x : Int64} (hdg : decode cc pc = .ok (.lastore, 1))
    (kk : ∀ (v1 : Nat → Int64) (H1 : Heap) (locs1 : List Loc), v1 0 = x → va_P D vwCl (w ++ wO cL o v1) H1 → va_S A H0 H1 locs1 → W p l e R s m args below meth c H1 locs1 cells slots Q (F0 m (pc + 1) ls rest)) : W p l e R s m args below meth c H locs cells slots Q (F0 m pc ls (.long x :: .int 0 :: .ref o :: rest)) := by
  have ha : (w ++ wO cL o v)[w.length]? = some (o, .inl (cL, 1, .inr (.inl v))) := by
    rw [List.getElem?_append_right (Nat.le_refl _), Nat.sub_self]; rfl
  refine va_last hexec hb hK hP hD hS w.length 0 ha rfl (vp_in_nI (n := 0) (by decide) (by decide)) hdg (fun H1 locs1 hP1 hD1 hS1 => ?_)
  have e : (w ++ wO cL o v).set w.length (o, .inl (cL, 1, .inr (.inl (vp_updL v (0 : Int32).toNatClampNeg x)))) = w ++ wO cL o (vp_updL v (0 : Int32).toNatClampNeg x) := by
    rw [List.set_append_right _ _ (Nat.le_refl _), Nat.sub_self]; rfl
  rw [e] at hP1
  exact kk _ H1 locs1 (by rw [sb_cl0]; exact if_pos rfl) hP1 hS1
theorem lldO (hexec : p.tables.exec = Jvm.exec) (hb : c.code = cc) {cL : ClassId} {o : Nat} {v : Nat → Int64} (hK : va_K D vwCl [(cL, .long)] s) {w w2 : va_W} (hP : va_P D vwCl ((w ++ wO cL o v) ++ w2) H) (hdg : decode cc pc = .ok (.laload, 1))
    (kk : W p l e R s m args below meth c H locs cells slots Q (F0 m (pc + 1) ls (.long (v 0) :: rest))) : W p l e R s m args below meth c H locs cells slots Q (F0 m pc ls (.int 0 :: .ref o :: rest)) := by
  have ha : ((w ++ wO cL o v) ++ w2)[w.length]? = some (o, .inl (cL, 1, .inr (.inl v))) := by
    rw [List.append_assoc, List.getElem?_append_right (Nat.le_refl _), Nat.sub_self]; rfl
  refine va_lald hexec hb hK hP w.length 0 ha rfl (vp_in_nI (n := 0) (by decide) (by decide)) hdg ?_
  rw [sb_cl0]
  exact kk
end LAWKIT
