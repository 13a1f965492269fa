/-! our own kit: the environment, calls in place -/
def nestW : List Cond := [.fieldLinkNest "LanternWeirsModel" 39 "LanternWeirsModel$State" "lanterns" "I" "LanternWeirsModel",
  .fieldLinkNest "LanternWeirsModel" 88 "LanternWeirsModel$State" "frame" "[I" "LanternWeirsModel",
  .fieldLinkNest "LanternWeirsModel" 91 "LanternWeirsModel$State" "wish" "[I" "LanternWeirsModel",
  .fieldLinkNest "LanternWeirsModel" 76 "LanternWeirsModel$State" "lane" "[I" "LanternWeirsModel",
  .fieldLinkNest "LanternWeirsModel" 94 "LanternWeirsModel$State" "place" "[I" "LanternWeirsModel",
  .fieldLinkNest "LanternWeirsModel" 85 "LanternWeirsModel$State" "wax" "[I" "LanternWeirsModel",
  .fieldLinkNest "LanternWeirsModel" 97 "LanternWeirsModel$State" "wet" "[I" "LanternWeirsModel",
  .fieldLinkNest "LanternWeirsModel" 79 "LanternWeirsModel$State" "burns" "[I" "LanternWeirsModel",
  .fieldLinkNest "LanternWeirsModel" 73 "LanternWeirsModel$State" "state" "[I" "LanternWeirsModel",
  .fieldLinkNest "LanternWeirsModel" 100 "LanternWeirsModel$State" "ended" "[I" "LanternWeirsModel",
  .fieldLinkNest "LanternWeirsModel$State" 73 "LanternWeirsModel" "current" "[I" "LanternWeirsModel",
  .fieldLinkNest "LanternWeirsModel$State" 114 "LanternWeirsModel" "weirs" "I" "LanternWeirsModel",
  .fieldLinkNest "LanternWeirsModel$State" 88 "LanternWeirsModel" "spray" "[I" "LanternWeirsModel",
  .fieldLinkNest "LanternWeirsModel$State" 117 "LanternWeirsModel" "nets" "I" "LanternWeirsModel",
  .fieldLinkNest "LanternWeirsModel$State" 104 "LanternWeirsModel" "net" "[I" "LanternWeirsModel",
  .fieldLinkNest "LanternWeirsModel$State" 63 "LanternWeirsModel" "WAX" "[I" "LanternWeirsModel",
  .fieldLinkNest "LanternWeirsModel$State" 66 "LanternWeirsModel" "TAKES" "[I" "LanternWeirsModel",
  .methodLinkNest "LanternWeirs" 18 ⟨"LanternWeirs$Fleet", "<init>", "()V"⟩ "LanternWeirs",
  .methodLinkNest "LanternWeirs$Fleet" 72 ⟨"LanternWeirs", "isWithin", "(III)Z"⟩ "LanternWeirs",
  .methodLinkNest "LanternWeirs$Fleet" 65 ⟨"LanternWeirs", "waxOf", "(I)I"⟩ "LanternWeirs",
  .methodLinkNest "LanternWeirs$Fleet" 83 ⟨"LanternWeirs", "sprayTakenBy", "(I)I"⟩ "LanternWeirs",
  .methodLinkNest "LanternWeirsModel" 21 ⟨"LanternWeirsModel$State", "<init>", "(LLanternWeirsModel;)V"⟩ "LanternWeirsModel"]
def isNestW : Cond → Bool
  | .fieldLinkNest _ _ _ _ _ _ => true
  | .methodLinkNest _ _ _ _ => true
  | _ => false
theorem nestW_ok : nestW.all isNestW = true := by decide +kernel
def Nst (U : State) : Prop := ∀ w ∈ nestW, va_Nw w U
theorem Nst.warm {s U : State} (hW : s.WarmedH U.vm) (h : Nst s) : Nst U := by
  intro w hw
  have h1 := List.all_eq_true.mp nestW_ok w hw
  have h2 := h w hw
  cases w <;> first | exact va_Nw.warmF hW h2 | exact va_Nw.warmM hW h2 | (simp [isNestW] at h1)
theorem Nst.same {u U : State} (hvm : u.vm = U.vm) (h : Nst u) : Nst U := by
  intro w hw
  have h1 := List.all_eq_true.mp nestW_ok w hw
  have h2 := h w hw
  cases w <;> first | exact va_Nw.same rfl hvm h2 | (simp [isNestW] at h1)
def EK (D : va_G) (cA : ClassId) (U : State) : Prop := va_K D vwCl [(cA, .int)] U ∧ U.vm.findClass "[I" = some cA ∧ Nst U
theorem EK.warm {D : va_G} {cA : ClassId} {s U : State} (hW : s.WarmedH U.vm) (h : EK D cA s) : EK D cA U := ⟨va_K.moved hW.alike h.1, by rw [hW.alike.findClass]; exact h.2.1, Nst.warm hW h.2.2⟩
theorem EK.blind {D : va_G} {cA : ClassId} {U : State} (h : EK D cA U) (g : JFrame) (mk : MethodId) (a : Array Value) : EK D cA (U.calling g mk a) := ⟨va_K.moved (u := U) (U := U.calling g mk a) (Vm.Alike.refl U.vm) h.1, h.2.1, Nst.same (u := U) rfl h.2.2⟩
def Pr (D : va_G) (cA : ClassId) (av : List Value) (sz : Nat) (wc : va_W) (X : State → Prop) : Array Value → State → Prop := va_Pc av (fun U => U.heap.size = sz ∧ va_P D vwCl wc U.heap ∧ EK D cA U ∧ va_D (fun _ => True) wc ∧ X U)
def Blind (X : State → Prop) : Prop := ∀ (U : State) (g : JFrame) (mk : MethodId) (a : Array Value), X U → X (U.calling g mk a)
def X0 : State → Prop := fun _ => True
theorem X0.blind : Blind X0 := fun _ _ _ _ _ => trivial
theorem X0.at {P : State → Prop} : ∀ U : State, P U → ∀ s : State, s.WarmedH U.vm → X0 U := fun _ _ _ _ => trivial
theorem Pr.blind {D : va_G} {cA : ClassId} {av : List Value} {sz : Nat} {wc : va_W} {X : State → Prop} (hX : Blind X) : FrameBlind (Pr D cA av sz wc X) := fun a U g mk q => by
  obtain ⟨q0, q1, qP, qK, qD, qX⟩ := q
  exact ⟨q0, q1, qP, qK.blind g mk a, qD, hX U g mk a qX⟩
def pst : va_W → List Nat → va_W → va_W
  | ws, i :: is, c :: cs => pst (ws.set i c) is cs
  | ws, _, _ => ws
theorem pst_get : ∀ (ps : List Nat) (ws w1 : va_W), w1.length = ps.length → ∀ (k : Nat) (q : Nat × va_E), (pst ws ps w1)[k]? = some q → (ws[k]? = some q ∧ k ∉ ps) ∨ ∃ j : Nat, ps[j]? = some k ∧ w1[j]? = some q
  | [], ws, [], _, k, q, h => Or.inl ⟨h, List.not_mem_nil⟩
  | i :: is, ws, c :: cs, hl, k, q, h => by
    rcases pst_get is (ws.set i c) cs (Nat.succ.inj hl) k q h with ⟨h1, h2⟩ | ⟨j, h1, h2⟩
    · rw [List.getElem?_set] at h1
      by_cases hk : i = k
      · rw [if_pos hk] at h1
        split at h1
        · exact Or.inr ⟨0, by rw [hk]; rfl, h1⟩
        · cases h1
      · rw [if_neg hk] at h1
        exact Or.inl ⟨h1, fun hm => (List.mem_cons.mp hm).elim (fun e => hk e.symm) h2⟩
    · exact Or.inr ⟨j + 1, h1, h2⟩
theorem pst_map {ws wc : va_W} {ps : List Nat} (hps : ps.map (fun i => ws[i]?) = wc.map some) {j k : Nat} (h : ps[j]? = some k) : ws[k]? = wc[j]? := by
  have h1 : (ps.map (fun i => ws[i]?))[j]? = (wc.map some)[j]? := by rw [hps]
  rw [List.getElem?_map, List.getElem?_map, h] at h1
  cases hc : wc[j]? with
  | none => rw [hc] at h1; cases h1
  | some c => rw [hc] at h1; exact Option.some.inj h1
theorem pst_len {ws wc w1 : va_W} {ps : List Nat} (hps : ps.map (fun i => ws[i]?) = wc.map some) (hsame : w1.map (fun q => q.1) = wc.map (fun q => q.1)) : w1.length = ps.length := by
  have h1 := congrArg List.length hps
  have h2 := congrArg List.length hsame
  simp only [List.length_map] at h1 h2
  omega
theorem pst_addr {ws wc w1 : va_W} {ps : List Nat} (hps : ps.map (fun i => ws[i]?) = wc.map some) (hsame : w1.map (fun q => q.1) = wc.map (fun q => q.1)) (k : Nat) (q : Nat × va_E) (h : (pst ws ps w1)[k]? = some q) : ∃ q', ws[k]? = some q' ∧ q'.1 = q.1 := by
  rcases pst_get ps ws w1 (pst_len hps hsame) k q h with ⟨h1, -⟩ | ⟨j, h1, h2⟩
  · exact ⟨q, h1, rfl⟩
  · have h3 : (w1.map (fun q => q.1))[j]? = (wc.map (fun q => q.1))[j]? := by rw [hsame]
    rw [List.getElem?_map, List.getElem?_map, h2] at h3
    cases hc : wc[j]? with
    | none => rw [hc] at h3; cases h3
    | some c => rw [hc] at h3; exact ⟨c, (pst_map hps h1).trans hc, (Option.some.inj h3).symm⟩
theorem pst_join {A0 : Nat → Prop} {D : va_G} {cl : List vw_C} {ws wc w1 : va_W} {H H1 : Heap} (hP : va_P D cl ws H) (hD : va_D A0 ws) (ps : List Nat) (hps : ps.map (fun i => ws[i]?) = wc.map some) (hsame : w1.map (fun q => q.1) = wc.map (fun q => q.1))
    (hk : ∀ q : Nat, q < H.size → ¬ va_A wc H.size q → H1[q]? = H[q]?) (hP1 : va_P D cl w1 H1) : va_P D cl (pst ws ps w1) H1 ∧ va_D A0 (pst ws ps w1) := by
  refine ⟨fun k q h => ?_, fun i j p q hp hq e => ?_, fun k q h => ?_⟩
  · rcases pst_get ps ws w1 (pst_len hps hsame) k q h with ⟨h1, h2⟩ | ⟨j, -, h2⟩
    · have hl := (hP k q h1).lt
      refine (hP k q h1).kept (hk q.1 hl (fun hA => ?_))
      rcases hA with ⟨k2, e, hc⟩ | hA
      · have hj : k2 < ps.length := by
          have h3 := congrArg List.length hps
          simp only [List.length_map] at h3
          rw [h3]
          exact (List.getElem?_eq_some_iff.mp hc).1
        have h4 : ps[k2]? = some ps[k2] := List.getElem?_eq_getElem hj
        have h5 := (pst_map hps h4).trans hc
        have h6 := hD.1 k ps[k2] q (q.1, e) h1 h5 rfl
        exact h2 (h6 ▸ List.getElem_mem hj)
      · omega
    · exact hP1 j q h2
  · obtain ⟨p', a1, a2⟩ := pst_addr hps hsame i p hp
    obtain ⟨q', b1, b2⟩ := pst_addr hps hsame j q hq
    exact hD.1 i j p' q' a1 b1 (by rw [a2, b2]; exact e)
  · obtain ⟨q', b1, b2⟩ := pst_addr hps hsame k q h
    rw [← b2]
    exact hD.2 k q' b1
theorem pst_mid : ∀ (ws w1 pre suf : va_W), ws.length = w1.length → pst (pre ++ (ws ++ suf)) (List.range' pre.length ws.length) w1 = pre ++ (w1 ++ suf)
  | [], [], pre, suf, _ => rfl
  | c :: ws, d :: w1, pre, suf, h => by
    have h1 := pst_mid ws w1 (pre ++ [d]) suf (Nat.succ.inj h)
    have h2 : (pre ++ (c :: ws ++ suf)).set pre.length d = (pre ++ [d]) ++ (ws ++ suf) := by
      rw [List.set_append_right _ _ (Nat.le_refl _), Nat.sub_self]
      simp
    show pst ((pre ++ (c :: ws ++ suf)).set pre.length d) (List.range' (pre.length + 1) ws.length) w1 = _
    rw [h2]
    rw [List.length_append] at h1
    rw [show pre.length + 1 = pre.length + [d].length from rfl, h1]
    simp
theorem pst_all {ws w1 : va_W} {ps : List Nat} (n : Nat) (h0 : ws.length = n) (h1 : w1.length = n) (hp : ps = List.range' 0 n) : pst ws ps w1 = w1 := by
  have h : ws.length = w1.length := h0.trans h1.symm
  rw [← h0] at hp
  clear h0 h1
  have h1 := pst_mid ws w1 [] [] h
  rw [List.append_nil, List.append_nil] at h1
  rw [hp]
  exact h1
theorem pst_blk (pre suf : va_W) {ws wc w1 w2 : va_W} {ps : List Nat} (n k : Nat) (hw : ws = pre ++ (wc ++ suf)) (h0 : wc.length = n) (h1 : w1.length = n) (hk : pre.length = k) (hp : ps = List.range' k n) (h2 : pre ++ (w1 ++ suf) = w2) : pst ws ps w1 = w2 := by
  have h : wc.length = w1.length := h0.trans h1.symm
  rw [← h0, ← hk] at hp
  rw [hw, hp, ← h2]
  exact pst_mid wc w1 pre suf h
/-- an array's contents count as far as it reaches -/
theorem arr_same {cA : ClassId} {n : Nat} {f g : Nat → Int32} (h : ∀ j, j < n → f j = g j) : vp_cell cA (n, .inl f) = vp_cell cA (n, .inl g) := by
  rw [vp_cell_i, vp_cell_i]
  have h1 : (fun j : Fin n => Value.int (f j.val)) = fun j : Fin n => Value.int (g j.val) := funext fun j => by rw [h j.val j.isLt]
  show ({ cls := cA, slots := Array.ofFn (n := n) fun j => Value.int (f j.val), vm := .none } : Cell) = { cls := cA, slots := Array.ofFn (n := n) fun j => Value.int (g j.val), vm := .none }
  rw [h1]
theorem va_P.arr {D : va_G} {cl : List vw_C} {ws : va_W} {H : Heap} (hP : va_P D cl ws H) (k : Nat) {a : Nat} {cA : ClassId} {n : Nat} {f : Nat → Int32} (g : Nat → Int32) (hk : ws[k]? = some (a, .inl (cA, n, .inl f))) (h : ∀ j, j < n → f j = g j) : va_P D cl (ws.set k (a, .inl (cA, n, .inl g))) H := by
  intro j q hq
  rw [List.getElem?_set] at hq
  by_cases hj : k = j
  · rw [if_pos hj] at hq
    split at hq
    · cases hq
      have h1 := hP k _ hk
      show H[a]? = some (vp_cell cA (n, .inl g))
      rw [← arr_same h]
      exact h1
    · cases hq
  · rw [if_neg hj] at hq
    exact hP j q hq
section OWNKIT
variable {p : Program} {l : Launch} {e : Env} {R : Room} {s : State} {m : MethodId} {args : Array Value} {below : List Frame} {meth : Method} {c : Code} {H : Heap} {locs : List Loc} {cells slots : Nat} {Q : State → Prop}
variable {pc : Nat} {ls : Array Slot} {rest st0 : List Value} {A : Nat → Prop} {H0 : Heap} {mc ms : Nat} {D : va_G} {cA : ClassId} {wsW wc : va_W} {X : State → Prop}
variable {y : MethodName} {bytes cc : ByteArray} {maxL nL n index : Nat} {ws : List Cond} {rm : Room} {Ts : List Cond} {own C host : String} {b : Nat} {As : List Value}
theorem pr_at {av : List Value} (hE : EK D cA s) (hP : va_P D vwCl wsW H) (hD : va_D A wsW) (ps : List Nat) (hnd : va_nd ps = true) (hps : ps.map (fun i => wsW[i]?) = wc.map some) (hX : ∀ U : State, U.heap = H → s.WarmedH U.vm → X U) (U : State) (hU : U.heap = H) (hW : s.WarmedH U.vm) : Pr D cA av H.size wc X av.toArray U := by
  have h1 : ∀ k q, wc[k]? = some q → ∃ i, ps[i]? = some k ∨ wsW[i]? = some q := fun k q h => by
    have hj : k < ps.length := by
      have h3 := congrArg List.length hps
      simp only [List.length_map] at h3
      rw [h3]
      exact (List.getElem?_eq_some_iff.mp h).1
    exact ⟨ps[k], Or.inr ((pst_map hps (List.getElem?_eq_getElem hj)).trans h)⟩
  refine ⟨rfl, by rw [hU], ?_, hE.warm hW, (hD.sub ps hnd hps).weaken (fun _ _ _ _ => trivial), hX U hU hW⟩
  rw [hU]
  intro k q h
  have hj : k < ps.length := by
    have h3 := congrArg List.length hps
    simp only [List.length_map] at h3
    rw [h3]
    exact (List.getElem?_eq_some_iff.mp h).1
  exact hP ps[k] q ((pst_map hps (List.getElem?_eq_getElem hj)).trans h)
/-- a heap in which no old cell has changed -/
theorem pure_P {H1 : Heap} (hP : va_P D vwCl wsW H) (h : ∀ q : Nat, q < H.size → ¬ H.size ≤ q → H1[q]? = H[q]?) : va_P D vwCl wsW H1 := hP.kept (fun k q hk => h q.1 (hP k q hk).lt (Nat.not_le.mpr (hP k q hk).lt))

theorem cVi {S : Type} {ret : Option FieldType} {post : Int32 → S → Prop} {wB : S → va_W} (Sx : CallFix p m c cc nL s args Ts own) (hM : Met l y ws rm (Pr D cA (.ref b :: As) H.size wc X) (va_Qi post (fun u t => va_P D vwCl (wB u) t.heap) (va_A wc H.size)) mc ms (va_A wc H.size)) (cw : CallW R s args own C index y bytes maxL ret ws rm mc ms n)
    (hE : EK D cA s) (hP : va_P D vwCl wsW H) (hD : va_D A wsW) (hS : va_S A H0 H locs) (hA : ∀ q, H0.size ≤ q → A q) (ps : List Nat) (hnd : va_nd ps = true) (hps : ps.map (fun i => wsW[i]?) = wc.map some) (as : List Nat) (hs1 : ∀ u : S, (wB u).map (fun q => q.1) = as) (hs2 : wc.map (fun q => q.1) = as) (w2 : S → va_W) (hw2 : ∀ u : S, pst wsW ps (wB u) = w2 u) (hXb : Blind X) (hX : ∀ U : State, U.heap = H → s.WarmedH U.vm → X U)
    (q0 ci : Nat) {fs : List Value} {q : vw_C} (hr : wsW[q0]? = some (b, .inr (ci, fs))) (hc : vwCl[ci]? = some q) (hC : q.1 = C) (hls : ls.size = nL) (hn : As.length = n) (hst : st0 = As.reverse ++ .ref b :: rest) (hW : (rest.map fun v => v.category).sum ≤ 8) (hdg : decode cc pc = .ok (.invokevirtual index, 3)) (hf : cells + mc ≤ R.cells ∧ slots + ms ≤ R.slots)
    (kk : ∀ (r : Int32) (u : S) (H1 : Heap) (locs1 : List Loc), post r u → va_P D vwCl (w2 u) H1 → va_D A (w2 u) → va_S A H0 H1 locs1 → W p l e R s m args below meth c H1 locs1 (cells + mc) (slots + ms) Q (F0 m (pc + 3) ls (.int r :: rest))) : W p l e R s m args below meth c H locs cells slots Q (F0 m pc ls st0) := by
  subst hst
  have hF := va_free (wc := wc) hD hS hA ps hps
  refine va_calli (va_runV (rest := rest) Sx hM cw ⟨Pr.blind hXb, va_recv hE.1 hP hc (by rw [hr]) |> fun ⟨cl, c1, c2, c3⟩ => ⟨cl, c1, c2, hC ▸ c3⟩, pr_at hE hP hD ps hnd hps hX⟩ rfl hn hls rfl (lv_room hW) hdg hf) hS (fun q _ h => hF q h) hF (fun r u t H1 locs1 ht hvm hw hB hz1 hk1 hS1 => ?_)
  rw [ht] at hB
  obtain ⟨hP1, hD1⟩ := pst_join hP hD ps hps ((hs1 u).trans hs2.symm) hk1 hB
  rw [hw2 u] at hP1 hD1
  exact kk r u H1 locs1 hw hP1 hD1 hS1
theorem pVi {S : Type} {ret : Option FieldType} {post : Int32 → S → Prop} (Sx : CallFix p m c cc nL s args Ts own) (hM : Met l y ws rm (Pr D cA (.ref b :: As) H.size wc X) (va_Qi post (fun _ _ => True) (fun q => H.size ≤ q)) mc ms (fun q => H.size ≤ q)) (cw : CallW R s args own C index y bytes maxL ret ws rm mc ms n)
    (hE : EK D cA s) (hP : va_P D vwCl wsW H) {A9 : Nat → Prop} (hD : va_D A9 wsW) (hS : va_S A H0 H locs) (hA : ∀ q, H0.size ≤ q → A q) (ps : List Nat) (hnd : va_nd ps = true) (hps : ps.map (fun i => wsW[i]?) = wc.map some) (hXb : Blind X) (hX : ∀ U : State, U.heap = H → s.WarmedH U.vm → X U)
    (q0 ci : Nat) {fs : List Value} {q : vw_C} (hr : wsW[q0]? = some (b, .inr (ci, fs))) (hc : vwCl[ci]? = some q) (hC : q.1 = C) (hls : ls.size = nL) (hn : As.length = n) (hst : st0 = As.reverse ++ .ref b :: rest) (hW : (rest.map fun v => v.category).sum ≤ 8) (hdg : decode cc pc = .ok (.invokevirtual index, 3)) (hf : cells + mc ≤ R.cells ∧ slots + ms ≤ R.slots)
    (kk : ∀ (r : Int32) (u : S) (H1 : Heap) (locs1 : List Loc), post r u → va_P D vwCl wsW H1 → va_S A H0 H1 locs1 → W p l e R s m args below meth c H1 locs1 (cells + mc) (slots + ms) Q (F0 m (pc + 3) ls (.int r :: rest))) : W p l e R s m args below meth c H locs cells slots Q (F0 m pc ls st0) := by
  subst hst
  have hF : ∀ q, H.size ≤ q → A q := fun q h => hA q (Nat.le_trans hS.1 h)
  refine va_calli (va_runV (rest := rest) Sx hM cw ⟨Pr.blind hXb, va_recv hE.1 hP hc (by rw [hr]) |> fun ⟨cl, c1, c2, c3⟩ => ⟨cl, c1, c2, hC ▸ c3⟩, pr_at hE hP hD ps hnd hps hX⟩ rfl hn hls rfl (lv_room hW) hdg hf) hS (fun q _ h => hF q h) hF (fun r u t H1 locs1 ht hvm hw hB hz1 hk1 hS1 => ?_)
  exact kk r u H1 locs1 hw (pure_P hP hk1) hS1
theorem cVl {S : Type} {ret : Option FieldType} {post : Int64 → S → Prop} {wB : S → va_W} (Sx : CallFix p m c cc nL s args Ts own) (hM : Met l y ws rm (Pr D cA (.ref b :: As) H.size wc X) (va_Ql post (fun u t => va_P D vwCl (wB u) t.heap) (va_A wc H.size)) mc ms (va_A wc H.size)) (cw : CallW R s args own C index y bytes maxL ret ws rm mc ms n)
    (hE : EK D cA s) (hP : va_P D vwCl wsW H) (hD : va_D A wsW) (hS : va_S A H0 H locs) (hA : ∀ q, H0.size ≤ q → A q) (ps : List Nat) (hnd : va_nd ps = true) (hps : ps.map (fun i => wsW[i]?) = wc.map some) (as : List Nat) (hs1 : ∀ u : S, (wB u).map (fun q => q.1) = as) (hs2 : wc.map (fun q => q.1) = as) (w2 : S → va_W) (hw2 : ∀ u : S, pst wsW ps (wB u) = w2 u) (hXb : Blind X) (hX : ∀ U : State, U.heap = H → s.WarmedH U.vm → X U)
    (q0 ci : Nat) {fs : List Value} {q : vw_C} (hr : wsW[q0]? = some (b, .inr (ci, fs))) (hc : vwCl[ci]? = some q) (hC : q.1 = C) (hls : ls.size = nL) (hn : As.length = n) (hst : st0 = As.reverse ++ .ref b :: rest) (hW : (rest.map fun v => v.category).sum ≤ 8) (hdg : decode cc pc = .ok (.invokevirtual index, 3)) (hf : cells + mc ≤ R.cells ∧ slots + ms ≤ R.slots)
    (kk : ∀ (r : Int64) (u : S) (H1 : Heap) (locs1 : List Loc), post r u → va_P D vwCl (w2 u) H1 → va_D A (w2 u) → va_S A H0 H1 locs1 → W p l e R s m args below meth c H1 locs1 (cells + mc) (slots + ms) Q (F0 m (pc + 3) ls (.long r :: rest))) : W p l e R s m args below meth c H locs cells slots Q (F0 m pc ls st0) := by
  subst hst
  have hF := va_free (wc := wc) hD hS hA ps hps
  refine va_calll (va_runV (rest := rest) Sx hM cw ⟨Pr.blind hXb, va_recv hE.1 hP hc (by rw [hr]) |> fun ⟨cl, c1, c2, c3⟩ => ⟨cl, c1, c2, hC ▸ c3⟩, pr_at hE hP hD ps hnd hps hX⟩ rfl hn hls rfl (lv_room hW) hdg hf) hS (fun q _ h => hF q h) hF (fun r u t H1 locs1 ht hvm hw hB hz1 hk1 hS1 => ?_)
  rw [ht] at hB
  obtain ⟨hP1, hD1⟩ := pst_join hP hD ps hps ((hs1 u).trans hs2.symm) hk1 hB
  rw [hw2 u] at hP1 hD1
  exact kk r u H1 locs1 hw hP1 hD1 hS1
theorem pVl {S : Type} {ret : Option FieldType} {post : Int64 → S → Prop} (Sx : CallFix p m c cc nL s args Ts own) (hM : Met l y ws rm (Pr D cA (.ref b :: As) H.size wc X) (va_Ql post (fun _ _ => True) (fun q => H.size ≤ q)) mc ms (fun q => H.size ≤ q)) (cw : CallW R s args own C index y bytes maxL ret ws rm mc ms n)
    (hE : EK D cA s) (hP : va_P D vwCl wsW H) {A9 : Nat → Prop} (hD : va_D A9 wsW) (hS : va_S A H0 H locs) (hA : ∀ q, H0.size ≤ q → A q) (ps : List Nat) (hnd : va_nd ps = true) (hps : ps.map (fun i => wsW[i]?) = wc.map some) (hXb : Blind X) (hX : ∀ U : State, U.heap = H → s.WarmedH U.vm → X U)
    (q0 ci : Nat) {fs : List Value} {q : vw_C} (hr : wsW[q0]? = some (b, .inr (ci, fs))) (hc : vwCl[ci]? = some q) (hC : q.1 = C) (hls : ls.size = nL) (hn : As.length = n) (hst : st0 = As.reverse ++ .ref b :: rest) (hW : (rest.map fun v => v.category).sum ≤ 8) (hdg : decode cc pc = .ok (.invokevirtual index, 3)) (hf : cells + mc ≤ R.cells ∧ slots + ms ≤ R.slots)
    (kk : ∀ (r : Int64) (u : S) (H1 : Heap) (locs1 : List Loc), post r u → va_P D vwCl wsW H1 → va_S A H0 H1 locs1 → W p l e R s m args below meth c H1 locs1 (cells + mc) (slots + ms) Q (F0 m (pc + 3) ls (.long r :: rest))) : W p l e R s m args below meth c H locs cells slots Q (F0 m pc ls st0) := by
  subst hst
  have hF : ∀ q, H.size ≤ q → A q := fun q h => hA q (Nat.le_trans hS.1 h)
  refine va_calll (va_runV (rest := rest) Sx hM cw ⟨Pr.blind hXb, va_recv hE.1 hP hc (by rw [hr]) |> fun ⟨cl, c1, c2, c3⟩ => ⟨cl, c1, c2, hC ▸ c3⟩, pr_at hE hP hD ps hnd hps hX⟩ rfl hn hls rfl (lv_room hW) hdg hf) hS (fun q _ h => hF q h) hF (fun r u t H1 locs1 ht hvm hw hB hz1 hk1 hS1 => ?_)
  exact kk r u H1 locs1 hw (pure_P hP hk1) hS1
theorem cVd {S : Type} {ret : Option FieldType} {post : UInt64 → S → Prop} {wB : S → va_W} (Sx : CallFix p m c cc nL s args Ts own) (hM : Met l y ws rm (Pr D cA (.ref b :: As) H.size wc X) (va_Qd post (fun u t => va_P D vwCl (wB u) t.heap) (va_A wc H.size)) mc ms (va_A wc H.size)) (cw : CallW R s args own C index y bytes maxL ret ws rm mc ms n)
    (hE : EK D cA s) (hP : va_P D vwCl wsW H) (hD : va_D A wsW) (hS : va_S A H0 H locs) (hA : ∀ q, H0.size ≤ q → A q) (ps : List Nat) (hnd : va_nd ps = true) (hps : ps.map (fun i => wsW[i]?) = wc.map some) (as : List Nat) (hs1 : ∀ u : S, (wB u).map (fun q => q.1) = as) (hs2 : wc.map (fun q => q.1) = as) (w2 : S → va_W) (hw2 : ∀ u : S, pst wsW ps (wB u) = w2 u) (hXb : Blind X) (hX : ∀ U : State, U.heap = H → s.WarmedH U.vm → X U)
    (q0 ci : Nat) {fs : List Value} {q : vw_C} (hr : wsW[q0]? = some (b, .inr (ci, fs))) (hc : vwCl[ci]? = some q) (hC : q.1 = C) (hls : ls.size = nL) (hn : As.length = n) (hst : st0 = As.reverse ++ .ref b :: rest) (hW : (rest.map fun v => v.category).sum ≤ 8) (hdg : decode cc pc = .ok (.invokevirtual index, 3)) (hf : cells + mc ≤ R.cells ∧ slots + ms ≤ R.slots)
    (kk : ∀ (r : UInt64) (u : S) (H1 : Heap) (locs1 : List Loc), post r u → va_P D vwCl (w2 u) H1 → va_D A (w2 u) → va_S A H0 H1 locs1 → W p l e R s m args below meth c H1 locs1 (cells + mc) (slots + ms) Q (F0 m (pc + 3) ls (.double r :: rest))) : W p l e R s m args below meth c H locs cells slots Q (F0 m pc ls st0) := by
  subst hst
  have hF := va_free (wc := wc) hD hS hA ps hps
  refine va_calld (va_runV (rest := rest) Sx hM cw ⟨Pr.blind hXb, va_recv hE.1 hP hc (by rw [hr]) |> fun ⟨cl, c1, c2, c3⟩ => ⟨cl, c1, c2, hC ▸ c3⟩, pr_at hE hP hD ps hnd hps hX⟩ rfl hn hls rfl (lv_room hW) hdg hf) hS (fun q _ h => hF q h) hF (fun r u t H1 locs1 ht hvm hw hB hz1 hk1 hS1 => ?_)
  rw [ht] at hB
  obtain ⟨hP1, hD1⟩ := pst_join hP hD ps hps ((hs1 u).trans hs2.symm) hk1 hB
  rw [hw2 u] at hP1 hD1
  exact kk r u H1 locs1 hw hP1 hD1 hS1
theorem pVd {S : Type} {ret : Option FieldType} {post : UInt64 → S → Prop} (Sx : CallFix p m c cc nL s args Ts own) (hM : Met l y ws rm (Pr D cA (.ref b :: As) H.size wc X) (va_Qd post (fun _ _ => True) (fun q => H.size ≤ q)) mc ms (fun q => H.size ≤ q)) (cw : CallW R s args own C index y bytes maxL ret ws rm mc ms n)
    (hE : EK D cA s) (hP : va_P D vwCl wsW H) {A9 : Nat → Prop} (hD : va_D A9 wsW) (hS : va_S A H0 H locs) (hA : ∀ q, H0.size ≤ q → A q) (ps : List Nat) (hnd : va_nd ps = true) (hps : ps.map (fun i => wsW[i]?) = wc.map some) (hXb : Blind X) (hX : ∀ U : State, U.heap = H → s.WarmedH U.vm → X U)
    (q0 ci : Nat) {fs : List Value} {q : vw_C} (hr : wsW[q0]? = some (b, .inr (ci, fs))) (hc : vwCl[ci]? = some q) (hC : q.1 = C) (hls : ls.size = nL) (hn : As.length = n) (hst : st0 = As.reverse ++ .ref b :: rest) (hW : (rest.map fun v => v.category).sum ≤ 8) (hdg : decode cc pc = .ok (.invokevirtual index, 3)) (hf : cells + mc ≤ R.cells ∧ slots + ms ≤ R.slots)
    (kk : ∀ (r : UInt64) (u : S) (H1 : Heap) (locs1 : List Loc), post r u → va_P D vwCl wsW H1 → va_S A H0 H1 locs1 → W p l e R s m args below meth c H1 locs1 (cells + mc) (slots + ms) Q (F0 m (pc + 3) ls (.double r :: rest))) : W p l e R s m args below meth c H locs cells slots Q (F0 m pc ls st0) := by
  subst hst
  have hF : ∀ q, H.size ≤ q → A q := fun q h => hA q (Nat.le_trans hS.1 h)
  refine va_calld (va_runV (rest := rest) Sx hM cw ⟨Pr.blind hXb, va_recv hE.1 hP hc (by rw [hr]) |> fun ⟨cl, c1, c2, c3⟩ => ⟨cl, c1, c2, hC ▸ c3⟩, pr_at hE hP hD ps hnd hps hX⟩ rfl hn hls rfl (lv_room hW) hdg hf) hS (fun q _ h => hF q h) hF (fun r u t H1 locs1 ht hvm hw hB hz1 hk1 hS1 => ?_)
  exact kk r u H1 locs1 hw (pure_P hP hk1) hS1
theorem cVv {S : Type} {ret : Option FieldType} {post : S → Prop} {wB : S → va_W} (Sx : CallFix p m c cc nL s args Ts own) (hM : Met l y ws rm (Pr D cA (.ref b :: As) H.size wc X) (va_Qv post (fun u t => va_P D vwCl (wB u) t.heap) (va_A wc H.size)) mc ms (va_A wc H.size)) (cw : CallW R s args own C index y bytes maxL ret ws rm mc ms n)
    (hE : EK D cA s) (hP : va_P D vwCl wsW H) (hD : va_D A wsW) (hS : va_S A H0 H locs) (hA : ∀ q, H0.size ≤ q → A q) (ps : List Nat) (hnd : va_nd ps = true) (hps : ps.map (fun i => wsW[i]?) = wc.map some) (as : List Nat) (hs1 : ∀ u : S, (wB u).map (fun q => q.1) = as) (hs2 : wc.map (fun q => q.1) = as) (w2 : S → va_W) (hw2 : ∀ u : S, pst wsW ps (wB u) = w2 u) (hXb : Blind X) (hX : ∀ U : State, U.heap = H → s.WarmedH U.vm → X U)
    (q0 ci : Nat) {fs : List Value} {q : vw_C} (hr : wsW[q0]? = some (b, .inr (ci, fs))) (hc : vwCl[ci]? = some q) (hC : q.1 = C) (hls : ls.size = nL) (hn : As.length = n) (hst : st0 = As.reverse ++ .ref b :: rest) (hW : (rest.map fun v => v.category).sum ≤ 8) (hdg : decode cc pc = .ok (.invokevirtual index, 3)) (hf : cells + mc ≤ R.cells ∧ slots + ms ≤ R.slots)
    (kk : ∀ (u : S) (H1 : Heap) (locs1 : List Loc), post u → va_P D vwCl (w2 u) H1 → va_D A (w2 u) → va_S A H0 H1 locs1 → W p l e R s m args below meth c H1 locs1 (cells + mc) (slots + ms) Q (F0 m (pc + 3) ls rest)) : W p l e R s m args below meth c H locs cells slots Q (F0 m pc ls st0) := by
  subst hst
  have hF := va_free (wc := wc) hD hS hA ps hps
  refine va_callv (va_runV (rest := rest) Sx hM cw ⟨Pr.blind hXb, va_recv hE.1 hP hc (by rw [hr]) |> fun ⟨cl, c1, c2, c3⟩ => ⟨cl, c1, c2, hC ▸ c3⟩, pr_at hE hP hD ps hnd hps hX⟩ rfl hn hls rfl (lv_room hW) hdg hf) hS (fun q _ h => hF q h) hF (fun u t H1 locs1 ht hvm hw hB hz1 hk1 hS1 => ?_)
  rw [ht] at hB
  obtain ⟨hP1, hD1⟩ := pst_join hP hD ps hps ((hs1 u).trans hs2.symm) hk1 hB
  rw [hw2 u] at hP1 hD1
  exact kk u H1 locs1 hw hP1 hD1 hS1
theorem pVv {S : Type} {ret : Option FieldType} {post : S → Prop} (Sx : CallFix p m c cc nL s args Ts own) (hM : Met l y ws rm (Pr D cA (.ref b :: As) H.size wc X) (va_Qv post (fun _ _ => True) (fun q => H.size ≤ q)) mc ms (fun q => H.size ≤ q)) (cw : CallW R s args own C index y bytes maxL ret ws rm mc ms n)
    (hE : EK D cA s) (hP : va_P D vwCl wsW H) {A9 : Nat → Prop} (hD : va_D A9 wsW) (hS : va_S A H0 H locs) (hA : ∀ q, H0.size ≤ q → A q) (ps : List Nat) (hnd : va_nd ps = true) (hps : ps.map (fun i => wsW[i]?) = wc.map some) (hXb : Blind X) (hX : ∀ U : State, U.heap = H → s.WarmedH U.vm → X U)
    (q0 ci : Nat) {fs : List Value} {q : vw_C} (hr : wsW[q0]? = some (b, .inr (ci, fs))) (hc : vwCl[ci]? = some q) (hC : q.1 = C) (hls : ls.size = nL) (hn : As.length = n) (hst : st0 = As.reverse ++ .ref b :: rest) (hW : (rest.map fun v => v.category).sum ≤ 8) (hdg : decode cc pc = .ok (.invokevirtual index, 3)) (hf : cells + mc ≤ R.cells ∧ slots + ms ≤ R.slots)
    (kk : ∀ (u : S) (H1 : Heap) (locs1 : List Loc), post u → va_P D vwCl wsW H1 → va_S A H0 H1 locs1 → W p l e R s m args below meth c H1 locs1 (cells + mc) (slots + ms) Q (F0 m (pc + 3) ls rest)) : W p l e R s m args below meth c H locs cells slots Q (F0 m pc ls st0) := by
  subst hst
  have hF : ∀ q, H.size ≤ q → A q := fun q h => hA q (Nat.le_trans hS.1 h)
  refine va_callv (va_runV (rest := rest) Sx hM cw ⟨Pr.blind hXb, va_recv hE.1 hP hc (by rw [hr]) |> fun ⟨cl, c1, c2, c3⟩ => ⟨cl, c1, c2, hC ▸ c3⟩, pr_at hE hP hD ps hnd hps hX⟩ rfl hn hls rfl (lv_room hW) hdg hf) hS (fun q _ h => hF q h) hF (fun u t H1 locs1 ht hvm hw hB hz1 hk1 hS1 => ?_)
  exact kk u H1 locs1 hw (pure_P hP hk1) hS1
theorem cSi {S : Type} {ret : Option FieldType} {post : Int32 → S → Prop} {wB : S → va_W} (Sx : CallFix p m c cc nL s args Ts own) (hM : Met l y ws rm (Pr D cA As H.size wc X) (va_Qi post (fun u t => va_P D vwCl (wB u) t.heap) (va_A wc H.size)) mc ms (va_A wc H.size)) (cw : CallB R s args own index y bytes maxL ret ws rm mc ms n ∧ (Cond.static y).before args s = true)
    (hE : EK D cA s) (hP : va_P D vwCl wsW H) (hD : va_D A wsW) (hS : va_S A H0 H locs) (hA : ∀ q, H0.size ≤ q → A q) (ps : List Nat) (hnd : va_nd ps = true) (hps : ps.map (fun i => wsW[i]?) = wc.map some) (as : List Nat) (hs1 : ∀ u : S, (wB u).map (fun q => q.1) = as) (hs2 : wc.map (fun q => q.1) = as) (w2 : S → va_W) (hw2 : ∀ u : S, pst wsW ps (wB u) = w2 u) (hXb : Blind X) (hX : ∀ U : State, U.heap = H → s.WarmedH U.vm → X U)
    (hls : ls.size = nL) (hn : As.length = n) (hst : st0 = As.reverse ++ rest) (hW : (rest.map fun v => v.category).sum ≤ 8) (hdg : decode cc pc = .ok (.invokestatic index, 3)) (hf : cells + mc ≤ R.cells ∧ slots + ms ≤ R.slots)
    (kk : ∀ (r : Int32) (u : S) (H1 : Heap) (locs1 : List Loc), post r u → va_P D vwCl (w2 u) H1 → va_D A (w2 u) → va_S A H0 H1 locs1 → W p l e R s m args below meth c H1 locs1 (cells + mc) (slots + ms) Q (F0 m (pc + 3) ls (.int r :: rest))) : W p l e R s m args below meth c H locs cells slots Q (F0 m pc ls st0) := by
  subst hst
  have hF := va_free (wc := wc) hD hS hA ps hps
  refine va_calli (va_runS (rest := rest) Sx hM cw ⟨Pr.blind hXb, pr_at hE hP hD ps hnd hps hX⟩ rfl hn hls rfl (lv_room hW) hdg hf) hS (fun q _ h => hF q h) hF (fun r u t H1 locs1 ht hvm hw hB hz1 hk1 hS1 => ?_)
  rw [ht] at hB
  obtain ⟨hP1, hD1⟩ := pst_join hP hD ps hps ((hs1 u).trans hs2.symm) hk1 hB
  rw [hw2 u] at hP1 hD1
  exact kk r u H1 locs1 hw hP1 hD1 hS1
theorem pSi {S : Type} {ret : Option FieldType} {post : Int32 → S → Prop} (Sx : CallFix p m c cc nL s args Ts own) (hM : Met l y ws rm (Pr D cA As H.size wc X) (va_Qi post (fun _ _ => True) (fun q => H.size ≤ q)) mc ms (fun q => H.size ≤ q)) (cw : CallB R s args own index y bytes maxL ret ws rm mc ms n ∧ (Cond.static y).before args s = true)
    (hE : EK D cA s) (hP : va_P D vwCl wsW H) {A9 : Nat → Prop} (hD : va_D A9 wsW) (hS : va_S A H0 H locs) (hA : ∀ q, H0.size ≤ q → A q) (ps : List Nat) (hnd : va_nd ps = true) (hps : ps.map (fun i => wsW[i]?) = wc.map some) (hXb : Blind X) (hX : ∀ U : State, U.heap = H → s.WarmedH U.vm → X U)
    (hls : ls.size = nL) (hn : As.length = n) (hst : st0 = As.reverse ++ rest) (hW : (rest.map fun v => v.category).sum ≤ 8) (hdg : decode cc pc = .ok (.invokestatic index, 3)) (hf : cells + mc ≤ R.cells ∧ slots + ms ≤ R.slots)
    (kk : ∀ (r : Int32) (u : S) (H1 : Heap) (locs1 : List Loc), post r u → va_P D vwCl wsW H1 → va_S A H0 H1 locs1 → W p l e R s m args below meth c H1 locs1 (cells + mc) (slots + ms) Q (F0 m (pc + 3) ls (.int r :: rest))) : W p l e R s m args below meth c H locs cells slots Q (F0 m pc ls st0) := by
  subst hst
  have hF : ∀ q, H.size ≤ q → A q := fun q h => hA q (Nat.le_trans hS.1 h)
  refine va_calli (va_runS (rest := rest) Sx hM cw ⟨Pr.blind hXb, pr_at hE hP hD ps hnd hps hX⟩ rfl hn hls rfl (lv_room hW) hdg hf) hS (fun q _ h => hF q h) hF (fun r u t H1 locs1 ht hvm hw hB hz1 hk1 hS1 => ?_)
  exact kk r u H1 locs1 hw (pure_P hP hk1) hS1
theorem cSl {S : Type} {ret : Option FieldType} {post : Int64 → S → Prop} {wB : S → va_W} (Sx : CallFix p m c cc nL s args Ts own) (hM : Met l y ws rm (Pr D cA As H.size wc X) (va_Ql post (fun u t => va_P D vwCl (wB u) t.heap) (va_A wc H.size)) mc ms (va_A wc H.size)) (cw : CallB R s args own index y bytes maxL ret ws rm mc ms n ∧ (Cond.static y).before args s = true)
    (hE : EK D cA s) (hP : va_P D vwCl wsW H) (hD : va_D A wsW) (hS : va_S A H0 H locs) (hA : ∀ q, H0.size ≤ q → A q) (ps : List Nat) (hnd : va_nd ps = true) (hps : ps.map (fun i => wsW[i]?) = wc.map some) (as : List Nat) (hs1 : ∀ u : S, (wB u).map (fun q => q.1) = as) (hs2 : wc.map (fun q => q.1) = as) (w2 : S → va_W) (hw2 : ∀ u : S, pst wsW ps (wB u) = w2 u) (hXb : Blind X) (hX : ∀ U : State, U.heap = H → s.WarmedH U.vm → X U)
    (hls : ls.size = nL) (hn : As.length = n) (hst : st0 = As.reverse ++ rest) (hW : (rest.map fun v => v.category).sum ≤ 8) (hdg : decode cc pc = .ok (.invokestatic index, 3)) (hf : cells + mc ≤ R.cells ∧ slots + ms ≤ R.slots)
    (kk : ∀ (r : Int64) (u : S) (H1 : Heap) (locs1 : List Loc), post r u → va_P D vwCl (w2 u) H1 → va_D A (w2 u) → va_S A H0 H1 locs1 → W p l e R s m args below meth c H1 locs1 (cells + mc) (slots + ms) Q (F0 m (pc + 3) ls (.long r :: rest))) : W p l e R s m args below meth c H locs cells slots Q (F0 m pc ls st0) := by
  subst hst
  have hF := va_free (wc := wc) hD hS hA ps hps
  refine va_calll (va_runS (rest := rest) Sx hM cw ⟨Pr.blind hXb, pr_at hE hP hD ps hnd hps hX⟩ rfl hn hls rfl (lv_room hW) hdg hf) hS (fun q _ h => hF q h) hF (fun r u t H1 locs1 ht hvm hw hB hz1 hk1 hS1 => ?_)
  rw [ht] at hB
  obtain ⟨hP1, hD1⟩ := pst_join hP hD ps hps ((hs1 u).trans hs2.symm) hk1 hB
  rw [hw2 u] at hP1 hD1
  exact kk r u H1 locs1 hw hP1 hD1 hS1
theorem pSl {S : Type} {ret : Option FieldType} {post : Int64 → S → Prop} (Sx : CallFix p m c cc nL s args Ts own) (hM : Met l y ws rm (Pr D cA As H.size wc X) (va_Ql post (fun _ _ => True) (fun q => H.size ≤ q)) mc ms (fun q => H.size ≤ q)) (cw : CallB R s args own index y bytes maxL ret ws rm mc ms n ∧ (Cond.static y).before args s = true)
    (hE : EK D cA s) (hP : va_P D vwCl wsW H) {A9 : Nat → Prop} (hD : va_D A9 wsW) (hS : va_S A H0 H locs) (hA : ∀ q, H0.size ≤ q → A q) (ps : List Nat) (hnd : va_nd ps = true) (hps : ps.map (fun i => wsW[i]?) = wc.map some) (hXb : Blind X) (hX : ∀ U : State, U.heap = H → s.WarmedH U.vm → X U)
    (hls : ls.size = nL) (hn : As.length = n) (hst : st0 = As.reverse ++ rest) (hW : (rest.map fun v => v.category).sum ≤ 8) (hdg : decode cc pc = .ok (.invokestatic index, 3)) (hf : cells + mc ≤ R.cells ∧ slots + ms ≤ R.slots)
    (kk : ∀ (r : Int64) (u : S) (H1 : Heap) (locs1 : List Loc), post r u → va_P D vwCl wsW H1 → va_S A H0 H1 locs1 → W p l e R s m args below meth c H1 locs1 (cells + mc) (slots + ms) Q (F0 m (pc + 3) ls (.long r :: rest))) : W p l e R s m args below meth c H locs cells slots Q (F0 m pc ls st0) := by
  subst hst
  have hF : ∀ q, H.size ≤ q → A q := fun q h => hA q (Nat.le_trans hS.1 h)
  refine va_calll (va_runS (rest := rest) Sx hM cw ⟨Pr.blind hXb, pr_at hE hP hD ps hnd hps hX⟩ rfl hn hls rfl (lv_room hW) hdg hf) hS (fun q _ h => hF q h) hF (fun r u t H1 locs1 ht hvm hw hB hz1 hk1 hS1 => ?_)
  exact kk r u H1 locs1 hw (pure_P hP hk1) hS1
theorem cSd {S : Type} {ret : Option FieldType} {post : UInt64 → S → Prop} {wB : S → va_W} (Sx : CallFix p m c cc nL s args Ts own) (hM : Met l y ws rm (Pr D cA As H.size wc X) (va_Qd post (fun u t => va_P D vwCl (wB u) t.heap) (va_A wc H.size)) mc ms (va_A wc H.size)) (cw : CallB R s args own index y bytes maxL ret ws rm mc ms n ∧ (Cond.static y).before args s = true)
    (hE : EK D cA s) (hP : va_P D vwCl wsW H) (hD : va_D A wsW) (hS : va_S A H0 H locs) (hA : ∀ q, H0.size ≤ q → A q) (ps : List Nat) (hnd : va_nd ps = true) (hps : ps.map (fun i => wsW[i]?) = wc.map some) (as : List Nat) (hs1 : ∀ u : S, (wB u).map (fun q => q.1) = as) (hs2 : wc.map (fun q => q.1) = as) (w2 : S → va_W) (hw2 : ∀ u : S, pst wsW ps (wB u) = w2 u) (hXb : Blind X) (hX : ∀ U : State, U.heap = H → s.WarmedH U.vm → X U)
    (hls : ls.size = nL) (hn : As.length = n) (hst : st0 = As.reverse ++ rest) (hW : (rest.map fun v => v.category).sum ≤ 8) (hdg : decode cc pc = .ok (.invokestatic index, 3)) (hf : cells + mc ≤ R.cells ∧ slots + ms ≤ R.slots)
    (kk : ∀ (r : UInt64) (u : S) (H1 : Heap) (locs1 : List Loc), post r u → va_P D vwCl (w2 u) H1 → va_D A (w2 u) → va_S A H0 H1 locs1 → W p l e R s m args below meth c H1 locs1 (cells + mc) (slots + ms) Q (F0 m (pc + 3) ls (.double r :: rest))) : W p l e R s m args below meth c H locs cells slots Q (F0 m pc ls st0) := by
  subst hst
  have hF := va_free (wc := wc) hD hS hA ps hps
  refine va_calld (va_runS (rest := rest) Sx hM cw ⟨Pr.blind hXb, pr_at hE hP hD ps hnd hps hX⟩ rfl hn hls rfl (lv_room hW) hdg hf) hS (fun q _ h => hF q h) hF (fun r u t H1 locs1 ht hvm hw hB hz1 hk1 hS1 => ?_)
  rw [ht] at hB
  obtain ⟨hP1, hD1⟩ := pst_join hP hD ps hps ((hs1 u).trans hs2.symm) hk1 hB
  rw [hw2 u] at hP1 hD1
  exact kk r u H1 locs1 hw hP1 hD1 hS1
theorem pSd {S : Type} {ret : Option FieldType} {post : UInt64 → S → Prop} (Sx : CallFix p m c cc nL s args Ts own) (hM : Met l y ws rm (Pr D cA As H.size wc X) (va_Qd post (fun _ _ => True) (fun q => H.size ≤ q)) mc ms (fun q => H.size ≤ q)) (cw : CallB R s args own index y bytes maxL ret ws rm mc ms n ∧ (Cond.static y).before args s = true)
    (hE : EK D cA s) (hP : va_P D vwCl wsW H) {A9 : Nat → Prop} (hD : va_D A9 wsW) (hS : va_S A H0 H locs) (hA : ∀ q, H0.size ≤ q → A q) (ps : List Nat) (hnd : va_nd ps = true) (hps : ps.map (fun i => wsW[i]?) = wc.map some) (hXb : Blind X) (hX : ∀ U : State, U.heap = H → s.WarmedH U.vm → X U)
    (hls : ls.size = nL) (hn : As.length = n) (hst : st0 = As.reverse ++ rest) (hW : (rest.map fun v => v.category).sum ≤ 8) (hdg : decode cc pc = .ok (.invokestatic index, 3)) (hf : cells + mc ≤ R.cells ∧ slots + ms ≤ R.slots)
    (kk : ∀ (r : UInt64) (u : S) (H1 : Heap) (locs1 : List Loc), post r u → va_P D vwCl wsW H1 → va_S A H0 H1 locs1 → W p l e R s m args below meth c H1 locs1 (cells + mc) (slots + ms) Q (F0 m (pc + 3) ls (.double r :: rest))) : W p l e R s m args below meth c H locs cells slots Q (F0 m pc ls st0) := by
  subst hst
  have hF : ∀ q, H.size ≤ q → A q := fun q h => hA q (Nat.le_trans hS.1 h)
  refine va_calld (va_runS (rest := rest) Sx hM cw ⟨Pr.blind hXb, pr_at hE hP hD ps hnd hps hX⟩ rfl hn hls rfl (lv_room hW) hdg hf) hS (fun q _ h => hF q h) hF (fun r u t H1 locs1 ht hvm hw hB hz1 hk1 hS1 => ?_)
  exact kk r u H1 locs1 hw (pure_P hP hk1) hS1
theorem cSv {S : Type} {ret : Option FieldType} {post : S → Prop} {wB : S → va_W} (Sx : CallFix p m c cc nL s args Ts own) (hM : Met l y ws rm (Pr D cA As H.size wc X) (va_Qv post (fun u t => va_P D vwCl (wB u) t.heap) (va_A wc H.size)) mc ms (va_A wc H.size)) (cw : CallB R s args own index y bytes maxL ret ws rm mc ms n ∧ (Cond.static y).before args s = true)
    (hE : EK D cA s) (hP : va_P D vwCl wsW H) (hD : va_D A wsW) (hS : va_S A H0 H locs) (hA : ∀ q, H0.size ≤ q → A q) (ps : List Nat) (hnd : va_nd ps = true) (hps : ps.map (fun i => wsW[i]?) = wc.map some) (as : List Nat) (hs1 : ∀ u : S, (wB u).map (fun q => q.1) = as) (hs2 : wc.map (fun q => q.1) = as) (w2 : S → va_W) (hw2 : ∀ u : S, pst wsW ps (wB u) = w2 u) (hXb : Blind X) (hX : ∀ U : State, U.heap = H → s.WarmedH U.vm → X U)
    (hls : ls.size = nL) (hn : As.length = n) (hst : st0 = As.reverse ++ rest) (hW : (rest.map fun v => v.category).sum ≤ 8) (hdg : decode cc pc = .ok (.invokestatic index, 3)) (hf : cells + mc ≤ R.cells ∧ slots + ms ≤ R.slots)
    (kk : ∀ (u : S) (H1 : Heap) (locs1 : List Loc), post u → va_P D vwCl (w2 u) H1 → va_D A (w2 u) → va_S A H0 H1 locs1 → W p l e R s m args below meth c H1 locs1 (cells + mc) (slots + ms) Q (F0 m (pc + 3) ls rest)) : W p l e R s m args below meth c H locs cells slots Q (F0 m pc ls st0) := by
  subst hst
  have hF := va_free (wc := wc) hD hS hA ps hps
  refine va_callv (va_runS (rest := rest) Sx hM cw ⟨Pr.blind hXb, pr_at hE hP hD ps hnd hps hX⟩ rfl hn hls rfl (lv_room hW) hdg hf) hS (fun q _ h => hF q h) hF (fun u t H1 locs1 ht hvm hw hB hz1 hk1 hS1 => ?_)
  rw [ht] at hB
  obtain ⟨hP1, hD1⟩ := pst_join hP hD ps hps ((hs1 u).trans hs2.symm) hk1 hB
  rw [hw2 u] at hP1 hD1
  exact kk u H1 locs1 hw hP1 hD1 hS1
theorem pSv {S : Type} {ret : Option FieldType} {post : S → Prop} (Sx : CallFix p m c cc nL s args Ts own) (hM : Met l y ws rm (Pr D cA As H.size wc X) (va_Qv post (fun _ _ => True) (fun q => H.size ≤ q)) mc ms (fun q => H.size ≤ q)) (cw : CallB R s args own index y bytes maxL ret ws rm mc ms n ∧ (Cond.static y).before args s = true)
    (hE : EK D cA s) (hP : va_P D vwCl wsW H) {A9 : Nat → Prop} (hD : va_D A9 wsW) (hS : va_S A H0 H locs) (hA : ∀ q, H0.size ≤ q → A q) (ps : List Nat) (hnd : va_nd ps = true) (hps : ps.map (fun i => wsW[i]?) = wc.map some) (hXb : Blind X) (hX : ∀ U : State, U.heap = H → s.WarmedH U.vm → X U)
    (hls : ls.size = nL) (hn : As.length = n) (hst : st0 = As.reverse ++ rest) (hW : (rest.map fun v => v.category).sum ≤ 8) (hdg : decode cc pc = .ok (.invokestatic index, 3)) (hf : cells + mc ≤ R.cells ∧ slots + ms ≤ R.slots)
    (kk : ∀ (u : S) (H1 : Heap) (locs1 : List Loc), post u → va_P D vwCl wsW H1 → va_S A H0 H1 locs1 → W p l e R s m args below meth c H1 locs1 (cells + mc) (slots + ms) Q (F0 m (pc + 3) ls rest)) : W p l e R s m args below meth c H locs cells slots Q (F0 m pc ls st0) := by
  subst hst
  have hF : ∀ q, H.size ≤ q → A q := fun q h => hA q (Nat.le_trans hS.1 h)
  refine va_callv (va_runS (rest := rest) Sx hM cw ⟨Pr.blind hXb, pr_at hE hP hD ps hnd hps hX⟩ rfl hn hls rfl (lv_room hW) hdg hf) hS (fun q _ h => hF q h) hF (fun u t H1 locs1 ht hvm hw hB hz1 hk1 hS1 => ?_)
  exact kk u H1 locs1 hw (pure_P hP hk1) hS1
theorem cNi {S : Type} {ret : Option FieldType} {post : Int32 → S → Prop} {wB : S → va_W} (Sx : CallFix p m c cc nL s args Ts own) (hM : Met l y ws rm (Pr D cA As H.size wc X) (va_Qi post (fun u t => va_P D vwCl (wB u) t.heap) (va_A wc H.size)) mc ms (va_A wc H.size)) (cw : va_CN R s args own index y host bytes maxL ret ws rm mc ms n ∧ (Cond.static y).before args s = true ∧ True)
    (hE : EK D cA s) (hP : va_P D vwCl wsW H) (hD : va_D A wsW) (hS : va_S A H0 H locs) (hA : ∀ q, H0.size ≤ q → A q) (ps : List Nat) (hnd : va_nd ps = true) (hps : ps.map (fun i => wsW[i]?) = wc.map some) (as : List Nat) (hs1 : ∀ u : S, (wB u).map (fun q => q.1) = as) (hs2 : wc.map (fun q => q.1) = as) (w2 : S → va_W) (hw2 : ∀ u : S, pst wsW ps (wB u) = w2 u) (hXb : Blind X) (hX : ∀ U : State, U.heap = H → s.WarmedH U.vm → X U)
    (hls : ls.size = nL) (hn : As.length = n) (hst : st0 = As.reverse ++ rest) (hW : (rest.map fun v => v.category).sum ≤ 8) (hdg : decode cc pc = .ok (.invokestatic index, 3)) (hf : cells + mc ≤ R.cells ∧ slots + ms ≤ R.slots)
    (kk : ∀ (r : Int32) (u : S) (H1 : Heap) (locs1 : List Loc), post r u → va_P D vwCl (w2 u) H1 → va_D A (w2 u) → va_S A H0 H1 locs1 → W p l e R s m args below meth c H1 locs1 (cells + mc) (slots + ms) Q (F0 m (pc + 3) ls (.int r :: rest))) : W p l e R s m args below meth c H locs cells slots Q (F0 m pc ls st0) := by
  subst hst
  have hF := va_free (wc := wc) hD hS hA ps hps
  refine va_calli (va_runSN (rest := rest) Sx hM cw ⟨Pr.blind hXb, pr_at hE hP hD ps hnd hps hX⟩ rfl hn hls rfl (lv_room hW) hdg hf) hS (fun q _ h => hF q h) hF (fun r u t H1 locs1 ht hvm hw hB hz1 hk1 hS1 => ?_)
  rw [ht] at hB
  obtain ⟨hP1, hD1⟩ := pst_join hP hD ps hps ((hs1 u).trans hs2.symm) hk1 hB
  rw [hw2 u] at hP1 hD1
  exact kk r u H1 locs1 hw hP1 hD1 hS1
theorem pNi {S : Type} {ret : Option FieldType} {post : Int32 → S → Prop} (Sx : CallFix p m c cc nL s args Ts own) (hM : Met l y ws rm (Pr D cA As H.size wc X) (va_Qi post (fun _ _ => True) (fun q => H.size ≤ q)) mc ms (fun q => H.size ≤ q)) (cw : va_CN R s args own index y host bytes maxL ret ws rm mc ms n ∧ (Cond.static y).before args s = true ∧ True)
    (hE : EK D cA s) (hP : va_P D vwCl wsW H) {A9 : Nat → Prop} (hD : va_D A9 wsW) (hS : va_S A H0 H locs) (hA : ∀ q, H0.size ≤ q → A q) (ps : List Nat) (hnd : va_nd ps = true) (hps : ps.map (fun i => wsW[i]?) = wc.map some) (hXb : Blind X) (hX : ∀ U : State, U.heap = H → s.WarmedH U.vm → X U)
    (hls : ls.size = nL) (hn : As.length = n) (hst : st0 = As.reverse ++ rest) (hW : (rest.map fun v => v.category).sum ≤ 8) (hdg : decode cc pc = .ok (.invokestatic index, 3)) (hf : cells + mc ≤ R.cells ∧ slots + ms ≤ R.slots)
    (kk : ∀ (r : Int32) (u : S) (H1 : Heap) (locs1 : List Loc), post r u → va_P D vwCl wsW H1 → va_S A H0 H1 locs1 → W p l e R s m args below meth c H1 locs1 (cells + mc) (slots + ms) Q (F0 m (pc + 3) ls (.int r :: rest))) : W p l e R s m args below meth c H locs cells slots Q (F0 m pc ls st0) := by
  subst hst
  have hF : ∀ q, H.size ≤ q → A q := fun q h => hA q (Nat.le_trans hS.1 h)
  refine va_calli (va_runSN (rest := rest) Sx hM cw ⟨Pr.blind hXb, pr_at hE hP hD ps hnd hps hX⟩ rfl hn hls rfl (lv_room hW) hdg hf) hS (fun q _ h => hF q h) hF (fun r u t H1 locs1 ht hvm hw hB hz1 hk1 hS1 => ?_)
  exact kk r u H1 locs1 hw (pure_P hP hk1) hS1
theorem cNl {S : Type} {ret : Option FieldType} {post : Int64 → S → Prop} {wB : S → va_W} (Sx : CallFix p m c cc nL s args Ts own) (hM : Met l y ws rm (Pr D cA As H.size wc X) (va_Ql post (fun u t => va_P D vwCl (wB u) t.heap) (va_A wc H.size)) mc ms (va_A wc H.size)) (cw : va_CN R s args own index y host bytes maxL ret ws rm mc ms n ∧ (Cond.static y).before args s = true ∧ True)
    (hE : EK D cA s) (hP : va_P D vwCl wsW H) (hD : va_D A wsW) (hS : va_S A H0 H locs) (hA : ∀ q, H0.size ≤ q → A q) (ps : List Nat) (hnd : va_nd ps = true) (hps : ps.map (fun i => wsW[i]?) = wc.map some) (as : List Nat) (hs1 : ∀ u : S, (wB u).map (fun q => q.1) = as) (hs2 : wc.map (fun q => q.1) = as) (w2 : S → va_W) (hw2 : ∀ u : S, pst wsW ps (wB u) = w2 u) (hXb : Blind X) (hX : ∀ U : State, U.heap = H → s.WarmedH U.vm → X U)
    (hls : ls.size = nL) (hn : As.length = n) (hst : st0 = As.reverse ++ rest) (hW : (rest.map fun v => v.category).sum ≤ 8) (hdg : decode cc pc = .ok (.invokestatic index, 3)) (hf : cells + mc ≤ R.cells ∧ slots + ms ≤ R.slots)
    (kk : ∀ (r : Int64) (u : S) (H1 : Heap) (locs1 : List Loc), post r u → va_P D vwCl (w2 u) H1 → va_D A (w2 u) → va_S A H0 H1 locs1 → W p l e R s m args below meth c H1 locs1 (cells + mc) (slots + ms) Q (F0 m (pc + 3) ls (.long r :: rest))) : W p l e R s m args below meth c H locs cells slots Q (F0 m pc ls st0) := by
  subst hst
  have hF := va_free (wc := wc) hD hS hA ps hps
  refine va_calll (va_runSN (rest := rest) Sx hM cw ⟨Pr.blind hXb, pr_at hE hP hD ps hnd hps hX⟩ rfl hn hls rfl (lv_room hW) hdg hf) hS (fun q _ h => hF q h) hF (fun r u t H1 locs1 ht hvm hw hB hz1 hk1 hS1 => ?_)
  rw [ht] at hB
  obtain ⟨hP1, hD1⟩ := pst_join hP hD ps hps ((hs1 u).trans hs2.symm) hk1 hB
  rw [hw2 u] at hP1 hD1
  exact kk r u H1 locs1 hw hP1 hD1 hS1
theorem pNl {S : Type} {ret : Option FieldType} {post : Int64 → S → Prop} (Sx : CallFix p m c cc nL s args Ts own) (hM : Met l y ws rm (Pr D cA As H.size wc X) (va_Ql post (fun _ _ => True) (fun q => H.size ≤ q)) mc ms (fun q => H.size ≤ q)) (cw : va_CN R s args own index y host bytes maxL ret ws rm mc ms n ∧ (Cond.static y).before args s = true ∧ True)
    (hE : EK D cA s) (hP : va_P D vwCl wsW H) {A9 : Nat → Prop} (hD : va_D A9 wsW) (hS : va_S A H0 H locs) (hA : ∀ q, H0.size ≤ q → A q) (ps : List Nat) (hnd : va_nd ps = true) (hps : ps.map (fun i => wsW[i]?) = wc.map some) (hXb : Blind X) (hX : ∀ U : State, U.heap = H → s.WarmedH U.vm → X U)
    (hls : ls.size = nL) (hn : As.length = n) (hst : st0 = As.reverse ++ rest) (hW : (rest.map fun v => v.category).sum ≤ 8) (hdg : decode cc pc = .ok (.invokestatic index, 3)) (hf : cells + mc ≤ R.cells ∧ slots + ms ≤ R.slots)
    (kk : ∀ (r : Int64) (u : S) (H1 : Heap) (locs1 : List Loc), post r u → va_P D vwCl wsW H1 → va_S A H0 H1 locs1 → W p l e R s m args below meth c H1 locs1 (cells + mc) (slots + ms) Q (F0 m (pc + 3) ls (.long r :: rest))) : W p l e R s m args below meth c H locs cells slots Q (F0 m pc ls st0) := by
  subst hst
  have hF : ∀ q, H.size ≤ q → A q := fun q h => hA q (Nat.le_trans hS.1 h)
  refine va_calll (va_runSN (rest := rest) Sx hM cw ⟨Pr.blind hXb, pr_at hE hP hD ps hnd hps hX⟩ rfl hn hls rfl (lv_room hW) hdg hf) hS (fun q _ h => hF q h) hF (fun r u t H1 locs1 ht hvm hw hB hz1 hk1 hS1 => ?_)
  exact kk r u H1 locs1 hw (pure_P hP hk1) hS1
theorem cNd {S : Type} {ret : Option FieldType} {post : UInt64 → S → Prop} {wB : S → va_W} (Sx : CallFix p m c cc nL s args Ts own) (hM : Met l y ws rm (Pr D cA As H.size wc X) (va_Qd post (fun u t => va_P D vwCl (wB u) t.heap) (va_A wc H.size)) mc ms (va_A wc H.size)) (cw : va_CN R s args own index y host bytes maxL ret ws rm mc ms n ∧ (Cond.static y).before args s = true ∧ True)
    (hE : EK D cA s) (hP : va_P D vwCl wsW H) (hD : va_D A wsW) (hS : va_S A H0 H locs) (hA : ∀ q, H0.size ≤ q → A q) (ps : List Nat) (hnd : va_nd ps = true) (hps : ps.map (fun i => wsW[i]?) = wc.map some) (as : List Nat) (hs1 : ∀ u : S, (wB u).map (fun q => q.1) = as) (hs2 : wc.map (fun q => q.1) = as) (w2 : S → va_W) (hw2 : ∀ u : S, pst wsW ps (wB u) = w2 u) (hXb : Blind X) (hX : ∀ U : State, U.heap = H → s.WarmedH U.vm → X U)
    (hls : ls.size = nL) (hn : As.length = n) (hst : st0 = As.reverse ++ rest) (hW : (rest.map fun v => v.category).sum ≤ 8) (hdg : decode cc pc = .ok (.invokestatic index, 3)) (hf : cells + mc ≤ R.cells ∧ slots + ms ≤ R.slots)
    (kk : ∀ (r : UInt64) (u : S) (H1 : Heap) (locs1 : List Loc), post r u → va_P D vwCl (w2 u) H1 → va_D A (w2 u) → va_S A H0 H1 locs1 → W p l e R s m args below meth c H1 locs1 (cells + mc) (slots + ms) Q (F0 m (pc + 3) ls (.double r :: rest))) : W p l e R s m args below meth c H locs cells slots Q (F0 m pc ls st0) := by
  subst hst
  have hF := va_free (wc := wc) hD hS hA ps hps
  refine va_calld (va_runSN (rest := rest) Sx hM cw ⟨Pr.blind hXb, pr_at hE hP hD ps hnd hps hX⟩ rfl hn hls rfl (lv_room hW) hdg hf) hS (fun q _ h => hF q h) hF (fun r u t H1 locs1 ht hvm hw hB hz1 hk1 hS1 => ?_)
  rw [ht] at hB
  obtain ⟨hP1, hD1⟩ := pst_join hP hD ps hps ((hs1 u).trans hs2.symm) hk1 hB
  rw [hw2 u] at hP1 hD1
  exact kk r u H1 locs1 hw hP1 hD1 hS1
theorem pNd {S : Type} {ret : Option FieldType} {post : UInt64 → S → Prop} (Sx : CallFix p m c cc nL s args Ts own) (hM : Met l y ws rm (Pr D cA As H.size wc X) (va_Qd post (fun _ _ => True) (fun q => H.size ≤ q)) mc ms (fun q => H.size ≤ q)) (cw : va_CN R s args own index y host bytes maxL ret ws rm mc ms n ∧ (Cond.static y).before args s = true ∧ True)
    (hE : EK D cA s) (hP : va_P D vwCl wsW H) {A9 : Nat → Prop} (hD : va_D A9 wsW) (hS : va_S A H0 H locs) (hA : ∀ q, H0.size ≤ q → A q) (ps : List Nat) (hnd : va_nd ps = true) (hps : ps.map (fun i => wsW[i]?) = wc.map some) (hXb : Blind X) (hX : ∀ U : State, U.heap = H → s.WarmedH U.vm → X U)
    (hls : ls.size = nL) (hn : As.length = n) (hst : st0 = As.reverse ++ rest) (hW : (rest.map fun v => v.category).sum ≤ 8) (hdg : decode cc pc = .ok (.invokestatic index, 3)) (hf : cells + mc ≤ R.cells ∧ slots + ms ≤ R.slots)
    (kk : ∀ (r : UInt64) (u : S) (H1 : Heap) (locs1 : List Loc), post r u → va_P D vwCl wsW H1 → va_S A H0 H1 locs1 → W p l e R s m args below meth c H1 locs1 (cells + mc) (slots + ms) Q (F0 m (pc + 3) ls (.double r :: rest))) : W p l e R s m args below meth c H locs cells slots Q (F0 m pc ls st0) := by
  subst hst
  have hF : ∀ q, H.size ≤ q → A q := fun q h => hA q (Nat.le_trans hS.1 h)
  refine va_calld (va_runSN (rest := rest) Sx hM cw ⟨Pr.blind hXb, pr_at hE hP hD ps hnd hps hX⟩ rfl hn hls rfl (lv_room hW) hdg hf) hS (fun q _ h => hF q h) hF (fun r u t H1 locs1 ht hvm hw hB hz1 hk1 hS1 => ?_)
  exact kk r u H1 locs1 hw (pure_P hP hk1) hS1
theorem cNv {S : Type} {ret : Option FieldType} {post : S → Prop} {wB : S → va_W} (Sx : CallFix p m c cc nL s args Ts own) (hM : Met l y ws rm (Pr D cA As H.size wc X) (va_Qv post (fun u t => va_P D vwCl (wB u) t.heap) (va_A wc H.size)) mc ms (va_A wc H.size)) (cw : va_CN R s args own index y host bytes maxL ret ws rm mc ms n ∧ (Cond.static y).before args s = true ∧ True)
    (hE : EK D cA s) (hP : va_P D vwCl wsW H) (hD : va_D A wsW) (hS : va_S A H0 H locs) (hA : ∀ q, H0.size ≤ q → A q) (ps : List Nat) (hnd : va_nd ps = true) (hps : ps.map (fun i => wsW[i]?) = wc.map some) (as : List Nat) (hs1 : ∀ u : S, (wB u).map (fun q => q.1) = as) (hs2 : wc.map (fun q => q.1) = as) (w2 : S → va_W) (hw2 : ∀ u : S, pst wsW ps (wB u) = w2 u) (hXb : Blind X) (hX : ∀ U : State, U.heap = H → s.WarmedH U.vm → X U)
    (hls : ls.size = nL) (hn : As.length = n) (hst : st0 = As.reverse ++ rest) (hW : (rest.map fun v => v.category).sum ≤ 8) (hdg : decode cc pc = .ok (.invokestatic index, 3)) (hf : cells + mc ≤ R.cells ∧ slots + ms ≤ R.slots)
    (kk : ∀ (u : S) (H1 : Heap) (locs1 : List Loc), post u → va_P D vwCl (w2 u) H1 → va_D A (w2 u) → va_S A H0 H1 locs1 → W p l e R s m args below meth c H1 locs1 (cells + mc) (slots + ms) Q (F0 m (pc + 3) ls rest)) : W p l e R s m args below meth c H locs cells slots Q (F0 m pc ls st0) := by
  subst hst
  have hF := va_free (wc := wc) hD hS hA ps hps
  refine va_callv (va_runSN (rest := rest) Sx hM cw ⟨Pr.blind hXb, pr_at hE hP hD ps hnd hps hX⟩ rfl hn hls rfl (lv_room hW) hdg hf) hS (fun q _ h => hF q h) hF (fun u t H1 locs1 ht hvm hw hB hz1 hk1 hS1 => ?_)
  rw [ht] at hB
  obtain ⟨hP1, hD1⟩ := pst_join hP hD ps hps ((hs1 u).trans hs2.symm) hk1 hB
  rw [hw2 u] at hP1 hD1
  exact kk u H1 locs1 hw hP1 hD1 hS1
theorem pNv {S : Type} {ret : Option FieldType} {post : S → Prop} (Sx : CallFix p m c cc nL s args Ts own) (hM : Met l y ws rm (Pr D cA As H.size wc X) (va_Qv post (fun _ _ => True) (fun q => H.size ≤ q)) mc ms (fun q => H.size ≤ q)) (cw : va_CN R s args own index y host bytes maxL ret ws rm mc ms n ∧ (Cond.static y).before args s = true ∧ True)
    (hE : EK D cA s) (hP : va_P D vwCl wsW H) {A9 : Nat → Prop} (hD : va_D A9 wsW) (hS : va_S A H0 H locs) (hA : ∀ q, H0.size ≤ q → A q) (ps : List Nat) (hnd : va_nd ps = true) (hps : ps.map (fun i => wsW[i]?) = wc.map some) (hXb : Blind X) (hX : ∀ U : State, U.heap = H → s.WarmedH U.vm → X U)
    (hls : ls.size = nL) (hn : As.length = n) (hst : st0 = As.reverse ++ rest) (hW : (rest.map fun v => v.category).sum ≤ 8) (hdg : decode cc pc = .ok (.invokestatic index, 3)) (hf : cells + mc ≤ R.cells ∧ slots + ms ≤ R.slots)
    (kk : ∀ (u : S) (H1 : Heap) (locs1 : List Loc), post u → va_P D vwCl wsW H1 → va_S A H0 H1 locs1 → W p l e R s m args below meth c H1 locs1 (cells + mc) (slots + ms) Q (F0 m (pc + 3) ls rest)) : W p l e R s m args below meth c H locs cells slots Q (F0 m pc ls st0) := by
  subst hst
  have hF : ∀ q, H.size ≤ q → A q := fun q h => hA q (Nat.le_trans hS.1 h)
  refine va_callv (va_runSN (rest := rest) Sx hM cw ⟨Pr.blind hXb, pr_at hE hP hD ps hnd hps hX⟩ rfl hn hls rfl (lv_room hW) hdg hf) hS (fun q _ h => hF q h) hF (fun u t H1 locs1 ht hvm hw hB hz1 hk1 hS1 => ?_)
  exact kk u H1 locs1 hw (pure_P hP hk1) hS1
end OWNKIT
def bi (b : Bool) : Int32 := if b then 1 else 0
theorem bi_0 {b : Bool} : bi b = 0 ↔ b = false := by cases b <;> decide
theorem bi_1 {b : Bool} : ¬ bi b = 0 ↔ b = true := by cases b <;> decide
theorem bi_t {b : Bool} : bi b = 1 ↔ b = true := by cases b <;> decide
theorem bi_f {b : Bool} : ¬ bi b = 1 ↔ b = false := by cases b <;> decide
theorem nar_bi (b : Bool) : narrow .boolean (.int (bi b)) = .int (bi b) := by cases b <;> decide
theorem dec_nI (n : Nat) (h : 0 < n) : nI n + Int32.ofInt (-1) = nI (n - 1) := by
  obtain ⟨k, rfl⟩ : ∃ k, n = k + 1 := ⟨n - 1, by omega⟩
  exact pk_m1 k
def up {α : Type} (f : Nat → α) (k : Nat) (x : α) : Nat → α := fun j => if j = k then x else f j
theorem up_s {α : Type} {f : Nat → α} {k : Nat} {x : α} : up f k x k = x := if_pos rfl
theorem up_n {α : Type} {f : Nat → α} {k j : Nat} {x : α} (h : j ≠ k) : up f k x j = f j := if_neg h
/-- what a row answers at a place -/
def rg (n : Nat) (f : Nat → Int32) (x : Int32) : Int32 := if 0 ≤ x ∧ x < nI n then f x.toNatClampNeg else 0
/-- a row behind a put -/
def rp (n : Nat) (f : Nat → Int32) (x v : Int32) : Nat → Int32 := if 0 ≤ x ∧ x < nI n then upd f x.toNatClampNeg v else f
theorem in_row {n k : Nat} (hk : k < n) (hn : n < 2 ^ 31) : 0 ≤ nI k ∧ nI k < nI n := ⟨nI_pos' (by omega), nI_lt hk hn⟩
theorem rg_nI {n k : Nat} {f : Nat → Int32} (hk : k < n) (hn : n < 2 ^ 31) : rg n f (nI k) = f k := by
  unfold rg
  rw [if_pos (in_row hk hn), nI_clamp (by omega)]
theorem rp_nI {n k : Nat} {f : Nat → Int32} {v : Int32} (hk : k < n) (hn : n < 2 ^ 31) : rp n f (nI k) v = upd f k v := by
  unfold rp
  rw [if_pos (in_row hk hn), nI_clamp (by omega)]
theorem put_I {n k : Nat} {f : Nat → Int32} {v : Int32} (hk : k < n) (hn : n < 2 ^ 31) : ∀ j, j < n → rp n f (nI k) v j = up f k v j := fun j _ => by rw [rp_nI hk hn]; rfl
theorem put_N {n k : Nat} {f : Nat → Nat} {v : Nat} (hk : k < n) (hn : n < 2 ^ 31) : ∀ j, j < n → rp n (fun i => nI (f i)) (nI k) (nI v) j = nI (up f k v j) := fun j _ => by
  rw [rp_nI hk hn]
  unfold upd up
  split <;> rfl
theorem put_B {n k : Nat} {f : Nat → Bool} {v : Bool} (hk : k < n) (hn : n < 2 ^ 31) : ∀ j, j < n → rp n (fun i => bi (f i)) (nI k) (bi v) j = bi (up f k v j) := fun j _ => by
  rw [rp_nI hk hn]
  unfold upd up
  split <;> rfl
section OWNKIT2
variable {p : Program} {l : Launch} {e : Env} {R : Room} {s : State} {m : MethodId} {args : Array Value} {below : List Frame} {meth : Method} {c : Code} {H : Heap} {locs : List Loc} {cells slots : Nat} {Q : State → Prop}
variable {pc : Nat} {ls : Array Slot} {rest st0 : List Value} {A : Nat → Prop} {H0 : Heap} {D : va_G} {cA : ClassId} {wsW : va_W} {cc : ByteArray} {a : Nat}
theorem top_i {x : Int32} (y : Int32) (h : x = y) (k : W p l e R s m args below meth c H locs cells slots Q (F0 m pc ls (.int y :: rest))) : W p l e R s m args below meth c H locs cells slots Q (F0 m pc ls (.int x :: rest)) := by rw [h]; exact k
theorem top_l {x : Int64} (y : Int64) (h : x = y) (k : W p l e R s m args below meth c H locs cells slots Q (F0 m pc ls (.long y :: rest))) : W p l e R s m args below meth c H locs cells slots Q (F0 m pc ls (.long x :: rest)) := by rw [h]; exact k
theorem ald (hexec : p.tables.exec = Jvm.exec) (hb : c.code = cc) (hE : EK D cA s) (hP : va_P D vwCl wsW H) (q0 : Nat) {n : Nat} {f : Nat → Int32} (ha : wsW[q0]? = some (a, .inl (cA, n, .inl f))) {k : Nat} (hk : k < n) (hn : n < 2 ^ 31) {v : Int32} (hv : f k = v) (hdg : decode cc pc = .ok (.iaload, 1))
    (kk : W p l e R s m args below meth c H locs cells slots Q (F0 m (pc + 1) ls (.int v :: rest))) : W p l e R s m args below meth c H locs cells slots Q (F0 m pc ls (.int (nI k) :: .ref a :: rest)) := by
  refine va_iald hexec hb hE.1 hP q0 0 ha rfl (vp_in_nI hk hn) hdg ?_
  rw [nI_clamp (by omega), hv]
  exact kk
theorem ast (hexec : p.tables.exec = Jvm.exec) (hb : c.code = cc) (hE : EK D cA s) (hP : va_P D vwCl wsW H) (hD : va_D A wsW) (hS : va_S A H0 H locs) (q0 : Nat) {n : Nat} {f : Nat → Int32} (ha : wsW[q0]? = some (a, .inl (cA, n, .inl f))) {k : Nat} (hk : k < n) (hn : n < 2 ^ 31) {x : Int32} (g : Nat → Int32) (hg : ∀ j, j < n → upd f k x j = g j) (hdg : decode cc pc = .ok (.iastore, 1))
    (kk : ∀ (H1 : Heap) (locs1 : List Loc), va_P D vwCl (wsW.set q0 (a, .inl (cA, n, .inl g))) H1 → va_D A (wsW.set q0 (a, .inl (cA, n, .inl g))) → va_S A H0 H1 locs1 → W p l e R s m args below meth c H1 locs1 cells slots Q (F0 m (pc + 1) ls rest)) : W p l e R s m args below meth c H locs cells slots Q (F0 m pc ls (.int x :: .int (nI k) :: .ref a :: rest)) := by
  refine va_iast hexec hb hE.1 hP hD hS q0 0 ha rfl (vp_in_nI hk hn) hdg (fun H1 locs1 hP1 hD1 hS1 => ?_)
  have hlt : q0 < wsW.length := (List.getElem?_eq_some_iff.mp ha).1
  refine kk H1 locs1 ?_ (hD.set ha) hS1
  have h2 := hP1.arr q0 g (List.getElem?_set_self hlt) (fun j hj => by rw [nI_clamp (by omega)]; exact hg j hj)
  rw [List.set_set] at h2
  exact h2
end OWNKIT2
