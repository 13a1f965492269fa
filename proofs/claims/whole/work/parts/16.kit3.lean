section OWNKIT3
variable {p : Program} {l : Launch} {e : Env} {R : Room} {s : State} {m : MethodId} {args : Array Value} {below : List Frame} {meth : Method} {c : Code} {H : Heap} {locs : List Loc} {cells slots : Nat} {Q : State → Prop}
variable {pc : Nat} {ls : Array Slot} {rest st0 : List Value} {A : Nat → Prop} {H0 : Heap} {mc ms : Nat} {D : va_G} {cA : ClassId} {wsW wc wr : va_W} {X : State → Prop}
variable {y : MethodName} {bytes cc : ByteArray} {maxL nL n index : Nat} {ws : List Cond} {rm : Room} {Ts : List Cond} {own C host : String} {b : Nat} {As : List Value}
/-- a new row of ints, of the class that the world's rows have -/
theorem na_i (hexec : p.tables.exec = Jvm.exec) (hb : c.code = cc) (harr : (Cond.arrayClass .int).before args s = true) (hE : EK D cA s) (hP : va_P D vwCl wsW H) (hD : va_D A wsW) (hS : va_S A H0 H locs) (hA : ∀ q, H0.size ≤ q → A q) {N : Nat} (hN : N ≤ 100000) (hc : cells + 1 ≤ R.cells) (hs : slots + N ≤ R.slots) (hdg : decode cc pc = .ok (.newarray .int, 2))
    (kk : ∀ (q : Nat) (H1 : Heap), va_P D vwCl (wsW ++ [(q, .inl (cA, N, .inl (fun _ => 0)))]) H1 → va_D A (wsW ++ [(q, .inl (cA, N, .inl (fun _ => 0)))]) → va_S A H0 H1 locs → W p l e R s m args below meth c H1 locs (cells + 1) (slots + N) Q (F0 m (pc + 2) ls (.ref q :: rest))) : W p l e R s m args below meth c H locs cells slots Q (F0 m pc ls (.int (nI N) :: rest)) := by
  have hb4 : componentBytes (newarray.typeOf .int) = 4 := rfl
  refine va_newaK hexec hb (atype := .int) harr rfl hdg rfl (N := N) (nI_pos (by omega)) (nI_clamp (by omega)) (by rw [hb4]; omega) hc hs rfl fun H1 cA1 e1 z1 o1 hAr hNm => ?_
  have h1 : cA1 = cA := by
    have h2 : s.vm.findClass "[I" = some cA1 := hNm
    rw [hE.2.1] at h2
    exact (Option.some.inj h2).symm
  subst h1
  have hk : ∀ (k : Nat) (x : Nat × va_E), wsW[k]? = some x → H1[x.1]? = H[x.1]? := fun k x hx => o1 x.1 ((hP k x hx).lt)
  have hnew : va_at D vwCl (H.size, .inl (cA1, N, .inl (fun _ => 0))) H1 := e1
  refine kk H.size H1 (va_P.app (hP.kept hk) (fun k q hq => ?_)) (hD.push hP rfl (hA _ hS.1)) ⟨by rw [z1]; exact Nat.le_succ_of_le hS.1, fun q h1 h2 => (o1 q (Nat.lt_of_lt_of_le h1 hS.1)).trans (hS.2.1 q h1 h2), hS.2.2⟩
  match k, hq with
  | 0, hq => cases hq; exact hnew
theorem cI {S : Type} {post : S → Prop} {wB : S → va_W} (Sx : CallFix p m c cc nL s args Ts own) (hM : Met l y ws rm (Pr D cA (.ref b :: As) H.size wc X) (va_Qv post (fun u t => va_P D vwCl (wB u) t.heap ∧ va_D (va_A wc H.size) (wB u)) (va_A wc H.size)) mc ms (va_A wc H.size)) (cw : CallB R s args own index y bytes maxL none ws rm mc ms n ∧ y.name = "<init>" ∧ (Cond.instanceMethod y).before args s = true)
    (hE : EK D cA s) (hP : va_P D vwCl wsW H) (hD : va_D A wsW) (hS : va_S A H0 H locs) (hA : ∀ q, H0.size ≤ q → A q) (isC isR : List Nat) (hC : isC.map (fun i => wsW[i]?) = wc.map some) (hR : isR.map (fun i => wsW[i]?) = wr.map some) (hnC : va_nd isC = true) (hnR : va_nd isR = true) (hdis : ∀ i ∈ isR, i ∉ isC) (hXb : Blind X) (hX : ∀ U : State, U.heap = H → s.WarmedH U.vm → X U)
    (hls : ls.size = nL) (hn : As.length = n) (hst : st0 = As.reverse ++ .ref b :: rest) (hW : (rest.map fun v => v.category).sum ≤ 8) (hdg : decode cc pc = .ok (.invokespecial index, 3)) (hf : cells + mc ≤ R.cells ∧ slots + ms ≤ R.slots)
    (kk : ∀ (u : S) (H1 : Heap) (locs1 : List Loc), post u → va_P D vwCl (wr ++ wB u) H1 → va_D A (wr ++ wB u) → va_S A H0 H1 locs1 → W p l e R s m args below meth c H1 locs1 (cells + mc) (slots + ms) Q (F0 m (pc + 3) ls rest)) : W p l e R s m args below meth c H locs cells slots Q (F0 m pc ls st0) := by
  subst hst
  have hF := va_free (wc := wc) hD hS hA isC hC
  refine va_callv (va_runI (rest := rest) Sx hM cw ⟨Pr.blind hXb, pr_at hE hP hD isC hnC hC hX⟩ rfl hn hls rfl (lv_room hW) hdg hf) hS (fun q _ h => hF q h) hF (fun u t H1 locs1 ht hvm hw hB hz1 hk1 hS1 => ?_)
  rw [ht] at hB
  obtain ⟨hP1, hD1⟩ := va_join hP hD isC isR hC hR hnR hdis hk1 hF hB.1 hB.2
  exact kk u H1 locs1 hw hP1 hD1 hS1
theorem cIN {S : Type} {post : S → Prop} {wB : S → va_W} (Sx : CallFix p m c cc nL s args Ts own) (hM : Met l y ws rm (Pr D cA (.ref b :: As) H.size wc X) (va_Qv post (fun u t => va_P D vwCl (wB u) t.heap ∧ va_D (va_A wc H.size) (wB u)) (va_A wc H.size)) mc ms (va_A wc H.size)) (cw : va_CN R s args own index y host bytes maxL none ws rm mc ms n ∧ y.name = "<init>" ∧ (Cond.instanceMethod y).before args s = true)
    (hE : EK D cA s) (hP : va_P D vwCl wsW H) (hD : va_D A wsW) (hS : va_S A H0 H locs) (hA : ∀ q, H0.size ≤ q → A q) (isC isR : List Nat) (hC : isC.map (fun i => wsW[i]?) = wc.map some) (hR : isR.map (fun i => wsW[i]?) = wr.map some) (hnC : va_nd isC = true) (hnR : va_nd isR = true) (hdis : ∀ i ∈ isR, i ∉ isC) (hXb : Blind X) (hX : ∀ U : State, U.heap = H → s.WarmedH U.vm → X U)
    (hls : ls.size = nL) (hn : As.length = n) (hst : st0 = As.reverse ++ .ref b :: rest) (hW : (rest.map fun v => v.category).sum ≤ 8) (hdg : decode cc pc = .ok (.invokespecial index, 3)) (hf : cells + mc ≤ R.cells ∧ slots + ms ≤ R.slots)
    (kk : ∀ (u : S) (H1 : Heap) (locs1 : List Loc), post u → va_P D vwCl (wr ++ wB u) H1 → va_D A (wr ++ wB u) → va_S A H0 H1 locs1 → W p l e R s m args below meth c H1 locs1 (cells + mc) (slots + ms) Q (F0 m (pc + 3) ls rest)) : W p l e R s m args below meth c H locs cells slots Q (F0 m pc ls st0) := by
  subst hst
  have hF := va_free (wc := wc) hD hS hA isC hC
  refine va_callv (va_runIN (rest := rest) Sx hM cw ⟨Pr.blind hXb, pr_at hE hP hD isC hnC hC hX⟩ rfl hn hls rfl (lv_room hW) hdg hf) hS (fun q _ h => hF q h) hF (fun u t H1 locs1 ht hvm hw hB hz1 hk1 hS1 => ?_)
  rw [ht] at hB
  obtain ⟨hP1, hD1⟩ := va_join hP hD isC isR hC hR hnR hdis hk1 hF hB.1 hB.2
  exact kk u H1 locs1 hw hP1 hD1 hS1
end OWNKIT3
/-- the start -/
def zF : FSt := (fun _ => 0, fun _ => 0, fun _ => 0, fun _ => 0, fun _ => 0, fun _ => 0, fun _ => false, fun _ => 0, fun _ => 0, 0, 0)
def zB : BSt := (fun i => if i = 1 then 3 else 2, fun _ => 0, fun _ => false, 0, 0)
theorem zB_cu : ∀ j, j < 3 → upd (upd (upd (fun _ => 0) 0 2) 1 3) 2 2 j = nI (bCu zB j) := fun j hj => by
  rcases (show j = 0 ∨ j = 1 ∨ j = 2 by omega) with rfl | rfl | rfl <;> rfl
