/-! the reference's two rows of constants -/
def waxT : Nat → Int32 := fun i => nI (waxOf i)
def takT : Nat → Int32 := fun i => takes i
def SX (z1 z2 : Nat) (A : Nat → Prop) (U : State) : Prop := va_Z "LanternWeirsModel" "WAX" "[I" (.ref z1) A U U.heap ∧ va_Z "LanternWeirsModel" "TAKES" "[I" (.ref z2) A U U.heap ∧ va_X z1 3 waxT U U.heap ∧ va_X z2 3 takT U U.heap ∧ z1 < U.heap.size ∧ z2 < U.heap.size ∧ ¬ A z1 ∧ ¬ A z2
theorem SX.blind (z1 z2 : Nat) (A : Nat → Prop) : Blind (SX z1 z2 A) := fun U g mk a h =>
  ⟨va_Z.moved (u := U) (U := U.calling g mk a) (Vm.Alike.refl U.vm) h.1, va_Z.moved (u := U) (U := U.calling g mk a) (Vm.Alike.refl U.vm) h.2.1, va_X.moved (u := U) (U := U.calling g mk a) (Vm.Alike.refl U.vm) h.2.2.1, va_X.moved (u := U) (U := U.calling g mk a) (Vm.Alike.refl U.vm) h.2.2.2.1, h.2.2.2.2⟩
theorem SX.at {z1 z2 : Nat} {A A' : Nat → Prop} {s U : State} {H : Heap} {locs : List Loc} (h : SX z1 z2 A s) (hS : va_S A s.heap H locs) (hA : ∀ q, A' q → A q) (hU : U.heap = H) (hW : s.WarmedH U.vm) : SX z1 z2 A' U := by
  obtain ⟨h1, h2, h3, h4, h5, h6, h7, h8⟩ := h
  refine ⟨?_, ?_, ?_, ?_, ?_, ?_, fun q => h7 (hA _ q), fun q => h8 (hA _ q)⟩
  · rw [hU]; exact ((h1.kept hS.2.1).moved hW.alike).narrow hA
  · rw [hU]; exact ((h2.kept hS.2.1).moved hW.alike).narrow hA
  · rw [hU]; exact (h3.kept (hS.2.1 _ h5 h7)).moved hW.alike
  · rw [hU]; exact (h4.kept (hS.2.1 _ h6 h8)).moved hW.alike
  · rw [hU]; exact Nat.lt_of_lt_of_le h5 hS.1
  · rw [hU]; exact Nat.lt_of_lt_of_le h6 hS.1
section OWNKIT6
variable {p : Program} {l : Launch} {e : Env} {R : Room} {s : State} {m : MethodId} {args : Array Value} {below : List Frame} {meth : Method} {c : Code} {H : Heap} {locs : List Loc} {cells slots : Nat} {Q : State → Prop}
variable {pc : Nat} {ls : Array Slot} {rest : List Value} {A : Nat → Prop} {cc : ByteArray}
theorem sld (hexec : p.tables.exec = Jvm.exec) (hb : c.code = cc) {b L : Nat} {xs : Nat → Int32} (hX : va_X b L xs s s.heap) (hbl : b < s.heap.size) (hbA : ¬ A b) (hS : va_S A s.heap H locs) {k : Nat} (hk : k < L) (hL : L < 2 ^ 31) {v : Int32} (hv : xs k = v) (hdg : decode cc pc = .ok (.iaload, 1))
    (kk : W p l e R s m args below meth c H locs cells slots Q (F0 m (pc + 1) ls (.int v :: rest))) : W p l e R s m args below meth c H locs cells slots Q (F0 m pc ls (.int (nI k) :: .ref b :: rest)) := by
  refine va_sld hexec hb hX hbl hbA hS (vp_in_nI hk hL) hdg ?_
  rw [nI_clamp (by omega), hv]
  exact kk
end OWNKIT6
theorem cpy_all {f g : Nat → Int32} {n : Nat} (hn : n < 2 ^ 31) : ∀ j, j < n → va_cpy f g (0 : Int32).toNatClampNeg (0 : Int32).toNatClampNeg (nI n).toNatClampNeg j = f j := fun j hj => by
  rw [sb_cl0, nI_clamp hn]
  exact sb_cpy0 hj
