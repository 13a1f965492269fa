/-! what the start gives -/
theorem arr_of {args : Array Value} {s : State} (h : (Cond.arrayClass .int).before args s = true) : ∃ cA : ClassId, s.vm.findClass "[I" = some cA ∧ ArrOfT s cA .int ∧ va_RA s cA .int := by
  obtain ⟨cA, kA, comp, h1, h2, h3⟩ := Cond.arrayClass_spec h
  exact ⟨cA, h1, fun n z => ⟨fun k h => (by cases h), kA, h2, comp, h3⟩, h1⟩
theorem law_D {args : Array Value} {s : State} (hts : ∀ w ∈ lw_tbl, w.before args s = true) : ∃ D : va_G, ∀ (k : Nat) (q : vw_C), vwCl[k]? = some q → u_Kn s q.1 q.2.1 q.2.2 (D.1 k) (D.2 k) := by
  obtain ⟨c0, i0, h0⟩ := u_known (C := RX0) (T := TX0) (N := 5) (n := 5) hts inX0 (hts (.instantiable RX0 5) (by decide +kernel))
  obtain ⟨c1, i1, h1⟩ := u_known (C := RX1) (T := TX1) (N := 13) (n := 13) hts inX1 (hts (.instantiable RX1 13) (by decide +kernel))
  obtain ⟨c2, i2, h2⟩ := u_known (C := RX2) (T := TX2) (N := 1) (n := 1) hts inX2 (hts (.instantiable RX2 1) (by decide +kernel))
  obtain ⟨c3, i3, h3⟩ := u_known (C := RX3) (T := TX3) (N := 3) (n := 3) hts inX3 (hts (.instantiable RX3 3) (by decide +kernel))
  obtain ⟨c4, i4, h4⟩ := u_known (C := RX4) (T := TX4) (N := 13) (n := 13) hts inX4 (hts (.instantiable RX4 13) (by decide +kernel))
  obtain ⟨c5, i5, h5⟩ := u_known (C := RX5) (T := TX5) (N := 8) (n := 8) hts inX5 (hts (.instantiable RX5 8) (by decide +kernel))
  refine ⟨(fun k => match k with | 0 => c0 | 1 => c1 | 2 => c2 | 3 => c3 | 4 => c4 | _ => c5, fun k => match k with | 0 => i0 | 1 => i1 | 2 => i2 | 3 => i3 | 4 => i4 | _ => i5), fun k q hq => ?_⟩
  match k, hq with
  | 0, hq => cases hq; exact h0
  | 1, hq => cases hq; exact h1
  | 2, hq => cases hq; exact h2
  | 3, hq => cases hq; exact h3
  | 4, hq => cases hq; exact h4
  | 5, hq => cases hq; exact h5
  | k + 6, hq => simp [vwCl] at hq
theorem nest_of {args : Array Value} {s : State} (hts : ∀ w ∈ lw_tbl, w.before args s = true) : Nst s := by
  intro w hw
  have h0 : ∀ w ∈ nestW, w ∈ lw_tbl := by decide +kernel
  have h1 := List.all_eq_true.mp nestW_ok w hw
  have h2 := hts w (h0 w hw)
  cases w <;> first | exact va_Nw.of rfl h2 | (simp [isNestW] at h1)
theorem exw_of {args : Array Value} {s : State} (hts : ∀ w ∈ lw_tbl, w.before args s = true) : ∀ w ∈ exW, va_Nw w s := by
  intro w hw
  have h0 : ∀ w ∈ exW, w ∈ lw_tbl := by decide +kernel
  have h1 := List.all_eq_true.mp exW_ok w hw
  have h2 := hts w (h0 w hw)
  cases w <;> first | exact va_Nw.of rfl h2 | (simp [isXW] at h1)
/-- what the Statement gives of the start, piece by piece -/
abbrev lw_flat : List Cond := flatC (Jvm.Cond.and given_1 narrow_1)
theorem str_of {args : Array Value} {s : State} (hts : ∀ w ∈ lw_tbl, w.before args s = true) (hf : ∀ w ∈ lw_flat, w.before args s = true) : ∃ sa : Nat → Nat, ∀ w ∈ strW, vk_R RX3 w.1 w.2 (sa w.1) s := by
  have h0 : ∀ w ∈ strW, Cond.stringRef RX3 w.1 w.2 ∈ lw_tbl := by decide +kernel
  have h1 : ∀ w ∈ strW, Cond.exactly (.string RX3 w.1) "java/lang/String" ∈ lw_flat := by decide +kernel
  have h2 : ∀ k : Nat, ∃ a : Nat, ∀ tx : String, (k, tx) ∈ strW → (Term.string RX3 k).eval args s none [] s = some (.ref a) := by
    intro k
    by_cases hk : ∃ tx, (k, tx) ∈ strW
    · obtain ⟨tx, htx⟩ := hk
      obtain ⟨a, -, -, -, ha, -⟩ := Cond.exactly_spec (hf _ (h1 _ htx))
      exact ⟨a, fun _ _ => ha⟩
    · exact ⟨0, fun tx h => absurd ⟨tx, h⟩ hk⟩
  refine ⟨fun k => Classical.choose (h2 k), fun w hw => vk_R.of (hts _ (h0 w hw)) ?_⟩
  exact Classical.choose_spec (h2 w.1) w.2 hw
theorem nc_of {args : Array Value} {s : State} (hf : ∀ w ∈ lw_flat, w.before args s = true) : NCx s :=
  ⟨va_Nc.of (hf (.not (.castable nIA nIO)) (by decide +kernel)), va_Nc.of (hf (.not (.castable nIS nIO)) (by decide +kernel)), va_Nc.of (hf (.not (.castable nIS nIA)) (by decide +kernel)), va_Nc.of (hf (.not (.castable nIO nIA)) (by decide +kernel))⟩
theorem tx_of {args : Array Value} {s : State} (hts : ∀ w ∈ lw_tbl, w.before args s = true) (hf : ∀ w ∈ lw_flat, w.before args s = true) : ∃ sa : Nat → Nat, TX sa (fun q : Nat => s.heap.size ≤ q) s := by
  obtain ⟨sa, h⟩ := str_of hts hf
  have hA : ∀ a : Nat, a < s.heap.size → ¬ (fun q : Nat => s.heap.size ≤ q) a := fun a h => Nat.not_le.mpr h
  exact ⟨sa, h, exw_of hts, vx_Zqof (hts (.laysStatic Bundle.tN "UNASSIGNED_STACK" Bundle.steD) (by decide +kernel)) (hts (.initialized Bundle.tN) (by decide +kernel)) (hf (.isRef (.static Bundle.tN "UNASSIGNED_STACK" Bundle.steD)) (by decide +kernel)) hA,
    vx_Zqof (hts (.laysStatic Bundle.tN "SUPPRESSED_SENTINEL" Bundle.listD) (by decide +kernel)) (hts (.initialized Bundle.tN) (by decide +kernel)) (hf (.isRef (.static Bundle.tN "SUPPRESSED_SENTINEL" Bundle.listD)) (by decide +kernel)) hA⟩
theorem len_lt {args : Array Value} {s : State} {t : Term} {v : Value} {z : Nat} {cell : Cell} (hv : (Term.length t).eval args s none [] s = some v) (hz : t.eval args s none [] s = some (.ref z)) (hc : s.heap[z]? = some cell) : cell.slots.size < 2 ^ 31 := by
  have hv2 : ∃ i, (Term.length t).eval args s none [] s = some (.int i) := by
    simp only [Term.eval, hz, Option.bind_eq_bind, Option.bind_some] at hv ⊢
    cases ha : s.arrayAt? z with
    | none => simp [ha] at hv
    | some c2 =>
      by_cases hlt : c2.slots.size < 2147483648
      · exact ⟨c2.slots.size.toInt32, by simp [hlt]⟩
      · simp [ha, hlt] at hv
  obtain ⟨i, hv3⟩ := hv2
  obtain ⟨b2, cell2, ht, hat, -⟩ := Term.length_spec hv3
  cases hz.symm.trans ht
  obtain ⟨hcell, -, -, -⟩ := State.arrayAt?_spec hat
  cases hc.symm.trans hcell
  simp only [Term.eval, ht, hat, Option.bind_eq_bind, Option.bind_some] at hv3
  by_cases hlt : cell.slots.size < 2147483648
  · exact hlt
  · simp [hlt] at hv3
theorem stat3 {args : Array Value} {s : State} {C n d : String} (f : Nat → Int32) {A : Nat → Prop} (hl : (Cond.laysStatic C n d).before args s = true) (hini : (Cond.initialized C).before args s = true) (harr : (Cond.arrayOf (.static C n d) .int).before args s = true)
    (hlen : (Cond.eq (.length (.static C n d)) (.int 3)).before args s = true) (h0 : (Cond.eq (.elem (.static C n d) (.int 0)) (.int (f 0))).before args s = true) (h1 : (Cond.eq (.elem (.static C n d) (.int 1)) (.int (f 1))).before args s = true) (h2 : (Cond.eq (.elem (.static C n d) (.int 2)) (.int (f 2))).before args s = true)
    (hA : ∀ a : Nat, a < s.heap.size → ¬ A a) : ∃ z : Nat, va_Z C n d (.ref z) A s s.heap ∧ va_X z 3 f s s.heap ∧ z < s.heap.size ∧ ¬ A z := by
  have hv := va_eqt hlen
  obtain ⟨z, hz, cell, c1, c2, c3, c4, c5, c6, c7⟩ := va_Tof (tm := .static C n d) (ty := .int) (N := 3) (f := fun j => .int (f j)) (A := A) (by decide) harr hv (fun j hj => by
    rcases (show j = 0 ∨ j = 1 ∨ j = 2 by omega) with rfl | rfl | rfl
    · exact va_eqt h0
    · exact va_eqt h1
    · exact va_eqt h2) hA
  have hsz : cell.slots.size < 2 ^ 31 := len_lt hv hz c1
  have h3 : cell.slots.size = 3 := (nI_eq (a := cell.slots.size) (b := 3) hsz (by decide)).mp c5
  have hlt := (Array.getElem?_eq_some_iff.mp c1).1
  exact ⟨z, va_Zof hl hini hz hA, ⟨cell, c1, c2, c3, h3, c6⟩, hlt, c7⟩
theorem sx_of {args : Array Value} {s : State} (hts : ∀ w ∈ lw_tbl, w.before args s = true) (hf : ∀ w ∈ lw_flat, w.before args s = true) : ∃ z1 z2 : Nat, SX z1 z2 (fun q : Nat => s.heap.size ≤ q) s := by
  have hA : ∀ a : Nat, a < s.heap.size → ¬ (fun q : Nat => s.heap.size ≤ q) a := fun a h => Nat.not_le.mpr h
  obtain ⟨z1, a1, b1, l1, n1⟩ := stat3 (C := "LanternWeirsModel") (n := "WAX") (d := "[I") waxT (hts (.laysStatic "LanternWeirsModel" "WAX" "[I") (by decide +kernel)) (hts (.initialized "LanternWeirsModel") (by decide +kernel)) (hf (.arrayOf (.static "LanternWeirsModel" "WAX" "[I") .int) (by decide +kernel)) (hf (.eq (.length (.static "LanternWeirsModel" "WAX" "[I")) (.int 3)) (by decide +kernel)) (show (Cond.eq (.elem (.static "LanternWeirsModel" "WAX" "[I") (.int 0)) (.int (waxT 0))).before args s = true from hf (.eq (.elem (.static "LanternWeirsModel" "WAX" "[I") (.int 0)) (.int 20)) (by decide +kernel)) (show (Cond.eq (.elem (.static "LanternWeirsModel" "WAX" "[I") (.int 1)) (.int (waxT 1))).before args s = true from hf (.eq (.elem (.static "LanternWeirsModel" "WAX" "[I") (.int 1)) (.int 30)) (by decide +kernel)) (show (Cond.eq (.elem (.static "LanternWeirsModel" "WAX" "[I") (.int 2)) (.int (waxT 2))).before args s = true from hf (.eq (.elem (.static "LanternWeirsModel" "WAX" "[I") (.int 2)) (.int 45)) (by decide +kernel)) hA
  obtain ⟨z2, a2, b2, l2, n2⟩ := stat3 (C := "LanternWeirsModel") (n := "TAKES") (d := "[I") takT (hts (.laysStatic "LanternWeirsModel" "TAKES" "[I") (by decide +kernel)) (hts (.initialized "LanternWeirsModel") (by decide +kernel)) (hf (.arrayOf (.static "LanternWeirsModel" "TAKES" "[I") .int) (by decide +kernel)) (hf (.eq (.length (.static "LanternWeirsModel" "TAKES" "[I")) (.int 3)) (by decide +kernel)) (show (Cond.eq (.elem (.static "LanternWeirsModel" "TAKES" "[I") (.int 0)) (.int (takT 0))).before args s = true from hf (.eq (.elem (.static "LanternWeirsModel" "TAKES" "[I") (.int 0)) (.int 12)) (by decide +kernel)) (show (Cond.eq (.elem (.static "LanternWeirsModel" "TAKES" "[I") (.int 1)) (.int (takT 1))).before args s = true from hf (.eq (.elem (.static "LanternWeirsModel" "TAKES" "[I") (.int 1)) (.int 8)) (by decide +kernel)) (show (Cond.eq (.elem (.static "LanternWeirsModel" "TAKES" "[I") (.int 2)) (.int (takT 2))).before args s = true from hf (.eq (.elem (.static "LanternWeirsModel" "TAKES" "[I") (.int 2)) (.int 5)) (by decide +kernel)) hA
  exact ⟨z1, z2, a1, a2, b1, b2, l1, l2, n1, n2⟩
