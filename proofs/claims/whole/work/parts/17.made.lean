set_option maxHeartbeats 4000000 in
set_option maxRecDepth 100000 in
/-- Row(3) -/
theorem K_X2_init3 (lch : Launch) (D : va_G) (cA : ClassId) (h : Nat) (sz : Nat)  : Met lch yX2_init wsX2_init ({ frames := 1, cells := 1, slots := 3, locals := 12 }) (Pr D cA [.ref h, .int (nI 3)] sz ([(h, .inr (2, [.null]))] : va_W) X0) (va_Qv (fun (u : Nat) => True) (fun (u : Nat) t => va_P D vwCl (wR cA h u 3 (fun _ => 0)) t.heap ∧ va_D (va_A ([(h, .inr (2, [.null]))] : va_W) sz) (wR cA h u 3 (fun _ => 0))) (va_A ([(h, .inr (2, [.null]))] : va_W) sz)) 1 3 (va_A ([(h, .inr (2, [.null]))] : va_W) sz) := by
  refine Met.ofW (cc := cX2_init) (maxL := 2) (ret := none) (by decide) rfl ?_
  intro pg ev s mi args below meth cd s₁ B hml hv
  obtain ⟨hav, hsz, hP, hE, hD, hXs⟩ := hv
  have hx := B.exec
  have hb := B.bytes
  have hr := B.returns
  have hts := atoms_spec (ws := wsX2_init) B.pre
  have hown : s.vm.findClass RX2 = some mi.cls := findClass_of_methodNamed B.named
  have hlocks := B.notSynchronized
  have hin : meth.name = "<init>" := (name_of_methodNamed B.named B.method).1
  clear B
  subst hav
  subst hsz
  have hD := hD.self (sz := s.heap.size)
  generalize hAe : va_A ([(h, .inr (2, [.null]))] : va_W) s.heap.size = A at hD ⊢
  have hA : ∀ q : Nat, s.heap.size ≤ q → A q := fun q h => by rw [← hAe]; exact Or.inr h
  have hS : va_S A s.heap s.heap [] := va_S.rf
  obtain ⟨QQ, hQQ⟩ : ∃ qq9, qq9 = MQ below (va_Qv (fun (u : Nat) => True) (fun (u : Nat) t => va_P D vwCl (wR cA h u 3 (fun _ => 0)) t.heap ∧ va_D A (wR cA h u 3 (fun _ => 0))) A) ([.ref h, .int (nI 3)] : List Value).toArray s 1 3 A := ⟨_, rfl⟩
  rw [← hQQ]
  have hl := lv_entry ([.ref h, .int (nI 3)]) (n := 2) (Nat.le_of_ble_eq_true rfl)
  rw [lg_entry_eq]
  generalize (lg_sl ([.ref h, .int (nI 3)]) ++ List.replicate (2 - (lg_sl ([.ref h, .int (nI 3)])).length) Slot.unset).toArray = ls at hl ⊢
  have hl : lv_has ls 2 [(0, .ref h), (1, .int (nI 3))] := hl
  have kw0 := hts (.methodLink RX2 1 objectInit) (by decide +kernel)
  have kw1 := hts (.instanceMethod objectInit) (by decide +kernel)
  have kw2 := hts (.code objectInit ⟨#[0xb1]⟩ 1 none) (by decide +kernel)
  have kw3 := hts (.arrayClass .int) (by decide +kernel)
  have kf7 := hts (.fieldLink RX2 7 "LanternWeirs$Row" "cells" "[I") (by decide +kernel)
  have inX2 : ∀ w ∈ u_ws RX2 TX2 1, w ∈ wsX2_init := by decide +kernel
  obtain ⟨H, locs, hP, hS, hgo⟩ : ∃ H locs, va_P D vwCl ([(h, .inr (2, [.null]))] : va_W) H ∧ va_S A s.heap H locs ∧ (H = s.heap ∧ locs = []) := ⟨_, _, hP, hS, rfl, rfl⟩
  obtain ⟨hg1, hg2⟩ := hgo
  have hgoal : W pg lch ev (headSpec wsX2_init ({ frames := 1, cells := 1, slots := 3, locals := 12 })).room s mi ([.ref h, .int (nI 3)] : List Value).toArray below meth cd H locs 0 0 QQ (F0 mi 0 ls []) := by
    refine lv_aload_n hx hb dX2_init_0 rfl (lv_at hl 0 rfl) ?_
    refine W.objInit hx hb hown kw0 kw1 kw2 rfl (by rw [hml]; exact hl.1) rfl dX2_init_1 (Nat.le_of_ble_eq_true rfl) (Nat.le_of_ble_eq_true rfl) ?_
    refine W.eq (g2 := F0 mi 4 ls []) rfl ?_
    refine lv_aload_n hx hb dX2_init_4 rfl (lv_at hl 0 rfl) ?_
    refine lv_iload_n hx hb dX2_init_5 rfl (lv_at hl 1 rfl) ?_
    refine lv_if_le (tgt := 13) hx hb dX2_init_6 (by decide) (fun c6 => ?_) (fun c6 => ?_)
    · skip
      have c6 := (nI_leI (a := 3) (b := 0) (by omega) (by omega)).mp c6
      exfalso; omega
    · skip
      have c6 := (not_congr (nI_leI (a := 3) (b := 0) (by omega) (by omega))).mp c6
      refine lv_iload_n hx hb dX2_init_9 rfl (lv_at hl 1 rfl) ?_
      refine lv_goto (tgt := 14) hx hb dX2_init_10 (by decide) ?_
      refine na_i hx hb kw3 hE hP hD hS hA (N := 3) (Nat.le_of_ble_eq_true rfl) (Nat.le_of_ble_eq_true rfl) (Nat.le_of_ble_eq_true rfl) dX2_init_14 (fun q14 H hP hD hS => ?_)
      refine W.widen (k := 1) (n := 3) (by omega) (by omega) ?_
      have hP : va_P D vwCl ([(h, .inr (2, [.null])), (q14, .inl (cA, 3, .inl (fun _ => 0)))] : va_W) H := hP
      have hD : va_D A ([(h, .inr (2, [.null])), (q14, .inl (cA, 3, .inl (fun _ => 0)))] : va_W) := hD
      refine va_putF (D := D) (ci := 2) (v := .ref q14) (ty := .array .int) (C := RX2) (T := TX2) (N := 1) hx hb hts inX2 tyX2 tyX2_ok nmX2 hown hE.1 hP hD hS 0 rfl rfl 0 (by decide) kf7 (fun _ h9 => h9) rfl hin rfl (by decide +kernel) rfl rfl (Nat.le_of_ble_eq_true rfl) dX2_init_16 (fun H locs hP hD hS => ?_)
      have hP : va_P D vwCl (wR cA h q14 3 (fun _ => 0)) H := hP
      have hD : va_D A (wR cA h q14 3 (fun _ => 0)) := hD
      rw [hQQ]
      exact W.vret hx hb hr (fun t ht hW => ⟨⟨q14, rfl, trivial, ⟨by rw [ht]; exact hP, hD⟩⟩, hS.F ht⟩) hS.2.2 dX2_init_19
  rw [hg1, hg2] at hgoal
  exact hgoal

set_option maxHeartbeats 4000000 in
set_option maxRecDepth 100000 in
/-- Row(60) -/
theorem K_X2_init60 (lch : Launch) (D : va_G) (cA : ClassId) (h : Nat) (sz : Nat)  : Met lch yX2_init wsX2_init ({ frames := 1, cells := 1, slots := 60, locals := 12 }) (Pr D cA [.ref h, .int (nI 60)] sz ([(h, .inr (2, [.null]))] : va_W) X0) (va_Qv (fun (u : Nat) => True) (fun (u : Nat) t => va_P D vwCl (wR cA h u 60 (fun _ => 0)) t.heap ∧ va_D (va_A ([(h, .inr (2, [.null]))] : va_W) sz) (wR cA h u 60 (fun _ => 0))) (va_A ([(h, .inr (2, [.null]))] : va_W) sz)) 1 60 (va_A ([(h, .inr (2, [.null]))] : va_W) sz) := by
  refine Met.ofW (cc := cX2_init) (maxL := 2) (ret := none) (by decide) rfl ?_
  intro pg ev s mi args below meth cd s₁ B hml hv
  obtain ⟨hav, hsz, hP, hE, hD, hXs⟩ := hv
  have hx := B.exec
  have hb := B.bytes
  have hr := B.returns
  have hts := atoms_spec (ws := wsX2_init) B.pre
  have hown : s.vm.findClass RX2 = some mi.cls := findClass_of_methodNamed B.named
  have hlocks := B.notSynchronized
  have hin : meth.name = "<init>" := (name_of_methodNamed B.named B.method).1
  clear B
  subst hav
  subst hsz
  have hD := hD.self (sz := s.heap.size)
  generalize hAe : va_A ([(h, .inr (2, [.null]))] : va_W) s.heap.size = A at hD ⊢
  have hA : ∀ q : Nat, s.heap.size ≤ q → A q := fun q h => by rw [← hAe]; exact Or.inr h
  have hS : va_S A s.heap s.heap [] := va_S.rf
  obtain ⟨QQ, hQQ⟩ : ∃ qq9, qq9 = MQ below (va_Qv (fun (u : Nat) => True) (fun (u : Nat) t => va_P D vwCl (wR cA h u 60 (fun _ => 0)) t.heap ∧ va_D A (wR cA h u 60 (fun _ => 0))) A) ([.ref h, .int (nI 60)] : List Value).toArray s 1 60 A := ⟨_, rfl⟩
  rw [← hQQ]
  have hl := lv_entry ([.ref h, .int (nI 60)]) (n := 2) (Nat.le_of_ble_eq_true rfl)
  rw [lg_entry_eq]
  generalize (lg_sl ([.ref h, .int (nI 60)]) ++ List.replicate (2 - (lg_sl ([.ref h, .int (nI 60)])).length) Slot.unset).toArray = ls at hl ⊢
  have hl : lv_has ls 2 [(0, .ref h), (1, .int (nI 60))] := hl
  have kw0 := hts (.methodLink RX2 1 objectInit) (by decide +kernel)
  have kw1 := hts (.instanceMethod objectInit) (by decide +kernel)
  have kw2 := hts (.code objectInit ⟨#[0xb1]⟩ 1 none) (by decide +kernel)
  have kw3 := hts (.arrayClass .int) (by decide +kernel)
  have kf7 := hts (.fieldLink RX2 7 "LanternWeirs$Row" "cells" "[I") (by decide +kernel)
  have inX2 : ∀ w ∈ u_ws RX2 TX2 1, w ∈ wsX2_init := by decide +kernel
  obtain ⟨H, locs, hP, hS, hgo⟩ : ∃ H locs, va_P D vwCl ([(h, .inr (2, [.null]))] : va_W) H ∧ va_S A s.heap H locs ∧ (H = s.heap ∧ locs = []) := ⟨_, _, hP, hS, rfl, rfl⟩
  obtain ⟨hg1, hg2⟩ := hgo
  have hgoal : W pg lch ev (headSpec wsX2_init ({ frames := 1, cells := 1, slots := 60, locals := 12 })).room s mi ([.ref h, .int (nI 60)] : List Value).toArray below meth cd H locs 0 0 QQ (F0 mi 0 ls []) := by
    refine lv_aload_n hx hb dX2_init_0 rfl (lv_at hl 0 rfl) ?_
    refine W.objInit hx hb hown kw0 kw1 kw2 rfl (by rw [hml]; exact hl.1) rfl dX2_init_1 (Nat.le_of_ble_eq_true rfl) (Nat.le_of_ble_eq_true rfl) ?_
    refine W.eq (g2 := F0 mi 4 ls []) rfl ?_
    refine lv_aload_n hx hb dX2_init_4 rfl (lv_at hl 0 rfl) ?_
    refine lv_iload_n hx hb dX2_init_5 rfl (lv_at hl 1 rfl) ?_
    refine lv_if_le (tgt := 13) hx hb dX2_init_6 (by decide) (fun c6 => ?_) (fun c6 => ?_)
    · skip
      have c6 := (nI_leI (a := 60) (b := 0) (by omega) (by omega)).mp c6
      exfalso; omega
    · skip
      have c6 := (not_congr (nI_leI (a := 60) (b := 0) (by omega) (by omega))).mp c6
      refine lv_iload_n hx hb dX2_init_9 rfl (lv_at hl 1 rfl) ?_
      refine lv_goto (tgt := 14) hx hb dX2_init_10 (by decide) ?_
      refine na_i hx hb kw3 hE hP hD hS hA (N := 60) (Nat.le_of_ble_eq_true rfl) (Nat.le_of_ble_eq_true rfl) (Nat.le_of_ble_eq_true rfl) dX2_init_14 (fun q14 H hP hD hS => ?_)
      refine W.widen (k := 1) (n := 60) (by omega) (by omega) ?_
      have hP : va_P D vwCl ([(h, .inr (2, [.null])), (q14, .inl (cA, 60, .inl (fun _ => 0)))] : va_W) H := hP
      have hD : va_D A ([(h, .inr (2, [.null])), (q14, .inl (cA, 60, .inl (fun _ => 0)))] : va_W) := hD
      refine va_putF (D := D) (ci := 2) (v := .ref q14) (ty := .array .int) (C := RX2) (T := TX2) (N := 1) hx hb hts inX2 tyX2 tyX2_ok nmX2 hown hE.1 hP hD hS 0 rfl rfl 0 (by decide) kf7 (fun _ h9 => h9) rfl hin rfl (by decide +kernel) rfl rfl (Nat.le_of_ble_eq_true rfl) dX2_init_16 (fun H locs hP hD hS => ?_)
      have hP : va_P D vwCl (wR cA h q14 60 (fun _ => 0)) H := hP
      have hD : va_D A (wR cA h q14 60 (fun _ => 0)) := hD
      rw [hQQ]
      exact W.vret hx hb hr (fun t ht hW => ⟨⟨q14, rfl, trivial, ⟨by rw [ht]; exact hP, hD⟩⟩, hS.F ht⟩) hS.2.2 dX2_init_19
  rw [hg1, hg2] at hgoal
  exact hgoal

set_option maxHeartbeats 4000000 in
set_option maxRecDepth 100000 in
/-- Row(180) -/
theorem K_X2_init180 (lch : Launch) (D : va_G) (cA : ClassId) (h : Nat) (sz : Nat)  : Met lch yX2_init wsX2_init ({ frames := 1, cells := 1, slots := 180, locals := 12 }) (Pr D cA [.ref h, .int (nI 180)] sz ([(h, .inr (2, [.null]))] : va_W) X0) (va_Qv (fun (u : Nat) => True) (fun (u : Nat) t => va_P D vwCl (wR cA h u 180 (fun _ => 0)) t.heap ∧ va_D (va_A ([(h, .inr (2, [.null]))] : va_W) sz) (wR cA h u 180 (fun _ => 0))) (va_A ([(h, .inr (2, [.null]))] : va_W) sz)) 1 180 (va_A ([(h, .inr (2, [.null]))] : va_W) sz) := by
  refine Met.ofW (cc := cX2_init) (maxL := 2) (ret := none) (by decide) rfl ?_
  intro pg ev s mi args below meth cd s₁ B hml hv
  obtain ⟨hav, hsz, hP, hE, hD, hXs⟩ := hv
  have hx := B.exec
  have hb := B.bytes
  have hr := B.returns
  have hts := atoms_spec (ws := wsX2_init) B.pre
  have hown : s.vm.findClass RX2 = some mi.cls := findClass_of_methodNamed B.named
  have hlocks := B.notSynchronized
  have hin : meth.name = "<init>" := (name_of_methodNamed B.named B.method).1
  clear B
  subst hav
  subst hsz
  have hD := hD.self (sz := s.heap.size)
  generalize hAe : va_A ([(h, .inr (2, [.null]))] : va_W) s.heap.size = A at hD ⊢
  have hA : ∀ q : Nat, s.heap.size ≤ q → A q := fun q h => by rw [← hAe]; exact Or.inr h
  have hS : va_S A s.heap s.heap [] := va_S.rf
  obtain ⟨QQ, hQQ⟩ : ∃ qq9, qq9 = MQ below (va_Qv (fun (u : Nat) => True) (fun (u : Nat) t => va_P D vwCl (wR cA h u 180 (fun _ => 0)) t.heap ∧ va_D A (wR cA h u 180 (fun _ => 0))) A) ([.ref h, .int (nI 180)] : List Value).toArray s 1 180 A := ⟨_, rfl⟩
  rw [← hQQ]
  have hl := lv_entry ([.ref h, .int (nI 180)]) (n := 2) (Nat.le_of_ble_eq_true rfl)
  rw [lg_entry_eq]
  generalize (lg_sl ([.ref h, .int (nI 180)]) ++ List.replicate (2 - (lg_sl ([.ref h, .int (nI 180)])).length) Slot.unset).toArray = ls at hl ⊢
  have hl : lv_has ls 2 [(0, .ref h), (1, .int (nI 180))] := hl
  have kw0 := hts (.methodLink RX2 1 objectInit) (by decide +kernel)
  have kw1 := hts (.instanceMethod objectInit) (by decide +kernel)
  have kw2 := hts (.code objectInit ⟨#[0xb1]⟩ 1 none) (by decide +kernel)
  have kw3 := hts (.arrayClass .int) (by decide +kernel)
  have kf7 := hts (.fieldLink RX2 7 "LanternWeirs$Row" "cells" "[I") (by decide +kernel)
  have inX2 : ∀ w ∈ u_ws RX2 TX2 1, w ∈ wsX2_init := by decide +kernel
  obtain ⟨H, locs, hP, hS, hgo⟩ : ∃ H locs, va_P D vwCl ([(h, .inr (2, [.null]))] : va_W) H ∧ va_S A s.heap H locs ∧ (H = s.heap ∧ locs = []) := ⟨_, _, hP, hS, rfl, rfl⟩
  obtain ⟨hg1, hg2⟩ := hgo
  have hgoal : W pg lch ev (headSpec wsX2_init ({ frames := 1, cells := 1, slots := 180, locals := 12 })).room s mi ([.ref h, .int (nI 180)] : List Value).toArray below meth cd H locs 0 0 QQ (F0 mi 0 ls []) := by
    refine lv_aload_n hx hb dX2_init_0 rfl (lv_at hl 0 rfl) ?_
    refine W.objInit hx hb hown kw0 kw1 kw2 rfl (by rw [hml]; exact hl.1) rfl dX2_init_1 (Nat.le_of_ble_eq_true rfl) (Nat.le_of_ble_eq_true rfl) ?_
    refine W.eq (g2 := F0 mi 4 ls []) rfl ?_
    refine lv_aload_n hx hb dX2_init_4 rfl (lv_at hl 0 rfl) ?_
    refine lv_iload_n hx hb dX2_init_5 rfl (lv_at hl 1 rfl) ?_
    refine lv_if_le (tgt := 13) hx hb dX2_init_6 (by decide) (fun c6 => ?_) (fun c6 => ?_)
    · skip
      have c6 := (nI_leI (a := 180) (b := 0) (by omega) (by omega)).mp c6
      exfalso; omega
    · skip
      have c6 := (not_congr (nI_leI (a := 180) (b := 0) (by omega) (by omega))).mp c6
      refine lv_iload_n hx hb dX2_init_9 rfl (lv_at hl 1 rfl) ?_
      refine lv_goto (tgt := 14) hx hb dX2_init_10 (by decide) ?_
      refine na_i hx hb kw3 hE hP hD hS hA (N := 180) (Nat.le_of_ble_eq_true rfl) (Nat.le_of_ble_eq_true rfl) (Nat.le_of_ble_eq_true rfl) dX2_init_14 (fun q14 H hP hD hS => ?_)
      refine W.widen (k := 1) (n := 180) (by omega) (by omega) ?_
      have hP : va_P D vwCl ([(h, .inr (2, [.null])), (q14, .inl (cA, 180, .inl (fun _ => 0)))] : va_W) H := hP
      have hD : va_D A ([(h, .inr (2, [.null])), (q14, .inl (cA, 180, .inl (fun _ => 0)))] : va_W) := hD
      refine va_putF (D := D) (ci := 2) (v := .ref q14) (ty := .array .int) (C := RX2) (T := TX2) (N := 1) hx hb hts inX2 tyX2 tyX2_ok nmX2 hown hE.1 hP hD hS 0 rfl rfl 0 (by decide) kf7 (fun _ h9 => h9) rfl hin rfl (by decide +kernel) rfl rfl (Nat.le_of_ble_eq_true rfl) dX2_init_16 (fun H locs hP hD hS => ?_)
      have hP : va_P D vwCl (wR cA h q14 180 (fun _ => 0)) H := hP
      have hD : va_D A (wR cA h q14 180 (fun _ => 0)) := hD
      rw [hQQ]
      exact W.vret hx hb hr (fun t ht hW => ⟨⟨q14, rfl, trivial, ⟨by rw [ht]; exact hP, hD⟩⟩, hS.F ht⟩) hS.2.2 dX2_init_19
  rw [hg1, hg2] at hgoal
  exact hgoal

set_option maxHeartbeats 4000000 in
set_option maxRecDepth 100000 in
/-- Row(41) -/
theorem K_X2_init41 (lch : Launch) (D : va_G) (cA : ClassId) (h : Nat) (sz : Nat)  : Met lch yX2_init wsX2_init ({ frames := 1, cells := 1, slots := 41, locals := 12 }) (Pr D cA [.ref h, .int (nI 41)] sz ([(h, .inr (2, [.null]))] : va_W) X0) (va_Qv (fun (u : Nat) => True) (fun (u : Nat) t => va_P D vwCl (wR cA h u 41 (fun _ => 0)) t.heap ∧ va_D (va_A ([(h, .inr (2, [.null]))] : va_W) sz) (wR cA h u 41 (fun _ => 0))) (va_A ([(h, .inr (2, [.null]))] : va_W) sz)) 1 41 (va_A ([(h, .inr (2, [.null]))] : va_W) sz) := by
  refine Met.ofW (cc := cX2_init) (maxL := 2) (ret := none) (by decide) rfl ?_
  intro pg ev s mi args below meth cd s₁ B hml hv
  obtain ⟨hav, hsz, hP, hE, hD, hXs⟩ := hv
  have hx := B.exec
  have hb := B.bytes
  have hr := B.returns
  have hts := atoms_spec (ws := wsX2_init) B.pre
  have hown : s.vm.findClass RX2 = some mi.cls := findClass_of_methodNamed B.named
  have hlocks := B.notSynchronized
  have hin : meth.name = "<init>" := (name_of_methodNamed B.named B.method).1
  clear B
  subst hav
  subst hsz
  have hD := hD.self (sz := s.heap.size)
  generalize hAe : va_A ([(h, .inr (2, [.null]))] : va_W) s.heap.size = A at hD ⊢
  have hA : ∀ q : Nat, s.heap.size ≤ q → A q := fun q h => by rw [← hAe]; exact Or.inr h
  have hS : va_S A s.heap s.heap [] := va_S.rf
  obtain ⟨QQ, hQQ⟩ : ∃ qq9, qq9 = MQ below (va_Qv (fun (u : Nat) => True) (fun (u : Nat) t => va_P D vwCl (wR cA h u 41 (fun _ => 0)) t.heap ∧ va_D A (wR cA h u 41 (fun _ => 0))) A) ([.ref h, .int (nI 41)] : List Value).toArray s 1 41 A := ⟨_, rfl⟩
  rw [← hQQ]
  have hl := lv_entry ([.ref h, .int (nI 41)]) (n := 2) (Nat.le_of_ble_eq_true rfl)
  rw [lg_entry_eq]
  generalize (lg_sl ([.ref h, .int (nI 41)]) ++ List.replicate (2 - (lg_sl ([.ref h, .int (nI 41)])).length) Slot.unset).toArray = ls at hl ⊢
  have hl : lv_has ls 2 [(0, .ref h), (1, .int (nI 41))] := hl
  have kw0 := hts (.methodLink RX2 1 objectInit) (by decide +kernel)
  have kw1 := hts (.instanceMethod objectInit) (by decide +kernel)
  have kw2 := hts (.code objectInit ⟨#[0xb1]⟩ 1 none) (by decide +kernel)
  have kw3 := hts (.arrayClass .int) (by decide +kernel)
  have kf7 := hts (.fieldLink RX2 7 "LanternWeirs$Row" "cells" "[I") (by decide +kernel)
  have inX2 : ∀ w ∈ u_ws RX2 TX2 1, w ∈ wsX2_init := by decide +kernel
  obtain ⟨H, locs, hP, hS, hgo⟩ : ∃ H locs, va_P D vwCl ([(h, .inr (2, [.null]))] : va_W) H ∧ va_S A s.heap H locs ∧ (H = s.heap ∧ locs = []) := ⟨_, _, hP, hS, rfl, rfl⟩
  obtain ⟨hg1, hg2⟩ := hgo
  have hgoal : W pg lch ev (headSpec wsX2_init ({ frames := 1, cells := 1, slots := 41, locals := 12 })).room s mi ([.ref h, .int (nI 41)] : List Value).toArray below meth cd H locs 0 0 QQ (F0 mi 0 ls []) := by
    refine lv_aload_n hx hb dX2_init_0 rfl (lv_at hl 0 rfl) ?_
    refine W.objInit hx hb hown kw0 kw1 kw2 rfl (by rw [hml]; exact hl.1) rfl dX2_init_1 (Nat.le_of_ble_eq_true rfl) (Nat.le_of_ble_eq_true rfl) ?_
    refine W.eq (g2 := F0 mi 4 ls []) rfl ?_
    refine lv_aload_n hx hb dX2_init_4 rfl (lv_at hl 0 rfl) ?_
    refine lv_iload_n hx hb dX2_init_5 rfl (lv_at hl 1 rfl) ?_
    refine lv_if_le (tgt := 13) hx hb dX2_init_6 (by decide) (fun c6 => ?_) (fun c6 => ?_)
    · skip
      have c6 := (nI_leI (a := 41) (b := 0) (by omega) (by omega)).mp c6
      exfalso; omega
    · skip
      have c6 := (not_congr (nI_leI (a := 41) (b := 0) (by omega) (by omega))).mp c6
      refine lv_iload_n hx hb dX2_init_9 rfl (lv_at hl 1 rfl) ?_
      refine lv_goto (tgt := 14) hx hb dX2_init_10 (by decide) ?_
      refine na_i hx hb kw3 hE hP hD hS hA (N := 41) (Nat.le_of_ble_eq_true rfl) (Nat.le_of_ble_eq_true rfl) (Nat.le_of_ble_eq_true rfl) dX2_init_14 (fun q14 H hP hD hS => ?_)
      refine W.widen (k := 1) (n := 41) (by omega) (by omega) ?_
      have hP : va_P D vwCl ([(h, .inr (2, [.null])), (q14, .inl (cA, 41, .inl (fun _ => 0)))] : va_W) H := hP
      have hD : va_D A ([(h, .inr (2, [.null])), (q14, .inl (cA, 41, .inl (fun _ => 0)))] : va_W) := hD
      refine va_putF (D := D) (ci := 2) (v := .ref q14) (ty := .array .int) (C := RX2) (T := TX2) (N := 1) hx hb hts inX2 tyX2 tyX2_ok nmX2 hown hE.1 hP hD hS 0 rfl rfl 0 (by decide) kf7 (fun _ h9 => h9) rfl hin rfl (by decide +kernel) rfl rfl (Nat.le_of_ble_eq_true rfl) dX2_init_16 (fun H locs hP hD hS => ?_)
      have hP : va_P D vwCl (wR cA h q14 41 (fun _ => 0)) H := hP
      have hD : va_D A (wR cA h q14 41 (fun _ => 0)) := hD
      rw [hQQ]
      exact W.vret hx hb hr (fun t ht hW => ⟨⟨q14, rfl, trivial, ⟨by rw [ht]; exact hP, hD⟩⟩, hS.F ht⟩) hS.2.2 dX2_init_19
  rw [hg1, hg2] at hgoal
  exact hgoal

set_option maxHeartbeats 4000000 in
set_option maxRecDepth 100000 in
/-- Row(540) -/
theorem K_X2_init540 (lch : Launch) (D : va_G) (cA : ClassId) (h : Nat) (sz : Nat)  : Met lch yX2_init wsX2_init ({ frames := 1, cells := 1, slots := 540, locals := 12 }) (Pr D cA [.ref h, .int (nI 540)] sz ([(h, .inr (2, [.null]))] : va_W) X0) (va_Qv (fun (u : Nat) => True) (fun (u : Nat) t => va_P D vwCl (wR cA h u 540 (fun _ => 0)) t.heap ∧ va_D (va_A ([(h, .inr (2, [.null]))] : va_W) sz) (wR cA h u 540 (fun _ => 0))) (va_A ([(h, .inr (2, [.null]))] : va_W) sz)) 1 540 (va_A ([(h, .inr (2, [.null]))] : va_W) sz) := by
  refine Met.ofW (cc := cX2_init) (maxL := 2) (ret := none) (by decide) rfl ?_
  intro pg ev s mi args below meth cd s₁ B hml hv
  obtain ⟨hav, hsz, hP, hE, hD, hXs⟩ := hv
  have hx := B.exec
  have hb := B.bytes
  have hr := B.returns
  have hts := atoms_spec (ws := wsX2_init) B.pre
  have hown : s.vm.findClass RX2 = some mi.cls := findClass_of_methodNamed B.named
  have hlocks := B.notSynchronized
  have hin : meth.name = "<init>" := (name_of_methodNamed B.named B.method).1
  clear B
  subst hav
  subst hsz
  have hD := hD.self (sz := s.heap.size)
  generalize hAe : va_A ([(h, .inr (2, [.null]))] : va_W) s.heap.size = A at hD ⊢
  have hA : ∀ q : Nat, s.heap.size ≤ q → A q := fun q h => by rw [← hAe]; exact Or.inr h
  have hS : va_S A s.heap s.heap [] := va_S.rf
  obtain ⟨QQ, hQQ⟩ : ∃ qq9, qq9 = MQ below (va_Qv (fun (u : Nat) => True) (fun (u : Nat) t => va_P D vwCl (wR cA h u 540 (fun _ => 0)) t.heap ∧ va_D A (wR cA h u 540 (fun _ => 0))) A) ([.ref h, .int (nI 540)] : List Value).toArray s 1 540 A := ⟨_, rfl⟩
  rw [← hQQ]
  have hl := lv_entry ([.ref h, .int (nI 540)]) (n := 2) (Nat.le_of_ble_eq_true rfl)
  rw [lg_entry_eq]
  generalize (lg_sl ([.ref h, .int (nI 540)]) ++ List.replicate (2 - (lg_sl ([.ref h, .int (nI 540)])).length) Slot.unset).toArray = ls at hl ⊢
  have hl : lv_has ls 2 [(0, .ref h), (1, .int (nI 540))] := hl
  have kw0 := hts (.methodLink RX2 1 objectInit) (by decide +kernel)
  have kw1 := hts (.instanceMethod objectInit) (by decide +kernel)
  have kw2 := hts (.code objectInit ⟨#[0xb1]⟩ 1 none) (by decide +kernel)
  have kw3 := hts (.arrayClass .int) (by decide +kernel)
  have kf7 := hts (.fieldLink RX2 7 "LanternWeirs$Row" "cells" "[I") (by decide +kernel)
  have inX2 : ∀ w ∈ u_ws RX2 TX2 1, w ∈ wsX2_init := by decide +kernel
  obtain ⟨H, locs, hP, hS, hgo⟩ : ∃ H locs, va_P D vwCl ([(h, .inr (2, [.null]))] : va_W) H ∧ va_S A s.heap H locs ∧ (H = s.heap ∧ locs = []) := ⟨_, _, hP, hS, rfl, rfl⟩
  obtain ⟨hg1, hg2⟩ := hgo
  have hgoal : W pg lch ev (headSpec wsX2_init ({ frames := 1, cells := 1, slots := 540, locals := 12 })).room s mi ([.ref h, .int (nI 540)] : List Value).toArray below meth cd H locs 0 0 QQ (F0 mi 0 ls []) := by
    refine lv_aload_n hx hb dX2_init_0 rfl (lv_at hl 0 rfl) ?_
    refine W.objInit hx hb hown kw0 kw1 kw2 rfl (by rw [hml]; exact hl.1) rfl dX2_init_1 (Nat.le_of_ble_eq_true rfl) (Nat.le_of_ble_eq_true rfl) ?_
    refine W.eq (g2 := F0 mi 4 ls []) rfl ?_
    refine lv_aload_n hx hb dX2_init_4 rfl (lv_at hl 0 rfl) ?_
    refine lv_iload_n hx hb dX2_init_5 rfl (lv_at hl 1 rfl) ?_
    refine lv_if_le (tgt := 13) hx hb dX2_init_6 (by decide) (fun c6 => ?_) (fun c6 => ?_)
    · skip
      have c6 := (nI_leI (a := 540) (b := 0) (by omega) (by omega)).mp c6
      exfalso; omega
    · skip
      have c6 := (not_congr (nI_leI (a := 540) (b := 0) (by omega) (by omega))).mp c6
      refine lv_iload_n hx hb dX2_init_9 rfl (lv_at hl 1 rfl) ?_
      refine lv_goto (tgt := 14) hx hb dX2_init_10 (by decide) ?_
      refine na_i hx hb kw3 hE hP hD hS hA (N := 540) (Nat.le_of_ble_eq_true rfl) (Nat.le_of_ble_eq_true rfl) (Nat.le_of_ble_eq_true rfl) dX2_init_14 (fun q14 H hP hD hS => ?_)
      refine W.widen (k := 1) (n := 540) (by omega) (by omega) ?_
      have hP : va_P D vwCl ([(h, .inr (2, [.null])), (q14, .inl (cA, 540, .inl (fun _ => 0)))] : va_W) H := hP
      have hD : va_D A ([(h, .inr (2, [.null])), (q14, .inl (cA, 540, .inl (fun _ => 0)))] : va_W) := hD
      refine va_putF (D := D) (ci := 2) (v := .ref q14) (ty := .array .int) (C := RX2) (T := TX2) (N := 1) hx hb hts inX2 tyX2 tyX2_ok nmX2 hown hE.1 hP hD hS 0 rfl rfl 0 (by decide) kf7 (fun _ h9 => h9) rfl hin rfl (by decide +kernel) rfl rfl (Nat.le_of_ble_eq_true rfl) dX2_init_16 (fun H locs hP hD hS => ?_)
      have hP : va_P D vwCl (wR cA h q14 540 (fun _ => 0)) H := hP
      have hD : va_D A (wR cA h q14 540 (fun _ => 0)) := hD
      rw [hQQ]
      exact W.vret hx hb hr (fun t ht hW => ⟨⟨q14, rfl, trivial, ⟨by rw [ht]; exact hP, hD⟩⟩, hS.F ht⟩) hS.2.2 dX2_init_19
  rw [hg1, hg2] at hgoal
  exact hgoal

set_option maxHeartbeats 4000000 in
set_option maxRecDepth 100000 in
/-- Fleet() -/
theorem K_X1_init (lch : Launch) (D : va_G) (cA : ClassId) (h : Nat) (sz : Nat)  : Met lch yX1_init wsX1_init ({ frames := 2, cells := 22, slots := 961, locals := 33 }) (Pr D cA [.ref h] sz ([(h, .inr (1, [.null, .null, .null, .null, .null, .null, .null, .null, .null, .null, .null, .int 0, .int 0]))] : va_W) X0) (va_Qv (fun (u : Nat → Nat) => u 0 = h) (fun (u : Nat → Nat) t => va_P D vwCl (wF cA u zF (fun _ => 0) (fun _ => 0)) t.heap ∧ va_D (va_A ([(h, .inr (1, [.null, .null, .null, .null, .null, .null, .null, .null, .null, .null, .null, .int 0, .int 0]))] : va_W) sz) (wF cA u zF (fun _ => 0) (fun _ => 0))) (va_A ([(h, .inr (1, [.null, .null, .null, .null, .null, .null, .null, .null, .null, .null, .null, .int 0, .int 0]))] : va_W) sz)) 22 961 (va_A ([(h, .inr (1, [.null, .null, .null, .null, .null, .null, .null, .null, .null, .null, .null, .int 0, .int 0]))] : va_W) sz) := by
  refine Met.ofW (cc := cX1_init) (maxL := 1) (ret := none) (by decide) rfl ?_
  intro pg ev s mi args below meth cd s₁ B hml hv
  obtain ⟨hav, hsz, hP, hE, hD, hXs⟩ := hv
  have hx := B.exec
  have hb := B.bytes
  have hr := B.returns
  have hts := atoms_spec (ws := wsX1_init) B.pre
  have hown : s.vm.findClass RX1 = some mi.cls := findClass_of_methodNamed B.named
  have hlocks := B.notSynchronized
  have hin : meth.name = "<init>" := (name_of_methodNamed B.named B.method).1
  clear B
  subst hav
  subst hsz
  have hD := hD.self (sz := s.heap.size)
  generalize hAe : va_A ([(h, .inr (1, [.null, .null, .null, .null, .null, .null, .null, .null, .null, .null, .null, .int 0, .int 0]))] : va_W) s.heap.size = A at hD ⊢
  have hA : ∀ q : Nat, s.heap.size ≤ q → A q := fun q h => by rw [← hAe]; exact Or.inr h
  have hS : va_S A s.heap s.heap [] := va_S.rf
  obtain ⟨QQ, hQQ⟩ : ∃ qq9, qq9 = MQ below (va_Qv (fun (u : Nat → Nat) => u 0 = h) (fun (u : Nat → Nat) t => va_P D vwCl (wF cA u zF (fun _ => 0) (fun _ => 0)) t.heap ∧ va_D A (wF cA u zF (fun _ => 0) (fun _ => 0))) A) ([.ref h] : List Value).toArray s 22 961 A := ⟨_, rfl⟩
  rw [← hQQ]
  have hl := lv_entry ([.ref h]) (n := 1) (Nat.le_of_ble_eq_true rfl)
  rw [lg_entry_eq]
  generalize (lg_sl ([.ref h]) ++ List.replicate (1 - (lg_sl ([.ref h])).length) Slot.unset).toArray = ls at hl ⊢
  have hl : lv_has ls 1 [(0, .ref h)] := hl
  have kw0 := hts (.methodLink RX1 3 objectInit) (by decide +kernel)
  have kw1 := hts (.instanceMethod objectInit) (by decide +kernel)
  have kw2 := hts (.code objectInit ⟨#[0xb1]⟩ 1 none) (by decide +kernel)
  have kw3 := hts (.classLink RX1 9 RX2) (by decide +kernel)
  have kw4 := hts (.instantiable RX2 1) (by decide +kernel)
  have kw5 := hts (.initialized RX2) (by decide +kernel)
  have inX2 : ∀ w ∈ u_ws RX2 TX2 1, w ∈ wsX1_init := by decide +kernel
  have kw7 := hts (.instanceMethod yX2_init) (by decide +kernel)
  have kw8 := hts (.methodLink RX1 13 yX2_init) (by decide +kernel)
  have kf16 := hts (.fieldLink RX1 16 "LanternWeirs$Fleet" "frames" "LLanternWeirs$Row;") (by decide +kernel)
  have inX1 : ∀ w ∈ u_ws RX1 TX1 13, w ∈ wsX1_init := by decide +kernel
  have kf20 := hts (.fieldLink RX1 20 "LanternWeirs$Fleet" "wishes" "LLanternWeirs$Row;") (by decide +kernel)
  have kf23 := hts (.fieldLink RX1 23 "LanternWeirs$Fleet" "lanes" "LLanternWeirs$Row;") (by decide +kernel)
  have kf26 := hts (.fieldLink RX1 26 "LanternWeirs$Fleet" "places" "LLanternWeirs$Row;") (by decide +kernel)
  have kf29 := hts (.fieldLink RX1 29 "LanternWeirs$Fleet" "waxes" "LLanternWeirs$Row;") (by decide +kernel)
  have kf32 := hts (.fieldLink RX1 32 "LanternWeirs$Fleet" "wets" "LLanternWeirs$Row;") (by decide +kernel)
  have kf35 := hts (.fieldLink RX1 35 "LanternWeirs$Fleet" "burning" "LLanternWeirs$Row;") (by decide +kernel)
  have kf38 := hts (.fieldLink RX1 38 "LanternWeirs$Fleet" "states" "LLanternWeirs$Row;") (by decide +kernel)
  have kf41 := hts (.fieldLink RX1 41 "LanternWeirs$Fleet" "ends" "LLanternWeirs$Row;") (by decide +kernel)
  have kf44 := hts (.fieldLink RX1 44 "LanternWeirs$Fleet" "crowd" "LLanternWeirs$Row;") (by decide +kernel)
  have kf47 := hts (.fieldLink RX1 47 "LanternWeirs$Fleet" "queue" "LLanternWeirs$Row;") (by decide +kernel)
  obtain ⟨H, locs, hP, hS, hgo⟩ : ∃ H locs, va_P D vwCl ([(h, .inr (1, [.null, .null, .null, .null, .null, .null, .null, .null, .null, .null, .null, .int 0, .int 0]))] : va_W) H ∧ va_S A s.heap H locs ∧ (H = s.heap ∧ locs = []) := ⟨_, _, hP, hS, rfl, rfl⟩
  obtain ⟨hg1, hg2⟩ := hgo
  have hgoal : W pg lch ev (headSpec wsX1_init ({ frames := 2, cells := 22, slots := 961, locals := 33 })).room s mi ([.ref h] : List Value).toArray below meth cd H locs 0 0 QQ (F0 mi 0 ls []) := by
    refine lv_aload_n hx hb dX1_init_0 rfl (lv_at hl 0 rfl) ?_
    refine W.objInit hx hb hown kw0 kw1 kw2 rfl (by rw [hml]; exact hl.1) rfl dX1_init_1 (Nat.le_of_ble_eq_true rfl) (Nat.le_of_ble_eq_true rfl) ?_
    refine W.eq (g2 := F0 mi 4 ls []) rfl ?_
    refine lv_aload_n hx hb dX1_init_4 rfl (lv_at hl 0 rfl) ?_
    refine va_new (ci := 2) (fs := [.null]) (C := RX2) (T := TX2) (N := 1) hx hb hts inX2 tyX2 tyX2_ok hown kw3 kw4 kw5 hE.1 hP hD hS hA rfl (fun j hj => by rcases (show j = 0 by omega) with rfl <;> rfl) (Nat.le_of_ble_eq_true rfl) (Nat.le_of_ble_eq_true rfl) dX1_init_5 (fun q5 H hP hD hS => ?_)
    refine W.widen (k := 1) (n := 1) (by omega) (by omega) ?_
    have hP : va_P D vwCl ([(h, .inr (1, [.null, .null, .null, .null, .null, .null, .null, .null, .null, .null, .null, .int 0, .int 0])), (q5, .inr (2, [.null]))] : va_W) H := hP
    have hD : va_D A ([(h, .inr (1, [.null, .null, .null, .null, .null, .null, .null, .null, .null, .null, .null, .int 0, .int 0])), (q5, .inr (2, [.null]))] : va_W) := hD
    refine lv_dup hx hb dX1_init_8 rfl ?_
    refine lv_bipush (v := 41) hx hb dX1_init_9 (by decide) ?_
    refine cI (wr := ([(h, .inr (1, [.null, .null, .null, .null, .null, .null, .null, .null, .null, .null, .null, .int 0, .int 0]))] : va_W)) (wB := fun (b5 : Nat) => (wR cA q5 b5 41 (fun _ => 0))) (As := [.int 41]) (rest := [.ref q5, .ref h]) (wc := ([(q5, .inr (2, [.null]))] : va_W)) ⟨hx, hb, hml, hown, hts⟩ (K_X2_init41 lch D cA q5 H.size ) (cwI 1 hts gX1_init_X2_init rfl rfl rfl kw5 kw8 kw7 rfl (by decide +kernel) ⟨Nat.le_of_ble_eq_true rfl, Nat.le_of_ble_eq_true rfl⟩) hE hP hD hS hA [1] [0] rfl rfl rfl rfl (by decide) X0.blind (fun _ _ _ => trivial) hl.1 rfl rfl (Nat.le_of_ble_eq_true rfl) dX1_init_11 ⟨Nat.le_of_ble_eq_true rfl, Nat.le_of_ble_eq_true rfl⟩ (fun b5 H locs h_1 hP hD hS => ?_)
    refine W.widen (k := 2) (n := 42) (by omega) (by omega) ?_
    have hP : va_P D vwCl ([(h, .inr (1, [.null, .null, .null, .null, .null, .null, .null, .null, .null, .null, .null, .int 0, .int 0])), (q5, .inr (2, [.ref b5])), (b5, .inl (cA, 41, .inl (fun _ => 0)))] : va_W) H := hP
    have hD : va_D A ([(h, .inr (1, [.null, .null, .null, .null, .null, .null, .null, .null, .null, .null, .null, .int 0, .int 0])), (q5, .inr (2, [.ref b5])), (b5, .inl (cA, 41, .inl (fun _ => 0)))] : va_W) := hD
    refine va_putF (D := D) (ci := 1) (v := .ref q5) (ty := .object "LanternWeirs$Row") (C := RX1) (T := TX1) (N := 13) hx hb hts inX1 tyX1 tyX1_ok nmX1 hown hE.1 hP hD hS 0 rfl rfl 0 (by decide) kf16 (fun _ h9 => h9) rfl hin rfl (by decide +kernel) rfl rfl (Nat.le_of_ble_eq_true rfl) dX1_init_14 (fun H locs hP hD hS => ?_)
    have hP : va_P D vwCl ([(h, .inr (1, [.ref q5, .null, .null, .null, .null, .null, .null, .null, .null, .null, .null, .int 0, .int 0])), (q5, .inr (2, [.ref b5])), (b5, .inl (cA, 41, .inl (fun _ => 0)))] : va_W) H := hP
    have hD : va_D A ([(h, .inr (1, [.ref q5, .null, .null, .null, .null, .null, .null, .null, .null, .null, .null, .int 0, .int 0])), (q5, .inr (2, [.ref b5])), (b5, .inl (cA, 41, .inl (fun _ => 0)))] : va_W) := hD
    refine lv_aload_n hx hb dX1_init_17 rfl (lv_at hl 0 rfl) ?_
    refine va_new (ci := 2) (fs := [.null]) (C := RX2) (T := TX2) (N := 1) hx hb hts inX2 tyX2 tyX2_ok hown kw3 kw4 kw5 hE.1 hP hD hS hA rfl (fun j hj => by rcases (show j = 0 by omega) with rfl <;> rfl) (Nat.le_of_ble_eq_true rfl) (Nat.le_of_ble_eq_true rfl) dX1_init_18 (fun q18 H hP hD hS => ?_)
    refine W.widen (k := 3) (n := 43) (by omega) (by omega) ?_
    have hP : va_P D vwCl ([(h, .inr (1, [.ref q5, .null, .null, .null, .null, .null, .null, .null, .null, .null, .null, .int 0, .int 0])), (q5, .inr (2, [.ref b5])), (b5, .inl (cA, 41, .inl (fun _ => 0))), (q18, .inr (2, [.null]))] : va_W) H := hP
    have hD : va_D A ([(h, .inr (1, [.ref q5, .null, .null, .null, .null, .null, .null, .null, .null, .null, .null, .int 0, .int 0])), (q5, .inr (2, [.ref b5])), (b5, .inl (cA, 41, .inl (fun _ => 0))), (q18, .inr (2, [.null]))] : va_W) := hD
    refine lv_dup hx hb dX1_init_21 rfl ?_
    refine lv_bipush (v := 41) hx hb dX1_init_22 (by decide) ?_
    refine cI (wr := ([(h, .inr (1, [.ref q5, .null, .null, .null, .null, .null, .null, .null, .null, .null, .null, .int 0, .int 0])), (q5, .inr (2, [.ref b5])), (b5, .inl (cA, 41, .inl (fun _ => 0)))] : va_W)) (wB := fun (b18 : Nat) => (wR cA q18 b18 41 (fun _ => 0))) (As := [.int 41]) (rest := [.ref q18, .ref h]) (wc := ([(q18, .inr (2, [.null]))] : va_W)) ⟨hx, hb, hml, hown, hts⟩ (K_X2_init41 lch D cA q18 H.size ) (cwI 1 hts gX1_init_X2_init rfl rfl rfl kw5 kw8 kw7 rfl (by decide +kernel) ⟨Nat.le_of_ble_eq_true rfl, Nat.le_of_ble_eq_true rfl⟩) hE hP hD hS hA [3] [0, 1, 2] rfl rfl rfl rfl (by decide) X0.blind (fun _ _ _ => trivial) hl.1 rfl rfl (Nat.le_of_ble_eq_true rfl) dX1_init_24 ⟨Nat.le_of_ble_eq_true rfl, Nat.le_of_ble_eq_true rfl⟩ (fun b18 H locs h_2 hP hD hS => ?_)
    refine W.widen (k := 4) (n := 84) (by omega) (by omega) ?_
    have hP : va_P D vwCl ([(h, .inr (1, [.ref q5, .null, .null, .null, .null, .null, .null, .null, .null, .null, .null, .int 0, .int 0])), (q5, .inr (2, [.ref b5])), (b5, .inl (cA, 41, .inl (fun _ => 0))), (q18, .inr (2, [.ref b18])), (b18, .inl (cA, 41, .inl (fun _ => 0)))] : va_W) H := hP
    have hD : va_D A ([(h, .inr (1, [.ref q5, .null, .null, .null, .null, .null, .null, .null, .null, .null, .null, .int 0, .int 0])), (q5, .inr (2, [.ref b5])), (b5, .inl (cA, 41, .inl (fun _ => 0))), (q18, .inr (2, [.ref b18])), (b18, .inl (cA, 41, .inl (fun _ => 0)))] : va_W) := hD
    refine va_putF (D := D) (ci := 1) (v := .ref q18) (ty := .object "LanternWeirs$Row") (C := RX1) (T := TX1) (N := 13) hx hb hts inX1 tyX1 tyX1_ok nmX1 hown hE.1 hP hD hS 0 rfl rfl 1 (by decide) kf20 (fun _ h9 => h9) rfl hin rfl (by decide +kernel) rfl rfl (Nat.le_of_ble_eq_true rfl) dX1_init_27 (fun H locs hP hD hS => ?_)
    have hP : va_P D vwCl ([(h, .inr (1, [.ref q5, .ref q18, .null, .null, .null, .null, .null, .null, .null, .null, .null, .int 0, .int 0])), (q5, .inr (2, [.ref b5])), (b5, .inl (cA, 41, .inl (fun _ => 0))), (q18, .inr (2, [.ref b18])), (b18, .inl (cA, 41, .inl (fun _ => 0)))] : va_W) H := hP
    have hD : va_D A ([(h, .inr (1, [.ref q5, .ref q18, .null, .null, .null, .null, .null, .null, .null, .null, .null, .int 0, .int 0])), (q5, .inr (2, [.ref b5])), (b5, .inl (cA, 41, .inl (fun _ => 0))), (q18, .inr (2, [.ref b18])), (b18, .inl (cA, 41, .inl (fun _ => 0)))] : va_W) := hD
    refine lv_aload_n hx hb dX1_init_30 rfl (lv_at hl 0 rfl) ?_
    refine va_new (ci := 2) (fs := [.null]) (C := RX2) (T := TX2) (N := 1) hx hb hts inX2 tyX2 tyX2_ok hown kw3 kw4 kw5 hE.1 hP hD hS hA rfl (fun j hj => by rcases (show j = 0 by omega) with rfl <;> rfl) (Nat.le_of_ble_eq_true rfl) (Nat.le_of_ble_eq_true rfl) dX1_init_31 (fun q31 H hP hD hS => ?_)
    refine W.widen (k := 5) (n := 85) (by omega) (by omega) ?_
    have hP : va_P D vwCl ([(h, .inr (1, [.ref q5, .ref q18, .null, .null, .null, .null, .null, .null, .null, .null, .null, .int 0, .int 0])), (q5, .inr (2, [.ref b5])), (b5, .inl (cA, 41, .inl (fun _ => 0))), (q18, .inr (2, [.ref b18])), (b18, .inl (cA, 41, .inl (fun _ => 0))), (q31, .inr (2, [.null]))] : va_W) H := hP
    have hD : va_D A ([(h, .inr (1, [.ref q5, .ref q18, .null, .null, .null, .null, .null, .null, .null, .null, .null, .int 0, .int 0])), (q5, .inr (2, [.ref b5])), (b5, .inl (cA, 41, .inl (fun _ => 0))), (q18, .inr (2, [.ref b18])), (b18, .inl (cA, 41, .inl (fun _ => 0))), (q31, .inr (2, [.null]))] : va_W) := hD
    refine lv_dup hx hb dX1_init_34 rfl ?_
    refine lv_bipush (v := 41) hx hb dX1_init_35 (by decide) ?_
    refine cI (wr := ([(h, .inr (1, [.ref q5, .ref q18, .null, .null, .null, .null, .null, .null, .null, .null, .null, .int 0, .int 0])), (q5, .inr (2, [.ref b5])), (b5, .inl (cA, 41, .inl (fun _ => 0))), (q18, .inr (2, [.ref b18])), (b18, .inl (cA, 41, .inl (fun _ => 0)))] : va_W)) (wB := fun (b31 : Nat) => (wR cA q31 b31 41 (fun _ => 0))) (As := [.int 41]) (rest := [.ref q31, .ref h]) (wc := ([(q31, .inr (2, [.null]))] : va_W)) ⟨hx, hb, hml, hown, hts⟩ (K_X2_init41 lch D cA q31 H.size ) (cwI 1 hts gX1_init_X2_init rfl rfl rfl kw5 kw8 kw7 rfl (by decide +kernel) ⟨Nat.le_of_ble_eq_true rfl, Nat.le_of_ble_eq_true rfl⟩) hE hP hD hS hA [5] [0, 1, 2, 3, 4] rfl rfl rfl rfl (by decide) X0.blind (fun _ _ _ => trivial) hl.1 rfl rfl (Nat.le_of_ble_eq_true rfl) dX1_init_37 ⟨Nat.le_of_ble_eq_true rfl, Nat.le_of_ble_eq_true rfl⟩ (fun b31 H locs h_3 hP hD hS => ?_)
    refine W.widen (k := 6) (n := 126) (by omega) (by omega) ?_
    have hP : va_P D vwCl ([(h, .inr (1, [.ref q5, .ref q18, .null, .null, .null, .null, .null, .null, .null, .null, .null, .int 0, .int 0])), (q5, .inr (2, [.ref b5])), (b5, .inl (cA, 41, .inl (fun _ => 0))), (q18, .inr (2, [.ref b18])), (b18, .inl (cA, 41, .inl (fun _ => 0))), (q31, .inr (2, [.ref b31])), (b31, .inl (cA, 41, .inl (fun _ => 0)))] : va_W) H := hP
    have hD : va_D A ([(h, .inr (1, [.ref q5, .ref q18, .null, .null, .null, .null, .null, .null, .null, .null, .null, .int 0, .int 0])), (q5, .inr (2, [.ref b5])), (b5, .inl (cA, 41, .inl (fun _ => 0))), (q18, .inr (2, [.ref b18])), (b18, .inl (cA, 41, .inl (fun _ => 0))), (q31, .inr (2, [.ref b31])), (b31, .inl (cA, 41, .inl (fun _ => 0)))] : va_W) := hD
    refine va_putF (D := D) (ci := 1) (v := .ref q31) (ty := .object "LanternWeirs$Row") (C := RX1) (T := TX1) (N := 13) hx hb hts inX1 tyX1 tyX1_ok nmX1 hown hE.1 hP hD hS 0 rfl rfl 2 (by decide) kf23 (fun _ h9 => h9) rfl hin rfl (by decide +kernel) rfl rfl (Nat.le_of_ble_eq_true rfl) dX1_init_40 (fun H locs hP hD hS => ?_)
    have hP : va_P D vwCl ([(h, .inr (1, [.ref q5, .ref q18, .ref q31, .null, .null, .null, .null, .null, .null, .null, .null, .int 0, .int 0])), (q5, .inr (2, [.ref b5])), (b5, .inl (cA, 41, .inl (fun _ => 0))), (q18, .inr (2, [.ref b18])), (b18, .inl (cA, 41, .inl (fun _ => 0))), (q31, .inr (2, [.ref b31])), (b31, .inl (cA, 41, .inl (fun _ => 0)))] : va_W) H := hP
    have hD : va_D A ([(h, .inr (1, [.ref q5, .ref q18, .ref q31, .null, .null, .null, .null, .null, .null, .null, .null, .int 0, .int 0])), (q5, .inr (2, [.ref b5])), (b5, .inl (cA, 41, .inl (fun _ => 0))), (q18, .inr (2, [.ref b18])), (b18, .inl (cA, 41, .inl (fun _ => 0))), (q31, .inr (2, [.ref b31])), (b31, .inl (cA, 41, .inl (fun _ => 0)))] : va_W) := hD
    refine lv_aload_n hx hb dX1_init_43 rfl (lv_at hl 0 rfl) ?_
    refine va_new (ci := 2) (fs := [.null]) (C := RX2) (T := TX2) (N := 1) hx hb hts inX2 tyX2 tyX2_ok hown kw3 kw4 kw5 hE.1 hP hD hS hA rfl (fun j hj => by rcases (show j = 0 by omega) with rfl <;> rfl) (Nat.le_of_ble_eq_true rfl) (Nat.le_of_ble_eq_true rfl) dX1_init_44 (fun q44 H hP hD hS => ?_)
    refine W.widen (k := 7) (n := 127) (by omega) (by omega) ?_
    have hP : va_P D vwCl ([(h, .inr (1, [.ref q5, .ref q18, .ref q31, .null, .null, .null, .null, .null, .null, .null, .null, .int 0, .int 0])), (q5, .inr (2, [.ref b5])), (b5, .inl (cA, 41, .inl (fun _ => 0))), (q18, .inr (2, [.ref b18])), (b18, .inl (cA, 41, .inl (fun _ => 0))), (q31, .inr (2, [.ref b31])), (b31, .inl (cA, 41, .inl (fun _ => 0))), (q44, .inr (2, [.null]))] : va_W) H := hP
    have hD : va_D A ([(h, .inr (1, [.ref q5, .ref q18, .ref q31, .null, .null, .null, .null, .null, .null, .null, .null, .int 0, .int 0])), (q5, .inr (2, [.ref b5])), (b5, .inl (cA, 41, .inl (fun _ => 0))), (q18, .inr (2, [.ref b18])), (b18, .inl (cA, 41, .inl (fun _ => 0))), (q31, .inr (2, [.ref b31])), (b31, .inl (cA, 41, .inl (fun _ => 0))), (q44, .inr (2, [.null]))] : va_W) := hD
    refine lv_dup hx hb dX1_init_47 rfl ?_
    refine lv_bipush (v := 41) hx hb dX1_init_48 (by decide) ?_
    refine cI (wr := ([(h, .inr (1, [.ref q5, .ref q18, .ref q31, .null, .null, .null, .null, .null, .null, .null, .null, .int 0, .int 0])), (q5, .inr (2, [.ref b5])), (b5, .inl (cA, 41, .inl (fun _ => 0))), (q18, .inr (2, [.ref b18])), (b18, .inl (cA, 41, .inl (fun _ => 0))), (q31, .inr (2, [.ref b31])), (b31, .inl (cA, 41, .inl (fun _ => 0)))] : va_W)) (wB := fun (b44 : Nat) => (wR cA q44 b44 41 (fun _ => 0))) (As := [.int 41]) (rest := [.ref q44, .ref h]) (wc := ([(q44, .inr (2, [.null]))] : va_W)) ⟨hx, hb, hml, hown, hts⟩ (K_X2_init41 lch D cA q44 H.size ) (cwI 1 hts gX1_init_X2_init rfl rfl rfl kw5 kw8 kw7 rfl (by decide +kernel) ⟨Nat.le_of_ble_eq_true rfl, Nat.le_of_ble_eq_true rfl⟩) hE hP hD hS hA [7] [0, 1, 2, 3, 4, 5, 6] rfl rfl rfl rfl (by decide) X0.blind (fun _ _ _ => trivial) hl.1 rfl rfl (Nat.le_of_ble_eq_true rfl) dX1_init_50 ⟨Nat.le_of_ble_eq_true rfl, Nat.le_of_ble_eq_true rfl⟩ (fun b44 H locs h_4 hP hD hS => ?_)
    refine W.widen (k := 8) (n := 168) (by omega) (by omega) ?_
    have hP : va_P D vwCl ([(h, .inr (1, [.ref q5, .ref q18, .ref q31, .null, .null, .null, .null, .null, .null, .null, .null, .int 0, .int 0])), (q5, .inr (2, [.ref b5])), (b5, .inl (cA, 41, .inl (fun _ => 0))), (q18, .inr (2, [.ref b18])), (b18, .inl (cA, 41, .inl (fun _ => 0))), (q31, .inr (2, [.ref b31])), (b31, .inl (cA, 41, .inl (fun _ => 0))), (q44, .inr (2, [.ref b44])), (b44, .inl (cA, 41, .inl (fun _ => 0)))] : va_W) H := hP
    have hD : va_D A ([(h, .inr (1, [.ref q5, .ref q18, .ref q31, .null, .null, .null, .null, .null, .null, .null, .null, .int 0, .int 0])), (q5, .inr (2, [.ref b5])), (b5, .inl (cA, 41, .inl (fun _ => 0))), (q18, .inr (2, [.ref b18])), (b18, .inl (cA, 41, .inl (fun _ => 0))), (q31, .inr (2, [.ref b31])), (b31, .inl (cA, 41, .inl (fun _ => 0))), (q44, .inr (2, [.ref b44])), (b44, .inl (cA, 41, .inl (fun _ => 0)))] : va_W) := hD
    refine va_putF (D := D) (ci := 1) (v := .ref q44) (ty := .object "LanternWeirs$Row") (C := RX1) (T := TX1) (N := 13) hx hb hts inX1 tyX1 tyX1_ok nmX1 hown hE.1 hP hD hS 0 rfl rfl 3 (by decide) kf26 (fun _ h9 => h9) rfl hin rfl (by decide +kernel) rfl rfl (Nat.le_of_ble_eq_true rfl) dX1_init_53 (fun H locs hP hD hS => ?_)
    have hP : va_P D vwCl ([(h, .inr (1, [.ref q5, .ref q18, .ref q31, .ref q44, .null, .null, .null, .null, .null, .null, .null, .int 0, .int 0])), (q5, .inr (2, [.ref b5])), (b5, .inl (cA, 41, .inl (fun _ => 0))), (q18, .inr (2, [.ref b18])), (b18, .inl (cA, 41, .inl (fun _ => 0))), (q31, .inr (2, [.ref b31])), (b31, .inl (cA, 41, .inl (fun _ => 0))), (q44, .inr (2, [.ref b44])), (b44, .inl (cA, 41, .inl (fun _ => 0)))] : va_W) H := hP
    have hD : va_D A ([(h, .inr (1, [.ref q5, .ref q18, .ref q31, .ref q44, .null, .null, .null, .null, .null, .null, .null, .int 0, .int 0])), (q5, .inr (2, [.ref b5])), (b5, .inl (cA, 41, .inl (fun _ => 0))), (q18, .inr (2, [.ref b18])), (b18, .inl (cA, 41, .inl (fun _ => 0))), (q31, .inr (2, [.ref b31])), (b31, .inl (cA, 41, .inl (fun _ => 0))), (q44, .inr (2, [.ref b44])), (b44, .inl (cA, 41, .inl (fun _ => 0)))] : va_W) := hD
    refine lv_aload_n hx hb dX1_init_56 rfl (lv_at hl 0 rfl) ?_
    refine va_new (ci := 2) (fs := [.null]) (C := RX2) (T := TX2) (N := 1) hx hb hts inX2 tyX2 tyX2_ok hown kw3 kw4 kw5 hE.1 hP hD hS hA rfl (fun j hj => by rcases (show j = 0 by omega) with rfl <;> rfl) (Nat.le_of_ble_eq_true rfl) (Nat.le_of_ble_eq_true rfl) dX1_init_57 (fun q57 H hP hD hS => ?_)
    refine W.widen (k := 9) (n := 169) (by omega) (by omega) ?_
    have hP : va_P D vwCl ([(h, .inr (1, [.ref q5, .ref q18, .ref q31, .ref q44, .null, .null, .null, .null, .null, .null, .null, .int 0, .int 0])), (q5, .inr (2, [.ref b5])), (b5, .inl (cA, 41, .inl (fun _ => 0))), (q18, .inr (2, [.ref b18])), (b18, .inl (cA, 41, .inl (fun _ => 0))), (q31, .inr (2, [.ref b31])), (b31, .inl (cA, 41, .inl (fun _ => 0))), (q44, .inr (2, [.ref b44])), (b44, .inl (cA, 41, .inl (fun _ => 0))), (q57, .inr (2, [.null]))] : va_W) H := hP
    have hD : va_D A ([(h, .inr (1, [.ref q5, .ref q18, .ref q31, .ref q44, .null, .null, .null, .null, .null, .null, .null, .int 0, .int 0])), (q5, .inr (2, [.ref b5])), (b5, .inl (cA, 41, .inl (fun _ => 0))), (q18, .inr (2, [.ref b18])), (b18, .inl (cA, 41, .inl (fun _ => 0))), (q31, .inr (2, [.ref b31])), (b31, .inl (cA, 41, .inl (fun _ => 0))), (q44, .inr (2, [.ref b44])), (b44, .inl (cA, 41, .inl (fun _ => 0))), (q57, .inr (2, [.null]))] : va_W) := hD
    refine lv_dup hx hb dX1_init_60 rfl ?_
    refine lv_bipush (v := 41) hx hb dX1_init_61 (by decide) ?_
    refine cI (wr := ([(h, .inr (1, [.ref q5, .ref q18, .ref q31, .ref q44, .null, .null, .null, .null, .null, .null, .null, .int 0, .int 0])), (q5, .inr (2, [.ref b5])), (b5, .inl (cA, 41, .inl (fun _ => 0))), (q18, .inr (2, [.ref b18])), (b18, .inl (cA, 41, .inl (fun _ => 0))), (q31, .inr (2, [.ref b31])), (b31, .inl (cA, 41, .inl (fun _ => 0))), (q44, .inr (2, [.ref b44])), (b44, .inl (cA, 41, .inl (fun _ => 0)))] : va_W)) (wB := fun (b57 : Nat) => (wR cA q57 b57 41 (fun _ => 0))) (As := [.int 41]) (rest := [.ref q57, .ref h]) (wc := ([(q57, .inr (2, [.null]))] : va_W)) ⟨hx, hb, hml, hown, hts⟩ (K_X2_init41 lch D cA q57 H.size ) (cwI 1 hts gX1_init_X2_init rfl rfl rfl kw5 kw8 kw7 rfl (by decide +kernel) ⟨Nat.le_of_ble_eq_true rfl, Nat.le_of_ble_eq_true rfl⟩) hE hP hD hS hA [9] [0, 1, 2, 3, 4, 5, 6, 7, 8] rfl rfl rfl rfl (by decide) X0.blind (fun _ _ _ => trivial) hl.1 rfl rfl (Nat.le_of_ble_eq_true rfl) dX1_init_63 ⟨Nat.le_of_ble_eq_true rfl, Nat.le_of_ble_eq_true rfl⟩ (fun b57 H locs h_5 hP hD hS => ?_)
    refine W.widen (k := 10) (n := 210) (by omega) (by omega) ?_
    have hP : va_P D vwCl ([(h, .inr (1, [.ref q5, .ref q18, .ref q31, .ref q44, .null, .null, .null, .null, .null, .null, .null, .int 0, .int 0])), (q5, .inr (2, [.ref b5])), (b5, .inl (cA, 41, .inl (fun _ => 0))), (q18, .inr (2, [.ref b18])), (b18, .inl (cA, 41, .inl (fun _ => 0))), (q31, .inr (2, [.ref b31])), (b31, .inl (cA, 41, .inl (fun _ => 0))), (q44, .inr (2, [.ref b44])), (b44, .inl (cA, 41, .inl (fun _ => 0))), (q57, .inr (2, [.ref b57])), (b57, .inl (cA, 41, .inl (fun _ => 0)))] : va_W) H := hP
    have hD : va_D A ([(h, .inr (1, [.ref q5, .ref q18, .ref q31, .ref q44, .null, .null, .null, .null, .null, .null, .null, .int 0, .int 0])), (q5, .inr (2, [.ref b5])), (b5, .inl (cA, 41, .inl (fun _ => 0))), (q18, .inr (2, [.ref b18])), (b18, .inl (cA, 41, .inl (fun _ => 0))), (q31, .inr (2, [.ref b31])), (b31, .inl (cA, 41, .inl (fun _ => 0))), (q44, .inr (2, [.ref b44])), (b44, .inl (cA, 41, .inl (fun _ => 0))), (q57, .inr (2, [.ref b57])), (b57, .inl (cA, 41, .inl (fun _ => 0)))] : va_W) := hD
    refine va_putF (D := D) (ci := 1) (v := .ref q57) (ty := .object "LanternWeirs$Row") (C := RX1) (T := TX1) (N := 13) hx hb hts inX1 tyX1 tyX1_ok nmX1 hown hE.1 hP hD hS 0 rfl rfl 4 (by decide) kf29 (fun _ h9 => h9) rfl hin rfl (by decide +kernel) rfl rfl (Nat.le_of_ble_eq_true rfl) dX1_init_66 (fun H locs hP hD hS => ?_)
    have hP : va_P D vwCl ([(h, .inr (1, [.ref q5, .ref q18, .ref q31, .ref q44, .ref q57, .null, .null, .null, .null, .null, .null, .int 0, .int 0])), (q5, .inr (2, [.ref b5])), (b5, .inl (cA, 41, .inl (fun _ => 0))), (q18, .inr (2, [.ref b18])), (b18, .inl (cA, 41, .inl (fun _ => 0))), (q31, .inr (2, [.ref b31])), (b31, .inl (cA, 41, .inl (fun _ => 0))), (q44, .inr (2, [.ref b44])), (b44, .inl (cA, 41, .inl (fun _ => 0))), (q57, .inr (2, [.ref b57])), (b57, .inl (cA, 41, .inl (fun _ => 0)))] : va_W) H := hP
    have hD : va_D A ([(h, .inr (1, [.ref q5, .ref q18, .ref q31, .ref q44, .ref q57, .null, .null, .null, .null, .null, .null, .int 0, .int 0])), (q5, .inr (2, [.ref b5])), (b5, .inl (cA, 41, .inl (fun _ => 0))), (q18, .inr (2, [.ref b18])), (b18, .inl (cA, 41, .inl (fun _ => 0))), (q31, .inr (2, [.ref b31])), (b31, .inl (cA, 41, .inl (fun _ => 0))), (q44, .inr (2, [.ref b44])), (b44, .inl (cA, 41, .inl (fun _ => 0))), (q57, .inr (2, [.ref b57])), (b57, .inl (cA, 41, .inl (fun _ => 0)))] : va_W) := hD
    refine lv_aload_n hx hb dX1_init_69 rfl (lv_at hl 0 rfl) ?_
    refine va_new (ci := 2) (fs := [.null]) (C := RX2) (T := TX2) (N := 1) hx hb hts inX2 tyX2 tyX2_ok hown kw3 kw4 kw5 hE.1 hP hD hS hA rfl (fun j hj => by rcases (show j = 0 by omega) with rfl <;> rfl) (Nat.le_of_ble_eq_true rfl) (Nat.le_of_ble_eq_true rfl) dX1_init_70 (fun q70 H hP hD hS => ?_)
    refine W.widen (k := 11) (n := 211) (by omega) (by omega) ?_
    have hP : va_P D vwCl ([(h, .inr (1, [.ref q5, .ref q18, .ref q31, .ref q44, .ref q57, .null, .null, .null, .null, .null, .null, .int 0, .int 0])), (q5, .inr (2, [.ref b5])), (b5, .inl (cA, 41, .inl (fun _ => 0))), (q18, .inr (2, [.ref b18])), (b18, .inl (cA, 41, .inl (fun _ => 0))), (q31, .inr (2, [.ref b31])), (b31, .inl (cA, 41, .inl (fun _ => 0))), (q44, .inr (2, [.ref b44])), (b44, .inl (cA, 41, .inl (fun _ => 0))), (q57, .inr (2, [.ref b57])), (b57, .inl (cA, 41, .inl (fun _ => 0))), (q70, .inr (2, [.null]))] : va_W) H := hP
    have hD : va_D A ([(h, .inr (1, [.ref q5, .ref q18, .ref q31, .ref q44, .ref q57, .null, .null, .null, .null, .null, .null, .int 0, .int 0])), (q5, .inr (2, [.ref b5])), (b5, .inl (cA, 41, .inl (fun _ => 0))), (q18, .inr (2, [.ref b18])), (b18, .inl (cA, 41, .inl (fun _ => 0))), (q31, .inr (2, [.ref b31])), (b31, .inl (cA, 41, .inl (fun _ => 0))), (q44, .inr (2, [.ref b44])), (b44, .inl (cA, 41, .inl (fun _ => 0))), (q57, .inr (2, [.ref b57])), (b57, .inl (cA, 41, .inl (fun _ => 0))), (q70, .inr (2, [.null]))] : va_W) := hD
    refine lv_dup hx hb dX1_init_73 rfl ?_
    refine lv_bipush (v := 41) hx hb dX1_init_74 (by decide) ?_
    refine cI (wr := ([(h, .inr (1, [.ref q5, .ref q18, .ref q31, .ref q44, .ref q57, .null, .null, .null, .null, .null, .null, .int 0, .int 0])), (q5, .inr (2, [.ref b5])), (b5, .inl (cA, 41, .inl (fun _ => 0))), (q18, .inr (2, [.ref b18])), (b18, .inl (cA, 41, .inl (fun _ => 0))), (q31, .inr (2, [.ref b31])), (b31, .inl (cA, 41, .inl (fun _ => 0))), (q44, .inr (2, [.ref b44])), (b44, .inl (cA, 41, .inl (fun _ => 0))), (q57, .inr (2, [.ref b57])), (b57, .inl (cA, 41, .inl (fun _ => 0)))] : va_W)) (wB := fun (b70 : Nat) => (wR cA q70 b70 41 (fun _ => 0))) (As := [.int 41]) (rest := [.ref q70, .ref h]) (wc := ([(q70, .inr (2, [.null]))] : va_W)) ⟨hx, hb, hml, hown, hts⟩ (K_X2_init41 lch D cA q70 H.size ) (cwI 1 hts gX1_init_X2_init rfl rfl rfl kw5 kw8 kw7 rfl (by decide +kernel) ⟨Nat.le_of_ble_eq_true rfl, Nat.le_of_ble_eq_true rfl⟩) hE hP hD hS hA [11] [0, 1, 2, 3, 4, 5, 6, 7, 8, 9, 10] rfl rfl rfl rfl (by decide) X0.blind (fun _ _ _ => trivial) hl.1 rfl rfl (Nat.le_of_ble_eq_true rfl) dX1_init_76 ⟨Nat.le_of_ble_eq_true rfl, Nat.le_of_ble_eq_true rfl⟩ (fun b70 H locs h_6 hP hD hS => ?_)
    refine W.widen (k := 12) (n := 252) (by omega) (by omega) ?_
    have hP : va_P D vwCl ([(h, .inr (1, [.ref q5, .ref q18, .ref q31, .ref q44, .ref q57, .null, .null, .null, .null, .null, .null, .int 0, .int 0])), (q5, .inr (2, [.ref b5])), (b5, .inl (cA, 41, .inl (fun _ => 0))), (q18, .inr (2, [.ref b18])), (b18, .inl (cA, 41, .inl (fun _ => 0))), (q31, .inr (2, [.ref b31])), (b31, .inl (cA, 41, .inl (fun _ => 0))), (q44, .inr (2, [.ref b44])), (b44, .inl (cA, 41, .inl (fun _ => 0))), (q57, .inr (2, [.ref b57])), (b57, .inl (cA, 41, .inl (fun _ => 0))), (q70, .inr (2, [.ref b70])), (b70, .inl (cA, 41, .inl (fun _ => 0)))] : va_W) H := hP
    have hD : va_D A ([(h, .inr (1, [.ref q5, .ref q18, .ref q31, .ref q44, .ref q57, .null, .null, .null, .null, .null, .null, .int 0, .int 0])), (q5, .inr (2, [.ref b5])), (b5, .inl (cA, 41, .inl (fun _ => 0))), (q18, .inr (2, [.ref b18])), (b18, .inl (cA, 41, .inl (fun _ => 0))), (q31, .inr (2, [.ref b31])), (b31, .inl (cA, 41, .inl (fun _ => 0))), (q44, .inr (2, [.ref b44])), (b44, .inl (cA, 41, .inl (fun _ => 0))), (q57, .inr (2, [.ref b57])), (b57, .inl (cA, 41, .inl (fun _ => 0))), (q70, .inr (2, [.ref b70])), (b70, .inl (cA, 41, .inl (fun _ => 0)))] : va_W) := hD
    refine va_putF (D := D) (ci := 1) (v := .ref q70) (ty := .object "LanternWeirs$Row") (C := RX1) (T := TX1) (N := 13) hx hb hts inX1 tyX1 tyX1_ok nmX1 hown hE.1 hP hD hS 0 rfl rfl 5 (by decide) kf32 (fun _ h9 => h9) rfl hin rfl (by decide +kernel) rfl rfl (Nat.le_of_ble_eq_true rfl) dX1_init_79 (fun H locs hP hD hS => ?_)
    have hP : va_P D vwCl ([(h, .inr (1, [.ref q5, .ref q18, .ref q31, .ref q44, .ref q57, .ref q70, .null, .null, .null, .null, .null, .int 0, .int 0])), (q5, .inr (2, [.ref b5])), (b5, .inl (cA, 41, .inl (fun _ => 0))), (q18, .inr (2, [.ref b18])), (b18, .inl (cA, 41, .inl (fun _ => 0))), (q31, .inr (2, [.ref b31])), (b31, .inl (cA, 41, .inl (fun _ => 0))), (q44, .inr (2, [.ref b44])), (b44, .inl (cA, 41, .inl (fun _ => 0))), (q57, .inr (2, [.ref b57])), (b57, .inl (cA, 41, .inl (fun _ => 0))), (q70, .inr (2, [.ref b70])), (b70, .inl (cA, 41, .inl (fun _ => 0)))] : va_W) H := hP
    have hD : va_D A ([(h, .inr (1, [.ref q5, .ref q18, .ref q31, .ref q44, .ref q57, .ref q70, .null, .null, .null, .null, .null, .int 0, .int 0])), (q5, .inr (2, [.ref b5])), (b5, .inl (cA, 41, .inl (fun _ => 0))), (q18, .inr (2, [.ref b18])), (b18, .inl (cA, 41, .inl (fun _ => 0))), (q31, .inr (2, [.ref b31])), (b31, .inl (cA, 41, .inl (fun _ => 0))), (q44, .inr (2, [.ref b44])), (b44, .inl (cA, 41, .inl (fun _ => 0))), (q57, .inr (2, [.ref b57])), (b57, .inl (cA, 41, .inl (fun _ => 0))), (q70, .inr (2, [.ref b70])), (b70, .inl (cA, 41, .inl (fun _ => 0)))] : va_W) := hD
    refine lv_aload_n hx hb dX1_init_82 rfl (lv_at hl 0 rfl) ?_
    refine va_new (ci := 2) (fs := [.null]) (C := RX2) (T := TX2) (N := 1) hx hb hts inX2 tyX2 tyX2_ok hown kw3 kw4 kw5 hE.1 hP hD hS hA rfl (fun j hj => by rcases (show j = 0 by omega) with rfl <;> rfl) (Nat.le_of_ble_eq_true rfl) (Nat.le_of_ble_eq_true rfl) dX1_init_83 (fun q83 H hP hD hS => ?_)
    refine W.widen (k := 13) (n := 253) (by omega) (by omega) ?_
    have hP : va_P D vwCl ([(h, .inr (1, [.ref q5, .ref q18, .ref q31, .ref q44, .ref q57, .ref q70, .null, .null, .null, .null, .null, .int 0, .int 0])), (q5, .inr (2, [.ref b5])), (b5, .inl (cA, 41, .inl (fun _ => 0))), (q18, .inr (2, [.ref b18])), (b18, .inl (cA, 41, .inl (fun _ => 0))), (q31, .inr (2, [.ref b31])), (b31, .inl (cA, 41, .inl (fun _ => 0))), (q44, .inr (2, [.ref b44])), (b44, .inl (cA, 41, .inl (fun _ => 0))), (q57, .inr (2, [.ref b57])), (b57, .inl (cA, 41, .inl (fun _ => 0))), (q70, .inr (2, [.ref b70])), (b70, .inl (cA, 41, .inl (fun _ => 0))), (q83, .inr (2, [.null]))] : va_W) H := hP
    have hD : va_D A ([(h, .inr (1, [.ref q5, .ref q18, .ref q31, .ref q44, .ref q57, .ref q70, .null, .null, .null, .null, .null, .int 0, .int 0])), (q5, .inr (2, [.ref b5])), (b5, .inl (cA, 41, .inl (fun _ => 0))), (q18, .inr (2, [.ref b18])), (b18, .inl (cA, 41, .inl (fun _ => 0))), (q31, .inr (2, [.ref b31])), (b31, .inl (cA, 41, .inl (fun _ => 0))), (q44, .inr (2, [.ref b44])), (b44, .inl (cA, 41, .inl (fun _ => 0))), (q57, .inr (2, [.ref b57])), (b57, .inl (cA, 41, .inl (fun _ => 0))), (q70, .inr (2, [.ref b70])), (b70, .inl (cA, 41, .inl (fun _ => 0))), (q83, .inr (2, [.null]))] : va_W) := hD
    refine lv_dup hx hb dX1_init_86 rfl ?_
    refine lv_bipush (v := 41) hx hb dX1_init_87 (by decide) ?_
    refine cI (wr := ([(h, .inr (1, [.ref q5, .ref q18, .ref q31, .ref q44, .ref q57, .ref q70, .null, .null, .null, .null, .null, .int 0, .int 0])), (q5, .inr (2, [.ref b5])), (b5, .inl (cA, 41, .inl (fun _ => 0))), (q18, .inr (2, [.ref b18])), (b18, .inl (cA, 41, .inl (fun _ => 0))), (q31, .inr (2, [.ref b31])), (b31, .inl (cA, 41, .inl (fun _ => 0))), (q44, .inr (2, [.ref b44])), (b44, .inl (cA, 41, .inl (fun _ => 0))), (q57, .inr (2, [.ref b57])), (b57, .inl (cA, 41, .inl (fun _ => 0))), (q70, .inr (2, [.ref b70])), (b70, .inl (cA, 41, .inl (fun _ => 0)))] : va_W)) (wB := fun (b83 : Nat) => (wR cA q83 b83 41 (fun _ => 0))) (As := [.int 41]) (rest := [.ref q83, .ref h]) (wc := ([(q83, .inr (2, [.null]))] : va_W)) ⟨hx, hb, hml, hown, hts⟩ (K_X2_init41 lch D cA q83 H.size ) (cwI 1 hts gX1_init_X2_init rfl rfl rfl kw5 kw8 kw7 rfl (by decide +kernel) ⟨Nat.le_of_ble_eq_true rfl, Nat.le_of_ble_eq_true rfl⟩) hE hP hD hS hA [13] [0, 1, 2, 3, 4, 5, 6, 7, 8, 9, 10, 11, 12] rfl rfl rfl rfl (by decide) X0.blind (fun _ _ _ => trivial) hl.1 rfl rfl (Nat.le_of_ble_eq_true rfl) dX1_init_89 ⟨Nat.le_of_ble_eq_true rfl, Nat.le_of_ble_eq_true rfl⟩ (fun b83 H locs h_7 hP hD hS => ?_)
    refine W.widen (k := 14) (n := 294) (by omega) (by omega) ?_
    have hP : va_P D vwCl ([(h, .inr (1, [.ref q5, .ref q18, .ref q31, .ref q44, .ref q57, .ref q70, .null, .null, .null, .null, .null, .int 0, .int 0])), (q5, .inr (2, [.ref b5])), (b5, .inl (cA, 41, .inl (fun _ => 0))), (q18, .inr (2, [.ref b18])), (b18, .inl (cA, 41, .inl (fun _ => 0))), (q31, .inr (2, [.ref b31])), (b31, .inl (cA, 41, .inl (fun _ => 0))), (q44, .inr (2, [.ref b44])), (b44, .inl (cA, 41, .inl (fun _ => 0))), (q57, .inr (2, [.ref b57])), (b57, .inl (cA, 41, .inl (fun _ => 0))), (q70, .inr (2, [.ref b70])), (b70, .inl (cA, 41, .inl (fun _ => 0))), (q83, .inr (2, [.ref b83])), (b83, .inl (cA, 41, .inl (fun _ => 0)))] : va_W) H := hP
    have hD : va_D A ([(h, .inr (1, [.ref q5, .ref q18, .ref q31, .ref q44, .ref q57, .ref q70, .null, .null, .null, .null, .null, .int 0, .int 0])), (q5, .inr (2, [.ref b5])), (b5, .inl (cA, 41, .inl (fun _ => 0))), (q18, .inr (2, [.ref b18])), (b18, .inl (cA, 41, .inl (fun _ => 0))), (q31, .inr (2, [.ref b31])), (b31, .inl (cA, 41, .inl (fun _ => 0))), (q44, .inr (2, [.ref b44])), (b44, .inl (cA, 41, .inl (fun _ => 0))), (q57, .inr (2, [.ref b57])), (b57, .inl (cA, 41, .inl (fun _ => 0))), (q70, .inr (2, [.ref b70])), (b70, .inl (cA, 41, .inl (fun _ => 0))), (q83, .inr (2, [.ref b83])), (b83, .inl (cA, 41, .inl (fun _ => 0)))] : va_W) := hD
    refine va_putF (D := D) (ci := 1) (v := .ref q83) (ty := .object "LanternWeirs$Row") (C := RX1) (T := TX1) (N := 13) hx hb hts inX1 tyX1 tyX1_ok nmX1 hown hE.1 hP hD hS 0 rfl rfl 6 (by decide) kf35 (fun _ h9 => h9) rfl hin rfl (by decide +kernel) rfl rfl (Nat.le_of_ble_eq_true rfl) dX1_init_92 (fun H locs hP hD hS => ?_)
    have hP : va_P D vwCl ([(h, .inr (1, [.ref q5, .ref q18, .ref q31, .ref q44, .ref q57, .ref q70, .ref q83, .null, .null, .null, .null, .int 0, .int 0])), (q5, .inr (2, [.ref b5])), (b5, .inl (cA, 41, .inl (fun _ => 0))), (q18, .inr (2, [.ref b18])), (b18, .inl (cA, 41, .inl (fun _ => 0))), (q31, .inr (2, [.ref b31])), (b31, .inl (cA, 41, .inl (fun _ => 0))), (q44, .inr (2, [.ref b44])), (b44, .inl (cA, 41, .inl (fun _ => 0))), (q57, .inr (2, [.ref b57])), (b57, .inl (cA, 41, .inl (fun _ => 0))), (q70, .inr (2, [.ref b70])), (b70, .inl (cA, 41, .inl (fun _ => 0))), (q83, .inr (2, [.ref b83])), (b83, .inl (cA, 41, .inl (fun _ => 0)))] : va_W) H := hP
    have hD : va_D A ([(h, .inr (1, [.ref q5, .ref q18, .ref q31, .ref q44, .ref q57, .ref q70, .ref q83, .null, .null, .null, .null, .int 0, .int 0])), (q5, .inr (2, [.ref b5])), (b5, .inl (cA, 41, .inl (fun _ => 0))), (q18, .inr (2, [.ref b18])), (b18, .inl (cA, 41, .inl (fun _ => 0))), (q31, .inr (2, [.ref b31])), (b31, .inl (cA, 41, .inl (fun _ => 0))), (q44, .inr (2, [.ref b44])), (b44, .inl (cA, 41, .inl (fun _ => 0))), (q57, .inr (2, [.ref b57])), (b57, .inl (cA, 41, .inl (fun _ => 0))), (q70, .inr (2, [.ref b70])), (b70, .inl (cA, 41, .inl (fun _ => 0))), (q83, .inr (2, [.ref b83])), (b83, .inl (cA, 41, .inl (fun _ => 0)))] : va_W) := hD
    refine lv_aload_n hx hb dX1_init_95 rfl (lv_at hl 0 rfl) ?_
    refine va_new (ci := 2) (fs := [.null]) (C := RX2) (T := TX2) (N := 1) hx hb hts inX2 tyX2 tyX2_ok hown kw3 kw4 kw5 hE.1 hP hD hS hA rfl (fun j hj => by rcases (show j = 0 by omega) with rfl <;> rfl) (Nat.le_of_ble_eq_true rfl) (Nat.le_of_ble_eq_true rfl) dX1_init_96 (fun q96 H hP hD hS => ?_)
    refine W.widen (k := 15) (n := 295) (by omega) (by omega) ?_
    have hP : va_P D vwCl ([(h, .inr (1, [.ref q5, .ref q18, .ref q31, .ref q44, .ref q57, .ref q70, .ref q83, .null, .null, .null, .null, .int 0, .int 0])), (q5, .inr (2, [.ref b5])), (b5, .inl (cA, 41, .inl (fun _ => 0))), (q18, .inr (2, [.ref b18])), (b18, .inl (cA, 41, .inl (fun _ => 0))), (q31, .inr (2, [.ref b31])), (b31, .inl (cA, 41, .inl (fun _ => 0))), (q44, .inr (2, [.ref b44])), (b44, .inl (cA, 41, .inl (fun _ => 0))), (q57, .inr (2, [.ref b57])), (b57, .inl (cA, 41, .inl (fun _ => 0))), (q70, .inr (2, [.ref b70])), (b70, .inl (cA, 41, .inl (fun _ => 0))), (q83, .inr (2, [.ref b83])), (b83, .inl (cA, 41, .inl (fun _ => 0))), (q96, .inr (2, [.null]))] : va_W) H := hP
    have hD : va_D A ([(h, .inr (1, [.ref q5, .ref q18, .ref q31, .ref q44, .ref q57, .ref q70, .ref q83, .null, .null, .null, .null, .int 0, .int 0])), (q5, .inr (2, [.ref b5])), (b5, .inl (cA, 41, .inl (fun _ => 0))), (q18, .inr (2, [.ref b18])), (b18, .inl (cA, 41, .inl (fun _ => 0))), (q31, .inr (2, [.ref b31])), (b31, .inl (cA, 41, .inl (fun _ => 0))), (q44, .inr (2, [.ref b44])), (b44, .inl (cA, 41, .inl (fun _ => 0))), (q57, .inr (2, [.ref b57])), (b57, .inl (cA, 41, .inl (fun _ => 0))), (q70, .inr (2, [.ref b70])), (b70, .inl (cA, 41, .inl (fun _ => 0))), (q83, .inr (2, [.ref b83])), (b83, .inl (cA, 41, .inl (fun _ => 0))), (q96, .inr (2, [.null]))] : va_W) := hD
    refine lv_dup hx hb dX1_init_99 rfl ?_
    refine lv_bipush (v := 41) hx hb dX1_init_100 (by decide) ?_
    refine cI (wr := ([(h, .inr (1, [.ref q5, .ref q18, .ref q31, .ref q44, .ref q57, .ref q70, .ref q83, .null, .null, .null, .null, .int 0, .int 0])), (q5, .inr (2, [.ref b5])), (b5, .inl (cA, 41, .inl (fun _ => 0))), (q18, .inr (2, [.ref b18])), (b18, .inl (cA, 41, .inl (fun _ => 0))), (q31, .inr (2, [.ref b31])), (b31, .inl (cA, 41, .inl (fun _ => 0))), (q44, .inr (2, [.ref b44])), (b44, .inl (cA, 41, .inl (fun _ => 0))), (q57, .inr (2, [.ref b57])), (b57, .inl (cA, 41, .inl (fun _ => 0))), (q70, .inr (2, [.ref b70])), (b70, .inl (cA, 41, .inl (fun _ => 0))), (q83, .inr (2, [.ref b83])), (b83, .inl (cA, 41, .inl (fun _ => 0)))] : va_W)) (wB := fun (b96 : Nat) => (wR cA q96 b96 41 (fun _ => 0))) (As := [.int 41]) (rest := [.ref q96, .ref h]) (wc := ([(q96, .inr (2, [.null]))] : va_W)) ⟨hx, hb, hml, hown, hts⟩ (K_X2_init41 lch D cA q96 H.size ) (cwI 1 hts gX1_init_X2_init rfl rfl rfl kw5 kw8 kw7 rfl (by decide +kernel) ⟨Nat.le_of_ble_eq_true rfl, Nat.le_of_ble_eq_true rfl⟩) hE hP hD hS hA [15] [0, 1, 2, 3, 4, 5, 6, 7, 8, 9, 10, 11, 12, 13, 14] rfl rfl rfl rfl (by decide) X0.blind (fun _ _ _ => trivial) hl.1 rfl rfl (Nat.le_of_ble_eq_true rfl) dX1_init_102 ⟨Nat.le_of_ble_eq_true rfl, Nat.le_of_ble_eq_true rfl⟩ (fun b96 H locs h_8 hP hD hS => ?_)
    refine W.widen (k := 16) (n := 336) (by omega) (by omega) ?_
    have hP : va_P D vwCl ([(h, .inr (1, [.ref q5, .ref q18, .ref q31, .ref q44, .ref q57, .ref q70, .ref q83, .null, .null, .null, .null, .int 0, .int 0])), (q5, .inr (2, [.ref b5])), (b5, .inl (cA, 41, .inl (fun _ => 0))), (q18, .inr (2, [.ref b18])), (b18, .inl (cA, 41, .inl (fun _ => 0))), (q31, .inr (2, [.ref b31])), (b31, .inl (cA, 41, .inl (fun _ => 0))), (q44, .inr (2, [.ref b44])), (b44, .inl (cA, 41, .inl (fun _ => 0))), (q57, .inr (2, [.ref b57])), (b57, .inl (cA, 41, .inl (fun _ => 0))), (q70, .inr (2, [.ref b70])), (b70, .inl (cA, 41, .inl (fun _ => 0))), (q83, .inr (2, [.ref b83])), (b83, .inl (cA, 41, .inl (fun _ => 0))), (q96, .inr (2, [.ref b96])), (b96, .inl (cA, 41, .inl (fun _ => 0)))] : va_W) H := hP
    have hD : va_D A ([(h, .inr (1, [.ref q5, .ref q18, .ref q31, .ref q44, .ref q57, .ref q70, .ref q83, .null, .null, .null, .null, .int 0, .int 0])), (q5, .inr (2, [.ref b5])), (b5, .inl (cA, 41, .inl (fun _ => 0))), (q18, .inr (2, [.ref b18])), (b18, .inl (cA, 41, .inl (fun _ => 0))), (q31, .inr (2, [.ref b31])), (b31, .inl (cA, 41, .inl (fun _ => 0))), (q44, .inr (2, [.ref b44])), (b44, .inl (cA, 41, .inl (fun _ => 0))), (q57, .inr (2, [.ref b57])), (b57, .inl (cA, 41, .inl (fun _ => 0))), (q70, .inr (2, [.ref b70])), (b70, .inl (cA, 41, .inl (fun _ => 0))), (q83, .inr (2, [.ref b83])), (b83, .inl (cA, 41, .inl (fun _ => 0))), (q96, .inr (2, [.ref b96])), (b96, .inl (cA, 41, .inl (fun _ => 0)))] : va_W) := hD
    refine va_putF (D := D) (ci := 1) (v := .ref q96) (ty := .object "LanternWeirs$Row") (C := RX1) (T := TX1) (N := 13) hx hb hts inX1 tyX1 tyX1_ok nmX1 hown hE.1 hP hD hS 0 rfl rfl 7 (by decide) kf38 (fun _ h9 => h9) rfl hin rfl (by decide +kernel) rfl rfl (Nat.le_of_ble_eq_true rfl) dX1_init_105 (fun H locs hP hD hS => ?_)
    have hP : va_P D vwCl ([(h, .inr (1, [.ref q5, .ref q18, .ref q31, .ref q44, .ref q57, .ref q70, .ref q83, .ref q96, .null, .null, .null, .int 0, .int 0])), (q5, .inr (2, [.ref b5])), (b5, .inl (cA, 41, .inl (fun _ => 0))), (q18, .inr (2, [.ref b18])), (b18, .inl (cA, 41, .inl (fun _ => 0))), (q31, .inr (2, [.ref b31])), (b31, .inl (cA, 41, .inl (fun _ => 0))), (q44, .inr (2, [.ref b44])), (b44, .inl (cA, 41, .inl (fun _ => 0))), (q57, .inr (2, [.ref b57])), (b57, .inl (cA, 41, .inl (fun _ => 0))), (q70, .inr (2, [.ref b70])), (b70, .inl (cA, 41, .inl (fun _ => 0))), (q83, .inr (2, [.ref b83])), (b83, .inl (cA, 41, .inl (fun _ => 0))), (q96, .inr (2, [.ref b96])), (b96, .inl (cA, 41, .inl (fun _ => 0)))] : va_W) H := hP
    have hD : va_D A ([(h, .inr (1, [.ref q5, .ref q18, .ref q31, .ref q44, .ref q57, .ref q70, .ref q83, .ref q96, .null, .null, .null, .int 0, .int 0])), (q5, .inr (2, [.ref b5])), (b5, .inl (cA, 41, .inl (fun _ => 0))), (q18, .inr (2, [.ref b18])), (b18, .inl (cA, 41, .inl (fun _ => 0))), (q31, .inr (2, [.ref b31])), (b31, .inl (cA, 41, .inl (fun _ => 0))), (q44, .inr (2, [.ref b44])), (b44, .inl (cA, 41, .inl (fun _ => 0))), (q57, .inr (2, [.ref b57])), (b57, .inl (cA, 41, .inl (fun _ => 0))), (q70, .inr (2, [.ref b70])), (b70, .inl (cA, 41, .inl (fun _ => 0))), (q83, .inr (2, [.ref b83])), (b83, .inl (cA, 41, .inl (fun _ => 0))), (q96, .inr (2, [.ref b96])), (b96, .inl (cA, 41, .inl (fun _ => 0)))] : va_W) := hD
    refine lv_aload_n hx hb dX1_init_108 rfl (lv_at hl 0 rfl) ?_
    refine va_new (ci := 2) (fs := [.null]) (C := RX2) (T := TX2) (N := 1) hx hb hts inX2 tyX2 tyX2_ok hown kw3 kw4 kw5 hE.1 hP hD hS hA rfl (fun j hj => by rcases (show j = 0 by omega) with rfl <;> rfl) (Nat.le_of_ble_eq_true rfl) (Nat.le_of_ble_eq_true rfl) dX1_init_109 (fun q109 H hP hD hS => ?_)
    refine W.widen (k := 17) (n := 337) (by omega) (by omega) ?_
    have hP : va_P D vwCl ([(h, .inr (1, [.ref q5, .ref q18, .ref q31, .ref q44, .ref q57, .ref q70, .ref q83, .ref q96, .null, .null, .null, .int 0, .int 0])), (q5, .inr (2, [.ref b5])), (b5, .inl (cA, 41, .inl (fun _ => 0))), (q18, .inr (2, [.ref b18])), (b18, .inl (cA, 41, .inl (fun _ => 0))), (q31, .inr (2, [.ref b31])), (b31, .inl (cA, 41, .inl (fun _ => 0))), (q44, .inr (2, [.ref b44])), (b44, .inl (cA, 41, .inl (fun _ => 0))), (q57, .inr (2, [.ref b57])), (b57, .inl (cA, 41, .inl (fun _ => 0))), (q70, .inr (2, [.ref b70])), (b70, .inl (cA, 41, .inl (fun _ => 0))), (q83, .inr (2, [.ref b83])), (b83, .inl (cA, 41, .inl (fun _ => 0))), (q96, .inr (2, [.ref b96])), (b96, .inl (cA, 41, .inl (fun _ => 0))), (q109, .inr (2, [.null]))] : va_W) H := hP
    have hD : va_D A ([(h, .inr (1, [.ref q5, .ref q18, .ref q31, .ref q44, .ref q57, .ref q70, .ref q83, .ref q96, .null, .null, .null, .int 0, .int 0])), (q5, .inr (2, [.ref b5])), (b5, .inl (cA, 41, .inl (fun _ => 0))), (q18, .inr (2, [.ref b18])), (b18, .inl (cA, 41, .inl (fun _ => 0))), (q31, .inr (2, [.ref b31])), (b31, .inl (cA, 41, .inl (fun _ => 0))), (q44, .inr (2, [.ref b44])), (b44, .inl (cA, 41, .inl (fun _ => 0))), (q57, .inr (2, [.ref b57])), (b57, .inl (cA, 41, .inl (fun _ => 0))), (q70, .inr (2, [.ref b70])), (b70, .inl (cA, 41, .inl (fun _ => 0))), (q83, .inr (2, [.ref b83])), (b83, .inl (cA, 41, .inl (fun _ => 0))), (q96, .inr (2, [.ref b96])), (b96, .inl (cA, 41, .inl (fun _ => 0))), (q109, .inr (2, [.null]))] : va_W) := hD
    refine lv_dup hx hb dX1_init_112 rfl ?_
    refine lv_bipush (v := 41) hx hb dX1_init_113 (by decide) ?_
    refine cI (wr := ([(h, .inr (1, [.ref q5, .ref q18, .ref q31, .ref q44, .ref q57, .ref q70, .ref q83, .ref q96, .null, .null, .null, .int 0, .int 0])), (q5, .inr (2, [.ref b5])), (b5, .inl (cA, 41, .inl (fun _ => 0))), (q18, .inr (2, [.ref b18])), (b18, .inl (cA, 41, .inl (fun _ => 0))), (q31, .inr (2, [.ref b31])), (b31, .inl (cA, 41, .inl (fun _ => 0))), (q44, .inr (2, [.ref b44])), (b44, .inl (cA, 41, .inl (fun _ => 0))), (q57, .inr (2, [.ref b57])), (b57, .inl (cA, 41, .inl (fun _ => 0))), (q70, .inr (2, [.ref b70])), (b70, .inl (cA, 41, .inl (fun _ => 0))), (q83, .inr (2, [.ref b83])), (b83, .inl (cA, 41, .inl (fun _ => 0))), (q96, .inr (2, [.ref b96])), (b96, .inl (cA, 41, .inl (fun _ => 0)))] : va_W)) (wB := fun (b109 : Nat) => (wR cA q109 b109 41 (fun _ => 0))) (As := [.int 41]) (rest := [.ref q109, .ref h]) (wc := ([(q109, .inr (2, [.null]))] : va_W)) ⟨hx, hb, hml, hown, hts⟩ (K_X2_init41 lch D cA q109 H.size ) (cwI 1 hts gX1_init_X2_init rfl rfl rfl kw5 kw8 kw7 rfl (by decide +kernel) ⟨Nat.le_of_ble_eq_true rfl, Nat.le_of_ble_eq_true rfl⟩) hE hP hD hS hA [17] [0, 1, 2, 3, 4, 5, 6, 7, 8, 9, 10, 11, 12, 13, 14, 15, 16] rfl rfl rfl rfl (by decide) X0.blind (fun _ _ _ => trivial) hl.1 rfl rfl (Nat.le_of_ble_eq_true rfl) dX1_init_115 ⟨Nat.le_of_ble_eq_true rfl, Nat.le_of_ble_eq_true rfl⟩ (fun b109 H locs h_9 hP hD hS => ?_)
    refine W.widen (k := 18) (n := 378) (by omega) (by omega) ?_
    have hP : va_P D vwCl ([(h, .inr (1, [.ref q5, .ref q18, .ref q31, .ref q44, .ref q57, .ref q70, .ref q83, .ref q96, .null, .null, .null, .int 0, .int 0])), (q5, .inr (2, [.ref b5])), (b5, .inl (cA, 41, .inl (fun _ => 0))), (q18, .inr (2, [.ref b18])), (b18, .inl (cA, 41, .inl (fun _ => 0))), (q31, .inr (2, [.ref b31])), (b31, .inl (cA, 41, .inl (fun _ => 0))), (q44, .inr (2, [.ref b44])), (b44, .inl (cA, 41, .inl (fun _ => 0))), (q57, .inr (2, [.ref b57])), (b57, .inl (cA, 41, .inl (fun _ => 0))), (q70, .inr (2, [.ref b70])), (b70, .inl (cA, 41, .inl (fun _ => 0))), (q83, .inr (2, [.ref b83])), (b83, .inl (cA, 41, .inl (fun _ => 0))), (q96, .inr (2, [.ref b96])), (b96, .inl (cA, 41, .inl (fun _ => 0))), (q109, .inr (2, [.ref b109])), (b109, .inl (cA, 41, .inl (fun _ => 0)))] : va_W) H := hP
    have hD : va_D A ([(h, .inr (1, [.ref q5, .ref q18, .ref q31, .ref q44, .ref q57, .ref q70, .ref q83, .ref q96, .null, .null, .null, .int 0, .int 0])), (q5, .inr (2, [.ref b5])), (b5, .inl (cA, 41, .inl (fun _ => 0))), (q18, .inr (2, [.ref b18])), (b18, .inl (cA, 41, .inl (fun _ => 0))), (q31, .inr (2, [.ref b31])), (b31, .inl (cA, 41, .inl (fun _ => 0))), (q44, .inr (2, [.ref b44])), (b44, .inl (cA, 41, .inl (fun _ => 0))), (q57, .inr (2, [.ref b57])), (b57, .inl (cA, 41, .inl (fun _ => 0))), (q70, .inr (2, [.ref b70])), (b70, .inl (cA, 41, .inl (fun _ => 0))), (q83, .inr (2, [.ref b83])), (b83, .inl (cA, 41, .inl (fun _ => 0))), (q96, .inr (2, [.ref b96])), (b96, .inl (cA, 41, .inl (fun _ => 0))), (q109, .inr (2, [.ref b109])), (b109, .inl (cA, 41, .inl (fun _ => 0)))] : va_W) := hD
    refine va_putF (D := D) (ci := 1) (v := .ref q109) (ty := .object "LanternWeirs$Row") (C := RX1) (T := TX1) (N := 13) hx hb hts inX1 tyX1 tyX1_ok nmX1 hown hE.1 hP hD hS 0 rfl rfl 8 (by decide) kf41 (fun _ h9 => h9) rfl hin rfl (by decide +kernel) rfl rfl (Nat.le_of_ble_eq_true rfl) dX1_init_118 (fun H locs hP hD hS => ?_)
    have hP : va_P D vwCl ([(h, .inr (1, [.ref q5, .ref q18, .ref q31, .ref q44, .ref q57, .ref q70, .ref q83, .ref q96, .ref q109, .null, .null, .int 0, .int 0])), (q5, .inr (2, [.ref b5])), (b5, .inl (cA, 41, .inl (fun _ => 0))), (q18, .inr (2, [.ref b18])), (b18, .inl (cA, 41, .inl (fun _ => 0))), (q31, .inr (2, [.ref b31])), (b31, .inl (cA, 41, .inl (fun _ => 0))), (q44, .inr (2, [.ref b44])), (b44, .inl (cA, 41, .inl (fun _ => 0))), (q57, .inr (2, [.ref b57])), (b57, .inl (cA, 41, .inl (fun _ => 0))), (q70, .inr (2, [.ref b70])), (b70, .inl (cA, 41, .inl (fun _ => 0))), (q83, .inr (2, [.ref b83])), (b83, .inl (cA, 41, .inl (fun _ => 0))), (q96, .inr (2, [.ref b96])), (b96, .inl (cA, 41, .inl (fun _ => 0))), (q109, .inr (2, [.ref b109])), (b109, .inl (cA, 41, .inl (fun _ => 0)))] : va_W) H := hP
    have hD : va_D A ([(h, .inr (1, [.ref q5, .ref q18, .ref q31, .ref q44, .ref q57, .ref q70, .ref q83, .ref q96, .ref q109, .null, .null, .int 0, .int 0])), (q5, .inr (2, [.ref b5])), (b5, .inl (cA, 41, .inl (fun _ => 0))), (q18, .inr (2, [.ref b18])), (b18, .inl (cA, 41, .inl (fun _ => 0))), (q31, .inr (2, [.ref b31])), (b31, .inl (cA, 41, .inl (fun _ => 0))), (q44, .inr (2, [.ref b44])), (b44, .inl (cA, 41, .inl (fun _ => 0))), (q57, .inr (2, [.ref b57])), (b57, .inl (cA, 41, .inl (fun _ => 0))), (q70, .inr (2, [.ref b70])), (b70, .inl (cA, 41, .inl (fun _ => 0))), (q83, .inr (2, [.ref b83])), (b83, .inl (cA, 41, .inl (fun _ => 0))), (q96, .inr (2, [.ref b96])), (b96, .inl (cA, 41, .inl (fun _ => 0))), (q109, .inr (2, [.ref b109])), (b109, .inl (cA, 41, .inl (fun _ => 0)))] : va_W) := hD
    refine lv_aload_n hx hb dX1_init_121 rfl (lv_at hl 0 rfl) ?_
    refine va_new (ci := 2) (fs := [.null]) (C := RX2) (T := TX2) (N := 1) hx hb hts inX2 tyX2 tyX2_ok hown kw3 kw4 kw5 hE.1 hP hD hS hA rfl (fun j hj => by rcases (show j = 0 by omega) with rfl <;> rfl) (Nat.le_of_ble_eq_true rfl) (Nat.le_of_ble_eq_true rfl) dX1_init_122 (fun q122 H hP hD hS => ?_)
    refine W.widen (k := 19) (n := 379) (by omega) (by omega) ?_
    have hP : va_P D vwCl ([(h, .inr (1, [.ref q5, .ref q18, .ref q31, .ref q44, .ref q57, .ref q70, .ref q83, .ref q96, .ref q109, .null, .null, .int 0, .int 0])), (q5, .inr (2, [.ref b5])), (b5, .inl (cA, 41, .inl (fun _ => 0))), (q18, .inr (2, [.ref b18])), (b18, .inl (cA, 41, .inl (fun _ => 0))), (q31, .inr (2, [.ref b31])), (b31, .inl (cA, 41, .inl (fun _ => 0))), (q44, .inr (2, [.ref b44])), (b44, .inl (cA, 41, .inl (fun _ => 0))), (q57, .inr (2, [.ref b57])), (b57, .inl (cA, 41, .inl (fun _ => 0))), (q70, .inr (2, [.ref b70])), (b70, .inl (cA, 41, .inl (fun _ => 0))), (q83, .inr (2, [.ref b83])), (b83, .inl (cA, 41, .inl (fun _ => 0))), (q96, .inr (2, [.ref b96])), (b96, .inl (cA, 41, .inl (fun _ => 0))), (q109, .inr (2, [.ref b109])), (b109, .inl (cA, 41, .inl (fun _ => 0))), (q122, .inr (2, [.null]))] : va_W) H := hP
    have hD : va_D A ([(h, .inr (1, [.ref q5, .ref q18, .ref q31, .ref q44, .ref q57, .ref q70, .ref q83, .ref q96, .ref q109, .null, .null, .int 0, .int 0])), (q5, .inr (2, [.ref b5])), (b5, .inl (cA, 41, .inl (fun _ => 0))), (q18, .inr (2, [.ref b18])), (b18, .inl (cA, 41, .inl (fun _ => 0))), (q31, .inr (2, [.ref b31])), (b31, .inl (cA, 41, .inl (fun _ => 0))), (q44, .inr (2, [.ref b44])), (b44, .inl (cA, 41, .inl (fun _ => 0))), (q57, .inr (2, [.ref b57])), (b57, .inl (cA, 41, .inl (fun _ => 0))), (q70, .inr (2, [.ref b70])), (b70, .inl (cA, 41, .inl (fun _ => 0))), (q83, .inr (2, [.ref b83])), (b83, .inl (cA, 41, .inl (fun _ => 0))), (q96, .inr (2, [.ref b96])), (b96, .inl (cA, 41, .inl (fun _ => 0))), (q109, .inr (2, [.ref b109])), (b109, .inl (cA, 41, .inl (fun _ => 0))), (q122, .inr (2, [.null]))] : va_W) := hD
    refine lv_dup hx hb dX1_init_125 rfl ?_
    refine lv_sipush (v := 540) hx hb dX1_init_126 (by decide) ?_
    refine cI (wr := ([(h, .inr (1, [.ref q5, .ref q18, .ref q31, .ref q44, .ref q57, .ref q70, .ref q83, .ref q96, .ref q109, .null, .null, .int 0, .int 0])), (q5, .inr (2, [.ref b5])), (b5, .inl (cA, 41, .inl (fun _ => 0))), (q18, .inr (2, [.ref b18])), (b18, .inl (cA, 41, .inl (fun _ => 0))), (q31, .inr (2, [.ref b31])), (b31, .inl (cA, 41, .inl (fun _ => 0))), (q44, .inr (2, [.ref b44])), (b44, .inl (cA, 41, .inl (fun _ => 0))), (q57, .inr (2, [.ref b57])), (b57, .inl (cA, 41, .inl (fun _ => 0))), (q70, .inr (2, [.ref b70])), (b70, .inl (cA, 41, .inl (fun _ => 0))), (q83, .inr (2, [.ref b83])), (b83, .inl (cA, 41, .inl (fun _ => 0))), (q96, .inr (2, [.ref b96])), (b96, .inl (cA, 41, .inl (fun _ => 0))), (q109, .inr (2, [.ref b109])), (b109, .inl (cA, 41, .inl (fun _ => 0)))] : va_W)) (wB := fun (b122 : Nat) => (wR cA q122 b122 540 (fun _ => 0))) (As := [.int 540]) (rest := [.ref q122, .ref h]) (wc := ([(q122, .inr (2, [.null]))] : va_W)) ⟨hx, hb, hml, hown, hts⟩ (K_X2_init540 lch D cA q122 H.size ) (cwI 1 hts gX1_init_X2_init rfl rfl rfl kw5 kw8 kw7 rfl (by decide +kernel) ⟨Nat.le_of_ble_eq_true rfl, Nat.le_of_ble_eq_true rfl⟩) hE hP hD hS hA [19] [0, 1, 2, 3, 4, 5, 6, 7, 8, 9, 10, 11, 12, 13, 14, 15, 16, 17, 18] rfl rfl rfl rfl (by decide) X0.blind (fun _ _ _ => trivial) hl.1 rfl rfl (Nat.le_of_ble_eq_true rfl) dX1_init_129 ⟨Nat.le_of_ble_eq_true rfl, Nat.le_of_ble_eq_true rfl⟩ (fun b122 H locs h_10 hP hD hS => ?_)
    refine W.widen (k := 20) (n := 919) (by omega) (by omega) ?_
    have hP : va_P D vwCl ([(h, .inr (1, [.ref q5, .ref q18, .ref q31, .ref q44, .ref q57, .ref q70, .ref q83, .ref q96, .ref q109, .null, .null, .int 0, .int 0])), (q5, .inr (2, [.ref b5])), (b5, .inl (cA, 41, .inl (fun _ => 0))), (q18, .inr (2, [.ref b18])), (b18, .inl (cA, 41, .inl (fun _ => 0))), (q31, .inr (2, [.ref b31])), (b31, .inl (cA, 41, .inl (fun _ => 0))), (q44, .inr (2, [.ref b44])), (b44, .inl (cA, 41, .inl (fun _ => 0))), (q57, .inr (2, [.ref b57])), (b57, .inl (cA, 41, .inl (fun _ => 0))), (q70, .inr (2, [.ref b70])), (b70, .inl (cA, 41, .inl (fun _ => 0))), (q83, .inr (2, [.ref b83])), (b83, .inl (cA, 41, .inl (fun _ => 0))), (q96, .inr (2, [.ref b96])), (b96, .inl (cA, 41, .inl (fun _ => 0))), (q109, .inr (2, [.ref b109])), (b109, .inl (cA, 41, .inl (fun _ => 0))), (q122, .inr (2, [.ref b122])), (b122, .inl (cA, 540, .inl (fun _ => 0)))] : va_W) H := hP
    have hD : va_D A ([(h, .inr (1, [.ref q5, .ref q18, .ref q31, .ref q44, .ref q57, .ref q70, .ref q83, .ref q96, .ref q109, .null, .null, .int 0, .int 0])), (q5, .inr (2, [.ref b5])), (b5, .inl (cA, 41, .inl (fun _ => 0))), (q18, .inr (2, [.ref b18])), (b18, .inl (cA, 41, .inl (fun _ => 0))), (q31, .inr (2, [.ref b31])), (b31, .inl (cA, 41, .inl (fun _ => 0))), (q44, .inr (2, [.ref b44])), (b44, .inl (cA, 41, .inl (fun _ => 0))), (q57, .inr (2, [.ref b57])), (b57, .inl (cA, 41, .inl (fun _ => 0))), (q70, .inr (2, [.ref b70])), (b70, .inl (cA, 41, .inl (fun _ => 0))), (q83, .inr (2, [.ref b83])), (b83, .inl (cA, 41, .inl (fun _ => 0))), (q96, .inr (2, [.ref b96])), (b96, .inl (cA, 41, .inl (fun _ => 0))), (q109, .inr (2, [.ref b109])), (b109, .inl (cA, 41, .inl (fun _ => 0))), (q122, .inr (2, [.ref b122])), (b122, .inl (cA, 540, .inl (fun _ => 0)))] : va_W) := hD
    refine va_putF (D := D) (ci := 1) (v := .ref q122) (ty := .object "LanternWeirs$Row") (C := RX1) (T := TX1) (N := 13) hx hb hts inX1 tyX1 tyX1_ok nmX1 hown hE.1 hP hD hS 0 rfl rfl 9 (by decide) kf44 (fun _ h9 => h9) rfl hin rfl (by decide +kernel) rfl rfl (Nat.le_of_ble_eq_true rfl) dX1_init_132 (fun H locs hP hD hS => ?_)
    have hP : va_P D vwCl ([(h, .inr (1, [.ref q5, .ref q18, .ref q31, .ref q44, .ref q57, .ref q70, .ref q83, .ref q96, .ref q109, .ref q122, .null, .int 0, .int 0])), (q5, .inr (2, [.ref b5])), (b5, .inl (cA, 41, .inl (fun _ => 0))), (q18, .inr (2, [.ref b18])), (b18, .inl (cA, 41, .inl (fun _ => 0))), (q31, .inr (2, [.ref b31])), (b31, .inl (cA, 41, .inl (fun _ => 0))), (q44, .inr (2, [.ref b44])), (b44, .inl (cA, 41, .inl (fun _ => 0))), (q57, .inr (2, [.ref b57])), (b57, .inl (cA, 41, .inl (fun _ => 0))), (q70, .inr (2, [.ref b70])), (b70, .inl (cA, 41, .inl (fun _ => 0))), (q83, .inr (2, [.ref b83])), (b83, .inl (cA, 41, .inl (fun _ => 0))), (q96, .inr (2, [.ref b96])), (b96, .inl (cA, 41, .inl (fun _ => 0))), (q109, .inr (2, [.ref b109])), (b109, .inl (cA, 41, .inl (fun _ => 0))), (q122, .inr (2, [.ref b122])), (b122, .inl (cA, 540, .inl (fun _ => 0)))] : va_W) H := hP
    have hD : va_D A ([(h, .inr (1, [.ref q5, .ref q18, .ref q31, .ref q44, .ref q57, .ref q70, .ref q83, .ref q96, .ref q109, .ref q122, .null, .int 0, .int 0])), (q5, .inr (2, [.ref b5])), (b5, .inl (cA, 41, .inl (fun _ => 0))), (q18, .inr (2, [.ref b18])), (b18, .inl (cA, 41, .inl (fun _ => 0))), (q31, .inr (2, [.ref b31])), (b31, .inl (cA, 41, .inl (fun _ => 0))), (q44, .inr (2, [.ref b44])), (b44, .inl (cA, 41, .inl (fun _ => 0))), (q57, .inr (2, [.ref b57])), (b57, .inl (cA, 41, .inl (fun _ => 0))), (q70, .inr (2, [.ref b70])), (b70, .inl (cA, 41, .inl (fun _ => 0))), (q83, .inr (2, [.ref b83])), (b83, .inl (cA, 41, .inl (fun _ => 0))), (q96, .inr (2, [.ref b96])), (b96, .inl (cA, 41, .inl (fun _ => 0))), (q109, .inr (2, [.ref b109])), (b109, .inl (cA, 41, .inl (fun _ => 0))), (q122, .inr (2, [.ref b122])), (b122, .inl (cA, 540, .inl (fun _ => 0)))] : va_W) := hD
    refine lv_aload_n hx hb dX1_init_135 rfl (lv_at hl 0 rfl) ?_
    refine va_new (ci := 2) (fs := [.null]) (C := RX2) (T := TX2) (N := 1) hx hb hts inX2 tyX2 tyX2_ok hown kw3 kw4 kw5 hE.1 hP hD hS hA rfl (fun j hj => by rcases (show j = 0 by omega) with rfl <;> rfl) (Nat.le_of_ble_eq_true rfl) (Nat.le_of_ble_eq_true rfl) dX1_init_136 (fun q136 H hP hD hS => ?_)
    refine W.widen (k := 21) (n := 920) (by omega) (by omega) ?_
    have hP : va_P D vwCl ([(h, .inr (1, [.ref q5, .ref q18, .ref q31, .ref q44, .ref q57, .ref q70, .ref q83, .ref q96, .ref q109, .ref q122, .null, .int 0, .int 0])), (q5, .inr (2, [.ref b5])), (b5, .inl (cA, 41, .inl (fun _ => 0))), (q18, .inr (2, [.ref b18])), (b18, .inl (cA, 41, .inl (fun _ => 0))), (q31, .inr (2, [.ref b31])), (b31, .inl (cA, 41, .inl (fun _ => 0))), (q44, .inr (2, [.ref b44])), (b44, .inl (cA, 41, .inl (fun _ => 0))), (q57, .inr (2, [.ref b57])), (b57, .inl (cA, 41, .inl (fun _ => 0))), (q70, .inr (2, [.ref b70])), (b70, .inl (cA, 41, .inl (fun _ => 0))), (q83, .inr (2, [.ref b83])), (b83, .inl (cA, 41, .inl (fun _ => 0))), (q96, .inr (2, [.ref b96])), (b96, .inl (cA, 41, .inl (fun _ => 0))), (q109, .inr (2, [.ref b109])), (b109, .inl (cA, 41, .inl (fun _ => 0))), (q122, .inr (2, [.ref b122])), (b122, .inl (cA, 540, .inl (fun _ => 0))), (q136, .inr (2, [.null]))] : va_W) H := hP
    have hD : va_D A ([(h, .inr (1, [.ref q5, .ref q18, .ref q31, .ref q44, .ref q57, .ref q70, .ref q83, .ref q96, .ref q109, .ref q122, .null, .int 0, .int 0])), (q5, .inr (2, [.ref b5])), (b5, .inl (cA, 41, .inl (fun _ => 0))), (q18, .inr (2, [.ref b18])), (b18, .inl (cA, 41, .inl (fun _ => 0))), (q31, .inr (2, [.ref b31])), (b31, .inl (cA, 41, .inl (fun _ => 0))), (q44, .inr (2, [.ref b44])), (b44, .inl (cA, 41, .inl (fun _ => 0))), (q57, .inr (2, [.ref b57])), (b57, .inl (cA, 41, .inl (fun _ => 0))), (q70, .inr (2, [.ref b70])), (b70, .inl (cA, 41, .inl (fun _ => 0))), (q83, .inr (2, [.ref b83])), (b83, .inl (cA, 41, .inl (fun _ => 0))), (q96, .inr (2, [.ref b96])), (b96, .inl (cA, 41, .inl (fun _ => 0))), (q109, .inr (2, [.ref b109])), (b109, .inl (cA, 41, .inl (fun _ => 0))), (q122, .inr (2, [.ref b122])), (b122, .inl (cA, 540, .inl (fun _ => 0))), (q136, .inr (2, [.null]))] : va_W) := hD
    refine lv_dup hx hb dX1_init_139 rfl ?_
    refine lv_bipush (v := 41) hx hb dX1_init_140 (by decide) ?_
    refine cI (wr := ([(h, .inr (1, [.ref q5, .ref q18, .ref q31, .ref q44, .ref q57, .ref q70, .ref q83, .ref q96, .ref q109, .ref q122, .null, .int 0, .int 0])), (q5, .inr (2, [.ref b5])), (b5, .inl (cA, 41, .inl (fun _ => 0))), (q18, .inr (2, [.ref b18])), (b18, .inl (cA, 41, .inl (fun _ => 0))), (q31, .inr (2, [.ref b31])), (b31, .inl (cA, 41, .inl (fun _ => 0))), (q44, .inr (2, [.ref b44])), (b44, .inl (cA, 41, .inl (fun _ => 0))), (q57, .inr (2, [.ref b57])), (b57, .inl (cA, 41, .inl (fun _ => 0))), (q70, .inr (2, [.ref b70])), (b70, .inl (cA, 41, .inl (fun _ => 0))), (q83, .inr (2, [.ref b83])), (b83, .inl (cA, 41, .inl (fun _ => 0))), (q96, .inr (2, [.ref b96])), (b96, .inl (cA, 41, .inl (fun _ => 0))), (q109, .inr (2, [.ref b109])), (b109, .inl (cA, 41, .inl (fun _ => 0))), (q122, .inr (2, [.ref b122])), (b122, .inl (cA, 540, .inl (fun _ => 0)))] : va_W)) (wB := fun (b136 : Nat) => (wR cA q136 b136 41 (fun _ => 0))) (As := [.int 41]) (rest := [.ref q136, .ref h]) (wc := ([(q136, .inr (2, [.null]))] : va_W)) ⟨hx, hb, hml, hown, hts⟩ (K_X2_init41 lch D cA q136 H.size ) (cwI 1 hts gX1_init_X2_init rfl rfl rfl kw5 kw8 kw7 rfl (by decide +kernel) ⟨Nat.le_of_ble_eq_true rfl, Nat.le_of_ble_eq_true rfl⟩) hE hP hD hS hA [21] [0, 1, 2, 3, 4, 5, 6, 7, 8, 9, 10, 11, 12, 13, 14, 15, 16, 17, 18, 19, 20] rfl rfl rfl rfl (by decide) X0.blind (fun _ _ _ => trivial) hl.1 rfl rfl (Nat.le_of_ble_eq_true rfl) dX1_init_142 ⟨Nat.le_of_ble_eq_true rfl, Nat.le_of_ble_eq_true rfl⟩ (fun b136 H locs h_11 hP hD hS => ?_)
    refine W.widen (k := 22) (n := 961) (by omega) (by omega) ?_
    have hP : va_P D vwCl ([(h, .inr (1, [.ref q5, .ref q18, .ref q31, .ref q44, .ref q57, .ref q70, .ref q83, .ref q96, .ref q109, .ref q122, .null, .int 0, .int 0])), (q5, .inr (2, [.ref b5])), (b5, .inl (cA, 41, .inl (fun _ => 0))), (q18, .inr (2, [.ref b18])), (b18, .inl (cA, 41, .inl (fun _ => 0))), (q31, .inr (2, [.ref b31])), (b31, .inl (cA, 41, .inl (fun _ => 0))), (q44, .inr (2, [.ref b44])), (b44, .inl (cA, 41, .inl (fun _ => 0))), (q57, .inr (2, [.ref b57])), (b57, .inl (cA, 41, .inl (fun _ => 0))), (q70, .inr (2, [.ref b70])), (b70, .inl (cA, 41, .inl (fun _ => 0))), (q83, .inr (2, [.ref b83])), (b83, .inl (cA, 41, .inl (fun _ => 0))), (q96, .inr (2, [.ref b96])), (b96, .inl (cA, 41, .inl (fun _ => 0))), (q109, .inr (2, [.ref b109])), (b109, .inl (cA, 41, .inl (fun _ => 0))), (q122, .inr (2, [.ref b122])), (b122, .inl (cA, 540, .inl (fun _ => 0))), (q136, .inr (2, [.ref b136])), (b136, .inl (cA, 41, .inl (fun _ => 0)))] : va_W) H := hP
    have hD : va_D A ([(h, .inr (1, [.ref q5, .ref q18, .ref q31, .ref q44, .ref q57, .ref q70, .ref q83, .ref q96, .ref q109, .ref q122, .null, .int 0, .int 0])), (q5, .inr (2, [.ref b5])), (b5, .inl (cA, 41, .inl (fun _ => 0))), (q18, .inr (2, [.ref b18])), (b18, .inl (cA, 41, .inl (fun _ => 0))), (q31, .inr (2, [.ref b31])), (b31, .inl (cA, 41, .inl (fun _ => 0))), (q44, .inr (2, [.ref b44])), (b44, .inl (cA, 41, .inl (fun _ => 0))), (q57, .inr (2, [.ref b57])), (b57, .inl (cA, 41, .inl (fun _ => 0))), (q70, .inr (2, [.ref b70])), (b70, .inl (cA, 41, .inl (fun _ => 0))), (q83, .inr (2, [.ref b83])), (b83, .inl (cA, 41, .inl (fun _ => 0))), (q96, .inr (2, [.ref b96])), (b96, .inl (cA, 41, .inl (fun _ => 0))), (q109, .inr (2, [.ref b109])), (b109, .inl (cA, 41, .inl (fun _ => 0))), (q122, .inr (2, [.ref b122])), (b122, .inl (cA, 540, .inl (fun _ => 0))), (q136, .inr (2, [.ref b136])), (b136, .inl (cA, 41, .inl (fun _ => 0)))] : va_W) := hD
    refine va_putF (D := D) (ci := 1) (v := .ref q136) (ty := .object "LanternWeirs$Row") (C := RX1) (T := TX1) (N := 13) hx hb hts inX1 tyX1 tyX1_ok nmX1 hown hE.1 hP hD hS 0 rfl rfl 10 (by decide) kf47 (fun _ h9 => h9) rfl hin rfl (by decide +kernel) rfl rfl (Nat.le_of_ble_eq_true rfl) dX1_init_145 (fun H locs hP hD hS => ?_)
    have hP : va_P D vwCl ([(h, .inr (1, [.ref q5, .ref q18, .ref q31, .ref q44, .ref q57, .ref q70, .ref q83, .ref q96, .ref q109, .ref q122, .ref q136, .int 0, .int 0])), (q5, .inr (2, [.ref b5])), (b5, .inl (cA, 41, .inl (fun _ => 0))), (q18, .inr (2, [.ref b18])), (b18, .inl (cA, 41, .inl (fun _ => 0))), (q31, .inr (2, [.ref b31])), (b31, .inl (cA, 41, .inl (fun _ => 0))), (q44, .inr (2, [.ref b44])), (b44, .inl (cA, 41, .inl (fun _ => 0))), (q57, .inr (2, [.ref b57])), (b57, .inl (cA, 41, .inl (fun _ => 0))), (q70, .inr (2, [.ref b70])), (b70, .inl (cA, 41, .inl (fun _ => 0))), (q83, .inr (2, [.ref b83])), (b83, .inl (cA, 41, .inl (fun _ => 0))), (q96, .inr (2, [.ref b96])), (b96, .inl (cA, 41, .inl (fun _ => 0))), (q109, .inr (2, [.ref b109])), (b109, .inl (cA, 41, .inl (fun _ => 0))), (q122, .inr (2, [.ref b122])), (b122, .inl (cA, 540, .inl (fun _ => 0))), (q136, .inr (2, [.ref b136])), (b136, .inl (cA, 41, .inl (fun _ => 0)))] : va_W) H := hP
    have hD : va_D A ([(h, .inr (1, [.ref q5, .ref q18, .ref q31, .ref q44, .ref q57, .ref q70, .ref q83, .ref q96, .ref q109, .ref q122, .ref q136, .int 0, .int 0])), (q5, .inr (2, [.ref b5])), (b5, .inl (cA, 41, .inl (fun _ => 0))), (q18, .inr (2, [.ref b18])), (b18, .inl (cA, 41, .inl (fun _ => 0))), (q31, .inr (2, [.ref b31])), (b31, .inl (cA, 41, .inl (fun _ => 0))), (q44, .inr (2, [.ref b44])), (b44, .inl (cA, 41, .inl (fun _ => 0))), (q57, .inr (2, [.ref b57])), (b57, .inl (cA, 41, .inl (fun _ => 0))), (q70, .inr (2, [.ref b70])), (b70, .inl (cA, 41, .inl (fun _ => 0))), (q83, .inr (2, [.ref b83])), (b83, .inl (cA, 41, .inl (fun _ => 0))), (q96, .inr (2, [.ref b96])), (b96, .inl (cA, 41, .inl (fun _ => 0))), (q109, .inr (2, [.ref b109])), (b109, .inl (cA, 41, .inl (fun _ => 0))), (q122, .inr (2, [.ref b122])), (b122, .inl (cA, 540, .inl (fun _ => 0))), (q136, .inr (2, [.ref b136])), (b136, .inl (cA, 41, .inl (fun _ => 0)))] : va_W) := hD
    have hP : va_P D vwCl (wF cA (fun k : Nat => List.getD [h, q5, q18, q31, q44, q57, q70, q83, q96, q109, q122, q136, b5, b18, b31, b44, b57, b70, b83, b96, b109, b122, b136] k 0) zF (fun _ => 0) (fun _ => 0)) H := hP.sub [0, 1, 3, 5, 7, 9, 11, 13, 15, 17, 19, 21, 2, 4, 6, 8, 10, 12, 14, 16, 18, 20, 22] rfl
    have hD : va_D A (wF cA (fun k : Nat => List.getD [h, q5, q18, q31, q44, q57, q70, q83, q96, q109, q122, q136, b5, b18, b31, b44, b57, b70, b83, b96, b109, b122, b136] k 0) zF (fun _ => 0) (fun _ => 0)) := hD.sub [0, 1, 3, 5, 7, 9, 11, 13, 15, 17, 19, 21, 2, 4, 6, 8, 10, 12, 14, 16, 18, 20, 22] rfl rfl
    rw [hQQ]
    exact W.vret hx hb hr (fun t ht hW => ⟨⟨(fun k : Nat => List.getD [h, q5, q18, q31, q44, q57, q70, q83, q96, q109, q122, q136, b5, b18, b31, b44, b57, b70, b83, b96, b109, b122, b136] k 0), rfl, rfl, ⟨by rw [ht]; exact hP, hD⟩⟩, hS.F ht⟩) hS.2.2 dX1_init_148
  rw [hg1, hg2] at hgoal
  exact hgoal

set_option maxHeartbeats 4000000 in
set_option maxRecDepth 100000 in
/-- Bed() -/
theorem K_X0_init (lch : Launch) (D : va_G) (cA : ClassId) (h : Nat) (sz : Nat)  : Met lch yX0_init wsX0_init ({ frames := 2, cells := 6, slots := 246, locals := 33 }) (Pr D cA [.ref h] sz ([(h, .inr (0, [.null, .null, .null, .int 0, .int 0]))] : va_W) X0) (va_Qv (fun (u : Nat → Nat) => u 0 = h) (fun (u : Nat → Nat) t => va_P D vwCl (wB cA u zB) t.heap ∧ va_D (va_A ([(h, .inr (0, [.null, .null, .null, .int 0, .int 0]))] : va_W) sz) (wB cA u zB)) (va_A ([(h, .inr (0, [.null, .null, .null, .int 0, .int 0]))] : va_W) sz)) 6 246 (va_A ([(h, .inr (0, [.null, .null, .null, .int 0, .int 0]))] : va_W) sz) := by
  refine Met.ofW (cc := cX0_init) (maxL := 1) (ret := none) (by decide) rfl ?_
  intro pg ev s mi args below meth cd s₁ B hml hv
  obtain ⟨hav, hsz, hP, hE, hD, hXs⟩ := hv
  have hx := B.exec
  have hb := B.bytes
  have hr := B.returns
  have hts := atoms_spec (ws := wsX0_init) B.pre
  have hown : s.vm.findClass RX0 = some mi.cls := findClass_of_methodNamed B.named
  have hlocks := B.notSynchronized
  have hin : meth.name = "<init>" := (name_of_methodNamed B.named B.method).1
  clear B
  subst hav
  subst hsz
  have hD := hD.self (sz := s.heap.size)
  generalize hAe : va_A ([(h, .inr (0, [.null, .null, .null, .int 0, .int 0]))] : va_W) s.heap.size = A at hD ⊢
  have hA : ∀ q : Nat, s.heap.size ≤ q → A q := fun q h => by rw [← hAe]; exact Or.inr h
  have hS : va_S A s.heap s.heap [] := va_S.rf
  obtain ⟨QQ, hQQ⟩ : ∃ qq9, qq9 = MQ below (va_Qv (fun (u : Nat → Nat) => u 0 = h) (fun (u : Nat → Nat) t => va_P D vwCl (wB cA u zB) t.heap ∧ va_D A (wB cA u zB)) A) ([.ref h] : List Value).toArray s 6 246 A := ⟨_, rfl⟩
  rw [← hQQ]
  have hl := lv_entry ([.ref h]) (n := 1) (Nat.le_of_ble_eq_true rfl)
  rw [lg_entry_eq]
  generalize (lg_sl ([.ref h]) ++ List.replicate (1 - (lg_sl ([.ref h])).length) Slot.unset).toArray = ls at hl ⊢
  have hl : lv_has ls 1 [(0, .ref h)] := hl
  have kw0 := hts (.methodLink RX0 3 objectInit) (by decide +kernel)
  have kw1 := hts (.instanceMethod objectInit) (by decide +kernel)
  have kw2 := hts (.code objectInit ⟨#[0xb1]⟩ 1 none) (by decide +kernel)
  have kw3 := hts (.classLink RX0 9 RX2) (by decide +kernel)
  have kw4 := hts (.instantiable RX2 1) (by decide +kernel)
  have kw5 := hts (.initialized RX2) (by decide +kernel)
  have inX2 : ∀ w ∈ u_ws RX2 TX2 1, w ∈ wsX0_init := by decide +kernel
  have kw7 := hts (.instanceMethod yX2_init) (by decide +kernel)
  have kw8 := hts (.methodLink RX0 11 yX2_init) (by decide +kernel)
  have kf14 := hts (.fieldLink RX0 14 "LanternWeirs$Bed" "currents" "LLanternWeirs$Row;") (by decide +kernel)
  have inX0 : ∀ w ∈ u_ws RX0 TX0 5, w ∈ wsX0_init := by decide +kernel
  have kf20 := hts (.fieldLink RX0 20 "LanternWeirs$Bed" "sprays" "LLanternWeirs$Row;") (by decide +kernel)
  have kf23 := hts (.fieldLink RX0 23 "LanternWeirs$Bed" "nets" "LLanternWeirs$Row;") (by decide +kernel)
  obtain ⟨H, locs, hP, hS, hgo⟩ : ∃ H locs, va_P D vwCl ([(h, .inr (0, [.null, .null, .null, .int 0, .int 0]))] : va_W) H ∧ va_S A s.heap H locs ∧ (H = s.heap ∧ locs = []) := ⟨_, _, hP, hS, rfl, rfl⟩
  obtain ⟨hg1, hg2⟩ := hgo
  have hgoal : W pg lch ev (headSpec wsX0_init ({ frames := 2, cells := 6, slots := 246, locals := 33 })).room s mi ([.ref h] : List Value).toArray below meth cd H locs 0 0 QQ (F0 mi 0 ls []) := by
    refine lv_aload_n hx hb dX0_init_0 rfl (lv_at hl 0 rfl) ?_
    refine W.objInit hx hb hown kw0 kw1 kw2 rfl (by rw [hml]; exact hl.1) rfl dX0_init_1 (Nat.le_of_ble_eq_true rfl) (Nat.le_of_ble_eq_true rfl) ?_
    refine W.eq (g2 := F0 mi 4 ls []) rfl ?_
    refine lv_aload_n hx hb dX0_init_4 rfl (lv_at hl 0 rfl) ?_
    refine va_new (ci := 2) (fs := [.null]) (C := RX2) (T := TX2) (N := 1) hx hb hts inX2 tyX2 tyX2_ok hown kw3 kw4 kw5 hE.1 hP hD hS hA rfl (fun j hj => by rcases (show j = 0 by omega) with rfl <;> rfl) (Nat.le_of_ble_eq_true rfl) (Nat.le_of_ble_eq_true rfl) dX0_init_5 (fun q5 H hP hD hS => ?_)
    refine W.widen (k := 1) (n := 1) (by omega) (by omega) ?_
    have hP : va_P D vwCl ([(h, .inr (0, [.null, .null, .null, .int 0, .int 0])), (q5, .inr (2, [.null]))] : va_W) H := hP
    have hD : va_D A ([(h, .inr (0, [.null, .null, .null, .int 0, .int 0])), (q5, .inr (2, [.null]))] : va_W) := hD
    refine lv_dup hx hb dX0_init_8 rfl ?_
    refine lv_iconst (v := 3) hx hb dX0_init_9 (by decide) ?_
    refine cI (wr := ([(h, .inr (0, [.null, .null, .null, .int 0, .int 0]))] : va_W)) (wB := fun (b5 : Nat) => (wR cA q5 b5 3 (fun _ => 0))) (As := [.int 3]) (rest := [.ref q5, .ref h]) (wc := ([(q5, .inr (2, [.null]))] : va_W)) ⟨hx, hb, hml, hown, hts⟩ (K_X2_init3 lch D cA q5 H.size ) (cwI 1 hts gX0_init_X2_init rfl rfl rfl kw5 kw8 kw7 rfl (by decide +kernel) ⟨Nat.le_of_ble_eq_true rfl, Nat.le_of_ble_eq_true rfl⟩) hE hP hD hS hA [1] [0] rfl rfl rfl rfl (by decide) X0.blind (fun _ _ _ => trivial) hl.1 rfl rfl (Nat.le_of_ble_eq_true rfl) dX0_init_10 ⟨Nat.le_of_ble_eq_true rfl, Nat.le_of_ble_eq_true rfl⟩ (fun b5 H locs h_1 hP hD hS => ?_)
    refine W.widen (k := 2) (n := 4) (by omega) (by omega) ?_
    have hP : va_P D vwCl ([(h, .inr (0, [.null, .null, .null, .int 0, .int 0])), (q5, .inr (2, [.ref b5])), (b5, .inl (cA, 3, .inl (fun _ => 0)))] : va_W) H := hP
    have hD : va_D A ([(h, .inr (0, [.null, .null, .null, .int 0, .int 0])), (q5, .inr (2, [.ref b5])), (b5, .inl (cA, 3, .inl (fun _ => 0)))] : va_W) := hD
    refine va_putF (D := D) (ci := 0) (v := .ref q5) (ty := .object "LanternWeirs$Row") (C := RX0) (T := TX0) (N := 5) hx hb hts inX0 tyX0 tyX0_ok nmX0 hown hE.1 hP hD hS 0 rfl rfl 0 (by decide) kf14 (fun _ h9 => h9) rfl hin rfl (by decide +kernel) rfl rfl (Nat.le_of_ble_eq_true rfl) dX0_init_13 (fun H locs hP hD hS => ?_)
    have hP : va_P D vwCl ([(h, .inr (0, [.ref q5, .null, .null, .int 0, .int 0])), (q5, .inr (2, [.ref b5])), (b5, .inl (cA, 3, .inl (fun _ => 0)))] : va_W) H := hP
    have hD : va_D A ([(h, .inr (0, [.ref q5, .null, .null, .int 0, .int 0])), (q5, .inr (2, [.ref b5])), (b5, .inl (cA, 3, .inl (fun _ => 0)))] : va_W) := hD
    refine lv_aload_n hx hb dX0_init_16 rfl (lv_at hl 0 rfl) ?_
    refine va_new (ci := 2) (fs := [.null]) (C := RX2) (T := TX2) (N := 1) hx hb hts inX2 tyX2 tyX2_ok hown kw3 kw4 kw5 hE.1 hP hD hS hA rfl (fun j hj => by rcases (show j = 0 by omega) with rfl <;> rfl) (Nat.le_of_ble_eq_true rfl) (Nat.le_of_ble_eq_true rfl) dX0_init_17 (fun q17 H hP hD hS => ?_)
    refine W.widen (k := 3) (n := 5) (by omega) (by omega) ?_
    have hP : va_P D vwCl ([(h, .inr (0, [.ref q5, .null, .null, .int 0, .int 0])), (q5, .inr (2, [.ref b5])), (b5, .inl (cA, 3, .inl (fun _ => 0))), (q17, .inr (2, [.null]))] : va_W) H := hP
    have hD : va_D A ([(h, .inr (0, [.ref q5, .null, .null, .int 0, .int 0])), (q5, .inr (2, [.ref b5])), (b5, .inl (cA, 3, .inl (fun _ => 0))), (q17, .inr (2, [.null]))] : va_W) := hD
    refine lv_dup hx hb dX0_init_20 rfl ?_
    refine lv_bipush (v := 60) hx hb dX0_init_21 (by decide) ?_
    refine cI (wr := ([(h, .inr (0, [.ref q5, .null, .null, .int 0, .int 0])), (q5, .inr (2, [.ref b5])), (b5, .inl (cA, 3, .inl (fun _ => 0)))] : va_W)) (wB := fun (b17 : Nat) => (wR cA q17 b17 60 (fun _ => 0))) (As := [.int 60]) (rest := [.ref q17, .ref h]) (wc := ([(q17, .inr (2, [.null]))] : va_W)) ⟨hx, hb, hml, hown, hts⟩ (K_X2_init60 lch D cA q17 H.size ) (cwI 1 hts gX0_init_X2_init rfl rfl rfl kw5 kw8 kw7 rfl (by decide +kernel) ⟨Nat.le_of_ble_eq_true rfl, Nat.le_of_ble_eq_true rfl⟩) hE hP hD hS hA [3] [0, 1, 2] rfl rfl rfl rfl (by decide) X0.blind (fun _ _ _ => trivial) hl.1 rfl rfl (Nat.le_of_ble_eq_true rfl) dX0_init_23 ⟨Nat.le_of_ble_eq_true rfl, Nat.le_of_ble_eq_true rfl⟩ (fun b17 H locs h_2 hP hD hS => ?_)
    refine W.widen (k := 4) (n := 65) (by omega) (by omega) ?_
    have hP : va_P D vwCl ([(h, .inr (0, [.ref q5, .null, .null, .int 0, .int 0])), (q5, .inr (2, [.ref b5])), (b5, .inl (cA, 3, .inl (fun _ => 0))), (q17, .inr (2, [.ref b17])), (b17, .inl (cA, 60, .inl (fun _ => 0)))] : va_W) H := hP
    have hD : va_D A ([(h, .inr (0, [.ref q5, .null, .null, .int 0, .int 0])), (q5, .inr (2, [.ref b5])), (b5, .inl (cA, 3, .inl (fun _ => 0))), (q17, .inr (2, [.ref b17])), (b17, .inl (cA, 60, .inl (fun _ => 0)))] : va_W) := hD
    refine va_putF (D := D) (ci := 0) (v := .ref q17) (ty := .object "LanternWeirs$Row") (C := RX0) (T := TX0) (N := 5) hx hb hts inX0 tyX0 tyX0_ok nmX0 hown hE.1 hP hD hS 0 rfl rfl 1 (by decide) kf20 (fun _ h9 => h9) rfl hin rfl (by decide +kernel) rfl rfl (Nat.le_of_ble_eq_true rfl) dX0_init_26 (fun H locs hP hD hS => ?_)
    have hP : va_P D vwCl ([(h, .inr (0, [.ref q5, .ref q17, .null, .int 0, .int 0])), (q5, .inr (2, [.ref b5])), (b5, .inl (cA, 3, .inl (fun _ => 0))), (q17, .inr (2, [.ref b17])), (b17, .inl (cA, 60, .inl (fun _ => 0)))] : va_W) H := hP
    have hD : va_D A ([(h, .inr (0, [.ref q5, .ref q17, .null, .int 0, .int 0])), (q5, .inr (2, [.ref b5])), (b5, .inl (cA, 3, .inl (fun _ => 0))), (q17, .inr (2, [.ref b17])), (b17, .inl (cA, 60, .inl (fun _ => 0)))] : va_W) := hD
    refine lv_aload_n hx hb dX0_init_29 rfl (lv_at hl 0 rfl) ?_
    refine va_new (ci := 2) (fs := [.null]) (C := RX2) (T := TX2) (N := 1) hx hb hts inX2 tyX2 tyX2_ok hown kw3 kw4 kw5 hE.1 hP hD hS hA rfl (fun j hj => by rcases (show j = 0 by omega) with rfl <;> rfl) (Nat.le_of_ble_eq_true rfl) (Nat.le_of_ble_eq_true rfl) dX0_init_30 (fun q30 H hP hD hS => ?_)
    refine W.widen (k := 5) (n := 66) (by omega) (by omega) ?_
    have hP : va_P D vwCl ([(h, .inr (0, [.ref q5, .ref q17, .null, .int 0, .int 0])), (q5, .inr (2, [.ref b5])), (b5, .inl (cA, 3, .inl (fun _ => 0))), (q17, .inr (2, [.ref b17])), (b17, .inl (cA, 60, .inl (fun _ => 0))), (q30, .inr (2, [.null]))] : va_W) H := hP
    have hD : va_D A ([(h, .inr (0, [.ref q5, .ref q17, .null, .int 0, .int 0])), (q5, .inr (2, [.ref b5])), (b5, .inl (cA, 3, .inl (fun _ => 0))), (q17, .inr (2, [.ref b17])), (b17, .inl (cA, 60, .inl (fun _ => 0))), (q30, .inr (2, [.null]))] : va_W) := hD
    refine lv_dup hx hb dX0_init_33 rfl ?_
    refine lv_sipush (v := 180) hx hb dX0_init_34 (by decide) ?_
    refine cI (wr := ([(h, .inr (0, [.ref q5, .ref q17, .null, .int 0, .int 0])), (q5, .inr (2, [.ref b5])), (b5, .inl (cA, 3, .inl (fun _ => 0))), (q17, .inr (2, [.ref b17])), (b17, .inl (cA, 60, .inl (fun _ => 0)))] : va_W)) (wB := fun (b30 : Nat) => (wR cA q30 b30 180 (fun _ => 0))) (As := [.int 180]) (rest := [.ref q30, .ref h]) (wc := ([(q30, .inr (2, [.null]))] : va_W)) ⟨hx, hb, hml, hown, hts⟩ (K_X2_init180 lch D cA q30 H.size ) (cwI 1 hts gX0_init_X2_init rfl rfl rfl kw5 kw8 kw7 rfl (by decide +kernel) ⟨Nat.le_of_ble_eq_true rfl, Nat.le_of_ble_eq_true rfl⟩) hE hP hD hS hA [5] [0, 1, 2, 3, 4] rfl rfl rfl rfl (by decide) X0.blind (fun _ _ _ => trivial) hl.1 rfl rfl (Nat.le_of_ble_eq_true rfl) dX0_init_37 ⟨Nat.le_of_ble_eq_true rfl, Nat.le_of_ble_eq_true rfl⟩ (fun b30 H locs h_3 hP hD hS => ?_)
    refine W.widen (k := 6) (n := 246) (by omega) (by omega) ?_
    have hP : va_P D vwCl ([(h, .inr (0, [.ref q5, .ref q17, .null, .int 0, .int 0])), (q5, .inr (2, [.ref b5])), (b5, .inl (cA, 3, .inl (fun _ => 0))), (q17, .inr (2, [.ref b17])), (b17, .inl (cA, 60, .inl (fun _ => 0))), (q30, .inr (2, [.ref b30])), (b30, .inl (cA, 180, .inl (fun _ => 0)))] : va_W) H := hP
    have hD : va_D A ([(h, .inr (0, [.ref q5, .ref q17, .null, .int 0, .int 0])), (q5, .inr (2, [.ref b5])), (b5, .inl (cA, 3, .inl (fun _ => 0))), (q17, .inr (2, [.ref b17])), (b17, .inl (cA, 60, .inl (fun _ => 0))), (q30, .inr (2, [.ref b30])), (b30, .inl (cA, 180, .inl (fun _ => 0)))] : va_W) := hD
    refine va_putF (D := D) (ci := 0) (v := .ref q30) (ty := .object "LanternWeirs$Row") (C := RX0) (T := TX0) (N := 5) hx hb hts inX0 tyX0 tyX0_ok nmX0 hown hE.1 hP hD hS 0 rfl rfl 2 (by decide) kf23 (fun _ h9 => h9) rfl hin rfl (by decide +kernel) rfl rfl (Nat.le_of_ble_eq_true rfl) dX0_init_40 (fun H locs hP hD hS => ?_)
    have hP : va_P D vwCl ([(h, .inr (0, [.ref q5, .ref q17, .ref q30, .int 0, .int 0])), (q5, .inr (2, [.ref b5])), (b5, .inl (cA, 3, .inl (fun _ => 0))), (q17, .inr (2, [.ref b17])), (b17, .inl (cA, 60, .inl (fun _ => 0))), (q30, .inr (2, [.ref b30])), (b30, .inl (cA, 180, .inl (fun _ => 0)))] : va_W) H := hP
    have hD : va_D A ([(h, .inr (0, [.ref q5, .ref q17, .ref q30, .int 0, .int 0])), (q5, .inr (2, [.ref b5])), (b5, .inl (cA, 3, .inl (fun _ => 0))), (q17, .inr (2, [.ref b17])), (b17, .inl (cA, 60, .inl (fun _ => 0))), (q30, .inr (2, [.ref b30])), (b30, .inl (cA, 180, .inl (fun _ => 0)))] : va_W) := hD
    refine lv_aload_n hx hb dX0_init_43 rfl (lv_at hl 0 rfl) ?_
    refine va_get (D := D) (ci := 0) (v := .ref q5) (C := RX0) (T := TX0) (N := 5) hx hb hts inX0 hown hE.1 hP 0 rfl rfl 0 (by decide) kf14 (fun _ h9 => h9) rfl dX0_init_44 ?_
    refine lv_iconst (v := 0) hx hb dX0_init_47 (by decide) ?_
    refine lv_iconst (v := 2) hx hb dX0_init_48 (by decide) ?_
    refine cVv (wB := fun (u_5 : Unit) => (wR cA q5 b5 3 (upd (fun _ => 0) 0 2))) (As := [.int 0, .int 2]) (rest := []) (wc := (wR cA q5 b5 3 (fun _ => 0))) ⟨hx, hb, hml, hown, hts⟩ (K_X2_putk lch D cA q5 b5 3 (fun _ => 0) 0 2 (upd (fun _ => 0) 0 2) H.size (by decide) (Nat.le_of_ble_eq_true rfl) (fun j _ => rfl)) (cwV 2 hts gX0_init_X2_put rfl rfl rfl (by decide +kernel) ⟨Nat.le_of_ble_eq_true rfl, Nat.le_of_ble_eq_true rfl⟩) hE hP hD hS hA [1, 2] rfl rfl [q5, b5] (fun _ => rfl) rfl (fun (u_5 : Unit) => ([(h, .inr (0, [.ref q5, .ref q17, .ref q30, .int 0, .int 0])), (q5, .inr (2, [.ref b5])), (b5, .inl (cA, 3, .inl (upd (fun _ => 0) 0 2))), (q17, .inr (2, [.ref b17])), (b17, .inl (cA, 60, .inl (fun _ => 0))), (q30, .inr (2, [.ref b30])), (b30, .inl (cA, 180, .inl (fun _ => 0)))] : va_W)) (fun _ => rfl) X0.blind (fun _ _ _ => trivial) 1 2 rfl rfl rfl hl.1 rfl rfl (Nat.le_of_ble_eq_true rfl) dX0_init_49 ⟨Nat.le_of_ble_eq_true rfl, Nat.le_of_ble_eq_true rfl⟩ (fun u_5 H locs h_6 hP hD hS => ?_)
    refine lv_aload_n hx hb dX0_init_52 rfl (lv_at hl 0 rfl) ?_
    refine va_get (D := D) (ci := 0) (v := .ref q5) (C := RX0) (T := TX0) (N := 5) hx hb hts inX0 hown hE.1 hP 0 rfl rfl 0 (by decide) kf14 (fun _ h9 => h9) rfl dX0_init_53 ?_
    refine lv_iconst (v := 1) hx hb dX0_init_56 (by decide) ?_
    refine lv_iconst (v := 3) hx hb dX0_init_57 (by decide) ?_
    refine cVv (wB := fun (u_8 : Unit) => (wR cA q5 b5 3 (upd (upd (fun _ => 0) 0 2) 1 3))) (As := [.int 1, .int 3]) (rest := []) (wc := (wR cA q5 b5 3 (upd (fun _ => 0) 0 2))) ⟨hx, hb, hml, hown, hts⟩ (K_X2_putk lch D cA q5 b5 3 (upd (fun _ => 0) 0 2) 1 3 (upd (upd (fun _ => 0) 0 2) 1 3) H.size (by decide) (Nat.le_of_ble_eq_true rfl) (fun j _ => rfl)) (cwV 2 hts gX0_init_X2_put rfl rfl rfl (by decide +kernel) ⟨Nat.le_of_ble_eq_true rfl, Nat.le_of_ble_eq_true rfl⟩) hE hP hD hS hA [1, 2] rfl rfl [q5, b5] (fun _ => rfl) rfl (fun (u_8 : Unit) => ([(h, .inr (0, [.ref q5, .ref q17, .ref q30, .int 0, .int 0])), (q5, .inr (2, [.ref b5])), (b5, .inl (cA, 3, .inl (upd (upd (fun _ => 0) 0 2) 1 3))), (q17, .inr (2, [.ref b17])), (b17, .inl (cA, 60, .inl (fun _ => 0))), (q30, .inr (2, [.ref b30])), (b30, .inl (cA, 180, .inl (fun _ => 0)))] : va_W)) (fun _ => rfl) X0.blind (fun _ _ _ => trivial) 1 2 rfl rfl rfl hl.1 rfl rfl (Nat.le_of_ble_eq_true rfl) dX0_init_58 ⟨Nat.le_of_ble_eq_true rfl, Nat.le_of_ble_eq_true rfl⟩ (fun u_8 H locs h_9 hP hD hS => ?_)
    refine lv_aload_n hx hb dX0_init_61 rfl (lv_at hl 0 rfl) ?_
    refine va_get (D := D) (ci := 0) (v := .ref q5) (C := RX0) (T := TX0) (N := 5) hx hb hts inX0 hown hE.1 hP 0 rfl rfl 0 (by decide) kf14 (fun _ h9 => h9) rfl dX0_init_62 ?_
    refine lv_iconst (v := 2) hx hb dX0_init_65 (by decide) ?_
    refine lv_iconst (v := 2) hx hb dX0_init_66 (by decide) ?_
    refine cVv (wB := fun (u_11 : Unit) => (wR cA q5 b5 3 (upd (upd (upd (fun _ => 0) 0 2) 1 3) 2 2))) (As := [.int 2, .int 2]) (rest := []) (wc := (wR cA q5 b5 3 (upd (upd (fun _ => 0) 0 2) 1 3))) ⟨hx, hb, hml, hown, hts⟩ (K_X2_putk lch D cA q5 b5 3 (upd (upd (fun _ => 0) 0 2) 1 3) 2 2 (upd (upd (upd (fun _ => 0) 0 2) 1 3) 2 2) H.size (by decide) (Nat.le_of_ble_eq_true rfl) (fun j _ => rfl)) (cwV 2 hts gX0_init_X2_put rfl rfl rfl (by decide +kernel) ⟨Nat.le_of_ble_eq_true rfl, Nat.le_of_ble_eq_true rfl⟩) hE hP hD hS hA [1, 2] rfl rfl [q5, b5] (fun _ => rfl) rfl (fun (u_11 : Unit) => ([(h, .inr (0, [.ref q5, .ref q17, .ref q30, .int 0, .int 0])), (q5, .inr (2, [.ref b5])), (b5, .inl (cA, 3, .inl (upd (upd (upd (fun _ => 0) 0 2) 1 3) 2 2))), (q17, .inr (2, [.ref b17])), (b17, .inl (cA, 60, .inl (fun _ => 0))), (q30, .inr (2, [.ref b30])), (b30, .inl (cA, 180, .inl (fun _ => 0)))] : va_W)) (fun _ => rfl) X0.blind (fun _ _ _ => trivial) 1 2 rfl rfl rfl hl.1 rfl rfl (Nat.le_of_ble_eq_true rfl) dX0_init_67 ⟨Nat.le_of_ble_eq_true rfl, Nat.le_of_ble_eq_true rfl⟩ (fun u_11 H locs h_12 hP hD hS => ?_)
    have hP : va_P D vwCl ([(h, .inr (0, [.ref q5, .ref q17, .ref q30, .int 0, .int 0])), (q5, .inr (2, [.ref b5])), (b5, .inl (cA, 3, .inl (fun z9 => nI (bCu zB z9)))), (q17, .inr (2, [.ref b17])), (b17, .inl (cA, 60, .inl (fun _ => 0))), (q30, .inr (2, [.ref b30])), (b30, .inl (cA, 180, .inl (fun _ => 0)))] : va_W) H := hP.arr 2 (fun z9 => nI (bCu zB z9)) rfl zB_cu
    have hD : va_D A ([(h, .inr (0, [.ref q5, .ref q17, .ref q30, .int 0, .int 0])), (q5, .inr (2, [.ref b5])), (b5, .inl (cA, 3, .inl (fun z9 => nI (bCu zB z9)))), (q17, .inr (2, [.ref b17])), (b17, .inl (cA, 60, .inl (fun _ => 0))), (q30, .inr (2, [.ref b30])), (b30, .inl (cA, 180, .inl (fun _ => 0)))] : va_W) := hD.set (p := 2) rfl
    have hP : va_P D vwCl (wB cA (fun k : Nat => List.getD [h, q5, q17, q30, b5, b17, b30] k 0) zB) H := hP.sub [0, 1, 3, 5, 2, 4, 6] rfl
    have hD : va_D A (wB cA (fun k : Nat => List.getD [h, q5, q17, q30, b5, b17, b30] k 0) zB) := hD.sub [0, 1, 3, 5, 2, 4, 6] rfl rfl
    rw [hQQ]
    exact W.vret hx hb hr (fun t ht hW => ⟨⟨(fun k : Nat => List.getD [h, q5, q17, q30, b5, b17, b30] k 0), rfl, rfl, ⟨by rw [ht]; exact hP, hD⟩⟩, hS.F ht⟩) hS.2.2 dX0_init_70
  rw [hg1, hg2] at hgoal
  exact hgoal
