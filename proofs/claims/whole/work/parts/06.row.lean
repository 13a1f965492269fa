set_option maxHeartbeats 4000000 in
set_option maxRecDepth 100000 in
/-- Row.get at a place of the row -/
theorem K_X2_getk (lch : Launch) (D : va_G) (cA : ClassId) (r : Nat) (b : Nat) (n : Nat) (f : Nat → Int32) (k : Nat) (v : Int32) (sz : Nat) (hk : k < n) (hn : n < 2 ^ 31) (hv : f k = v) : Met lch yX2_get wsX2_get ({ frames := 0, cells := 0, slots := 0, locals := 0 }) (Pr D cA [.ref r, .int (nI k)] sz (wR cA r b n f) X0) (va_Qi (fun (r : Int32) (u : Unit) => r = v) (fun _ _ => True) (fun q : Nat => sz ≤ q)) 0 0 (fun q : Nat => sz ≤ q) := by
  refine Met.ofW (cc := cX2_get) (maxL := 2) (ret := (some .int)) (by decide) rfl ?_
  intro pg ev s mi args below meth cd s₁ B hml hv
  obtain ⟨hav, hsz, hP, hE, hD, hXs⟩ := hv
  have hx := B.exec
  have hb := B.bytes
  have hr := B.returns
  have hts := atoms_spec (ws := wsX2_get) B.pre
  have hown : s.vm.findClass RX2 = some mi.cls := findClass_of_methodNamed B.named
  have hlocks := B.notSynchronized
  clear B
  subst hav
  subst hsz
  have hA : ∀ q : Nat, s.heap.size ≤ q → (fun q : Nat => s.heap.size ≤ q) q := fun _ h => h
  have hS : va_S (fun q : Nat => s.heap.size ≤ q) s.heap s.heap [] := va_S.rf
  obtain ⟨QQ, hQQ⟩ : ∃ qq9, qq9 = MQ below (va_Qi (fun (r : Int32) (u : Unit) => r = v) (fun _ _ => True) (fun q : Nat => s.heap.size ≤ q)) ([.ref r, .int (nI k)] : List Value).toArray s 0 0 (fun q : Nat => s.heap.size ≤ q) := ⟨_, rfl⟩
  rw [← hQQ]
  have hl := lv_entry ([.ref r, .int (nI k)]) (n := 2) (Nat.le_of_ble_eq_true rfl)
  rw [lg_entry_eq]
  generalize (lg_sl ([.ref r, .int (nI k)]) ++ List.replicate (2 - (lg_sl ([.ref r, .int (nI k)])).length) Slot.unset).toArray = ls at hl ⊢
  have hl : lv_has ls 2 [(0, .ref r), (1, .int (nI k))] := hl
  have kf7 := hts (.fieldLink RX2 7 "LanternWeirs$Row" "cells" "[I") (by decide +kernel)
  have inX2 : ∀ w ∈ u_ws RX2 TX2 1, w ∈ wsX2_get := by decide +kernel
  obtain ⟨H, locs, hP, hS, hgo⟩ : ∃ H locs, va_P D vwCl (wR cA r b n f) H ∧ va_S (fun q : Nat => s.heap.size ≤ q) s.heap H locs ∧ (H = s.heap ∧ locs = []) := ⟨_, _, hP, hS, rfl, rfl⟩
  obtain ⟨hg1, hg2⟩ := hgo
  have hgoal : W pg lch ev (headSpec wsX2_get ({ frames := 0, cells := 0, slots := 0, locals := 0 })).room s mi ([.ref r, .int (nI k)] : List Value).toArray below meth cd H locs 0 0 QQ (F0 mi 0 ls []) := by
    refine lv_iload_n hx hb dX2_get_0 rfl (lv_at hl 1 rfl) ?_
    refine lv_if_lt (tgt := 22) hx hb dX2_get_1 (by decide) (fun c1 => ?_) (fun c1 => ?_)
    · skip
      have c1 := (nI_ltI (a := k) (b := 0) (by omega) (by omega)).mp c1
      exfalso; omega
    · skip
      have c1 := (not_congr (nI_ltI (a := k) (b := 0) (by omega) (by omega))).mp c1
      refine lv_iload_n hx hb dX2_get_4 rfl (lv_at hl 1 rfl) ?_
      refine lv_aload_n hx hb dX2_get_5 rfl (lv_at hl 0 rfl) ?_
      refine va_get (D := D) (ci := 2) (v := .ref b) (C := RX2) (T := TX2) (N := 1) hx hb hts inX2 hown hE.1 hP 0 rfl rfl 0 (by decide) kf7 (fun _ h9 => h9) rfl dX2_get_6 ?_
      refine va_alen hx hb hE.1 hP 1 0 rfl rfl (v := nI n) rfl dX2_get_9 ?_
      refine lv_icmp_ge (tgt := 22) hx hb dX2_get_10 (by decide) (fun c10 => ?_) (fun c10 => ?_)
      · skip
        have c10 := (nI_leI (a := n) (b := k) (by omega) (by omega)).mp c10
        exfalso; omega
      · skip
        have c10 := (not_congr (nI_leI (a := n) (b := k) (by omega) (by omega))).mp c10
        refine lv_aload_n hx hb dX2_get_13 rfl (lv_at hl 0 rfl) ?_
        refine va_get (D := D) (ci := 2) (v := .ref b) (C := RX2) (T := TX2) (N := 1) hx hb hts inX2 hown hE.1 hP 0 rfl rfl 0 (by decide) kf7 (fun _ h9 => h9) rfl dX2_get_14 ?_
        refine lv_iload_n hx hb dX2_get_17 rfl (lv_at hl 1 rfl) ?_
        refine ald hx hb hE hP 1 rfl hk hn (v := v) hv dX2_get_18 ?_
        refine lv_goto (tgt := 23) hx hb dX2_get_19 (by decide) ?_
        rw [hQQ]
        exact W.iret (v := v) hx hb hr (fun t ht hW => ⟨⟨v, (), rfl, rfl, trivial⟩, hS.F ht⟩) hS.2.2 dX2_get_23
  rw [hg1, hg2] at hgoal
  exact hgoal

set_option maxHeartbeats 4000000 in
set_option maxRecDepth 100000 in
/-- Row.get -/
theorem K_X2_get (lch : Launch) (D : va_G) (cA : ClassId) (r : Nat) (b : Nat) (n : Nat) (f : Nat → Int32) (x : Int32) (sz : Nat) (hn : n < 2 ^ 31) : Met lch yX2_get wsX2_get ({ frames := 0, cells := 0, slots := 0, locals := 0 }) (Pr D cA [.ref r, .int x] sz (wR cA r b n f) X0) (va_Qi (fun (r : Int32) (u : Unit) => r = rg n f x) (fun _ _ => True) (fun q : Nat => sz ≤ q)) 0 0 (fun q : Nat => sz ≤ q) := by
  refine Met.ofW (cc := cX2_get) (maxL := 2) (ret := (some .int)) (by decide) rfl ?_
  intro pg ev s mi args below meth cd s₁ B hml hv
  obtain ⟨hav, hsz, hP, hE, hD, hXs⟩ := hv
  have hx := B.exec
  have hb := B.bytes
  have hr := B.returns
  have hts := atoms_spec (ws := wsX2_get) B.pre
  have hown : s.vm.findClass RX2 = some mi.cls := findClass_of_methodNamed B.named
  have hlocks := B.notSynchronized
  clear B
  subst hav
  subst hsz
  have hA : ∀ q : Nat, s.heap.size ≤ q → (fun q : Nat => s.heap.size ≤ q) q := fun _ h => h
  have hS : va_S (fun q : Nat => s.heap.size ≤ q) s.heap s.heap [] := va_S.rf
  obtain ⟨QQ, hQQ⟩ : ∃ qq9, qq9 = MQ below (va_Qi (fun (r : Int32) (u : Unit) => r = rg n f x) (fun _ _ => True) (fun q : Nat => s.heap.size ≤ q)) ([.ref r, .int x] : List Value).toArray s 0 0 (fun q : Nat => s.heap.size ≤ q) := ⟨_, rfl⟩
  rw [← hQQ]
  have hl := lv_entry ([.ref r, .int x]) (n := 2) (Nat.le_of_ble_eq_true rfl)
  rw [lg_entry_eq]
  generalize (lg_sl ([.ref r, .int x]) ++ List.replicate (2 - (lg_sl ([.ref r, .int x])).length) Slot.unset).toArray = ls at hl ⊢
  have hl : lv_has ls 2 [(0, .ref r), (1, .int x)] := hl
  have kf7 := hts (.fieldLink RX2 7 "LanternWeirs$Row" "cells" "[I") (by decide +kernel)
  have inX2 : ∀ w ∈ u_ws RX2 TX2 1, w ∈ wsX2_get := by decide +kernel
  obtain ⟨H, locs, hP, hS, hgo⟩ : ∃ H locs, va_P D vwCl (wR cA r b n f) H ∧ va_S (fun q : Nat => s.heap.size ≤ q) s.heap H locs ∧ (H = s.heap ∧ locs = []) := ⟨_, _, hP, hS, rfl, rfl⟩
  obtain ⟨hg1, hg2⟩ := hgo
  have hgoal : W pg lch ev (headSpec wsX2_get ({ frames := 0, cells := 0, slots := 0, locals := 0 })).room s mi ([.ref r, .int x] : List Value).toArray below meth cd H locs 0 0 QQ (F0 mi 0 ls []) := by
    refine lv_iload_n hx hb dX2_get_0 rfl (lv_at hl 1 rfl) ?_
    refine lv_if_lt (tgt := 22) hx hb dX2_get_1 (by decide) (fun c1 => ?_) (fun c1 => ?_)
    · skip
      refine lv_iconst (v := 0) hx hb dX2_get_22 (by decide) ?_
      rw [hQQ]
      exact W.iret (v := 0) hx hb hr (fun t ht hW => ⟨⟨0, (), rfl, (rg_neg c1).symm, trivial⟩, hS.F ht⟩) hS.2.2 dX2_get_23
    · skip
      refine lv_iload_n hx hb dX2_get_4 rfl (lv_at hl 1 rfl) ?_
      refine lv_aload_n hx hb dX2_get_5 rfl (lv_at hl 0 rfl) ?_
      refine va_get (D := D) (ci := 2) (v := .ref b) (C := RX2) (T := TX2) (N := 1) hx hb hts inX2 hown hE.1 hP 0 rfl rfl 0 (by decide) kf7 (fun _ h9 => h9) rfl dX2_get_6 ?_
      refine va_alen hx hb hE.1 hP 1 0 rfl rfl (v := nI n) rfl dX2_get_9 ?_
      refine lv_icmp_ge (tgt := 22) hx hb dX2_get_10 (by decide) (fun c10 => ?_) (fun c10 => ?_)
      · skip
        refine lv_iconst (v := 0) hx hb dX2_get_22 (by decide) ?_
        rw [hQQ]
        exact W.iret (v := 0) hx hb hr (fun t ht hW => ⟨⟨0, (), rfl, (rg_big c10).symm, trivial⟩, hS.F ht⟩) hS.2.2 dX2_get_23
      · skip
        obtain ⟨j, hj, hxj⟩ := ix_of hn c1 c10
        subst hxj
        refine lv_aload_n hx hb dX2_get_13 rfl (lv_at hl 0 rfl) ?_
        refine va_get (D := D) (ci := 2) (v := .ref b) (C := RX2) (T := TX2) (N := 1) hx hb hts inX2 hown hE.1 hP 0 rfl rfl 0 (by decide) kf7 (fun _ h9 => h9) rfl dX2_get_14 ?_
        refine lv_iload_n hx hb dX2_get_17 rfl (lv_at hl 1 rfl) ?_
        refine ald hx hb hE hP 1 rfl hj hn (v := f j) rfl dX2_get_18 ?_
        refine lv_goto (tgt := 23) hx hb dX2_get_19 (by decide) ?_
        rw [hQQ]
        exact W.iret (v := f j) hx hb hr (fun t ht hW => ⟨⟨f j, (), rfl, (rg_nI hj hn).symm, trivial⟩, hS.F ht⟩) hS.2.2 dX2_get_23
  rw [hg1, hg2] at hgoal
  exact hgoal

set_option maxHeartbeats 4000000 in
set_option maxRecDepth 100000 in
/-- Row.put at a place of the row -/
theorem K_X2_putk (lch : Launch) (D : va_G) (cA : ClassId) (r : Nat) (b : Nat) (n : Nat) (f : Nat → Int32) (k : Nat) (v : Int32) (g : Nat → Int32) (sz : Nat) (hk : k < n) (hn : n < 2 ^ 31) (hg : ∀ j, j < n → upd f k v j = g j) : Met lch yX2_put wsX2_put ({ frames := 0, cells := 0, slots := 0, locals := 0 }) (Pr D cA [.ref r, .int (nI k), .int v] sz (wR cA r b n f) X0) (va_Qv (fun (u : Unit) => True) (fun (u : Unit) t => va_P D vwCl (wR cA r b n g) t.heap) (va_A (wR cA r b n f) sz)) 0 0 (va_A (wR cA r b n f) sz) := by
  refine Met.ofW (cc := cX2_put) (maxL := 3) (ret := none) (by decide) rfl ?_
  intro pg ev s mi args below meth cd s₁ B hml hv
  obtain ⟨hav, hsz, hP, hE, hD, hXs⟩ := hv
  have hx := B.exec
  have hb := B.bytes
  have hr := B.returns
  have hts := atoms_spec (ws := wsX2_put) B.pre
  have hown : s.vm.findClass RX2 = some mi.cls := findClass_of_methodNamed B.named
  have hlocks := B.notSynchronized
  clear B
  subst hav
  subst hsz
  have hD := hD.self (sz := s.heap.size)
  generalize hAe : va_A (wR cA r b n f) s.heap.size = A at hD ⊢
  have hA : ∀ q : Nat, s.heap.size ≤ q → A q := fun q h => by rw [← hAe]; exact Or.inr h
  have hS : va_S A s.heap s.heap [] := va_S.rf
  obtain ⟨QQ, hQQ⟩ : ∃ qq9, qq9 = MQ below (va_Qv (fun (u : Unit) => True) (fun (u : Unit) t => va_P D vwCl (wR cA r b n g) t.heap) A) ([.ref r, .int (nI k), .int v] : List Value).toArray s 0 0 A := ⟨_, rfl⟩
  rw [← hQQ]
  have hl := lv_entry ([.ref r, .int (nI k), .int v]) (n := 3) (Nat.le_of_ble_eq_true rfl)
  rw [lg_entry_eq]
  generalize (lg_sl ([.ref r, .int (nI k), .int v]) ++ List.replicate (3 - (lg_sl ([.ref r, .int (nI k), .int v])).length) Slot.unset).toArray = ls at hl ⊢
  have hl : lv_has ls 3 [(0, .ref r), (1, .int (nI k)), (2, .int v)] := hl
  have kf7 := hts (.fieldLink RX2 7 "LanternWeirs$Row" "cells" "[I") (by decide +kernel)
  have inX2 : ∀ w ∈ u_ws RX2 TX2 1, w ∈ wsX2_put := by decide +kernel
  obtain ⟨H, locs, hP, hS, hgo⟩ : ∃ H locs, va_P D vwCl (wR cA r b n f) H ∧ va_S A s.heap H locs ∧ (H = s.heap ∧ locs = []) := ⟨_, _, hP, hS, rfl, rfl⟩
  obtain ⟨hg1, hg2⟩ := hgo
  have hgoal : W pg lch ev (headSpec wsX2_put ({ frames := 0, cells := 0, slots := 0, locals := 0 })).room s mi ([.ref r, .int (nI k), .int v] : List Value).toArray below meth cd H locs 0 0 QQ (F0 mi 0 ls []) := by
    refine lv_iload_n hx hb dX2_put_0 rfl (lv_at hl 1 rfl) ?_
    refine lv_if_lt (tgt := 20) hx hb dX2_put_1 (by decide) (fun c1 => ?_) (fun c1 => ?_)
    · skip
      have c1 := (nI_ltI (a := k) (b := 0) (by omega) (by omega)).mp c1
      exfalso; omega
    · skip
      have c1 := (not_congr (nI_ltI (a := k) (b := 0) (by omega) (by omega))).mp c1
      refine lv_iload_n hx hb dX2_put_4 rfl (lv_at hl 1 rfl) ?_
      refine lv_aload_n hx hb dX2_put_5 rfl (lv_at hl 0 rfl) ?_
      refine va_get (D := D) (ci := 2) (v := .ref b) (C := RX2) (T := TX2) (N := 1) hx hb hts inX2 hown hE.1 hP 0 rfl rfl 0 (by decide) kf7 (fun _ h9 => h9) rfl dX2_put_6 ?_
      refine va_alen hx hb hE.1 hP 1 0 rfl rfl (v := nI n) rfl dX2_put_9 ?_
      refine lv_icmp_ge (tgt := 20) hx hb dX2_put_10 (by decide) (fun c10 => ?_) (fun c10 => ?_)
      · skip
        have c10 := (nI_leI (a := n) (b := k) (by omega) (by omega)).mp c10
        exfalso; omega
      · skip
        have c10 := (not_congr (nI_leI (a := n) (b := k) (by omega) (by omega))).mp c10
        refine lv_aload_n hx hb dX2_put_13 rfl (lv_at hl 0 rfl) ?_
        refine va_get (D := D) (ci := 2) (v := .ref b) (C := RX2) (T := TX2) (N := 1) hx hb hts inX2 hown hE.1 hP 0 rfl rfl 0 (by decide) kf7 (fun _ h9 => h9) rfl dX2_put_14 ?_
        refine lv_iload_n hx hb dX2_put_17 rfl (lv_at hl 1 rfl) ?_
        refine lv_iload_n hx hb dX2_put_18 rfl (lv_at hl 2 rfl) ?_
        refine ast hx hb hE hP hD hS 1 rfl (k := k) hk hn (g) (hg) dX2_put_19 (fun H locs hP hD hS => ?_)
        have hP : va_P D vwCl (wR cA r b n g) H := hP
        have hD : va_D A (wR cA r b n g) := hD
        rw [hQQ]
        exact W.vret hx hb hr (fun t ht hW => ⟨⟨(), rfl, trivial, by show va_P _ _ _ t.heap; rw [ht]; exact hP⟩, hS.F ht⟩) hS.2.2 dX2_put_20
  rw [hg1, hg2] at hgoal
  exact hgoal

set_option maxHeartbeats 4000000 in
set_option maxRecDepth 100000 in
/-- Row.put -/
theorem K_X2_put (lch : Launch) (D : va_G) (cA : ClassId) (r : Nat) (b : Nat) (n : Nat) (f : Nat → Int32) (x : Int32) (v : Int32) (sz : Nat) (hn : n < 2 ^ 31) : Met lch yX2_put wsX2_put ({ frames := 0, cells := 0, slots := 0, locals := 0 }) (Pr D cA [.ref r, .int x, .int v] sz (wR cA r b n f) X0) (va_Qv (fun (u : Unit) => True) (fun (u : Unit) t => va_P D vwCl (wR cA r b n (rp n f x v)) t.heap) (va_A (wR cA r b n f) sz)) 0 0 (va_A (wR cA r b n f) sz) := by
  refine Met.ofW (cc := cX2_put) (maxL := 3) (ret := none) (by decide) rfl ?_
  intro pg ev s mi args below meth cd s₁ B hml hv
  obtain ⟨hav, hsz, hP, hE, hD, hXs⟩ := hv
  have hx := B.exec
  have hb := B.bytes
  have hr := B.returns
  have hts := atoms_spec (ws := wsX2_put) B.pre
  have hown : s.vm.findClass RX2 = some mi.cls := findClass_of_methodNamed B.named
  have hlocks := B.notSynchronized
  clear B
  subst hav
  subst hsz
  have hD := hD.self (sz := s.heap.size)
  generalize hAe : va_A (wR cA r b n f) s.heap.size = A at hD ⊢
  have hA : ∀ q : Nat, s.heap.size ≤ q → A q := fun q h => by rw [← hAe]; exact Or.inr h
  have hS : va_S A s.heap s.heap [] := va_S.rf
  obtain ⟨QQ, hQQ⟩ : ∃ qq9, qq9 = MQ below (va_Qv (fun (u : Unit) => True) (fun (u : Unit) t => va_P D vwCl (wR cA r b n (rp n f x v)) t.heap) A) ([.ref r, .int x, .int v] : List Value).toArray s 0 0 A := ⟨_, rfl⟩
  rw [← hQQ]
  have hl := lv_entry ([.ref r, .int x, .int v]) (n := 3) (Nat.le_of_ble_eq_true rfl)
  rw [lg_entry_eq]
  generalize (lg_sl ([.ref r, .int x, .int v]) ++ List.replicate (3 - (lg_sl ([.ref r, .int x, .int v])).length) Slot.unset).toArray = ls at hl ⊢
  have hl : lv_has ls 3 [(0, .ref r), (1, .int x), (2, .int v)] := hl
  have kf7 := hts (.fieldLink RX2 7 "LanternWeirs$Row" "cells" "[I") (by decide +kernel)
  have inX2 : ∀ w ∈ u_ws RX2 TX2 1, w ∈ wsX2_put := by decide +kernel
  obtain ⟨H, locs, hP, hS, hgo⟩ : ∃ H locs, va_P D vwCl (wR cA r b n f) H ∧ va_S A s.heap H locs ∧ (H = s.heap ∧ locs = []) := ⟨_, _, hP, hS, rfl, rfl⟩
  obtain ⟨hg1, hg2⟩ := hgo
  have hgoal : W pg lch ev (headSpec wsX2_put ({ frames := 0, cells := 0, slots := 0, locals := 0 })).room s mi ([.ref r, .int x, .int v] : List Value).toArray below meth cd H locs 0 0 QQ (F0 mi 0 ls []) := by
    refine lv_iload_n hx hb dX2_put_0 rfl (lv_at hl 1 rfl) ?_
    refine lv_if_lt (tgt := 20) hx hb dX2_put_1 (by decide) (fun c1 => ?_) (fun c1 => ?_)
    · skip
      have hP : va_P D vwCl (wR cA r b n (rp n f x v)) H := by rw [rp_neg c1]; exact hP
      rw [hQQ]
      exact W.vret hx hb hr (fun t ht hW => ⟨⟨(), rfl, trivial, by show va_P _ _ _ t.heap; rw [ht]; exact hP⟩, hS.F ht⟩) hS.2.2 dX2_put_20
    · skip
      refine lv_iload_n hx hb dX2_put_4 rfl (lv_at hl 1 rfl) ?_
      refine lv_aload_n hx hb dX2_put_5 rfl (lv_at hl 0 rfl) ?_
      refine va_get (D := D) (ci := 2) (v := .ref b) (C := RX2) (T := TX2) (N := 1) hx hb hts inX2 hown hE.1 hP 0 rfl rfl 0 (by decide) kf7 (fun _ h9 => h9) rfl dX2_put_6 ?_
      refine va_alen hx hb hE.1 hP 1 0 rfl rfl (v := nI n) rfl dX2_put_9 ?_
      refine lv_icmp_ge (tgt := 20) hx hb dX2_put_10 (by decide) (fun c10 => ?_) (fun c10 => ?_)
      · skip
        have hP : va_P D vwCl (wR cA r b n (rp n f x v)) H := by rw [rp_big c10]; exact hP
        rw [hQQ]
        exact W.vret hx hb hr (fun t ht hW => ⟨⟨(), rfl, trivial, by show va_P _ _ _ t.heap; rw [ht]; exact hP⟩, hS.F ht⟩) hS.2.2 dX2_put_20
      · skip
        obtain ⟨j, hj, hxj⟩ := ix_of hn c1 c10
        subst hxj
        refine lv_aload_n hx hb dX2_put_13 rfl (lv_at hl 0 rfl) ?_
        refine va_get (D := D) (ci := 2) (v := .ref b) (C := RX2) (T := TX2) (N := 1) hx hb hts inX2 hown hE.1 hP 0 rfl rfl 0 (by decide) kf7 (fun _ h9 => h9) rfl dX2_put_14 ?_
        refine lv_iload_n hx hb dX2_put_17 rfl (lv_at hl 1 rfl) ?_
        refine lv_iload_n hx hb dX2_put_18 rfl (lv_at hl 2 rfl) ?_
        refine ast hx hb hE hP hD hS 1 rfl (k := j) hj hn (rp n f (nI j) v) (fun i _ => by rw [rp_nI hj hn]) dX2_put_19 (fun H locs hP hD hS => ?_)
        have hP : va_P D vwCl (wR cA r b n (rp n f (nI j) v)) H := hP
        have hD : va_D A (wR cA r b n (rp n f (nI j) v)) := hD
        rw [hQQ]
        exact W.vret hx hb hr (fun t ht hW => ⟨⟨(), rfl, trivial, by show va_P _ _ _ t.heap; rw [ht]; exact hP⟩, hS.F ht⟩) hS.2.2 dX2_put_20
  rw [hg1, hg2] at hgoal
  exact hgoal

set_option maxHeartbeats 4000000 in
set_option maxRecDepth 100000 in
/-- Row.copy: the row holds what the other holds -/
theorem K_X2_copy (lch : Launch) (D : va_G) (cA : ClassId) (r : Nat) (b : Nat) (n : Nat) (f : Nat → Int32) (r2 : Nat) (b2 : Nat) (f2 : Nat → Int32) (sz : Nat) (hn : n < 2 ^ 31) : Met lch yX2_copy wsX2_copy ({ frames := 1, cells := 0, slots := 0, locals := 21 }) (Pr D cA [.ref r, .ref r2] sz ((wR cA r b n f) ++ (wR cA r2 b2 n f2)) X0) (va_Qv (fun (u : Unit) => True) (fun (u : Unit) t => va_P D vwCl ((wR cA r b n f2) ++ (wR cA r2 b2 n f2)) t.heap) (va_A ((wR cA r b n f) ++ (wR cA r2 b2 n f2)) sz)) 0 0 (va_A ((wR cA r b n f) ++ (wR cA r2 b2 n f2)) sz) := by
  refine Met.ofW (cc := cX2_copy) (maxL := 3) (ret := none) (by decide) rfl ?_
  intro pg ev s mi args below meth cd s₁ B hml hv
  obtain ⟨hav, hsz, hP, hE, hD, hXs⟩ := hv
  have hx := B.exec
  have hb := B.bytes
  have hr := B.returns
  have hts := atoms_spec (ws := wsX2_copy) B.pre
  have hown : s.vm.findClass RX2 = some mi.cls := findClass_of_methodNamed B.named
  have hlocks := B.notSynchronized
  clear B
  subst hav
  subst hsz
  have hD := hD.self (sz := s.heap.size)
  generalize hAe : va_A ((wR cA r b n f) ++ (wR cA r2 b2 n f2)) s.heap.size = A at hD ⊢
  have hA : ∀ q : Nat, s.heap.size ≤ q → A q := fun q h => by rw [← hAe]; exact Or.inr h
  have hS : va_S A s.heap s.heap [] := va_S.rf
  obtain ⟨QQ, hQQ⟩ : ∃ qq9, qq9 = MQ below (va_Qv (fun (u : Unit) => True) (fun (u : Unit) t => va_P D vwCl ((wR cA r b n f2) ++ (wR cA r2 b2 n f2)) t.heap) A) ([.ref r, .ref r2] : List Value).toArray s 0 0 A := ⟨_, rfl⟩
  rw [← hQQ]
  have hl := lv_entry ([.ref r, .ref r2]) (n := 3) (Nat.le_of_ble_eq_true rfl)
  rw [lg_entry_eq]
  generalize (lg_sl ([.ref r, .ref r2]) ++ List.replicate (3 - (lg_sl ([.ref r, .ref r2])).length) Slot.unset).toArray = ls at hl ⊢
  have hl : lv_has ls 3 [(0, .ref r), (1, .ref r2)] := hl
  have kf7 := hts (.fieldLink RX2 7 "LanternWeirs$Row" "cells" "[I") (by decide +kernel)
  have inX2 : ∀ w ∈ u_ws RX2 TX2 1, w ∈ wsX2_copy := by decide +kernel
  obtain ⟨H, locs, hP, hS, hgo⟩ : ∃ H locs, va_P D vwCl ((wR cA r b n f) ++ (wR cA r2 b2 n f2)) H ∧ va_S A s.heap H locs ∧ (H = s.heap ∧ locs = []) := ⟨_, _, hP, hS, rfl, rfl⟩
  obtain ⟨hg1, hg2⟩ := hgo
  have hgoal : W pg lch ev (headSpec wsX2_copy ({ frames := 1, cells := 0, slots := 0, locals := 21 })).room s mi ([.ref r, .ref r2] : List Value).toArray below meth cd H locs 0 0 QQ (F0 mi 0 ls []) := by
    refine lv_iconst (v := 0) hx hb dX2_copy_0 (by decide) ?_
    refine lv_istore_n (lv' := [(2, .int 0), (0, .ref r), (1, .ref r2)]) hx hb dX2_copy_1 rfl hl (by decide) rfl (fun ls hl => ?_)
    have L2 : ∀ (fu2 : Nat) (i : Nat) (g : Nat → Int32), (i ≤ n) → (∀ j, j < i → g j = f2 j) → n - i < fu2 → ∀ (H : Heap) (locs : List Loc), va_P D vwCl ((wR cA r b n g) ++ (wR cA r2 b2 n f2)) H → va_D A ((wR cA r b n g) ++ (wR cA r2 b2 n f2)) → va_S A s.heap H locs → ∀ ls : Array Slot, lv_has ls 3 [(2, .int (nI i)), (0, .ref r), (1, .ref r2)] → W pg lch ev (headSpec wsX2_copy ({ frames := 1, cells := 0, slots := 0, locals := 21 })).room s mi ([.ref r, .ref r2] : List Value).toArray below meth cd H locs 0 0 QQ (F0 mi 2 ls []) := by
      intro fu2
      induction fu2 with
      | zero => intro i g hi hg hms; exact absurd hms (Nat.not_lt_zero _)
      | succ fu2 ih2 =>
        intro i g hi hg hms2 H locs hP hD hS ls hl
        refine lv_iload_n hx hb dX2_copy_2 rfl (lv_at hl 0 rfl) ?_
        refine lv_aload_n hx hb dX2_copy_3 rfl (lv_at hl 1 rfl) ?_
        refine va_get (D := D) (ci := 2) (v := .ref b) (C := RX2) (T := TX2) (N := 1) hx hb hts inX2 hown hE.1 hP 0 rfl rfl 0 (by decide) kf7 (fun _ h9 => h9) rfl dX2_copy_4 ?_
        refine va_alen hx hb hE.1 hP 1 0 rfl rfl (v := nI n) rfl dX2_copy_7 ?_
        refine lv_icmp_ge (tgt := 28) hx hb dX2_copy_8 (by decide) (fun c8 => ?_) (fun c8 => ?_)
        · skip
          have c8 := (nI_leI (a := n) (b := i) (by omega) (by omega)).mp c8
          have hgg : ∀ j, j < n → g j = f2 j := fun j hj => hg j (by omega)
          have hP : va_P D vwCl ((wR cA r b n f2) ++ (wR cA r2 b2 n f2)) H := hP.arr 1 f2 rfl hgg
          rw [hQQ]
          exact W.vret hx hb hr (fun t ht hW => ⟨⟨(), rfl, trivial, by show va_P _ _ _ t.heap; rw [ht]; exact hP⟩, hS.F ht⟩) hS.2.2 dX2_copy_28
        · skip
          have c8 := (not_congr (nI_leI (a := n) (b := i) (by omega) (by omega))).mp c8
          refine lv_aload_n hx hb dX2_copy_11 rfl (lv_at hl 1 rfl) ?_
          refine va_get (D := D) (ci := 2) (v := .ref b) (C := RX2) (T := TX2) (N := 1) hx hb hts inX2 hown hE.1 hP 0 rfl rfl 0 (by decide) kf7 (fun _ h9 => h9) rfl dX2_copy_12 ?_
          refine lv_iload_n hx hb dX2_copy_15 rfl (lv_at hl 0 rfl) ?_
          refine lv_aload_n hx hb dX2_copy_16 rfl (lv_at hl 2 rfl) ?_
          refine lv_iload_n hx hb dX2_copy_17 rfl (lv_at hl 0 rfl) ?_
          refine pVi (As := [.int (nI i)]) (rest := [.int (nI i), .ref b]) (wc := (wR cA r2 b2 n f2)) ⟨hx, hb, hml, hown, hts⟩ (K_X2_getk lch D cA r2 b2 n f2 i (f2 i) H.size (by omega) (hn) (rfl)) (cwV 1 hts gX2_copy_X2_get rfl rfl rfl (by decide +kernel) ⟨Nat.le_of_ble_eq_true rfl, Nat.le_of_ble_eq_true rfl⟩) hE hP hD hS hA [2, 3] rfl rfl X0.blind (fun _ _ _ => trivial) 2 2 rfl rfl rfl hl.1 rfl rfl (Nat.le_of_ble_eq_true rfl) dX2_copy_18 ⟨Nat.zero_le _, Nat.zero_le _⟩ (fun r_1 u_2 H locs h_3 hP hS => ?_)
          subst h_3
          refine ast hx hb hE hP hD hS 1 rfl (k := i) (by omega) hn (upd g i (f2 i)) (fun j _ => rfl) dX2_copy_21 (fun H locs hP hD hS => ?_)
          have hP : va_P D vwCl ((wR cA r b n (upd g i (f2 i))) ++ (wR cA r2 b2 n f2)) H := hP
          have hD : va_D A ((wR cA r b n (upd g i (f2 i))) ++ (wR cA r2 b2 n f2)) := hD
          refine lv_iinc (v := nI (i + 1)) (lv' := [(2, .int (nI (i + 1))), (0, .ref r), (1, .ref r2)]) hx hb dX2_copy_22 hl (k := 0) rfl (nI_add i 1) (by decide) rfl (fun ls hl => ?_)
          refine lv_goto (tgt := 2) hx hb dX2_copy_25 (by decide) ?_
          exact ih2 (i + 1) (upd g i (f2 i)) (by omega) (cpy_step hg) (by omega) H locs hP hD hS ls (lv_sub hl [0, 1, 2] rfl)
    exact L2 (n + 1) 0 f (Nat.zero_le _) (fun j hj => absurd hj (Nat.not_lt_zero j)) (by omega) H locs hP hD hS ls (lv_sub hl [0, 1, 2] rfl)
  rw [hg1, hg2] at hgoal
  exact hgoal
