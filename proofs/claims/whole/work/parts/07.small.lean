set_option maxHeartbeats 4000000 in
set_option maxRecDepth 100000 in
/-- isWithin -/
theorem K_X3_isWithin (lch : Launch) (D : va_G) (cA : ClassId) (x : Int32) (lo : Int32) (hi : Int32) (sz : Nat)  : Met lch yX3_isWithin wsX3_isWithin ({ frames := 0, cells := 0, slots := 0, locals := 0 }) (Pr D cA [.int x, .int lo, .int hi] sz ([] : va_W) X0) (va_Qi (fun (r : Int32) (u : Unit) => r = bi (isW x lo hi)) (fun _ _ => True) (fun q : Nat => sz ≤ q)) 0 0 (fun q : Nat => sz ≤ q) := by
  refine Met.ofW (cc := cX3_isWithin) (maxL := 3) (ret := (some .boolean)) (by decide) rfl ?_
  intro pg ev s mi args below meth cd s₁ B hml hv
  obtain ⟨hav, hsz, hP, hE, hD, hXs⟩ := hv
  have hx := B.exec
  have hb := B.bytes
  have hr := B.returns
  have hts := atoms_spec (ws := wsX3_isWithin) B.pre
  have hown : s.vm.findClass RX3 = some mi.cls := findClass_of_methodNamed B.named
  have hlocks := B.notSynchronized
  clear B
  subst hav
  subst hsz
  have hA : ∀ q : Nat, s.heap.size ≤ q → (fun q : Nat => s.heap.size ≤ q) q := fun _ h => h
  have hS : va_S (fun q : Nat => s.heap.size ≤ q) s.heap s.heap [] := va_S.rf
  obtain ⟨QQ, hQQ⟩ : ∃ qq9, qq9 = MQ below (va_Qi (fun (r : Int32) (u : Unit) => r = bi (isW x lo hi)) (fun _ _ => True) (fun q : Nat => s.heap.size ≤ q)) ([.int x, .int lo, .int hi] : List Value).toArray s 0 0 (fun q : Nat => s.heap.size ≤ q) := ⟨_, rfl⟩
  rw [← hQQ]
  have hl := lv_entry ([.int x, .int lo, .int hi]) (n := 3) (Nat.le_of_ble_eq_true rfl)
  rw [lg_entry_eq]
  generalize (lg_sl ([.int x, .int lo, .int hi]) ++ List.replicate (3 - (lg_sl ([.int x, .int lo, .int hi])).length) Slot.unset).toArray = ls at hl ⊢
  have hl : lv_has ls 3 [(0, .int x), (1, .int lo), (2, .int hi)] := hl
  obtain ⟨H, locs, hP, hS, hgo⟩ : ∃ H locs, va_P D vwCl ([] : va_W) H ∧ va_S (fun q : Nat => s.heap.size ≤ q) s.heap H locs ∧ (H = s.heap ∧ locs = []) := ⟨_, _, hP, hS, rfl, rfl⟩
  obtain ⟨hg1, hg2⟩ := hgo
  have hgoal : W pg lch ev (headSpec wsX3_isWithin ({ frames := 0, cells := 0, slots := 0, locals := 0 })).room s mi ([.int x, .int lo, .int hi] : List Value).toArray below meth cd H locs 0 0 QQ (F0 mi 0 ls []) := by
    refine lv_iload_n hx hb dX3_isWithin_0 rfl (lv_at hl 0 rfl) ?_
    refine lv_iload_n hx hb dX3_isWithin_1 rfl (lv_at hl 1 rfl) ?_
    refine lv_icmp_lt (tgt := 14) hx hb dX3_isWithin_2 (by decide) (fun c2 => ?_) (fun c2 => ?_)
    · skip
      refine lv_iconst (v := 0) hx hb dX3_isWithin_14 (by decide) ?_
      rw [hQQ]
      exact W.zret (v := 0) hx hb hr (by decide) (fun t ht hW => ⟨⟨0, (), rfl, (isW_lt c2).symm, trivial⟩, hS.F ht⟩) hS.2.2 dX3_isWithin_15
    · skip
      refine lv_iload_n hx hb dX3_isWithin_5 rfl (lv_at hl 0 rfl) ?_
      refine lv_iload_n hx hb dX3_isWithin_6 rfl (lv_at hl 2 rfl) ?_
      refine lv_icmp_gt (tgt := 14) hx hb dX3_isWithin_7 (by decide) (fun c7 => ?_) (fun c7 => ?_)
      · skip
        refine lv_iconst (v := 0) hx hb dX3_isWithin_14 (by decide) ?_
        rw [hQQ]
        exact W.zret (v := 0) hx hb hr (by decide) (fun t ht hW => ⟨⟨0, (), rfl, (isW_gt c7).symm, trivial⟩, hS.F ht⟩) hS.2.2 dX3_isWithin_15
      · skip
        refine lv_iconst (v := 1) hx hb dX3_isWithin_10 (by decide) ?_
        refine lv_goto (tgt := 15) hx hb dX3_isWithin_11 (by decide) ?_
        rw [hQQ]
        exact W.zret (v := 1) hx hb hr (by decide) (fun t ht hW => ⟨⟨1, (), rfl, (isW_in c2 c7).symm, trivial⟩, hS.F ht⟩) hS.2.2 dX3_isWithin_15
  rw [hg1, hg2] at hgoal
  exact hgoal

set_option maxHeartbeats 4000000 in
set_option maxRecDepth 100000 in
/-- isLane -/
theorem K_X3_isLane (lch : Launch) (D : va_G) (cA : ClassId) (x : Int32) (sz : Nat)  : Met lch yX3_isLane wsX3_isLane ({ frames := 1, cells := 0, slots := 0, locals := 22 }) (Pr D cA [.int x] sz ([] : va_W) X0) (va_Qi (fun (r : Int32) (u : Unit) => r = bi (isW x 0 2)) (fun _ _ => True) (fun q : Nat => sz ≤ q)) 0 0 (fun q : Nat => sz ≤ q) := by
  refine Met.ofW (cc := cX3_isLane) (maxL := 1) (ret := (some .boolean)) (by decide) rfl ?_
  intro pg ev s mi args below meth cd s₁ B hml hv
  obtain ⟨hav, hsz, hP, hE, hD, hXs⟩ := hv
  have hx := B.exec
  have hb := B.bytes
  have hr := B.returns
  have hts := atoms_spec (ws := wsX3_isLane) B.pre
  have hown : s.vm.findClass RX3 = some mi.cls := findClass_of_methodNamed B.named
  have hlocks := B.notSynchronized
  clear B
  subst hav
  subst hsz
  have hA : ∀ q : Nat, s.heap.size ≤ q → (fun q : Nat => s.heap.size ≤ q) q := fun _ h => h
  have hS : va_S (fun q : Nat => s.heap.size ≤ q) s.heap s.heap [] := va_S.rf
  obtain ⟨QQ, hQQ⟩ : ∃ qq9, qq9 = MQ below (va_Qi (fun (r : Int32) (u : Unit) => r = bi (isW x 0 2)) (fun _ _ => True) (fun q : Nat => s.heap.size ≤ q)) ([.int x] : List Value).toArray s 0 0 (fun q : Nat => s.heap.size ≤ q) := ⟨_, rfl⟩
  rw [← hQQ]
  have hl := lv_entry ([.int x]) (n := 1) (Nat.le_of_ble_eq_true rfl)
  rw [lg_entry_eq]
  generalize (lg_sl ([.int x]) ++ List.replicate (1 - (lg_sl ([.int x])).length) Slot.unset).toArray = ls at hl ⊢
  have hl : lv_has ls 1 [(0, .int x)] := hl
  obtain ⟨H, locs, hP, hS, hgo⟩ : ∃ H locs, va_P D vwCl ([] : va_W) H ∧ va_S (fun q : Nat => s.heap.size ≤ q) s.heap H locs ∧ (H = s.heap ∧ locs = []) := ⟨_, _, hP, hS, rfl, rfl⟩
  obtain ⟨hg1, hg2⟩ := hgo
  have hgoal : W pg lch ev (headSpec wsX3_isLane ({ frames := 1, cells := 0, slots := 0, locals := 22 })).room s mi ([.int x] : List Value).toArray below meth cd H locs 0 0 QQ (F0 mi 0 ls []) := by
    refine lv_iload_n hx hb dX3_isLane_0 rfl (lv_at hl 0 rfl) ?_
    refine lv_iconst (v := 0) hx hb dX3_isLane_1 (by decide) ?_
    refine lv_iconst (v := 2) hx hb dX3_isLane_2 (by decide) ?_
    refine pSi (As := [.int x, .int 0, .int 2]) (rest := []) (wc := ([] : va_W)) ⟨hx, hb, hml, hown, hts⟩ (K_X3_isWithin lch D cA x 0 2 H.size ) (cwS 3 hts gX3_isLane_X3_isWithin rfl rfl rfl (by decide +kernel) ⟨Nat.le_of_ble_eq_true rfl, Nat.le_of_ble_eq_true rfl⟩) hE hP hD hS hA [] rfl rfl X0.blind (fun _ _ _ => trivial) hl.1 rfl rfl (Nat.le_of_ble_eq_true rfl) dX3_isLane_3 ⟨Nat.zero_le _, Nat.zero_le _⟩ (fun r_1 u_2 H locs h_3 hP hS => ?_)
    subst h_3
    rw [hQQ]
    exact W.zret (v := bi (isW x 0 2)) hx hb hr (nar_bi _) (fun t ht hW => ⟨⟨bi (isW x 0 2), (), rfl, rfl, trivial⟩, hS.F ht⟩) hS.2.2 dX3_isLane_6
  rw [hg1, hg2] at hgoal
  exact hgoal

set_option maxHeartbeats 4000000 in
set_option maxRecDepth 100000 in
/-- isPlace -/
theorem K_X3_isPlace (lch : Launch) (D : va_G) (cA : ClassId) (x : Int32) (sz : Nat)  : Met lch yX3_isPlace wsX3_isPlace ({ frames := 1, cells := 0, slots := 0, locals := 22 }) (Pr D cA [.int x] sz ([] : va_W) X0) (va_Qi (fun (r : Int32) (u : Unit) => r = bi (isW x 0 59)) (fun _ _ => True) (fun q : Nat => sz ≤ q)) 0 0 (fun q : Nat => sz ≤ q) := by
  refine Met.ofW (cc := cX3_isPlace) (maxL := 1) (ret := (some .boolean)) (by decide) rfl ?_
  intro pg ev s mi args below meth cd s₁ B hml hv
  obtain ⟨hav, hsz, hP, hE, hD, hXs⟩ := hv
  have hx := B.exec
  have hb := B.bytes
  have hr := B.returns
  have hts := atoms_spec (ws := wsX3_isPlace) B.pre
  have hown : s.vm.findClass RX3 = some mi.cls := findClass_of_methodNamed B.named
  have hlocks := B.notSynchronized
  clear B
  subst hav
  subst hsz
  have hA : ∀ q : Nat, s.heap.size ≤ q → (fun q : Nat => s.heap.size ≤ q) q := fun _ h => h
  have hS : va_S (fun q : Nat => s.heap.size ≤ q) s.heap s.heap [] := va_S.rf
  obtain ⟨QQ, hQQ⟩ : ∃ qq9, qq9 = MQ below (va_Qi (fun (r : Int32) (u : Unit) => r = bi (isW x 0 59)) (fun _ _ => True) (fun q : Nat => s.heap.size ≤ q)) ([.int x] : List Value).toArray s 0 0 (fun q : Nat => s.heap.size ≤ q) := ⟨_, rfl⟩
  rw [← hQQ]
  have hl := lv_entry ([.int x]) (n := 1) (Nat.le_of_ble_eq_true rfl)
  rw [lg_entry_eq]
  generalize (lg_sl ([.int x]) ++ List.replicate (1 - (lg_sl ([.int x])).length) Slot.unset).toArray = ls at hl ⊢
  have hl : lv_has ls 1 [(0, .int x)] := hl
  obtain ⟨H, locs, hP, hS, hgo⟩ : ∃ H locs, va_P D vwCl ([] : va_W) H ∧ va_S (fun q : Nat => s.heap.size ≤ q) s.heap H locs ∧ (H = s.heap ∧ locs = []) := ⟨_, _, hP, hS, rfl, rfl⟩
  obtain ⟨hg1, hg2⟩ := hgo
  have hgoal : W pg lch ev (headSpec wsX3_isPlace ({ frames := 1, cells := 0, slots := 0, locals := 22 })).room s mi ([.int x] : List Value).toArray below meth cd H locs 0 0 QQ (F0 mi 0 ls []) := by
    refine lv_iload_n hx hb dX3_isPlace_0 rfl (lv_at hl 0 rfl) ?_
    refine lv_iconst (v := 0) hx hb dX3_isPlace_1 (by decide) ?_
    refine lv_bipush (v := 59) hx hb dX3_isPlace_2 (by decide) ?_
    refine pSi (As := [.int x, .int 0, .int 59]) (rest := []) (wc := ([] : va_W)) ⟨hx, hb, hml, hown, hts⟩ (K_X3_isWithin lch D cA x 0 59 H.size ) (cwS 3 hts gX3_isPlace_X3_isWithin rfl rfl rfl (by decide +kernel) ⟨Nat.le_of_ble_eq_true rfl, Nat.le_of_ble_eq_true rfl⟩) hE hP hD hS hA [] rfl rfl X0.blind (fun _ _ _ => trivial) hl.1 rfl rfl (Nat.le_of_ble_eq_true rfl) dX3_isPlace_4 ⟨Nat.zero_le _, Nat.zero_le _⟩ (fun r_1 u_2 H locs h_3 hP hS => ?_)
    subst h_3
    rw [hQQ]
    exact W.zret (v := bi (isW x 0 59)) hx hb hr (nar_bi _) (fun t ht hW => ⟨⟨bi (isW x 0 59), (), rfl, rfl, trivial⟩, hS.F ht⟩) hS.2.2 dX3_isPlace_7
  rw [hg1, hg2] at hgoal
  exact hgoal

set_option maxHeartbeats 4000000 in
set_option maxRecDepth 100000 in
/-- isFrame -/
theorem K_X3_isFrame (lch : Launch) (D : va_G) (cA : ClassId) (x : Int32) (sz : Nat)  : Met lch yX3_isFrame wsX3_isFrame ({ frames := 1, cells := 0, slots := 0, locals := 22 }) (Pr D cA [.int x] sz ([] : va_W) X0) (va_Qi (fun (r : Int32) (u : Unit) => r = bi (isW x 0 2)) (fun _ _ => True) (fun q : Nat => sz ≤ q)) 0 0 (fun q : Nat => sz ≤ q) := by
  refine Met.ofW (cc := cX3_isFrame) (maxL := 1) (ret := (some .boolean)) (by decide) rfl ?_
  intro pg ev s mi args below meth cd s₁ B hml hv
  obtain ⟨hav, hsz, hP, hE, hD, hXs⟩ := hv
  have hx := B.exec
  have hb := B.bytes
  have hr := B.returns
  have hts := atoms_spec (ws := wsX3_isFrame) B.pre
  have hown : s.vm.findClass RX3 = some mi.cls := findClass_of_methodNamed B.named
  have hlocks := B.notSynchronized
  clear B
  subst hav
  subst hsz
  have hA : ∀ q : Nat, s.heap.size ≤ q → (fun q : Nat => s.heap.size ≤ q) q := fun _ h => h
  have hS : va_S (fun q : Nat => s.heap.size ≤ q) s.heap s.heap [] := va_S.rf
  obtain ⟨QQ, hQQ⟩ : ∃ qq9, qq9 = MQ below (va_Qi (fun (r : Int32) (u : Unit) => r = bi (isW x 0 2)) (fun _ _ => True) (fun q : Nat => s.heap.size ≤ q)) ([.int x] : List Value).toArray s 0 0 (fun q : Nat => s.heap.size ≤ q) := ⟨_, rfl⟩
  rw [← hQQ]
  have hl := lv_entry ([.int x]) (n := 1) (Nat.le_of_ble_eq_true rfl)
  rw [lg_entry_eq]
  generalize (lg_sl ([.int x]) ++ List.replicate (1 - (lg_sl ([.int x])).length) Slot.unset).toArray = ls at hl ⊢
  have hl : lv_has ls 1 [(0, .int x)] := hl
  obtain ⟨H, locs, hP, hS, hgo⟩ : ∃ H locs, va_P D vwCl ([] : va_W) H ∧ va_S (fun q : Nat => s.heap.size ≤ q) s.heap H locs ∧ (H = s.heap ∧ locs = []) := ⟨_, _, hP, hS, rfl, rfl⟩
  obtain ⟨hg1, hg2⟩ := hgo
  have hgoal : W pg lch ev (headSpec wsX3_isFrame ({ frames := 1, cells := 0, slots := 0, locals := 22 })).room s mi ([.int x] : List Value).toArray below meth cd H locs 0 0 QQ (F0 mi 0 ls []) := by
    refine lv_iload_n hx hb dX3_isFrame_0 rfl (lv_at hl 0 rfl) ?_
    refine lv_iconst (v := 0) hx hb dX3_isFrame_1 (by decide) ?_
    refine lv_iconst (v := 2) hx hb dX3_isFrame_2 (by decide) ?_
    refine pSi (As := [.int x, .int 0, .int 2]) (rest := []) (wc := ([] : va_W)) ⟨hx, hb, hml, hown, hts⟩ (K_X3_isWithin lch D cA x 0 2 H.size ) (cwS 3 hts gX3_isFrame_X3_isWithin rfl rfl rfl (by decide +kernel) ⟨Nat.le_of_ble_eq_true rfl, Nat.le_of_ble_eq_true rfl⟩) hE hP hD hS hA [] rfl rfl X0.blind (fun _ _ _ => trivial) hl.1 rfl rfl (Nat.le_of_ble_eq_true rfl) dX3_isFrame_3 ⟨Nat.zero_le _, Nat.zero_le _⟩ (fun r_1 u_2 H locs h_3 hP hS => ?_)
    subst h_3
    rw [hQQ]
    exact W.zret (v := bi (isW x 0 2)) hx hb hr (nar_bi _) (fun t ht hW => ⟨⟨bi (isW x 0 2), (), rfl, rfl, trivial⟩, hS.F ht⟩) hS.2.2 dX3_isFrame_6
  rw [hg1, hg2] at hgoal
  exact hgoal

set_option maxHeartbeats 4000000 in
set_option maxRecDepth 100000 in
/-- waxOf -/
theorem K_X3_waxOf (lch : Launch) (D : va_G) (cA : ClassId) (f : Nat) (sz : Nat) (hf : f < 3) : Met lch yX3_waxOf wsX3_waxOf ({ frames := 0, cells := 0, slots := 0, locals := 0 }) (Pr D cA [.int (nI f)] sz ([] : va_W) X0) (va_Qi (fun (r : Int32) (u : Unit) => r = nI (waxOf f)) (fun _ _ => True) (fun q : Nat => sz ≤ q)) 0 0 (fun q : Nat => sz ≤ q) := by
  refine Met.ofW (cc := cX3_waxOf) (maxL := 1) (ret := (some .int)) (by decide) rfl ?_
  intro pg ev s mi args below meth cd s₁ B hml hv
  obtain ⟨hav, hsz, hP, hE, hD, hXs⟩ := hv
  have hx := B.exec
  have hb := B.bytes
  have hr := B.returns
  have hts := atoms_spec (ws := wsX3_waxOf) B.pre
  have hown : s.vm.findClass RX3 = some mi.cls := findClass_of_methodNamed B.named
  have hlocks := B.notSynchronized
  clear B
  subst hav
  subst hsz
  have hA : ∀ q : Nat, s.heap.size ≤ q → (fun q : Nat => s.heap.size ≤ q) q := fun _ h => h
  have hS : va_S (fun q : Nat => s.heap.size ≤ q) s.heap s.heap [] := va_S.rf
  obtain ⟨QQ, hQQ⟩ : ∃ qq9, qq9 = MQ below (va_Qi (fun (r : Int32) (u : Unit) => r = nI (waxOf f)) (fun _ _ => True) (fun q : Nat => s.heap.size ≤ q)) ([.int (nI f)] : List Value).toArray s 0 0 (fun q : Nat => s.heap.size ≤ q) := ⟨_, rfl⟩
  rw [← hQQ]
  have hl := lv_entry ([.int (nI f)]) (n := 1) (Nat.le_of_ble_eq_true rfl)
  rw [lg_entry_eq]
  generalize (lg_sl ([.int (nI f)]) ++ List.replicate (1 - (lg_sl ([.int (nI f)])).length) Slot.unset).toArray = ls at hl ⊢
  have hl : lv_has ls 1 [(0, .int (nI f))] := hl
  obtain ⟨H, locs, hP, hS, hgo⟩ : ∃ H locs, va_P D vwCl ([] : va_W) H ∧ va_S (fun q : Nat => s.heap.size ≤ q) s.heap H locs ∧ (H = s.heap ∧ locs = []) := ⟨_, _, hP, hS, rfl, rfl⟩
  obtain ⟨hg1, hg2⟩ := hgo
  have hgoal : W pg lch ev (headSpec wsX3_waxOf ({ frames := 0, cells := 0, slots := 0, locals := 0 })).room s mi ([.int (nI f)] : List Value).toArray below meth cd H locs 0 0 QQ (F0 mi 0 ls []) := by
    refine lv_iload_n hx hb dX3_waxOf_0 rfl (lv_at hl 0 rfl) ?_
    refine lv_if_ne (tgt := 9) hx hb dX3_waxOf_1 (by decide) (fun c1 => ?_) (fun c1 => ?_)
    · skip
      have c1 := (not_congr (nI_eq (a := f) (b := 0) (by omega) (by omega))).mp c1
      refine lv_iload_n hx hb dX3_waxOf_9 rfl (lv_at hl 0 rfl) ?_
      refine lv_iconst (v := 1) hx hb dX3_waxOf_10 (by decide) ?_
      refine lv_icmp_ne (tgt := 19) hx hb dX3_waxOf_11 (by decide) (fun c11 => ?_) (fun c11 => ?_)
      · skip
        have c11 := (not_congr (nI_eq (a := f) (b := 1) (by omega) (by omega))).mp c11
        refine lv_bipush (v := 45) hx hb dX3_waxOf_19 (by decide) ?_
        rw [hQQ]
        exact W.iret (v := 45) hx hb hr (fun t ht hW => ⟨⟨45, (), rfl, by unfold waxOf; rw [if_neg c1, if_neg c11]; rfl, trivial⟩, hS.F ht⟩) hS.2.2 dX3_waxOf_21
      · skip
        have c11 := (nI_eq (a := f) (b := 1) (by omega) (by omega)).mp c11
        refine lv_bipush (v := 30) hx hb dX3_waxOf_14 (by decide) ?_
        refine lv_goto (tgt := 21) hx hb dX3_waxOf_16 (by decide) ?_
        rw [hQQ]
        exact W.iret (v := 30) hx hb hr (fun t ht hW => ⟨⟨30, (), rfl, by unfold waxOf; rw [if_neg c1, if_pos c11]; rfl, trivial⟩, hS.F ht⟩) hS.2.2 dX3_waxOf_21
    · skip
      have c1 := (nI_eq (a := f) (b := 0) (by omega) (by omega)).mp c1
      refine lv_bipush (v := 20) hx hb dX3_waxOf_4 (by decide) ?_
      refine lv_goto (tgt := 21) hx hb dX3_waxOf_6 (by decide) ?_
      rw [hQQ]
      exact W.iret (v := 20) hx hb hr (fun t ht hW => ⟨⟨20, (), rfl, by unfold waxOf; rw [if_pos c1]; rfl, trivial⟩, hS.F ht⟩) hS.2.2 dX3_waxOf_21
  rw [hg1, hg2] at hgoal
  exact hgoal

set_option maxHeartbeats 4000000 in
set_option maxRecDepth 100000 in
/-- sprayTakenBy -/
theorem K_X3_sprayTakenBy (lch : Launch) (D : va_G) (cA : ClassId) (f : Nat) (sz : Nat) (hf : f < 3) : Met lch yX3_sprayTakenBy wsX3_sprayTakenBy ({ frames := 0, cells := 0, slots := 0, locals := 0 }) (Pr D cA [.int (nI f)] sz ([] : va_W) X0) (va_Qi (fun (r : Int32) (u : Unit) => r = takes f) (fun _ _ => True) (fun q : Nat => sz ≤ q)) 0 0 (fun q : Nat => sz ≤ q) := by
  refine Met.ofW (cc := cX3_sprayTakenBy) (maxL := 1) (ret := (some .int)) (by decide) rfl ?_
  intro pg ev s mi args below meth cd s₁ B hml hv
  obtain ⟨hav, hsz, hP, hE, hD, hXs⟩ := hv
  have hx := B.exec
  have hb := B.bytes
  have hr := B.returns
  have hts := atoms_spec (ws := wsX3_sprayTakenBy) B.pre
  have hown : s.vm.findClass RX3 = some mi.cls := findClass_of_methodNamed B.named
  have hlocks := B.notSynchronized
  clear B
  subst hav
  subst hsz
  have hA : ∀ q : Nat, s.heap.size ≤ q → (fun q : Nat => s.heap.size ≤ q) q := fun _ h => h
  have hS : va_S (fun q : Nat => s.heap.size ≤ q) s.heap s.heap [] := va_S.rf
  obtain ⟨QQ, hQQ⟩ : ∃ qq9, qq9 = MQ below (va_Qi (fun (r : Int32) (u : Unit) => r = takes f) (fun _ _ => True) (fun q : Nat => s.heap.size ≤ q)) ([.int (nI f)] : List Value).toArray s 0 0 (fun q : Nat => s.heap.size ≤ q) := ⟨_, rfl⟩
  rw [← hQQ]
  have hl := lv_entry ([.int (nI f)]) (n := 1) (Nat.le_of_ble_eq_true rfl)
  rw [lg_entry_eq]
  generalize (lg_sl ([.int (nI f)]) ++ List.replicate (1 - (lg_sl ([.int (nI f)])).length) Slot.unset).toArray = ls at hl ⊢
  have hl : lv_has ls 1 [(0, .int (nI f))] := hl
  obtain ⟨H, locs, hP, hS, hgo⟩ : ∃ H locs, va_P D vwCl ([] : va_W) H ∧ va_S (fun q : Nat => s.heap.size ≤ q) s.heap H locs ∧ (H = s.heap ∧ locs = []) := ⟨_, _, hP, hS, rfl, rfl⟩
  obtain ⟨hg1, hg2⟩ := hgo
  have hgoal : W pg lch ev (headSpec wsX3_sprayTakenBy ({ frames := 0, cells := 0, slots := 0, locals := 0 })).room s mi ([.int (nI f)] : List Value).toArray below meth cd H locs 0 0 QQ (F0 mi 0 ls []) := by
    refine lv_iload_n hx hb dX3_sprayTakenBy_0 rfl (lv_at hl 0 rfl) ?_
    refine lv_if_ne (tgt := 9) hx hb dX3_sprayTakenBy_1 (by decide) (fun c1 => ?_) (fun c1 => ?_)
    · skip
      have c1 := (not_congr (nI_eq (a := f) (b := 0) (by omega) (by omega))).mp c1
      refine lv_iload_n hx hb dX3_sprayTakenBy_9 rfl (lv_at hl 0 rfl) ?_
      refine lv_iconst (v := 1) hx hb dX3_sprayTakenBy_10 (by decide) ?_
      refine lv_icmp_ne (tgt := 19) hx hb dX3_sprayTakenBy_11 (by decide) (fun c11 => ?_) (fun c11 => ?_)
      · skip
        have c11 := (not_congr (nI_eq (a := f) (b := 1) (by omega) (by omega))).mp c11
        refine lv_iconst (v := 5) hx hb dX3_sprayTakenBy_19 (by decide) ?_
        rw [hQQ]
        exact W.iret (v := 5) hx hb hr (fun t ht hW => ⟨⟨5, (), rfl, by unfold takes; rw [if_neg c1, if_neg c11], trivial⟩, hS.F ht⟩) hS.2.2 dX3_sprayTakenBy_20
      · skip
        have c11 := (nI_eq (a := f) (b := 1) (by omega) (by omega)).mp c11
        refine lv_bipush (v := 8) hx hb dX3_sprayTakenBy_14 (by decide) ?_
        refine lv_goto (tgt := 20) hx hb dX3_sprayTakenBy_16 (by decide) ?_
        rw [hQQ]
        exact W.iret (v := 8) hx hb hr (fun t ht hW => ⟨⟨8, (), rfl, by unfold takes; rw [if_neg c1, if_pos c11], trivial⟩, hS.F ht⟩) hS.2.2 dX3_sprayTakenBy_20
    · skip
      have c1 := (nI_eq (a := f) (b := 0) (by omega) (by omega)).mp c1
      refine lv_bipush (v := 12) hx hb dX3_sprayTakenBy_4 (by decide) ?_
      refine lv_goto (tgt := 20) hx hb dX3_sprayTakenBy_6 (by decide) ?_
      rw [hQQ]
      exact W.iret (v := 12) hx hb hr (fun t ht hW => ⟨⟨12, (), rfl, by unfold takes; rw [if_pos c1], trivial⟩, hS.F ht⟩) hS.2.2 dX3_sprayTakenBy_20
  rw [hg1, hg2] at hgoal
  exact hgoal
