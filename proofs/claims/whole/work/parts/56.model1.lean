set_option maxHeartbeats 4000000 in
set_option maxRecDepth 100000 in
/-- isIn -/
theorem K_X5_isIn (lch : Launch) (D : va_G) (cA : ClassId) (x : Int32) (lo : Int32) (hi : Int32) (sz : Nat)  : Met lch yX5_isIn wsX5_isIn ({ frames := 0, cells := 0, slots := 0, locals := 0 }) (Pr D cA [.int x, .int lo, .int hi] sz ([] : va_W) X0) (va_Qi (fun (r : Int32) (u : Unit) => r = bi (isW x lo hi)) (fun _ _ => True) (fun q : Nat => sz ≤ q)) 0 0 (fun q : Nat => sz ≤ q) := by
  refine Met.ofW (cc := cX5_isIn) (maxL := 3) (ret := (some .boolean)) (by decide) rfl ?_
  intro pg ev s mi args below meth cd s₁ B hml hv
  obtain ⟨hav, hsz, hP, hE, hD, hXs⟩ := hv
  have hx := B.exec
  have hb := B.bytes
  have hr := B.returns
  have hts := atoms_spec (ws := wsX5_isIn) B.pre
  have hown : s.vm.findClass RX5 = some mi.cls := findClass_of_methodNamed B.named
  have hlocks := B.notSynchronized
  clear B
  subst hav
  subst hsz
  have hA : ∀ q : Nat, s.heap.size ≤ q → (fun q : Nat => s.heap.size ≤ q) q := fun _ h => h
  have hS : va_S (fun q : Nat => s.heap.size ≤ q) s.heap s.heap [] := va_S.rf
  obtain ⟨QQ, hQQ⟩ : ∃ qq9, qq9 = MQ below (va_Qi (fun (r : Int32) (u : Unit) => r = bi (isW x lo hi)) (fun _ _ => True) (fun q : Nat => s.heap.size ≤ q)) ([.int x, .int lo, .int hi] : List Value).toArray s 0 0 (fun q : Nat => s.heap.size ≤ q) := ⟨_, rfl⟩
  rw [← hQQ]
  have hl := lv_entry ([.int x, .int lo, .int hi]) (n := 3) (Nat.le_of_ble_eq_true rfl)
  rw [lg_entry_eq]
  generalize (lg_sl ([.int x, .int lo, .int hi]) ++ List.replicate (3 - (lg_sl ([.int x, .int lo, .int hi])).length) Slot.unset).toArray = ls at hl ⊢
  have hl : lv_has ls 3 [(0, .int x), (1, .int lo), (2, .int hi)] := hl
  obtain ⟨H, locs, hP, hS, hgo⟩ : ∃ H locs, va_P D vwCl ([] : va_W) H ∧ va_S (fun q : Nat => s.heap.size ≤ q) s.heap H locs ∧ (H = s.heap ∧ locs = []) := ⟨_, _, hP, hS, rfl, rfl⟩
  obtain ⟨hg1, hg2⟩ := hgo
  have hgoal : W pg lch ev (headSpec wsX5_isIn ({ frames := 0, cells := 0, slots := 0, locals := 0 })).room s mi ([.int x, .int lo, .int hi] : List Value).toArray below meth cd H locs 0 0 QQ (F0 mi 0 ls []) := by
    refine lv_iload_n hx hb dX5_isIn_0 rfl (lv_at hl 0 rfl) ?_
    refine lv_iload_n hx hb dX5_isIn_1 rfl (lv_at hl 1 rfl) ?_
    refine lv_icmp_lt (tgt := 14) hx hb dX5_isIn_2 (by decide) (fun c2 => ?_) (fun c2 => ?_)
    · skip
      refine lv_iconst (v := 0) hx hb dX5_isIn_14 (by decide) ?_
      rw [hQQ]
      exact W.zret (v := 0) hx hb hr (by decide) (fun t ht hW => ⟨⟨0, (), rfl, (isW_lt c2).symm, trivial⟩, hS.F ht⟩) hS.2.2 dX5_isIn_15
    · skip
      refine lv_iload_n hx hb dX5_isIn_5 rfl (lv_at hl 0 rfl) ?_
      refine lv_iload_n hx hb dX5_isIn_6 rfl (lv_at hl 2 rfl) ?_
      refine lv_icmp_gt (tgt := 14) hx hb dX5_isIn_7 (by decide) (fun c7 => ?_) (fun c7 => ?_)
      · skip
        refine lv_iconst (v := 0) hx hb dX5_isIn_14 (by decide) ?_
        rw [hQQ]
        exact W.zret (v := 0) hx hb hr (by decide) (fun t ht hW => ⟨⟨0, (), rfl, (isW_gt c7).symm, trivial⟩, hS.F ht⟩) hS.2.2 dX5_isIn_15
      · skip
        refine lv_iconst (v := 1) hx hb dX5_isIn_10 (by decide) ?_
        refine lv_goto (tgt := 15) hx hb dX5_isIn_11 (by decide) ?_
        rw [hQQ]
        exact W.zret (v := 1) hx hb hr (by decide) (fun t ht hW => ⟨⟨1, (), rfl, (isW_in c2 c7).symm, trivial⟩, hS.F ht⟩) hS.2.2 dX5_isIn_15
  rw [hg1, hg2] at hgoal
  exact hgoal

set_option maxHeartbeats 4000000 in
set_option maxRecDepth 100000 in
/-- isLane -/
theorem K_X5_isLane (lch : Launch) (D : va_G) (cA : ClassId) (x : Int32) (sz : Nat)  : Met lch yX5_isLane wsX5_isLane ({ frames := 1, cells := 0, slots := 0, locals := 22 }) (Pr D cA [.int x] sz ([] : va_W) X0) (va_Qi (fun (r : Int32) (u : Unit) => r = bi (isW x 0 2)) (fun _ _ => True) (fun q : Nat => sz ≤ q)) 0 0 (fun q : Nat => sz ≤ q) := by
  refine Met.ofW (cc := cX5_isLane) (maxL := 1) (ret := (some .boolean)) (by decide) rfl ?_
  intro pg ev s mi args below meth cd s₁ B hml hv
  obtain ⟨hav, hsz, hP, hE, hD, hXs⟩ := hv
  have hx := B.exec
  have hb := B.bytes
  have hr := B.returns
  have hts := atoms_spec (ws := wsX5_isLane) B.pre
  have hown : s.vm.findClass RX5 = some mi.cls := findClass_of_methodNamed B.named
  have hlocks := B.notSynchronized
  clear B
  subst hav
  subst hsz
  have hA : ∀ q : Nat, s.heap.size ≤ q → (fun q : Nat => s.heap.size ≤ q) q := fun _ h => h
  have hS : va_S (fun q : Nat => s.heap.size ≤ q) s.heap s.heap [] := va_S.rf
  obtain ⟨QQ, hQQ⟩ : ∃ qq9, qq9 = MQ below (va_Qi (fun (r : Int32) (u : Unit) => r = bi (isW x 0 2)) (fun _ _ => True) (fun q : Nat => s.heap.size ≤ q)) ([.int x] : List Value).toArray s 0 0 (fun q : Nat => s.heap.size ≤ q) := ⟨_, rfl⟩
  rw [← hQQ]
  have hl := lv_entry ([.int x]) (n := 1) (Nat.le_of_ble_eq_true rfl)
  rw [lg_entry_eq]
  generalize (lg_sl ([.int x]) ++ List.replicate (1 - (lg_sl ([.int x])).length) Slot.unset).toArray = ls at hl ⊢
  have hl : lv_has ls 1 [(0, .int x)] := hl
  obtain ⟨H, locs, hP, hS, hgo⟩ : ∃ H locs, va_P D vwCl ([] : va_W) H ∧ va_S (fun q : Nat => s.heap.size ≤ q) s.heap H locs ∧ (H = s.heap ∧ locs = []) := ⟨_, _, hP, hS, rfl, rfl⟩
  obtain ⟨hg1, hg2⟩ := hgo
  have hgoal : W pg lch ev (headSpec wsX5_isLane ({ frames := 1, cells := 0, slots := 0, locals := 22 })).room s mi ([.int x] : List Value).toArray below meth cd H locs 0 0 QQ (F0 mi 0 ls []) := by
    refine lv_iload_n hx hb dX5_isLane_0 rfl (lv_at hl 0 rfl) ?_
    refine lv_iconst (v := 0) hx hb dX5_isLane_1 (by decide) ?_
    refine lv_iconst (v := 2) hx hb dX5_isLane_2 (by decide) ?_
    refine pSi (As := [.int x, .int 0, .int 2]) (rest := []) (wc := ([] : va_W)) ⟨hx, hb, hml, hown, hts⟩ (K_X5_isIn lch D cA x 0 2 H.size ) (cwS 3 hts gX5_isLane_X5_isIn rfl rfl rfl (by decide +kernel) ⟨Nat.le_of_ble_eq_true rfl, Nat.le_of_ble_eq_true rfl⟩) hE hP hD hS hA [] rfl rfl X0.blind (fun _ _ _ => trivial) hl.1 rfl rfl (Nat.le_of_ble_eq_true rfl) dX5_isLane_3 ⟨Nat.zero_le _, Nat.zero_le _⟩ (fun r_1 u_2 H locs h_3 hP hS => ?_)
    subst h_3
    rw [hQQ]
    exact W.zret (v := bi (isW x 0 2)) hx hb hr (nar_bi _) (fun t ht hW => ⟨⟨bi (isW x 0 2), (), rfl, rfl, trivial⟩, hS.F ht⟩) hS.2.2 dX5_isLane_6
  rw [hg1, hg2] at hgoal
  exact hgoal

set_option maxHeartbeats 4000000 in
set_option maxRecDepth 100000 in
/-- isPlace -/
theorem K_X5_isPlace (lch : Launch) (D : va_G) (cA : ClassId) (x : Int32) (sz : Nat)  : Met lch yX5_isPlace wsX5_isPlace ({ frames := 1, cells := 0, slots := 0, locals := 22 }) (Pr D cA [.int x] sz ([] : va_W) X0) (va_Qi (fun (r : Int32) (u : Unit) => r = bi (isW x 0 59)) (fun _ _ => True) (fun q : Nat => sz ≤ q)) 0 0 (fun q : Nat => sz ≤ q) := by
  refine Met.ofW (cc := cX5_isPlace) (maxL := 1) (ret := (some .boolean)) (by decide) rfl ?_
  intro pg ev s mi args below meth cd s₁ B hml hv
  obtain ⟨hav, hsz, hP, hE, hD, hXs⟩ := hv
  have hx := B.exec
  have hb := B.bytes
  have hr := B.returns
  have hts := atoms_spec (ws := wsX5_isPlace) B.pre
  have hown : s.vm.findClass RX5 = some mi.cls := findClass_of_methodNamed B.named
  have hlocks := B.notSynchronized
  clear B
  subst hav
  subst hsz
  have hA : ∀ q : Nat, s.heap.size ≤ q → (fun q : Nat => s.heap.size ≤ q) q := fun _ h => h
  have hS : va_S (fun q : Nat => s.heap.size ≤ q) s.heap s.heap [] := va_S.rf
  obtain ⟨QQ, hQQ⟩ : ∃ qq9, qq9 = MQ below (va_Qi (fun (r : Int32) (u : Unit) => r = bi (isW x 0 59)) (fun _ _ => True) (fun q : Nat => s.heap.size ≤ q)) ([.int x] : List Value).toArray s 0 0 (fun q : Nat => s.heap.size ≤ q) := ⟨_, rfl⟩
  rw [← hQQ]
  have hl := lv_entry ([.int x]) (n := 1) (Nat.le_of_ble_eq_true rfl)
  rw [lg_entry_eq]
  generalize (lg_sl ([.int x]) ++ List.replicate (1 - (lg_sl ([.int x])).length) Slot.unset).toArray = ls at hl ⊢
  have hl : lv_has ls 1 [(0, .int x)] := hl
  obtain ⟨H, locs, hP, hS, hgo⟩ : ∃ H locs, va_P D vwCl ([] : va_W) H ∧ va_S (fun q : Nat => s.heap.size ≤ q) s.heap H locs ∧ (H = s.heap ∧ locs = []) := ⟨_, _, hP, hS, rfl, rfl⟩
  obtain ⟨hg1, hg2⟩ := hgo
  have hgoal : W pg lch ev (headSpec wsX5_isPlace ({ frames := 1, cells := 0, slots := 0, locals := 22 })).room s mi ([.int x] : List Value).toArray below meth cd H locs 0 0 QQ (F0 mi 0 ls []) := by
    refine lv_iload_n hx hb dX5_isPlace_0 rfl (lv_at hl 0 rfl) ?_
    refine lv_iconst (v := 0) hx hb dX5_isPlace_1 (by decide) ?_
    refine lv_bipush (v := 59) hx hb dX5_isPlace_2 (by decide) ?_
    refine pSi (As := [.int x, .int 0, .int 59]) (rest := []) (wc := ([] : va_W)) ⟨hx, hb, hml, hown, hts⟩ (K_X5_isIn lch D cA x 0 59 H.size ) (cwS 3 hts gX5_isPlace_X5_isIn rfl rfl rfl (by decide +kernel) ⟨Nat.le_of_ble_eq_true rfl, Nat.le_of_ble_eq_true rfl⟩) hE hP hD hS hA [] rfl rfl X0.blind (fun _ _ _ => trivial) hl.1 rfl rfl (Nat.le_of_ble_eq_true rfl) dX5_isPlace_4 ⟨Nat.zero_le _, Nat.zero_le _⟩ (fun r_1 u_2 H locs h_3 hP hS => ?_)
    subst h_3
    rw [hQQ]
    exact W.zret (v := bi (isW x 0 59)) hx hb hr (nar_bi _) (fun t ht hW => ⟨⟨bi (isW x 0 59), (), rfl, rfl, trivial⟩, hS.F ht⟩) hS.2.2 dX5_isPlace_7
  rw [hg1, hg2] at hgoal
  exact hgoal

set_option maxHeartbeats 4000000 in
set_option maxRecDepth 100000 in
/-- isLantern -/
theorem K_X5_isLantern (lch : Launch) (D : va_G) (cA : ClassId) (y : Nat) (E : Nat → Nat) (S : Nat → Nat) (T : Nat → Nat) (th : Int32) (b : BSt) (a : FSt) (q : Nat → Int32) (a2 : FSt) (q2 : Nat → Int32) (k : Int32) (sz : Nat)  : Met lch yX5_isLantern wsX5_isLantern ({ frames := 1, cells := 0, slots := 0, locals := 22 }) (Pr D cA [.ref y, .int k] sz ((wM cA y E (S 0) (T 0) th b) ++ ((wS cA S y a q) ++ (wS cA T y a2 q2))) X0) (va_Qi (fun (r : Int32) (u : Unit) => r = bi (isLan a k)) (fun _ _ => True) (fun q : Nat => sz ≤ q)) 0 0 (fun q : Nat => sz ≤ q) := by
  refine Met.ofW (cc := cX5_isLantern) (maxL := 2) (ret := (some .boolean)) (by decide) rfl ?_
  intro pg ev s mi args below meth cd s₁ B hml hv
  obtain ⟨hav, hsz, hP, hE, hD, hXs⟩ := hv
  have hx := B.exec
  have hb := B.bytes
  have hr := B.returns
  have hts := atoms_spec (ws := wsX5_isLantern) B.pre
  have hown : s.vm.findClass RX5 = some mi.cls := findClass_of_methodNamed B.named
  have hlocks := B.notSynchronized
  clear B
  subst hav
  subst hsz
  have hA : ∀ q : Nat, s.heap.size ≤ q → (fun q : Nat => s.heap.size ≤ q) q := fun _ h => h
  have hS : va_S (fun q : Nat => s.heap.size ≤ q) s.heap s.heap [] := va_S.rf
  obtain ⟨QQ, hQQ⟩ : ∃ qq9, qq9 = MQ below (va_Qi (fun (r : Int32) (u : Unit) => r = bi (isLan a k)) (fun _ _ => True) (fun q : Nat => s.heap.size ≤ q)) ([.ref y, .int k] : List Value).toArray s 0 0 (fun q : Nat => s.heap.size ≤ q) := ⟨_, rfl⟩
  rw [← hQQ]
  have hl := lv_entry ([.ref y, .int k]) (n := 2) (Nat.le_of_ble_eq_true rfl)
  rw [lg_entry_eq]
  generalize (lg_sl ([.ref y, .int k]) ++ List.replicate (2 - (lg_sl ([.ref y, .int k])).length) Slot.unset).toArray = ls at hl ⊢
  have hl : lv_has ls 2 [(0, .ref y), (1, .int k)] := hl
  have kf24 := hts (.fieldLink RX5 24 "LanternWeirsModel" "s" "LLanternWeirsModel$State;") (by decide +kernel)
  have inX5 : ∀ w ∈ u_ws RX5 TX5 8, w ∈ wsX5_isLantern := by decide +kernel
  have kf39 := va_Nw.use (A := ([.ref y, .int k] : List Value).toArray) rfl (hE.2.2 (.fieldLinkNest "LanternWeirsModel" 39 "LanternWeirsModel$State" "lanterns" "I" "LanternWeirsModel") (by decide +kernel))
  have inX4 : ∀ w ∈ u_ws RX4 TX4 13, w ∈ wsX5_isLantern := by decide +kernel
  obtain ⟨H, locs, hP, hS, hgo⟩ : ∃ H locs, va_P D vwCl ((wM cA y E (S 0) (T 0) th b) ++ ((wS cA S y a q) ++ (wS cA T y a2 q2))) H ∧ va_S (fun q : Nat => s.heap.size ≤ q) s.heap H locs ∧ (H = s.heap ∧ locs = []) := ⟨_, _, hP, hS, rfl, rfl⟩
  obtain ⟨hg1, hg2⟩ := hgo
  have hgoal : W pg lch ev (headSpec wsX5_isLantern ({ frames := 1, cells := 0, slots := 0, locals := 22 })).room s mi ([.ref y, .int k] : List Value).toArray below meth cd H locs 0 0 QQ (F0 mi 0 ls []) := by
    refine lv_iload_n hx hb dX5_isLantern_0 rfl (lv_at hl 1 rfl) ?_
    refine lv_iconst (v := 0) hx hb dX5_isLantern_1 (by decide) ?_
    refine lv_aload_n hx hb dX5_isLantern_2 rfl (lv_at hl 0 rfl) ?_
    refine va_get (D := D) (ci := 5) (v := .ref (S 0)) (C := RX5) (T := TX5) (N := 8) hx hb hts inX5 hown hE.1 hP 0 rfl rfl 6 (by decide) kf24 (fun _ h9 => h9) rfl dX5_isLantern_3 ?_
    refine va_getN (D := D) (ci := 4) (v := .int (nI (qN a))) (C := RX4) (T := TX4) (N := 13) hx hb hts inX4 hown hE.1 hP 4 rfl rfl 1 (by decide) kf39 (fun _ h9 => h9) rfl dX5_isLantern_6 ?_
    refine lv_iconst (v := 1) hx hb dX5_isLantern_9 (by decide) ?_
    refine lv_isub hx hb dX5_isLantern_10 ?_
    refine top_i (y := nI (qN a) - 1) (rfl) ?_
    refine pSi (As := [.int k, .int 0, .int (nI (qN a) - 1)]) (rest := []) (wc := ([] : va_W)) ⟨hx, hb, hml, hown, hts⟩ (K_X5_isIn lch D cA k 0 (nI (qN a) - 1) H.size ) (cwS 3 hts gX5_isLantern_X5_isIn rfl rfl rfl (by decide +kernel) ⟨Nat.le_of_ble_eq_true rfl, Nat.le_of_ble_eq_true rfl⟩) hE hP hD hS hA [] rfl rfl X0.blind (fun _ _ _ => trivial) hl.1 rfl rfl (Nat.le_of_ble_eq_true rfl) dX5_isLantern_11 ⟨Nat.zero_le _, Nat.zero_le _⟩ (fun r_1 u_2 H locs h_3 hP hS => ?_)
    subst h_3
    rw [hQQ]
    exact W.zret (v := bi (isW k 0 (nI (qN a) - 1))) hx hb hr (nar_bi _) (fun t ht hW => ⟨⟨bi (isW k 0 (nI (qN a) - 1)), (), rfl, rfl, trivial⟩, hS.F ht⟩) hS.2.2 dX5_isLantern_14
  rw [hg1, hg2] at hgoal
  exact hgoal

set_option maxHeartbeats 4000000 in
set_option maxRecDepth 100000 in
/-- thrown -/
theorem K_X5_thrown (lch : Launch) (D : va_G) (cA : ClassId) (y : Nat) (E : Nat → Nat) (S : Nat → Nat) (T : Nat → Nat) (th : Int32) (b : BSt) (a : FSt) (q : Nat → Int32) (a2 : FSt) (q2 : Nat → Int32) (sz : Nat)  : Met lch yX5_thrown wsX5_thrown ({ frames := 0, cells := 0, slots := 0, locals := 0 }) (Pr D cA [.ref y] sz ((wM cA y E (S 0) (T 0) th b) ++ ((wS cA S y a q) ++ (wS cA T y a2 q2))) X0) (va_Qi (fun (r : Int32) (u : Unit) => r = th) (fun _ _ => True) (fun q : Nat => sz ≤ q)) 0 0 (fun q : Nat => sz ≤ q) := by
  refine Met.ofW (cc := cX5_thrown) (maxL := 1) (ret := (some .int)) (by decide) rfl ?_
  intro pg ev s mi args below meth cd s₁ B hml hv
  obtain ⟨hav, hsz, hP, hE, hD, hXs⟩ := hv
  have hx := B.exec
  have hb := B.bytes
  have hr := B.returns
  have hts := atoms_spec (ws := wsX5_thrown) B.pre
  have hown : s.vm.findClass RX5 = some mi.cls := findClass_of_methodNamed B.named
  have hlocks := B.notSynchronized
  clear B
  subst hav
  subst hsz
  have hA : ∀ q : Nat, s.heap.size ≤ q → (fun q : Nat => s.heap.size ≤ q) q := fun _ h => h
  have hS : va_S (fun q : Nat => s.heap.size ≤ q) s.heap s.heap [] := va_S.rf
  obtain ⟨QQ, hQQ⟩ : ∃ qq9, qq9 = MQ below (va_Qi (fun (r : Int32) (u : Unit) => r = th) (fun _ _ => True) (fun q : Nat => s.heap.size ≤ q)) ([.ref y] : List Value).toArray s 0 0 (fun q : Nat => s.heap.size ≤ q) := ⟨_, rfl⟩
  rw [← hQQ]
  have hl := lv_entry ([.ref y]) (n := 1) (Nat.le_of_ble_eq_true rfl)
  rw [lg_entry_eq]
  generalize (lg_sl ([.ref y]) ++ List.replicate (1 - (lg_sl ([.ref y])).length) Slot.unset).toArray = ls at hl ⊢
  have hl : lv_has ls 1 [(0, .ref y)] := hl
  have kf31 := hts (.fieldLink RX5 31 "LanternWeirsModel" "thrown" "I") (by decide +kernel)
  have inX5 : ∀ w ∈ u_ws RX5 TX5 8, w ∈ wsX5_thrown := by decide +kernel
  obtain ⟨H, locs, hP, hS, hgo⟩ : ∃ H locs, va_P D vwCl ((wM cA y E (S 0) (T 0) th b) ++ ((wS cA S y a q) ++ (wS cA T y a2 q2))) H ∧ va_S (fun q : Nat => s.heap.size ≤ q) s.heap H locs ∧ (H = s.heap ∧ locs = []) := ⟨_, _, hP, hS, rfl, rfl⟩
  obtain ⟨hg1, hg2⟩ := hgo
  have hgoal : W pg lch ev (headSpec wsX5_thrown ({ frames := 0, cells := 0, slots := 0, locals := 0 })).room s mi ([.ref y] : List Value).toArray below meth cd H locs 0 0 QQ (F0 mi 0 ls []) := by
    refine lv_aload_n hx hb dX5_thrown_0 rfl (lv_at hl 0 rfl) ?_
    refine va_get (D := D) (ci := 5) (v := .int th) (C := RX5) (T := TX5) (N := 8) hx hb hts inX5 hown hE.1 hP 0 rfl rfl 0 (by decide) kf31 (fun _ h9 => h9) rfl dX5_thrown_1 ?_
    rw [hQQ]
    exact W.iret (v := th) hx hb hr (fun t ht hW => ⟨⟨th, (), rfl, rfl, trivial⟩, hS.F ht⟩) hS.2.2 dX5_thrown_4
  rw [hg1, hg2] at hgoal
  exact hgoal

set_option maxHeartbeats 4000000 in
set_option maxRecDepth 100000 in
/-- no -/
theorem K_X5_no (lch : Launch) (D : va_G) (cA : ClassId) (y : Nat) (E : Nat → Nat) (S : Nat → Nat) (T : Nat → Nat) (th : Int32) (b : BSt) (a : FSt) (q : Nat → Int32) (a2 : FSt) (q2 : Nat → Int32) (k : Int32) (sz : Nat)  : Met lch yX5_no wsX5_no ({ frames := 0, cells := 0, slots := 0, locals := 0 }) (Pr D cA [.ref y, .int k] sz ((wM cA y E (S 0) (T 0) th b) ++ ((wS cA S y a q) ++ (wS cA T y a2 q2))) X0) (va_Qi (fun (r : Int32) (u : Unit) => r = 0) (fun (u : Unit) t => va_P D vwCl ((wM cA y E (S 0) (T 0) k b) ++ ((wS cA S y a q) ++ (wS cA T y a2 q2))) t.heap) (va_A ((wM cA y E (S 0) (T 0) th b) ++ ((wS cA S y a q) ++ (wS cA T y a2 q2))) sz)) 0 0 (va_A ((wM cA y E (S 0) (T 0) th b) ++ ((wS cA S y a q) ++ (wS cA T y a2 q2))) sz) := by
  refine Met.ofW (cc := cX5_no) (maxL := 2) (ret := (some .int)) (by decide) rfl ?_
  intro pg ev s mi args below meth cd s₁ B hml hv
  obtain ⟨hav, hsz, hP, hE, hD, hXs⟩ := hv
  have hx := B.exec
  have hb := B.bytes
  have hr := B.returns
  have hts := atoms_spec (ws := wsX5_no) B.pre
  have hown : s.vm.findClass RX5 = some mi.cls := findClass_of_methodNamed B.named
  have hlocks := B.notSynchronized
  clear B
  subst hav
  subst hsz
  have hD := hD.self (sz := s.heap.size)
  generalize hAe : va_A ((wM cA y E (S 0) (T 0) th b) ++ ((wS cA S y a q) ++ (wS cA T y a2 q2))) s.heap.size = A at hD ⊢
  have hA : ∀ q : Nat, s.heap.size ≤ q → A q := fun q h => by rw [← hAe]; exact Or.inr h
  have hS : va_S A s.heap s.heap [] := va_S.rf
  obtain ⟨QQ, hQQ⟩ : ∃ qq9, qq9 = MQ below (va_Qi (fun (r : Int32) (u : Unit) => r = 0) (fun (u : Unit) t => va_P D vwCl ((wM cA y E (S 0) (T 0) k b) ++ ((wS cA S y a q) ++ (wS cA T y a2 q2))) t.heap) A) ([.ref y, .int k] : List Value).toArray s 0 0 A := ⟨_, rfl⟩
  rw [← hQQ]
  have hl := lv_entry ([.ref y, .int k]) (n := 2) (Nat.le_of_ble_eq_true rfl)
  rw [lg_entry_eq]
  generalize (lg_sl ([.ref y, .int k]) ++ List.replicate (2 - (lg_sl ([.ref y, .int k])).length) Slot.unset).toArray = ls at hl ⊢
  have hl : lv_has ls 2 [(0, .ref y), (1, .int k)] := hl
  have kf31 := hts (.fieldLink RX5 31 "LanternWeirsModel" "thrown" "I") (by decide +kernel)
  have inX5 : ∀ w ∈ u_ws RX5 TX5 8, w ∈ wsX5_no := by decide +kernel
  obtain ⟨H, locs, hP, hS, hgo⟩ : ∃ H locs, va_P D vwCl ((wM cA y E (S 0) (T 0) th b) ++ ((wS cA S y a q) ++ (wS cA T y a2 q2))) H ∧ va_S A s.heap H locs ∧ (H = s.heap ∧ locs = []) := ⟨_, _, hP, hS, rfl, rfl⟩
  obtain ⟨hg1, hg2⟩ := hgo
  have hgoal : W pg lch ev (headSpec wsX5_no ({ frames := 0, cells := 0, slots := 0, locals := 0 })).room s mi ([.ref y, .int k] : List Value).toArray below meth cd H locs 0 0 QQ (F0 mi 0 ls []) := by
    refine lv_aload_n hx hb dX5_no_0 rfl (lv_at hl 0 rfl) ?_
    refine lv_iload_n hx hb dX5_no_1 rfl (lv_at hl 1 rfl) ?_
    refine va_put (D := D) (ci := 5) (v := .int k) (ty := .int) (C := RX5) (T := TX5) (N := 8) hx hb hts inX5 tyX5 tyX5_ok nmX5 hown hE.1 hP hD hS 0 rfl rfl 0 (by decide) kf31 (fun _ h9 => h9) rfl (by decide +kernel) rfl rfl (Nat.le_of_ble_eq_true rfl) dX5_no_2 (fun H locs hP hD hS => ?_)
    have hP : va_P D vwCl ((wM cA y E (S 0) (T 0) k b) ++ ((wS cA S y a q) ++ (wS cA T y a2 q2))) H := hP
    have hD : va_D A ((wM cA y E (S 0) (T 0) k b) ++ ((wS cA S y a q) ++ (wS cA T y a2 q2))) := hD
    refine lv_iconst (v := 0) hx hb dX5_no_5 (by decide) ?_
    rw [hQQ]
    exact W.iret (v := 0) hx hb hr (fun t ht hW => ⟨⟨0, (), rfl, rfl, by show va_P _ _ _ t.heap; rw [ht]; exact hP⟩, hS.F ht⟩) hS.2.2 dX5_no_6
  rw [hg1, hg2] at hgoal
  exact hgoal
