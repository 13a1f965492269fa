set_option maxHeartbeats 4000000 in
set_option maxRecDepth 100000 in
/-- cell -/
theorem K_X1_cell (lch : Launch) (D : va_G) (cA : ClassId) (l : Nat) (p : Nat) (f : Nat) (sz : Nat) (hp : p < 100) : Met lch yX1_cell wsX1_cell ({ frames := 0, cells := 0, slots := 0, locals := 0 }) (Pr D cA [.int (nI l), .int (nI p), .int (nI f)] sz ([] : va_W) X0) (va_Qi (fun (r : Int32) (u : Unit) => r = ck l p f) (fun _ _ => True) (fun q : Nat => sz ≤ q)) 0 0 (fun q : Nat => sz ≤ q) := by
  refine Met.ofW (cc := cX1_cell) (maxL := 3) (ret := (some .int)) (by decide) rfl ?_
  intro pg ev s mi args below meth cd s₁ B hml hv
  obtain ⟨hav, hsz, hP, hE, hD, hXs⟩ := hv
  have hx := B.exec
  have hb := B.bytes
  have hr := B.returns
  have hts := atoms_spec (ws := wsX1_cell) B.pre
  have hown : s.vm.findClass RX1 = some mi.cls := findClass_of_methodNamed B.named
  have hlocks := B.notSynchronized
  clear B
  subst hav
  subst hsz
  have hA : ∀ q : Nat, s.heap.size ≤ q → (fun q : Nat => s.heap.size ≤ q) q := fun _ h => h
  have hS : va_S (fun q : Nat => s.heap.size ≤ q) s.heap s.heap [] := va_S.rf
  obtain ⟨QQ, hQQ⟩ : ∃ qq9, qq9 = MQ below (va_Qi (fun (r : Int32) (u : Unit) => r = ck l p f) (fun _ _ => True) (fun q : Nat => s.heap.size ≤ q)) ([.int (nI l), .int (nI p), .int (nI f)] : List Value).toArray s 0 0 (fun q : Nat => s.heap.size ≤ q) := ⟨_, rfl⟩
  rw [← hQQ]
  have hl := lv_entry ([.int (nI l), .int (nI p), .int (nI f)]) (n := 3) (Nat.le_of_ble_eq_true rfl)
  rw [lg_entry_eq]
  generalize (lg_sl ([.int (nI l), .int (nI p), .int (nI f)]) ++ List.replicate (3 - (lg_sl ([.int (nI l), .int (nI p), .int (nI f)])).length) Slot.unset).toArray = ls at hl ⊢
  have hl : lv_has ls 3 [(0, .int (nI l)), (1, .int (nI p)), (2, .int (nI f))] := hl
  obtain ⟨H, locs, hP, hS, hgo⟩ : ∃ H locs, va_P D vwCl ([] : va_W) H ∧ va_S (fun q : Nat => s.heap.size ≤ q) s.heap H locs ∧ (H = s.heap ∧ locs = []) := ⟨_, _, hP, hS, rfl, rfl⟩
  obtain ⟨hg1, hg2⟩ := hgo
  have hgoal : W pg lch ev (headSpec wsX1_cell ({ frames := 0, cells := 0, slots := 0, locals := 0 })).room s mi ([.int (nI l), .int (nI p), .int (nI f)] : List Value).toArray below meth cd H locs 0 0 QQ (F0 mi 0 ls []) := by
    refine lv_iload_n hx hb dX1_cell_0 rfl (lv_at hl 1 rfl) ?_
    refine lv_bipush (v := 60) hx hb dX1_cell_1 (by decide) ?_
    refine lv_icmp_ge (tgt := 19) hx hb dX1_cell_3 (by decide) (fun c3 => ?_) (fun c3 => ?_)
    · skip
      have c3 := (nI_leI (a := 60) (b := p) (by omega) (by omega)).mp c3
      refine lv_iconst (v := (-1)) hx hb dX1_cell_19 (by decide) ?_
      rw [hQQ]
      exact W.iret (v := (-1)) hx hb hr (fun t ht hW => ⟨⟨(-1), (), rfl, ck_out c3, trivial⟩, hS.F ht⟩) hS.2.2 dX1_cell_20
    · skip
      have c3 := (not_congr (nI_leI (a := 60) (b := p) (by omega) (by omega))).mp c3
      refine lv_iload_n hx hb dX1_cell_6 rfl (lv_at hl 0 rfl) ?_
      refine lv_bipush (v := 60) hx hb dX1_cell_7 (by decide) ?_
      refine lv_imul hx hb dX1_cell_9 ?_
      refine top_i (y := nI (l * 60)) (pk_mul _ _) ?_
      refine lv_iload_n hx hb dX1_cell_10 rfl (lv_at hl 1 rfl) ?_
      refine lv_iadd hx hb dX1_cell_11 ?_
      refine top_i (y := nI ((l * 60) + p)) (nI_add _ _) ?_
      refine lv_iconst (v := 3) hx hb dX1_cell_12 (by decide) ?_
      refine lv_imul hx hb dX1_cell_13 ?_
      refine top_i (y := nI (((l * 60) + p) * 3)) (pk_mul _ _) ?_
      refine lv_iload_n hx hb dX1_cell_14 rfl (lv_at hl 2 rfl) ?_
      refine lv_iadd hx hb dX1_cell_15 ?_
      refine top_i (y := nI ((((l * 60) + p) * 3) + f)) (nI_add _ _) ?_
      refine lv_goto (tgt := 20) hx hb dX1_cell_16 (by decide) ?_
      rw [hQQ]
      exact W.iret (v := nI ((((l * 60) + p) * 3) + f)) hx hb hr (fun t ht hW => ⟨⟨nI ((((l * 60) + p) * 3) + f), (), rfl, ck_in c3, trivial⟩, hS.F ht⟩) hS.2.2 dX1_cell_20
  rw [hg1, hg2] at hgoal
  exact hgoal

set_option maxHeartbeats 4000000 in
set_option maxRecDepth 100000 in
/-- has -/
theorem K_X1_has (lch : Launch) (D : va_G) (cA : ClassId) (F : Nat → Nat) (a : FSt) (c : Nat → Int32) (q : Nat → Int32) (k : Int32) (sz : Nat)  : Met lch yX1_has wsX1_has ({ frames := 1, cells := 0, slots := 0, locals := 22 }) (Pr D cA [.ref (F 0), .int k] sz (wF cA F a c q) X0) (va_Qi (fun (r : Int32) (u : Unit) => r = bi (isW k 0 (nI (qN a) - 1))) (fun _ _ => True) (fun q : Nat => sz ≤ q)) 0 0 (fun q : Nat => sz ≤ q) := by
  refine Met.ofW (cc := cX1_has) (maxL := 2) (ret := (some .boolean)) (by decide) rfl ?_
  intro pg ev s mi args below meth cd s₁ B hml hv
  obtain ⟨hav, hsz, hP, hE, hD, hXs⟩ := hv
  have hx := B.exec
  have hb := B.bytes
  have hr := B.returns
  have hts := atoms_spec (ws := wsX1_has) B.pre
  have hown : s.vm.findClass RX1 = some mi.cls := findClass_of_methodNamed B.named
  have hlocks := B.notSynchronized
  clear B
  subst hav
  subst hsz
  have hA : ∀ q : Nat, s.heap.size ≤ q → (fun q : Nat => s.heap.size ≤ q) q := fun _ h => h
  have hS : va_S (fun q : Nat => s.heap.size ≤ q) s.heap s.heap [] := va_S.rf
  obtain ⟨QQ, hQQ⟩ : ∃ qq9, qq9 = MQ below (va_Qi (fun (r : Int32) (u : Unit) => r = bi (isW k 0 (nI (qN a) - 1))) (fun _ _ => True) (fun q : Nat => s.heap.size ≤ q)) ([.ref (F 0), .int k] : List Value).toArray s 0 0 (fun q : Nat => s.heap.size ≤ q) := ⟨_, rfl⟩
  rw [← hQQ]
  have hl := lv_entry ([.ref (F 0), .int k]) (n := 2) (Nat.le_of_ble_eq_true rfl)
  rw [lg_entry_eq]
  generalize (lg_sl ([.ref (F 0), .int k]) ++ List.replicate (2 - (lg_sl ([.ref (F 0), .int k])).length) Slot.unset).toArray = ls at hl ⊢
  have hl : lv_has ls 2 [(0, .ref (F 0)), (1, .int k)] := hl
  have kf54 := hts (.fieldLink RX1 54 "LanternWeirs$Fleet" "size" "I") (by decide +kernel)
  have inX1 : ∀ w ∈ u_ws RX1 TX1 13, w ∈ wsX1_has := by decide +kernel
  have kw2 := hts (.initialized RX3) (by decide +kernel)
  have kw3 := hts (.static yX3_isWithin) (by decide +kernel)
  obtain ⟨H, locs, hP, hS, hgo⟩ : ∃ H locs, va_P D vwCl (wF cA F a c q) H ∧ va_S (fun q : Nat => s.heap.size ≤ q) s.heap H locs ∧ (H = s.heap ∧ locs = []) := ⟨_, _, hP, hS, rfl, rfl⟩
  obtain ⟨hg1, hg2⟩ := hgo
  have hgoal : W pg lch ev (headSpec wsX1_has ({ frames := 1, cells := 0, slots := 0, locals := 22 })).room s mi ([.ref (F 0), .int k] : List Value).toArray below meth cd H locs 0 0 QQ (F0 mi 0 ls []) := by
    refine lv_iload_n hx hb dX1_has_0 rfl (lv_at hl 1 rfl) ?_
    refine lv_iconst (v := 0) hx hb dX1_has_1 (by decide) ?_
    refine lv_aload_n hx hb dX1_has_2 rfl (lv_at hl 0 rfl) ?_
    refine va_get (D := D) (ci := 1) (v := .int (nI (qN a))) (C := RX1) (T := TX1) (N := 13) hx hb hts inX1 hown hE.1 hP 0 rfl rfl 11 (by decide) kf54 (fun _ h9 => h9) rfl dX1_has_3 ?_
    refine lv_iconst (v := 1) hx hb dX1_has_6 (by decide) ?_
    refine lv_isub hx hb dX1_has_7 ?_
    refine top_i (y := nI (qN a) - 1) (rfl) ?_
    refine pNi (As := [.int k, .int 0, .int (nI (qN a) - 1)]) (rest := []) (wc := ([] : va_W)) ⟨hx, hb, hml, hown, hts⟩ (K_X3_isWithin lch D cA k 0 (nI (qN a) - 1) H.size ) ⟨va_cnB 3 hts gX1_has_X3_isWithin_n72 rfl rfl rfl (hE.2.2 (.methodLinkNest "LanternWeirs$Fleet" 72 ⟨"LanternWeirs", "isWithin", "(III)Z"⟩ "LanternWeirs") (by decide +kernel)) kw2 (by decide +kernel) ⟨Nat.le_of_ble_eq_true rfl, Nat.le_of_ble_eq_true rfl⟩, kw3, trivial⟩ hE hP hD hS hA [] rfl rfl X0.blind (fun _ _ _ => trivial) hl.1 rfl rfl (Nat.le_of_ble_eq_true rfl) dX1_has_8 ⟨Nat.zero_le _, Nat.zero_le _⟩ (fun r_1 u_2 H locs h_3 hP hS => ?_)
    subst h_3
    rw [hQQ]
    exact W.zret (v := bi (isW k 0 (nI (qN a) - 1))) hx hb hr (nar_bi _) (fun t ht hW => ⟨⟨bi (isW k 0 (nI (qN a) - 1)), (), rfl, rfl, trivial⟩, hS.F ht⟩) hS.2.2 dX1_has_11
  rw [hg1, hg2] at hgoal
  exact hgoal

set_option maxHeartbeats 4000000 in
set_option maxRecDepth 100000 in
/-- has, of one that is there -/
theorem K_X1_hask (lch : Launch) (D : va_G) (cA : ClassId) (F : Nat → Nat) (a : FSt) (c : Nat → Int32) (q : Nat → Int32) (i : Nat) (sz : Nat) (hi : i < qN a) (hn : qN a ≤ 41) : Met lch yX1_has wsX1_has ({ frames := 1, cells := 0, slots := 0, locals := 22 }) (Pr D cA [.ref (F 0), .int (nI i)] sz (wF cA F a c q) X0) (va_Qi (fun (r : Int32) (u : Unit) => r = bi true) (fun _ _ => True) (fun q : Nat => sz ≤ q)) 0 0 (fun q : Nat => sz ≤ q) := by
  refine Met.ofW (cc := cX1_has) (maxL := 2) (ret := (some .boolean)) (by decide) rfl ?_
  intro pg ev s mi args below meth cd s₁ B hml hv
  obtain ⟨hav, hsz, hP, hE, hD, hXs⟩ := hv
  have hx := B.exec
  have hb := B.bytes
  have hr := B.returns
  have hts := atoms_spec (ws := wsX1_has) B.pre
  have hown : s.vm.findClass RX1 = some mi.cls := findClass_of_methodNamed B.named
  have hlocks := B.notSynchronized
  clear B
  subst hav
  subst hsz
  have hA : ∀ q : Nat, s.heap.size ≤ q → (fun q : Nat => s.heap.size ≤ q) q := fun _ h => h
  have hS : va_S (fun q : Nat => s.heap.size ≤ q) s.heap s.heap [] := va_S.rf
  obtain ⟨QQ, hQQ⟩ : ∃ qq9, qq9 = MQ below (va_Qi (fun (r : Int32) (u : Unit) => r = bi true) (fun _ _ => True) (fun q : Nat => s.heap.size ≤ q)) ([.ref (F 0), .int (nI i)] : List Value).toArray s 0 0 (fun q : Nat => s.heap.size ≤ q) := ⟨_, rfl⟩
  rw [← hQQ]
  have hl := lv_entry ([.ref (F 0), .int (nI i)]) (n := 2) (Nat.le_of_ble_eq_true rfl)
  rw [lg_entry_eq]
  generalize (lg_sl ([.ref (F 0), .int (nI i)]) ++ List.replicate (2 - (lg_sl ([.ref (F 0), .int (nI i)])).length) Slot.unset).toArray = ls at hl ⊢
  have hl : lv_has ls 2 [(0, .ref (F 0)), (1, .int (nI i))] := hl
  have kf54 := hts (.fieldLink RX1 54 "LanternWeirs$Fleet" "size" "I") (by decide +kernel)
  have inX1 : ∀ w ∈ u_ws RX1 TX1 13, w ∈ wsX1_has := by decide +kernel
  have kw2 := hts (.initialized RX3) (by decide +kernel)
  have kw3 := hts (.static yX3_isWithin) (by decide +kernel)
  obtain ⟨H, locs, hP, hS, hgo⟩ : ∃ H locs, va_P D vwCl (wF cA F a c q) H ∧ va_S (fun q : Nat => s.heap.size ≤ q) s.heap H locs ∧ (H = s.heap ∧ locs = []) := ⟨_, _, hP, hS, rfl, rfl⟩
  obtain ⟨hg1, hg2⟩ := hgo
  have hgoal : W pg lch ev (headSpec wsX1_has ({ frames := 1, cells := 0, slots := 0, locals := 22 })).room s mi ([.ref (F 0), .int (nI i)] : List Value).toArray below meth cd H locs 0 0 QQ (F0 mi 0 ls []) := by
    refine lv_iload_n hx hb dX1_has_0 rfl (lv_at hl 1 rfl) ?_
    refine lv_iconst (v := 0) hx hb dX1_has_1 (by decide) ?_
    refine lv_aload_n hx hb dX1_has_2 rfl (lv_at hl 0 rfl) ?_
    refine va_get (D := D) (ci := 1) (v := .int (nI (qN a))) (C := RX1) (T := TX1) (N := 13) hx hb hts inX1 hown hE.1 hP 0 rfl rfl 11 (by decide) kf54 (fun _ h9 => h9) rfl dX1_has_3 ?_
    refine lv_iconst (v := 1) hx hb dX1_has_6 (by decide) ?_
    refine lv_isub hx hb dX1_has_7 ?_
    refine top_i (y := nI (qN a) - 1) (rfl) ?_
    refine pNi (As := [.int (nI i), .int 0, .int (nI (qN a) - 1)]) (rest := []) (wc := ([] : va_W)) ⟨hx, hb, hml, hown, hts⟩ (K_X3_isWithin lch D cA (nI i) 0 (nI (qN a) - 1) H.size ) ⟨va_cnB 3 hts gX1_has_X3_isWithin_n72 rfl rfl rfl (hE.2.2 (.methodLinkNest "LanternWeirs$Fleet" 72 ⟨"LanternWeirs", "isWithin", "(III)Z"⟩ "LanternWeirs") (by decide +kernel)) kw2 (by decide +kernel) ⟨Nat.le_of_ble_eq_true rfl, Nat.le_of_ble_eq_true rfl⟩, kw3, trivial⟩ hE hP hD hS hA [] rfl rfl X0.blind (fun _ _ _ => trivial) hl.1 rfl rfl (Nat.le_of_ble_eq_true rfl) dX1_has_8 ⟨Nat.zero_le _, Nat.zero_le _⟩ (fun r_1 u_2 H locs h_3 hP hS => ?_)
    subst h_3
    rw [hQQ]
    exact W.zret (v := bi (isW (nI i) 0 (nI (qN a) - 1))) hx hb hr (nar_bi _) (fun t ht hW => ⟨⟨bi (isW (nI i) 0 (nI (qN a) - 1)), (), rfl, by rw [isW_lan hi hn], trivial⟩, hS.F ht⟩) hS.2.2 dX1_has_11
  rw [hg1, hg2] at hgoal
  exact hgoal

set_option maxHeartbeats 4000000 in
set_option maxRecDepth 100000 in
/-- isAfloat -/
theorem K_X1_isAfloat (lch : Launch) (D : va_G) (cA : ClassId) (F : Nat → Nat) (a : FSt) (c : Nat → Int32) (q : Nat → Int32) (i : Nat) (sz : Nat) (hi : i < qN a) (hn : qN a ≤ 41) (hs : qSt a i < 3) : Met lch yX1_isAfloat wsX1_isAfloat ({ frames := 2, cells := 0, slots := 0, locals := 43 }) (Pr D cA [.ref (F 0), .int (nI i)] sz (wF cA F a c q) X0) (va_Qi (fun (r : Int32) (u : Unit) => r = bi (qSt a i == 0)) (fun _ _ => True) (fun q : Nat => sz ≤ q)) 0 0 (fun q : Nat => sz ≤ q) := by
  refine Met.ofW (cc := cX1_isAfloat) (maxL := 2) (ret := (some .boolean)) (by decide) rfl ?_
  intro pg ev s mi args below meth cd s₁ B hml hv
  obtain ⟨hav, hsz, hP, hE, hD, hXs⟩ := hv
  have hx := B.exec
  have hb := B.bytes
  have hr := B.returns
  have hts := atoms_spec (ws := wsX1_isAfloat) B.pre
  have hown : s.vm.findClass RX1 = some mi.cls := findClass_of_methodNamed B.named
  have hlocks := B.notSynchronized
  clear B
  subst hav
  subst hsz
  have hA : ∀ q : Nat, s.heap.size ≤ q → (fun q : Nat => s.heap.size ≤ q) q := fun _ h => h
  have hS : va_S (fun q : Nat => s.heap.size ≤ q) s.heap s.heap [] := va_S.rf
  obtain ⟨QQ, hQQ⟩ : ∃ qq9, qq9 = MQ below (va_Qi (fun (r : Int32) (u : Unit) => r = bi (qSt a i == 0)) (fun _ _ => True) (fun q : Nat => s.heap.size ≤ q)) ([.ref (F 0), .int (nI i)] : List Value).toArray s 0 0 (fun q : Nat => s.heap.size ≤ q) := ⟨_, rfl⟩
  rw [← hQQ]
  have hl := lv_entry ([.ref (F 0), .int (nI i)]) (n := 2) (Nat.le_of_ble_eq_true rfl)
  rw [lg_entry_eq]
  generalize (lg_sl ([.ref (F 0), .int (nI i)]) ++ List.replicate (2 - (lg_sl ([.ref (F 0), .int (nI i)])).length) Slot.unset).toArray = ls at hl ⊢
  have hl : lv_has ls 2 [(0, .ref (F 0)), (1, .int (nI i))] := hl
  have kf38 := hts (.fieldLink RX1 38 "LanternWeirs$Fleet" "states" "LLanternWeirs$Row;") (by decide +kernel)
  have inX1 : ∀ w ∈ u_ws RX1 TX1 13, w ∈ wsX1_isAfloat := by decide +kernel
  obtain ⟨H, locs, hP, hS, hgo⟩ : ∃ H locs, va_P D vwCl (wF cA F a c q) H ∧ va_S (fun q : Nat => s.heap.size ≤ q) s.heap H locs ∧ (H = s.heap ∧ locs = []) := ⟨_, _, hP, hS, rfl, rfl⟩
  obtain ⟨hg1, hg2⟩ := hgo
  have hgoal : W pg lch ev (headSpec wsX1_isAfloat ({ frames := 2, cells := 0, slots := 0, locals := 43 })).room s mi ([.ref (F 0), .int (nI i)] : List Value).toArray below meth cd H locs 0 0 QQ (F0 mi 0 ls []) := by
    refine lv_aload_n hx hb dX1_isAfloat_0 rfl (lv_at hl 0 rfl) ?_
    refine lv_iload_n hx hb dX1_isAfloat_1 rfl (lv_at hl 1 rfl) ?_
    refine pVi (As := [.int (nI i)]) (rest := []) (wc := (wF cA F a c q)) ⟨hx, hb, hml, hown, hts⟩ (K_X1_hask lch D cA F a c q i H.size (by first | assumption | omega) (by first | assumption | omega)) (cwV 1 hts gX1_isAfloat_X1_has rfl rfl rfl (by decide +kernel) ⟨Nat.le_of_ble_eq_true rfl, Nat.le_of_ble_eq_true rfl⟩) hE hP hD hS hA [0, 1, 2, 3, 4, 5, 6, 7, 8, 9, 10, 11, 12, 13, 14, 15, 16, 17, 18, 19, 20, 21, 22] rfl rfl X0.blind (fun _ _ _ => trivial) 0 1 rfl rfl rfl hl.1 rfl rfl (Nat.le_of_ble_eq_true rfl) dX1_isAfloat_2 ⟨Nat.zero_le _, Nat.zero_le _⟩ (fun r_1 u_2 H locs h_3 hP hS => ?_)
    subst h_3
    refine lv_if_eq (tgt := 23) hx hb dX1_isAfloat_5 (by decide) (fun c5 => ?_) (fun c5 => ?_)
    · skip
      exfalso; revert c5; decide
    · skip
      have c5 := bi_1.mp c5
      refine lv_aload_n hx hb dX1_isAfloat_8 rfl (lv_at hl 0 rfl) ?_
      refine va_get (D := D) (ci := 1) (v := .ref (F 8)) (C := RX1) (T := TX1) (N := 13) hx hb hts inX1 hown hE.1 hP 0 rfl rfl 7 (by decide) kf38 (fun _ h9 => h9) rfl dX1_isAfloat_9 ?_
      refine lv_iload_n hx hb dX1_isAfloat_12 rfl (lv_at hl 1 rfl) ?_
      refine pVi (As := [.int (nI i)]) (rest := []) (wc := (wR cA (F 8) (F 19) 41 (fun z9 => nI (qSt a z9)))) ⟨hx, hb, hml, hown, hts⟩ (K_X2_getk lch D cA (F 8) (F 19) 41 (fun z9 => nI (qSt a z9)) i (nI (qSt a i)) H.size (by omega) (Nat.le_of_ble_eq_true rfl) (rfl)) (cwV 1 hts gX1_isAfloat_X2_get rfl rfl rfl (by decide +kernel) ⟨Nat.le_of_ble_eq_true rfl, Nat.le_of_ble_eq_true rfl⟩) hE hP hD hS hA [8, 19] rfl rfl X0.blind (fun _ _ _ => trivial) 8 2 rfl rfl rfl hl.1 rfl rfl (Nat.le_of_ble_eq_true rfl) dX1_isAfloat_13 ⟨Nat.zero_le _, Nat.zero_le _⟩ (fun r_4 u_5 H locs h_6 hP hS => ?_)
      subst h_6
      refine lv_if_ne (tgt := 23) hx hb dX1_isAfloat_16 (by decide) (fun c16 => ?_) (fun c16 => ?_)
      · skip
        have c16 := (not_congr (nI_eq (a := qSt a i) (b := 0) (by omega) (by omega))).mp c16
        refine lv_iconst (v := 0) hx hb dX1_isAfloat_23 (by decide) ?_
        rw [hQQ]
        exact W.zret (v := 0) hx hb hr (by decide) (fun t ht hW => ⟨⟨0, (), rfl, beq_f c16, trivial⟩, hS.F ht⟩) hS.2.2 dX1_isAfloat_24
      · skip
        have c16 := (nI_eq (a := qSt a i) (b := 0) (by omega) (by omega)).mp c16
        refine lv_iconst (v := 1) hx hb dX1_isAfloat_19 (by decide) ?_
        refine lv_goto (tgt := 24) hx hb dX1_isAfloat_20 (by decide) ?_
        rw [hQQ]
        exact W.zret (v := 1) hx hb hr (by decide) (fun t ht hW => ⟨⟨1, (), rfl, beq_t c16, trivial⟩, hS.F ht⟩) hS.2.2 dX1_isAfloat_24
  rw [hg1, hg2] at hgoal
  exact hgoal

set_option maxHeartbeats 4000000 in
set_option maxRecDepth 100000 in
/-- isBurning -/
theorem K_X1_isBurning (lch : Launch) (D : va_G) (cA : ClassId) (F : Nat → Nat) (a : FSt) (c : Nat → Int32) (q : Nat → Int32) (i : Nat) (sz : Nat) (hi : i < qN a) (hn : qN a ≤ 41) : Met lch yX1_isBurning wsX1_isBurning ({ frames := 2, cells := 0, slots := 0, locals := 43 }) (Pr D cA [.ref (F 0), .int (nI i)] sz (wF cA F a c q) X0) (va_Qi (fun (r : Int32) (u : Unit) => r = bi (qBu a i)) (fun _ _ => True) (fun q : Nat => sz ≤ q)) 0 0 (fun q : Nat => sz ≤ q) := by
  refine Met.ofW (cc := cX1_isBurning) (maxL := 2) (ret := (some .boolean)) (by decide) rfl ?_
  intro pg ev s mi args below meth cd s₁ B hml hv
  obtain ⟨hav, hsz, hP, hE, hD, hXs⟩ := hv
  have hx := B.exec
  have hb := B.bytes
  have hr := B.returns
  have hts := atoms_spec (ws := wsX1_isBurning) B.pre
  have hown : s.vm.findClass RX1 = some mi.cls := findClass_of_methodNamed B.named
  have hlocks := B.notSynchronized
  clear B
  subst hav
  subst hsz
  have hA : ∀ q : Nat, s.heap.size ≤ q → (fun q : Nat => s.heap.size ≤ q) q := fun _ h => h
  have hS : va_S (fun q : Nat => s.heap.size ≤ q) s.heap s.heap [] := va_S.rf
  obtain ⟨QQ, hQQ⟩ : ∃ qq9, qq9 = MQ below (va_Qi (fun (r : Int32) (u : Unit) => r = bi (qBu a i)) (fun _ _ => True) (fun q : Nat => s.heap.size ≤ q)) ([.ref (F 0), .int (nI i)] : List Value).toArray s 0 0 (fun q : Nat => s.heap.size ≤ q) := ⟨_, rfl⟩
  rw [← hQQ]
  have hl := lv_entry ([.ref (F 0), .int (nI i)]) (n := 2) (Nat.le_of_ble_eq_true rfl)
  rw [lg_entry_eq]
  generalize (lg_sl ([.ref (F 0), .int (nI i)]) ++ List.replicate (2 - (lg_sl ([.ref (F 0), .int (nI i)])).length) Slot.unset).toArray = ls at hl ⊢
  have hl : lv_has ls 2 [(0, .ref (F 0)), (1, .int (nI i))] := hl
  have kf35 := hts (.fieldLink RX1 35 "LanternWeirs$Fleet" "burning" "LLanternWeirs$Row;") (by decide +kernel)
  have inX1 : ∀ w ∈ u_ws RX1 TX1 13, w ∈ wsX1_isBurning := by decide +kernel
  obtain ⟨H, locs, hP, hS, hgo⟩ : ∃ H locs, va_P D vwCl (wF cA F a c q) H ∧ va_S (fun q : Nat => s.heap.size ≤ q) s.heap H locs ∧ (H = s.heap ∧ locs = []) := ⟨_, _, hP, hS, rfl, rfl⟩
  obtain ⟨hg1, hg2⟩ := hgo
  have hgoal : W pg lch ev (headSpec wsX1_isBurning ({ frames := 2, cells := 0, slots := 0, locals := 43 })).room s mi ([.ref (F 0), .int (nI i)] : List Value).toArray below meth cd H locs 0 0 QQ (F0 mi 0 ls []) := by
    refine lv_aload_n hx hb dX1_isBurning_0 rfl (lv_at hl 0 rfl) ?_
    refine lv_iload_n hx hb dX1_isBurning_1 rfl (lv_at hl 1 rfl) ?_
    refine pVi (As := [.int (nI i)]) (rest := []) (wc := (wF cA F a c q)) ⟨hx, hb, hml, hown, hts⟩ (K_X1_hask lch D cA F a c q i H.size (by first | assumption | omega) (by first | assumption | omega)) (cwV 1 hts gX1_isBurning_X1_has rfl rfl rfl (by decide +kernel) ⟨Nat.le_of_ble_eq_true rfl, Nat.le_of_ble_eq_true rfl⟩) hE hP hD hS hA [0, 1, 2, 3, 4, 5, 6, 7, 8, 9, 10, 11, 12, 13, 14, 15, 16, 17, 18, 19, 20, 21, 22] rfl rfl X0.blind (fun _ _ _ => trivial) 0 1 rfl rfl rfl hl.1 rfl rfl (Nat.le_of_ble_eq_true rfl) dX1_isBurning_2 ⟨Nat.zero_le _, Nat.zero_le _⟩ (fun r_1 u_2 H locs h_3 hP hS => ?_)
    subst h_3
    refine lv_if_eq (tgt := 24) hx hb dX1_isBurning_5 (by decide) (fun c5 => ?_) (fun c5 => ?_)
    · skip
      exfalso; revert c5; decide
    · skip
      have c5 := bi_1.mp c5
      refine lv_aload_n hx hb dX1_isBurning_8 rfl (lv_at hl 0 rfl) ?_
      refine va_get (D := D) (ci := 1) (v := .ref (F 7)) (C := RX1) (T := TX1) (N := 13) hx hb hts inX1 hown hE.1 hP 0 rfl rfl 6 (by decide) kf35 (fun _ h9 => h9) rfl dX1_isBurning_9 ?_
      refine lv_iload_n hx hb dX1_isBurning_12 rfl (lv_at hl 1 rfl) ?_
      refine pVi (As := [.int (nI i)]) (rest := []) (wc := (wR cA (F 7) (F 18) 41 (fun z9 => bi (qBu a z9)))) ⟨hx, hb, hml, hown, hts⟩ (K_X2_getk lch D cA (F 7) (F 18) 41 (fun z9 => bi (qBu a z9)) i (bi (qBu a i)) H.size (by omega) (Nat.le_of_ble_eq_true rfl) (rfl)) (cwV 1 hts gX1_isBurning_X2_get rfl rfl rfl (by decide +kernel) ⟨Nat.le_of_ble_eq_true rfl, Nat.le_of_ble_eq_true rfl⟩) hE hP hD hS hA [7, 18] rfl rfl X0.blind (fun _ _ _ => trivial) 7 2 rfl rfl rfl hl.1 rfl rfl (Nat.le_of_ble_eq_true rfl) dX1_isBurning_13 ⟨Nat.zero_le _, Nat.zero_le _⟩ (fun r_4 u_5 H locs h_6 hP hS => ?_)
      subst h_6
      refine lv_iconst (v := 1) hx hb dX1_isBurning_16 (by decide) ?_
      refine lv_icmp_ne (tgt := 24) hx hb dX1_isBurning_17 (by decide) (fun c17 => ?_) (fun c17 => ?_)
      · skip
        have c17 := bi_f.mp c17
        refine lv_iconst (v := 0) hx hb dX1_isBurning_24 (by decide) ?_
        rw [hQQ]
        exact W.zret (v := 0) hx hb hr (by decide) (fun t ht hW => ⟨⟨0, (), rfl, by rw [c17]; rfl, trivial⟩, hS.F ht⟩) hS.2.2 dX1_isBurning_25
      · skip
        have c17 := bi_t.mp c17
        refine lv_iconst (v := 1) hx hb dX1_isBurning_20 (by decide) ?_
        refine lv_goto (tgt := 25) hx hb dX1_isBurning_21 (by decide) ?_
        rw [hQQ]
        exact W.zret (v := 1) hx hb hr (by decide) (fun t ht hW => ⟨⟨1, (), rfl, by rw [c17]; rfl, trivial⟩, hS.F ht⟩) hS.2.2 dX1_isBurning_25
  rw [hg1, hg2] at hgoal
  exact hgoal

set_option maxHeartbeats 4000000 in
set_option maxRecDepth 100000 in
/-- isSoaked -/
theorem K_X1_isSoaked (lch : Launch) (D : va_G) (cA : ClassId) (F : Nat → Nat) (a : FSt) (c : Nat → Int32) (q : Nat → Int32) (i : Nat) (sz : Nat) (hk : i < 41) (hf : qFr a i < 3) : Met lch yX1_isSoaked wsX1_isSoaked ({ frames := 1, cells := 0, slots := 0, locals := 21 }) (Pr D cA [.ref (F 0), .int (nI i)] sz (wF cA F a c q) X0) (va_Qi (fun (r : Int32) (u : Unit) => r = bi (soaked a i)) (fun _ _ => True) (fun q : Nat => sz ≤ q)) 0 0 (fun q : Nat => sz ≤ q) := by
  refine Met.ofW (cc := cX1_isSoaked) (maxL := 2) (ret := (some .boolean)) (by decide) rfl ?_
  intro pg ev s mi args below meth cd s₁ B hml hv
  obtain ⟨hav, hsz, hP, hE, hD, hXs⟩ := hv
  have hx := B.exec
  have hb := B.bytes
  have hr := B.returns
  have hts := atoms_spec (ws := wsX1_isSoaked) B.pre
  have hown : s.vm.findClass RX1 = some mi.cls := findClass_of_methodNamed B.named
  have hlocks := B.notSynchronized
  clear B
  subst hav
  subst hsz
  have hA : ∀ q : Nat, s.heap.size ≤ q → (fun q : Nat => s.heap.size ≤ q) q := fun _ h => h
  have hS : va_S (fun q : Nat => s.heap.size ≤ q) s.heap s.heap [] := va_S.rf
  obtain ⟨QQ, hQQ⟩ : ∃ qq9, qq9 = MQ below (va_Qi (fun (r : Int32) (u : Unit) => r = bi (soaked a i)) (fun _ _ => True) (fun q : Nat => s.heap.size ≤ q)) ([.ref (F 0), .int (nI i)] : List Value).toArray s 0 0 (fun q : Nat => s.heap.size ≤ q) := ⟨_, rfl⟩
  rw [← hQQ]
  have hl := lv_entry ([.ref (F 0), .int (nI i)]) (n := 2) (Nat.le_of_ble_eq_true rfl)
  rw [lg_entry_eq]
  generalize (lg_sl ([.ref (F 0), .int (nI i)]) ++ List.replicate (2 - (lg_sl ([.ref (F 0), .int (nI i)])).length) Slot.unset).toArray = ls at hl ⊢
  have hl : lv_has ls 2 [(0, .ref (F 0)), (1, .int (nI i))] := hl
  have kf32 := hts (.fieldLink RX1 32 "LanternWeirs$Fleet" "wets" "LLanternWeirs$Row;") (by decide +kernel)
  have inX1 : ∀ w ∈ u_ws RX1 TX1 13, w ∈ wsX1_isSoaked := by decide +kernel
  have kf16 := hts (.fieldLink RX1 16 "LanternWeirs$Fleet" "frames" "LLanternWeirs$Row;") (by decide +kernel)
  have kw3 := hts (.initialized RX3) (by decide +kernel)
  have kw4 := hts (.static yX3_sprayTakenBy) (by decide +kernel)
  obtain ⟨H, locs, hP, hS, hgo⟩ : ∃ H locs, va_P D vwCl (wF cA F a c q) H ∧ va_S (fun q : Nat => s.heap.size ≤ q) s.heap H locs ∧ (H = s.heap ∧ locs = []) := ⟨_, _, hP, hS, rfl, rfl⟩
  obtain ⟨hg1, hg2⟩ := hgo
  have hgoal : W pg lch ev (headSpec wsX1_isSoaked ({ frames := 1, cells := 0, slots := 0, locals := 21 })).room s mi ([.ref (F 0), .int (nI i)] : List Value).toArray below meth cd H locs 0 0 QQ (F0 mi 0 ls []) := by
    refine lv_aload_n hx hb dX1_isSoaked_0 rfl (lv_at hl 0 rfl) ?_
    refine va_get (D := D) (ci := 1) (v := .ref (F 6)) (C := RX1) (T := TX1) (N := 13) hx hb hts inX1 hown hE.1 hP 0 rfl rfl 5 (by decide) kf32 (fun _ h9 => h9) rfl dX1_isSoaked_1 ?_
    refine lv_iload_n hx hb dX1_isSoaked_4 rfl (lv_at hl 1 rfl) ?_
    refine pVi (As := [.int (nI i)]) (rest := []) (wc := (wR cA (F 6) (F 17) 41 (qWe a))) ⟨hx, hb, hml, hown, hts⟩ (K_X2_getk lch D cA (F 6) (F 17) 41 (qWe a) i (qWe a i) H.size (by omega) (Nat.le_of_ble_eq_true rfl) (rfl)) (cwV 1 hts gX1_isSoaked_X2_get rfl rfl rfl (by decide +kernel) ⟨Nat.le_of_ble_eq_true rfl, Nat.le_of_ble_eq_true rfl⟩) hE hP hD hS hA [6, 17] rfl rfl X0.blind (fun _ _ _ => trivial) 6 2 rfl rfl rfl hl.1 rfl rfl (Nat.le_of_ble_eq_true rfl) dX1_isSoaked_5 ⟨Nat.zero_le _, Nat.zero_le _⟩ (fun r_1 u_2 H locs h_3 hP hS => ?_)
    subst h_3
    refine lv_aload_n hx hb dX1_isSoaked_8 rfl (lv_at hl 0 rfl) ?_
    refine va_get (D := D) (ci := 1) (v := .ref (F 1)) (C := RX1) (T := TX1) (N := 13) hx hb hts inX1 hown hE.1 hP 0 rfl rfl 0 (by decide) kf16 (fun _ h9 => h9) rfl dX1_isSoaked_9 ?_
    refine lv_iload_n hx hb dX1_isSoaked_12 rfl (lv_at hl 1 rfl) ?_
    refine pVi (As := [.int (nI i)]) (rest := [.int (qWe a i)]) (wc := (wR cA (F 1) (F 12) 41 (fun z9 => nI (qFr a z9)))) ⟨hx, hb, hml, hown, hts⟩ (K_X2_getk lch D cA (F 1) (F 12) 41 (fun z9 => nI (qFr a z9)) i (nI (qFr a i)) H.size (by omega) (Nat.le_of_ble_eq_true rfl) (rfl)) (cwV 1 hts gX1_isSoaked_X2_get rfl rfl rfl (by decide +kernel) ⟨Nat.le_of_ble_eq_true rfl, Nat.le_of_ble_eq_true rfl⟩) hE hP hD hS hA [1, 12] rfl rfl X0.blind (fun _ _ _ => trivial) 1 2 rfl rfl rfl hl.1 rfl rfl (Nat.le_of_ble_eq_true rfl) dX1_isSoaked_13 ⟨Nat.zero_le _, Nat.zero_le _⟩ (fun r_4 u_5 H locs h_6 hP hS => ?_)
    subst h_6
    refine pNi (As := [.int (nI (qFr a i))]) (rest := [.int (qWe a i)]) (wc := ([] : va_W)) ⟨hx, hb, hml, hown, hts⟩ (K_X3_sprayTakenBy lch D cA (qFr a i) H.size (by first | assumption | omega)) ⟨va_cnB 1 hts gX1_isSoaked_X3_sprayTakenBy_n83 rfl rfl rfl (hE.2.2 (.methodLinkNest "LanternWeirs$Fleet" 83 ⟨"LanternWeirs", "sprayTakenBy", "(I)I"⟩ "LanternWeirs") (by decide +kernel)) kw3 (by decide +kernel) ⟨Nat.le_of_ble_eq_true rfl, Nat.le_of_ble_eq_true rfl⟩, kw4, trivial⟩ hE hP hD hS hA [] rfl rfl X0.blind (fun _ _ _ => trivial) hl.1 rfl rfl (Nat.le_of_ble_eq_true rfl) dX1_isSoaked_16 ⟨Nat.zero_le _, Nat.zero_le _⟩ (fun r_7 u_8 H locs h_9 hP hS => ?_)
    subst h_9
    refine lv_icmp_le (tgt := 26) hx hb dX1_isSoaked_19 (by decide) (fun c19 => ?_) (fun c19 => ?_)
    · skip
      refine lv_iconst (v := 0) hx hb dX1_isSoaked_26 (by decide) ?_
      rw [hQQ]
      exact W.zret (v := 0) hx hb hr (by decide) (fun t ht hW => ⟨⟨0, (), rfl, sk_f c19, trivial⟩, hS.F ht⟩) hS.2.2 dX1_isSoaked_27
    · skip
      refine lv_iconst (v := 1) hx hb dX1_isSoaked_22 (by decide) ?_
      refine lv_goto (tgt := 27) hx hb dX1_isSoaked_23 (by decide) ?_
      rw [hQQ]
      exact W.zret (v := 1) hx hb hr (by decide) (fun t ht hW => ⟨⟨1, (), rfl, sk_t c19, trivial⟩, hS.F ht⟩) hS.2.2 dX1_isSoaked_27
  rw [hg1, hg2] at hgoal
  exact hgoal

set_option maxHeartbeats 4000000 in
set_option maxRecDepth 100000 in
/-- canBeLit -/
theorem K_X1_canBeLit (lch : Launch) (D : va_G) (cA : ClassId) (F : Nat → Nat) (a : FSt) (c : Nat → Int32) (q : Nat → Int32) (i : Nat) (sz : Nat) (hi : i < qN a) (hn : qN a ≤ 41) (hf : qFr a i < 3) (hx4 : qWx a i ≤ 45) : Met lch yX1_canBeLit wsX1_canBeLit ({ frames := 3, cells := 0, slots := 0, locals := 64 }) (Pr D cA [.ref (F 0), .int (nI i)] sz (wF cA F a c q) X0) (va_Qi (fun (r : Int32) (u : Unit) => r = bi (litA a i)) (fun _ _ => True) (fun q : Nat => sz ≤ q)) 0 0 (fun q : Nat => sz ≤ q) := by
  refine Met.ofW (cc := cX1_canBeLit) (maxL := 2) (ret := (some .boolean)) (by decide) rfl ?_
  intro pg ev s mi args below meth cd s₁ B hml hv
  obtain ⟨hav, hsz, hP, hE, hD, hXs⟩ := hv
  have hx := B.exec
  have hb := B.bytes
  have hr := B.returns
  have hts := atoms_spec (ws := wsX1_canBeLit) B.pre
  have hown : s.vm.findClass RX1 = some mi.cls := findClass_of_methodNamed B.named
  have hlocks := B.notSynchronized
  clear B
  subst hav
  subst hsz
  have hA : ∀ q : Nat, s.heap.size ≤ q → (fun q : Nat => s.heap.size ≤ q) q := fun _ h => h
  have hS : va_S (fun q : Nat => s.heap.size ≤ q) s.heap s.heap [] := va_S.rf
  obtain ⟨QQ, hQQ⟩ : ∃ qq9, qq9 = MQ below (va_Qi (fun (r : Int32) (u : Unit) => r = bi (litA a i)) (fun _ _ => True) (fun q : Nat => s.heap.size ≤ q)) ([.ref (F 0), .int (nI i)] : List Value).toArray s 0 0 (fun q : Nat => s.heap.size ≤ q) := ⟨_, rfl⟩
  rw [← hQQ]
  have hl := lv_entry ([.ref (F 0), .int (nI i)]) (n := 2) (Nat.le_of_ble_eq_true rfl)
  rw [lg_entry_eq]
  generalize (lg_sl ([.ref (F 0), .int (nI i)]) ++ List.replicate (2 - (lg_sl ([.ref (F 0), .int (nI i)])).length) Slot.unset).toArray = ls at hl ⊢
  have hl : lv_has ls 2 [(0, .ref (F 0)), (1, .int (nI i))] := hl
  have kf29 := hts (.fieldLink RX1 29 "LanternWeirs$Fleet" "waxes" "LLanternWeirs$Row;") (by decide +kernel)
  have inX1 : ∀ w ∈ u_ws RX1 TX1 13, w ∈ wsX1_canBeLit := by decide +kernel
  obtain ⟨H, locs, hP, hS, hgo⟩ : ∃ H locs, va_P D vwCl (wF cA F a c q) H ∧ va_S (fun q : Nat => s.heap.size ≤ q) s.heap H locs ∧ (H = s.heap ∧ locs = []) := ⟨_, _, hP, hS, rfl, rfl⟩
  obtain ⟨hg1, hg2⟩ := hgo
  have hgoal : W pg lch ev (headSpec wsX1_canBeLit ({ frames := 3, cells := 0, slots := 0, locals := 64 })).room s mi ([.ref (F 0), .int (nI i)] : List Value).toArray below meth cd H locs 0 0 QQ (F0 mi 0 ls []) := by
    refine lv_aload_n hx hb dX1_canBeLit_0 rfl (lv_at hl 0 rfl) ?_
    refine lv_iload_n hx hb dX1_canBeLit_1 rfl (lv_at hl 1 rfl) ?_
    refine pVi (As := [.int (nI i)]) (rest := []) (wc := (wF cA F a c q)) ⟨hx, hb, hml, hown, hts⟩ (K_X1_isBurning lch D cA F a c q i H.size (by first | assumption | omega) (by first | assumption | omega)) (cwV 1 hts gX1_canBeLit_X1_isBurning rfl rfl rfl (by decide +kernel) ⟨Nat.le_of_ble_eq_true rfl, Nat.le_of_ble_eq_true rfl⟩) hE hP hD hS hA [0, 1, 2, 3, 4, 5, 6, 7, 8, 9, 10, 11, 12, 13, 14, 15, 16, 17, 18, 19, 20, 21, 22] rfl rfl X0.blind (fun _ _ _ => trivial) 0 1 rfl rfl rfl hl.1 rfl rfl (Nat.le_of_ble_eq_true rfl) dX1_canBeLit_2 ⟨Nat.zero_le _, Nat.zero_le _⟩ (fun r_1 u_2 H locs h_3 hP hS => ?_)
    subst h_3
    refine lv_if_ne (tgt := 31) hx hb dX1_canBeLit_5 (by decide) (fun c5 => ?_) (fun c5 => ?_)
    · skip
      have c5 := bi_1.mp c5
      refine lv_iconst (v := 0) hx hb dX1_canBeLit_31 (by decide) ?_
      rw [hQQ]
      exact W.zret (v := 0) hx hb hr (by decide) (fun t ht hW => ⟨⟨0, (), rfl, by simp [litA, c5, bi], trivial⟩, hS.F ht⟩) hS.2.2 dX1_canBeLit_32
    · skip
      have c5 := bi_0.mp c5
      refine lv_aload_n hx hb dX1_canBeLit_8 rfl (lv_at hl 0 rfl) ?_
      refine lv_iload_n hx hb dX1_canBeLit_9 rfl (lv_at hl 1 rfl) ?_
      refine pVi (As := [.int (nI i)]) (rest := []) (wc := (wF cA F a c q)) ⟨hx, hb, hml, hown, hts⟩ (K_X1_isSoaked lch D cA F a c q i H.size (by first | assumption | omega) (by first | assumption | omega)) (cwV 1 hts gX1_canBeLit_X1_isSoaked rfl rfl rfl (by decide +kernel) ⟨Nat.le_of_ble_eq_true rfl, Nat.le_of_ble_eq_true rfl⟩) hE hP hD hS hA [0, 1, 2, 3, 4, 5, 6, 7, 8, 9, 10, 11, 12, 13, 14, 15, 16, 17, 18, 19, 20, 21, 22] rfl rfl X0.blind (fun _ _ _ => trivial) 0 1 rfl rfl rfl hl.1 rfl rfl (Nat.le_of_ble_eq_true rfl) dX1_canBeLit_10 ⟨Nat.zero_le _, Nat.zero_le _⟩ (fun r_4 u_5 H locs h_6 hP hS => ?_)
      subst h_6
      refine lv_if_ne (tgt := 31) hx hb dX1_canBeLit_13 (by decide) (fun c13 => ?_) (fun c13 => ?_)
      · skip
        have c13 := bi_1.mp c13
        refine lv_iconst (v := 0) hx hb dX1_canBeLit_31 (by decide) ?_
        rw [hQQ]
        exact W.zret (v := 0) hx hb hr (by decide) (fun t ht hW => ⟨⟨0, (), rfl, by simp [litA, c13, bi], trivial⟩, hS.F ht⟩) hS.2.2 dX1_canBeLit_32
      · skip
        have c13 := bi_0.mp c13
        refine lv_aload_n hx hb dX1_canBeLit_16 rfl (lv_at hl 0 rfl) ?_
        refine va_get (D := D) (ci := 1) (v := .ref (F 5)) (C := RX1) (T := TX1) (N := 13) hx hb hts inX1 hown hE.1 hP 0 rfl rfl 4 (by decide) kf29 (fun _ h9 => h9) rfl dX1_canBeLit_17 ?_
        refine lv_iload_n hx hb dX1_canBeLit_20 rfl (lv_at hl 1 rfl) ?_
        refine pVi (As := [.int (nI i)]) (rest := []) (wc := (wR cA (F 5) (F 16) 41 (fun z9 => nI (qWx a z9)))) ⟨hx, hb, hml, hown, hts⟩ (K_X2_getk lch D cA (F 5) (F 16) 41 (fun z9 => nI (qWx a z9)) i (nI (qWx a i)) H.size (by omega) (Nat.le_of_ble_eq_true rfl) (rfl)) (cwV 1 hts gX1_canBeLit_X2_get rfl rfl rfl (by decide +kernel) ⟨Nat.le_of_ble_eq_true rfl, Nat.le_of_ble_eq_true rfl⟩) hE hP hD hS hA [5, 16] rfl rfl X0.blind (fun _ _ _ => trivial) 5 2 rfl rfl rfl hl.1 rfl rfl (Nat.le_of_ble_eq_true rfl) dX1_canBeLit_21 ⟨Nat.zero_le _, Nat.zero_le _⟩ (fun r_7 u_8 H locs h_9 hP hS => ?_)
        subst h_9
        refine lv_if_le (tgt := 31) hx hb dX1_canBeLit_24 (by decide) (fun c24 => ?_) (fun c24 => ?_)
        · skip
          have c24 := (nI_leI (a := qWx a i) (b := 0) (by omega) (by omega)).mp c24
          refine lv_iconst (v := 0) hx hb dX1_canBeLit_31 (by decide) ?_
          rw [hQQ]
          exact W.zret (v := 0) hx hb hr (by decide) (fun t ht hW => ⟨⟨0, (), rfl, by simp [litA, c24, bi], trivial⟩, hS.F ht⟩) hS.2.2 dX1_canBeLit_32
        · skip
          have c24 := (not_congr (nI_leI (a := qWx a i) (b := 0) (by omega) (by omega))).mp c24
          refine lv_iconst (v := 1) hx hb dX1_canBeLit_27 (by decide) ?_
          refine lv_goto (tgt := 32) hx hb dX1_canBeLit_28 (by decide) ?_
          rw [hQQ]
          exact W.zret (v := 1) hx hb hr (by decide) (fun t ht hW => ⟨⟨1, (), rfl, by simp [litA, c5, c13, bi]; omega, trivial⟩, hS.F ht⟩) hS.2.2 dX1_canBeLit_32
  rw [hg1, hg2] at hgoal
  exact hgoal

set_option maxHeartbeats 4000000 in
set_option maxRecDepth 100000 in
/-- crowdBy -/
theorem K_X1_crowdBy (lch : Launch) (D : va_G) (cA : ClassId) (F : Nat → Nat) (a : FSt) (c : Nat → Int32) (q : Nat → Int32) (i : Nat) (v : Int32) (sz : Nat) (hk : i < 41) (hp6 : qPl a i ≤ 60) : Met lch yX1_crowdBy wsX1_crowdBy ({ frames := 1, cells := 0, slots := 0, locals := 22 }) (Pr D cA [.ref (F 0), .int (nI i), .int v] sz (wF cA F a c q) X0) (va_Qv (fun (u : Unit) => True) (fun (u : Unit) t => va_P D vwCl (wF cA F a (cby a c i v) q) t.heap) (va_A (wF cA F a c q) sz)) 0 0 (va_A (wF cA F a c q) sz) := by
  refine Met.ofW (cc := cX1_crowdBy) (maxL := 4) (ret := none) (by decide) rfl ?_
  intro pg ev s mi args below meth cd s₁ B hml hv
  obtain ⟨hav, hsz, hP, hE, hD, hXs⟩ := hv
  have hx := B.exec
  have hb := B.bytes
  have hr := B.returns
  have hts := atoms_spec (ws := wsX1_crowdBy) B.pre
  have hown : s.vm.findClass RX1 = some mi.cls := findClass_of_methodNamed B.named
  have hlocks := B.notSynchronized
  clear B
  subst hav
  subst hsz
  have hD := hD.self (sz := s.heap.size)
  generalize hAe : va_A (wF cA F a c q) s.heap.size = A at hD ⊢
  have hA : ∀ q : Nat, s.heap.size ≤ q → A q := fun q h => by rw [← hAe]; exact Or.inr h
  have hS : va_S A s.heap s.heap [] := va_S.rf
  obtain ⟨QQ, hQQ⟩ : ∃ qq9, qq9 = MQ below (va_Qv (fun (u : Unit) => True) (fun (u : Unit) t => va_P D vwCl (wF cA F a (cby a c i v) q) t.heap) A) ([.ref (F 0), .int (nI i), .int v] : List Value).toArray s 0 0 A := ⟨_, rfl⟩
  rw [← hQQ]
  have hl := lv_entry ([.ref (F 0), .int (nI i), .int v]) (n := 4) (Nat.le_of_ble_eq_true rfl)
  rw [lg_entry_eq]
  generalize (lg_sl ([.ref (F 0), .int (nI i), .int v]) ++ List.replicate (4 - (lg_sl ([.ref (F 0), .int (nI i), .int v])).length) Slot.unset).toArray = ls at hl ⊢
  have hl : lv_has ls 4 [(0, .ref (F 0)), (1, .int (nI i)), (2, .int v)] := hl
  have kf23 := hts (.fieldLink RX1 23 "LanternWeirs$Fleet" "lanes" "LLanternWeirs$Row;") (by decide +kernel)
  have inX1 : ∀ w ∈ u_ws RX1 TX1 13, w ∈ wsX1_crowdBy := by decide +kernel
  have kf26 := hts (.fieldLink RX1 26 "LanternWeirs$Fleet" "places" "LLanternWeirs$Row;") (by decide +kernel)
  have kf16 := hts (.fieldLink RX1 16 "LanternWeirs$Fleet" "frames" "LLanternWeirs$Row;") (by decide +kernel)
  have kf44 := hts (.fieldLink RX1 44 "LanternWeirs$Fleet" "crowd" "LLanternWeirs$Row;") (by decide +kernel)
  obtain ⟨H, locs, hP, hS, hgo⟩ : ∃ H locs, va_P D vwCl (wF cA F a c q) H ∧ va_S A s.heap H locs ∧ (H = s.heap ∧ locs = []) := ⟨_, _, hP, hS, rfl, rfl⟩
  obtain ⟨hg1, hg2⟩ := hgo
  have hgoal : W pg lch ev (headSpec wsX1_crowdBy ({ frames := 1, cells := 0, slots := 0, locals := 22 })).room s mi ([.ref (F 0), .int (nI i), .int v] : List Value).toArray below meth cd H locs 0 0 QQ (F0 mi 0 ls []) := by
    refine lv_aload_n hx hb dX1_crowdBy_0 rfl (lv_at hl 0 rfl) ?_
    refine va_get (D := D) (ci := 1) (v := .ref (F 3)) (C := RX1) (T := TX1) (N := 13) hx hb hts inX1 hown hE.1 hP 0 rfl rfl 2 (by decide) kf23 (fun _ h9 => h9) rfl dX1_crowdBy_1 ?_
    refine lv_iload_n hx hb dX1_crowdBy_4 rfl (lv_at hl 1 rfl) ?_
    refine pVi (As := [.int (nI i)]) (rest := []) (wc := (wR cA (F 3) (F 14) 41 (fun z9 => nI (qLa a z9)))) ⟨hx, hb, hml, hown, hts⟩ (K_X2_getk lch D cA (F 3) (F 14) 41 (fun z9 => nI (qLa a z9)) i (nI (qLa a i)) H.size (by omega) (Nat.le_of_ble_eq_true rfl) (rfl)) (cwV 1 hts gX1_crowdBy_X2_get rfl rfl rfl (by decide +kernel) ⟨Nat.le_of_ble_eq_true rfl, Nat.le_of_ble_eq_true rfl⟩) hE hP hD hS hA [3, 14] rfl rfl X0.blind (fun _ _ _ => trivial) 3 2 rfl rfl rfl hl.1 rfl rfl (Nat.le_of_ble_eq_true rfl) dX1_crowdBy_5 ⟨Nat.zero_le _, Nat.zero_le _⟩ (fun r_1 u_2 H locs h_3 hP hS => ?_)
    subst h_3
    refine lv_aload_n hx hb dX1_crowdBy_8 rfl (lv_at hl 0 rfl) ?_
    refine va_get (D := D) (ci := 1) (v := .ref (F 4)) (C := RX1) (T := TX1) (N := 13) hx hb hts inX1 hown hE.1 hP 0 rfl rfl 3 (by decide) kf26 (fun _ h9 => h9) rfl dX1_crowdBy_9 ?_
    refine lv_iload_n hx hb dX1_crowdBy_12 rfl (lv_at hl 1 rfl) ?_
    refine pVi (As := [.int (nI i)]) (rest := [.int (nI (qLa a i))]) (wc := (wR cA (F 4) (F 15) 41 (fun z9 => nI (qPl a z9)))) ⟨hx, hb, hml, hown, hts⟩ (K_X2_getk lch D cA (F 4) (F 15) 41 (fun z9 => nI (qPl a z9)) i (nI (qPl a i)) H.size (by omega) (Nat.le_of_ble_eq_true rfl) (rfl)) (cwV 1 hts gX1_crowdBy_X2_get rfl rfl rfl (by decide +kernel) ⟨Nat.le_of_ble_eq_true rfl, Nat.le_of_ble_eq_true rfl⟩) hE hP hD hS hA [4, 15] rfl rfl X0.blind (fun _ _ _ => trivial) 4 2 rfl rfl rfl hl.1 rfl rfl (Nat.le_of_ble_eq_true rfl) dX1_crowdBy_13 ⟨Nat.zero_le _, Nat.zero_le _⟩ (fun r_4 u_5 H locs h_6 hP hS => ?_)
    subst h_6
    refine lv_aload_n hx hb dX1_crowdBy_16 rfl (lv_at hl 0 rfl) ?_
    refine va_get (D := D) (ci := 1) (v := .ref (F 1)) (C := RX1) (T := TX1) (N := 13) hx hb hts inX1 hown hE.1 hP 0 rfl rfl 0 (by decide) kf16 (fun _ h9 => h9) rfl dX1_crowdBy_17 ?_
    refine lv_iload_n hx hb dX1_crowdBy_20 rfl (lv_at hl 1 rfl) ?_
    refine pVi (As := [.int (nI i)]) (rest := [.int (nI (qPl a i)), .int (nI (qLa a i))]) (wc := (wR cA (F 1) (F 12) 41 (fun z9 => nI (qFr a z9)))) ⟨hx, hb, hml, hown, hts⟩ (K_X2_getk lch D cA (F 1) (F 12) 41 (fun z9 => nI (qFr a z9)) i (nI (qFr a i)) H.size (by omega) (Nat.le_of_ble_eq_true rfl) (rfl)) (cwV 1 hts gX1_crowdBy_X2_get rfl rfl rfl (by decide +kernel) ⟨Nat.le_of_ble_eq_true rfl, Nat.le_of_ble_eq_true rfl⟩) hE hP hD hS hA [1, 12] rfl rfl X0.blind (fun _ _ _ => trivial) 1 2 rfl rfl rfl hl.1 rfl rfl (Nat.le_of_ble_eq_true rfl) dX1_crowdBy_21 ⟨Nat.zero_le _, Nat.zero_le _⟩ (fun r_7 u_8 H locs h_9 hP hS => ?_)
    subst h_9
    refine pSi (As := [.int (nI (qLa a i)), .int (nI (qPl a i)), .int (nI (qFr a i))]) (rest := []) (wc := ([] : va_W)) ⟨hx, hb, hml, hown, hts⟩ (K_X1_cell lch D cA (qLa a i) (qPl a i) (qFr a i) H.size (by first | assumption | omega)) (cwS 3 hts gX1_crowdBy_X1_cell rfl rfl rfl (by decide +kernel) ⟨Nat.le_of_ble_eq_true rfl, Nat.le_of_ble_eq_true rfl⟩) hE hP hD hS hA [] rfl rfl X0.blind (fun _ _ _ => trivial) hl.1 rfl rfl (Nat.le_of_ble_eq_true rfl) dX1_crowdBy_24 ⟨Nat.zero_le _, Nat.zero_le _⟩ (fun r_10 u_11 H locs h_12 hP hS => ?_)
    subst h_12
    refine lv_istore_n (lv' := [(3, .int (ck (qLa a i) (qPl a i) (qFr a i))), (0, .ref (F 0)), (1, .int (nI i)), (2, .int v)]) hx hb dX1_crowdBy_27 rfl hl (by decide) rfl (fun ls hl => ?_)
    refine lv_aload_n hx hb dX1_crowdBy_28 rfl (lv_at hl 1 rfl) ?_
    refine va_get (D := D) (ci := 1) (v := .ref (F 10)) (C := RX1) (T := TX1) (N := 13) hx hb hts inX1 hown hE.1 hP 0 rfl rfl 9 (by decide) kf44 (fun _ h9 => h9) rfl dX1_crowdBy_29 ?_
    refine lv_iload_n hx hb dX1_crowdBy_32 rfl (lv_at hl 0 rfl) ?_
    refine lv_aload_n hx hb dX1_crowdBy_33 rfl (lv_at hl 1 rfl) ?_
    refine va_get (D := D) (ci := 1) (v := .ref (F 10)) (C := RX1) (T := TX1) (N := 13) hx hb hts inX1 hown hE.1 hP 0 rfl rfl 9 (by decide) kf44 (fun _ h9 => h9) rfl dX1_crowdBy_34 ?_
    refine lv_iload_n hx hb dX1_crowdBy_37 rfl (lv_at hl 0 rfl) ?_
    refine pVi (As := [.int (ck (qLa a i) (qPl a i) (qFr a i))]) (rest := [.int (ck (qLa a i) (qPl a i) (qFr a i)), .ref (F 10)]) (wc := (wR cA (F 10) (F 21) 540 c)) ⟨hx, hb, hml, hown, hts⟩ (K_X2_get lch D cA (F 10) (F 21) 540 c (ck (qLa a i) (qPl a i) (qFr a i)) H.size (Nat.le_of_ble_eq_true rfl)) (cwV 1 hts gX1_crowdBy_X2_get rfl rfl rfl (by decide +kernel) ⟨Nat.le_of_ble_eq_true rfl, Nat.le_of_ble_eq_true rfl⟩) hE hP hD hS hA [10, 21] rfl rfl X0.blind (fun _ _ _ => trivial) 10 2 rfl rfl rfl hl.1 rfl rfl (Nat.le_of_ble_eq_true rfl) dX1_crowdBy_38 ⟨Nat.zero_le _, Nat.zero_le _⟩ (fun r_13 u_14 H locs h_15 hP hS => ?_)
    subst h_15
    refine lv_iload_n hx hb dX1_crowdBy_41 rfl (lv_at hl 3 rfl) ?_
    refine lv_iadd hx hb dX1_crowdBy_42 ?_
    refine cVv (As := [.int (ck (qLa a i) (qPl a i) (qFr a i)), .int ((rg 540 c (ck (qLa a i) (qPl a i) (qFr a i))) + v)]) (rest := []) (wc := (wR cA (F 10) (F 21) 540 c)) ⟨hx, hb, hml, hown, hts⟩ (K_X2_put lch D cA (F 10) (F 21) 540 c (ck (qLa a i) (qPl a i) (qFr a i)) ((rg 540 c (ck (qLa a i) (qPl a i) (qFr a i))) + v) H.size (Nat.le_of_ble_eq_true rfl)) (cwV 2 hts gX1_crowdBy_X2_put rfl rfl rfl (by decide +kernel) ⟨Nat.le_of_ble_eq_true rfl, Nat.le_of_ble_eq_true rfl⟩) hE hP hD hS hA [10, 21] rfl rfl [F 10, F 21] (fun _ => rfl) rfl (fun (u_17 : Unit) => (wF cA F a (cby a c i v) q)) (fun _ => rfl) X0.blind (fun _ _ _ => trivial) 10 2 rfl rfl rfl hl.1 rfl rfl (Nat.le_of_ble_eq_true rfl) dX1_crowdBy_43 ⟨Nat.zero_le _, Nat.zero_le _⟩ (fun u_17 H locs h_18 hP hD hS => ?_)
    rw [hQQ]
    exact W.vret hx hb hr (fun t ht hW => ⟨⟨(), rfl, trivial, by show va_P _ _ _ t.heap; rw [ht]; exact hP⟩, hS.F ht⟩) hS.2.2 dX1_crowdBy_46
  rw [hg1, hg2] at hgoal
  exact hgoal

set_option maxHeartbeats 4000000 in
set_option maxRecDepth 100000 in
/-- moveTo -/
theorem K_X1_moveTo (lch : Launch) (D : va_G) (cA : ClassId) (F : Nat → Nat) (a : FSt) (c : Nat → Int32) (q : Nat → Int32) (i : Nat) (l : Nat) (p : Nat) (sz : Nat) (hk : i < 41) (hp6 : qPl a i ≤ 60) (h60 : p ≤ 60) : Met lch yX1_moveTo wsX1_moveTo ({ frames := 2, cells := 0, slots := 0, locals := 45 }) (Pr D cA [.ref (F 0), .int (nI i), .int (nI l), .int (nI p)] sz (wF cA F a c q) X0) (va_Qv (fun (u : Unit) => True) (fun (u : Unit) t => va_P D vwCl (wF cA F (mvA a i l p) (cby (mvA a i l p) (cby a c i (-1)) i 1) q) t.heap) (va_A (wF cA F a c q) sz)) 0 0 (va_A (wF cA F a c q) sz) := by
  refine Met.ofW (cc := cX1_moveTo) (maxL := 4) (ret := none) (by decide) rfl ?_
  intro pg ev s mi args below meth cd s₁ B hml hv
  obtain ⟨hav, hsz, hP, hE, hD, hXs⟩ := hv
  have hx := B.exec
  have hb := B.bytes
  have hr := B.returns
  have hts := atoms_spec (ws := wsX1_moveTo) B.pre
  have hown : s.vm.findClass RX1 = some mi.cls := findClass_of_methodNamed B.named
  have hlocks := B.notSynchronized
  clear B
  subst hav
  subst hsz
  have hD := hD.self (sz := s.heap.size)
  generalize hAe : va_A (wF cA F a c q) s.heap.size = A at hD ⊢
  have hA : ∀ q : Nat, s.heap.size ≤ q → A q := fun q h => by rw [← hAe]; exact Or.inr h
  have hS : va_S A s.heap s.heap [] := va_S.rf
  obtain ⟨QQ, hQQ⟩ : ∃ qq9, qq9 = MQ below (va_Qv (fun (u : Unit) => True) (fun (u : Unit) t => va_P D vwCl (wF cA F (mvA a i l p) (cby (mvA a i l p) (cby a c i (-1)) i 1) q) t.heap) A) ([.ref (F 0), .int (nI i), .int (nI l), .int (nI p)] : List Value).toArray s 0 0 A := ⟨_, rfl⟩
  rw [← hQQ]
  have hl := lv_entry ([.ref (F 0), .int (nI i), .int (nI l), .int (nI p)]) (n := 4) (Nat.le_of_ble_eq_true rfl)
  rw [lg_entry_eq]
  generalize (lg_sl ([.ref (F 0), .int (nI i), .int (nI l), .int (nI p)]) ++ List.replicate (4 - (lg_sl ([.ref (F 0), .int (nI i), .int (nI l), .int (nI p)])).length) Slot.unset).toArray = ls at hl ⊢
  have hl : lv_has ls 4 [(0, .ref (F 0)), (1, .int (nI i)), (2, .int (nI l)), (3, .int (nI p))] := hl
  have kf23 := hts (.fieldLink RX1 23 "LanternWeirs$Fleet" "lanes" "LLanternWeirs$Row;") (by decide +kernel)
  have inX1 : ∀ w ∈ u_ws RX1 TX1 13, w ∈ wsX1_moveTo := by decide +kernel
  have kf26 := hts (.fieldLink RX1 26 "LanternWeirs$Fleet" "places" "LLanternWeirs$Row;") (by decide +kernel)
  obtain ⟨H, locs, hP, hS, hgo⟩ : ∃ H locs, va_P D vwCl (wF cA F a c q) H ∧ va_S A s.heap H locs ∧ (H = s.heap ∧ locs = []) := ⟨_, _, hP, hS, rfl, rfl⟩
  obtain ⟨hg1, hg2⟩ := hgo
  have hgoal : W pg lch ev (headSpec wsX1_moveTo ({ frames := 2, cells := 0, slots := 0, locals := 45 })).room s mi ([.ref (F 0), .int (nI i), .int (nI l), .int (nI p)] : List Value).toArray below meth cd H locs 0 0 QQ (F0 mi 0 ls []) := by
    refine lv_aload_n hx hb dX1_moveTo_0 rfl (lv_at hl 0 rfl) ?_
    refine lv_iload_n hx hb dX1_moveTo_1 rfl (lv_at hl 1 rfl) ?_
    refine lv_iconst (v := (-1)) hx hb dX1_moveTo_2 (by decide) ?_
    refine cVv (As := [.int (nI i), .int ((-1))]) (rest := []) (wc := (wF cA F a c q)) ⟨hx, hb, hml, hown, hts⟩ (K_X1_crowdBy lch D cA F a c q i ((-1)) H.size (by first | assumption | omega) (by first | assumption | omega)) (cwV 2 hts gX1_moveTo_X1_crowdBy rfl rfl rfl (by decide +kernel) ⟨Nat.le_of_ble_eq_true rfl, Nat.le_of_ble_eq_true rfl⟩) hE hP hD hS hA [0, 1, 2, 3, 4, 5, 6, 7, 8, 9, 10, 11, 12, 13, 14, 15, 16, 17, 18, 19, 20, 21, 22] rfl rfl [F 0, F 1, F 2, F 3, F 4, F 5, F 6, F 7, F 8, F 9, F 10, F 11, F 12, F 13, F 14, F 15, F 16, F 17, F 18, F 19, F 20, F 21, F 22] (fun _ => rfl) rfl (fun (u_2 : Unit) => (wF cA F a (cby a c i (-1)) q)) (fun _ => pst_all 23 rfl rfl rfl) X0.blind (fun _ _ _ => trivial) 0 1 rfl rfl rfl hl.1 rfl rfl (Nat.le_of_ble_eq_true rfl) dX1_moveTo_3 ⟨Nat.zero_le _, Nat.zero_le _⟩ (fun u_2 H locs h_3 hP hD hS => ?_)
    refine lv_aload_n hx hb dX1_moveTo_6 rfl (lv_at hl 0 rfl) ?_
    refine va_get (D := D) (ci := 1) (v := .ref (F 3)) (C := RX1) (T := TX1) (N := 13) hx hb hts inX1 hown hE.1 hP 0 rfl rfl 2 (by decide) kf23 (fun _ h9 => h9) rfl dX1_moveTo_7 ?_
    refine lv_iload_n hx hb dX1_moveTo_10 rfl (lv_at hl 1 rfl) ?_
    refine lv_iload_n hx hb dX1_moveTo_11 rfl (lv_at hl 2 rfl) ?_
    refine cVv (As := [.int (nI i), .int (nI l)]) (rest := []) (wc := (wR cA (F 3) (F 14) 41 (fun z9 => nI (qLa a z9)))) ⟨hx, hb, hml, hown, hts⟩ (K_X2_putk lch D cA (F 3) (F 14) 41 (fun z9 => nI (qLa a z9)) i (nI l) (fun z9 => nI (qLa (uLa a (up (qLa a) i l)) z9)) H.size (by omega) (Nat.le_of_ble_eq_true rfl) (fun j _ => upd_N j)) (cwV 2 hts gX1_moveTo_X2_put rfl rfl rfl (by decide +kernel) ⟨Nat.le_of_ble_eq_true rfl, Nat.le_of_ble_eq_true rfl⟩) hE hP hD hS hA [3, 14] rfl rfl [F 3, F 14] (fun _ => rfl) rfl (fun (u_5 : Unit) => (wF cA F (uLa a (up (qLa a) i l)) (cby a c i (-1)) q)) (fun _ => rfl) X0.blind (fun _ _ _ => trivial) 3 2 rfl rfl rfl hl.1 rfl rfl (Nat.le_of_ble_eq_true rfl) dX1_moveTo_12 ⟨Nat.zero_le _, Nat.zero_le _⟩ (fun u_5 H locs h_6 hP hD hS => ?_)
    refine lv_aload_n hx hb dX1_moveTo_15 rfl (lv_at hl 0 rfl) ?_
    refine va_get (D := D) (ci := 1) (v := .ref (F 4)) (C := RX1) (T := TX1) (N := 13) hx hb hts inX1 hown hE.1 hP 0 rfl rfl 3 (by decide) kf26 (fun _ h9 => h9) rfl dX1_moveTo_16 ?_
    refine lv_iload_n hx hb dX1_moveTo_19 rfl (lv_at hl 1 rfl) ?_
    refine lv_iload_n hx hb dX1_moveTo_20 rfl (lv_at hl 3 rfl) ?_
    refine cVv (As := [.int (nI i), .int (nI p)]) (rest := []) (wc := (wR cA (F 4) (F 15) 41 (fun z9 => nI (qPl (uLa a (up (qLa a) i l)) z9)))) ⟨hx, hb, hml, hown, hts⟩ (K_X2_putk lch D cA (F 4) (F 15) 41 (fun z9 => nI (qPl (uLa a (up (qLa a) i l)) z9)) i (nI p) (fun z9 => nI (qPl (mvA a i l p) z9)) H.size (by omega) (Nat.le_of_ble_eq_true rfl) (fun j _ => upd_N j)) (cwV 2 hts gX1_moveTo_X2_put rfl rfl rfl (by decide +kernel) ⟨Nat.le_of_ble_eq_true rfl, Nat.le_of_ble_eq_true rfl⟩) hE hP hD hS hA [4, 15] rfl rfl [F 4, F 15] (fun _ => rfl) rfl (fun (u_8 : Unit) => (wF cA F (mvA a i l p) (cby a c i (-1)) q)) (fun _ => rfl) X0.blind (fun _ _ _ => trivial) 4 2 rfl rfl rfl hl.1 rfl rfl (Nat.le_of_ble_eq_true rfl) dX1_moveTo_21 ⟨Nat.zero_le _, Nat.zero_le _⟩ (fun u_8 H locs h_9 hP hD hS => ?_)
    refine lv_aload_n hx hb dX1_moveTo_24 rfl (lv_at hl 0 rfl) ?_
    refine lv_iload_n hx hb dX1_moveTo_25 rfl (lv_at hl 1 rfl) ?_
    refine lv_iconst (v := 1) hx hb dX1_moveTo_26 (by decide) ?_
    refine cVv (As := [.int (nI i), .int 1]) (rest := []) (wc := (wF cA F (mvA a i l p) (cby a c i (-1)) q)) ⟨hx, hb, hml, hown, hts⟩ (K_X1_crowdBy lch D cA F (mvA a i l p) (cby a c i (-1)) q i 1 H.size (by first | assumption | omega) (by show up (qPl a) i p i ≤ 60; rw [up_s]; exact h60)) (cwV 2 hts gX1_moveTo_X1_crowdBy rfl rfl rfl (by decide +kernel) ⟨Nat.le_of_ble_eq_true rfl, Nat.le_of_ble_eq_true rfl⟩) hE hP hD hS hA [0, 1, 2, 3, 4, 5, 6, 7, 8, 9, 10, 11, 12, 13, 14, 15, 16, 17, 18, 19, 20, 21, 22] rfl rfl [F 0, F 1, F 2, F 3, F 4, F 5, F 6, F 7, F 8, F 9, F 10, F 11, F 12, F 13, F 14, F 15, F 16, F 17, F 18, F 19, F 20, F 21, F 22] (fun _ => rfl) rfl (fun (u_11 : Unit) => (wF cA F (mvA a i l p) (cby (mvA a i l p) (cby a c i (-1)) i 1) q)) (fun _ => pst_all 23 rfl rfl rfl) X0.blind (fun _ _ _ => trivial) 0 1 rfl rfl rfl hl.1 rfl rfl (Nat.le_of_ble_eq_true rfl) dX1_moveTo_27 ⟨Nat.zero_le _, Nat.zero_le _⟩ (fun u_11 H locs h_12 hP hD hS => ?_)
    rw [hQQ]
    exact W.vret hx hb hr (fun t ht hW => ⟨⟨(), rfl, trivial, by show va_P _ _ _ t.heap; rw [ht]; exact hP⟩, hS.F ht⟩) hS.2.2 dX1_moveTo_30
  rw [hg1, hg2] at hgoal
  exact hgoal

set_option maxHeartbeats 4000000 in
set_option maxRecDepth 100000 in
/-- leave -/
theorem K_X1_leave (lch : Launch) (D : va_G) (cA : ClassId) (F : Nat → Nat) (a : FSt) (c : Nat → Int32) (q : Nat → Int32) (i : Nat) (so : Nat) (sz : Nat) (hk : i < 41) (hp6 : qPl a i ≤ 60) : Met lch yX1_leave wsX1_leave ({ frames := 2, cells := 0, slots := 0, locals := 45 }) (Pr D cA [.ref (F 0), .int (nI i), .int (nI so)] sz (wF cA F a c q) X0) (va_Qv (fun (u : Unit) => True) (fun (u : Unit) t => va_P D vwCl (wF cA F (endA a i so) (cby a c i (-1)) q) t.heap) (va_A (wF cA F a c q) sz)) 0 0 (va_A (wF cA F a c q) sz) := by
  refine Met.ofW (cc := cX1_leave) (maxL := 3) (ret := none) (by decide) rfl ?_
  intro pg ev s mi args below meth cd s₁ B hml hv
  obtain ⟨hav, hsz, hP, hE, hD, hXs⟩ := hv
  have hx := B.exec
  have hb := B.bytes
  have hr := B.returns
  have hts := atoms_spec (ws := wsX1_leave) B.pre
  have hown : s.vm.findClass RX1 = some mi.cls := findClass_of_methodNamed B.named
  have hlocks := B.notSynchronized
  clear B
  subst hav
  subst hsz
  have hD := hD.self (sz := s.heap.size)
  generalize hAe : va_A (wF cA F a c q) s.heap.size = A at hD ⊢
  have hA : ∀ q : Nat, s.heap.size ≤ q → A q := fun q h => by rw [← hAe]; exact Or.inr h
  have hS : va_S A s.heap s.heap [] := va_S.rf
  obtain ⟨QQ, hQQ⟩ : ∃ qq9, qq9 = MQ below (va_Qv (fun (u : Unit) => True) (fun (u : Unit) t => va_P D vwCl (wF cA F (endA a i so) (cby a c i (-1)) q) t.heap) A) ([.ref (F 0), .int (nI i), .int (nI so)] : List Value).toArray s 0 0 A := ⟨_, rfl⟩
  rw [← hQQ]
  have hl := lv_entry ([.ref (F 0), .int (nI i), .int (nI so)]) (n := 3) (Nat.le_of_ble_eq_true rfl)
  rw [lg_entry_eq]
  generalize (lg_sl ([.ref (F 0), .int (nI i), .int (nI so)]) ++ List.replicate (3 - (lg_sl ([.ref (F 0), .int (nI i), .int (nI so)])).length) Slot.unset).toArray = ls at hl ⊢
  have hl : lv_has ls 3 [(0, .ref (F 0)), (1, .int (nI i)), (2, .int (nI so))] := hl
  have kf38 := hts (.fieldLink RX1 38 "LanternWeirs$Fleet" "states" "LLanternWeirs$Row;") (by decide +kernel)
  have inX1 : ∀ w ∈ u_ws RX1 TX1 13, w ∈ wsX1_leave := by decide +kernel
  have kf41 := hts (.fieldLink RX1 41 "LanternWeirs$Fleet" "ends" "LLanternWeirs$Row;") (by decide +kernel)
  have kf58 := hts (.fieldLink RX1 58 "LanternWeirs$Fleet" "minute" "I") (by decide +kernel)
  obtain ⟨H, locs, hP, hS, hgo⟩ : ∃ H locs, va_P D vwCl (wF cA F a c q) H ∧ va_S A s.heap H locs ∧ (H = s.heap ∧ locs = []) := ⟨_, _, hP, hS, rfl, rfl⟩
  obtain ⟨hg1, hg2⟩ := hgo
  have hgoal : W pg lch ev (headSpec wsX1_leave ({ frames := 2, cells := 0, slots := 0, locals := 45 })).room s mi ([.ref (F 0), .int (nI i), .int (nI so)] : List Value).toArray below meth cd H locs 0 0 QQ (F0 mi 0 ls []) := by
    refine lv_aload_n hx hb dX1_leave_0 rfl (lv_at hl 0 rfl) ?_
    refine lv_iload_n hx hb dX1_leave_1 rfl (lv_at hl 1 rfl) ?_
    refine lv_iconst (v := (-1)) hx hb dX1_leave_2 (by decide) ?_
    refine cVv (As := [.int (nI i), .int ((-1))]) (rest := []) (wc := (wF cA F a c q)) ⟨hx, hb, hml, hown, hts⟩ (K_X1_crowdBy lch D cA F a c q i ((-1)) H.size (by first | assumption | omega) (by first | assumption | omega)) (cwV 2 hts gX1_leave_X1_crowdBy rfl rfl rfl (by decide +kernel) ⟨Nat.le_of_ble_eq_true rfl, Nat.le_of_ble_eq_true rfl⟩) hE hP hD hS hA [0, 1, 2, 3, 4, 5, 6, 7, 8, 9, 10, 11, 12, 13, 14, 15, 16, 17, 18, 19, 20, 21, 22] rfl rfl [F 0, F 1, F 2, F 3, F 4, F 5, F 6, F 7, F 8, F 9, F 10, F 11, F 12, F 13, F 14, F 15, F 16, F 17, F 18, F 19, F 20, F 21, F 22] (fun _ => rfl) rfl (fun (u_2 : Unit) => (wF cA F a (cby a c i (-1)) q)) (fun _ => pst_all 23 rfl rfl rfl) X0.blind (fun _ _ _ => trivial) 0 1 rfl rfl rfl hl.1 rfl rfl (Nat.le_of_ble_eq_true rfl) dX1_leave_3 ⟨Nat.zero_le _, Nat.zero_le _⟩ (fun u_2 H locs h_3 hP hD hS => ?_)
    refine lv_aload_n hx hb dX1_leave_6 rfl (lv_at hl 0 rfl) ?_
    refine va_get (D := D) (ci := 1) (v := .ref (F 8)) (C := RX1) (T := TX1) (N := 13) hx hb hts inX1 hown hE.1 hP 0 rfl rfl 7 (by decide) kf38 (fun _ h9 => h9) rfl dX1_leave_7 ?_
    refine lv_iload_n hx hb dX1_leave_10 rfl (lv_at hl 1 rfl) ?_
    refine lv_iload_n hx hb dX1_leave_11 rfl (lv_at hl 2 rfl) ?_
    refine cVv (As := [.int (nI i), .int (nI so)]) (rest := []) (wc := (wR cA (F 8) (F 19) 41 (fun z9 => nI (qSt a z9)))) ⟨hx, hb, hml, hown, hts⟩ (K_X2_putk lch D cA (F 8) (F 19) 41 (fun z9 => nI (qSt a z9)) i (nI so) (fun z9 => nI (qSt (uSt a (up (qSt a) i so)) z9)) H.size (by omega) (Nat.le_of_ble_eq_true rfl) (fun j _ => upd_N j)) (cwV 2 hts gX1_leave_X2_put rfl rfl rfl (by decide +kernel) ⟨Nat.le_of_ble_eq_true rfl, Nat.le_of_ble_eq_true rfl⟩) hE hP hD hS hA [8, 19] rfl rfl [F 8, F 19] (fun _ => rfl) rfl (fun (u_5 : Unit) => (wF cA F (uSt a (up (qSt a) i so)) (cby a c i (-1)) q)) (fun _ => rfl) X0.blind (fun _ _ _ => trivial) 8 2 rfl rfl rfl hl.1 rfl rfl (Nat.le_of_ble_eq_true rfl) dX1_leave_12 ⟨Nat.zero_le _, Nat.zero_le _⟩ (fun u_5 H locs h_6 hP hD hS => ?_)
    refine lv_aload_n hx hb dX1_leave_15 rfl (lv_at hl 0 rfl) ?_
    refine va_get (D := D) (ci := 1) (v := .ref (F 9)) (C := RX1) (T := TX1) (N := 13) hx hb hts inX1 hown hE.1 hP 0 rfl rfl 8 (by decide) kf41 (fun _ h9 => h9) rfl dX1_leave_16 ?_
    refine lv_iload_n hx hb dX1_leave_19 rfl (lv_at hl 1 rfl) ?_
    refine lv_aload_n hx hb dX1_leave_20 rfl (lv_at hl 0 rfl) ?_
    refine va_get (D := D) (ci := 1) (v := .int (qM (uSt a (up (qSt a) i so)))) (C := RX1) (T := TX1) (N := 13) hx hb hts inX1 hown hE.1 hP 0 rfl rfl 12 (by decide) kf58 (fun _ h9 => h9) rfl dX1_leave_21 ?_
    refine cVv (As := [.int (nI i), .int (qM (uSt a (up (qSt a) i so)))]) (rest := []) (wc := (wR cA (F 9) (F 20) 41 (qEn (uSt a (up (qSt a) i so))))) ⟨hx, hb, hml, hown, hts⟩ (K_X2_putk lch D cA (F 9) (F 20) 41 (qEn (uSt a (up (qSt a) i so))) i (qM (uSt a (up (qSt a) i so))) (qEn (endA a i so)) H.size (by omega) (Nat.le_of_ble_eq_true rfl) (fun j _ => upd_I j)) (cwV 2 hts gX1_leave_X2_put rfl rfl rfl (by decide +kernel) ⟨Nat.le_of_ble_eq_true rfl, Nat.le_of_ble_eq_true rfl⟩) hE hP hD hS hA [9, 20] rfl rfl [F 9, F 20] (fun _ => rfl) rfl (fun (u_8 : Unit) => (wF cA F (endA a i so) (cby a c i (-1)) q)) (fun _ => rfl) X0.blind (fun _ _ _ => trivial) 9 2 rfl rfl rfl hl.1 rfl rfl (Nat.le_of_ble_eq_true rfl) dX1_leave_24 ⟨Nat.zero_le _, Nat.zero_le _⟩ (fun u_8 H locs h_9 hP hD hS => ?_)
    rw [hQQ]
    exact W.vret hx hb hr (fun t ht hW => ⟨⟨(), rfl, trivial, by show va_P _ _ _ t.heap; rw [ht]; exact hP⟩, hS.F ht⟩) hS.2.2 dX1_leave_27
  rw [hg1, hg2] at hgoal
  exact hgoal

set_option maxHeartbeats 4000000 in
set_option maxRecDepth 100000 in
/-- fact -/
theorem K_X1_fact (lch : Launch) (D : va_G) (cA : ClassId) (F : Nat → Nat) (a : FSt) (c : Nat → Int32) (q : Nat → Int32) (i : Nat) (w : Nat) (sz : Nat) (hk : i < 41) (hw : w ≤ 8) : Met lch yX1_fact wsX1_fact ({ frames := 1, cells := 0, slots := 0, locals := 21 }) (Pr D cA [.ref (F 0), .int (nI i), .int (nI w)] sz (wF cA F a c q) X0) (va_Qi (fun (r : Int32) (u : Unit) => r = factA a i w) (fun _ _ => True) (fun q : Nat => sz ≤ q)) 0 0 (fun q : Nat => sz ≤ q) := by
  refine Met.ofW (cc := cX1_fact) (maxL := 3) (ret := (some .int)) (by decide) rfl ?_
  intro pg ev s mi args below meth cd s₁ B hml hv
  obtain ⟨hav, hsz, hP, hE, hD, hXs⟩ := hv
  have hx := B.exec
  have hb := B.bytes
  have hr := B.returns
  have hts := atoms_spec (ws := wsX1_fact) B.pre
  have hown : s.vm.findClass RX1 = some mi.cls := findClass_of_methodNamed B.named
  have hlocks := B.notSynchronized
  clear B
  subst hav
  subst hsz
  have hA : ∀ q : Nat, s.heap.size ≤ q → (fun q : Nat => s.heap.size ≤ q) q := fun _ h => h
  have hS : va_S (fun q : Nat => s.heap.size ≤ q) s.heap s.heap [] := va_S.rf
  obtain ⟨QQ, hQQ⟩ : ∃ qq9, qq9 = MQ below (va_Qi (fun (r : Int32) (u : Unit) => r = factA a i w) (fun _ _ => True) (fun q : Nat => s.heap.size ≤ q)) ([.ref (F 0), .int (nI i), .int (nI w)] : List Value).toArray s 0 0 (fun q : Nat => s.heap.size ≤ q) := ⟨_, rfl⟩
  rw [← hQQ]
  have hl := lv_entry ([.ref (F 0), .int (nI i), .int (nI w)]) (n := 3) (Nat.le_of_ble_eq_true rfl)
  rw [lg_entry_eq]
  generalize (lg_sl ([.ref (F 0), .int (nI i), .int (nI w)]) ++ List.replicate (3 - (lg_sl ([.ref (F 0), .int (nI i), .int (nI w)])).length) Slot.unset).toArray = ls at hl ⊢
  have hl : lv_has ls 3 [(0, .ref (F 0)), (1, .int (nI i)), (2, .int (nI w))] := hl
  have kf16 := hts (.fieldLink RX1 16 "LanternWeirs$Fleet" "frames" "LLanternWeirs$Row;") (by decide +kernel)
  have inX1 : ∀ w ∈ u_ws RX1 TX1 13, w ∈ wsX1_fact := by decide +kernel
  have kf20 := hts (.fieldLink RX1 20 "LanternWeirs$Fleet" "wishes" "LLanternWeirs$Row;") (by decide +kernel)
  have kf23 := hts (.fieldLink RX1 23 "LanternWeirs$Fleet" "lanes" "LLanternWeirs$Row;") (by decide +kernel)
  have kf26 := hts (.fieldLink RX1 26 "LanternWeirs$Fleet" "places" "LLanternWeirs$Row;") (by decide +kernel)
  have kf29 := hts (.fieldLink RX1 29 "LanternWeirs$Fleet" "waxes" "LLanternWeirs$Row;") (by decide +kernel)
  have kf32 := hts (.fieldLink RX1 32 "LanternWeirs$Fleet" "wets" "LLanternWeirs$Row;") (by decide +kernel)
  have kf35 := hts (.fieldLink RX1 35 "LanternWeirs$Fleet" "burning" "LLanternWeirs$Row;") (by decide +kernel)
  have kf38 := hts (.fieldLink RX1 38 "LanternWeirs$Fleet" "states" "LLanternWeirs$Row;") (by decide +kernel)
  have kf41 := hts (.fieldLink RX1 41 "LanternWeirs$Fleet" "ends" "LLanternWeirs$Row;") (by decide +kernel)
  obtain ⟨H, locs, hP, hS, hgo⟩ : ∃ H locs, va_P D vwCl (wF cA F a c q) H ∧ va_S (fun q : Nat => s.heap.size ≤ q) s.heap H locs ∧ (H = s.heap ∧ locs = []) := ⟨_, _, hP, hS, rfl, rfl⟩
  obtain ⟨hg1, hg2⟩ := hgo
  have hgoal : W pg lch ev (headSpec wsX1_fact ({ frames := 1, cells := 0, slots := 0, locals := 21 })).room s mi ([.ref (F 0), .int (nI i), .int (nI w)] : List Value).toArray below meth cd H locs 0 0 QQ (F0 mi 0 ls []) := by
    refine lv_iload_n hx hb dX1_fact_0 rfl (lv_at hl 2 rfl) ?_
    obtain rfl | rfl | rfl | rfl | rfl | rfl | rfl | rfl | rfl : w = 0 ∨ w = 1 ∨ w = 2 ∨ w = 3 ∨ w = 4 ∨ w = 5 ∨ w = 6 ∨ w = 7 ∨ w = 8 := by omega
    · skip
      refine lv_tableIn (tgt := 48) (off := 47) hx hb dX1_fact_1 (by decide) (by decide) (by decide) (by decide) ?_
      refine lv_aload_n hx hb dX1_fact_48 rfl (lv_at hl 0 rfl) ?_
      refine va_get (D := D) (ci := 1) (v := .ref (F 1)) (C := RX1) (T := TX1) (N := 13) hx hb hts inX1 hown hE.1 hP 0 rfl rfl 0 (by decide) kf16 (fun _ h9 => h9) rfl dX1_fact_49 ?_
      refine lv_iload_n hx hb dX1_fact_52 rfl (lv_at hl 1 rfl) ?_
      refine pVi (As := [.int (nI i)]) (rest := []) (wc := (wR cA (F 1) (F 12) 41 (fun z9 => nI (qFr a z9)))) ⟨hx, hb, hml, hown, hts⟩ (K_X2_getk lch D cA (F 1) (F 12) 41 (fun z9 => nI (qFr a z9)) i (nI (qFr a i)) H.size (by omega) (Nat.le_of_ble_eq_true rfl) (rfl)) (cwV 1 hts gX1_fact_X2_get rfl rfl rfl (by decide +kernel) ⟨Nat.le_of_ble_eq_true rfl, Nat.le_of_ble_eq_true rfl⟩) hE hP hD hS hA [1, 12] rfl rfl X0.blind (fun _ _ _ => trivial) 1 2 rfl rfl rfl hl.1 rfl rfl (Nat.le_of_ble_eq_true rfl) dX1_fact_53 ⟨Nat.zero_le _, Nat.zero_le _⟩ (fun r_1 u_2 H locs h_3 hP hS => ?_)
      subst h_3
      rw [hQQ]
      exact W.iret (v := nI (qFr a i)) hx hb hr (fun t ht hW => ⟨⟨nI (qFr a i), (), rfl, rfl, trivial⟩, hS.F ht⟩) hS.2.2 dX1_fact_56
    · skip
      refine lv_tableIn (tgt := 57) (off := 56) hx hb dX1_fact_1 (by decide) (by decide) (by decide) (by decide) ?_
      refine lv_aload_n hx hb dX1_fact_57 rfl (lv_at hl 0 rfl) ?_
      refine va_get (D := D) (ci := 1) (v := .ref (F 2)) (C := RX1) (T := TX1) (N := 13) hx hb hts inX1 hown hE.1 hP 0 rfl rfl 1 (by decide) kf20 (fun _ h9 => h9) rfl dX1_fact_58 ?_
      refine lv_iload_n hx hb dX1_fact_61 rfl (lv_at hl 1 rfl) ?_
      refine pVi (As := [.int (nI i)]) (rest := []) (wc := (wR cA (F 2) (F 13) 41 (qWi a))) ⟨hx, hb, hml, hown, hts⟩ (K_X2_getk lch D cA (F 2) (F 13) 41 (qWi a) i (qWi a i) H.size (by omega) (Nat.le_of_ble_eq_true rfl) (rfl)) (cwV 1 hts gX1_fact_X2_get rfl rfl rfl (by decide +kernel) ⟨Nat.le_of_ble_eq_true rfl, Nat.le_of_ble_eq_true rfl⟩) hE hP hD hS hA [2, 13] rfl rfl X0.blind (fun _ _ _ => trivial) 2 2 rfl rfl rfl hl.1 rfl rfl (Nat.le_of_ble_eq_true rfl) dX1_fact_62 ⟨Nat.zero_le _, Nat.zero_le _⟩ (fun r_4 u_5 H locs h_6 hP hS => ?_)
      subst h_6
      rw [hQQ]
      exact W.iret (v := qWi a i) hx hb hr (fun t ht hW => ⟨⟨qWi a i, (), rfl, rfl, trivial⟩, hS.F ht⟩) hS.2.2 dX1_fact_65
    · skip
      refine lv_tableIn (tgt := 66) (off := 65) hx hb dX1_fact_1 (by decide) (by decide) (by decide) (by decide) ?_
      refine lv_aload_n hx hb dX1_fact_66 rfl (lv_at hl 0 rfl) ?_
      refine va_get (D := D) (ci := 1) (v := .ref (F 3)) (C := RX1) (T := TX1) (N := 13) hx hb hts inX1 hown hE.1 hP 0 rfl rfl 2 (by decide) kf23 (fun _ h9 => h9) rfl dX1_fact_67 ?_
      refine lv_iload_n hx hb dX1_fact_70 rfl (lv_at hl 1 rfl) ?_
      refine pVi (As := [.int (nI i)]) (rest := []) (wc := (wR cA (F 3) (F 14) 41 (fun z9 => nI (qLa a z9)))) ⟨hx, hb, hml, hown, hts⟩ (K_X2_getk lch D cA (F 3) (F 14) 41 (fun z9 => nI (qLa a z9)) i (nI (qLa a i)) H.size (by omega) (Nat.le_of_ble_eq_true rfl) (rfl)) (cwV 1 hts gX1_fact_X2_get rfl rfl rfl (by decide +kernel) ⟨Nat.le_of_ble_eq_true rfl, Nat.le_of_ble_eq_true rfl⟩) hE hP hD hS hA [3, 14] rfl rfl X0.blind (fun _ _ _ => trivial) 3 2 rfl rfl rfl hl.1 rfl rfl (Nat.le_of_ble_eq_true rfl) dX1_fact_71 ⟨Nat.zero_le _, Nat.zero_le _⟩ (fun r_7 u_8 H locs h_9 hP hS => ?_)
      subst h_9
      rw [hQQ]
      exact W.iret (v := nI (qLa a i)) hx hb hr (fun t ht hW => ⟨⟨nI (qLa a i), (), rfl, rfl, trivial⟩, hS.F ht⟩) hS.2.2 dX1_fact_74
    · skip
      refine lv_tableIn (tgt := 75) (off := 74) hx hb dX1_fact_1 (by decide) (by decide) (by decide) (by decide) ?_
      refine lv_aload_n hx hb dX1_fact_75 rfl (lv_at hl 0 rfl) ?_
      refine va_get (D := D) (ci := 1) (v := .ref (F 4)) (C := RX1) (T := TX1) (N := 13) hx hb hts inX1 hown hE.1 hP 0 rfl rfl 3 (by decide) kf26 (fun _ h9 => h9) rfl dX1_fact_76 ?_
      refine lv_iload_n hx hb dX1_fact_79 rfl (lv_at hl 1 rfl) ?_
      refine pVi (As := [.int (nI i)]) (rest := []) (wc := (wR cA (F 4) (F 15) 41 (fun z9 => nI (qPl a z9)))) ⟨hx, hb, hml, hown, hts⟩ (K_X2_getk lch D cA (F 4) (F 15) 41 (fun z9 => nI (qPl a z9)) i (nI (qPl a i)) H.size (by omega) (Nat.le_of_ble_eq_true rfl) (rfl)) (cwV 1 hts gX1_fact_X2_get rfl rfl rfl (by decide +kernel) ⟨Nat.le_of_ble_eq_true rfl, Nat.le_of_ble_eq_true rfl⟩) hE hP hD hS hA [4, 15] rfl rfl X0.blind (fun _ _ _ => trivial) 4 2 rfl rfl rfl hl.1 rfl rfl (Nat.le_of_ble_eq_true rfl) dX1_fact_80 ⟨Nat.zero_le _, Nat.zero_le _⟩ (fun r_10 u_11 H locs h_12 hP hS => ?_)
      subst h_12
      rw [hQQ]
      exact W.iret (v := nI (qPl a i)) hx hb hr (fun t ht hW => ⟨⟨nI (qPl a i), (), rfl, rfl, trivial⟩, hS.F ht⟩) hS.2.2 dX1_fact_83
    · skip
      refine lv_tableIn (tgt := 84) (off := 83) hx hb dX1_fact_1 (by decide) (by decide) (by decide) (by decide) ?_
      refine lv_aload_n hx hb dX1_fact_84 rfl (lv_at hl 0 rfl) ?_
      refine va_get (D := D) (ci := 1) (v := .ref (F 5)) (C := RX1) (T := TX1) (N := 13) hx hb hts inX1 hown hE.1 hP 0 rfl rfl 4 (by decide) kf29 (fun _ h9 => h9) rfl dX1_fact_85 ?_
      refine lv_iload_n hx hb dX1_fact_88 rfl (lv_at hl 1 rfl) ?_
      refine pVi (As := [.int (nI i)]) (rest := []) (wc := (wR cA (F 5) (F 16) 41 (fun z9 => nI (qWx a z9)))) ⟨hx, hb, hml, hown, hts⟩ (K_X2_getk lch D cA (F 5) (F 16) 41 (fun z9 => nI (qWx a z9)) i (nI (qWx a i)) H.size (by omega) (Nat.le_of_ble_eq_true rfl) (rfl)) (cwV 1 hts gX1_fact_X2_get rfl rfl rfl (by decide +kernel) ⟨Nat.le_of_ble_eq_true rfl, Nat.le_of_ble_eq_true rfl⟩) hE hP hD hS hA [5, 16] rfl rfl X0.blind (fun _ _ _ => trivial) 5 2 rfl rfl rfl hl.1 rfl rfl (Nat.le_of_ble_eq_true rfl) dX1_fact_89 ⟨Nat.zero_le _, Nat.zero_le _⟩ (fun r_13 u_14 H locs h_15 hP hS => ?_)
      subst h_15
      rw [hQQ]
      exact W.iret (v := nI (qWx a i)) hx hb hr (fun t ht hW => ⟨⟨nI (qWx a i), (), rfl, rfl, trivial⟩, hS.F ht⟩) hS.2.2 dX1_fact_92
    · skip
      refine lv_tableIn (tgt := 93) (off := 92) hx hb dX1_fact_1 (by decide) (by decide) (by decide) (by decide) ?_
      refine lv_aload_n hx hb dX1_fact_93 rfl (lv_at hl 0 rfl) ?_
      refine va_get (D := D) (ci := 1) (v := .ref (F 6)) (C := RX1) (T := TX1) (N := 13) hx hb hts inX1 hown hE.1 hP 0 rfl rfl 5 (by decide) kf32 (fun _ h9 => h9) rfl dX1_fact_94 ?_
      refine lv_iload_n hx hb dX1_fact_97 rfl (lv_at hl 1 rfl) ?_
      refine pVi (As := [.int (nI i)]) (rest := []) (wc := (wR cA (F 6) (F 17) 41 (qWe a))) ⟨hx, hb, hml, hown, hts⟩ (K_X2_getk lch D cA (F 6) (F 17) 41 (qWe a) i (qWe a i) H.size (by omega) (Nat.le_of_ble_eq_true rfl) (rfl)) (cwV 1 hts gX1_fact_X2_get rfl rfl rfl (by decide +kernel) ⟨Nat.le_of_ble_eq_true rfl, Nat.le_of_ble_eq_true rfl⟩) hE hP hD hS hA [6, 17] rfl rfl X0.blind (fun _ _ _ => trivial) 6 2 rfl rfl rfl hl.1 rfl rfl (Nat.le_of_ble_eq_true rfl) dX1_fact_98 ⟨Nat.zero_le _, Nat.zero_le _⟩ (fun r_16 u_17 H locs h_18 hP hS => ?_)
      subst h_18
      rw [hQQ]
      exact W.iret (v := qWe a i) hx hb hr (fun t ht hW => ⟨⟨qWe a i, (), rfl, rfl, trivial⟩, hS.F ht⟩) hS.2.2 dX1_fact_101
    · skip
      refine lv_tableIn (tgt := 102) (off := 101) hx hb dX1_fact_1 (by decide) (by decide) (by decide) (by decide) ?_
      refine lv_aload_n hx hb dX1_fact_102 rfl (lv_at hl 0 rfl) ?_
      refine va_get (D := D) (ci := 1) (v := .ref (F 7)) (C := RX1) (T := TX1) (N := 13) hx hb hts inX1 hown hE.1 hP 0 rfl rfl 6 (by decide) kf35 (fun _ h9 => h9) rfl dX1_fact_103 ?_
      refine lv_iload_n hx hb dX1_fact_106 rfl (lv_at hl 1 rfl) ?_
      refine pVi (As := [.int (nI i)]) (rest := []) (wc := (wR cA (F 7) (F 18) 41 (fun z9 => bi (qBu a z9)))) ⟨hx, hb, hml, hown, hts⟩ (K_X2_getk lch D cA (F 7) (F 18) 41 (fun z9 => bi (qBu a z9)) i (bi (qBu a i)) H.size (by omega) (Nat.le_of_ble_eq_true rfl) (rfl)) (cwV 1 hts gX1_fact_X2_get rfl rfl rfl (by decide +kernel) ⟨Nat.le_of_ble_eq_true rfl, Nat.le_of_ble_eq_true rfl⟩) hE hP hD hS hA [7, 18] rfl rfl X0.blind (fun _ _ _ => trivial) 7 2 rfl rfl rfl hl.1 rfl rfl (Nat.le_of_ble_eq_true rfl) dX1_fact_107 ⟨Nat.zero_le _, Nat.zero_le _⟩ (fun r_19 u_20 H locs h_21 hP hS => ?_)
      subst h_21
      rw [hQQ]
      exact W.iret (v := bi (qBu a i)) hx hb hr (fun t ht hW => ⟨⟨bi (qBu a i), (), rfl, rfl, trivial⟩, hS.F ht⟩) hS.2.2 dX1_fact_110
    · skip
      refine lv_tableIn (tgt := 111) (off := 110) hx hb dX1_fact_1 (by decide) (by decide) (by decide) (by decide) ?_
      refine lv_aload_n hx hb dX1_fact_111 rfl (lv_at hl 0 rfl) ?_
      refine va_get (D := D) (ci := 1) (v := .ref (F 8)) (C := RX1) (T := TX1) (N := 13) hx hb hts inX1 hown hE.1 hP 0 rfl rfl 7 (by decide) kf38 (fun _ h9 => h9) rfl dX1_fact_112 ?_
      refine lv_iload_n hx hb dX1_fact_115 rfl (lv_at hl 1 rfl) ?_
      refine pVi (As := [.int (nI i)]) (rest := []) (wc := (wR cA (F 8) (F 19) 41 (fun z9 => nI (qSt a z9)))) ⟨hx, hb, hml, hown, hts⟩ (K_X2_getk lch D cA (F 8) (F 19) 41 (fun z9 => nI (qSt a z9)) i (nI (qSt a i)) H.size (by omega) (Nat.le_of_ble_eq_true rfl) (rfl)) (cwV 1 hts gX1_fact_X2_get rfl rfl rfl (by decide +kernel) ⟨Nat.le_of_ble_eq_true rfl, Nat.le_of_ble_eq_true rfl⟩) hE hP hD hS hA [8, 19] rfl rfl X0.blind (fun _ _ _ => trivial) 8 2 rfl rfl rfl hl.1 rfl rfl (Nat.le_of_ble_eq_true rfl) dX1_fact_116 ⟨Nat.zero_le _, Nat.zero_le _⟩ (fun r_22 u_23 H locs h_24 hP hS => ?_)
      subst h_24
      rw [hQQ]
      exact W.iret (v := nI (qSt a i)) hx hb hr (fun t ht hW => ⟨⟨nI (qSt a i), (), rfl, rfl, trivial⟩, hS.F ht⟩) hS.2.2 dX1_fact_119
    · skip
      refine lv_tableOut (tgt := 120) hx hb dX1_fact_1 (Or.inr (by decide)) (by decide) ?_
      refine lv_aload_n hx hb dX1_fact_120 rfl (lv_at hl 0 rfl) ?_
      refine va_get (D := D) (ci := 1) (v := .ref (F 9)) (C := RX1) (T := TX1) (N := 13) hx hb hts inX1 hown hE.1 hP 0 rfl rfl 8 (by decide) kf41 (fun _ h9 => h9) rfl dX1_fact_121 ?_
      refine lv_iload_n hx hb dX1_fact_124 rfl (lv_at hl 1 rfl) ?_
      refine pVi (As := [.int (nI i)]) (rest := []) (wc := (wR cA (F 9) (F 20) 41 (qEn a))) ⟨hx, hb, hml, hown, hts⟩ (K_X2_getk lch D cA (F 9) (F 20) 41 (qEn a) i (qEn a i) H.size (by omega) (Nat.le_of_ble_eq_true rfl) (rfl)) (cwV 1 hts gX1_fact_X2_get rfl rfl rfl (by decide +kernel) ⟨Nat.le_of_ble_eq_true rfl, Nat.le_of_ble_eq_true rfl⟩) hE hP hD hS hA [9, 20] rfl rfl X0.blind (fun _ _ _ => trivial) 9 2 rfl rfl rfl hl.1 rfl rfl (Nat.le_of_ble_eq_true rfl) dX1_fact_125 ⟨Nat.zero_le _, Nat.zero_le _⟩ (fun r_25 u_26 H locs h_27 hP hS => ?_)
      subst h_27
      rw [hQQ]
      exact W.iret (v := qEn a i) hx hb hr (fun t ht hW => ⟨⟨qEn a i, (), rfl, rfl, trivial⟩, hS.F ht⟩) hS.2.2 dX1_fact_128
  rw [hg1, hg2] at hgoal
  exact hgoal

set_option maxHeartbeats 4000000 in
set_option maxRecDepth 100000 in
/-- share -/
theorem K_X1_share (lch : Launch) (D : va_G) (cA : ClassId) (F : Nat → Nat) (a : FSt) (c : Nat → Int32) (q : Nat → Int32) (i : Nat) (w : Nat) (sz : Nat) (hk : i < 41) (hs : qSt a i < 3) (hw : w = 2 ∨ w = 3 ∨ w = 4 ∨ w = 5 ∨ w = 6 ∨ w = 9) : Met lch yX1_share wsX1_share ({ frames := 1, cells := 0, slots := 0, locals := 21 }) (Pr D cA [.ref (F 0), .int (nI i), .int (nI w)] sz (wF cA F a c q) X0) (va_Qi (fun (r : Int32) (u : Unit) => r = shareA a w i) (fun _ _ => True) (fun q : Nat => sz ≤ q)) 0 0 (fun q : Nat => sz ≤ q) := by
  refine Met.ofW (cc := cX1_share) (maxL := 5) (ret := (some .int)) (by decide) rfl ?_
  intro pg ev s mi args below meth cd s₁ B hml hv
  obtain ⟨hav, hsz, hP, hE, hD, hXs⟩ := hv
  have hx := B.exec
  have hb := B.bytes
  have hr := B.returns
  have hts := atoms_spec (ws := wsX1_share) B.pre
  have hown : s.vm.findClass RX1 = some mi.cls := findClass_of_methodNamed B.named
  have hlocks := B.notSynchronized
  clear B
  subst hav
  subst hsz
  have hA : ∀ q : Nat, s.heap.size ≤ q → (fun q : Nat => s.heap.size ≤ q) q := fun _ h => h
  have hS : va_S (fun q : Nat => s.heap.size ≤ q) s.heap s.heap [] := va_S.rf
  obtain ⟨QQ, hQQ⟩ : ∃ qq9, qq9 = MQ below (va_Qi (fun (r : Int32) (u : Unit) => r = shareA a w i) (fun _ _ => True) (fun q : Nat => s.heap.size ≤ q)) ([.ref (F 0), .int (nI i), .int (nI w)] : List Value).toArray s 0 0 (fun q : Nat => s.heap.size ≤ q) := ⟨_, rfl⟩
  rw [← hQQ]
  have hl := lv_entry ([.ref (F 0), .int (nI i), .int (nI w)]) (n := 5) (Nat.le_of_ble_eq_true rfl)
  rw [lg_entry_eq]
  generalize (lg_sl ([.ref (F 0), .int (nI i), .int (nI w)]) ++ List.replicate (5 - (lg_sl ([.ref (F 0), .int (nI i), .int (nI w)])).length) Slot.unset).toArray = ls at hl ⊢
  have hl : lv_has ls 5 [(0, .ref (F 0)), (1, .int (nI i)), (2, .int (nI w))] := hl
  have kf38 := hts (.fieldLink RX1 38 "LanternWeirs$Fleet" "states" "LLanternWeirs$Row;") (by decide +kernel)
  have inX1 : ∀ w ∈ u_ws RX1 TX1 13, w ∈ wsX1_share := by decide +kernel
  have kf35 := hts (.fieldLink RX1 35 "LanternWeirs$Fleet" "burning" "LLanternWeirs$Row;") (by decide +kernel)
  have kf20 := hts (.fieldLink RX1 20 "LanternWeirs$Fleet" "wishes" "LLanternWeirs$Row;") (by decide +kernel)
  obtain ⟨H, locs, hP, hS, hgo⟩ : ∃ H locs, va_P D vwCl (wF cA F a c q) H ∧ va_S (fun q : Nat => s.heap.size ≤ q) s.heap H locs ∧ (H = s.heap ∧ locs = []) := ⟨_, _, hP, hS, rfl, rfl⟩
  obtain ⟨hg1, hg2⟩ := hgo
  have hgoal : W pg lch ev (headSpec wsX1_share ({ frames := 1, cells := 0, slots := 0, locals := 21 })).room s mi ([.ref (F 0), .int (nI i), .int (nI w)] : List Value).toArray below meth cd H locs 0 0 QQ (F0 mi 0 ls []) := by
    refine lv_aload_n hx hb dX1_share_0 rfl (lv_at hl 0 rfl) ?_
    refine va_get (D := D) (ci := 1) (v := .ref (F 8)) (C := RX1) (T := TX1) (N := 13) hx hb hts inX1 hown hE.1 hP 0 rfl rfl 7 (by decide) kf38 (fun _ h9 => h9) rfl dX1_share_1 ?_
    refine lv_iload_n hx hb dX1_share_4 rfl (lv_at hl 1 rfl) ?_
    refine pVi (As := [.int (nI i)]) (rest := []) (wc := (wR cA (F 8) (F 19) 41 (fun z9 => nI (qSt a z9)))) ⟨hx, hb, hml, hown, hts⟩ (K_X2_getk lch D cA (F 8) (F 19) 41 (fun z9 => nI (qSt a z9)) i (nI (qSt a i)) H.size (by omega) (Nat.le_of_ble_eq_true rfl) (rfl)) (cwV 1 hts gX1_share_X2_get rfl rfl rfl (by decide +kernel) ⟨Nat.le_of_ble_eq_true rfl, Nat.le_of_ble_eq_true rfl⟩) hE hP hD hS hA [8, 19] rfl rfl X0.blind (fun _ _ _ => trivial) 8 2 rfl rfl rfl hl.1 rfl rfl (Nat.le_of_ble_eq_true rfl) dX1_share_5 ⟨Nat.zero_le _, Nat.zero_le _⟩ (fun r_1 u_2 H locs h_3 hP hS => ?_)
    subst h_3
    refine lv_istore_n (lv' := [(3, .int (nI (qSt a i))), (0, .ref (F 0)), (1, .int (nI i)), (2, .int (nI w))]) hx hb dX1_share_8 rfl hl (by decide) rfl (fun ls hl => ?_)
    refine lv_aload_n hx hb dX1_share_9 rfl (lv_at hl 1 rfl) ?_
    refine va_get (D := D) (ci := 1) (v := .ref (F 7)) (C := RX1) (T := TX1) (N := 13) hx hb hts inX1 hown hE.1 hP 0 rfl rfl 6 (by decide) kf35 (fun _ h9 => h9) rfl dX1_share_10 ?_
    refine lv_iload_n hx hb dX1_share_13 rfl (lv_at hl 2 rfl) ?_
    refine pVi (As := [.int (nI i)]) (rest := []) (wc := (wR cA (F 7) (F 18) 41 (fun z9 => bi (qBu a z9)))) ⟨hx, hb, hml, hown, hts⟩ (K_X2_getk lch D cA (F 7) (F 18) 41 (fun z9 => bi (qBu a z9)) i (bi (qBu a i)) H.size (by omega) (Nat.le_of_ble_eq_true rfl) (rfl)) (cwV 1 hts gX1_share_X2_get rfl rfl rfl (by decide +kernel) ⟨Nat.le_of_ble_eq_true rfl, Nat.le_of_ble_eq_true rfl⟩) hE hP hD hS hA [7, 18] rfl rfl X0.blind (fun _ _ _ => trivial) 7 2 rfl rfl rfl hl.1 rfl rfl (Nat.le_of_ble_eq_true rfl) dX1_share_14 ⟨Nat.zero_le _, Nat.zero_le _⟩ (fun r_4 u_5 H locs h_6 hP hS => ?_)
    subst h_6
    refine lv_istore (lv' := [(4, .int (bi (qBu a i))), (3, .int (nI (qSt a i))), (0, .ref (F 0)), (1, .int (nI i)), (2, .int (nI w))]) hx hb dX1_share_17 hl (by decide) rfl (fun ls hl => ?_)
    refine lv_iload_n hx hb dX1_share_19 rfl (lv_at hl 4 rfl) ?_
    obtain rfl | rfl | rfl | rfl | rfl | rfl := hw
    · skip
      refine lv_tableIn (tgt := 56) (off := 36) hx hb dX1_share_20 (by decide) (by decide) (by decide) (by decide) ?_
      refine lv_iload_n hx hb dX1_share_56 rfl (lv_at hl 1 rfl) ?_
      refine lv_if_ne (tgt := 64) hx hb dX1_share_57 (by decide) (fun c57 => ?_) (fun c57 => ?_)
      · skip
        have c57 := (not_congr (nI_eq (a := qSt a i) (b := 0) (by omega) (by omega))).mp c57
        refine lv_iconst (v := 0) hx hb dX1_share_64 (by decide) ?_
        rw [hQQ]
        exact W.iret (v := 0) hx hb hr (fun t ht hW => ⟨⟨0, (), rfl, by simp [shareA, c57], trivial⟩, hS.F ht⟩) hS.2.2 dX1_share_65
      · skip
        have c57 := (nI_eq (a := qSt a i) (b := 0) (by omega) (by omega)).mp c57
        refine lv_iconst (v := 1) hx hb dX1_share_60 (by decide) ?_
        refine lv_goto (tgt := 65) hx hb dX1_share_61 (by decide) ?_
        rw [hQQ]
        exact W.iret (v := 1) hx hb hr (fun t ht hW => ⟨⟨1, (), rfl, by simp [shareA, c57], trivial⟩, hS.F ht⟩) hS.2.2 dX1_share_65
    · skip
      refine lv_tableIn (tgt := 66) (off := 46) hx hb dX1_share_20 (by decide) (by decide) (by decide) (by decide) ?_
      refine lv_iload_n hx hb dX1_share_66 rfl (lv_at hl 1 rfl) ?_
      refine lv_iconst (v := 1) hx hb dX1_share_67 (by decide) ?_
      refine lv_icmp_ne (tgt := 75) hx hb dX1_share_68 (by decide) (fun c68 => ?_) (fun c68 => ?_)
      · skip
        have c68 := (not_congr (nI_eq (a := qSt a i) (b := 1) (by omega) (by omega))).mp c68
        refine lv_iconst (v := 0) hx hb dX1_share_75 (by decide) ?_
        rw [hQQ]
        exact W.iret (v := 0) hx hb hr (fun t ht hW => ⟨⟨0, (), rfl, by simp [shareA, c68], trivial⟩, hS.F ht⟩) hS.2.2 dX1_share_76
      · skip
        have c68 := (nI_eq (a := qSt a i) (b := 1) (by omega) (by omega)).mp c68
        refine lv_iconst (v := 1) hx hb dX1_share_71 (by decide) ?_
        refine lv_goto (tgt := 76) hx hb dX1_share_72 (by decide) ?_
        rw [hQQ]
        exact W.iret (v := 1) hx hb hr (fun t ht hW => ⟨⟨1, (), rfl, by simp [shareA, c68], trivial⟩, hS.F ht⟩) hS.2.2 dX1_share_76
    · skip
      refine lv_tableIn (tgt := 77) (off := 57) hx hb dX1_share_20 (by decide) (by decide) (by decide) (by decide) ?_
      refine lv_iload_n hx hb dX1_share_77 rfl (lv_at hl 1 rfl) ?_
      refine lv_iconst (v := 2) hx hb dX1_share_78 (by decide) ?_
      refine lv_icmp_ne (tgt := 86) hx hb dX1_share_79 (by decide) (fun c79 => ?_) (fun c79 => ?_)
      · skip
        have c79 := (not_congr (nI_eq (a := qSt a i) (b := 2) (by omega) (by omega))).mp c79
        refine lv_iconst (v := 0) hx hb dX1_share_86 (by decide) ?_
        rw [hQQ]
        exact W.iret (v := 0) hx hb hr (fun t ht hW => ⟨⟨0, (), rfl, by simp [shareA, c79], trivial⟩, hS.F ht⟩) hS.2.2 dX1_share_87
      · skip
        have c79 := (nI_eq (a := qSt a i) (b := 2) (by omega) (by omega)).mp c79
        refine lv_iconst (v := 1) hx hb dX1_share_82 (by decide) ?_
        refine lv_goto (tgt := 87) hx hb dX1_share_83 (by decide) ?_
        rw [hQQ]
        exact W.iret (v := 1) hx hb hr (fun t ht hW => ⟨⟨1, (), rfl, by simp [shareA, c79], trivial⟩, hS.F ht⟩) hS.2.2 dX1_share_87
    · skip
      refine lv_tableIn (tgt := 88) (off := 68) hx hb dX1_share_20 (by decide) (by decide) (by decide) (by decide) ?_
      refine lv_iload_n hx hb dX1_share_88 rfl (lv_at hl 1 rfl) ?_
      refine lv_if_ne (tgt := 97) hx hb dX1_share_89 (by decide) (fun c89 => ?_) (fun c89 => ?_)
      · skip
        have c89 := (not_congr (nI_eq (a := qSt a i) (b := 0) (by omega) (by omega))).mp c89
        refine lv_iconst (v := 0) hx hb dX1_share_97 (by decide) ?_
        rw [hQQ]
        exact W.iret (v := 0) hx hb hr (fun t ht hW => ⟨⟨0, (), rfl, by simp [shareA, c89], trivial⟩, hS.F ht⟩) hS.2.2 dX1_share_98
      · skip
        have c89 := (nI_eq (a := qSt a i) (b := 0) (by omega) (by omega)).mp c89
        refine lv_iload hx hb dX1_share_92 (lv_at hl 0 rfl) ?_
        refine lv_goto (tgt := 98) hx hb dX1_share_94 (by decide) ?_
        rw [hQQ]
        exact W.iret (v := bi (qBu a i)) hx hb hr (fun t ht hW => ⟨⟨bi (qBu a i), (), rfl, by simp [shareA, c89], trivial⟩, hS.F ht⟩) hS.2.2 dX1_share_98
    · skip
      refine lv_tableIn (tgt := 99) (off := 79) hx hb dX1_share_20 (by decide) (by decide) (by decide) (by decide) ?_
      refine lv_iload_n hx hb dX1_share_99 rfl (lv_at hl 1 rfl) ?_
      refine lv_iconst (v := 1) hx hb dX1_share_100 (by decide) ?_
      refine lv_icmp_ne (tgt := 109) hx hb dX1_share_101 (by decide) (fun c101 => ?_) (fun c101 => ?_)
      · skip
        have c101 := (not_congr (nI_eq (a := qSt a i) (b := 1) (by omega) (by omega))).mp c101
        refine lv_iconst (v := 0) hx hb dX1_share_109 (by decide) ?_
        rw [hQQ]
        exact W.iret (v := 0) hx hb hr (fun t ht hW => ⟨⟨0, (), rfl, by simp [shareA, c101], trivial⟩, hS.F ht⟩) hS.2.2 dX1_share_110
      · skip
        have c101 := (nI_eq (a := qSt a i) (b := 1) (by omega) (by omega)).mp c101
        refine lv_iload hx hb dX1_share_104 (lv_at hl 0 rfl) ?_
        refine lv_goto (tgt := 110) hx hb dX1_share_106 (by decide) ?_
        rw [hQQ]
        exact W.iret (v := bi (qBu a i)) hx hb hr (fun t ht hW => ⟨⟨bi (qBu a i), (), rfl, by simp [shareA, c101], trivial⟩, hS.F ht⟩) hS.2.2 dX1_share_110
    · skip
      refine lv_tableOut (tgt := 111) hx hb dX1_share_20 (Or.inr (by decide)) (by decide) ?_
      refine lv_iload_n hx hb dX1_share_111 rfl (lv_at hl 1 rfl) ?_
      refine lv_iconst (v := 1) hx hb dX1_share_112 (by decide) ?_
      refine lv_icmp_ne (tgt := 130) hx hb dX1_share_113 (by decide) (fun c113 => ?_) (fun c113 => ?_)
      · skip
        have c113 := (not_congr (nI_eq (a := qSt a i) (b := 1) (by omega) (by omega))).mp c113
        refine lv_iconst (v := 0) hx hb dX1_share_130 (by decide) ?_
        rw [hQQ]
        exact W.iret (v := 0) hx hb hr (fun t ht hW => ⟨⟨0, (), rfl, by simp [shareA, c113], trivial⟩, hS.F ht⟩) hS.2.2 dX1_share_131
      · skip
        have c113 := (nI_eq (a := qSt a i) (b := 1) (by omega) (by omega)).mp c113
        refine lv_iload hx hb dX1_share_116 (lv_at hl 0 rfl) ?_
        refine lv_aload_n hx hb dX1_share_118 rfl (lv_at hl 2 rfl) ?_
        refine va_get (D := D) (ci := 1) (v := .ref (F 2)) (C := RX1) (T := TX1) (N := 13) hx hb hts inX1 hown hE.1 hP 0 rfl rfl 1 (by decide) kf20 (fun _ h9 => h9) rfl dX1_share_119 ?_
        refine lv_iload_n hx hb dX1_share_122 rfl (lv_at hl 3 rfl) ?_
        refine pVi (As := [.int (nI i)]) (rest := [.int (bi (qBu a i))]) (wc := (wR cA (F 2) (F 13) 41 (qWi a))) ⟨hx, hb, hml, hown, hts⟩ (K_X2_getk lch D cA (F 2) (F 13) 41 (qWi a) i (qWi a i) H.size (by omega) (Nat.le_of_ble_eq_true rfl) (rfl)) (cwV 1 hts gX1_share_X2_get rfl rfl rfl (by decide +kernel) ⟨Nat.le_of_ble_eq_true rfl, Nat.le_of_ble_eq_true rfl⟩) hE hP hD hS hA [2, 13] rfl rfl X0.blind (fun _ _ _ => trivial) 2 2 rfl rfl rfl hl.1 rfl rfl (Nat.le_of_ble_eq_true rfl) dX1_share_123 ⟨Nat.zero_le _, Nat.zero_le _⟩ (fun r_7 u_8 H locs h_9 hP hS => ?_)
        subst h_9
        refine lv_imul hx hb dX1_share_126 ?_
        refine top_i (y := bi (qBu a i) * qWi a i) (rfl) ?_
        refine lv_goto (tgt := 131) hx hb dX1_share_127 (by decide) ?_
        rw [hQQ]
        exact W.iret (v := bi (qBu a i) * qWi a i) hx hb hr (fun t ht hW => ⟨⟨bi (qBu a i) * qWi a i, (), rfl, by simp [shareA, c113], trivial⟩, hS.F ht⟩) hS.2.2 dX1_share_131
  rw [hg1, hg2] at hgoal
  exact hgoal

set_option maxHeartbeats 4000000 in
set_option maxRecDepth 100000 in
/-- tally -/
theorem K_X1_tally (lch : Launch) (D : va_G) (cA : ClassId) (F : Nat → Nat) (a : FSt) (c : Nat → Int32) (q : Nat → Int32) (w : Nat) (sz : Nat) (hw1 : WFa a) (hw : w = 2 ∨ w = 3 ∨ w = 4 ∨ w = 5 ∨ w = 6 ∨ w = 9) : Met lch yX1_tally wsX1_tally ({ frames := 2, cells := 0, slots := 0, locals := 45 }) (Pr D cA [.ref (F 0), .int (nI w)] sz (wF cA F a c q) X0) (va_Qi (fun (r : Int32) (u : Unit) => r = tallyA a w) (fun _ _ => True) (fun q : Nat => sz ≤ q)) 0 0 (fun q : Nat => sz ≤ q) := by
  refine Met.ofW (cc := cX1_tally) (maxL := 4) (ret := (some .int)) (by decide) rfl ?_
  intro pg ev s mi args below meth cd s₁ B hml hv
  obtain ⟨hav, hsz, hP, hE, hD, hXs⟩ := hv
  have hx := B.exec
  have hb := B.bytes
  have hr := B.returns
  have hts := atoms_spec (ws := wsX1_tally) B.pre
  have hown : s.vm.findClass RX1 = some mi.cls := findClass_of_methodNamed B.named
  have hlocks := B.notSynchronized
  clear B
  subst hav
  subst hsz
  have hA : ∀ q : Nat, s.heap.size ≤ q → (fun q : Nat => s.heap.size ≤ q) q := fun _ h => h
  have hS : va_S (fun q : Nat => s.heap.size ≤ q) s.heap s.heap [] := va_S.rf
  obtain ⟨QQ, hQQ⟩ : ∃ qq9, qq9 = MQ below (va_Qi (fun (r : Int32) (u : Unit) => r = tallyA a w) (fun _ _ => True) (fun q : Nat => s.heap.size ≤ q)) ([.ref (F 0), .int (nI w)] : List Value).toArray s 0 0 (fun q : Nat => s.heap.size ≤ q) := ⟨_, rfl⟩
  rw [← hQQ]
  have hl := lv_entry ([.ref (F 0), .int (nI w)]) (n := 4) (Nat.le_of_ble_eq_true rfl)
  rw [lg_entry_eq]
  generalize (lg_sl ([.ref (F 0), .int (nI w)]) ++ List.replicate (4 - (lg_sl ([.ref (F 0), .int (nI w)])).length) Slot.unset).toArray = ls at hl ⊢
  have hl : lv_has ls 4 [(0, .ref (F 0)), (1, .int (nI w))] := hl
  have kf54 := hts (.fieldLink RX1 54 "LanternWeirs$Fleet" "size" "I") (by decide +kernel)
  have inX1 : ∀ w ∈ u_ws RX1 TX1 13, w ∈ wsX1_tally := by decide +kernel
  obtain ⟨H, locs, hP, hS, hgo⟩ : ∃ H locs, va_P D vwCl (wF cA F a c q) H ∧ va_S (fun q : Nat => s.heap.size ≤ q) s.heap H locs ∧ (H = s.heap ∧ locs = []) := ⟨_, _, hP, hS, rfl, rfl⟩
  obtain ⟨hg1, hg2⟩ := hgo
  have hgoal : W pg lch ev (headSpec wsX1_tally ({ frames := 2, cells := 0, slots := 0, locals := 45 })).room s mi ([.ref (F 0), .int (nI w)] : List Value).toArray below meth cd H locs 0 0 QQ (F0 mi 0 ls []) := by
    refine lv_iconst (v := 0) hx hb dX1_tally_0 (by decide) ?_
    refine lv_istore_n (lv' := [(2, .int 0), (0, .ref (F 0)), (1, .int (nI w))]) hx hb dX1_tally_1 rfl hl (by decide) rfl (fun ls hl => ?_)
    refine lv_iconst (v := 0) hx hb dX1_tally_2 (by decide) ?_
    refine lv_istore_n (lv' := [(3, .int 0), (2, .int 0), (0, .ref (F 0)), (1, .int (nI w))]) hx hb dX1_tally_3 rfl hl (by decide) rfl (fun ls hl => ?_)
    have L4 : ∀ (fu4 : Nat) (i : Nat), (i ≤ qN a) → qN a - i < fu4 → ∀ (H : Heap) (locs : List Loc), va_P D vwCl (wF cA F a c q) H → va_S (fun q : Nat => s.heap.size ≤ q) s.heap H locs → ∀ ls : Array Slot, lv_has ls 4 [(3, .int (nI i)), (2, .int (sumA a w i)), (0, .ref (F 0)), (1, .int (nI w))] → W pg lch ev (headSpec wsX1_tally ({ frames := 2, cells := 0, slots := 0, locals := 45 })).room s mi ([.ref (F 0), .int (nI w)] : List Value).toArray below meth cd H locs 0 0 QQ (F0 mi 4 ls []) := by
      intro fu4
      induction fu4 with
      | zero => intro i hi hms; exact absurd hms (Nat.not_lt_zero _)
      | succ fu4 ih4 =>
        intro i hi hms4 H locs hP hS ls hl
        have hn := hw1.1
        refine lv_iload_n hx hb dX1_tally_4 rfl (lv_at hl 0 rfl) ?_
        refine lv_aload_n hx hb dX1_tally_5 rfl (lv_at hl 2 rfl) ?_
        refine va_get (D := D) (ci := 1) (v := .int (nI (qN a))) (C := RX1) (T := TX1) (N := 13) hx hb hts inX1 hown hE.1 hP 0 rfl rfl 11 (by decide) kf54 (fun _ h9 => h9) rfl dX1_tally_6 ?_
        refine lv_icmp_ge (tgt := 27) hx hb dX1_tally_9 (by decide) (fun c9 => ?_) (fun c9 => ?_)
        · skip
          have c9 := (nI_leI (a := qN a) (b := i) (by omega) (by omega)).mp c9
          refine lv_iload_n hx hb dX1_tally_27 rfl (lv_at hl 1 rfl) ?_
          rw [hQQ]
          exact W.iret (v := sumA a w i) hx hb hr (fun t ht hW => ⟨⟨sumA a w i, (), rfl, by rw [show i = qN a by omega]; rfl, trivial⟩, hS.F ht⟩) hS.2.2 dX1_tally_28
        · skip
          have c9 := (not_congr (nI_leI (a := qN a) (b := i) (by omega) (by omega))).mp c9
          refine lv_iload_n hx hb dX1_tally_12 rfl (lv_at hl 1 rfl) ?_
          refine lv_aload_n hx hb dX1_tally_13 rfl (lv_at hl 2 rfl) ?_
          refine lv_iload_n hx hb dX1_tally_14 rfl (lv_at hl 0 rfl) ?_
          refine lv_iload_n hx hb dX1_tally_15 rfl (lv_at hl 3 rfl) ?_
          refine pVi (As := [.int (nI i), .int (nI w)]) (rest := [.int (sumA a w i)]) (wc := (wF cA F a c q)) ⟨hx, hb, hml, hown, hts⟩ (K_X1_share lch D cA F a c q i w H.size (by omega) ((hw1.2 i (by omega)).2.2.2.1) (hw)) (cwV 2 hts gX1_tally_X1_share rfl rfl rfl (by decide +kernel) ⟨Nat.le_of_ble_eq_true rfl, Nat.le_of_ble_eq_true rfl⟩) hE hP hD hS hA [0, 1, 2, 3, 4, 5, 6, 7, 8, 9, 10, 11, 12, 13, 14, 15, 16, 17, 18, 19, 20, 21, 22] rfl rfl X0.blind (fun _ _ _ => trivial) 0 1 rfl rfl rfl hl.1 rfl rfl (Nat.le_of_ble_eq_true rfl) dX1_tally_16 ⟨Nat.zero_le _, Nat.zero_le _⟩ (fun r_1 u_2 H locs h_3 hP hS => ?_)
          subst h_3
          refine lv_iadd hx hb dX1_tally_19 ?_
          refine lv_istore_n (lv' := [(2, .int ((sumA a w i) + (shareA a w i))), (3, .int (nI i)), (0, .ref (F 0)), (1, .int (nI w))]) hx hb dX1_tally_20 rfl hl (by decide) rfl (fun ls hl => ?_)
          refine lv_iinc (v := nI (i + 1)) (lv' := [(3, .int (nI (i + 1))), (2, .int ((sumA a w i) + (shareA a w i))), (0, .ref (F 0)), (1, .int (nI w))]) hx hb dX1_tally_21 hl (k := 1) rfl (nI_add i 1) (by decide) rfl (fun ls hl => ?_)
          refine lv_goto (tgt := 4) hx hb dX1_tally_24 (by decide) ?_
          exact ih4 (i + 1) (by omega) (by omega) H locs hP hS ls (lv_sub hl [0, 1, 2, 3] rfl)
    exact L4 (qN a + 1) 0 (Nat.zero_le _) (by omega) H locs hP hS ls (lv_sub hl [0, 1, 2, 3] rfl)
  rw [hg1, hg2] at hgoal
  exact hgoal

set_option maxHeartbeats 4000000 in
set_option maxRecDepth 100000 in
/-- floatingAt -/
theorem K_X1_floatingAt (lch : Launch) (D : va_G) (cA : ClassId) (F : Nat → Nat) (a : FSt) (c : Nat → Int32) (q : Nat → Int32) (l : Nat) (p : Nat) (sz : Nat) (hw1 : WFa a) (hcr : CRa a c) (h3 : l < 3) (h6 : p < 60) : Met lch yX1_floatingAt wsX1_floatingAt ({ frames := 1, cells := 0, slots := 0, locals := 22 }) (Pr D cA [.ref (F 0), .int (nI l), .int (nI p)] sz (wF cA F a c q) X0) (va_Qi (fun (r : Int32) (u : Unit) => r = nI (atA a l p 0)) (fun _ _ => True) (fun q : Nat => sz ≤ q)) 0 0 (fun q : Nat => sz ≤ q) := by
  refine Met.ofW (cc := cX1_floatingAt) (maxL := 5) (ret := (some .int)) (by decide) rfl ?_
  intro pg ev s mi args below meth cd s₁ B hml hv
  obtain ⟨hav, hsz, hP, hE, hD, hXs⟩ := hv
  have hx := B.exec
  have hb := B.bytes
  have hr := B.returns
  have hts := atoms_spec (ws := wsX1_floatingAt) B.pre
  have hown : s.vm.findClass RX1 = some mi.cls := findClass_of_methodNamed B.named
  have hlocks := B.notSynchronized
  clear B
  subst hav
  subst hsz
  have hA : ∀ q : Nat, s.heap.size ≤ q → (fun q : Nat => s.heap.size ≤ q) q := fun _ h => h
  have hS : va_S (fun q : Nat => s.heap.size ≤ q) s.heap s.heap [] := va_S.rf
  obtain ⟨QQ, hQQ⟩ : ∃ qq9, qq9 = MQ below (va_Qi (fun (r : Int32) (u : Unit) => r = nI (atA a l p 0)) (fun _ _ => True) (fun q : Nat => s.heap.size ≤ q)) ([.ref (F 0), .int (nI l), .int (nI p)] : List Value).toArray s 0 0 (fun q : Nat => s.heap.size ≤ q) := ⟨_, rfl⟩
  rw [← hQQ]
  have hl := lv_entry ([.ref (F 0), .int (nI l), .int (nI p)]) (n := 5) (Nat.le_of_ble_eq_true rfl)
  rw [lg_entry_eq]
  generalize (lg_sl ([.ref (F 0), .int (nI l), .int (nI p)]) ++ List.replicate (5 - (lg_sl ([.ref (F 0), .int (nI l), .int (nI p)])).length) Slot.unset).toArray = ls at hl ⊢
  have hl : lv_has ls 5 [(0, .ref (F 0)), (1, .int (nI l)), (2, .int (nI p))] := hl
  have kf44 := hts (.fieldLink RX1 44 "LanternWeirs$Fleet" "crowd" "LLanternWeirs$Row;") (by decide +kernel)
  have inX1 : ∀ w ∈ u_ws RX1 TX1 13, w ∈ wsX1_floatingAt := by decide +kernel
  obtain ⟨H, locs, hP, hS, hgo⟩ : ∃ H locs, va_P D vwCl (wF cA F a c q) H ∧ va_S (fun q : Nat => s.heap.size ≤ q) s.heap H locs ∧ (H = s.heap ∧ locs = []) := ⟨_, _, hP, hS, rfl, rfl⟩
  obtain ⟨hg1, hg2⟩ := hgo
  have hgoal : W pg lch ev (headSpec wsX1_floatingAt ({ frames := 1, cells := 0, slots := 0, locals := 22 })).room s mi ([.ref (F 0), .int (nI l), .int (nI p)] : List Value).toArray below meth cd H locs 0 0 QQ (F0 mi 0 ls []) := by
    refine lv_iconst (v := 0) hx hb dX1_floatingAt_0 (by decide) ?_
    refine lv_istore_n (lv' := [(3, .int 0), (0, .ref (F 0)), (1, .int (nI l)), (2, .int (nI p))]) hx hb dX1_floatingAt_1 rfl hl (by decide) rfl (fun ls hl => ?_)
    refine lv_iconst (v := 0) hx hb dX1_floatingAt_2 (by decide) ?_
    refine lv_istore (lv' := [(4, .int 0), (3, .int 0), (0, .ref (F 0)), (1, .int (nI l)), (2, .int (nI p))]) hx hb dX1_floatingAt_3 hl (by decide) rfl (fun ls hl => ?_)
    refine lv_iload hx hb dX1_floatingAt_5 (lv_at hl 0 rfl) ?_
    refine lv_iconst (v := 3) hx hb dX1_floatingAt_7 (by decide) ?_
    refine lv_icmp_ge (tgt := 34) hx hb dX1_floatingAt_8 (by decide) (fun c8 => ?_) (fun c8 => ?_)
    · skip
      exfalso; revert c8; decide
    · skip
      have c8 := (not_congr (nI_leI (a := 3) (b := 0) (by omega) (by omega))).mp c8
      refine lv_iload_n hx hb dX1_floatingAt_11 rfl (lv_at hl 1 rfl) ?_
      refine lv_aload_n hx hb dX1_floatingAt_12 rfl (lv_at hl 2 rfl) ?_
      refine va_get (D := D) (ci := 1) (v := .ref (F 10)) (C := RX1) (T := TX1) (N := 13) hx hb hts inX1 hown hE.1 hP 0 rfl rfl 9 (by decide) kf44 (fun _ h9 => h9) rfl dX1_floatingAt_13 ?_
      refine lv_iload_n hx hb dX1_floatingAt_16 rfl (lv_at hl 3 rfl) ?_
      refine lv_iload_n hx hb dX1_floatingAt_17 rfl (lv_at hl 4 rfl) ?_
      refine lv_iload hx hb dX1_floatingAt_18 (lv_at hl 0 rfl) ?_
      refine pSi (As := [.int (nI l), .int (nI p), .int 0]) (rest := [.ref (F 10), .int 0]) (wc := ([] : va_W)) ⟨hx, hb, hml, hown, hts⟩ (K_X1_cell lch D cA l p 0 H.size (by first | assumption | omega)) (cwS 3 hts gX1_floatingAt_X1_cell rfl rfl rfl (by decide +kernel) ⟨Nat.le_of_ble_eq_true rfl, Nat.le_of_ble_eq_true rfl⟩) hE hP hD hS hA [] rfl rfl X0.blind (fun _ _ _ => trivial) hl.1 rfl rfl (Nat.le_of_ble_eq_true rfl) dX1_floatingAt_20 ⟨Nat.zero_le _, Nat.zero_le _⟩ (fun r_1 u_2 H locs h_3 hP hS => ?_)
      subst h_3
      refine pVi (As := [.int (ck l p 0)]) (rest := [.int 0]) (wc := (wR cA (F 10) (F 21) 540 c)) ⟨hx, hb, hml, hown, hts⟩ (K_X2_get lch D cA (F 10) (F 21) 540 c (ck l p 0) H.size (Nat.le_of_ble_eq_true rfl)) (cwV 1 hts gX1_floatingAt_X2_get rfl rfl rfl (by decide +kernel) ⟨Nat.le_of_ble_eq_true rfl, Nat.le_of_ble_eq_true rfl⟩) hE hP hD hS hA [10, 21] rfl rfl X0.blind (fun _ _ _ => trivial) 10 2 rfl rfl rfl hl.1 rfl rfl (Nat.le_of_ble_eq_true rfl) dX1_floatingAt_23 ⟨Nat.zero_le _, Nat.zero_le _⟩ (fun r_4 u_5 H locs h_6 hP hS => ?_)
      subst h_6
      refine lv_iadd hx hb dX1_floatingAt_26 ?_
      refine lv_istore_n (lv' := [(3, .int (0 + (rg 540 c (ck l p 0)))), (4, .int 0), (0, .ref (F 0)), (1, .int (nI l)), (2, .int (nI p))]) hx hb dX1_floatingAt_27 rfl hl (by decide) rfl (fun ls hl => ?_)
      refine lv_iinc (v := 1) (lv' := [(4, .int 1), (3, .int (0 + (rg 540 c (ck l p 0)))), (0, .ref (F 0)), (1, .int (nI l)), (2, .int (nI p))]) hx hb dX1_floatingAt_28 hl (k := 1) rfl (by decide) (by decide) rfl (fun ls hl => ?_)
      refine lv_goto (tgt := 5) hx hb dX1_floatingAt_31 (by decide) ?_
      refine lv_iload hx hb dX1_floatingAt_5 (lv_at hl 0 rfl) ?_
      refine lv_iconst (v := 3) hx hb dX1_floatingAt_7 (by decide) ?_
      refine lv_icmp_ge (tgt := 34) hx hb dX1_floatingAt_8 (by decide) (fun c8_1 => ?_) (fun c8_1 => ?_)
      · skip
        exfalso; revert c8_1; decide
      · skip
        have c8_1 := (not_congr (nI_leI (a := 3) (b := 1) (by omega) (by omega))).mp c8_1
        refine lv_iload_n hx hb dX1_floatingAt_11 rfl (lv_at hl 1 rfl) ?_
        refine lv_aload_n hx hb dX1_floatingAt_12 rfl (lv_at hl 2 rfl) ?_
        refine va_get (D := D) (ci := 1) (v := .ref (F 10)) (C := RX1) (T := TX1) (N := 13) hx hb hts inX1 hown hE.1 hP 0 rfl rfl 9 (by decide) kf44 (fun _ h9 => h9) rfl dX1_floatingAt_13 ?_
        refine lv_iload_n hx hb dX1_floatingAt_16 rfl (lv_at hl 3 rfl) ?_
        refine lv_iload_n hx hb dX1_floatingAt_17 rfl (lv_at hl 4 rfl) ?_
        refine lv_iload hx hb dX1_floatingAt_18 (lv_at hl 0 rfl) ?_
        refine pSi (As := [.int (nI l), .int (nI p), .int 1]) (rest := [.ref (F 10), .int (0 + (rg 540 c (ck l p 0)))]) (wc := ([] : va_W)) ⟨hx, hb, hml, hown, hts⟩ (K_X1_cell lch D cA l p 1 H.size (by first | assumption | omega)) (cwS 3 hts gX1_floatingAt_X1_cell rfl rfl rfl (by decide +kernel) ⟨Nat.le_of_ble_eq_true rfl, Nat.le_of_ble_eq_true rfl⟩) hE hP hD hS hA [] rfl rfl X0.blind (fun _ _ _ => trivial) hl.1 rfl rfl (Nat.le_of_ble_eq_true rfl) dX1_floatingAt_20 ⟨Nat.zero_le _, Nat.zero_le _⟩ (fun r_7 u_8 H locs h_9 hP hS => ?_)
        subst h_9
        refine pVi (As := [.int (ck l p 1)]) (rest := [.int (0 + (rg 540 c (ck l p 0)))]) (wc := (wR cA (F 10) (F 21) 540 c)) ⟨hx, hb, hml, hown, hts⟩ (K_X2_get lch D cA (F 10) (F 21) 540 c (ck l p 1) H.size (Nat.le_of_ble_eq_true rfl)) (cwV 1 hts gX1_floatingAt_X2_get rfl rfl rfl (by decide +kernel) ⟨Nat.le_of_ble_eq_true rfl, Nat.le_of_ble_eq_true rfl⟩) hE hP hD hS hA [10, 21] rfl rfl X0.blind (fun _ _ _ => trivial) 10 2 rfl rfl rfl hl.1 rfl rfl (Nat.le_of_ble_eq_true rfl) dX1_floatingAt_23 ⟨Nat.zero_le _, Nat.zero_le _⟩ (fun r_10 u_11 H locs h_12 hP hS => ?_)
        subst h_12
        refine lv_iadd hx hb dX1_floatingAt_26 ?_
        refine lv_istore_n (lv' := [(3, .int ((0 + (rg 540 c (ck l p 0))) + (rg 540 c (ck l p 1)))), (4, .int 1), (0, .ref (F 0)), (1, .int (nI l)), (2, .int (nI p))]) hx hb dX1_floatingAt_27 rfl hl (by decide) rfl (fun ls hl => ?_)
        refine lv_iinc (v := 2) (lv' := [(4, .int 2), (3, .int ((0 + (rg 540 c (ck l p 0))) + (rg 540 c (ck l p 1)))), (0, .ref (F 0)), (1, .int (nI l)), (2, .int (nI p))]) hx hb dX1_floatingAt_28 hl (k := 1) rfl (by decide) (by decide) rfl (fun ls hl => ?_)
        refine lv_goto (tgt := 5) hx hb dX1_floatingAt_31 (by decide) ?_
        refine lv_iload hx hb dX1_floatingAt_5 (lv_at hl 0 rfl) ?_
        refine lv_iconst (v := 3) hx hb dX1_floatingAt_7 (by decide) ?_
        refine lv_icmp_ge (tgt := 34) hx hb dX1_floatingAt_8 (by decide) (fun c8_2 => ?_) (fun c8_2 => ?_)
        · skip
          exfalso; revert c8_2; decide
        · skip
          have c8_2 := (not_congr (nI_leI (a := 3) (b := 2) (by omega) (by omega))).mp c8_2
          refine lv_iload_n hx hb dX1_floatingAt_11 rfl (lv_at hl 1 rfl) ?_
          refine lv_aload_n hx hb dX1_floatingAt_12 rfl (lv_at hl 2 rfl) ?_
          refine va_get (D := D) (ci := 1) (v := .ref (F 10)) (C := RX1) (T := TX1) (N := 13) hx hb hts inX1 hown hE.1 hP 0 rfl rfl 9 (by decide) kf44 (fun _ h9 => h9) rfl dX1_floatingAt_13 ?_
          refine lv_iload_n hx hb dX1_floatingAt_16 rfl (lv_at hl 3 rfl) ?_
          refine lv_iload_n hx hb dX1_floatingAt_17 rfl (lv_at hl 4 rfl) ?_
          refine lv_iload hx hb dX1_floatingAt_18 (lv_at hl 0 rfl) ?_
          refine pSi (As := [.int (nI l), .int (nI p), .int 2]) (rest := [.ref (F 10), .int ((0 + (rg 540 c (ck l p 0))) + (rg 540 c (ck l p 1)))]) (wc := ([] : va_W)) ⟨hx, hb, hml, hown, hts⟩ (K_X1_cell lch D cA l p 2 H.size (by first | assumption | omega)) (cwS 3 hts gX1_floatingAt_X1_cell rfl rfl rfl (by decide +kernel) ⟨Nat.le_of_ble_eq_true rfl, Nat.le_of_ble_eq_true rfl⟩) hE hP hD hS hA [] rfl rfl X0.blind (fun _ _ _ => trivial) hl.1 rfl rfl (Nat.le_of_ble_eq_true rfl) dX1_floatingAt_20 ⟨Nat.zero_le _, Nat.zero_le _⟩ (fun r_13 u_14 H locs h_15 hP hS => ?_)
          subst h_15
          refine pVi (As := [.int (ck l p 2)]) (rest := [.int ((0 + (rg 540 c (ck l p 0))) + (rg 540 c (ck l p 1)))]) (wc := (wR cA (F 10) (F 21) 540 c)) ⟨hx, hb, hml, hown, hts⟩ (K_X2_get lch D cA (F 10) (F 21) 540 c (ck l p 2) H.size (Nat.le_of_ble_eq_true rfl)) (cwV 1 hts gX1_floatingAt_X2_get rfl rfl rfl (by decide +kernel) ⟨Nat.le_of_ble_eq_true rfl, Nat.le_of_ble_eq_true rfl⟩) hE hP hD hS hA [10, 21] rfl rfl X0.blind (fun _ _ _ => trivial) 10 2 rfl rfl rfl hl.1 rfl rfl (Nat.le_of_ble_eq_true rfl) dX1_floatingAt_23 ⟨Nat.zero_le _, Nat.zero_le _⟩ (fun r_16 u_17 H locs h_18 hP hS => ?_)
          subst h_18
          refine lv_iadd hx hb dX1_floatingAt_26 ?_
          refine lv_istore_n (lv' := [(3, .int (((0 + (rg 540 c (ck l p 0))) + (rg 540 c (ck l p 1))) + (rg 540 c (ck l p 2)))), (4, .int 2), (0, .ref (F 0)), (1, .int (nI l)), (2, .int (nI p))]) hx hb dX1_floatingAt_27 rfl hl (by decide) rfl (fun ls hl => ?_)
          refine lv_iinc (v := 3) (lv' := [(4, .int 3), (3, .int (((0 + (rg 540 c (ck l p 0))) + (rg 540 c (ck l p 1))) + (rg 540 c (ck l p 2)))), (0, .ref (F 0)), (1, .int (nI l)), (2, .int (nI p))]) hx hb dX1_floatingAt_28 hl (k := 1) rfl (by decide) (by decide) rfl (fun ls hl => ?_)
          refine lv_goto (tgt := 5) hx hb dX1_floatingAt_31 (by decide) ?_
          refine lv_iload hx hb dX1_floatingAt_5 (lv_at hl 0 rfl) ?_
          refine lv_iconst (v := 3) hx hb dX1_floatingAt_7 (by decide) ?_
          refine lv_icmp_ge (tgt := 34) hx hb dX1_floatingAt_8 (by decide) (fun c8_3 => ?_) (fun c8_3 => ?_)
          · skip
            have c8_3 := (nI_leI (a := 3) (b := 3) (by omega) (by omega)).mp c8_3
            refine lv_iload_n hx hb dX1_floatingAt_34 rfl (lv_at hl 1 rfl) ?_
            rw [hQQ]
            exact W.iret (v := ((0 + (rg 540 c (ck l p 0))) + (rg 540 c (ck l p 1))) + (rg 540 c (ck l p 2))) hx hb hr (fun t ht hW => ⟨⟨((0 + (rg 540 c (ck l p 0))) + (rg 540 c (ck l p 1))) + (rg 540 c (ck l p 2)), (), rfl, float_at hw1 hcr h3 h6, trivial⟩, hS.F ht⟩) hS.2.2 dX1_floatingAt_35
          · skip
            exfalso; revert c8_3; decide
  rw [hg1, hg2] at hgoal
  exact hgoal

set_option maxHeartbeats 4000000 in
set_option maxRecDepth 100000 in
/-- caughtAt -/
theorem K_X1_caughtAt (lch : Launch) (D : va_G) (cA : ClassId) (F : Nat → Nat) (a : FSt) (c : Nat → Int32) (q : Nat → Int32) (l : Nat) (p : Nat) (sz : Nat) (hw1 : WFa a) (h3 : l < 3) (h6 : p < 60) : Met lch yX1_caughtAt wsX1_caughtAt ({ frames := 1, cells := 0, slots := 0, locals := 21 }) (Pr D cA [.ref (F 0), .int (nI l), .int (nI p)] sz (wF cA F a c q) X0) (va_Qi (fun (r : Int32) (u : Unit) => r = nI (atA a l p 1)) (fun _ _ => True) (fun q : Nat => sz ≤ q)) 0 0 (fun q : Nat => sz ≤ q) := by
  refine Met.ofW (cc := cX1_caughtAt) (maxL := 5) (ret := (some .int)) (by decide) rfl ?_
  intro pg ev s mi args below meth cd s₁ B hml hv
  obtain ⟨hav, hsz, hP, hE, hD, hXs⟩ := hv
  have hx := B.exec
  have hb := B.bytes
  have hr := B.returns
  have hts := atoms_spec (ws := wsX1_caughtAt) B.pre
  have hown : s.vm.findClass RX1 = some mi.cls := findClass_of_methodNamed B.named
  have hlocks := B.notSynchronized
  clear B
  subst hav
  subst hsz
  have hA : ∀ q : Nat, s.heap.size ≤ q → (fun q : Nat => s.heap.size ≤ q) q := fun _ h => h
  have hS : va_S (fun q : Nat => s.heap.size ≤ q) s.heap s.heap [] := va_S.rf
  obtain ⟨QQ, hQQ⟩ : ∃ qq9, qq9 = MQ below (va_Qi (fun (r : Int32) (u : Unit) => r = nI (atA a l p 1)) (fun _ _ => True) (fun q : Nat => s.heap.size ≤ q)) ([.ref (F 0), .int (nI l), .int (nI p)] : List Value).toArray s 0 0 (fun q : Nat => s.heap.size ≤ q) := ⟨_, rfl⟩
  rw [← hQQ]
  have hl := lv_entry ([.ref (F 0), .int (nI l), .int (nI p)]) (n := 5) (Nat.le_of_ble_eq_true rfl)
  rw [lg_entry_eq]
  generalize (lg_sl ([.ref (F 0), .int (nI l), .int (nI p)]) ++ List.replicate (5 - (lg_sl ([.ref (F 0), .int (nI l), .int (nI p)])).length) Slot.unset).toArray = ls at hl ⊢
  have hl : lv_has ls 5 [(0, .ref (F 0)), (1, .int (nI l)), (2, .int (nI p))] := hl
  have kf54 := hts (.fieldLink RX1 54 "LanternWeirs$Fleet" "size" "I") (by decide +kernel)
  have inX1 : ∀ w ∈ u_ws RX1 TX1 13, w ∈ wsX1_caughtAt := by decide +kernel
  have kf38 := hts (.fieldLink RX1 38 "LanternWeirs$Fleet" "states" "LLanternWeirs$Row;") (by decide +kernel)
  have kf23 := hts (.fieldLink RX1 23 "LanternWeirs$Fleet" "lanes" "LLanternWeirs$Row;") (by decide +kernel)
  have kf26 := hts (.fieldLink RX1 26 "LanternWeirs$Fleet" "places" "LLanternWeirs$Row;") (by decide +kernel)
  obtain ⟨H, locs, hP, hS, hgo⟩ : ∃ H locs, va_P D vwCl (wF cA F a c q) H ∧ va_S (fun q : Nat => s.heap.size ≤ q) s.heap H locs ∧ (H = s.heap ∧ locs = []) := ⟨_, _, hP, hS, rfl, rfl⟩
  obtain ⟨hg1, hg2⟩ := hgo
  have hgoal : W pg lch ev (headSpec wsX1_caughtAt ({ frames := 1, cells := 0, slots := 0, locals := 21 })).room s mi ([.ref (F 0), .int (nI l), .int (nI p)] : List Value).toArray below meth cd H locs 0 0 QQ (F0 mi 0 ls []) := by
    refine lv_iconst (v := 0) hx hb dX1_caughtAt_0 (by decide) ?_
    refine lv_istore_n (lv' := [(3, .int 0), (0, .ref (F 0)), (1, .int (nI l)), (2, .int (nI p))]) hx hb dX1_caughtAt_1 rfl hl (by decide) rfl (fun ls hl => ?_)
    refine lv_iconst (v := 0) hx hb dX1_caughtAt_2 (by decide) ?_
    refine lv_istore (lv' := [(4, .int 0), (3, .int 0), (0, .ref (F 0)), (1, .int (nI l)), (2, .int (nI p))]) hx hb dX1_caughtAt_3 hl (by decide) rfl (fun ls hl => ?_)
    have L5 : ∀ (fu5 : Nat) (i : Nat), (i ≤ qN a) → qN a - i < fu5 → ∀ (H : Heap) (locs : List Loc), va_P D vwCl (wF cA F a c q) H → va_S (fun q : Nat => s.heap.size ≤ q) s.heap H locs → ∀ ls : Array Slot, lv_has ls 5 [(4, .int (nI i)), (3, .int (nI (cnt i (spotA a l p 1)))), (0, .ref (F 0)), (1, .int (nI l)), (2, .int (nI p))] → W pg lch ev (headSpec wsX1_caughtAt ({ frames := 1, cells := 0, slots := 0, locals := 21 })).room s mi ([.ref (F 0), .int (nI l), .int (nI p)] : List Value).toArray below meth cd H locs 0 0 QQ (F0 mi 5 ls []) := by
      intro fu5
      induction fu5 with
      | zero => intro i hi hms; exact absurd hms (Nat.not_lt_zero _)
      | succ fu5 ih5 =>
        intro i hi hms5 H locs hP hS ls hl
        have hn := hw1.1
        refine lv_iload hx hb dX1_caughtAt_5 (lv_at hl 0 rfl) ?_
        refine lv_aload_n hx hb dX1_caughtAt_7 rfl (lv_at hl 2 rfl) ?_
        refine va_get (D := D) (ci := 1) (v := .int (nI (qN a))) (C := RX1) (T := TX1) (N := 13) hx hb hts inX1 hown hE.1 hP 0 rfl rfl 11 (by decide) kf54 (fun _ h9 => h9) rfl dX1_caughtAt_8 ?_
        refine lv_icmp_ge (tgt := 62) hx hb dX1_caughtAt_11 (by decide) (fun c11 => ?_) (fun c11 => ?_)
        · skip
          have c11 := (nI_leI (a := qN a) (b := i) (by omega) (by omega)).mp c11
          refine lv_iload_n hx hb dX1_caughtAt_62 rfl (lv_at hl 1 rfl) ?_
          rw [hQQ]
          exact W.iret (v := nI (cnt i (spotA a l p 1))) hx hb hr (fun t ht hW => ⟨⟨nI (cnt i (spotA a l p 1)), (), rfl, by rw [show i = qN a by omega]; rfl, trivial⟩, hS.F ht⟩) hS.2.2 dX1_caughtAt_63
        · skip
          have c11 := (not_congr (nI_leI (a := qN a) (b := i) (by omega) (by omega))).mp c11
          obtain ⟨w1, w2, w3, w4, w5, w6, w7, w8⟩ := hw1.2 i (by omega)
          refine lv_aload_n hx hb dX1_caughtAt_14 rfl (lv_at hl 2 rfl) ?_
          refine va_get (D := D) (ci := 1) (v := .ref (F 8)) (C := RX1) (T := TX1) (N := 13) hx hb hts inX1 hown hE.1 hP 0 rfl rfl 7 (by decide) kf38 (fun _ h9 => h9) rfl dX1_caughtAt_15 ?_
          refine lv_iload hx hb dX1_caughtAt_18 (lv_at hl 0 rfl) ?_
          refine pVi (As := [.int (nI i)]) (rest := []) (wc := (wR cA (F 8) (F 19) 41 (fun z9 => nI (qSt a z9)))) ⟨hx, hb, hml, hown, hts⟩ (K_X2_getk lch D cA (F 8) (F 19) 41 (fun z9 => nI (qSt a z9)) i (nI (qSt a i)) H.size (by omega) (Nat.le_of_ble_eq_true rfl) (rfl)) (cwV 1 hts gX1_caughtAt_X2_get rfl rfl rfl (by decide +kernel) ⟨Nat.le_of_ble_eq_true rfl, Nat.le_of_ble_eq_true rfl⟩) hE hP hD hS hA [8, 19] rfl rfl X0.blind (fun _ _ _ => trivial) 8 2 rfl rfl rfl hl.1 rfl rfl (Nat.le_of_ble_eq_true rfl) dX1_caughtAt_20 ⟨Nat.zero_le _, Nat.zero_le _⟩ (fun r_1 u_2 H locs h_3 hP hS => ?_)
          subst h_3
          refine lv_iconst (v := 1) hx hb dX1_caughtAt_23 (by decide) ?_
          refine lv_icmp_ne (tgt := 56) hx hb dX1_caughtAt_24 (by decide) (fun c24 => ?_) (fun c24 => ?_)
          · skip
            have c24 := (not_congr (nI_eq (a := qSt a i) (b := 1) (by omega) (by omega))).mp c24
            refine lv_iinc (v := nI (i + 1)) (lv' := [(4, .int (nI (i + 1))), (3, .int (nI (cnt i (spotA a l p 1)))), (0, .ref (F 0)), (1, .int (nI l)), (2, .int (nI p))]) hx hb dX1_caughtAt_56 hl (k := 0) rfl (nI_add i 1) (by decide) rfl (fun ls hl => ?_)
            refine lv_goto (tgt := 5) hx hb dX1_caughtAt_59 (by decide) ?_
            have e9 : cnt (i + 1) (spotA a l p 1) = cnt i (spotA a l p 1) := by simp [cnt, spotA, c24]
            rw [← e9] at hl
            exact ih5 (i + 1) (by omega) (by omega) H locs hP hS ls (lv_sub hl [0, 1, 2, 3, 4] rfl)
          · skip
            have c24 := (nI_eq (a := qSt a i) (b := 1) (by omega) (by omega)).mp c24
            refine lv_aload_n hx hb dX1_caughtAt_27 rfl (lv_at hl 2 rfl) ?_
            refine va_get (D := D) (ci := 1) (v := .ref (F 3)) (C := RX1) (T := TX1) (N := 13) hx hb hts inX1 hown hE.1 hP 0 rfl rfl 2 (by decide) kf23 (fun _ h9 => h9) rfl dX1_caughtAt_28 ?_
            refine lv_iload hx hb dX1_caughtAt_31 (lv_at hl 0 rfl) ?_
            refine pVi (As := [.int (nI i)]) (rest := []) (wc := (wR cA (F 3) (F 14) 41 (fun z9 => nI (qLa a z9)))) ⟨hx, hb, hml, hown, hts⟩ (K_X2_getk lch D cA (F 3) (F 14) 41 (fun z9 => nI (qLa a z9)) i (nI (qLa a i)) H.size (by omega) (Nat.le_of_ble_eq_true rfl) (rfl)) (cwV 1 hts gX1_caughtAt_X2_get rfl rfl rfl (by decide +kernel) ⟨Nat.le_of_ble_eq_true rfl, Nat.le_of_ble_eq_true rfl⟩) hE hP hD hS hA [3, 14] rfl rfl X0.blind (fun _ _ _ => trivial) 3 2 rfl rfl rfl hl.1 rfl rfl (Nat.le_of_ble_eq_true rfl) dX1_caughtAt_33 ⟨Nat.zero_le _, Nat.zero_le _⟩ (fun r_4 u_5 H locs h_6 hP hS => ?_)
            subst h_6
            refine lv_iload_n hx hb dX1_caughtAt_36 rfl (lv_at hl 3 rfl) ?_
            refine lv_icmp_ne (tgt := 56) hx hb dX1_caughtAt_37 (by decide) (fun c37 => ?_) (fun c37 => ?_)
            · skip
              have c37 := (not_congr (nI_eq (a := qLa a i) (b := l) (by omega) (by omega))).mp c37
              refine lv_iinc (v := nI (i + 1)) (lv' := [(4, .int (nI (i + 1))), (3, .int (nI (cnt i (spotA a l p 1)))), (0, .ref (F 0)), (1, .int (nI l)), (2, .int (nI p))]) hx hb dX1_caughtAt_56 hl (k := 0) rfl (nI_add i 1) (by decide) rfl (fun ls hl => ?_)
              refine lv_goto (tgt := 5) hx hb dX1_caughtAt_59 (by decide) ?_
              have e9 : cnt (i + 1) (spotA a l p 1) = cnt i (spotA a l p 1) := by simp [cnt, spotA, c37]
              rw [← e9] at hl
              exact ih5 (i + 1) (by omega) (by omega) H locs hP hS ls (lv_sub hl [0, 1, 2, 3, 4] rfl)
            · skip
              have c37 := (nI_eq (a := qLa a i) (b := l) (by omega) (by omega)).mp c37
              refine lv_aload_n hx hb dX1_caughtAt_40 rfl (lv_at hl 2 rfl) ?_
              refine va_get (D := D) (ci := 1) (v := .ref (F 4)) (C := RX1) (T := TX1) (N := 13) hx hb hts inX1 hown hE.1 hP 0 rfl rfl 3 (by decide) kf26 (fun _ h9 => h9) rfl dX1_caughtAt_41 ?_
              refine lv_iload hx hb dX1_caughtAt_44 (lv_at hl 0 rfl) ?_
              refine pVi (As := [.int (nI i)]) (rest := []) (wc := (wR cA (F 4) (F 15) 41 (fun z9 => nI (qPl a z9)))) ⟨hx, hb, hml, hown, hts⟩ (K_X2_getk lch D cA (F 4) (F 15) 41 (fun z9 => nI (qPl a z9)) i (nI (qPl a i)) H.size (by omega) (Nat.le_of_ble_eq_true rfl) (rfl)) (cwV 1 hts gX1_caughtAt_X2_get rfl rfl rfl (by decide +kernel) ⟨Nat.le_of_ble_eq_true rfl, Nat.le_of_ble_eq_true rfl⟩) hE hP hD hS hA [4, 15] rfl rfl X0.blind (fun _ _ _ => trivial) 4 2 rfl rfl rfl hl.1 rfl rfl (Nat.le_of_ble_eq_true rfl) dX1_caughtAt_46 ⟨Nat.zero_le _, Nat.zero_le _⟩ (fun r_7 u_8 H locs h_9 hP hS => ?_)
              subst h_9
              refine lv_iload_n hx hb dX1_caughtAt_49 rfl (lv_at hl 4 rfl) ?_
              refine lv_icmp_ne (tgt := 56) hx hb dX1_caughtAt_50 (by decide) (fun c50 => ?_) (fun c50 => ?_)
              · skip
                have c50 := (not_congr (nI_eq (a := qPl a i) (b := p) (by omega) (by omega))).mp c50
                refine lv_iinc (v := nI (i + 1)) (lv' := [(4, .int (nI (i + 1))), (3, .int (nI (cnt i (spotA a l p 1)))), (0, .ref (F 0)), (1, .int (nI l)), (2, .int (nI p))]) hx hb dX1_caughtAt_56 hl (k := 0) rfl (nI_add i 1) (by decide) rfl (fun ls hl => ?_)
                refine lv_goto (tgt := 5) hx hb dX1_caughtAt_59 (by decide) ?_
                have e9 : cnt (i + 1) (spotA a l p 1) = cnt i (spotA a l p 1) := by simp [cnt, spotA, c50]
                rw [← e9] at hl
                exact ih5 (i + 1) (by omega) (by omega) H locs hP hS ls (lv_sub hl [0, 1, 2, 3, 4] rfl)
              · skip
                have c50 := (nI_eq (a := qPl a i) (b := p) (by omega) (by omega)).mp c50
                refine lv_iinc (v := nI ((cnt i (spotA a l p 1)) + 1)) (lv' := [(3, .int (nI ((cnt i (spotA a l p 1)) + 1))), (4, .int (nI i)), (0, .ref (F 0)), (1, .int (nI l)), (2, .int (nI p))]) hx hb dX1_caughtAt_53 hl (k := 1) rfl (nI_add (cnt i (spotA a l p 1)) 1) (by decide) rfl (fun ls hl => ?_)
                refine lv_iinc (v := nI (i + 1)) (lv' := [(4, .int (nI (i + 1))), (3, .int (nI ((cnt i (spotA a l p 1)) + 1))), (0, .ref (F 0)), (1, .int (nI l)), (2, .int (nI p))]) hx hb dX1_caughtAt_56 hl (k := 1) rfl (nI_add i 1) (by decide) rfl (fun ls hl => ?_)
                refine lv_goto (tgt := 5) hx hb dX1_caughtAt_59 (by decide) ?_
                have e9 : cnt (i + 1) (spotA a l p 1) = cnt i (spotA a l p 1) + 1 := by simp [cnt, spotA, c24, c37, c50]
                rw [← e9] at hl
                exact ih5 (i + 1) (by omega) (by omega) H locs hP hS ls (lv_sub hl [0, 1, 2, 3, 4] rfl)
    exact L5 (qN a + 1) 0 (Nat.zero_le _) (by omega) H locs hP hS ls (lv_sub hl [0, 1, 2, 3, 4] rfl)
  rw [hg1, hg2] at hgoal
  exact hgoal
