set_option maxHeartbeats 4000000 in
set_option maxRecDepth 100000 in
/-- hasNet -/
theorem K_X0_hasNet (lch : Launch) (D : va_G) (cA : ClassId) (B : Nat → Nat) (b : BSt) (la : Nat) (pl : Nat) (sz : Nat) (h1 : la < 3) (h2 : pl < 60) : Met lch yX0_hasNet wsX0_hasNet ({ frames := 1, cells := 0, slots := 0, locals := 21 }) (Pr D cA [.ref (B 0), .int (nI la), .int (nI pl)] sz (wB cA B b) X0) (va_Qi (fun (r : Int32) (u : Unit) => r = bi (bNe b (la * 60 + pl))) (fun _ _ => True) (fun q : Nat => sz ≤ q)) 0 0 (fun q : Nat => sz ≤ q) := by
  refine Met.ofW (cc := cX0_hasNet) (maxL := 3) (ret := (some .boolean)) (by decide) rfl ?_
  intro pg ev s mi args below meth cd s₁ B hml hv
  obtain ⟨hav, hsz, hP, hE, hD, hXs⟩ := hv
  have hx := B.exec
  have hb := B.bytes
  have hr := B.returns
  have hts := atoms_spec (ws := wsX0_hasNet) B.pre
  have hown : s.vm.findClass RX0 = some mi.cls := findClass_of_methodNamed B.named
  have hlocks := B.notSynchronized
  clear B
  subst hav
  subst hsz
  have hA : ∀ q : Nat, s.heap.size ≤ q → (fun q : Nat => s.heap.size ≤ q) q := fun _ h => h
  have hS : va_S (fun q : Nat => s.heap.size ≤ q) s.heap s.heap [] := va_S.rf
  obtain ⟨QQ, hQQ⟩ : ∃ qq9, qq9 = MQ below (va_Qi (fun (r : Int32) (u : Unit) => r = bi (bNe b (la * 60 + pl))) (fun _ _ => True) (fun q : Nat => s.heap.size ≤ q)) ([.ref (B 0), .int (nI la), .int (nI pl)] : List Value).toArray s 0 0 (fun q : Nat => s.heap.size ≤ q) := ⟨_, rfl⟩
  rw [← hQQ]
  have hl := lv_entry ([.ref (B 0), .int (nI la), .int (nI pl)]) (n := 3) (Nat.le_of_ble_eq_true rfl)
  rw [lg_entry_eq]
  generalize (lg_sl ([.ref (B 0), .int (nI la), .int (nI pl)]) ++ List.replicate (3 - (lg_sl ([.ref (B 0), .int (nI la), .int (nI pl)])).length) Slot.unset).toArray = ls at hl ⊢
  have hl : lv_has ls 3 [(0, .ref (B 0)), (1, .int (nI la)), (2, .int (nI pl))] := hl
  have kf23 := hts (.fieldLink RX0 23 "LanternWeirs$Bed" "nets" "LLanternWeirs$Row;") (by decide +kernel)
  have inX0 : ∀ w ∈ u_ws RX0 TX0 5, w ∈ wsX0_hasNet := by decide +kernel
  obtain ⟨H, locs, hP, hS, hgo⟩ : ∃ H locs, va_P D vwCl (wB cA B b) H ∧ va_S (fun q : Nat => s.heap.size ≤ q) s.heap H locs ∧ (H = s.heap ∧ locs = []) := ⟨_, _, hP, hS, rfl, rfl⟩
  obtain ⟨hg1, hg2⟩ := hgo
  have hgoal : W pg lch ev (headSpec wsX0_hasNet ({ frames := 1, cells := 0, slots := 0, locals := 21 })).room s mi ([.ref (B 0), .int (nI la), .int (nI pl)] : List Value).toArray below meth cd H locs 0 0 QQ (F0 mi 0 ls []) := by
    refine lv_aload_n hx hb dX0_hasNet_0 rfl (lv_at hl 0 rfl) ?_
    refine va_get (D := D) (ci := 0) (v := .ref (B 3)) (C := RX0) (T := TX0) (N := 5) hx hb hts inX0 hown hE.1 hP 0 rfl rfl 2 (by decide) kf23 (fun _ h9 => h9) rfl dX0_hasNet_1 ?_
    refine lv_iload_n hx hb dX0_hasNet_4 rfl (lv_at hl 1 rfl) ?_
    refine lv_bipush (v := 60) hx hb dX0_hasNet_5 (by decide) ?_
    refine lv_imul hx hb dX0_hasNet_7 ?_
    refine top_i (y := nI (la * 60)) (pk_mul _ _) ?_
    refine lv_iload_n hx hb dX0_hasNet_8 rfl (lv_at hl 2 rfl) ?_
    refine lv_iadd hx hb dX0_hasNet_9 ?_
    refine top_i (y := nI ((la * 60) + pl)) (nI_add _ _) ?_
    refine pVi (As := [.int (nI ((la * 60) + pl))]) (rest := []) (wc := (wR cA (B 3) (B 6) 180 (fun z9 => bi (bNe b z9)))) ⟨hx, hb, hml, hown, hts⟩ (K_X2_getk lch D cA (B 3) (B 6) 180 (fun z9 => bi (bNe b z9)) ((la * 60) + pl) (bi (bNe b ((la * 60) + pl))) H.size (by omega) (Nat.le_of_ble_eq_true rfl) (rfl)) (cwV 1 hts gX0_hasNet_X2_get rfl rfl rfl (by decide +kernel) ⟨Nat.le_of_ble_eq_true rfl, Nat.le_of_ble_eq_true rfl⟩) hE hP hD hS hA [3, 6] rfl rfl X0.blind (fun _ _ _ => trivial) 3 2 rfl rfl rfl hl.1 rfl rfl (Nat.le_of_ble_eq_true rfl) dX0_hasNet_10 ⟨Nat.zero_le _, Nat.zero_le _⟩ (fun r_1 u_2 H locs h_3 hP hS => ?_)
    subst h_3
    refine lv_iconst (v := 1) hx hb dX0_hasNet_13 (by decide) ?_
    refine lv_icmp_ne (tgt := 21) hx hb dX0_hasNet_14 (by decide) (fun c14 => ?_) (fun c14 => ?_)
    · skip
      have c14 := bi_f.mp c14
      refine lv_iconst (v := 0) hx hb dX0_hasNet_21 (by decide) ?_
      rw [hQQ]
      exact W.zret (v := 0) hx hb hr (by decide) (fun t ht hW => ⟨⟨0, (), rfl, by rw [c14]; rfl, trivial⟩, hS.F ht⟩) hS.2.2 dX0_hasNet_22
    · skip
      have c14 := bi_t.mp c14
      refine lv_iconst (v := 1) hx hb dX0_hasNet_17 (by decide) ?_
      refine lv_goto (tgt := 22) hx hb dX0_hasNet_18 (by decide) ?_
      rw [hQQ]
      exact W.zret (v := 1) hx hb hr (by decide) (fun t ht hW => ⟨⟨1, (), rfl, by rw [c14]; rfl, trivial⟩, hS.F ht⟩) hS.2.2 dX0_hasNet_22
  rw [hg1, hg2] at hgoal
  exact hgoal

set_option maxHeartbeats 4000000 in
set_option maxRecDepth 100000 in
/-- addWeir -/
theorem K_X0_addWeir (lch : Launch) (D : va_G) (cA : ClassId) (B : Nat → Nat) (b : BSt) (pl : Nat) (v : Int32) (sz : Nat) (h2 : pl < 60) : Met lch yX0_addWeir wsX0_addWeir ({ frames := 1, cells := 0, slots := 0, locals := 22 }) (Pr D cA [.ref (B 0), .int (nI pl), .int v] sz (wB cA B b) X0) (va_Qi (fun (r : Int32) (u : Unit) => r = nI (bW b + 1)) (fun (u : Unit) t => va_P D vwCl (wB cA B (vW (vSp b (up (bSp b) pl v)) (bW b + 1))) t.heap) (va_A (wB cA B b) sz)) 0 0 (va_A (wB cA B b) sz) := by
  refine Met.ofW (cc := cX0_addWeir) (maxL := 3) (ret := (some .int)) (by decide) rfl ?_
  intro pg ev s mi args below meth cd s₁ B hml hv
  obtain ⟨hav, hsz, hP, hE, hD, hXs⟩ := hv
  have hx := B.exec
  have hb := B.bytes
  have hr := B.returns
  have hts := atoms_spec (ws := wsX0_addWeir) B.pre
  have hown : s.vm.findClass RX0 = some mi.cls := findClass_of_methodNamed B.named
  have hlocks := B.notSynchronized
  clear B
  subst hav
  subst hsz
  have hD := hD.self (sz := s.heap.size)
  generalize hAe : va_A (wB cA B b) s.heap.size = A at hD ⊢
  have hA : ∀ q : Nat, s.heap.size ≤ q → A q := fun q h => by rw [← hAe]; exact Or.inr h
  have hS : va_S A s.heap s.heap [] := va_S.rf
  obtain ⟨QQ, hQQ⟩ : ∃ qq9, qq9 = MQ below (va_Qi (fun (r : Int32) (u : Unit) => r = nI (bW b + 1)) (fun (u : Unit) t => va_P D vwCl (wB cA B (vW (vSp b (up (bSp b) pl v)) (bW b + 1))) t.heap) A) ([.ref (B 0), .int (nI pl), .int v] : List Value).toArray s 0 0 A := ⟨_, rfl⟩
  rw [← hQQ]
  have hl := lv_entry ([.ref (B 0), .int (nI pl), .int v]) (n := 3) (Nat.le_of_ble_eq_true rfl)
  rw [lg_entry_eq]
  generalize (lg_sl ([.ref (B 0), .int (nI pl), .int v]) ++ List.replicate (3 - (lg_sl ([.ref (B 0), .int (nI pl), .int v])).length) Slot.unset).toArray = ls at hl ⊢
  have hl : lv_has ls 3 [(0, .ref (B 0)), (1, .int (nI pl)), (2, .int v)] := hl
  have kf20 := hts (.fieldLink RX0 20 "LanternWeirs$Bed" "sprays" "LLanternWeirs$Row;") (by decide +kernel)
  have inX0 : ∀ w ∈ u_ws RX0 TX0 5, w ∈ wsX0_addWeir := by decide +kernel
  have kf30 := hts (.fieldLink RX0 30 "LanternWeirs$Bed" "weirs" "I") (by decide +kernel)
  obtain ⟨H, locs, hP, hS, hgo⟩ : ∃ H locs, va_P D vwCl (wB cA B b) H ∧ va_S A s.heap H locs ∧ (H = s.heap ∧ locs = []) := ⟨_, _, hP, hS, rfl, rfl⟩
  obtain ⟨hg1, hg2⟩ := hgo
  have hgoal : W pg lch ev (headSpec wsX0_addWeir ({ frames := 1, cells := 0, slots := 0, locals := 22 })).room s mi ([.ref (B 0), .int (nI pl), .int v] : List Value).toArray below meth cd H locs 0 0 QQ (F0 mi 0 ls []) := by
    refine lv_aload_n hx hb dX0_addWeir_0 rfl (lv_at hl 0 rfl) ?_
    refine va_get (D := D) (ci := 0) (v := .ref (B 2)) (C := RX0) (T := TX0) (N := 5) hx hb hts inX0 hown hE.1 hP 0 rfl rfl 1 (by decide) kf20 (fun _ h9 => h9) rfl dX0_addWeir_1 ?_
    refine lv_iload_n hx hb dX0_addWeir_4 rfl (lv_at hl 1 rfl) ?_
    refine lv_iload_n hx hb dX0_addWeir_5 rfl (lv_at hl 2 rfl) ?_
    refine cVv (As := [.int (nI pl), .int v]) (rest := []) (wc := (wR cA (B 2) (B 5) 60 (bSp b))) ⟨hx, hb, hml, hown, hts⟩ (K_X2_putk lch D cA (B 2) (B 5) 60 (bSp b) pl v (bSp (vSp b (up (bSp b) pl v))) H.size (by omega) (Nat.le_of_ble_eq_true rfl) (fun j _ => upd_I j)) (cwV 2 hts gX0_addWeir_X2_put rfl rfl rfl (by decide +kernel) ⟨Nat.le_of_ble_eq_true rfl, Nat.le_of_ble_eq_true rfl⟩) hE hP hD hS hA [2, 5] rfl rfl [B 2, B 5] (fun _ => rfl) rfl (fun (u_2 : Unit) => (wB cA B (vSp b (up (bSp b) pl v)))) (fun _ => rfl) X0.blind (fun _ _ _ => trivial) 2 2 rfl rfl rfl hl.1 rfl rfl (Nat.le_of_ble_eq_true rfl) dX0_addWeir_6 ⟨Nat.zero_le _, Nat.zero_le _⟩ (fun u_2 H locs h_3 hP hD hS => ?_)
    refine lv_aload_n hx hb dX0_addWeir_9 rfl (lv_at hl 0 rfl) ?_
    refine lv_dup hx hb dX0_addWeir_10 rfl ?_
    refine va_get (D := D) (ci := 0) (v := .int (nI (bW (vSp b (up (bSp b) pl v))))) (C := RX0) (T := TX0) (N := 5) hx hb hts inX0 hown hE.1 hP 0 rfl rfl 3 (by decide) kf30 (fun _ h9 => h9) rfl dX0_addWeir_11 ?_
    refine lv_iconst (v := 1) hx hb dX0_addWeir_14 (by decide) ?_
    refine lv_iadd hx hb dX0_addWeir_15 ?_
    refine top_i (y := nI ((bW (vSp b (up (bSp b) pl v))) + 1)) (nI_add _ _) ?_
    refine va_put (D := D) (ci := 0) (v := .int (nI ((bW (vSp b (up (bSp b) pl v))) + 1))) (ty := .int) (C := RX0) (T := TX0) (N := 5) hx hb hts inX0 tyX0 tyX0_ok nmX0 hown hE.1 hP hD hS 0 rfl rfl 3 (by decide) kf30 (fun _ h9 => h9) rfl (by decide +kernel) rfl rfl (Nat.le_of_ble_eq_true rfl) dX0_addWeir_16 (fun H locs hP hD hS => ?_)
    have hP : va_P D vwCl (wB cA B (vW (vSp b (up (bSp b) pl v)) (bW b + 1))) H := hP
    have hD : va_D A (wB cA B (vW (vSp b (up (bSp b) pl v)) (bW b + 1))) := hD
    refine lv_aload_n hx hb dX0_addWeir_19 rfl (lv_at hl 0 rfl) ?_
    refine va_get (D := D) (ci := 0) (v := .int (nI (bW (vW (vSp b (up (bSp b) pl v)) (bW b + 1))))) (C := RX0) (T := TX0) (N := 5) hx hb hts inX0 hown hE.1 hP 0 rfl rfl 3 (by decide) kf30 (fun _ h9 => h9) rfl dX0_addWeir_20 ?_
    rw [hQQ]
    exact W.iret (v := nI (bW (vW (vSp b (up (bSp b) pl v)) (bW b + 1)))) hx hb hr (fun t ht hW => ⟨⟨nI (bW (vW (vSp b (up (bSp b) pl v)) (bW b + 1))), (), rfl, rfl, by show va_P _ _ _ t.heap; rw [ht]; exact hP⟩, hS.F ht⟩) hS.2.2 dX0_addWeir_23
  rw [hg1, hg2] at hgoal
  exact hgoal

set_option maxHeartbeats 4000000 in
set_option maxRecDepth 100000 in
/-- addNet -/
theorem K_X0_addNet (lch : Launch) (D : va_G) (cA : ClassId) (B : Nat → Nat) (b : BSt) (la : Nat) (pl : Nat) (sz : Nat) (h1 : la < 3) (h2 : pl < 60) : Met lch yX0_addNet wsX0_addNet ({ frames := 1, cells := 0, slots := 0, locals := 22 }) (Pr D cA [.ref (B 0), .int (nI la), .int (nI pl)] sz (wB cA B b) X0) (va_Qi (fun (r : Int32) (u : Unit) => r = nI (bK b + 1)) (fun (u : Unit) t => va_P D vwCl (wB cA B (vK (vNe b (up (bNe b) (la * 60 + pl) true)) (bK b + 1))) t.heap) (va_A (wB cA B b) sz)) 0 0 (va_A (wB cA B b) sz) := by
  refine Met.ofW (cc := cX0_addNet) (maxL := 3) (ret := (some .int)) (by decide) rfl ?_
  intro pg ev s mi args below meth cd s₁ B hml hv
  obtain ⟨hav, hsz, hP, hE, hD, hXs⟩ := hv
  have hx := B.exec
  have hb := B.bytes
  have hr := B.returns
  have hts := atoms_spec (ws := wsX0_addNet) B.pre
  have hown : s.vm.findClass RX0 = some mi.cls := findClass_of_methodNamed B.named
  have hlocks := B.notSynchronized
  clear B
  subst hav
  subst hsz
  have hD := hD.self (sz := s.heap.size)
  generalize hAe : va_A (wB cA B b) s.heap.size = A at hD ⊢
  have hA : ∀ q : Nat, s.heap.size ≤ q → A q := fun q h => by rw [← hAe]; exact Or.inr h
  have hS : va_S A s.heap s.heap [] := va_S.rf
  obtain ⟨QQ, hQQ⟩ : ∃ qq9, qq9 = MQ below (va_Qi (fun (r : Int32) (u : Unit) => r = nI (bK b + 1)) (fun (u : Unit) t => va_P D vwCl (wB cA B (vK (vNe b (up (bNe b) (la * 60 + pl) true)) (bK b + 1))) t.heap) A) ([.ref (B 0), .int (nI la), .int (nI pl)] : List Value).toArray s 0 0 A := ⟨_, rfl⟩
  rw [← hQQ]
  have hl := lv_entry ([.ref (B 0), .int (nI la), .int (nI pl)]) (n := 3) (Nat.le_of_ble_eq_true rfl)
  rw [lg_entry_eq]
  generalize (lg_sl ([.ref (B 0), .int (nI la), .int (nI pl)]) ++ List.replicate (3 - (lg_sl ([.ref (B 0), .int (nI la), .int (nI pl)])).length) Slot.unset).toArray = ls at hl ⊢
  have hl : lv_has ls 3 [(0, .ref (B 0)), (1, .int (nI la)), (2, .int (nI pl))] := hl
  have kf23 := hts (.fieldLink RX0 23 "LanternWeirs$Bed" "nets" "LLanternWeirs$Row;") (by decide +kernel)
  have inX0 : ∀ w ∈ u_ws RX0 TX0 5, w ∈ wsX0_addNet := by decide +kernel
  have kf34 := hts (.fieldLink RX0 34 "LanternWeirs$Bed" "netCount" "I") (by decide +kernel)
  obtain ⟨H, locs, hP, hS, hgo⟩ : ∃ H locs, va_P D vwCl (wB cA B b) H ∧ va_S A s.heap H locs ∧ (H = s.heap ∧ locs = []) := ⟨_, _, hP, hS, rfl, rfl⟩
  obtain ⟨hg1, hg2⟩ := hgo
  have hgoal : W pg lch ev (headSpec wsX0_addNet ({ frames := 1, cells := 0, slots := 0, locals := 22 })).room s mi ([.ref (B 0), .int (nI la), .int (nI pl)] : List Value).toArray below meth cd H locs 0 0 QQ (F0 mi 0 ls []) := by
    refine lv_aload_n hx hb dX0_addNet_0 rfl (lv_at hl 0 rfl) ?_
    refine va_get (D := D) (ci := 0) (v := .ref (B 3)) (C := RX0) (T := TX0) (N := 5) hx hb hts inX0 hown hE.1 hP 0 rfl rfl 2 (by decide) kf23 (fun _ h9 => h9) rfl dX0_addNet_1 ?_
    refine lv_iload_n hx hb dX0_addNet_4 rfl (lv_at hl 1 rfl) ?_
    refine lv_bipush (v := 60) hx hb dX0_addNet_5 (by decide) ?_
    refine lv_imul hx hb dX0_addNet_7 ?_
    refine top_i (y := nI (la * 60)) (pk_mul _ _) ?_
    refine lv_iload_n hx hb dX0_addNet_8 rfl (lv_at hl 2 rfl) ?_
    refine lv_iadd hx hb dX0_addNet_9 ?_
    refine top_i (y := nI ((la * 60) + pl)) (nI_add _ _) ?_
    refine lv_iconst (v := 1) hx hb dX0_addNet_10 (by decide) ?_
    refine cVv (As := [.int (nI ((la * 60) + pl)), .int 1]) (rest := []) (wc := (wR cA (B 3) (B 6) 180 (fun z9 => bi (bNe b z9)))) ⟨hx, hb, hml, hown, hts⟩ (K_X2_putk lch D cA (B 3) (B 6) 180 (fun z9 => bi (bNe b z9)) ((la * 60) + pl) 1 (fun z9 => bi (bNe (vNe b (up (bNe b) (la * 60 + pl) true)) z9)) H.size (by omega) (Nat.le_of_ble_eq_true rfl) (fun j _ => upd_B (v := true) j)) (cwV 2 hts gX0_addNet_X2_put rfl rfl rfl (by decide +kernel) ⟨Nat.le_of_ble_eq_true rfl, Nat.le_of_ble_eq_true rfl⟩) hE hP hD hS hA [3, 6] rfl rfl [B 3, B 6] (fun _ => rfl) rfl (fun (u_2 : Unit) => (wB cA B (vNe b (up (bNe b) (la * 60 + pl) true)))) (fun _ => rfl) X0.blind (fun _ _ _ => trivial) 3 2 rfl rfl rfl hl.1 rfl rfl (Nat.le_of_ble_eq_true rfl) dX0_addNet_11 ⟨Nat.zero_le _, Nat.zero_le _⟩ (fun u_2 H locs h_3 hP hD hS => ?_)
    refine lv_aload_n hx hb dX0_addNet_14 rfl (lv_at hl 0 rfl) ?_
    refine lv_dup hx hb dX0_addNet_15 rfl ?_
    refine va_get (D := D) (ci := 0) (v := .int (nI (bK (vNe b (up (bNe b) (la * 60 + pl) true))))) (C := RX0) (T := TX0) (N := 5) hx hb hts inX0 hown hE.1 hP 0 rfl rfl 4 (by decide) kf34 (fun _ h9 => h9) rfl dX0_addNet_16 ?_
    refine lv_iconst (v := 1) hx hb dX0_addNet_19 (by decide) ?_
    refine lv_iadd hx hb dX0_addNet_20 ?_
    refine top_i (y := nI ((bK (vNe b (up (bNe b) (la * 60 + pl) true))) + 1)) (nI_add _ _) ?_
    refine va_put (D := D) (ci := 0) (v := .int (nI ((bK (vNe b (up (bNe b) (la * 60 + pl) true))) + 1))) (ty := .int) (C := RX0) (T := TX0) (N := 5) hx hb hts inX0 tyX0 tyX0_ok nmX0 hown hE.1 hP hD hS 0 rfl rfl 4 (by decide) kf34 (fun _ h9 => h9) rfl (by decide +kernel) rfl rfl (Nat.le_of_ble_eq_true rfl) dX0_addNet_21 (fun H locs hP hD hS => ?_)
    have hP : va_P D vwCl (wB cA B (vK (vNe b (up (bNe b) (la * 60 + pl) true)) (bK b + 1))) H := hP
    have hD : va_D A (wB cA B (vK (vNe b (up (bNe b) (la * 60 + pl) true)) (bK b + 1))) := hD
    refine lv_aload_n hx hb dX0_addNet_24 rfl (lv_at hl 0 rfl) ?_
    refine va_get (D := D) (ci := 0) (v := .int (nI (bK (vK (vNe b (up (bNe b) (la * 60 + pl) true)) (bK b + 1))))) (C := RX0) (T := TX0) (N := 5) hx hb hts inX0 hown hE.1 hP 0 rfl rfl 4 (by decide) kf34 (fun _ h9 => h9) rfl dX0_addNet_25 ?_
    rw [hQQ]
    exact W.iret (v := nI (bK (vK (vNe b (up (bNe b) (la * 60 + pl) true)) (bK b + 1)))) hx hb hr (fun t ht hW => ⟨⟨nI (bK (vK (vNe b (up (bNe b) (la * 60 + pl) true)) (bK b + 1))), (), rfl, rfl, by show va_P _ _ _ t.heap; rw [ht]; exact hP⟩, hS.F ht⟩) hS.2.2 dX0_addNet_28
  rw [hg1, hg2] at hgoal
  exact hgoal
