set_option maxHeartbeats 4000000 in
set_option maxRecDepth 100000 in
/-- setCurrent -/
theorem K_X5_setCurrent (lch : Launch) (D : va_G) (cA : ClassId) (y : Nat) (E : Nat → Nat) (S : Nat → Nat) (T : Nat → Nat) (th : Int32) (b : BSt) (a : FSt) (q : Nat → Int32) (a2 : FSt) (q2 : Nat → Int32) (la : Int32) (cu : Int32) (sz : Nat)  : Met lch yX5_setCurrent wsX5_setCurrent ({ frames := 2, cells := 0, slots := 0, locals := 42 }) (Pr D cA [.ref y, .int la, .int cu] sz ((wM cA y E (S 0) (T 0) th b) ++ ((wS cA S y a q) ++ (wS cA T y a2 q2))) X0) (va_Qi (fun (r : Int32) (u : BSt) => (cdCurrent la cu = 0 → r = nI (bCu b (la.toNatClampNeg)) ∧ u = vCu b (up (bCu b) (la.toNatClampNeg) (cu.toNatClampNeg))) ∧ (¬ cdCurrent la cu = 0 → r = 0 ∧ u = b)) (fun (u : BSt) t => va_P D vwCl ((wM cA y E (S 0) (T 0) (nI (cdCurrent la cu)) u) ++ ((wS cA S y a q) ++ (wS cA T y a2 q2))) t.heap) (va_A ((wM cA y E (S 0) (T 0) th b) ++ ((wS cA S y a q) ++ (wS cA T y a2 q2))) sz)) 0 0 (va_A ((wM cA y E (S 0) (T 0) th b) ++ ((wS cA S y a q) ++ (wS cA T y a2 q2))) sz) := by
  refine Met.ofW (cc := cX5_setCurrent) (maxL := 4) (ret := (some .int)) (by decide) rfl ?_
  intro pg ev s mi args below meth cd s₁ B hml hv
  obtain ⟨hav, hsz, hP, hE, hD, hXs⟩ := hv
  have hx := B.exec
  have hb := B.bytes
  have hr := B.returns
  have hts := atoms_spec (ws := wsX5_setCurrent) B.pre
  have hown : s.vm.findClass RX5 = some mi.cls := findClass_of_methodNamed B.named
  have hlocks := B.notSynchronized
  clear B
  subst hav
  subst hsz
  have hD := hD.self (sz := s.heap.size)
  generalize hAe : va_A ((wM cA y E (S 0) (T 0) th b) ++ ((wS cA S y a q) ++ (wS cA T y a2 q2))) s.heap.size = A at hD ⊢
  have hA : ∀ q : Nat, s.heap.size ≤ q → A q := fun q h => by rw [← hAe]; exact Or.inr h
  have hS : va_S A s.heap s.heap [] := va_S.rf
  obtain ⟨QQ, hQQ⟩ : ∃ qq9, qq9 = MQ below (va_Qi (fun (r : Int32) (u : BSt) => (cdCurrent la cu = 0 → r = nI (bCu b (la.toNatClampNeg)) ∧ u = vCu b (up (bCu b) (la.toNatClampNeg) (cu.toNatClampNeg))) ∧ (¬ cdCurrent la cu = 0 → r = 0 ∧ u = b)) (fun (u : BSt) t => va_P D vwCl ((wM cA y E (S 0) (T 0) (nI (cdCurrent la cu)) u) ++ ((wS cA S y a q) ++ (wS cA T y a2 q2))) t.heap) A) ([.ref y, .int la, .int cu] : List Value).toArray s 0 0 A := ⟨_, rfl⟩
  rw [← hQQ]
  have hl := lv_entry ([.ref y, .int la, .int cu]) (n := 4) (Nat.le_of_ble_eq_true rfl)
  rw [lg_entry_eq]
  generalize (lg_sl ([.ref y, .int la, .int cu]) ++ List.replicate (4 - (lg_sl ([.ref y, .int la, .int cu])).length) Slot.unset).toArray = ls at hl ⊢
  have hl : lv_has ls 4 [(0, .ref y), (1, .int la), (2, .int cu)] := hl
  have kf31 := hts (.fieldLink RX5 31 "LanternWeirsModel" "thrown" "I") (by decide +kernel)
  have inX5 : ∀ w ∈ u_ws RX5 TX5 8, w ∈ wsX5_setCurrent := by decide +kernel
  have kf7 := hts (.fieldLink RX5 7 "LanternWeirsModel" "current" "[I") (by decide +kernel)
  obtain ⟨H, locs, hP, hS, hgo⟩ : ∃ H locs, va_P D vwCl ((wM cA y E (S 0) (T 0) th b) ++ ((wS cA S y a q) ++ (wS cA T y a2 q2))) H ∧ va_S A s.heap H locs ∧ (H = s.heap ∧ locs = []) := ⟨_, _, hP, hS, rfl, rfl⟩
  obtain ⟨hg1, hg2⟩ := hgo
  have hgoal : W pg lch ev (headSpec wsX5_setCurrent ({ frames := 2, cells := 0, slots := 0, locals := 42 })).room s mi ([.ref y, .int la, .int cu] : List Value).toArray below meth cd H locs 0 0 QQ (F0 mi 0 ls []) := by
    refine lv_aload_n hx hb dX5_setCurrent_0 rfl (lv_at hl 0 rfl) ?_
    refine lv_iconst (v := 0) hx hb dX5_setCurrent_1 (by decide) ?_
    refine va_put (D := D) (ci := 5) (v := .int 0) (ty := .int) (C := RX5) (T := TX5) (N := 8) hx hb hts inX5 tyX5 tyX5_ok nmX5 hown hE.1 hP hD hS 0 rfl rfl 0 (by decide) kf31 (fun _ h9 => h9) rfl (by decide +kernel) rfl rfl (Nat.le_of_ble_eq_true rfl) dX5_setCurrent_2 (fun H locs hP hD hS => ?_)
    have hP : va_P D vwCl ((wM cA y E (S 0) (T 0) 0 b) ++ ((wS cA S y a q) ++ (wS cA T y a2 q2))) H := hP
    have hD : va_D A ((wM cA y E (S 0) (T 0) 0 b) ++ ((wS cA S y a q) ++ (wS cA T y a2 q2))) := hD
    refine lv_iload_n hx hb dX5_setCurrent_5 rfl (lv_at hl 1 rfl) ?_
    refine pSi (As := [.int la]) (rest := []) (wc := ([] : va_W)) ⟨hx, hb, hml, hown, hts⟩ (K_X5_isLane lch D cA la H.size ) (cwS 1 hts gX5_setCurrent_X5_isLane rfl rfl rfl (by decide +kernel) ⟨Nat.le_of_ble_eq_true rfl, Nat.le_of_ble_eq_true rfl⟩) hE hP hD hS hA [] rfl rfl X0.blind (fun _ _ _ => trivial) hl.1 rfl rfl (Nat.le_of_ble_eq_true rfl) dX5_setCurrent_6 ⟨Nat.zero_le _, Nat.zero_le _⟩ (fun r_1 u_2 H locs h_3 hP hS => ?_)
    subst h_3
    refine lv_if_ne (tgt := 18) hx hb dX5_setCurrent_9 (by decide) (fun c9 => ?_) (fun c9 => ?_)
    · skip
      have c9 := bi_1.mp c9
      refine lv_iload_n hx hb dX5_setCurrent_18 rfl (lv_at hl 2 rfl) ?_
      refine lv_iconst (v := 1) hx hb dX5_setCurrent_19 (by decide) ?_
      refine lv_iconst (v := 5) hx hb dX5_setCurrent_20 (by decide) ?_
      refine pSi (As := [.int cu, .int 1, .int 5]) (rest := []) (wc := ([] : va_W)) ⟨hx, hb, hml, hown, hts⟩ (K_X5_isIn lch D cA cu 1 5 H.size ) (cwS 3 hts gX5_setCurrent_X5_isIn rfl rfl rfl (by decide +kernel) ⟨Nat.le_of_ble_eq_true rfl, Nat.le_of_ble_eq_true rfl⟩) hE hP hD hS hA [] rfl rfl X0.blind (fun _ _ _ => trivial) hl.1 rfl rfl (Nat.le_of_ble_eq_true rfl) dX5_setCurrent_21 ⟨Nat.zero_le _, Nat.zero_le _⟩ (fun r_4 u_5 H locs h_6 hP hS => ?_)
      subst h_6
      refine lv_if_ne (tgt := 33) hx hb dX5_setCurrent_24 (by decide) (fun c24 => ?_) (fun c24 => ?_)
      · skip
        have c24 := bi_1.mp c24
        obtain ⟨lan, hla9, ela⟩ := isW_nat (n := 2) c9 (by decide)
        subst ela
        obtain ⟨cun, hcu9, ecu⟩ := isW_nat (n := 5) (isW_0 c24) (by decide)
        subst ecu
        refine lv_aload_n hx hb dX5_setCurrent_33 rfl (lv_at hl 0 rfl) ?_
        refine va_get (D := D) (ci := 5) (v := .ref (E 0)) (C := RX5) (T := TX5) (N := 8) hx hb hts inX5 hown hE.1 hP 0 rfl rfl 1 (by decide) kf7 (fun _ h9 => h9) rfl dX5_setCurrent_34 ?_
        refine lv_iload_n hx hb dX5_setCurrent_37 rfl (lv_at hl 1 rfl) ?_
        refine ald hx hb hE hP 1 rfl (k := lan) (by omega) (Nat.le_of_ble_eq_true rfl) (v := nI (bCu b lan)) rfl dX5_setCurrent_38 ?_
        refine lv_istore_n (lv' := [(3, .int (nI (bCu b lan))), (0, .ref y), (1, .int (nI lan)), (2, .int (nI cun))]) hx hb dX5_setCurrent_39 rfl hl (by decide) rfl (fun ls hl => ?_)
        refine lv_aload_n hx hb dX5_setCurrent_40 rfl (lv_at hl 1 rfl) ?_
        refine va_get (D := D) (ci := 5) (v := .ref (E 0)) (C := RX5) (T := TX5) (N := 8) hx hb hts inX5 hown hE.1 hP 0 rfl rfl 1 (by decide) kf7 (fun _ h9 => h9) rfl dX5_setCurrent_41 ?_
        refine lv_iload_n hx hb dX5_setCurrent_44 rfl (lv_at hl 2 rfl) ?_
        refine lv_iload_n hx hb dX5_setCurrent_45 rfl (lv_at hl 3 rfl) ?_
        refine ast hx hb hE hP hD hS 1 rfl (k := lan) (by omega) (Nat.le_of_ble_eq_true rfl) (fun z9 => nI (bCu (vCu b (up (bCu b) lan cun)) z9)) (fun j _ => upd_N j) dX5_setCurrent_46 (fun H locs hP hD hS => ?_)
        have hP : va_P D vwCl ((wM cA y E (S 0) (T 0) 0 (vCu b (up (bCu b) lan cun))) ++ ((wS cA S y a q) ++ (wS cA T y a2 q2))) H := hP
        have hD : va_D A ((wM cA y E (S 0) (T 0) 0 (vCu b (up (bCu b) lan cun))) ++ ((wS cA S y a q) ++ (wS cA T y a2 q2))) := hD
        refine lv_iload_n hx hb dX5_setCurrent_47 rfl (lv_at hl 0 rfl) ?_
        have ecd : cdCurrent (nI lan) (nI cun) = 0 := by unfold cdCurrent; rw [if_neg (by simp [c9]), if_neg (by simp [c24])]
        have ec : nI (cdCurrent (nI lan) (nI cun)) = 0 := by rw [ecd]; rfl
        have ew0 : vCu b (up (bCu b) ((nI lan).toNatClampNeg) ((nI cun).toNatClampNeg)) = vCu b (up (bCu b) lan cun) := by rw [nI_clamp (by omega), nI_clamp (by omega)]
        have hP : va_P D vwCl ((wM cA y E (S 0) (T 0) (nI (cdCurrent (nI lan) (nI cun))) (vCu b (up (bCu b) ((nI lan).toNatClampNeg) ((nI cun).toNatClampNeg)))) ++ ((wS cA S y a q) ++ (wS cA T y a2 q2))) H := by rw [ec, ew0]; exact hP
        rw [hQQ]
        exact W.iret (v := nI (bCu b lan)) hx hb hr (fun t ht hW => ⟨⟨nI (bCu b lan), vCu b (up (bCu b) ((nI lan).toNatClampNeg) ((nI cun).toNatClampNeg)), rfl, ⟨fun _ => ⟨by rw [nI_clamp (by omega)], rfl⟩, fun h9 => absurd ecd h9⟩, by show va_P _ _ _ t.heap; rw [ht]; exact hP⟩, hS.F ht⟩) hS.2.2 dX5_setCurrent_48
      · skip
        have c24 := bi_0.mp c24
        refine lv_aload_n hx hb dX5_setCurrent_27 rfl (lv_at hl 0 rfl) ?_
        refine lv_iconst (v := 2) hx hb dX5_setCurrent_28 (by decide) ?_
        refine cVi (wB := fun (u_8 : Unit) => ((wM cA y E (S 0) (T 0) 2 b) ++ ((wS cA S y a q) ++ (wS cA T y a2 q2)))) (As := [.int 2]) (rest := []) (wc := ((wM cA y E (S 0) (T 0) 0 b) ++ ((wS cA S y a q) ++ (wS cA T y a2 q2)))) ⟨hx, hb, hml, hown, hts⟩ (K_X5_no lch D cA y E S T 0 b a q a2 q2 2 H.size ) (cwV 1 hts gX5_setCurrent_X5_no rfl rfl rfl (by decide +kernel) ⟨Nat.le_of_ble_eq_true rfl, Nat.le_of_ble_eq_true rfl⟩) hE hP hD hS hA [0, 1, 2, 3, 4, 5, 6, 7, 8, 9, 10, 11, 12, 13, 14, 15, 16, 17, 18, 19, 20, 21, 22, 23, 24, 25] rfl rfl [y, E 0, E 1, E 2, S 0, S 1, S 2, S 3, S 4, S 5, S 6, S 7, S 8, S 9, S 10, T 0, T 1, T 2, T 3, T 4, T 5, T 6, T 7, T 8, T 9, T 10] (fun _ => rfl) rfl (fun (u_8 : Unit) => ((wM cA y E (S 0) (T 0) 2 b) ++ ((wS cA S y a q) ++ (wS cA T y a2 q2)))) (fun _ => pst_all 26 rfl rfl rfl) X0.blind (fun _ _ _ => trivial) 0 5 rfl rfl rfl hl.1 rfl rfl (Nat.le_of_ble_eq_true rfl) dX5_setCurrent_29 ⟨Nat.zero_le _, Nat.zero_le _⟩ (fun r_7 u_8 H locs h_9 hP hD hS => ?_)
        subst h_9
        have ecd : cdCurrent la cu = 2 := by unfold cdCurrent; rw [if_neg (by simp [c9]), if_pos c24]
        have ec : nI (cdCurrent la cu) = 2 := by rw [ecd]; rfl
        have hP : va_P D vwCl ((wM cA y E (S 0) (T 0) (nI (cdCurrent la cu)) b) ++ ((wS cA S y a q) ++ (wS cA T y a2 q2))) H := by rw [ec]; exact hP
        rw [hQQ]
        exact W.iret (v := 0) hx hb hr (fun t ht hW => ⟨⟨0, b, rfl, ⟨fun h9 => absurd (ecd.symm.trans h9) (by decide), fun _ => ⟨rfl, rfl⟩⟩, by show va_P _ _ _ t.heap; rw [ht]; exact hP⟩, hS.F ht⟩) hS.2.2 dX5_setCurrent_32
    · skip
      have c9 := bi_0.mp c9
      refine lv_aload_n hx hb dX5_setCurrent_12 rfl (lv_at hl 0 rfl) ?_
      refine lv_iconst (v := 1) hx hb dX5_setCurrent_13 (by decide) ?_
      refine cVi (wB := fun (u_11 : Unit) => ((wM cA y E (S 0) (T 0) 1 b) ++ ((wS cA S y a q) ++ (wS cA T y a2 q2)))) (As := [.int 1]) (rest := []) (wc := ((wM cA y E (S 0) (T 0) 0 b) ++ ((wS cA S y a q) ++ (wS cA T y a2 q2)))) ⟨hx, hb, hml, hown, hts⟩ (K_X5_no lch D cA y E S T 0 b a q a2 q2 1 H.size ) (cwV 1 hts gX5_setCurrent_X5_no rfl rfl rfl (by decide +kernel) ⟨Nat.le_of_ble_eq_true rfl, Nat.le_of_ble_eq_true rfl⟩) hE hP hD hS hA [0, 1, 2, 3, 4, 5, 6, 7, 8, 9, 10, 11, 12, 13, 14, 15, 16, 17, 18, 19, 20, 21, 22, 23, 24, 25] rfl rfl [y, E 0, E 1, E 2, S 0, S 1, S 2, S 3, S 4, S 5, S 6, S 7, S 8, S 9, S 10, T 0, T 1, T 2, T 3, T 4, T 5, T 6, T 7, T 8, T 9, T 10] (fun _ => rfl) rfl (fun (u_11 : Unit) => ((wM cA y E (S 0) (T 0) 1 b) ++ ((wS cA S y a q) ++ (wS cA T y a2 q2)))) (fun _ => pst_all 26 rfl rfl rfl) X0.blind (fun _ _ _ => trivial) 0 5 rfl rfl rfl hl.1 rfl rfl (Nat.le_of_ble_eq_true rfl) dX5_setCurrent_14 ⟨Nat.zero_le _, Nat.zero_le _⟩ (fun r_10 u_11 H locs h_12 hP hD hS => ?_)
      subst h_12
      have ecd : cdCurrent la cu = 1 := by unfold cdCurrent; rw [if_pos c9]
      have ec : nI (cdCurrent la cu) = 1 := by rw [ecd]; rfl
      have hP : va_P D vwCl ((wM cA y E (S 0) (T 0) (nI (cdCurrent la cu)) b) ++ ((wS cA S y a q) ++ (wS cA T y a2 q2))) H := by rw [ec]; exact hP
      rw [hQQ]
      exact W.iret (v := 0) hx hb hr (fun t ht hW => ⟨⟨0, b, rfl, ⟨fun h9 => absurd (ecd.symm.trans h9) (by decide), fun _ => ⟨rfl, rfl⟩⟩, by show va_P _ _ _ t.heap; rw [ht]; exact hP⟩, hS.F ht⟩) hS.2.2 dX5_setCurrent_17
  rw [hg1, hg2] at hgoal
  exact hgoal

set_option maxHeartbeats 4000000 in
set_option maxRecDepth 100000 in
/-- weir -/
theorem K_X5_weir (lch : Launch) (D : va_G) (cA : ClassId) (y : Nat) (E : Nat → Nat) (S : Nat → Nat) (T : Nat → Nat) (th : Int32) (b : BSt) (a : FSt) (q : Nat → Int32) (a2 : FSt) (q2 : Nat → Int32) (pl : Int32) (v : Int32) (sz : Nat) (hwb : WFb b) : Met lch yX5_weir wsX5_weir ({ frames := 2, cells := 0, slots := 0, locals := 42 }) (Pr D cA [.ref y, .int pl, .int v] sz ((wM cA y E (S 0) (T 0) th b) ++ ((wS cA S y a q) ++ (wS cA T y a2 q2))) X0) (va_Qi (fun (r : Int32) (u : BSt) => (cdWeir b pl v = 0 → r = nI (bW b + 1) ∧ u = vW (vSp b (up (bSp b) (pl).toNatClampNeg v)) (bW b + 1)) ∧ (¬ cdWeir b pl v = 0 → r = 0 ∧ u = b)) (fun (u : BSt) t => va_P D vwCl ((wM cA y E (S 0) (T 0) (nI (cdWeir b pl v)) u) ++ ((wS cA S y a q) ++ (wS cA T y a2 q2))) t.heap) (va_A ((wM cA y E (S 0) (T 0) th b) ++ ((wS cA S y a q) ++ (wS cA T y a2 q2))) sz)) 0 0 (va_A ((wM cA y E (S 0) (T 0) th b) ++ ((wS cA S y a q) ++ (wS cA T y a2 q2))) sz) := by
  refine Met.ofW (cc := cX5_weir) (maxL := 3) (ret := (some .int)) (by decide) rfl ?_
  intro pg ev s mi args below meth cd s₁ B hml hv
  obtain ⟨hav, hsz, hP, hE, hD, hXs⟩ := hv
  have hx := B.exec
  have hb := B.bytes
  have hr := B.returns
  have hts := atoms_spec (ws := wsX5_weir) B.pre
  have hown : s.vm.findClass RX5 = some mi.cls := findClass_of_methodNamed B.named
  have hlocks := B.notSynchronized
  clear B
  subst hav
  subst hsz
  have hD := hD.self (sz := s.heap.size)
  generalize hAe : va_A ((wM cA y E (S 0) (T 0) th b) ++ ((wS cA S y a q) ++ (wS cA T y a2 q2))) s.heap.size = A at hD ⊢
  have hA : ∀ q : Nat, s.heap.size ≤ q → A q := fun q h => by rw [← hAe]; exact Or.inr h
  have hS : va_S A s.heap s.heap [] := va_S.rf
  obtain ⟨QQ, hQQ⟩ : ∃ qq9, qq9 = MQ below (va_Qi (fun (r : Int32) (u : BSt) => (cdWeir b pl v = 0 → r = nI (bW b + 1) ∧ u = vW (vSp b (up (bSp b) (pl).toNatClampNeg v)) (bW b + 1)) ∧ (¬ cdWeir b pl v = 0 → r = 0 ∧ u = b)) (fun (u : BSt) t => va_P D vwCl ((wM cA y E (S 0) (T 0) (nI (cdWeir b pl v)) u) ++ ((wS cA S y a q) ++ (wS cA T y a2 q2))) t.heap) A) ([.ref y, .int pl, .int v] : List Value).toArray s 0 0 A := ⟨_, rfl⟩
  rw [← hQQ]
  have hl := lv_entry ([.ref y, .int pl, .int v]) (n := 3) (Nat.le_of_ble_eq_true rfl)
  rw [lg_entry_eq]
  generalize (lg_sl ([.ref y, .int pl, .int v]) ++ List.replicate (3 - (lg_sl ([.ref y, .int pl, .int v])).length) Slot.unset).toArray = ls at hl ⊢
  have hl : lv_has ls 3 [(0, .ref y), (1, .int pl), (2, .int v)] := hl
  have kf31 := hts (.fieldLink RX5 31 "LanternWeirsModel" "thrown" "I") (by decide +kernel)
  have inX5 : ∀ w ∈ u_ws RX5 TX5 8, w ∈ wsX5_weir := by decide +kernel
  have kf53 := hts (.fieldLink RX5 53 "LanternWeirsModel" "weirs" "I") (by decide +kernel)
  have kf13 := hts (.fieldLink RX5 13 "LanternWeirsModel" "spray" "[I") (by decide +kernel)
  obtain ⟨H, locs, hP, hS, hgo⟩ : ∃ H locs, va_P D vwCl ((wM cA y E (S 0) (T 0) th b) ++ ((wS cA S y a q) ++ (wS cA T y a2 q2))) H ∧ va_S A s.heap H locs ∧ (H = s.heap ∧ locs = []) := ⟨_, _, hP, hS, rfl, rfl⟩
  obtain ⟨hg1, hg2⟩ := hgo
  have hgoal : W pg lch ev (headSpec wsX5_weir ({ frames := 2, cells := 0, slots := 0, locals := 42 })).room s mi ([.ref y, .int pl, .int v] : List Value).toArray below meth cd H locs 0 0 QQ (F0 mi 0 ls []) := by
    have hw6 := hwb.2.1
    refine lv_aload_n hx hb dX5_weir_0 rfl (lv_at hl 0 rfl) ?_
    refine lv_iconst (v := 0) hx hb dX5_weir_1 (by decide) ?_
    refine va_put (D := D) (ci := 5) (v := .int 0) (ty := .int) (C := RX5) (T := TX5) (N := 8) hx hb hts inX5 tyX5 tyX5_ok nmX5 hown hE.1 hP hD hS 0 rfl rfl 0 (by decide) kf31 (fun _ h9 => h9) rfl (by decide +kernel) rfl rfl (Nat.le_of_ble_eq_true rfl) dX5_weir_2 (fun H locs hP hD hS => ?_)
    have hP : va_P D vwCl ((wM cA y E (S 0) (T 0) 0 b) ++ ((wS cA S y a q) ++ (wS cA T y a2 q2))) H := hP
    have hD : va_D A ((wM cA y E (S 0) (T 0) 0 b) ++ ((wS cA S y a q) ++ (wS cA T y a2 q2))) := hD
    refine lv_iload_n hx hb dX5_weir_5 rfl (lv_at hl 1 rfl) ?_
    refine pSi (As := [.int pl]) (rest := []) (wc := ([] : va_W)) ⟨hx, hb, hml, hown, hts⟩ (K_X5_isPlace lch D cA pl H.size ) (cwS 1 hts gX5_weir_X5_isPlace rfl rfl rfl (by decide +kernel) ⟨Nat.le_of_ble_eq_true rfl, Nat.le_of_ble_eq_true rfl⟩) hE hP hD hS hA [] rfl rfl X0.blind (fun _ _ _ => trivial) hl.1 rfl rfl (Nat.le_of_ble_eq_true rfl) dX5_weir_6 ⟨Nat.zero_le _, Nat.zero_le _⟩ (fun r_1 u_2 H locs h_3 hP hS => ?_)
    subst h_3
    refine lv_if_eq (tgt := 16) hx hb dX5_weir_9 (by decide) (fun c9 => ?_) (fun c9 => ?_)
    · skip
      have c9 := bi_0.mp c9
      refine lv_aload_n hx hb dX5_weir_16 rfl (lv_at hl 0 rfl) ?_
      refine lv_iconst (v := 1) hx hb dX5_weir_17 (by decide) ?_
      refine cVi (wB := fun (u_5 : Unit) => ((wM cA y E (S 0) (T 0) 1 b) ++ ((wS cA S y a q) ++ (wS cA T y a2 q2)))) (As := [.int 1]) (rest := []) (wc := ((wM cA y E (S 0) (T 0) 0 b) ++ ((wS cA S y a q) ++ (wS cA T y a2 q2)))) ⟨hx, hb, hml, hown, hts⟩ (K_X5_no lch D cA y E S T 0 b a q a2 q2 1 H.size ) (cwV 1 hts gX5_weir_X5_no rfl rfl rfl (by decide +kernel) ⟨Nat.le_of_ble_eq_true rfl, Nat.le_of_ble_eq_true rfl⟩) hE hP hD hS hA [0, 1, 2, 3, 4, 5, 6, 7, 8, 9, 10, 11, 12, 13, 14, 15, 16, 17, 18, 19, 20, 21, 22, 23, 24, 25] rfl rfl [y, E 0, E 1, E 2, S 0, S 1, S 2, S 3, S 4, S 5, S 6, S 7, S 8, S 9, S 10, T 0, T 1, T 2, T 3, T 4, T 5, T 6, T 7, T 8, T 9, T 10] (fun _ => rfl) rfl (fun (u_5 : Unit) => ((wM cA y E (S 0) (T 0) 1 b) ++ ((wS cA S y a q) ++ (wS cA T y a2 q2)))) (fun _ => pst_all 26 rfl rfl rfl) X0.blind (fun _ _ _ => trivial) 0 5 rfl rfl rfl hl.1 rfl rfl (Nat.le_of_ble_eq_true rfl) dX5_weir_18 ⟨Nat.zero_le _, Nat.zero_le _⟩ (fun r_4 u_5 H locs h_6 hP hD hS => ?_)
      subst h_6
      have ecd : cdWeir b pl v = 1 := by unfold cdWeir; rw [if_pos (isW_no c9)]
      have ec : nI (cdWeir b pl v) = 1 := by rw [ecd]; rfl
      have hP : va_P D vwCl ((wM cA y E (S 0) (T 0) (nI (cdWeir b pl v)) b) ++ ((wS cA S y a q) ++ (wS cA T y a2 q2))) H := by rw [ec]; exact hP
      rw [hQQ]
      exact W.iret (v := 0) hx hb hr (fun t ht hW => ⟨⟨0, b, rfl, ⟨fun h9 => absurd (ecd.symm.trans h9) (by decide), fun _ => ⟨rfl, rfl⟩⟩, by show va_P _ _ _ t.heap; rw [ht]; exact hP⟩, hS.F ht⟩) hS.2.2 dX5_weir_21
    · skip
      have c9 := bi_1.mp c9
      obtain ⟨pln, hpl9, epl⟩ := isW_nat (n := 59) c9 (by decide)
      subst epl
      refine lv_iload_n hx hb dX5_weir_12 rfl (lv_at hl 1 rfl) ?_
      refine lv_if_ne (tgt := 22) hx hb dX5_weir_13 (by decide) (fun c13 => ?_) (fun c13 => ?_)
      · skip
        have c13 := (not_congr (nI_eq (a := pln) (b := 0) (by omega) (by omega))).mp c13
        have hpl1 : isW (nI pln) 1 59 = true := isW_1 (n := 59) (by omega) (by omega) (by decide)
        refine lv_iload_n hx hb dX5_weir_22 rfl (lv_at hl 2 rfl) ?_
        refine lv_iconst (v := 1) hx hb dX5_weir_23 (by decide) ?_
        refine lv_bipush (v := 9) hx hb dX5_weir_24 (by decide) ?_
        refine pSi (As := [.int v, .int 1, .int 9]) (rest := []) (wc := ([] : va_W)) ⟨hx, hb, hml, hown, hts⟩ (K_X5_isIn lch D cA v 1 9 H.size ) (cwS 3 hts gX5_weir_X5_isIn rfl rfl rfl (by decide +kernel) ⟨Nat.le_of_ble_eq_true rfl, Nat.le_of_ble_eq_true rfl⟩) hE hP hD hS hA [] rfl rfl X0.blind (fun _ _ _ => trivial) hl.1 rfl rfl (Nat.le_of_ble_eq_true rfl) dX5_weir_26 ⟨Nat.zero_le _, Nat.zero_le _⟩ (fun r_7 u_8 H locs h_9 hP hS => ?_)
        subst h_9
        refine lv_if_ne (tgt := 38) hx hb dX5_weir_29 (by decide) (fun c29 => ?_) (fun c29 => ?_)
        · skip
          have c29 := bi_1.mp c29
          refine lv_aload_n hx hb dX5_weir_38 rfl (lv_at hl 0 rfl) ?_
          refine va_get (D := D) (ci := 5) (v := .int (nI (bW b))) (C := RX5) (T := TX5) (N := 8) hx hb hts inX5 hown hE.1 hP 0 rfl rfl 2 (by decide) kf53 (fun _ h9 => h9) rfl dX5_weir_39 ?_
          refine lv_bipush (v := 6) hx hb dX5_weir_42 (by decide) ?_
          refine lv_icmp_eq (tgt := 56) hx hb dX5_weir_44 (by decide) (fun c44 => ?_) (fun c44 => ?_)
          · skip
            have c44 := (nI_eq (a := bW b) (b := 6) (by omega) (by omega)).mp c44
            refine lv_aload_n hx hb dX5_weir_56 rfl (lv_at hl 0 rfl) ?_
            refine lv_iconst (v := 3) hx hb dX5_weir_57 (by decide) ?_
            refine cVi (wB := fun (u_11 : Unit) => ((wM cA y E (S 0) (T 0) 3 b) ++ ((wS cA S y a q) ++ (wS cA T y a2 q2)))) (As := [.int 3]) (rest := []) (wc := ((wM cA y E (S 0) (T 0) 0 b) ++ ((wS cA S y a q) ++ (wS cA T y a2 q2)))) ⟨hx, hb, hml, hown, hts⟩ (K_X5_no lch D cA y E S T 0 b a q a2 q2 3 H.size ) (cwV 1 hts gX5_weir_X5_no rfl rfl rfl (by decide +kernel) ⟨Nat.le_of_ble_eq_true rfl, Nat.le_of_ble_eq_true rfl⟩) hE hP hD hS hA [0, 1, 2, 3, 4, 5, 6, 7, 8, 9, 10, 11, 12, 13, 14, 15, 16, 17, 18, 19, 20, 21, 22, 23, 24, 25] rfl rfl [y, E 0, E 1, E 2, S 0, S 1, S 2, S 3, S 4, S 5, S 6, S 7, S 8, S 9, S 10, T 0, T 1, T 2, T 3, T 4, T 5, T 6, T 7, T 8, T 9, T 10] (fun _ => rfl) rfl (fun (u_11 : Unit) => ((wM cA y E (S 0) (T 0) 3 b) ++ ((wS cA S y a q) ++ (wS cA T y a2 q2)))) (fun _ => pst_all 26 rfl rfl rfl) X0.blind (fun _ _ _ => trivial) 0 5 rfl rfl rfl hl.1 rfl rfl (Nat.le_of_ble_eq_true rfl) dX5_weir_58 ⟨Nat.zero_le _, Nat.zero_le _⟩ (fun r_10 u_11 H locs h_12 hP hD hS => ?_)
            subst h_12
            have ecd : cdWeir b (nI pln) v = 3 := by unfold cdWeir; rw [if_neg (by simp [hpl1]), if_neg (by simp [c29]), if_pos (Or.inl (by omega))]
            have ec : nI (cdWeir b (nI pln) v) = 3 := by rw [ecd]; rfl
            have hP : va_P D vwCl ((wM cA y E (S 0) (T 0) (nI (cdWeir b (nI pln) v)) b) ++ ((wS cA S y a q) ++ (wS cA T y a2 q2))) H := by rw [ec]; exact hP
            rw [hQQ]
            exact W.iret (v := 0) hx hb hr (fun t ht hW => ⟨⟨0, b, rfl, ⟨fun h9 => absurd (ecd.symm.trans h9) (by decide), fun _ => ⟨rfl, rfl⟩⟩, by show va_P _ _ _ t.heap; rw [ht]; exact hP⟩, hS.F ht⟩) hS.2.2 dX5_weir_61
          · skip
            have c44 := (not_congr (nI_eq (a := bW b) (b := 6) (by omega) (by omega))).mp c44
            refine lv_aload_n hx hb dX5_weir_47 rfl (lv_at hl 0 rfl) ?_
            refine va_get (D := D) (ci := 5) (v := .ref (E 1)) (C := RX5) (T := TX5) (N := 8) hx hb hts inX5 hown hE.1 hP 0 rfl rfl 3 (by decide) kf13 (fun _ h9 => h9) rfl dX5_weir_48 ?_
            refine lv_iload_n hx hb dX5_weir_51 rfl (lv_at hl 1 rfl) ?_
            refine ald hx hb hE hP 2 rfl (k := pln) (by omega) (Nat.le_of_ble_eq_true rfl) (v := bSp b pln) rfl dX5_weir_52 ?_
            refine lv_if_le (tgt := 62) hx hb dX5_weir_53 (by decide) (fun c53 => ?_) (fun c53 => ?_)
            · skip
              refine lv_aload_n hx hb dX5_weir_62 rfl (lv_at hl 0 rfl) ?_
              refine va_get (D := D) (ci := 5) (v := .ref (E 1)) (C := RX5) (T := TX5) (N := 8) hx hb hts inX5 hown hE.1 hP 0 rfl rfl 3 (by decide) kf13 (fun _ h9 => h9) rfl dX5_weir_63 ?_
              refine lv_iload_n hx hb dX5_weir_66 rfl (lv_at hl 1 rfl) ?_
              refine lv_iload_n hx hb dX5_weir_67 rfl (lv_at hl 2 rfl) ?_
              refine ast hx hb hE hP hD hS 2 rfl (k := pln) (by omega) (Nat.le_of_ble_eq_true rfl) (bSp (vSp b (up (bSp b) pln v))) (fun j _ => upd_I j) dX5_weir_68 (fun H locs hP hD hS => ?_)
              have hP : va_P D vwCl ((wM cA y E (S 0) (T 0) 0 (vSp b (up (bSp b) pln v))) ++ ((wS cA S y a q) ++ (wS cA T y a2 q2))) H := hP
              have hD : va_D A ((wM cA y E (S 0) (T 0) 0 (vSp b (up (bSp b) pln v))) ++ ((wS cA S y a q) ++ (wS cA T y a2 q2))) := hD
              refine lv_aload_n hx hb dX5_weir_69 rfl (lv_at hl 0 rfl) ?_
              refine lv_dup hx hb dX5_weir_70 rfl ?_
              refine va_get (D := D) (ci := 5) (v := .int (nI (bW (vSp b (up (bSp b) pln v))))) (C := RX5) (T := TX5) (N := 8) hx hb hts inX5 hown hE.1 hP 0 rfl rfl 2 (by decide) kf53 (fun _ h9 => h9) rfl dX5_weir_71 ?_
              refine lv_iconst (v := 1) hx hb dX5_weir_74 (by decide) ?_
              refine lv_iadd hx hb dX5_weir_75 ?_
              refine top_i (y := nI ((bW (vSp b (up (bSp b) pln v))) + 1)) (nI_add _ _) ?_
              refine va_put (D := D) (ci := 5) (v := .int (nI ((bW (vSp b (up (bSp b) pln v))) + 1))) (ty := .int) (C := RX5) (T := TX5) (N := 8) hx hb hts inX5 tyX5 tyX5_ok nmX5 hown hE.1 hP hD hS 0 rfl rfl 2 (by decide) kf53 (fun _ h9 => h9) rfl (by decide +kernel) rfl rfl (Nat.le_of_ble_eq_true rfl) dX5_weir_76 (fun H locs hP hD hS => ?_)
              have hP : va_P D vwCl ((wM cA y E (S 0) (T 0) 0 (vW (vSp b (up (bSp b) pln v)) (bW b + 1))) ++ ((wS cA S y a q) ++ (wS cA T y a2 q2))) H := hP
              have hD : va_D A ((wM cA y E (S 0) (T 0) 0 (vW (vSp b (up (bSp b) pln v)) (bW b + 1))) ++ ((wS cA S y a q) ++ (wS cA T y a2 q2))) := hD
              refine lv_aload_n hx hb dX5_weir_79 rfl (lv_at hl 0 rfl) ?_
              refine va_get (D := D) (ci := 5) (v := .int (nI (bW (vW (vSp b (up (bSp b) pln v)) (bW b + 1))))) (C := RX5) (T := TX5) (N := 8) hx hb hts inX5 hown hE.1 hP 0 rfl rfl 2 (by decide) kf53 (fun _ h9 => h9) rfl dX5_weir_80 ?_
              have ecd : cdWeir b (nI pln) v = 0 := by unfold cdWeir; rw [if_neg (by simp [hpl1]), if_neg (by simp [c29]), if_neg (fun q => q.elim (fun q => by omega) (fun q => by rw [nI_clamp (by omega)] at q; exact nlt0.mp c53 q))]
              have ec : nI (cdWeir b (nI pln) v) = 0 := by rw [ecd]; rfl
              have ew0 : vW (vSp b (up (bSp b) ((nI pln).toNatClampNeg) v)) (bW b + 1) = vW (vSp b (up (bSp b) pln v)) (bW b + 1) := by rw [nI_clamp (by omega)]
              have hP : va_P D vwCl ((wM cA y E (S 0) (T 0) (nI (cdWeir b (nI pln) v)) (vW (vSp b (up (bSp b) (nI pln).toNatClampNeg v)) (bW b + 1))) ++ ((wS cA S y a q) ++ (wS cA T y a2 q2))) H := by rw [ec, ew0]; exact hP
              rw [hQQ]
              exact W.iret (v := nI (bW (vW (vSp b (up (bSp b) pln v)) (bW b + 1)))) hx hb hr (fun t ht hW => ⟨⟨nI (bW (vW (vSp b (up (bSp b) pln v)) (bW b + 1))), vW (vSp b (up (bSp b) (nI pln).toNatClampNeg v)) (bW b + 1), rfl, ⟨fun _ => ⟨rfl, rfl⟩, fun h9 => absurd ecd h9⟩, by show va_P _ _ _ t.heap; rw [ht]; exact hP⟩, hS.F ht⟩) hS.2.2 dX5_weir_83
            · skip
              refine lv_aload_n hx hb dX5_weir_56 rfl (lv_at hl 0 rfl) ?_
              refine lv_iconst (v := 3) hx hb dX5_weir_57 (by decide) ?_
              refine cVi (wB := fun (u_14 : Unit) => ((wM cA y E (S 0) (T 0) 3 b) ++ ((wS cA S y a q) ++ (wS cA T y a2 q2)))) (As := [.int 3]) (rest := []) (wc := ((wM cA y E (S 0) (T 0) 0 b) ++ ((wS cA S y a q) ++ (wS cA T y a2 q2)))) ⟨hx, hb, hml, hown, hts⟩ (K_X5_no lch D cA y E S T 0 b a q a2 q2 3 H.size ) (cwV 1 hts gX5_weir_X5_no rfl rfl rfl (by decide +kernel) ⟨Nat.le_of_ble_eq_true rfl, Nat.le_of_ble_eq_true rfl⟩) hE hP hD hS hA [0, 1, 2, 3, 4, 5, 6, 7, 8, 9, 10, 11, 12, 13, 14, 15, 16, 17, 18, 19, 20, 21, 22, 23, 24, 25] rfl rfl [y, E 0, E 1, E 2, S 0, S 1, S 2, S 3, S 4, S 5, S 6, S 7, S 8, S 9, S 10, T 0, T 1, T 2, T 3, T 4, T 5, T 6, T 7, T 8, T 9, T 10] (fun _ => rfl) rfl (fun (u_14 : Unit) => ((wM cA y E (S 0) (T 0) 3 b) ++ ((wS cA S y a q) ++ (wS cA T y a2 q2)))) (fun _ => pst_all 26 rfl rfl rfl) X0.blind (fun _ _ _ => trivial) 0 5 rfl rfl rfl hl.1 rfl rfl (Nat.le_of_ble_eq_true rfl) dX5_weir_58 ⟨Nat.zero_le _, Nat.zero_le _⟩ (fun r_13 u_14 H locs h_15 hP hD hS => ?_)
              subst h_15
              have ecd : cdWeir b (nI pln) v = 3 := by unfold cdWeir; rw [if_neg (by simp [hpl1]), if_neg (by simp [c29]), if_pos (Or.inr (by rw [nI_clamp (by omega)]; exact (nle_iff _ _).mp c53))]
              have ec : nI (cdWeir b (nI pln) v) = 3 := by rw [ecd]; rfl
              have hP : va_P D vwCl ((wM cA y E (S 0) (T 0) (nI (cdWeir b (nI pln) v)) b) ++ ((wS cA S y a q) ++ (wS cA T y a2 q2))) H := by rw [ec]; exact hP
              rw [hQQ]
              exact W.iret (v := 0) hx hb hr (fun t ht hW => ⟨⟨0, b, rfl, ⟨fun h9 => absurd (ecd.symm.trans h9) (by decide), fun _ => ⟨rfl, rfl⟩⟩, by show va_P _ _ _ t.heap; rw [ht]; exact hP⟩, hS.F ht⟩) hS.2.2 dX5_weir_61
        · skip
          have c29 := bi_0.mp c29
          refine lv_aload_n hx hb dX5_weir_32 rfl (lv_at hl 0 rfl) ?_
          refine lv_iconst (v := 2) hx hb dX5_weir_33 (by decide) ?_
          refine cVi (wB := fun (u_17 : Unit) => ((wM cA y E (S 0) (T 0) 2 b) ++ ((wS cA S y a q) ++ (wS cA T y a2 q2)))) (As := [.int 2]) (rest := []) (wc := ((wM cA y E (S 0) (T 0) 0 b) ++ ((wS cA S y a q) ++ (wS cA T y a2 q2)))) ⟨hx, hb, hml, hown, hts⟩ (K_X5_no lch D cA y E S T 0 b a q a2 q2 2 H.size ) (cwV 1 hts gX5_weir_X5_no rfl rfl rfl (by decide +kernel) ⟨Nat.le_of_ble_eq_true rfl, Nat.le_of_ble_eq_true rfl⟩) hE hP hD hS hA [0, 1, 2, 3, 4, 5, 6, 7, 8, 9, 10, 11, 12, 13, 14, 15, 16, 17, 18, 19, 20, 21, 22, 23, 24, 25] rfl rfl [y, E 0, E 1, E 2, S 0, S 1, S 2, S 3, S 4, S 5, S 6, S 7, S 8, S 9, S 10, T 0, T 1, T 2, T 3, T 4, T 5, T 6, T 7, T 8, T 9, T 10] (fun _ => rfl) rfl (fun (u_17 : Unit) => ((wM cA y E (S 0) (T 0) 2 b) ++ ((wS cA S y a q) ++ (wS cA T y a2 q2)))) (fun _ => pst_all 26 rfl rfl rfl) X0.blind (fun _ _ _ => trivial) 0 5 rfl rfl rfl hl.1 rfl rfl (Nat.le_of_ble_eq_true rfl) dX5_weir_34 ⟨Nat.zero_le _, Nat.zero_le _⟩ (fun r_16 u_17 H locs h_18 hP hD hS => ?_)
          subst h_18
          have ecd : cdWeir b (nI pln) v = 2 := by unfold cdWeir; rw [if_neg (by simp [hpl1]), if_pos c29]
          have ec : nI (cdWeir b (nI pln) v) = 2 := by rw [ecd]; rfl
          have hP : va_P D vwCl ((wM cA y E (S 0) (T 0) (nI (cdWeir b (nI pln) v)) b) ++ ((wS cA S y a q) ++ (wS cA T y a2 q2))) H := by rw [ec]; exact hP
          rw [hQQ]
          exact W.iret (v := 0) hx hb hr (fun t ht hW => ⟨⟨0, b, rfl, ⟨fun h9 => absurd (ecd.symm.trans h9) (by decide), fun _ => ⟨rfl, rfl⟩⟩, by show va_P _ _ _ t.heap; rw [ht]; exact hP⟩, hS.F ht⟩) hS.2.2 dX5_weir_37
      · skip
        have c13 := (nI_eq (a := pln) (b := 0) (by omega) (by omega)).mp c13
        refine lv_aload_n hx hb dX5_weir_16 rfl (lv_at hl 0 rfl) ?_
        refine lv_iconst (v := 1) hx hb dX5_weir_17 (by decide) ?_
        refine cVi (wB := fun (u_20 : Unit) => ((wM cA y E (S 0) (T 0) 1 b) ++ ((wS cA S y a q) ++ (wS cA T y a2 q2)))) (As := [.int 1]) (rest := []) (wc := ((wM cA y E (S 0) (T 0) 0 b) ++ ((wS cA S y a q) ++ (wS cA T y a2 q2)))) ⟨hx, hb, hml, hown, hts⟩ (K_X5_no lch D cA y E S T 0 b a q a2 q2 1 H.size ) (cwV 1 hts gX5_weir_X5_no rfl rfl rfl (by decide +kernel) ⟨Nat.le_of_ble_eq_true rfl, Nat.le_of_ble_eq_true rfl⟩) hE hP hD hS hA [0, 1, 2, 3, 4, 5, 6, 7, 8, 9, 10, 11, 12, 13, 14, 15, 16, 17, 18, 19, 20, 21, 22, 23, 24, 25] rfl rfl [y, E 0, E 1, E 2, S 0, S 1, S 2, S 3, S 4, S 5, S 6, S 7, S 8, S 9, S 10, T 0, T 1, T 2, T 3, T 4, T 5, T 6, T 7, T 8, T 9, T 10] (fun _ => rfl) rfl (fun (u_20 : Unit) => ((wM cA y E (S 0) (T 0) 1 b) ++ ((wS cA S y a q) ++ (wS cA T y a2 q2)))) (fun _ => pst_all 26 rfl rfl rfl) X0.blind (fun _ _ _ => trivial) 0 5 rfl rfl rfl hl.1 rfl rfl (Nat.le_of_ble_eq_true rfl) dX5_weir_18 ⟨Nat.zero_le _, Nat.zero_le _⟩ (fun r_19 u_20 H locs h_21 hP hD hS => ?_)
        subst h_21
        have ecd : cdWeir b (nI pln) v = 1 := by unfold cdWeir; rw [if_pos (by rw [c13]; decide)]
        have ec : nI (cdWeir b (nI pln) v) = 1 := by rw [ecd]; rfl
        have hP : va_P D vwCl ((wM cA y E (S 0) (T 0) (nI (cdWeir b (nI pln) v)) b) ++ ((wS cA S y a q) ++ (wS cA T y a2 q2))) H := by rw [ec]; exact hP
        rw [hQQ]
        exact W.iret (v := 0) hx hb hr (fun t ht hW => ⟨⟨0, b, rfl, ⟨fun h9 => absurd (ecd.symm.trans h9) (by decide), fun _ => ⟨rfl, rfl⟩⟩, by show va_P _ _ _ t.heap; rw [ht]; exact hP⟩, hS.F ht⟩) hS.2.2 dX5_weir_21
  rw [hg1, hg2] at hgoal
  exact hgoal

set_option maxHeartbeats 4000000 in
set_option maxRecDepth 100000 in
/-- net -/
theorem K_X5_net (lch : Launch) (D : va_G) (cA : ClassId) (y : Nat) (E : Nat → Nat) (S : Nat → Nat) (T : Nat → Nat) (th : Int32) (b : BSt) (a : FSt) (q : Nat → Int32) (a2 : FSt) (q2 : Nat → Int32) (la : Int32) (pl : Int32) (sz : Nat) (hwb : WFb b) : Met lch yX5_net wsX5_net ({ frames := 2, cells := 0, slots := 0, locals := 42 }) (Pr D cA [.ref y, .int la, .int pl] sz ((wM cA y E (S 0) (T 0) th b) ++ ((wS cA S y a q) ++ (wS cA T y a2 q2))) X0) (va_Qi (fun (r : Int32) (u : BSt) => (cdNet b la pl = 0 → r = nI (bK b + 1) ∧ u = vK (vNe b (up (bNe b) ((la).toNatClampNeg * 60 + (pl).toNatClampNeg) true)) (bK b + 1)) ∧ (¬ cdNet b la pl = 0 → r = 0 ∧ u = b)) (fun (u : BSt) t => va_P D vwCl ((wM cA y E (S 0) (T 0) (nI (cdNet b la pl)) u) ++ ((wS cA S y a q) ++ (wS cA T y a2 q2))) t.heap) (va_A ((wM cA y E (S 0) (T 0) th b) ++ ((wS cA S y a q) ++ (wS cA T y a2 q2))) sz)) 0 0 (va_A ((wM cA y E (S 0) (T 0) th b) ++ ((wS cA S y a q) ++ (wS cA T y a2 q2))) sz) := by
  refine Met.ofW (cc := cX5_net) (maxL := 3) (ret := (some .int)) (by decide) rfl ?_
  intro pg ev s mi args below meth cd s₁ B hml hv
  obtain ⟨hav, hsz, hP, hE, hD, hXs⟩ := hv
  have hx := B.exec
  have hb := B.bytes
  have hr := B.returns
  have hts := atoms_spec (ws := wsX5_net) B.pre
  have hown : s.vm.findClass RX5 = some mi.cls := findClass_of_methodNamed B.named
  have hlocks := B.notSynchronized
  clear B
  subst hav
  subst hsz
  have hD := hD.self (sz := s.heap.size)
  generalize hAe : va_A ((wM cA y E (S 0) (T 0) th b) ++ ((wS cA S y a q) ++ (wS cA T y a2 q2))) s.heap.size = A at hD ⊢
  have hA : ∀ q : Nat, s.heap.size ≤ q → A q := fun q h => by rw [← hAe]; exact Or.inr h
  have hS : va_S A s.heap s.heap [] := va_S.rf
  obtain ⟨QQ, hQQ⟩ : ∃ qq9, qq9 = MQ below (va_Qi (fun (r : Int32) (u : BSt) => (cdNet b la pl = 0 → r = nI (bK b + 1) ∧ u = vK (vNe b (up (bNe b) ((la).toNatClampNeg * 60 + (pl).toNatClampNeg) true)) (bK b + 1)) ∧ (¬ cdNet b la pl = 0 → r = 0 ∧ u = b)) (fun (u : BSt) t => va_P D vwCl ((wM cA y E (S 0) (T 0) (nI (cdNet b la pl)) u) ++ ((wS cA S y a q) ++ (wS cA T y a2 q2))) t.heap) A) ([.ref y, .int la, .int pl] : List Value).toArray s 0 0 A := ⟨_, rfl⟩
  rw [← hQQ]
  have hl := lv_entry ([.ref y, .int la, .int pl]) (n := 3) (Nat.le_of_ble_eq_true rfl)
  rw [lg_entry_eq]
  generalize (lg_sl ([.ref y, .int la, .int pl]) ++ List.replicate (3 - (lg_sl ([.ref y, .int la, .int pl])).length) Slot.unset).toArray = ls at hl ⊢
  have hl : lv_has ls 3 [(0, .ref y), (1, .int la), (2, .int pl)] := hl
  have kf31 := hts (.fieldLink RX5 31 "LanternWeirsModel" "thrown" "I") (by decide +kernel)
  have inX5 : ∀ w ∈ u_ws RX5 TX5 8, w ∈ wsX5_net := by decide +kernel
  have kf56 := hts (.fieldLink RX5 56 "LanternWeirsModel" "nets" "I") (by decide +kernel)
  have kf16 := hts (.fieldLink RX5 16 "LanternWeirsModel" "net" "[I") (by decide +kernel)
  obtain ⟨H, locs, hP, hS, hgo⟩ : ∃ H locs, va_P D vwCl ((wM cA y E (S 0) (T 0) th b) ++ ((wS cA S y a q) ++ (wS cA T y a2 q2))) H ∧ va_S A s.heap H locs ∧ (H = s.heap ∧ locs = []) := ⟨_, _, hP, hS, rfl, rfl⟩
  obtain ⟨hg1, hg2⟩ := hgo
  have hgoal : W pg lch ev (headSpec wsX5_net ({ frames := 2, cells := 0, slots := 0, locals := 42 })).room s mi ([.ref y, .int la, .int pl] : List Value).toArray below meth cd H locs 0 0 QQ (F0 mi 0 ls []) := by
    have hk4 := hwb.2.2
    refine lv_aload_n hx hb dX5_net_0 rfl (lv_at hl 0 rfl) ?_
    refine lv_iconst (v := 0) hx hb dX5_net_1 (by decide) ?_
    refine va_put (D := D) (ci := 5) (v := .int 0) (ty := .int) (C := RX5) (T := TX5) (N := 8) hx hb hts inX5 tyX5 tyX5_ok nmX5 hown hE.1 hP hD hS 0 rfl rfl 0 (by decide) kf31 (fun _ h9 => h9) rfl (by decide +kernel) rfl rfl (Nat.le_of_ble_eq_true rfl) dX5_net_2 (fun H locs hP hD hS => ?_)
    have hP : va_P D vwCl ((wM cA y E (S 0) (T 0) 0 b) ++ ((wS cA S y a q) ++ (wS cA T y a2 q2))) H := hP
    have hD : va_D A ((wM cA y E (S 0) (T 0) 0 b) ++ ((wS cA S y a q) ++ (wS cA T y a2 q2))) := hD
    refine lv_iload_n hx hb dX5_net_5 rfl (lv_at hl 1 rfl) ?_
    refine pSi (As := [.int la]) (rest := []) (wc := ([] : va_W)) ⟨hx, hb, hml, hown, hts⟩ (K_X5_isLane lch D cA la H.size ) (cwS 1 hts gX5_net_X5_isLane rfl rfl rfl (by decide +kernel) ⟨Nat.le_of_ble_eq_true rfl, Nat.le_of_ble_eq_true rfl⟩) hE hP hD hS hA [] rfl rfl X0.blind (fun _ _ _ => trivial) hl.1 rfl rfl (Nat.le_of_ble_eq_true rfl) dX5_net_6 ⟨Nat.zero_le _, Nat.zero_le _⟩ (fun r_1 u_2 H locs h_3 hP hS => ?_)
    subst h_3
    refine lv_if_eq (tgt := 23) hx hb dX5_net_9 (by decide) (fun c9 => ?_) (fun c9 => ?_)
    · skip
      have c9 := bi_0.mp c9
      refine lv_aload_n hx hb dX5_net_23 rfl (lv_at hl 0 rfl) ?_
      refine lv_iconst (v := 1) hx hb dX5_net_24 (by decide) ?_
      refine cVi (wB := fun (u_5 : Unit) => ((wM cA y E (S 0) (T 0) 1 b) ++ ((wS cA S y a q) ++ (wS cA T y a2 q2)))) (As := [.int 1]) (rest := []) (wc := ((wM cA y E (S 0) (T 0) 0 b) ++ ((wS cA S y a q) ++ (wS cA T y a2 q2)))) ⟨hx, hb, hml, hown, hts⟩ (K_X5_no lch D cA y E S T 0 b a q a2 q2 1 H.size ) (cwV 1 hts gX5_net_X5_no rfl rfl rfl (by decide +kernel) ⟨Nat.le_of_ble_eq_true rfl, Nat.le_of_ble_eq_true rfl⟩) hE hP hD hS hA [0, 1, 2, 3, 4, 5, 6, 7, 8, 9, 10, 11, 12, 13, 14, 15, 16, 17, 18, 19, 20, 21, 22, 23, 24, 25] rfl rfl [y, E 0, E 1, E 2, S 0, S 1, S 2, S 3, S 4, S 5, S 6, S 7, S 8, S 9, S 10, T 0, T 1, T 2, T 3, T 4, T 5, T 6, T 7, T 8, T 9, T 10] (fun _ => rfl) rfl (fun (u_5 : Unit) => ((wM cA y E (S 0) (T 0) 1 b) ++ ((wS cA S y a q) ++ (wS cA T y a2 q2)))) (fun _ => pst_all 26 rfl rfl rfl) X0.blind (fun _ _ _ => trivial) 0 5 rfl rfl rfl hl.1 rfl rfl (Nat.le_of_ble_eq_true rfl) dX5_net_25 ⟨Nat.zero_le _, Nat.zero_le _⟩ (fun r_4 u_5 H locs h_6 hP hD hS => ?_)
      subst h_6
      have ecd : cdNet b la pl = 1 := by unfold cdNet; rw [if_pos (Or.inl c9)]
      have ec : nI (cdNet b la pl) = 1 := by rw [ecd]; rfl
      have hP : va_P D vwCl ((wM cA y E (S 0) (T 0) (nI (cdNet b la pl)) b) ++ ((wS cA S y a q) ++ (wS cA T y a2 q2))) H := by rw [ec]; exact hP
      rw [hQQ]
      exact W.iret (v := 0) hx hb hr (fun t ht hW => ⟨⟨0, b, rfl, ⟨fun h9 => absurd (ecd.symm.trans h9) (by decide), fun _ => ⟨rfl, rfl⟩⟩, by show va_P _ _ _ t.heap; rw [ht]; exact hP⟩, hS.F ht⟩) hS.2.2 dX5_net_28
    · skip
      have c9 := bi_1.mp c9
      refine lv_iload_n hx hb dX5_net_12 rfl (lv_at hl 2 rfl) ?_
      refine pSi (As := [.int pl]) (rest := []) (wc := ([] : va_W)) ⟨hx, hb, hml, hown, hts⟩ (K_X5_isPlace lch D cA pl H.size ) (cwS 1 hts gX5_net_X5_isPlace rfl rfl rfl (by decide +kernel) ⟨Nat.le_of_ble_eq_true rfl, Nat.le_of_ble_eq_true rfl⟩) hE hP hD hS hA [] rfl rfl X0.blind (fun _ _ _ => trivial) hl.1 rfl rfl (Nat.le_of_ble_eq_true rfl) dX5_net_13 ⟨Nat.zero_le _, Nat.zero_le _⟩ (fun r_7 u_8 H locs h_9 hP hS => ?_)
      subst h_9
      refine lv_if_eq (tgt := 23) hx hb dX5_net_16 (by decide) (fun c16 => ?_) (fun c16 => ?_)
      · skip
        have c16 := bi_0.mp c16
        refine lv_aload_n hx hb dX5_net_23 rfl (lv_at hl 0 rfl) ?_
        refine lv_iconst (v := 1) hx hb dX5_net_24 (by decide) ?_
        refine cVi (wB := fun (u_11 : Unit) => ((wM cA y E (S 0) (T 0) 1 b) ++ ((wS cA S y a q) ++ (wS cA T y a2 q2)))) (As := [.int 1]) (rest := []) (wc := ((wM cA y E (S 0) (T 0) 0 b) ++ ((wS cA S y a q) ++ (wS cA T y a2 q2)))) ⟨hx, hb, hml, hown, hts⟩ (K_X5_no lch D cA y E S T 0 b a q a2 q2 1 H.size ) (cwV 1 hts gX5_net_X5_no rfl rfl rfl (by decide +kernel) ⟨Nat.le_of_ble_eq_true rfl, Nat.le_of_ble_eq_true rfl⟩) hE hP hD hS hA [0, 1, 2, 3, 4, 5, 6, 7, 8, 9, 10, 11, 12, 13, 14, 15, 16, 17, 18, 19, 20, 21, 22, 23, 24, 25] rfl rfl [y, E 0, E 1, E 2, S 0, S 1, S 2, S 3, S 4, S 5, S 6, S 7, S 8, S 9, S 10, T 0, T 1, T 2, T 3, T 4, T 5, T 6, T 7, T 8, T 9, T 10] (fun _ => rfl) rfl (fun (u_11 : Unit) => ((wM cA y E (S 0) (T 0) 1 b) ++ ((wS cA S y a q) ++ (wS cA T y a2 q2)))) (fun _ => pst_all 26 rfl rfl rfl) X0.blind (fun _ _ _ => trivial) 0 5 rfl rfl rfl hl.1 rfl rfl (Nat.le_of_ble_eq_true rfl) dX5_net_25 ⟨Nat.zero_le _, Nat.zero_le _⟩ (fun r_10 u_11 H locs h_12 hP hD hS => ?_)
        subst h_12
        have ecd : cdNet b la pl = 1 := by unfold cdNet; rw [if_pos (Or.inr (isW_no c16))]
        have ec : nI (cdNet b la pl) = 1 := by rw [ecd]; rfl
        have hP : va_P D vwCl ((wM cA y E (S 0) (T 0) (nI (cdNet b la pl)) b) ++ ((wS cA S y a q) ++ (wS cA T y a2 q2))) H := by rw [ec]; exact hP
        rw [hQQ]
        exact W.iret (v := 0) hx hb hr (fun t ht hW => ⟨⟨0, b, rfl, ⟨fun h9 => absurd (ecd.symm.trans h9) (by decide), fun _ => ⟨rfl, rfl⟩⟩, by show va_P _ _ _ t.heap; rw [ht]; exact hP⟩, hS.F ht⟩) hS.2.2 dX5_net_28
      · skip
        have c16 := bi_1.mp c16
        obtain ⟨lan, hla9, ela⟩ := isW_nat (n := 2) c9 (by decide)
        subst ela
        obtain ⟨pln, hpl9, epl⟩ := isW_nat (n := 59) c16 (by decide)
        subst epl
        refine lv_iload_n hx hb dX5_net_19 rfl (lv_at hl 2 rfl) ?_
        refine lv_if_ne (tgt := 29) hx hb dX5_net_20 (by decide) (fun c20 => ?_) (fun c20 => ?_)
        · skip
          have c20 := (not_congr (nI_eq (a := pln) (b := 0) (by omega) (by omega))).mp c20
          have hpl1 : isW (nI pln) 1 59 = true := isW_1 (n := 59) (by omega) (by omega) (by decide)
          refine lv_aload_n hx hb dX5_net_29 rfl (lv_at hl 0 rfl) ?_
          refine va_get (D := D) (ci := 5) (v := .int (nI (bK b))) (C := RX5) (T := TX5) (N := 8) hx hb hts inX5 hown hE.1 hP 0 rfl rfl 4 (by decide) kf56 (fun _ h9 => h9) rfl dX5_net_30 ?_
          refine lv_iconst (v := 4) hx hb dX5_net_33 (by decide) ?_
          refine lv_icmp_eq (tgt := 52) hx hb dX5_net_34 (by decide) (fun c34 => ?_) (fun c34 => ?_)
          · skip
            have c34 := (nI_eq (a := bK b) (b := 4) (by omega) (by omega)).mp c34
            refine lv_aload_n hx hb dX5_net_52 rfl (lv_at hl 0 rfl) ?_
            refine lv_iconst (v := 2) hx hb dX5_net_53 (by decide) ?_
            refine cVi (wB := fun (u_14 : Unit) => ((wM cA y E (S 0) (T 0) 2 b) ++ ((wS cA S y a q) ++ (wS cA T y a2 q2)))) (As := [.int 2]) (rest := []) (wc := ((wM cA y E (S 0) (T 0) 0 b) ++ ((wS cA S y a q) ++ (wS cA T y a2 q2)))) ⟨hx, hb, hml, hown, hts⟩ (K_X5_no lch D cA y E S T 0 b a q a2 q2 2 H.size ) (cwV 1 hts gX5_net_X5_no rfl rfl rfl (by decide +kernel) ⟨Nat.le_of_ble_eq_true rfl, Nat.le_of_ble_eq_true rfl⟩) hE hP hD hS hA [0, 1, 2, 3, 4, 5, 6, 7, 8, 9, 10, 11, 12, 13, 14, 15, 16, 17, 18, 19, 20, 21, 22, 23, 24, 25] rfl rfl [y, E 0, E 1, E 2, S 0, S 1, S 2, S 3, S 4, S 5, S 6, S 7, S 8, S 9, S 10, T 0, T 1, T 2, T 3, T 4, T 5, T 6, T 7, T 8, T 9, T 10] (fun _ => rfl) rfl (fun (u_14 : Unit) => ((wM cA y E (S 0) (T 0) 2 b) ++ ((wS cA S y a q) ++ (wS cA T y a2 q2)))) (fun _ => pst_all 26 rfl rfl rfl) X0.blind (fun _ _ _ => trivial) 0 5 rfl rfl rfl hl.1 rfl rfl (Nat.le_of_ble_eq_true rfl) dX5_net_54 ⟨Nat.zero_le _, Nat.zero_le _⟩ (fun r_13 u_14 H locs h_15 hP hD hS => ?_)
            subst h_15
            have ecd : cdNet b (nI lan) (nI pln) = 2 := by unfold cdNet; rw [if_neg (by simp [c9, hpl1]), if_pos (Or.inl (by omega))]
            have ec : nI (cdNet b (nI lan) (nI pln)) = 2 := by rw [ecd]; rfl
            have hP : va_P D vwCl ((wM cA y E (S 0) (T 0) (nI (cdNet b (nI lan) (nI pln))) b) ++ ((wS cA S y a q) ++ (wS cA T y a2 q2))) H := by rw [ec]; exact hP
            rw [hQQ]
            exact W.iret (v := 0) hx hb hr (fun t ht hW => ⟨⟨0, b, rfl, ⟨fun h9 => absurd (ecd.symm.trans h9) (by decide), fun _ => ⟨rfl, rfl⟩⟩, by show va_P _ _ _ t.heap; rw [ht]; exact hP⟩, hS.F ht⟩) hS.2.2 dX5_net_57
          · skip
            have c34 := (not_congr (nI_eq (a := bK b) (b := 4) (by omega) (by omega))).mp c34
            refine lv_aload_n hx hb dX5_net_37 rfl (lv_at hl 0 rfl) ?_
            refine va_get (D := D) (ci := 5) (v := .ref (E 2)) (C := RX5) (T := TX5) (N := 8) hx hb hts inX5 hown hE.1 hP 0 rfl rfl 5 (by decide) kf16 (fun _ h9 => h9) rfl dX5_net_38 ?_
            refine lv_bipush (v := 60) hx hb dX5_net_41 (by decide) ?_
            refine lv_iload_n hx hb dX5_net_43 rfl (lv_at hl 1 rfl) ?_
            refine lv_imul hx hb dX5_net_44 ?_
            refine top_i (y := nI (60 * lan)) (pk_mul _ _) ?_
            refine lv_iload_n hx hb dX5_net_45 rfl (lv_at hl 2 rfl) ?_
            refine lv_iadd hx hb dX5_net_46 ?_
            refine top_i (y := nI ((60 * lan) + pln)) (nI_add _ _) ?_
            refine ald hx hb hE hP 3 rfl (k := (60 * lan) + pln) (by omega) (Nat.le_of_ble_eq_true rfl) (v := bi (bNe b ((60 * lan) + pln))) rfl dX5_net_47 ?_
            refine lv_iconst (v := 1) hx hb dX5_net_48 (by decide) ?_
            refine lv_icmp_ne (tgt := 58) hx hb dX5_net_49 (by decide) (fun c49 => ?_) (fun c49 => ?_)
            · skip
              have c49 := bi_f.mp c49
              refine lv_aload_n hx hb dX5_net_58 rfl (lv_at hl 0 rfl) ?_
              refine va_get (D := D) (ci := 5) (v := .ref (E 2)) (C := RX5) (T := TX5) (N := 8) hx hb hts inX5 hown hE.1 hP 0 rfl rfl 5 (by decide) kf16 (fun _ h9 => h9) rfl dX5_net_59 ?_
              refine lv_bipush (v := 60) hx hb dX5_net_62 (by decide) ?_
              refine lv_iload_n hx hb dX5_net_64 rfl (lv_at hl 1 rfl) ?_
              refine lv_imul hx hb dX5_net_65 ?_
              refine top_i (y := nI (60 * lan)) (pk_mul _ _) ?_
              refine lv_iload_n hx hb dX5_net_66 rfl (lv_at hl 2 rfl) ?_
              refine lv_iadd hx hb dX5_net_67 ?_
              refine top_i (y := nI ((60 * lan) + pln)) (nI_add _ _) ?_
              refine lv_iconst (v := 1) hx hb dX5_net_68 (by decide) ?_
              refine ast hx hb hE hP hD hS 3 rfl (k := (60 * lan) + pln) (by omega) (Nat.le_of_ble_eq_true rfl) (fun z9 => bi (bNe (vNe b (up (bNe b) (60 * lan + pln) true)) z9)) (fun j _ => upd_B (v := true) j) dX5_net_69 (fun H locs hP hD hS => ?_)
              have hP : va_P D vwCl ((wM cA y E (S 0) (T 0) 0 (vNe b (up (bNe b) (60 * lan + pln) true))) ++ ((wS cA S y a q) ++ (wS cA T y a2 q2))) H := hP
              have hD : va_D A ((wM cA y E (S 0) (T 0) 0 (vNe b (up (bNe b) (60 * lan + pln) true))) ++ ((wS cA S y a q) ++ (wS cA T y a2 q2))) := hD
              refine lv_aload_n hx hb dX5_net_70 rfl (lv_at hl 0 rfl) ?_
              refine lv_dup hx hb dX5_net_71 rfl ?_
              refine va_get (D := D) (ci := 5) (v := .int (nI (bK (vNe b (up (bNe b) (60 * lan + pln) true))))) (C := RX5) (T := TX5) (N := 8) hx hb hts inX5 hown hE.1 hP 0 rfl rfl 4 (by decide) kf56 (fun _ h9 => h9) rfl dX5_net_72 ?_
              refine lv_iconst (v := 1) hx hb dX5_net_75 (by decide) ?_
              refine lv_iadd hx hb dX5_net_76 ?_
              refine top_i (y := nI ((bK (vNe b (up (bNe b) (60 * lan + pln) true))) + 1)) (nI_add _ _) ?_
              refine va_put (D := D) (ci := 5) (v := .int (nI ((bK (vNe b (up (bNe b) (60 * lan + pln) true))) + 1))) (ty := .int) (C := RX5) (T := TX5) (N := 8) hx hb hts inX5 tyX5 tyX5_ok nmX5 hown hE.1 hP hD hS 0 rfl rfl 4 (by decide) kf56 (fun _ h9 => h9) rfl (by decide +kernel) rfl rfl (Nat.le_of_ble_eq_true rfl) dX5_net_77 (fun H locs hP hD hS => ?_)
              have hP : va_P D vwCl ((wM cA y E (S 0) (T 0) 0 (vK (vNe b (up (bNe b) (60 * lan + pln) true)) (bK b + 1))) ++ ((wS cA S y a q) ++ (wS cA T y a2 q2))) H := hP
              have hD : va_D A ((wM cA y E (S 0) (T 0) 0 (vK (vNe b (up (bNe b) (60 * lan + pln) true)) (bK b + 1))) ++ ((wS cA S y a q) ++ (wS cA T y a2 q2))) := hD
              refine lv_aload_n hx hb dX5_net_80 rfl (lv_at hl 0 rfl) ?_
              refine va_get (D := D) (ci := 5) (v := .int (nI (bK (vK (vNe b (up (bNe b) (60 * lan + pln) true)) (bK b + 1))))) (C := RX5) (T := TX5) (N := 8) hx hb hts inX5 hown hE.1 hP 0 rfl rfl 4 (by decide) kf56 (fun _ h9 => h9) rfl dX5_net_81 ?_
              have ecd : cdNet b (nI lan) (nI pln) = 0 := by unfold cdNet; rw [if_neg (by simp [c9, hpl1]), if_neg (fun q => q.elim (fun q => by omega) (fun q => by rw [nI_clamp (by omega), nI_clamp (by omega), ← Nat.mul_comm 60, c49] at q; exact absurd q (by decide)))]
              have ec : nI (cdNet b (nI lan) (nI pln)) = 0 := by rw [ecd]; rfl
              have ew0 : vK (vNe b (up (bNe b) ((nI lan).toNatClampNeg * 60 + (nI pln).toNatClampNeg) true)) (bK b + 1) = vK (vNe b (up (bNe b) (60 * lan + pln) true)) (bK b + 1) := by rw [nI_clamp (by omega), nI_clamp (by omega), Nat.mul_comm]
              have hP : va_P D vwCl ((wM cA y E (S 0) (T 0) (nI (cdNet b (nI lan) (nI pln))) (vK (vNe b (up (bNe b) ((nI lan).toNatClampNeg * 60 + (nI pln).toNatClampNeg) true)) (bK b + 1))) ++ ((wS cA S y a q) ++ (wS cA T y a2 q2))) H := by rw [ec, ew0]; exact hP
              rw [hQQ]
              exact W.iret (v := nI (bK (vK (vNe b (up (bNe b) (60 * lan + pln) true)) (bK b + 1)))) hx hb hr (fun t ht hW => ⟨⟨nI (bK (vK (vNe b (up (bNe b) (60 * lan + pln) true)) (bK b + 1))), vK (vNe b (up (bNe b) ((nI lan).toNatClampNeg * 60 + (nI pln).toNatClampNeg) true)) (bK b + 1), rfl, ⟨fun _ => ⟨rfl, rfl⟩, fun h9 => absurd ecd h9⟩, by show va_P _ _ _ t.heap; rw [ht]; exact hP⟩, hS.F ht⟩) hS.2.2 dX5_net_84
            · skip
              have c49 := bi_t.mp c49
              refine lv_aload_n hx hb dX5_net_52 rfl (lv_at hl 0 rfl) ?_
              refine lv_iconst (v := 2) hx hb dX5_net_53 (by decide) ?_
              refine cVi (wB := fun (u_17 : Unit) => ((wM cA y E (S 0) (T 0) 2 b) ++ ((wS cA S y a q) ++ (wS cA T y a2 q2)))) (As := [.int 2]) (rest := []) (wc := ((wM cA y E (S 0) (T 0) 0 b) ++ ((wS cA S y a q) ++ (wS cA T y a2 q2)))) ⟨hx, hb, hml, hown, hts⟩ (K_X5_no lch D cA y E S T 0 b a q a2 q2 2 H.size ) (cwV 1 hts gX5_net_X5_no rfl rfl rfl (by decide +kernel) ⟨Nat.le_of_ble_eq_true rfl, Nat.le_of_ble_eq_true rfl⟩) hE hP hD hS hA [0, 1, 2, 3, 4, 5, 6, 7, 8, 9, 10, 11, 12, 13, 14, 15, 16, 17, 18, 19, 20, 21, 22, 23, 24, 25] rfl rfl [y, E 0, E 1, E 2, S 0, S 1, S 2, S 3, S 4, S 5, S 6, S 7, S 8, S 9, S 10, T 0, T 1, T 2, T 3, T 4, T 5, T 6, T 7, T 8, T 9, T 10] (fun _ => rfl) rfl (fun (u_17 : Unit) => ((wM cA y E (S 0) (T 0) 2 b) ++ ((wS cA S y a q) ++ (wS cA T y a2 q2)))) (fun _ => pst_all 26 rfl rfl rfl) X0.blind (fun _ _ _ => trivial) 0 5 rfl rfl rfl hl.1 rfl rfl (Nat.le_of_ble_eq_true rfl) dX5_net_54 ⟨Nat.zero_le _, Nat.zero_le _⟩ (fun r_16 u_17 H locs h_18 hP hD hS => ?_)
              subst h_18
              have ecd : cdNet b (nI lan) (nI pln) = 2 := by unfold cdNet; rw [if_neg (by simp [c9, hpl1]), if_pos (Or.inr (by rw [nI_clamp (by omega), nI_clamp (by omega), ← Nat.mul_comm 60]; exact c49))]
              have ec : nI (cdNet b (nI lan) (nI pln)) = 2 := by rw [ecd]; rfl
              have hP : va_P D vwCl ((wM cA y E (S 0) (T 0) (nI (cdNet b (nI lan) (nI pln))) b) ++ ((wS cA S y a q) ++ (wS cA T y a2 q2))) H := by rw [ec]; exact hP
              rw [hQQ]
              exact W.iret (v := 0) hx hb hr (fun t ht hW => ⟨⟨0, b, rfl, ⟨fun h9 => absurd (ecd.symm.trans h9) (by decide), fun _ => ⟨rfl, rfl⟩⟩, by show va_P _ _ _ t.heap; rw [ht]; exact hP⟩, hS.F ht⟩) hS.2.2 dX5_net_57
        · skip
          have c20 := (nI_eq (a := pln) (b := 0) (by omega) (by omega)).mp c20
          refine lv_aload_n hx hb dX5_net_23 rfl (lv_at hl 0 rfl) ?_
          refine lv_iconst (v := 1) hx hb dX5_net_24 (by decide) ?_
          refine cVi (wB := fun (u_20 : Unit) => ((wM cA y E (S 0) (T 0) 1 b) ++ ((wS cA S y a q) ++ (wS cA T y a2 q2)))) (As := [.int 1]) (rest := []) (wc := ((wM cA y E (S 0) (T 0) 0 b) ++ ((wS cA S y a q) ++ (wS cA T y a2 q2)))) ⟨hx, hb, hml, hown, hts⟩ (K_X5_no lch D cA y E S T 0 b a q a2 q2 1 H.size ) (cwV 1 hts gX5_net_X5_no rfl rfl rfl (by decide +kernel) ⟨Nat.le_of_ble_eq_true rfl, Nat.le_of_ble_eq_true rfl⟩) hE hP hD hS hA [0, 1, 2, 3, 4, 5, 6, 7, 8, 9, 10, 11, 12, 13, 14, 15, 16, 17, 18, 19, 20, 21, 22, 23, 24, 25] rfl rfl [y, E 0, E 1, E 2, S 0, S 1, S 2, S 3, S 4, S 5, S 6, S 7, S 8, S 9, S 10, T 0, T 1, T 2, T 3, T 4, T 5, T 6, T 7, T 8, T 9, T 10] (fun _ => rfl) rfl (fun (u_20 : Unit) => ((wM cA y E (S 0) (T 0) 1 b) ++ ((wS cA S y a q) ++ (wS cA T y a2 q2)))) (fun _ => pst_all 26 rfl rfl rfl) X0.blind (fun _ _ _ => trivial) 0 5 rfl rfl rfl hl.1 rfl rfl (Nat.le_of_ble_eq_true rfl) dX5_net_25 ⟨Nat.zero_le _, Nat.zero_le _⟩ (fun r_19 u_20 H locs h_21 hP hD hS => ?_)
          subst h_21
          have ecd : cdNet b (nI lan) (nI pln) = 1 := by unfold cdNet; rw [if_pos (Or.inr (by rw [c20]; decide))]
          have ec : nI (cdNet b (nI lan) (nI pln)) = 1 := by rw [ecd]; rfl
          have hP : va_P D vwCl ((wM cA y E (S 0) (T 0) (nI (cdNet b (nI lan) (nI pln))) b) ++ ((wS cA S y a q) ++ (wS cA T y a2 q2))) H := by rw [ec]; exact hP
          rw [hQQ]
          exact W.iret (v := 0) hx hb hr (fun t ht hW => ⟨⟨0, b, rfl, ⟨fun h9 => absurd (ecd.symm.trans h9) (by decide), fun _ => ⟨rfl, rfl⟩⟩, by show va_P _ _ _ t.heap; rw [ht]; exact hP⟩, hS.F ht⟩) hS.2.2 dX5_net_28
  rw [hg1, hg2] at hgoal
  exact hgoal
