set_option maxHeartbeats 4000000 in
set_option maxRecDepth 100000 in
/-- end -/
theorem K_X4_end (lch : Launch) (D : va_G) (cA : ClassId) (S : Nat → Nat) (y : Nat) (a : FSt) (q : Nat → Int32) (i : Nat) (so : Nat) (sz : Nat) (hk : i < 41) : Met lch yX4_end wsX4_end ({ frames := 0, cells := 0, slots := 0, locals := 0 }) (Pr D cA [.ref (S 0), .int (nI i), .int (nI so)] sz (wS cA S y a q) X0) (va_Qv (fun (u : Unit) => True) (fun (u : Unit) t => va_P D vwCl (wS cA S y (endA a i so) q) t.heap) (va_A (wS cA S y a q) sz)) 0 0 (va_A (wS cA S y a q) sz) := by
  refine Met.ofW (cc := cX4_end) (maxL := 3) (ret := none) (by decide) rfl ?_
  intro pg ev s mi args below meth cd s₁ B hml hv
  obtain ⟨hav, hsz, hP, hE, hD, hXs⟩ := hv
  have hx := B.exec
  have hb := B.bytes
  have hr := B.returns
  have hts := atoms_spec (ws := wsX4_end) B.pre
  have hown : s.vm.findClass RX4 = some mi.cls := findClass_of_methodNamed B.named
  have hlocks := B.notSynchronized
  clear B
  subst hav
  subst hsz
  have hD := hD.self (sz := s.heap.size)
  generalize hAe : va_A (wS cA S y a q) s.heap.size = A at hD ⊢
  have hA : ∀ q : Nat, s.heap.size ≤ q → A q := fun q h => by rw [← hAe]; exact Or.inr h
  have hS : va_S A s.heap s.heap [] := va_S.rf
  obtain ⟨QQ, hQQ⟩ : ∃ qq9, qq9 = MQ below (va_Qv (fun (u : Unit) => True) (fun (u : Unit) t => va_P D vwCl (wS cA S y (endA a i so) q) t.heap) A) ([.ref (S 0), .int (nI i), .int (nI so)] : List Value).toArray s 0 0 A := ⟨_, rfl⟩
  rw [← hQQ]
  have hl := lv_entry ([.ref (S 0), .int (nI i), .int (nI so)]) (n := 3) (Nat.le_of_ble_eq_true rfl)
  rw [lg_entry_eq]
  generalize (lg_sl ([.ref (S 0), .int (nI i), .int (nI so)]) ++ List.replicate (3 - (lg_sl ([.ref (S 0), .int (nI i), .int (nI so)])).length) Slot.unset).toArray = ls at hl ⊢
  have hl : lv_has ls 3 [(0, .ref (S 0)), (1, .int (nI i)), (2, .int (nI so))] := hl
  have kf37 := hts (.fieldLink RX4 37 "LanternWeirsModel$State" "state" "[I") (by decide +kernel)
  have inX4 : ∀ w ∈ u_ws RX4 TX4 13, w ∈ wsX4_end := by decide +kernel
  have kf40 := hts (.fieldLink RX4 40 "LanternWeirsModel$State" "ended" "[I") (by decide +kernel)
  have kf52 := hts (.fieldLink RX4 52 "LanternWeirsModel$State" "minute" "I") (by decide +kernel)
  obtain ⟨H, locs, hP, hS, hgo⟩ : ∃ H locs, va_P D vwCl (wS cA S y a q) H ∧ va_S A s.heap H locs ∧ (H = s.heap ∧ locs = []) := ⟨_, _, hP, hS, rfl, rfl⟩
  obtain ⟨hg1, hg2⟩ := hgo
  have hgoal : W pg lch ev (headSpec wsX4_end ({ frames := 0, cells := 0, slots := 0, locals := 0 })).room s mi ([.ref (S 0), .int (nI i), .int (nI so)] : List Value).toArray below meth cd H locs 0 0 QQ (F0 mi 0 ls []) := by
    refine lv_aload_n hx hb dX4_end_0 rfl (lv_at hl 0 rfl) ?_
    refine va_get (D := D) (ci := 4) (v := .ref (S 8)) (C := RX4) (T := TX4) (N := 13) hx hb hts inX4 hown hE.1 hP 0 rfl rfl 9 (by decide) kf37 (fun _ h9 => h9) rfl dX4_end_1 ?_
    refine lv_iload_n hx hb dX4_end_4 rfl (lv_at hl 1 rfl) ?_
    refine lv_iload_n hx hb dX4_end_5 rfl (lv_at hl 2 rfl) ?_
    refine ast hx hb hE hP hD hS 8 rfl (k := i) (by omega) (Nat.le_of_ble_eq_true rfl) (fun z9 => nI (qSt (uSt a (up (qSt a) i so)) z9)) (fun j _ => upd_N j) dX4_end_6 (fun H locs hP hD hS => ?_)
    have hP : va_P D vwCl (wS cA S y (uSt a (up (qSt a) i so)) q) H := hP
    have hD : va_D A (wS cA S y (uSt a (up (qSt a) i so)) q) := hD
    refine lv_aload_n hx hb dX4_end_7 rfl (lv_at hl 0 rfl) ?_
    refine va_get (D := D) (ci := 4) (v := .ref (S 9)) (C := RX4) (T := TX4) (N := 13) hx hb hts inX4 hown hE.1 hP 0 rfl rfl 10 (by decide) kf40 (fun _ h9 => h9) rfl dX4_end_8 ?_
    refine lv_iload_n hx hb dX4_end_11 rfl (lv_at hl 1 rfl) ?_
    refine lv_aload_n hx hb dX4_end_12 rfl (lv_at hl 0 rfl) ?_
    refine va_get (D := D) (ci := 4) (v := .int (qM (uSt a (up (qSt a) i so)))) (C := RX4) (T := TX4) (N := 13) hx hb hts inX4 hown hE.1 hP 0 rfl rfl 0 (by decide) kf52 (fun _ h9 => h9) rfl dX4_end_13 ?_
    refine ast hx hb hE hP hD hS 9 rfl (k := i) (by omega) (Nat.le_of_ble_eq_true rfl) (qEn (endA a i so)) (fun j _ => upd_I j) dX4_end_16 (fun H locs hP hD hS => ?_)
    have hP : va_P D vwCl (wS cA S y (endA a i so) q) H := hP
    have hD : va_D A (wS cA S y (endA a i so) q) := hD
    rw [hQQ]
    exact W.vret hx hb hr (fun t ht hW => ⟨⟨(), rfl, trivial, by show va_P _ _ _ t.heap; rw [ht]; exact hP⟩, hS.F ht⟩) hS.2.2 dX4_end_17
  rw [hg1, hg2] at hgoal
  exact hgoal

set_option maxHeartbeats 4000000 in
set_option maxRecDepth 100000 in
/-- isAhead -/
theorem K_X4_isAhead (lch : Launch) (D : va_G) (cA : ClassId) (S : Nat → Nat) (y : Nat) (a : FSt) (q : Nat → Int32) (i : Nat) (o : Nat) (sz : Nat) (hi : i < 41) (ho : o < 41) (h1 : qPl a i ≤ 60) (h2 : qPl a o ≤ 60) (h3 : qLa a i < 3) (h4 : qLa a o < 3) : Met lch yX4_isAhead wsX4_isAhead ({ frames := 0, cells := 0, slots := 0, locals := 0 }) (Pr D cA [.ref (S 0), .int (nI i), .int (nI o)] sz (wS cA S y a q) X0) (va_Qi (fun (r : Int32) (u : Unit) => r = bi (aheadA a i o)) (fun _ _ => True) (fun q : Nat => sz ≤ q)) 0 0 (fun q : Nat => sz ≤ q) := by
  refine Met.ofW (cc := cX4_isAhead) (maxL := 3) (ret := (some .boolean)) (by decide) rfl ?_
  intro pg ev s mi args below meth cd s₁ B hml hv
  obtain ⟨hav, hsz, hP, hE, hD, hXs⟩ := hv
  have hx := B.exec
  have hb := B.bytes
  have hr := B.returns
  have hts := atoms_spec (ws := wsX4_isAhead) B.pre
  have hown : s.vm.findClass RX4 = some mi.cls := findClass_of_methodNamed B.named
  have hlocks := B.notSynchronized
  clear B
  subst hav
  subst hsz
  have hA : ∀ q : Nat, s.heap.size ≤ q → (fun q : Nat => s.heap.size ≤ q) q := fun _ h => h
  have hS : va_S (fun q : Nat => s.heap.size ≤ q) s.heap s.heap [] := va_S.rf
  obtain ⟨QQ, hQQ⟩ : ∃ qq9, qq9 = MQ below (va_Qi (fun (r : Int32) (u : Unit) => r = bi (aheadA a i o)) (fun _ _ => True) (fun q : Nat => s.heap.size ≤ q)) ([.ref (S 0), .int (nI i), .int (nI o)] : List Value).toArray s 0 0 (fun q : Nat => s.heap.size ≤ q) := ⟨_, rfl⟩
  rw [← hQQ]
  have hl := lv_entry ([.ref (S 0), .int (nI i), .int (nI o)]) (n := 3) (Nat.le_of_ble_eq_true rfl)
  rw [lg_entry_eq]
  generalize (lg_sl ([.ref (S 0), .int (nI i), .int (nI o)]) ++ List.replicate (3 - (lg_sl ([.ref (S 0), .int (nI i), .int (nI o)])).length) Slot.unset).toArray = ls at hl ⊢
  have hl : lv_has ls 3 [(0, .ref (S 0)), (1, .int (nI i)), (2, .int (nI o))] := hl
  have kf25 := hts (.fieldLink RX4 25 "LanternWeirsModel$State" "place" "[I") (by decide +kernel)
  have inX4 : ∀ w ∈ u_ws RX4 TX4 13, w ∈ wsX4_isAhead := by decide +kernel
  have kf22 := hts (.fieldLink RX4 22 "LanternWeirsModel$State" "lane" "[I") (by decide +kernel)
  obtain ⟨H, locs, hP, hS, hgo⟩ : ∃ H locs, va_P D vwCl (wS cA S y a q) H ∧ va_S (fun q : Nat => s.heap.size ≤ q) s.heap H locs ∧ (H = s.heap ∧ locs = []) := ⟨_, _, hP, hS, rfl, rfl⟩
  obtain ⟨hg1, hg2⟩ := hgo
  have hgoal : W pg lch ev (headSpec wsX4_isAhead ({ frames := 0, cells := 0, slots := 0, locals := 0 })).room s mi ([.ref (S 0), .int (nI i), .int (nI o)] : List Value).toArray below meth cd H locs 0 0 QQ (F0 mi 0 ls []) := by
    refine lv_aload_n hx hb dX4_isAhead_0 rfl (lv_at hl 0 rfl) ?_
    refine va_get (D := D) (ci := 4) (v := .ref (S 4)) (C := RX4) (T := TX4) (N := 13) hx hb hts inX4 hown hE.1 hP 0 rfl rfl 5 (by decide) kf25 (fun _ h9 => h9) rfl dX4_isAhead_1 ?_
    refine lv_iload_n hx hb dX4_isAhead_4 rfl (lv_at hl 1 rfl) ?_
    refine ald hx hb hE hP 4 rfl (k := i) (by omega) (Nat.le_of_ble_eq_true rfl) (v := nI (qPl a i)) rfl dX4_isAhead_5 ?_
    refine lv_aload_n hx hb dX4_isAhead_6 rfl (lv_at hl 0 rfl) ?_
    refine va_get (D := D) (ci := 4) (v := .ref (S 4)) (C := RX4) (T := TX4) (N := 13) hx hb hts inX4 hown hE.1 hP 0 rfl rfl 5 (by decide) kf25 (fun _ h9 => h9) rfl dX4_isAhead_7 ?_
    refine lv_iload_n hx hb dX4_isAhead_10 rfl (lv_at hl 2 rfl) ?_
    refine ald hx hb hE hP 4 rfl (k := o) (by omega) (Nat.le_of_ble_eq_true rfl) (v := nI (qPl a o)) rfl dX4_isAhead_11 ?_
    refine lv_icmp_eq (tgt := 36) hx hb dX4_isAhead_12 (by decide) (fun c12 => ?_) (fun c12 => ?_)
    · skip
      have c12 := (nI_eq (a := qPl a i) (b := qPl a o) (by omega) (by omega)).mp c12
      refine lv_aload_n hx hb dX4_isAhead_36 rfl (lv_at hl 0 rfl) ?_
      refine va_get (D := D) (ci := 4) (v := .ref (S 3)) (C := RX4) (T := TX4) (N := 13) hx hb hts inX4 hown hE.1 hP 0 rfl rfl 4 (by decide) kf22 (fun _ h9 => h9) rfl dX4_isAhead_37 ?_
      refine lv_iload_n hx hb dX4_isAhead_40 rfl (lv_at hl 1 rfl) ?_
      refine ald hx hb hE hP 3 rfl (k := i) (by omega) (Nat.le_of_ble_eq_true rfl) (v := nI (qLa a i)) rfl dX4_isAhead_41 ?_
      refine lv_aload_n hx hb dX4_isAhead_42 rfl (lv_at hl 0 rfl) ?_
      refine va_get (D := D) (ci := 4) (v := .ref (S 3)) (C := RX4) (T := TX4) (N := 13) hx hb hts inX4 hown hE.1 hP 0 rfl rfl 4 (by decide) kf22 (fun _ h9 => h9) rfl dX4_isAhead_43 ?_
      refine lv_iload_n hx hb dX4_isAhead_46 rfl (lv_at hl 2 rfl) ?_
      refine ald hx hb hE hP 3 rfl (k := o) (by omega) (Nat.le_of_ble_eq_true rfl) (v := nI (qLa a o)) rfl dX4_isAhead_47 ?_
      refine lv_icmp_eq (tgt := 74) hx hb dX4_isAhead_48 (by decide) (fun c48 => ?_) (fun c48 => ?_)
      · skip
        have c48 := (nI_eq (a := qLa a i) (b := qLa a o) (by omega) (by omega)).mp c48
        refine lv_iload_n hx hb dX4_isAhead_74 rfl (lv_at hl 1 rfl) ?_
        refine lv_iload_n hx hb dX4_isAhead_75 rfl (lv_at hl 2 rfl) ?_
        refine lv_icmp_ge (tgt := 83) hx hb dX4_isAhead_76 (by decide) (fun c76 => ?_) (fun c76 => ?_)
        · skip
          have c76 := (nI_leI (a := o) (b := i) (by omega) (by omega)).mp c76
          refine lv_iconst (v := 0) hx hb dX4_isAhead_83 (by decide) ?_
          rw [hQQ]
          exact W.zret (v := 0) hx hb hr (by decide) (fun t ht hW => ⟨⟨0, (), rfl, by unfold aheadA; rw [if_pos c12, if_pos c48]; simp [bi]; omega, trivial⟩, hS.F ht⟩) hS.2.2 dX4_isAhead_84
        · skip
          have c76 := (not_congr (nI_leI (a := o) (b := i) (by omega) (by omega))).mp c76
          refine lv_iconst (v := 1) hx hb dX4_isAhead_79 (by decide) ?_
          refine lv_goto (tgt := 84) hx hb dX4_isAhead_80 (by decide) ?_
          rw [hQQ]
          exact W.zret (v := 1) hx hb hr (by decide) (fun t ht hW => ⟨⟨1, (), rfl, by unfold aheadA; rw [if_pos c12, if_pos c48]; simp [bi]; omega, trivial⟩, hS.F ht⟩) hS.2.2 dX4_isAhead_84
      · skip
        have c48 := (not_congr (nI_eq (a := qLa a i) (b := qLa a o) (by omega) (by omega))).mp c48
        refine lv_aload_n hx hb dX4_isAhead_51 rfl (lv_at hl 0 rfl) ?_
        refine va_get (D := D) (ci := 4) (v := .ref (S 3)) (C := RX4) (T := TX4) (N := 13) hx hb hts inX4 hown hE.1 hP 0 rfl rfl 4 (by decide) kf22 (fun _ h9 => h9) rfl dX4_isAhead_52 ?_
        refine lv_iload_n hx hb dX4_isAhead_55 rfl (lv_at hl 1 rfl) ?_
        refine ald hx hb hE hP 3 rfl (k := i) (by omega) (Nat.le_of_ble_eq_true rfl) (v := nI (qLa a i)) rfl dX4_isAhead_56 ?_
        refine lv_aload_n hx hb dX4_isAhead_57 rfl (lv_at hl 0 rfl) ?_
        refine va_get (D := D) (ci := 4) (v := .ref (S 3)) (C := RX4) (T := TX4) (N := 13) hx hb hts inX4 hown hE.1 hP 0 rfl rfl 4 (by decide) kf22 (fun _ h9 => h9) rfl dX4_isAhead_58 ?_
        refine lv_iload_n hx hb dX4_isAhead_61 rfl (lv_at hl 2 rfl) ?_
        refine ald hx hb hE hP 3 rfl (k := o) (by omega) (Nat.le_of_ble_eq_true rfl) (v := nI (qLa a o)) rfl dX4_isAhead_62 ?_
        refine lv_icmp_ge (tgt := 70) hx hb dX4_isAhead_63 (by decide) (fun c63 => ?_) (fun c63 => ?_)
        · skip
          have c63 := (nI_leI (a := qLa a o) (b := qLa a i) (by omega) (by omega)).mp c63
          refine lv_iconst (v := 0) hx hb dX4_isAhead_70 (by decide) ?_
          refine lv_goto (tgt := 84) hx hb dX4_isAhead_71 (by decide) ?_
          rw [hQQ]
          exact W.zret (v := 0) hx hb hr (by decide) (fun t ht hW => ⟨⟨0, (), rfl, by unfold aheadA; rw [if_pos c12, if_neg c48]; simp [bi]; omega, trivial⟩, hS.F ht⟩) hS.2.2 dX4_isAhead_84
        · skip
          have c63 := (not_congr (nI_leI (a := qLa a o) (b := qLa a i) (by omega) (by omega))).mp c63
          refine lv_iconst (v := 1) hx hb dX4_isAhead_66 (by decide) ?_
          refine lv_goto (tgt := 84) hx hb dX4_isAhead_67 (by decide) ?_
          rw [hQQ]
          exact W.zret (v := 1) hx hb hr (by decide) (fun t ht hW => ⟨⟨1, (), rfl, by unfold aheadA; rw [if_pos c12, if_neg c48]; simp [bi]; omega, trivial⟩, hS.F ht⟩) hS.2.2 dX4_isAhead_84
    · skip
      have c12 := (not_congr (nI_eq (a := qPl a i) (b := qPl a o) (by omega) (by omega))).mp c12
      refine lv_aload_n hx hb dX4_isAhead_15 rfl (lv_at hl 0 rfl) ?_
      refine va_get (D := D) (ci := 4) (v := .ref (S 4)) (C := RX4) (T := TX4) (N := 13) hx hb hts inX4 hown hE.1 hP 0 rfl rfl 5 (by decide) kf25 (fun _ h9 => h9) rfl dX4_isAhead_16 ?_
      refine lv_iload_n hx hb dX4_isAhead_19 rfl (lv_at hl 1 rfl) ?_
      refine ald hx hb hE hP 4 rfl (k := i) (by omega) (Nat.le_of_ble_eq_true rfl) (v := nI (qPl a i)) rfl dX4_isAhead_20 ?_
      refine lv_aload_n hx hb dX4_isAhead_21 rfl (lv_at hl 0 rfl) ?_
      refine va_get (D := D) (ci := 4) (v := .ref (S 4)) (C := RX4) (T := TX4) (N := 13) hx hb hts inX4 hown hE.1 hP 0 rfl rfl 5 (by decide) kf25 (fun _ h9 => h9) rfl dX4_isAhead_22 ?_
      refine lv_iload_n hx hb dX4_isAhead_25 rfl (lv_at hl 2 rfl) ?_
      refine ald hx hb hE hP 4 rfl (k := o) (by omega) (Nat.le_of_ble_eq_true rfl) (v := nI (qPl a o)) rfl dX4_isAhead_26 ?_
      refine lv_icmp_le (tgt := 34) hx hb dX4_isAhead_27 (by decide) (fun c27 => ?_) (fun c27 => ?_)
      · skip
        have c27 := (nI_leI (a := qPl a i) (b := qPl a o) (by omega) (by omega)).mp c27
        refine lv_iconst (v := 0) hx hb dX4_isAhead_34 (by decide) ?_
        rw [hQQ]
        exact W.zret (v := 0) hx hb hr (by decide) (fun t ht hW => ⟨⟨0, (), rfl, by unfold aheadA; rw [if_neg c12]; simp [bi]; omega, trivial⟩, hS.F ht⟩) hS.2.2 dX4_isAhead_35
      · skip
        have c27 := (not_congr (nI_leI (a := qPl a i) (b := qPl a o) (by omega) (by omega))).mp c27
        refine lv_iconst (v := 1) hx hb dX4_isAhead_30 (by decide) ?_
        refine lv_goto (tgt := 35) hx hb dX4_isAhead_31 (by decide) ?_
        rw [hQQ]
        exact W.zret (v := 1) hx hb hr (by decide) (fun t ht hW => ⟨⟨1, (), rfl, by unfold aheadA; rw [if_neg c12]; simp [bi]; omega, trivial⟩, hS.F ht⟩) hS.2.2 dX4_isAhead_35
  rw [hg1, hg2] at hgoal
  exact hgoal

set_option maxHeartbeats 4000000 in
set_option maxRecDepth 100000 in
/-- isSoaked -/
theorem K_X4_isSoaked (lch : Launch) (D : va_G) (cA : ClassId) (S : Nat → Nat) (y : Nat) (a : FSt) (q : Nat → Int32) (z1 : Nat) (z2 : Nat) (i : Nat) (sz : Nat) (hk : i < 41) (hf : qFr a i < 3) : Met lch yX4_isSoaked wsX4_isSoaked ({ frames := 0, cells := 0, slots := 0, locals := 0 }) (Pr D cA [.ref (S 0), .int (nI i)] sz (wS cA S y a q) (SX z1 z2 (fun q : Nat => sz ≤ q))) (va_Qi (fun (r : Int32) (u : Unit) => r = bi (soaked a i)) (fun _ _ => True) (fun q : Nat => sz ≤ q)) 0 0 (fun q : Nat => sz ≤ q) := by
  refine Met.ofW (cc := cX4_isSoaked) (maxL := 2) (ret := (some .boolean)) (by decide) rfl ?_
  intro pg ev s mi args below meth cd s₁ B hml hv
  obtain ⟨hav, hsz, hP, hE, hD, hXs⟩ := hv
  have hx := B.exec
  have hb := B.bytes
  have hr := B.returns
  have hts := atoms_spec (ws := wsX4_isSoaked) B.pre
  have hown : s.vm.findClass RX4 = some mi.cls := findClass_of_methodNamed B.named
  have hlocks := B.notSynchronized
  clear B
  subst hav
  subst hsz
  have hA : ∀ q : Nat, s.heap.size ≤ q → (fun q : Nat => s.heap.size ≤ q) q := fun _ h => h
  have hS : va_S (fun q : Nat => s.heap.size ≤ q) s.heap s.heap [] := va_S.rf
  obtain ⟨QQ, hQQ⟩ : ∃ qq9, qq9 = MQ below (va_Qi (fun (r : Int32) (u : Unit) => r = bi (soaked a i)) (fun _ _ => True) (fun q : Nat => s.heap.size ≤ q)) ([.ref (S 0), .int (nI i)] : List Value).toArray s 0 0 (fun q : Nat => s.heap.size ≤ q) := ⟨_, rfl⟩
  rw [← hQQ]
  have hl := lv_entry ([.ref (S 0), .int (nI i)]) (n := 2) (Nat.le_of_ble_eq_true rfl)
  rw [lg_entry_eq]
  generalize (lg_sl ([.ref (S 0), .int (nI i)]) ++ List.replicate (2 - (lg_sl ([.ref (S 0), .int (nI i)])).length) Slot.unset).toArray = ls at hl ⊢
  have hl : lv_has ls 2 [(0, .ref (S 0)), (1, .int (nI i))] := hl
  have kf31 := hts (.fieldLink RX4 31 "LanternWeirsModel$State" "wet" "[I") (by decide +kernel)
  have inX4 : ∀ w ∈ u_ws RX4 TX4 13, w ∈ wsX4_isSoaked := by decide +kernel
  have kgs66 := va_Nw.use (A := ([.ref (S 0), .int (nI i)] : List Value).toArray) rfl (hE.2.2 (.fieldLinkNest "LanternWeirsModel$State" 66 "LanternWeirsModel" "TAKES" "[I" "LanternWeirsModel") (by decide +kernel))
  have kf15 := hts (.fieldLink RX4 15 "LanternWeirsModel$State" "frame" "[I") (by decide +kernel)
  obtain ⟨H, locs, hP, hS, hgo⟩ : ∃ H locs, va_P D vwCl (wS cA S y a q) H ∧ va_S (fun q : Nat => s.heap.size ≤ q) s.heap H locs ∧ (H = s.heap ∧ locs = []) := ⟨_, _, hP, hS, rfl, rfl⟩
  obtain ⟨hg1, hg2⟩ := hgo
  have hgoal : W pg lch ev (headSpec wsX4_isSoaked ({ frames := 0, cells := 0, slots := 0, locals := 0 })).room s mi ([.ref (S 0), .int (nI i)] : List Value).toArray below meth cd H locs 0 0 QQ (F0 mi 0 ls []) := by
    refine lv_aload_n hx hb dX4_isSoaked_0 rfl (lv_at hl 0 rfl) ?_
    refine va_get (D := D) (ci := 4) (v := .ref (S 6)) (C := RX4) (T := TX4) (N := 13) hx hb hts inX4 hown hE.1 hP 0 rfl rfl 7 (by decide) kf31 (fun _ h9 => h9) rfl dX4_isSoaked_1 ?_
    refine lv_iload_n hx hb dX4_isSoaked_4 rfl (lv_at hl 1 rfl) ?_
    refine ald hx hb hE hP 6 rfl (k := i) (by omega) (Nat.le_of_ble_eq_true rfl) (v := qWe a i) rfl dX4_isSoaked_5 ?_
    refine va_getsN hx hb hXs.2.1 hS hown kgs66 (fun _ h9 => h9) dX4_isSoaked_6 ?_
    refine lv_aload_n hx hb dX4_isSoaked_9 rfl (lv_at hl 0 rfl) ?_
    refine va_get (D := D) (ci := 4) (v := .ref (S 1)) (C := RX4) (T := TX4) (N := 13) hx hb hts inX4 hown hE.1 hP 0 rfl rfl 2 (by decide) kf15 (fun _ h9 => h9) rfl dX4_isSoaked_10 ?_
    refine lv_iload_n hx hb dX4_isSoaked_13 rfl (lv_at hl 1 rfl) ?_
    refine ald hx hb hE hP 1 rfl (k := i) (by omega) (Nat.le_of_ble_eq_true rfl) (v := nI (qFr a i)) rfl dX4_isSoaked_14 ?_
    refine sld hx hb hXs.2.2.2.1 hXs.2.2.2.2.2.1 hXs.2.2.2.2.2.2.2 hS (k := qFr a i) (by omega) (by decide) (v := takes (qFr a i)) rfl dX4_isSoaked_15 ?_
    refine lv_icmp_le (tgt := 23) hx hb dX4_isSoaked_16 (by decide) (fun c16 => ?_) (fun c16 => ?_)
    · skip
      refine lv_iconst (v := 0) hx hb dX4_isSoaked_23 (by decide) ?_
      rw [hQQ]
      exact W.zret (v := 0) hx hb hr (by decide) (fun t ht hW => ⟨⟨0, (), rfl, sk_f c16, trivial⟩, hS.F ht⟩) hS.2.2 dX4_isSoaked_24
    · skip
      refine lv_iconst (v := 1) hx hb dX4_isSoaked_19 (by decide) ?_
      refine lv_goto (tgt := 24) hx hb dX4_isSoaked_20 (by decide) ?_
      rw [hQQ]
      exact W.zret (v := 1) hx hb hr (by decide) (fun t ht hW => ⟨⟨1, (), rfl, sk_t c16, trivial⟩, hS.F ht⟩) hS.2.2 dX4_isSoaked_24
  rw [hg1, hg2] at hgoal
  exact hgoal

set_option maxHeartbeats 4000000 in
set_option maxRecDepth 100000 in
/-- at -/
theorem K_X4_at (lch : Launch) (D : va_G) (cA : ClassId) (S : Nat → Nat) (y : Nat) (a : FSt) (q : Nat → Int32) (l : Nat) (p : Nat) (so : Nat) (sz : Nat) (hw1 : WFa a) (h3 : l < 3) (h6 : p < 100) (hso : so < 3) : Met lch yX4_at wsX4_at ({ frames := 0, cells := 0, slots := 0, locals := 0 }) (Pr D cA [.ref (S 0), .int (nI l), .int (nI p), .int (nI so)] sz (wS cA S y a q) X0) (va_Qi (fun (r : Int32) (u : Unit) => r = nI (atA a l p so)) (fun _ _ => True) (fun q : Nat => sz ≤ q)) 0 0 (fun q : Nat => sz ≤ q) := by
  refine Met.ofW (cc := cX4_at) (maxL := 6) (ret := (some .int)) (by decide) rfl ?_
  intro pg ev s mi args below meth cd s₁ B hml hv
  obtain ⟨hav, hsz, hP, hE, hD, hXs⟩ := hv
  have hx := B.exec
  have hb := B.bytes
  have hr := B.returns
  have hts := atoms_spec (ws := wsX4_at) B.pre
  have hown : s.vm.findClass RX4 = some mi.cls := findClass_of_methodNamed B.named
  have hlocks := B.notSynchronized
  clear B
  subst hav
  subst hsz
  have hA : ∀ q : Nat, s.heap.size ≤ q → (fun q : Nat => s.heap.size ≤ q) q := fun _ h => h
  have hS : va_S (fun q : Nat => s.heap.size ≤ q) s.heap s.heap [] := va_S.rf
  obtain ⟨QQ, hQQ⟩ : ∃ qq9, qq9 = MQ below (va_Qi (fun (r : Int32) (u : Unit) => r = nI (atA a l p so)) (fun _ _ => True) (fun q : Nat => s.heap.size ≤ q)) ([.ref (S 0), .int (nI l), .int (nI p), .int (nI so)] : List Value).toArray s 0 0 (fun q : Nat => s.heap.size ≤ q) := ⟨_, rfl⟩
  rw [← hQQ]
  have hl := lv_entry ([.ref (S 0), .int (nI l), .int (nI p), .int (nI so)]) (n := 6) (Nat.le_of_ble_eq_true rfl)
  rw [lg_entry_eq]
  generalize (lg_sl ([.ref (S 0), .int (nI l), .int (nI p), .int (nI so)]) ++ List.replicate (6 - (lg_sl ([.ref (S 0), .int (nI l), .int (nI p), .int (nI so)])).length) Slot.unset).toArray = ls at hl ⊢
  have hl : lv_has ls 6 [(0, .ref (S 0)), (1, .int (nI l)), (2, .int (nI p)), (3, .int (nI so))] := hl
  have kf56 := hts (.fieldLink RX4 56 "LanternWeirsModel$State" "lanterns" "I") (by decide +kernel)
  have inX4 : ∀ w ∈ u_ws RX4 TX4 13, w ∈ wsX4_at := by decide +kernel
  have kf37 := hts (.fieldLink RX4 37 "LanternWeirsModel$State" "state" "[I") (by decide +kernel)
  have kf22 := hts (.fieldLink RX4 22 "LanternWeirsModel$State" "lane" "[I") (by decide +kernel)
  have kf25 := hts (.fieldLink RX4 25 "LanternWeirsModel$State" "place" "[I") (by decide +kernel)
  obtain ⟨H, locs, hP, hS, hgo⟩ : ∃ H locs, va_P D vwCl (wS cA S y a q) H ∧ va_S (fun q : Nat => s.heap.size ≤ q) s.heap H locs ∧ (H = s.heap ∧ locs = []) := ⟨_, _, hP, hS, rfl, rfl⟩
  obtain ⟨hg1, hg2⟩ := hgo
  have hgoal : W pg lch ev (headSpec wsX4_at ({ frames := 0, cells := 0, slots := 0, locals := 0 })).room s mi ([.ref (S 0), .int (nI l), .int (nI p), .int (nI so)] : List Value).toArray below meth cd H locs 0 0 QQ (F0 mi 0 ls []) := by
    refine lv_iconst (v := 0) hx hb dX4_at_0 (by decide) ?_
    refine lv_istore (lv' := [(4, .int 0), (0, .ref (S 0)), (1, .int (nI l)), (2, .int (nI p)), (3, .int (nI so))]) hx hb dX4_at_1 hl (by decide) rfl (fun ls hl => ?_)
    refine lv_iconst (v := 0) hx hb dX4_at_3 (by decide) ?_
    refine lv_istore (lv' := [(5, .int 0), (4, .int 0), (0, .ref (S 0)), (1, .int (nI l)), (2, .int (nI p)), (3, .int (nI so))]) hx hb dX4_at_4 hl (by decide) rfl (fun ls hl => ?_)
    have L6 : ∀ (fu6 : Nat) (i : Nat), (i ≤ qN a) → qN a - i < fu6 → ∀ (H : Heap) (locs : List Loc), va_P D vwCl (wS cA S y a q) H → va_S (fun q : Nat => s.heap.size ≤ q) s.heap H locs → ∀ ls : Array Slot, lv_has ls 6 [(5, .int (nI i)), (4, .int (nI (cnt i (spotA a l p so)))), (0, .ref (S 0)), (1, .int (nI l)), (2, .int (nI p)), (3, .int (nI so))] → W pg lch ev (headSpec wsX4_at ({ frames := 0, cells := 0, slots := 0, locals := 0 })).room s mi ([.ref (S 0), .int (nI l), .int (nI p), .int (nI so)] : List Value).toArray below meth cd H locs 0 0 QQ (F0 mi 6 ls []) := by
      intro fu6
      induction fu6 with
      | zero => intro i hi hms; exact absurd hms (Nat.not_lt_zero _)
      | succ fu6 ih6 =>
        intro i hi hms6 H locs hP hS ls hl
        have hn := hw1.1
        refine lv_iload hx hb dX4_at_6 (lv_at hl 0 rfl) ?_
        refine lv_aload_n hx hb dX4_at_8 rfl (lv_at hl 2 rfl) ?_
        refine va_get (D := D) (ci := 4) (v := .int (nI (qN a))) (C := RX4) (T := TX4) (N := 13) hx hb hts inX4 hown hE.1 hP 0 rfl rfl 1 (by decide) kf56 (fun _ h9 => h9) rfl dX4_at_9 ?_
        refine lv_icmp_ge (tgt := 64) hx hb dX4_at_12 (by decide) (fun c12 => ?_) (fun c12 => ?_)
        · skip
          have c12 := (nI_leI (a := qN a) (b := i) (by omega) (by omega)).mp c12
          refine lv_iload hx hb dX4_at_64 (lv_at hl 1 rfl) ?_
          rw [hQQ]
          exact W.iret (v := nI (cnt i (spotA a l p so))) hx hb hr (fun t ht hW => ⟨⟨nI (cnt i (spotA a l p so)), (), rfl, by rw [show i = qN a by omega]; rfl, trivial⟩, hS.F ht⟩) hS.2.2 dX4_at_66
        · skip
          have c12 := (not_congr (nI_leI (a := qN a) (b := i) (by omega) (by omega))).mp c12
          obtain ⟨w1, w2, w3, w4, w5, w6, w7, w8⟩ := hw1.2 i (by omega)
          refine lv_iload hx hb dX4_at_15 (lv_at hl 1 rfl) ?_
          refine lv_aload_n hx hb dX4_at_17 rfl (lv_at hl 2 rfl) ?_
          refine va_get (D := D) (ci := 4) (v := .ref (S 8)) (C := RX4) (T := TX4) (N := 13) hx hb hts inX4 hown hE.1 hP 0 rfl rfl 9 (by decide) kf37 (fun _ h9 => h9) rfl dX4_at_18 ?_
          refine lv_iload hx hb dX4_at_21 (lv_at hl 0 rfl) ?_
          refine ald hx hb hE hP 8 rfl (k := i) (by omega) (Nat.le_of_ble_eq_true rfl) (v := nI (qSt a i)) rfl dX4_at_23 ?_
          refine lv_iload_n hx hb dX4_at_24 rfl (lv_at hl 5 rfl) ?_
          refine lv_icmp_ne (tgt := 54) hx hb dX4_at_25 (by decide) (fun c25 => ?_) (fun c25 => ?_)
          · skip
            have c25 := (not_congr (nI_eq (a := qSt a i) (b := so) (by omega) (by omega))).mp c25
            refine lv_iconst (v := 0) hx hb dX4_at_54 (by decide) ?_
            refine lv_iadd hx hb dX4_at_55 ?_
            refine top_i (y := nI ((cnt i (spotA a l p so)) + 0)) (nI_add _ _) ?_
            refine lv_istore (lv' := [(4, .int (nI ((cnt i (spotA a l p so)) + 0))), (5, .int (nI i)), (0, .ref (S 0)), (1, .int (nI l)), (2, .int (nI p)), (3, .int (nI so))]) hx hb dX4_at_56 hl (by decide) rfl (fun ls hl => ?_)
            refine lv_iinc (v := nI (i + 1)) (lv' := [(5, .int (nI (i + 1))), (4, .int (nI ((cnt i (spotA a l p so)) + 0))), (0, .ref (S 0)), (1, .int (nI l)), (2, .int (nI p)), (3, .int (nI so))]) hx hb dX4_at_58 hl (k := 1) rfl (nI_add i 1) (by decide) rfl (fun ls hl => ?_)
            refine lv_goto (tgt := 6) hx hb dX4_at_61 (by decide) ?_
            have e9 : cnt i (spotA a l p so) + 0 = cnt (i + 1) (spotA a l p so) := by simp [cnt, spotA, c25]
            rw [e9] at hl
            exact ih6 (i + 1) (by omega) (by omega) H locs hP hS ls (lv_sub hl [0, 1, 2, 3, 4, 5] rfl)
          · skip
            have c25 := (nI_eq (a := qSt a i) (b := so) (by omega) (by omega)).mp c25
            refine lv_aload_n hx hb dX4_at_28 rfl (lv_at hl 2 rfl) ?_
            refine va_get (D := D) (ci := 4) (v := .ref (S 3)) (C := RX4) (T := TX4) (N := 13) hx hb hts inX4 hown hE.1 hP 0 rfl rfl 4 (by decide) kf22 (fun _ h9 => h9) rfl dX4_at_29 ?_
            refine lv_iload hx hb dX4_at_32 (lv_at hl 0 rfl) ?_
            refine ald hx hb hE hP 3 rfl (k := i) (by omega) (Nat.le_of_ble_eq_true rfl) (v := nI (qLa a i)) rfl dX4_at_34 ?_
            refine lv_iload_n hx hb dX4_at_35 rfl (lv_at hl 3 rfl) ?_
            refine lv_icmp_ne (tgt := 54) hx hb dX4_at_36 (by decide) (fun c36 => ?_) (fun c36 => ?_)
            · skip
              have c36 := (not_congr (nI_eq (a := qLa a i) (b := l) (by omega) (by omega))).mp c36
              refine lv_iconst (v := 0) hx hb dX4_at_54 (by decide) ?_
              refine lv_iadd hx hb dX4_at_55 ?_
              refine top_i (y := nI ((cnt i (spotA a l p so)) + 0)) (nI_add _ _) ?_
              refine lv_istore (lv' := [(4, .int (nI ((cnt i (spotA a l p so)) + 0))), (5, .int (nI i)), (0, .ref (S 0)), (1, .int (nI l)), (2, .int (nI p)), (3, .int (nI so))]) hx hb dX4_at_56 hl (by decide) rfl (fun ls hl => ?_)
              refine lv_iinc (v := nI (i + 1)) (lv' := [(5, .int (nI (i + 1))), (4, .int (nI ((cnt i (spotA a l p so)) + 0))), (0, .ref (S 0)), (1, .int (nI l)), (2, .int (nI p)), (3, .int (nI so))]) hx hb dX4_at_58 hl (k := 1) rfl (nI_add i 1) (by decide) rfl (fun ls hl => ?_)
              refine lv_goto (tgt := 6) hx hb dX4_at_61 (by decide) ?_
              have e9 : cnt i (spotA a l p so) + 0 = cnt (i + 1) (spotA a l p so) := by simp [cnt, spotA, c36]
              rw [e9] at hl
              exact ih6 (i + 1) (by omega) (by omega) H locs hP hS ls (lv_sub hl [0, 1, 2, 3, 4, 5] rfl)
            · skip
              have c36 := (nI_eq (a := qLa a i) (b := l) (by omega) (by omega)).mp c36
              refine lv_aload_n hx hb dX4_at_39 rfl (lv_at hl 2 rfl) ?_
              refine va_get (D := D) (ci := 4) (v := .ref (S 4)) (C := RX4) (T := TX4) (N := 13) hx hb hts inX4 hown hE.1 hP 0 rfl rfl 5 (by decide) kf25 (fun _ h9 => h9) rfl dX4_at_40 ?_
              refine lv_iload hx hb dX4_at_43 (lv_at hl 0 rfl) ?_
              refine ald hx hb hE hP 4 rfl (k := i) (by omega) (Nat.le_of_ble_eq_true rfl) (v := nI (qPl a i)) rfl dX4_at_45 ?_
              refine lv_iload_n hx hb dX4_at_46 rfl (lv_at hl 4 rfl) ?_
              refine lv_icmp_ne (tgt := 54) hx hb dX4_at_47 (by decide) (fun c47 => ?_) (fun c47 => ?_)
              · skip
                have c47 := (not_congr (nI_eq (a := qPl a i) (b := p) (by omega) (by omega))).mp c47
                refine lv_iconst (v := 0) hx hb dX4_at_54 (by decide) ?_
                refine lv_iadd hx hb dX4_at_55 ?_
                refine top_i (y := nI ((cnt i (spotA a l p so)) + 0)) (nI_add _ _) ?_
                refine lv_istore (lv' := [(4, .int (nI ((cnt i (spotA a l p so)) + 0))), (5, .int (nI i)), (0, .ref (S 0)), (1, .int (nI l)), (2, .int (nI p)), (3, .int (nI so))]) hx hb dX4_at_56 hl (by decide) rfl (fun ls hl => ?_)
                refine lv_iinc (v := nI (i + 1)) (lv' := [(5, .int (nI (i + 1))), (4, .int (nI ((cnt i (spotA a l p so)) + 0))), (0, .ref (S 0)), (1, .int (nI l)), (2, .int (nI p)), (3, .int (nI so))]) hx hb dX4_at_58 hl (k := 1) rfl (nI_add i 1) (by decide) rfl (fun ls hl => ?_)
                refine lv_goto (tgt := 6) hx hb dX4_at_61 (by decide) ?_
                have e9 : cnt i (spotA a l p so) + 0 = cnt (i + 1) (spotA a l p so) := by simp [cnt, spotA, c47]
                rw [e9] at hl
                exact ih6 (i + 1) (by omega) (by omega) H locs hP hS ls (lv_sub hl [0, 1, 2, 3, 4, 5] rfl)
              · skip
                have c47 := (nI_eq (a := qPl a i) (b := p) (by omega) (by omega)).mp c47
                refine lv_iconst (v := 1) hx hb dX4_at_50 (by decide) ?_
                refine lv_goto (tgt := 55) hx hb dX4_at_51 (by decide) ?_
                refine lv_iadd hx hb dX4_at_55 ?_
                refine top_i (y := nI ((cnt i (spotA a l p so)) + 1)) (nI_add _ _) ?_
                refine lv_istore (lv' := [(4, .int (nI ((cnt i (spotA a l p so)) + 1))), (5, .int (nI i)), (0, .ref (S 0)), (1, .int (nI l)), (2, .int (nI p)), (3, .int (nI so))]) hx hb dX4_at_56 hl (by decide) rfl (fun ls hl => ?_)
                refine lv_iinc (v := nI (i + 1)) (lv' := [(5, .int (nI (i + 1))), (4, .int (nI ((cnt i (spotA a l p so)) + 1))), (0, .ref (S 0)), (1, .int (nI l)), (2, .int (nI p)), (3, .int (nI so))]) hx hb dX4_at_58 hl (k := 1) rfl (nI_add i 1) (by decide) rfl (fun ls hl => ?_)
                refine lv_goto (tgt := 6) hx hb dX4_at_61 (by decide) ?_
                have e9 : cnt i (spotA a l p so) + 1 = cnt (i + 1) (spotA a l p so) := by simp [cnt, spotA, c25, c36, c47]
                rw [e9] at hl
                exact ih6 (i + 1) (by omega) (by omega) H locs hP hS ls (lv_sub hl [0, 1, 2, 3, 4, 5] rfl)
    exact L6 (qN a + 1) 0 (Nat.zero_le _) (by omega) H locs hP hS ls (lv_sub hl [0, 1, 2, 3, 4, 5] rfl)
  rw [hg1, hg2] at hgoal
  exact hgoal

set_option maxHeartbeats 4000000 in
set_option maxRecDepth 100000 in
/-- isCaught -/
theorem K_X4_isCaught (lch : Launch) (D : va_G) (cA : ClassId) (S : Nat → Nat) (y : Nat) (a : FSt) (q : Nat → Int32) (i : Nat) (sz : Nat) (hi : i < qN a) (hw1 : WFa a) : Met lch yX4_isCaught wsX4_isCaught ({ frames := 0, cells := 0, slots := 0, locals := 0 }) (Pr D cA [.ref (S 0), .int (nI i)] sz (wS cA S y a q) X0) (va_Qi (fun (r : Int32) (u : Unit) => r = bi (caughtA a i)) (fun _ _ => True) (fun q : Nat => sz ≤ q)) 0 0 (fun q : Nat => sz ≤ q) := by
  refine Met.ofW (cc := cX4_isCaught) (maxL := 3) (ret := (some .boolean)) (by decide) rfl ?_
  intro pg ev s mi args below meth cd s₁ B hml hv
  obtain ⟨hav, hsz, hP, hE, hD, hXs⟩ := hv
  have hx := B.exec
  have hb := B.bytes
  have hr := B.returns
  have hts := atoms_spec (ws := wsX4_isCaught) B.pre
  have hown : s.vm.findClass RX4 = some mi.cls := findClass_of_methodNamed B.named
  have hlocks := B.notSynchronized
  clear B
  subst hav
  subst hsz
  have hA : ∀ q : Nat, s.heap.size ≤ q → (fun q : Nat => s.heap.size ≤ q) q := fun _ h => h
  have hS : va_S (fun q : Nat => s.heap.size ≤ q) s.heap s.heap [] := va_S.rf
  obtain ⟨QQ, hQQ⟩ : ∃ qq9, qq9 = MQ below (va_Qi (fun (r : Int32) (u : Unit) => r = bi (caughtA a i)) (fun _ _ => True) (fun q : Nat => s.heap.size ≤ q)) ([.ref (S 0), .int (nI i)] : List Value).toArray s 0 0 (fun q : Nat => s.heap.size ≤ q) := ⟨_, rfl⟩
  rw [← hQQ]
  have hl := lv_entry ([.ref (S 0), .int (nI i)]) (n := 3) (Nat.le_of_ble_eq_true rfl)
  rw [lg_entry_eq]
  generalize (lg_sl ([.ref (S 0), .int (nI i)]) ++ List.replicate (3 - (lg_sl ([.ref (S 0), .int (nI i)])).length) Slot.unset).toArray = ls at hl ⊢
  have hl : lv_has ls 3 [(0, .ref (S 0)), (1, .int (nI i))] := hl
  have kf56 := hts (.fieldLink RX4 56 "LanternWeirsModel$State" "lanterns" "I") (by decide +kernel)
  have inX4 : ∀ w ∈ u_ws RX4 TX4 13, w ∈ wsX4_isCaught := by decide +kernel
  have kf37 := hts (.fieldLink RX4 37 "LanternWeirsModel$State" "state" "[I") (by decide +kernel)
  have kf22 := hts (.fieldLink RX4 22 "LanternWeirsModel$State" "lane" "[I") (by decide +kernel)
  have kf25 := hts (.fieldLink RX4 25 "LanternWeirsModel$State" "place" "[I") (by decide +kernel)
  have kf15 := hts (.fieldLink RX4 15 "LanternWeirsModel$State" "frame" "[I") (by decide +kernel)
  obtain ⟨H, locs, hP, hS, hgo⟩ : ∃ H locs, va_P D vwCl (wS cA S y a q) H ∧ va_S (fun q : Nat => s.heap.size ≤ q) s.heap H locs ∧ (H = s.heap ∧ locs = []) := ⟨_, _, hP, hS, rfl, rfl⟩
  obtain ⟨hg1, hg2⟩ := hgo
  have hgoal : W pg lch ev (headSpec wsX4_isCaught ({ frames := 0, cells := 0, slots := 0, locals := 0 })).room s mi ([.ref (S 0), .int (nI i)] : List Value).toArray below meth cd H locs 0 0 QQ (F0 mi 0 ls []) := by
    have hn := hw1.1
    obtain ⟨w1, w2, w3, w4, w5, w6, w7, w8⟩ := hw1.2 i hi
    refine lv_iconst (v := 0) hx hb dX4_isCaught_0 (by decide) ?_
    refine lv_istore_n (lv' := [(2, .int 0), (0, .ref (S 0)), (1, .int (nI i))]) hx hb dX4_isCaught_1 rfl hl (by decide) rfl (fun ls hl => ?_)
    have L2 : ∀ (fu2 : Nat) (o : Nat), (o ≤ qN a) → (∀ k, k < o → catches a i k = false) → qN a - o < fu2 → ∀ (H : Heap) (locs : List Loc), va_P D vwCl (wS cA S y a q) H → va_S (fun q : Nat => s.heap.size ≤ q) s.heap H locs → ∀ ls : Array Slot, lv_has ls 3 [(2, .int (nI o)), (0, .ref (S 0)), (1, .int (nI i))] → W pg lch ev (headSpec wsX4_isCaught ({ frames := 0, cells := 0, slots := 0, locals := 0 })).room s mi ([.ref (S 0), .int (nI i)] : List Value).toArray below meth cd H locs 0 0 QQ (F0 mi 2 ls []) := by
      intro fu2
      induction fu2 with
      | zero => intro o ho hall hms; exact absurd hms (Nat.not_lt_zero _)
      | succ fu2 ih2 =>
        intro o ho hall hms2 H locs hP hS ls hl
        refine lv_iload_n hx hb dX4_isCaught_2 rfl (lv_at hl 0 rfl) ?_
        refine lv_aload_n hx hb dX4_isCaught_3 rfl (lv_at hl 1 rfl) ?_
        refine va_get (D := D) (ci := 4) (v := .int (nI (qN a))) (C := RX4) (T := TX4) (N := 13) hx hb hts inX4 hown hE.1 hP 0 rfl rfl 1 (by decide) kf56 (fun _ h9 => h9) rfl dX4_isCaught_4 ?_
        refine lv_icmp_ge (tgt := 74) hx hb dX4_isCaught_7 (by decide) (fun c7 => ?_) (fun c7 => ?_)
        · skip
          have c7 := (nI_leI (a := qN a) (b := o) (by omega) (by omega)).mp c7
          refine lv_iconst (v := 0) hx hb dX4_isCaught_74 (by decide) ?_
          rw [hQQ]
          exact W.zret (v := 0) hx hb hr (by decide) (fun t ht hW => ⟨⟨0, (), rfl, caught_no (fun k hk => hall k (by omega)), trivial⟩, hS.F ht⟩) hS.2.2 dX4_isCaught_75
        · skip
          have c7 := (not_congr (nI_leI (a := qN a) (b := o) (by omega) (by omega))).mp c7
          obtain ⟨v1, v2, v3, v4, v5, v6, v7, v8⟩ := hw1.2 o (by omega)
          refine lv_aload_n hx hb dX4_isCaught_10 rfl (lv_at hl 1 rfl) ?_
          refine va_get (D := D) (ci := 4) (v := .ref (S 8)) (C := RX4) (T := TX4) (N := 13) hx hb hts inX4 hown hE.1 hP 0 rfl rfl 9 (by decide) kf37 (fun _ h9 => h9) rfl dX4_isCaught_11 ?_
          refine lv_iload_n hx hb dX4_isCaught_14 rfl (lv_at hl 0 rfl) ?_
          refine ald hx hb hE hP 8 rfl (k := o) (by omega) (Nat.le_of_ble_eq_true rfl) (v := nI (qSt a o)) rfl dX4_isCaught_15 ?_
          refine lv_if_ne (tgt := 68) hx hb dX4_isCaught_16 (by decide) (fun c16 => ?_) (fun c16 => ?_)
          · skip
            have c16 := (not_congr (nI_eq (a := qSt a o) (b := 0) (by omega) (by omega))).mp c16
            refine lv_iinc (v := nI (o + 1)) (lv' := [(2, .int (nI (o + 1))), (0, .ref (S 0)), (1, .int (nI i))]) hx hb dX4_isCaught_68 hl (k := 0) rfl (nI_add o 1) (by decide) rfl (fun ls hl => ?_)
            refine lv_goto (tgt := 2) hx hb dX4_isCaught_71 (by decide) ?_
            have hno : catches a i o = false := by simp [catches, c16]
            exact ih2 (o + 1) (by omega) (fun k hk => by rcases Nat.lt_or_ge k o with h | h; exact hall k h; rw [show k = o by omega]; exact hno) (by omega) H locs hP hS ls (lv_sub hl [0, 1, 2] rfl)
          · skip
            have c16 := (nI_eq (a := qSt a o) (b := 0) (by omega) (by omega)).mp c16
            refine lv_aload_n hx hb dX4_isCaught_19 rfl (lv_at hl 1 rfl) ?_
            refine va_get (D := D) (ci := 4) (v := .ref (S 3)) (C := RX4) (T := TX4) (N := 13) hx hb hts inX4 hown hE.1 hP 0 rfl rfl 4 (by decide) kf22 (fun _ h9 => h9) rfl dX4_isCaught_20 ?_
            refine lv_iload_n hx hb dX4_isCaught_23 rfl (lv_at hl 0 rfl) ?_
            refine ald hx hb hE hP 3 rfl (k := o) (by omega) (Nat.le_of_ble_eq_true rfl) (v := nI (qLa a o)) rfl dX4_isCaught_24 ?_
            refine lv_aload_n hx hb dX4_isCaught_25 rfl (lv_at hl 1 rfl) ?_
            refine va_get (D := D) (ci := 4) (v := .ref (S 3)) (C := RX4) (T := TX4) (N := 13) hx hb hts inX4 hown hE.1 hP 0 rfl rfl 4 (by decide) kf22 (fun _ h9 => h9) rfl dX4_isCaught_26 ?_
            refine lv_iload_n hx hb dX4_isCaught_29 rfl (lv_at hl 2 rfl) ?_
            refine ald hx hb hE hP 3 rfl (k := i) (by omega) (Nat.le_of_ble_eq_true rfl) (v := nI (qLa a i)) rfl dX4_isCaught_30 ?_
            refine lv_icmp_ne (tgt := 68) hx hb dX4_isCaught_31 (by decide) (fun c31 => ?_) (fun c31 => ?_)
            · skip
              have c31 := (not_congr (nI_eq (a := qLa a o) (b := qLa a i) (by omega) (by omega))).mp c31
              refine lv_iinc (v := nI (o + 1)) (lv' := [(2, .int (nI (o + 1))), (0, .ref (S 0)), (1, .int (nI i))]) hx hb dX4_isCaught_68 hl (k := 0) rfl (nI_add o 1) (by decide) rfl (fun ls hl => ?_)
              refine lv_goto (tgt := 2) hx hb dX4_isCaught_71 (by decide) ?_
              have hno : catches a i o = false := by simp [catches, c31]
              exact ih2 (o + 1) (by omega) (fun k hk => by rcases Nat.lt_or_ge k o with h | h; exact hall k h; rw [show k = o by omega]; exact hno) (by omega) H locs hP hS ls (lv_sub hl [0, 1, 2] rfl)
            · skip
              have c31 := (nI_eq (a := qLa a o) (b := qLa a i) (by omega) (by omega)).mp c31
              refine lv_aload_n hx hb dX4_isCaught_34 rfl (lv_at hl 1 rfl) ?_
              refine va_get (D := D) (ci := 4) (v := .ref (S 4)) (C := RX4) (T := TX4) (N := 13) hx hb hts inX4 hown hE.1 hP 0 rfl rfl 5 (by decide) kf25 (fun _ h9 => h9) rfl dX4_isCaught_35 ?_
              refine lv_iload_n hx hb dX4_isCaught_38 rfl (lv_at hl 0 rfl) ?_
              refine ald hx hb hE hP 4 rfl (k := o) (by omega) (Nat.le_of_ble_eq_true rfl) (v := nI (qPl a o)) rfl dX4_isCaught_39 ?_
              refine lv_aload_n hx hb dX4_isCaught_40 rfl (lv_at hl 1 rfl) ?_
              refine va_get (D := D) (ci := 4) (v := .ref (S 4)) (C := RX4) (T := TX4) (N := 13) hx hb hts inX4 hown hE.1 hP 0 rfl rfl 5 (by decide) kf25 (fun _ h9 => h9) rfl dX4_isCaught_41 ?_
              refine lv_iload_n hx hb dX4_isCaught_44 rfl (lv_at hl 2 rfl) ?_
              refine ald hx hb hE hP 4 rfl (k := i) (by omega) (Nat.le_of_ble_eq_true rfl) (v := nI (qPl a i)) rfl dX4_isCaught_45 ?_
              refine lv_iconst (v := 1) hx hb dX4_isCaught_46 (by decide) ?_
              refine lv_iadd hx hb dX4_isCaught_47 ?_
              refine top_i (y := nI ((qPl a i) + 1)) (nI_add _ _) ?_
              refine lv_icmp_ne (tgt := 68) hx hb dX4_isCaught_48 (by decide) (fun c48 => ?_) (fun c48 => ?_)
              · skip
                have c48 := (not_congr (nI_eq (a := qPl a o) (b := (qPl a i) + 1) (by omega) (by omega))).mp c48
                refine lv_iinc (v := nI (o + 1)) (lv' := [(2, .int (nI (o + 1))), (0, .ref (S 0)), (1, .int (nI i))]) hx hb dX4_isCaught_68 hl (k := 0) rfl (nI_add o 1) (by decide) rfl (fun ls hl => ?_)
                refine lv_goto (tgt := 2) hx hb dX4_isCaught_71 (by decide) ?_
                have hno : catches a i o = false := by simp [catches, c48]
                exact ih2 (o + 1) (by omega) (fun k hk => by rcases Nat.lt_or_ge k o with h | h; exact hall k h; rw [show k = o by omega]; exact hno) (by omega) H locs hP hS ls (lv_sub hl [0, 1, 2] rfl)
              · skip
                have c48 := (nI_eq (a := qPl a o) (b := (qPl a i) + 1) (by omega) (by omega)).mp c48
                refine lv_aload_n hx hb dX4_isCaught_51 rfl (lv_at hl 1 rfl) ?_
                refine va_get (D := D) (ci := 4) (v := .ref (S 1)) (C := RX4) (T := TX4) (N := 13) hx hb hts inX4 hown hE.1 hP 0 rfl rfl 2 (by decide) kf15 (fun _ h9 => h9) rfl dX4_isCaught_52 ?_
                refine lv_iload_n hx hb dX4_isCaught_55 rfl (lv_at hl 0 rfl) ?_
                refine ald hx hb hE hP 1 rfl (k := o) (by omega) (Nat.le_of_ble_eq_true rfl) (v := nI (qFr a o)) rfl dX4_isCaught_56 ?_
                refine lv_aload_n hx hb dX4_isCaught_57 rfl (lv_at hl 1 rfl) ?_
                refine va_get (D := D) (ci := 4) (v := .ref (S 1)) (C := RX4) (T := TX4) (N := 13) hx hb hts inX4 hown hE.1 hP 0 rfl rfl 2 (by decide) kf15 (fun _ h9 => h9) rfl dX4_isCaught_58 ?_
                refine lv_iload_n hx hb dX4_isCaught_61 rfl (lv_at hl 2 rfl) ?_
                refine ald hx hb hE hP 1 rfl (k := i) (by omega) (Nat.le_of_ble_eq_true rfl) (v := nI (qFr a i)) rfl dX4_isCaught_62 ?_
                refine lv_icmp_eq (tgt := 68) hx hb dX4_isCaught_63 (by decide) (fun c63 => ?_) (fun c63 => ?_)
                · skip
                  have c63 := (nI_eq (a := qFr a o) (b := qFr a i) (by omega) (by omega)).mp c63
                  refine lv_iinc (v := nI (o + 1)) (lv' := [(2, .int (nI (o + 1))), (0, .ref (S 0)), (1, .int (nI i))]) hx hb dX4_isCaught_68 hl (k := 0) rfl (nI_add o 1) (by decide) rfl (fun ls hl => ?_)
                  refine lv_goto (tgt := 2) hx hb dX4_isCaught_71 (by decide) ?_
                  have hno : catches a i o = false := by simp [catches, c63]
                  exact ih2 (o + 1) (by omega) (fun k hk => by rcases Nat.lt_or_ge k o with h | h; exact hall k h; rw [show k = o by omega]; exact hno) (by omega) H locs hP hS ls (lv_sub hl [0, 1, 2] rfl)
                · skip
                  have c63 := (not_congr (nI_eq (a := qFr a o) (b := qFr a i) (by omega) (by omega))).mp c63
                  refine lv_iconst (v := 1) hx hb dX4_isCaught_66 (by decide) ?_
                  rw [hQQ]
                  exact W.zret (v := 1) hx hb hr (by decide) (fun t ht hW => ⟨⟨1, (), rfl, by show _ = bi (anyN (qN a) (catches a i)); rw [(any_iff _).mpr ⟨o, by omega, catches_iff.mpr ⟨c16, c31, c48, c63⟩⟩]; rfl, trivial⟩, hS.F ht⟩) hS.2.2 dX4_isCaught_67
    exact L2 (qN a + 1) 0 (Nat.zero_le _) (fun k hk => absurd hk (Nat.not_lt_zero k)) (by omega) H locs hP hS ls (lv_sub hl [0, 1, 2] rfl)
  rw [hg1, hg2] at hgoal
  exact hgoal

set_option maxHeartbeats 4000000 in
set_option maxRecDepth 100000 in
/-- copy -/
theorem K_X4_copy (lch : Launch) (D : va_G) (cA : ClassId) (h : Nat) (o : Nat) (tt : Nat) (n : Nat) (f : Nat → Int32) (g : Nat → Int32) (sz : Nat) (hn : n < 2 ^ 31) : Met lch yX4_copy wsX4_copy ({ frames := 1, cells := 0, slots := 0, locals := 40 }) (Pr D cA [.ref h, .ref o, .ref tt] sz ([(o, .inl (cA, n, .inl (f))), (tt, .inl (cA, n, .inl (g)))] : va_W) X0) (va_Qv (fun (u : Unit) => True) (fun (u : Unit) t => va_P D vwCl ([(o, .inl (cA, n, .inl (f))), (tt, .inl (cA, n, .inl (f)))] : va_W) t.heap) (va_A ([(o, .inl (cA, n, .inl (f))), (tt, .inl (cA, n, .inl (g)))] : va_W) sz)) 0 0 (va_A ([(o, .inl (cA, n, .inl (f))), (tt, .inl (cA, n, .inl (g)))] : va_W) sz) := by
  refine Met.ofW (cc := cX4_copy) (maxL := 3) (ret := none) (by decide) rfl ?_
  intro pg ev s mi args below meth cd s₁ B hml hv
  obtain ⟨hav, hsz, hP, hE, hD, hXs⟩ := hv
  have hx := B.exec
  have hb := B.bytes
  have hr := B.returns
  have hts := atoms_spec (ws := wsX4_copy) B.pre
  have hown : s.vm.findClass RX4 = some mi.cls := findClass_of_methodNamed B.named
  have hlocks := B.notSynchronized
  clear B
  subst hav
  subst hsz
  have hD := hD.self (sz := s.heap.size)
  generalize hAe : va_A ([(o, .inl (cA, n, .inl (f))), (tt, .inl (cA, n, .inl (g)))] : va_W) s.heap.size = A at hD ⊢
  have hA : ∀ q : Nat, s.heap.size ≤ q → A q := fun q h => by rw [← hAe]; exact Or.inr h
  have hS : va_S A s.heap s.heap [] := va_S.rf
  obtain ⟨QQ, hQQ⟩ : ∃ qq9, qq9 = MQ below (va_Qv (fun (u : Unit) => True) (fun (u : Unit) t => va_P D vwCl ([(o, .inl (cA, n, .inl (f))), (tt, .inl (cA, n, .inl (f)))] : va_W) t.heap) A) ([.ref h, .ref o, .ref tt] : List Value).toArray s 0 0 A := ⟨_, rfl⟩
  rw [← hQQ]
  have hl := lv_entry ([.ref h, .ref o, .ref tt]) (n := 3) (Nat.le_of_ble_eq_true rfl)
  rw [lg_entry_eq]
  generalize (lg_sl ([.ref h, .ref o, .ref tt]) ++ List.replicate (3 - (lg_sl ([.ref h, .ref o, .ref tt])).length) Slot.unset).toArray = ls at hl ⊢
  have hl : lv_has ls 3 [(0, .ref h), (1, .ref o), (2, .ref tt)] := hl
  have kw0 := hts (.methodLink RX4 46 arraycopyName) (by decide +kernel)
  have kw1 := hts (.native arraycopyName) (by decide +kernel)
  have kw2 := hts (.static arraycopyName) (by decide +kernel)
  have kw3 := hts (.initialized "java/lang/System") (by decide +kernel)
  obtain ⟨H, locs, hP, hS, hgo⟩ : ∃ H locs, va_P D vwCl ([(o, .inl (cA, n, .inl (f))), (tt, .inl (cA, n, .inl (g)))] : va_W) H ∧ va_S A s.heap H locs ∧ (H = s.heap ∧ locs = []) := ⟨_, _, hP, hS, rfl, rfl⟩
  obtain ⟨hg1, hg2⟩ := hgo
  have hgoal : W pg lch ev (headSpec wsX4_copy ({ frames := 1, cells := 0, slots := 0, locals := 40 })).room s mi ([.ref h, .ref o, .ref tt] : List Value).toArray below meth cd H locs 0 0 QQ (F0 mi 0 ls []) := by
    refine lv_aload_n hx hb dX4_copy_0 rfl (lv_at hl 1 rfl) ?_
    refine lv_iconst (v := 0) hx hb dX4_copy_1 (by decide) ?_
    refine lv_aload_n hx hb dX4_copy_2 rfl (lv_at hl 2 rfl) ?_
    refine lv_iconst (v := 0) hx hb dX4_copy_3 (by decide) ?_
    refine lv_aload_n hx hb dX4_copy_4 rfl (lv_at hl 1 rfl) ?_
    refine va_alen hx hb hE.1 hP 0 0 rfl rfl (v := nI n) rfl dX4_copy_5 ?_
    refine va_copyi hx hb (by rw [hml]; exact hl.1.symm) hown kw0 kw1 kw2 kw3 hE.1 hP hD hS 0 1 0 0 rfl rfl rfl rfl rfl (by decide) (by decide) (nI_pos hn) (by rw [nI_clamp hn]; exact Nat.le_of_eq (Nat.zero_add n)) (by rw [nI_clamp hn]; exact Nat.le_of_eq (Nat.zero_add n)) (fun i _ => rfl) (Nat.le_of_ble_eq_true rfl) (Nat.le_of_ble_eq_true rfl) dX4_copy_6 (fun H locs hP hD hS => ?_)
    have hP : va_P D vwCl ([(o, .inl (cA, n, .inl (f))), (tt, .inl (cA, n, .inl (f)))] : va_W) H := hP.arr 1 f rfl (cpy_all hn)
    rw [hQQ]
    exact W.vret hx hb hr (fun t ht hW => ⟨⟨(), rfl, trivial, by show va_P _ _ _ t.heap; rw [ht]; exact hP⟩, hS.F ht⟩) hS.2.2 dX4_copy_9
  rw [hg1, hg2] at hgoal
  exact hgoal
