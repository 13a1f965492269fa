set_option maxHeartbeats 4000000 in
set_option maxRecDepth 100000 in
/-- become -/
theorem K_X4_become (lch : Launch) (D : va_G) (cA : ClassId) (S : Nat → Nat) (T : Nat → Nat) (y : Nat) (a : FSt) (q : Nat → Int32) (a2 : FSt) (q2 : Nat → Int32) (sz : Nat)  : Met lch yX4_become wsX4_become ({ frames := 2, cells := 0, slots := 0, locals := 62 }) (Pr D cA [.ref (S 0), .ref (T 0)] sz ((wS cA S y a q) ++ (wS cA T y a2 q2)) X0) (va_Qv (fun (u : Unit) => True) (fun (u : Unit) t => va_P D vwCl ((wS cA S y a2 q) ++ (wS cA T y a2 q2)) t.heap) (va_A ((wS cA S y a q) ++ (wS cA T y a2 q2)) sz)) 0 0 (va_A ((wS cA S y a q) ++ (wS cA T y a2 q2)) sz) := by
  refine Met.ofW (cc := cX4_become) (maxL := 2) (ret := none) (by decide) rfl ?_
  intro pg ev s mi args below meth cd s₁ B hml hv
  obtain ⟨hav, hsz, hP, hE, hD, hXs⟩ := hv
  have hx := B.exec
  have hb := B.bytes
  have hr := B.returns
  have hts := atoms_spec (ws := wsX4_become) B.pre
  have hown : s.vm.findClass RX4 = some mi.cls := findClass_of_methodNamed B.named
  have hlocks := B.notSynchronized
  clear B
  subst hav
  subst hsz
  have hD := hD.self (sz := s.heap.size)
  generalize hAe : va_A ((wS cA S y a q) ++ (wS cA T y a2 q2)) s.heap.size = A at hD ⊢
  have hA : ∀ q : Nat, s.heap.size ≤ q → A q := fun q h => by rw [← hAe]; exact Or.inr h
  have hS : va_S A s.heap s.heap [] := va_S.rf
  obtain ⟨QQ, hQQ⟩ : ∃ qq9, qq9 = MQ below (va_Qv (fun (u : Unit) => True) (fun (u : Unit) t => va_P D vwCl ((wS cA S y a2 q) ++ (wS cA T y a2 q2)) t.heap) A) ([.ref (S 0), .ref (T 0)] : List Value).toArray s 0 0 A := ⟨_, rfl⟩
  rw [← hQQ]
  have hl := lv_entry ([.ref (S 0), .ref (T 0)]) (n := 2) (Nat.le_of_ble_eq_true rfl)
  rw [lg_entry_eq]
  generalize (lg_sl ([.ref (S 0), .ref (T 0)]) ++ List.replicate (2 - (lg_sl ([.ref (S 0), .ref (T 0)])).length) Slot.unset).toArray = ls at hl ⊢
  have hl : lv_has ls 2 [(0, .ref (S 0)), (1, .ref (T 0))] := hl
  have kf52 := hts (.fieldLink RX4 52 "LanternWeirsModel$State" "minute" "I") (by decide +kernel)
  have inX4 : ∀ w ∈ u_ws RX4 TX4 13, w ∈ wsX4_become := by decide +kernel
  have kf56 := hts (.fieldLink RX4 56 "LanternWeirsModel$State" "lanterns" "I") (by decide +kernel)
  have kf15 := hts (.fieldLink RX4 15 "LanternWeirsModel$State" "frame" "[I") (by decide +kernel)
  have kf19 := hts (.fieldLink RX4 19 "LanternWeirsModel$State" "wish" "[I") (by decide +kernel)
  have kf22 := hts (.fieldLink RX4 22 "LanternWeirsModel$State" "lane" "[I") (by decide +kernel)
  have kf25 := hts (.fieldLink RX4 25 "LanternWeirsModel$State" "place" "[I") (by decide +kernel)
  have kf28 := hts (.fieldLink RX4 28 "LanternWeirsModel$State" "wax" "[I") (by decide +kernel)
  have kf31 := hts (.fieldLink RX4 31 "LanternWeirsModel$State" "wet" "[I") (by decide +kernel)
  have kf34 := hts (.fieldLink RX4 34 "LanternWeirsModel$State" "burns" "[I") (by decide +kernel)
  have kf37 := hts (.fieldLink RX4 37 "LanternWeirsModel$State" "state" "[I") (by decide +kernel)
  have kf40 := hts (.fieldLink RX4 40 "LanternWeirsModel$State" "ended" "[I") (by decide +kernel)
  obtain ⟨H, locs, hP, hS, hgo⟩ : ∃ H locs, va_P D vwCl ((wS cA S y a q) ++ (wS cA T y a2 q2)) H ∧ va_S A s.heap H locs ∧ (H = s.heap ∧ locs = []) := ⟨_, _, hP, hS, rfl, rfl⟩
  obtain ⟨hg1, hg2⟩ := hgo
  have hgoal : W pg lch ev (headSpec wsX4_become ({ frames := 2, cells := 0, slots := 0, locals := 62 })).room s mi ([.ref (S 0), .ref (T 0)] : List Value).toArray below meth cd H locs 0 0 QQ (F0 mi 0 ls []) := by
    refine lv_aload_n hx hb dX4_become_0 rfl (lv_at hl 0 rfl) ?_
    refine lv_aload_n hx hb dX4_become_1 rfl (lv_at hl 1 rfl) ?_
    refine va_get (D := D) (ci := 4) (v := .int (qM a2)) (C := RX4) (T := TX4) (N := 13) hx hb hts inX4 hown hE.1 hP 11 rfl rfl 0 (by decide) kf52 (fun _ h9 => h9) rfl dX4_become_2 ?_
    refine va_put (D := D) (ci := 4) (v := .int (qM a2)) (ty := .int) (C := RX4) (T := TX4) (N := 13) hx hb hts inX4 tyX4 tyX4_ok nmX4 hown hE.1 hP hD hS 0 rfl rfl 0 (by decide) kf52 (fun _ h9 => h9) rfl (by decide +kernel) rfl rfl (Nat.le_of_ble_eq_true rfl) dX4_become_5 (fun H locs hP hD hS => ?_)
    have hP : va_P D vwCl ((wS cA S y ((qFr a, qWi a, qLa a, qPl a, qWx a, qWe a, qBu a, qSt a, qEn a, qN a, qM a2)) q) ++ (wS cA T y a2 q2)) H := hP
    have hD : va_D A ((wS cA S y ((qFr a, qWi a, qLa a, qPl a, qWx a, qWe a, qBu a, qSt a, qEn a, qN a, qM a2)) q) ++ (wS cA T y a2 q2)) := hD
    refine lv_aload_n hx hb dX4_become_8 rfl (lv_at hl 0 rfl) ?_
    refine lv_aload_n hx hb dX4_become_9 rfl (lv_at hl 1 rfl) ?_
    refine va_get (D := D) (ci := 4) (v := .int (nI (qN a2))) (C := RX4) (T := TX4) (N := 13) hx hb hts inX4 hown hE.1 hP 11 rfl rfl 1 (by decide) kf56 (fun _ h9 => h9) rfl dX4_become_10 ?_
    refine va_put (D := D) (ci := 4) (v := .int (nI (qN a2))) (ty := .int) (C := RX4) (T := TX4) (N := 13) hx hb hts inX4 tyX4 tyX4_ok nmX4 hown hE.1 hP hD hS 0 rfl rfl 1 (by decide) kf56 (fun _ h9 => h9) rfl (by decide +kernel) rfl rfl (Nat.le_of_ble_eq_true rfl) dX4_become_13 (fun H locs hP hD hS => ?_)
    have hP : va_P D vwCl ((wS cA S y ((qFr a, qWi a, qLa a, qPl a, qWx a, qWe a, qBu a, qSt a, qEn a, qN a2, qM a2)) q) ++ (wS cA T y a2 q2)) H := hP
    have hD : va_D A ((wS cA S y ((qFr a, qWi a, qLa a, qPl a, qWx a, qWe a, qBu a, qSt a, qEn a, qN a2, qM a2)) q) ++ (wS cA T y a2 q2)) := hD
    refine lv_aload_n hx hb dX4_become_16 rfl (lv_at hl 0 rfl) ?_
    refine lv_aload_n hx hb dX4_become_17 rfl (lv_at hl 1 rfl) ?_
    refine va_get (D := D) (ci := 4) (v := .ref (T 1)) (C := RX4) (T := TX4) (N := 13) hx hb hts inX4 hown hE.1 hP 11 rfl rfl 2 (by decide) kf15 (fun _ h9 => h9) rfl dX4_become_18 ?_
    refine lv_aload_n hx hb dX4_become_21 rfl (lv_at hl 0 rfl) ?_
    refine va_get (D := D) (ci := 4) (v := .ref (S 1)) (C := RX4) (T := TX4) (N := 13) hx hb hts inX4 hown hE.1 hP 0 rfl rfl 2 (by decide) kf15 (fun _ h9 => h9) rfl dX4_become_22 ?_
    refine cVv (wB := fun (u_2 : Unit) => ([(T 1, .inl (cA, 41, .inl (fun z9 => nI (qFr a2 z9)))), (S 1, .inl (cA, 41, .inl (fun z9 => nI (qFr a2 z9))))] : va_W)) (As := [.ref (T 1), .ref (S 1)]) (rest := []) (wc := ([(T 1, .inl (cA, 41, .inl (fun z9 => nI (qFr a2 z9)))), (S 1, .inl (cA, 41, .inl (fun z9 => nI (qFr ((qFr a, qWi a, qLa a, qPl a, qWx a, qWe a, qBu a, qSt a, qEn a, qN a2, qM a2)) z9))))] : va_W)) ⟨hx, hb, hml, hown, hts⟩ (K_X4_copy lch D cA (S 0) (T 1) (S 1) 41 (fun z9 => nI (qFr a2 z9)) (fun z9 => nI (qFr ((qFr a, qWi a, qLa a, qPl a, qWx a, qWe a, qBu a, qSt a, qEn a, qN a2, qM a2)) z9)) H.size (by decide)) (cwV 2 hts gX4_become_X4_copy rfl rfl rfl (by decide +kernel) ⟨Nat.le_of_ble_eq_true rfl, Nat.le_of_ble_eq_true rfl⟩) hE hP hD hS hA [12, 1] rfl rfl [T 1, S 1] (fun _ => rfl) rfl (fun (u_2 : Unit) => ((wS cA S y ((qFr a2, qWi a, qLa a, qPl a, qWx a, qWe a, qBu a, qSt a, qEn a, qN a2, qM a2)) q) ++ (wS cA T y a2 q2))) (fun _ => rfl) X0.blind (fun _ _ _ => trivial) 0 4 rfl rfl rfl hl.1 rfl rfl (Nat.le_of_ble_eq_true rfl) dX4_become_25 ⟨Nat.zero_le _, Nat.zero_le _⟩ (fun u_2 H locs h_3 hP hD hS => ?_)
    refine lv_aload_n hx hb dX4_become_28 rfl (lv_at hl 0 rfl) ?_
    refine lv_aload_n hx hb dX4_become_29 rfl (lv_at hl 1 rfl) ?_
    refine va_get (D := D) (ci := 4) (v := .ref (T 2)) (C := RX4) (T := TX4) (N := 13) hx hb hts inX4 hown hE.1 hP 11 rfl rfl 3 (by decide) kf19 (fun _ h9 => h9) rfl dX4_become_30 ?_
    refine lv_aload_n hx hb dX4_become_33 rfl (lv_at hl 0 rfl) ?_
    refine va_get (D := D) (ci := 4) (v := .ref (S 2)) (C := RX4) (T := TX4) (N := 13) hx hb hts inX4 hown hE.1 hP 0 rfl rfl 3 (by decide) kf19 (fun _ h9 => h9) rfl dX4_become_34 ?_
    refine cVv (wB := fun (u_5 : Unit) => ([(T 2, .inl (cA, 41, .inl (qWi a2))), (S 2, .inl (cA, 41, .inl (qWi a2)))] : va_W)) (As := [.ref (T 2), .ref (S 2)]) (rest := []) (wc := ([(T 2, .inl (cA, 41, .inl (qWi a2))), (S 2, .inl (cA, 41, .inl (qWi ((qFr a2, qWi a, qLa a, qPl a, qWx a, qWe a, qBu a, qSt a, qEn a, qN a2, qM a2)))))] : va_W)) ⟨hx, hb, hml, hown, hts⟩ (K_X4_copy lch D cA (S 0) (T 2) (S 2) 41 (qWi a2) (qWi ((qFr a2, qWi a, qLa a, qPl a, qWx a, qWe a, qBu a, qSt a, qEn a, qN a2, qM a2))) H.size (by decide)) (cwV 2 hts gX4_become_X4_copy rfl rfl rfl (by decide +kernel) ⟨Nat.le_of_ble_eq_true rfl, Nat.le_of_ble_eq_true rfl⟩) hE hP hD hS hA [13, 2] rfl rfl [T 2, S 2] (fun _ => rfl) rfl (fun (u_5 : Unit) => ((wS cA S y ((qFr a2, qWi a2, qLa a, qPl a, qWx a, qWe a, qBu a, qSt a, qEn a, qN a2, qM a2)) q) ++ (wS cA T y a2 q2))) (fun _ => rfl) X0.blind (fun _ _ _ => trivial) 0 4 rfl rfl rfl hl.1 rfl rfl (Nat.le_of_ble_eq_true rfl) dX4_become_37 ⟨Nat.zero_le _, Nat.zero_le _⟩ (fun u_5 H locs h_6 hP hD hS => ?_)
    refine lv_aload_n hx hb dX4_become_40 rfl (lv_at hl 0 rfl) ?_
    refine lv_aload_n hx hb dX4_become_41 rfl (lv_at hl 1 rfl) ?_
    refine va_get (D := D) (ci := 4) (v := .ref (T 3)) (C := RX4) (T := TX4) (N := 13) hx hb hts inX4 hown hE.1 hP 11 rfl rfl 4 (by decide) kf22 (fun _ h9 => h9) rfl dX4_become_42 ?_
    refine lv_aload_n hx hb dX4_become_45 rfl (lv_at hl 0 rfl) ?_
    refine va_get (D := D) (ci := 4) (v := .ref (S 3)) (C := RX4) (T := TX4) (N := 13) hx hb hts inX4 hown hE.1 hP 0 rfl rfl 4 (by decide) kf22 (fun _ h9 => h9) rfl dX4_become_46 ?_
    refine cVv (wB := fun (u_8 : Unit) => ([(T 3, .inl (cA, 41, .inl (fun z9 => nI (qLa a2 z9)))), (S 3, .inl (cA, 41, .inl (fun z9 => nI (qLa a2 z9))))] : va_W)) (As := [.ref (T 3), .ref (S 3)]) (rest := []) (wc := ([(T 3, .inl (cA, 41, .inl (fun z9 => nI (qLa a2 z9)))), (S 3, .inl (cA, 41, .inl (fun z9 => nI (qLa ((qFr a2, qWi a2, qLa a, qPl a, qWx a, qWe a, qBu a, qSt a, qEn a, qN a2, qM a2)) z9))))] : va_W)) ⟨hx, hb, hml, hown, hts⟩ (K_X4_copy lch D cA (S 0) (T 3) (S 3) 41 (fun z9 => nI (qLa a2 z9)) (fun z9 => nI (qLa ((qFr a2, qWi a2, qLa a, qPl a, qWx a, qWe a, qBu a, qSt a, qEn a, qN a2, qM a2)) z9)) H.size (by decide)) (cwV 2 hts gX4_become_X4_copy rfl rfl rfl (by decide +kernel) ⟨Nat.le_of_ble_eq_true rfl, Nat.le_of_ble_eq_true rfl⟩) hE hP hD hS hA [14, 3] rfl rfl [T 3, S 3] (fun _ => rfl) rfl (fun (u_8 : Unit) => ((wS cA S y ((qFr a2, qWi a2, qLa a2, qPl a, qWx a, qWe a, qBu a, qSt a, qEn a, qN a2, qM a2)) q) ++ (wS cA T y a2 q2))) (fun _ => rfl) X0.blind (fun _ _ _ => trivial) 0 4 rfl rfl rfl hl.1 rfl rfl (Nat.le_of_ble_eq_true rfl) dX4_become_49 ⟨Nat.zero_le _, Nat.zero_le _⟩ (fun u_8 H locs h_9 hP hD hS => ?_)
    refine lv_aload_n hx hb dX4_become_52 rfl (lv_at hl 0 rfl) ?_
    refine lv_aload_n hx hb dX4_become_53 rfl (lv_at hl 1 rfl) ?_
    refine va_get (D := D) (ci := 4) (v := .ref (T 4)) (C := RX4) (T := TX4) (N := 13) hx hb hts inX4 hown hE.1 hP 11 rfl rfl 5 (by decide) kf25 (fun _ h9 => h9) rfl dX4_become_54 ?_
    refine lv_aload_n hx hb dX4_become_57 rfl (lv_at hl 0 rfl) ?_
    refine va_get (D := D) (ci := 4) (v := .ref (S 4)) (C := RX4) (T := TX4) (N := 13) hx hb hts inX4 hown hE.1 hP 0 rfl rfl 5 (by decide) kf25 (fun _ h9 => h9) rfl dX4_become_58 ?_
    refine cVv (wB := fun (u_11 : Unit) => ([(T 4, .inl (cA, 41, .inl (fun z9 => nI (qPl a2 z9)))), (S 4, .inl (cA, 41, .inl (fun z9 => nI (qPl a2 z9))))] : va_W)) (As := [.ref (T 4), .ref (S 4)]) (rest := []) (wc := ([(T 4, .inl (cA, 41, .inl (fun z9 => nI (qPl a2 z9)))), (S 4, .inl (cA, 41, .inl (fun z9 => nI (qPl ((qFr a2, qWi a2, qLa a2, qPl a, qWx a, qWe a, qBu a, qSt a, qEn a, qN a2, qM a2)) z9))))] : va_W)) ⟨hx, hb, hml, hown, hts⟩ (K_X4_copy lch D cA (S 0) (T 4) (S 4) 41 (fun z9 => nI (qPl a2 z9)) (fun z9 => nI (qPl ((qFr a2, qWi a2, qLa a2, qPl a, qWx a, qWe a, qBu a, qSt a, qEn a, qN a2, qM a2)) z9)) H.size (by decide)) (cwV 2 hts gX4_become_X4_copy rfl rfl rfl (by decide +kernel) ⟨Nat.le_of_ble_eq_true rfl, Nat.le_of_ble_eq_true rfl⟩) hE hP hD hS hA [15, 4] rfl rfl [T 4, S 4] (fun _ => rfl) rfl (fun (u_11 : Unit) => ((wS cA S y ((qFr a2, qWi a2, qLa a2, qPl a2, qWx a, qWe a, qBu a, qSt a, qEn a, qN a2, qM a2)) q) ++ (wS cA T y a2 q2))) (fun _ => rfl) X0.blind (fun _ _ _ => trivial) 0 4 rfl rfl rfl hl.1 rfl rfl (Nat.le_of_ble_eq_true rfl) dX4_become_61 ⟨Nat.zero_le _, Nat.zero_le _⟩ (fun u_11 H locs h_12 hP hD hS => ?_)
    refine lv_aload_n hx hb dX4_become_64 rfl (lv_at hl 0 rfl) ?_
    refine lv_aload_n hx hb dX4_become_65 rfl (lv_at hl 1 rfl) ?_
    refine va_get (D := D) (ci := 4) (v := .ref (T 5)) (C := RX4) (T := TX4) (N := 13) hx hb hts inX4 hown hE.1 hP 11 rfl rfl 6 (by decide) kf28 (fun _ h9 => h9) rfl dX4_become_66 ?_
    refine lv_aload_n hx hb dX4_become_69 rfl (lv_at hl 0 rfl) ?_
    refine va_get (D := D) (ci := 4) (v := .ref (S 5)) (C := RX4) (T := TX4) (N := 13) hx hb hts inX4 hown hE.1 hP 0 rfl rfl 6 (by decide) kf28 (fun _ h9 => h9) rfl dX4_become_70 ?_
    refine cVv (wB := fun (u_14 : Unit) => ([(T 5, .inl (cA, 41, .inl (fun z9 => nI (qWx a2 z9)))), (S 5, .inl (cA, 41, .inl (fun z9 => nI (qWx a2 z9))))] : va_W)) (As := [.ref (T 5), .ref (S 5)]) (rest := []) (wc := ([(T 5, .inl (cA, 41, .inl (fun z9 => nI (qWx a2 z9)))), (S 5, .inl (cA, 41, .inl (fun z9 => nI (qWx ((qFr a2, qWi a2, qLa a2, qPl a2, qWx a, qWe a, qBu a, qSt a, qEn a, qN a2, qM a2)) z9))))] : va_W)) ⟨hx, hb, hml, hown, hts⟩ (K_X4_copy lch D cA (S 0) (T 5) (S 5) 41 (fun z9 => nI (qWx a2 z9)) (fun z9 => nI (qWx ((qFr a2, qWi a2, qLa a2, qPl a2, qWx a, qWe a, qBu a, qSt a, qEn a, qN a2, qM a2)) z9)) H.size (by decide)) (cwV 2 hts gX4_become_X4_copy rfl rfl rfl (by decide +kernel) ⟨Nat.le_of_ble_eq_true rfl, Nat.le_of_ble_eq_true rfl⟩) hE hP hD hS hA [16, 5] rfl rfl [T 5, S 5] (fun _ => rfl) rfl (fun (u_14 : Unit) => ((wS cA S y ((qFr a2, qWi a2, qLa a2, qPl a2, qWx a2, qWe a, qBu a, qSt a, qEn a, qN a2, qM a2)) q) ++ (wS cA T y a2 q2))) (fun _ => rfl) X0.blind (fun _ _ _ => trivial) 0 4 rfl rfl rfl hl.1 rfl rfl (Nat.le_of_ble_eq_true rfl) dX4_become_73 ⟨Nat.zero_le _, Nat.zero_le _⟩ (fun u_14 H locs h_15 hP hD hS => ?_)
    refine lv_aload_n hx hb dX4_become_76 rfl (lv_at hl 0 rfl) ?_
    refine lv_aload_n hx hb dX4_become_77 rfl (lv_at hl 1 rfl) ?_
    refine va_get (D := D) (ci := 4) (v := .ref (T 6)) (C := RX4) (T := TX4) (N := 13) hx hb hts inX4 hown hE.1 hP 11 rfl rfl 7 (by decide) kf31 (fun _ h9 => h9) rfl dX4_become_78 ?_
    refine lv_aload_n hx hb dX4_become_81 rfl (lv_at hl 0 rfl) ?_
    refine va_get (D := D) (ci := 4) (v := .ref (S 6)) (C := RX4) (T := TX4) (N := 13) hx hb hts inX4 hown hE.1 hP 0 rfl rfl 7 (by decide) kf31 (fun _ h9 => h9) rfl dX4_become_82 ?_
    refine cVv (wB := fun (u_17 : Unit) => ([(T 6, .inl (cA, 41, .inl (qWe a2))), (S 6, .inl (cA, 41, .inl (qWe a2)))] : va_W)) (As := [.ref (T 6), .ref (S 6)]) (rest := []) (wc := ([(T 6, .inl (cA, 41, .inl (qWe a2))), (S 6, .inl (cA, 41, .inl (qWe ((qFr a2, qWi a2, qLa a2, qPl a2, qWx a2, qWe a, qBu a, qSt a, qEn a, qN a2, qM a2)))))] : va_W)) ⟨hx, hb, hml, hown, hts⟩ (K_X4_copy lch D cA (S 0) (T 6) (S 6) 41 (qWe a2) (qWe ((qFr a2, qWi a2, qLa a2, qPl a2, qWx a2, qWe a, qBu a, qSt a, qEn a, qN a2, qM a2))) H.size (by decide)) (cwV 2 hts gX4_become_X4_copy rfl rfl rfl (by decide +kernel) ⟨Nat.le_of_ble_eq_true rfl, Nat.le_of_ble_eq_true rfl⟩) hE hP hD hS hA [17, 6] rfl rfl [T 6, S 6] (fun _ => rfl) rfl (fun (u_17 : Unit) => ((wS cA S y ((qFr a2, qWi a2, qLa a2, qPl a2, qWx a2, qWe a2, qBu a, qSt a, qEn a, qN a2, qM a2)) q) ++ (wS cA T y a2 q2))) (fun _ => rfl) X0.blind (fun _ _ _ => trivial) 0 4 rfl rfl rfl hl.1 rfl rfl (Nat.le_of_ble_eq_true rfl) dX4_become_85 ⟨Nat.zero_le _, Nat.zero_le _⟩ (fun u_17 H locs h_18 hP hD hS => ?_)
    refine lv_aload_n hx hb dX4_become_88 rfl (lv_at hl 0 rfl) ?_
    refine lv_aload_n hx hb dX4_become_89 rfl (lv_at hl 1 rfl) ?_
    refine va_get (D := D) (ci := 4) (v := .ref (T 7)) (C := RX4) (T := TX4) (N := 13) hx hb hts inX4 hown hE.1 hP 11 rfl rfl 8 (by decide) kf34 (fun _ h9 => h9) rfl dX4_become_90 ?_
    refine lv_aload_n hx hb dX4_become_93 rfl (lv_at hl 0 rfl) ?_
    refine va_get (D := D) (ci := 4) (v := .ref (S 7)) (C := RX4) (T := TX4) (N := 13) hx hb hts inX4 hown hE.1 hP 0 rfl rfl 8 (by decide) kf34 (fun _ h9 => h9) rfl dX4_become_94 ?_
    refine cVv (wB := fun (u_20 : Unit) => ([(T 7, .inl (cA, 41, .inl (fun z9 => bi (qBu a2 z9)))), (S 7, .inl (cA, 41, .inl (fun z9 => bi (qBu a2 z9))))] : va_W)) (As := [.ref (T 7), .ref (S 7)]) (rest := []) (wc := ([(T 7, .inl (cA, 41, .inl (fun z9 => bi (qBu a2 z9)))), (S 7, .inl (cA, 41, .inl (fun z9 => bi (qBu ((qFr a2, qWi a2, qLa a2, qPl a2, qWx a2, qWe a2, qBu a, qSt a, qEn a, qN a2, qM a2)) z9))))] : va_W)) ⟨hx, hb, hml, hown, hts⟩ (K_X4_copy lch D cA (S 0) (T 7) (S 7) 41 (fun z9 => bi (qBu a2 z9)) (fun z9 => bi (qBu ((qFr a2, qWi a2, qLa a2, qPl a2, qWx a2, qWe a2, qBu a, qSt a, qEn a, qN a2, qM a2)) z9)) H.size (by decide)) (cwV 2 hts gX4_become_X4_copy rfl rfl rfl (by decide +kernel) ⟨Nat.le_of_ble_eq_true rfl, Nat.le_of_ble_eq_true rfl⟩) hE hP hD hS hA [18, 7] rfl rfl [T 7, S 7] (fun _ => rfl) rfl (fun (u_20 : Unit) => ((wS cA S y ((qFr a2, qWi a2, qLa a2, qPl a2, qWx a2, qWe a2, qBu a2, qSt a, qEn a, qN a2, qM a2)) q) ++ (wS cA T y a2 q2))) (fun _ => rfl) X0.blind (fun _ _ _ => trivial) 0 4 rfl rfl rfl hl.1 rfl rfl (Nat.le_of_ble_eq_true rfl) dX4_become_97 ⟨Nat.zero_le _, Nat.zero_le _⟩ (fun u_20 H locs h_21 hP hD hS => ?_)
    refine lv_aload_n hx hb dX4_become_100 rfl (lv_at hl 0 rfl) ?_
    refine lv_aload_n hx hb dX4_become_101 rfl (lv_at hl 1 rfl) ?_
    refine va_get (D := D) (ci := 4) (v := .ref (T 8)) (C := RX4) (T := TX4) (N := 13) hx hb hts inX4 hown hE.1 hP 11 rfl rfl 9 (by decide) kf37 (fun _ h9 => h9) rfl dX4_become_102 ?_
    refine lv_aload_n hx hb dX4_become_105 rfl (lv_at hl 0 rfl) ?_
    refine va_get (D := D) (ci := 4) (v := .ref (S 8)) (C := RX4) (T := TX4) (N := 13) hx hb hts inX4 hown hE.1 hP 0 rfl rfl 9 (by decide) kf37 (fun _ h9 => h9) rfl dX4_become_106 ?_
    refine cVv (wB := fun (u_23 : Unit) => ([(T 8, .inl (cA, 41, .inl (fun z9 => nI (qSt a2 z9)))), (S 8, .inl (cA, 41, .inl (fun z9 => nI (qSt a2 z9))))] : va_W)) (As := [.ref (T 8), .ref (S 8)]) (rest := []) (wc := ([(T 8, .inl (cA, 41, .inl (fun z9 => nI (qSt a2 z9)))), (S 8, .inl (cA, 41, .inl (fun z9 => nI (qSt ((qFr a2, qWi a2, qLa a2, qPl a2, qWx a2, qWe a2, qBu a2, qSt a, qEn a, qN a2, qM a2)) z9))))] : va_W)) ⟨hx, hb, hml, hown, hts⟩ (K_X4_copy lch D cA (S 0) (T 8) (S 8) 41 (fun z9 => nI (qSt a2 z9)) (fun z9 => nI (qSt ((qFr a2, qWi a2, qLa a2, qPl a2, qWx a2, qWe a2, qBu a2, qSt a, qEn a, qN a2, qM a2)) z9)) H.size (by decide)) (cwV 2 hts gX4_become_X4_copy rfl rfl rfl (by decide +kernel) ⟨Nat.le_of_ble_eq_true rfl, Nat.le_of_ble_eq_true rfl⟩) hE hP hD hS hA [19, 8] rfl rfl [T 8, S 8] (fun _ => rfl) rfl (fun (u_23 : Unit) => ((wS cA S y ((qFr a2, qWi a2, qLa a2, qPl a2, qWx a2, qWe a2, qBu a2, qSt a2, qEn a, qN a2, qM a2)) q) ++ (wS cA T y a2 q2))) (fun _ => rfl) X0.blind (fun _ _ _ => trivial) 0 4 rfl rfl rfl hl.1 rfl rfl (Nat.le_of_ble_eq_true rfl) dX4_become_109 ⟨Nat.zero_le _, Nat.zero_le _⟩ (fun u_23 H locs h_24 hP hD hS => ?_)
    refine lv_aload_n hx hb dX4_become_112 rfl (lv_at hl 0 rfl) ?_
    refine lv_aload_n hx hb dX4_become_113 rfl (lv_at hl 1 rfl) ?_
    refine va_get (D := D) (ci := 4) (v := .ref (T 9)) (C := RX4) (T := TX4) (N := 13) hx hb hts inX4 hown hE.1 hP 11 rfl rfl 10 (by decide) kf40 (fun _ h9 => h9) rfl dX4_become_114 ?_
    refine lv_aload_n hx hb dX4_become_117 rfl (lv_at hl 0 rfl) ?_
    refine va_get (D := D) (ci := 4) (v := .ref (S 9)) (C := RX4) (T := TX4) (N := 13) hx hb hts inX4 hown hE.1 hP 0 rfl rfl 10 (by decide) kf40 (fun _ h9 => h9) rfl dX4_become_118 ?_
    refine cVv (wB := fun (u_26 : Unit) => ([(T 9, .inl (cA, 41, .inl (qEn a2))), (S 9, .inl (cA, 41, .inl (qEn a2)))] : va_W)) (As := [.ref (T 9), .ref (S 9)]) (rest := []) (wc := ([(T 9, .inl (cA, 41, .inl (qEn a2))), (S 9, .inl (cA, 41, .inl (qEn ((qFr a2, qWi a2, qLa a2, qPl a2, qWx a2, qWe a2, qBu a2, qSt a2, qEn a, qN a2, qM a2)))))] : va_W)) ⟨hx, hb, hml, hown, hts⟩ (K_X4_copy lch D cA (S 0) (T 9) (S 9) 41 (qEn a2) (qEn ((qFr a2, qWi a2, qLa a2, qPl a2, qWx a2, qWe a2, qBu a2, qSt a2, qEn a, qN a2, qM a2))) H.size (by decide)) (cwV 2 hts gX4_become_X4_copy rfl rfl rfl (by decide +kernel) ⟨Nat.le_of_ble_eq_true rfl, Nat.le_of_ble_eq_true rfl⟩) hE hP hD hS hA [20, 9] rfl rfl [T 9, S 9] (fun _ => rfl) rfl (fun (u_26 : Unit) => ((wS cA S y ((qFr a2, qWi a2, qLa a2, qPl a2, qWx a2, qWe a2, qBu a2, qSt a2, qEn a2, qN a2, qM a2)) q) ++ (wS cA T y a2 q2))) (fun _ => rfl) X0.blind (fun _ _ _ => trivial) 0 4 rfl rfl rfl hl.1 rfl rfl (Nat.le_of_ble_eq_true rfl) dX4_become_121 ⟨Nat.zero_le _, Nat.zero_le _⟩ (fun u_26 H locs h_27 hP hD hS => ?_)
    have hP : va_P D vwCl ((wS cA S y a2 q) ++ (wS cA T y a2 q2)) H := hP
    rw [hQQ]
    exact W.vret hx hb hr (fun t ht hW => ⟨⟨(), rfl, trivial, by show va_P _ _ _ t.heap; rw [ht]; exact hP⟩, hS.F ht⟩) hS.2.2 dX4_become_124
  rw [hg1, hg2] at hgoal
  exact hgoal

set_option maxHeartbeats 4000000 in
set_option maxRecDepth 100000 in
/-- launch -/
theorem K_X4_launch (lch : Launch) (D : va_G) (cA : ClassId) (S : Nat → Nat) (y : Nat) (a : FSt) (q : Nat → Int32) (z1 : Nat) (z2 : Nat) (f : Nat) (w : Int32) (l : Nat) (p : Nat) (sz : Nat) (hn40 : qN a ≤ 40) (hf : f < 3) : Met lch yX4_launch wsX4_launch ({ frames := 0, cells := 0, slots := 0, locals := 0 }) (Pr D cA [.ref (S 0), .int (nI f), .int w, .int (nI l), .int (nI p)] sz (wS cA S y a q) (SX z1 z2 (va_A (wS cA S y a q) sz))) (va_Qi (fun (r : Int32) (u : Unit) => r = nI (qN a)) (fun (u : Unit) t => va_P D vwCl (wS cA S y (addA a f w l p) q) t.heap) (va_A (wS cA S y a q) sz)) 0 0 (va_A (wS cA S y a q) sz) := by
  refine Met.ofW (cc := cX4_launch) (maxL := 5) (ret := (some .int)) (by decide) rfl ?_
  intro pg ev s mi args below meth cd s₁ B hml hv
  obtain ⟨hav, hsz, hP, hE, hD, hXs⟩ := hv
  have hx := B.exec
  have hb := B.bytes
  have hr := B.returns
  have hts := atoms_spec (ws := wsX4_launch) B.pre
  have hown : s.vm.findClass RX4 = some mi.cls := findClass_of_methodNamed B.named
  have hlocks := B.notSynchronized
  clear B
  subst hav
  subst hsz
  have hD := hD.self (sz := s.heap.size)
  generalize hAe : va_A (wS cA S y a q) s.heap.size = A at hD hXs ⊢
  have hA : ∀ q : Nat, s.heap.size ≤ q → A q := fun q h => by rw [← hAe]; exact Or.inr h
  have hS : va_S A s.heap s.heap [] := va_S.rf
  obtain ⟨QQ, hQQ⟩ : ∃ qq9, qq9 = MQ below (va_Qi (fun (r : Int32) (u : Unit) => r = nI (qN a)) (fun (u : Unit) t => va_P D vwCl (wS cA S y (addA a f w l p) q) t.heap) A) ([.ref (S 0), .int (nI f), .int w, .int (nI l), .int (nI p)] : List Value).toArray s 0 0 A := ⟨_, rfl⟩
  rw [← hQQ]
  have hl := lv_entry ([.ref (S 0), .int (nI f), .int w, .int (nI l), .int (nI p)]) (n := 5) (Nat.le_of_ble_eq_true rfl)
  rw [lg_entry_eq]
  generalize (lg_sl ([.ref (S 0), .int (nI f), .int w, .int (nI l), .int (nI p)]) ++ List.replicate (5 - (lg_sl ([.ref (S 0), .int (nI f), .int w, .int (nI l), .int (nI p)])).length) Slot.unset).toArray = ls at hl ⊢
  have hl : lv_has ls 5 [(0, .ref (S 0)), (1, .int (nI f)), (2, .int w), (3, .int (nI l)), (4, .int (nI p))] := hl
  have kf15 := hts (.fieldLink RX4 15 "LanternWeirsModel$State" "frame" "[I") (by decide +kernel)
  have inX4 : ∀ w ∈ u_ws RX4 TX4 13, w ∈ wsX4_launch := by decide +kernel
  have kf56 := hts (.fieldLink RX4 56 "LanternWeirsModel$State" "lanterns" "I") (by decide +kernel)
  have kf19 := hts (.fieldLink RX4 19 "LanternWeirsModel$State" "wish" "[I") (by decide +kernel)
  have kf22 := hts (.fieldLink RX4 22 "LanternWeirsModel$State" "lane" "[I") (by decide +kernel)
  have kf25 := hts (.fieldLink RX4 25 "LanternWeirsModel$State" "place" "[I") (by decide +kernel)
  have kf28 := hts (.fieldLink RX4 28 "LanternWeirsModel$State" "wax" "[I") (by decide +kernel)
  have kgs63 := va_Nw.use (A := ([.ref (S 0), .int (nI f), .int w, .int (nI l), .int (nI p)] : List Value).toArray) rfl (hE.2.2 (.fieldLinkNest "LanternWeirsModel$State" 63 "LanternWeirsModel" "WAX" "[I" "LanternWeirsModel") (by decide +kernel))
  have kf31 := hts (.fieldLink RX4 31 "LanternWeirsModel$State" "wet" "[I") (by decide +kernel)
  have kf34 := hts (.fieldLink RX4 34 "LanternWeirsModel$State" "burns" "[I") (by decide +kernel)
  have kf37 := hts (.fieldLink RX4 37 "LanternWeirsModel$State" "state" "[I") (by decide +kernel)
  have kf40 := hts (.fieldLink RX4 40 "LanternWeirsModel$State" "ended" "[I") (by decide +kernel)
  obtain ⟨H, locs, hP, hS, hgo⟩ : ∃ H locs, va_P D vwCl (wS cA S y a q) H ∧ va_S A s.heap H locs ∧ (H = s.heap ∧ locs = []) := ⟨_, _, hP, hS, rfl, rfl⟩
  obtain ⟨hg1, hg2⟩ := hgo
  have hgoal : W pg lch ev (headSpec wsX4_launch ({ frames := 0, cells := 0, slots := 0, locals := 0 })).room s mi ([.ref (S 0), .int (nI f), .int w, .int (nI l), .int (nI p)] : List Value).toArray below meth cd H locs 0 0 QQ (F0 mi 0 ls []) := by
    refine lv_aload_n hx hb dX4_launch_0 rfl (lv_at hl 0 rfl) ?_
    refine va_get (D := D) (ci := 4) (v := .ref (S 1)) (C := RX4) (T := TX4) (N := 13) hx hb hts inX4 hown hE.1 hP 0 rfl rfl 2 (by decide) kf15 (fun _ h9 => h9) rfl dX4_launch_1 ?_
    refine lv_aload_n hx hb dX4_launch_4 rfl (lv_at hl 0 rfl) ?_
    refine va_get (D := D) (ci := 4) (v := .int (nI (qN a))) (C := RX4) (T := TX4) (N := 13) hx hb hts inX4 hown hE.1 hP 0 rfl rfl 1 (by decide) kf56 (fun _ h9 => h9) rfl dX4_launch_5 ?_
    refine lv_iload_n hx hb dX4_launch_8 rfl (lv_at hl 1 rfl) ?_
    refine ast hx hb hE hP hD hS 1 rfl (k := qN a) (by show qN a < 41; omega) (Nat.le_of_ble_eq_true rfl) (fun z9 => nI (qFr ((up (qFr a) (qN a) f, qWi a, qLa a, qPl a, qWx a, qWe a, qBu a, qSt a, qEn a, qN a, qM a)) z9)) (fun j _ => upd_N j) dX4_launch_9 (fun H locs hP hD hS => ?_)
    have hP : va_P D vwCl (wS cA S y ((up (qFr a) (qN a) f, qWi a, qLa a, qPl a, qWx a, qWe a, qBu a, qSt a, qEn a, qN a, qM a)) q) H := hP
    have hD : va_D A (wS cA S y ((up (qFr a) (qN a) f, qWi a, qLa a, qPl a, qWx a, qWe a, qBu a, qSt a, qEn a, qN a, qM a)) q) := hD
    refine lv_aload_n hx hb dX4_launch_10 rfl (lv_at hl 0 rfl) ?_
    refine va_get (D := D) (ci := 4) (v := .ref (S 2)) (C := RX4) (T := TX4) (N := 13) hx hb hts inX4 hown hE.1 hP 0 rfl rfl 3 (by decide) kf19 (fun _ h9 => h9) rfl dX4_launch_11 ?_
    refine lv_aload_n hx hb dX4_launch_14 rfl (lv_at hl 0 rfl) ?_
    refine va_get (D := D) (ci := 4) (v := .int (nI (qN ((up (qFr a) (qN a) f, qWi a, qLa a, qPl a, qWx a, qWe a, qBu a, qSt a, qEn a, qN a, qM a))))) (C := RX4) (T := TX4) (N := 13) hx hb hts inX4 hown hE.1 hP 0 rfl rfl 1 (by decide) kf56 (fun _ h9 => h9) rfl dX4_launch_15 ?_
    refine lv_iload_n hx hb dX4_launch_18 rfl (lv_at hl 2 rfl) ?_
    refine ast hx hb hE hP hD hS 2 rfl (k := qN ((up (qFr a) (qN a) f, qWi a, qLa a, qPl a, qWx a, qWe a, qBu a, qSt a, qEn a, qN a, qM a))) (by show qN a < 41; omega) (Nat.le_of_ble_eq_true rfl) (qWi ((up (qFr a) (qN a) f, up (qWi a) (qN a) w, qLa a, qPl a, qWx a, qWe a, qBu a, qSt a, qEn a, qN a, qM a))) (fun j _ => upd_I j) dX4_launch_19 (fun H locs hP hD hS => ?_)
    have hP : va_P D vwCl (wS cA S y ((up (qFr a) (qN a) f, up (qWi a) (qN a) w, qLa a, qPl a, qWx a, qWe a, qBu a, qSt a, qEn a, qN a, qM a)) q) H := hP
    have hD : va_D A (wS cA S y ((up (qFr a) (qN a) f, up (qWi a) (qN a) w, qLa a, qPl a, qWx a, qWe a, qBu a, qSt a, qEn a, qN a, qM a)) q) := hD
    refine lv_aload_n hx hb dX4_launch_20 rfl (lv_at hl 0 rfl) ?_
    refine va_get (D := D) (ci := 4) (v := .ref (S 3)) (C := RX4) (T := TX4) (N := 13) hx hb hts inX4 hown hE.1 hP 0 rfl rfl 4 (by decide) kf22 (fun _ h9 => h9) rfl dX4_launch_21 ?_
    refine lv_aload_n hx hb dX4_launch_24 rfl (lv_at hl 0 rfl) ?_
    refine va_get (D := D) (ci := 4) (v := .int (nI (qN ((up (qFr a) (qN a) f, up (qWi a) (qN a) w, qLa a, qPl a, qWx a, qWe a, qBu a, qSt a, qEn a, qN a, qM a))))) (C := RX4) (T := TX4) (N := 13) hx hb hts inX4 hown hE.1 hP 0 rfl rfl 1 (by decide) kf56 (fun _ h9 => h9) rfl dX4_launch_25 ?_
    refine lv_iload_n hx hb dX4_launch_28 rfl (lv_at hl 3 rfl) ?_
    refine ast hx hb hE hP hD hS 3 rfl (k := qN ((up (qFr a) (qN a) f, up (qWi a) (qN a) w, qLa a, qPl a, qWx a, qWe a, qBu a, qSt a, qEn a, qN a, qM a))) (by show qN a < 41; omega) (Nat.le_of_ble_eq_true rfl) (fun z9 => nI (qLa ((up (qFr a) (qN a) f, up (qWi a) (qN a) w, up (qLa a) (qN a) l, qPl a, qWx a, qWe a, qBu a, qSt a, qEn a, qN a, qM a)) z9)) (fun j _ => upd_N j) dX4_launch_29 (fun H locs hP hD hS => ?_)
    have hP : va_P D vwCl (wS cA S y ((up (qFr a) (qN a) f, up (qWi a) (qN a) w, up (qLa a) (qN a) l, qPl a, qWx a, qWe a, qBu a, qSt a, qEn a, qN a, qM a)) q) H := hP
    have hD : va_D A (wS cA S y ((up (qFr a) (qN a) f, up (qWi a) (qN a) w, up (qLa a) (qN a) l, qPl a, qWx a, qWe a, qBu a, qSt a, qEn a, qN a, qM a)) q) := hD
    refine lv_aload_n hx hb dX4_launch_30 rfl (lv_at hl 0 rfl) ?_
    refine va_get (D := D) (ci := 4) (v := .ref (S 4)) (C := RX4) (T := TX4) (N := 13) hx hb hts inX4 hown hE.1 hP 0 rfl rfl 5 (by decide) kf25 (fun _ h9 => h9) rfl dX4_launch_31 ?_
    refine lv_aload_n hx hb dX4_launch_34 rfl (lv_at hl 0 rfl) ?_
    refine va_get (D := D) (ci := 4) (v := .int (nI (qN ((up (qFr a) (qN a) f, up (qWi a) (qN a) w, up (qLa a) (qN a) l, qPl a, qWx a, qWe a, qBu a, qSt a, qEn a, qN a, qM a))))) (C := RX4) (T := TX4) (N := 13) hx hb hts inX4 hown hE.1 hP 0 rfl rfl 1 (by decide) kf56 (fun _ h9 => h9) rfl dX4_launch_35 ?_
    refine lv_iload hx hb dX4_launch_38 (lv_at hl 4 rfl) ?_
    refine ast hx hb hE hP hD hS 4 rfl (k := qN ((up (qFr a) (qN a) f, up (qWi a) (qN a) w, up (qLa a) (qN a) l, qPl a, qWx a, qWe a, qBu a, qSt a, qEn a, qN a, qM a))) (by show qN a < 41; omega) (Nat.le_of_ble_eq_true rfl) (fun z9 => nI (qPl ((up (qFr a) (qN a) f, up (qWi a) (qN a) w, up (qLa a) (qN a) l, up (qPl a) (qN a) p, qWx a, qWe a, qBu a, qSt a, qEn a, qN a, qM a)) z9)) (fun j _ => upd_N j) dX4_launch_40 (fun H locs hP hD hS => ?_)
    have hP : va_P D vwCl (wS cA S y ((up (qFr a) (qN a) f, up (qWi a) (qN a) w, up (qLa a) (qN a) l, up (qPl a) (qN a) p, qWx a, qWe a, qBu a, qSt a, qEn a, qN a, qM a)) q) H := hP
    have hD : va_D A (wS cA S y ((up (qFr a) (qN a) f, up (qWi a) (qN a) w, up (qLa a) (qN a) l, up (qPl a) (qN a) p, qWx a, qWe a, qBu a, qSt a, qEn a, qN a, qM a)) q) := hD
    refine lv_aload_n hx hb dX4_launch_41 rfl (lv_at hl 0 rfl) ?_
    refine va_get (D := D) (ci := 4) (v := .ref (S 5)) (C := RX4) (T := TX4) (N := 13) hx hb hts inX4 hown hE.1 hP 0 rfl rfl 6 (by decide) kf28 (fun _ h9 => h9) rfl dX4_launch_42 ?_
    refine lv_aload_n hx hb dX4_launch_45 rfl (lv_at hl 0 rfl) ?_
    refine va_get (D := D) (ci := 4) (v := .int (nI (qN ((up (qFr a) (qN a) f, up (qWi a) (qN a) w, up (qLa a) (qN a) l, up (qPl a) (qN a) p, qWx a, qWe a, qBu a, qSt a, qEn a, qN a, qM a))))) (C := RX4) (T := TX4) (N := 13) hx hb hts inX4 hown hE.1 hP 0 rfl rfl 1 (by decide) kf56 (fun _ h9 => h9) rfl dX4_launch_46 ?_
    refine va_getsN hx hb hXs.1 hS hown kgs63 (fun _ h9 => h9) dX4_launch_49 ?_
    refine lv_iload_n hx hb dX4_launch_52 rfl (lv_at hl 1 rfl) ?_
    refine sld hx hb hXs.2.2.1 hXs.2.2.2.2.1 hXs.2.2.2.2.2.2.1 hS (k := f) (by omega) (by decide) (v := nI (waxOf f)) rfl dX4_launch_53 ?_
    refine ast hx hb hE hP hD hS 5 rfl (k := qN ((up (qFr a) (qN a) f, up (qWi a) (qN a) w, up (qLa a) (qN a) l, up (qPl a) (qN a) p, qWx a, qWe a, qBu a, qSt a, qEn a, qN a, qM a))) (by show qN a < 41; omega) (Nat.le_of_ble_eq_true rfl) (fun z9 => nI (qWx ((up (qFr a) (qN a) f, up (qWi a) (qN a) w, up (qLa a) (qN a) l, up (qPl a) (qN a) p, up (qWx a) (qN a) (waxOf f), qWe a, qBu a, qSt a, qEn a, qN a, qM a)) z9)) (fun j _ => upd_N j) dX4_launch_54 (fun H locs hP hD hS => ?_)
    have hP : va_P D vwCl (wS cA S y ((up (qFr a) (qN a) f, up (qWi a) (qN a) w, up (qLa a) (qN a) l, up (qPl a) (qN a) p, up (qWx a) (qN a) (waxOf f), qWe a, qBu a, qSt a, qEn a, qN a, qM a)) q) H := hP
    have hD : va_D A (wS cA S y ((up (qFr a) (qN a) f, up (qWi a) (qN a) w, up (qLa a) (qN a) l, up (qPl a) (qN a) p, up (qWx a) (qN a) (waxOf f), qWe a, qBu a, qSt a, qEn a, qN a, qM a)) q) := hD
    refine lv_aload_n hx hb dX4_launch_55 rfl (lv_at hl 0 rfl) ?_
    refine va_get (D := D) (ci := 4) (v := .ref (S 6)) (C := RX4) (T := TX4) (N := 13) hx hb hts inX4 hown hE.1 hP 0 rfl rfl 7 (by decide) kf31 (fun _ h9 => h9) rfl dX4_launch_56 ?_
    refine lv_aload_n hx hb dX4_launch_59 rfl (lv_at hl 0 rfl) ?_
    refine va_get (D := D) (ci := 4) (v := .int (nI (qN ((up (qFr a) (qN a) f, up (qWi a) (qN a) w, up (qLa a) (qN a) l, up (qPl a) (qN a) p, up (qWx a) (qN a) (waxOf f), qWe a, qBu a, qSt a, qEn a, qN a, qM a))))) (C := RX4) (T := TX4) (N := 13) hx hb hts inX4 hown hE.1 hP 0 rfl rfl 1 (by decide) kf56 (fun _ h9 => h9) rfl dX4_launch_60 ?_
    refine lv_iconst (v := 0) hx hb dX4_launch_63 (by decide) ?_
    refine ast hx hb hE hP hD hS 6 rfl (k := qN ((up (qFr a) (qN a) f, up (qWi a) (qN a) w, up (qLa a) (qN a) l, up (qPl a) (qN a) p, up (qWx a) (qN a) (waxOf f), qWe a, qBu a, qSt a, qEn a, qN a, qM a))) (by show qN a < 41; omega) (Nat.le_of_ble_eq_true rfl) (qWe ((up (qFr a) (qN a) f, up (qWi a) (qN a) w, up (qLa a) (qN a) l, up (qPl a) (qN a) p, up (qWx a) (qN a) (waxOf f), up (qWe a) (qN a) 0, qBu a, qSt a, qEn a, qN a, qM a))) (fun j _ => upd_I j) dX4_launch_64 (fun H locs hP hD hS => ?_)
    have hP : va_P D vwCl (wS cA S y ((up (qFr a) (qN a) f, up (qWi a) (qN a) w, up (qLa a) (qN a) l, up (qPl a) (qN a) p, up (qWx a) (qN a) (waxOf f), up (qWe a) (qN a) 0, qBu a, qSt a, qEn a, qN a, qM a)) q) H := hP
    have hD : va_D A (wS cA S y ((up (qFr a) (qN a) f, up (qWi a) (qN a) w, up (qLa a) (qN a) l, up (qPl a) (qN a) p, up (qWx a) (qN a) (waxOf f), up (qWe a) (qN a) 0, qBu a, qSt a, qEn a, qN a, qM a)) q) := hD
    refine lv_aload_n hx hb dX4_launch_65 rfl (lv_at hl 0 rfl) ?_
    refine va_get (D := D) (ci := 4) (v := .ref (S 7)) (C := RX4) (T := TX4) (N := 13) hx hb hts inX4 hown hE.1 hP 0 rfl rfl 8 (by decide) kf34 (fun _ h9 => h9) rfl dX4_launch_66 ?_
    refine lv_aload_n hx hb dX4_launch_69 rfl (lv_at hl 0 rfl) ?_
    refine va_get (D := D) (ci := 4) (v := .int (nI (qN ((up (qFr a) (qN a) f, up (qWi a) (qN a) w, up (qLa a) (qN a) l, up (qPl a) (qN a) p, up (qWx a) (qN a) (waxOf f), up (qWe a) (qN a) 0, qBu a, qSt a, qEn a, qN a, qM a))))) (C := RX4) (T := TX4) (N := 13) hx hb hts inX4 hown hE.1 hP 0 rfl rfl 1 (by decide) kf56 (fun _ h9 => h9) rfl dX4_launch_70 ?_
    refine lv_iconst (v := 1) hx hb dX4_launch_73 (by decide) ?_
    refine ast hx hb hE hP hD hS 7 rfl (k := qN ((up (qFr a) (qN a) f, up (qWi a) (qN a) w, up (qLa a) (qN a) l, up (qPl a) (qN a) p, up (qWx a) (qN a) (waxOf f), up (qWe a) (qN a) 0, qBu a, qSt a, qEn a, qN a, qM a))) (by show qN a < 41; omega) (Nat.le_of_ble_eq_true rfl) (fun z9 => bi (qBu ((up (qFr a) (qN a) f, up (qWi a) (qN a) w, up (qLa a) (qN a) l, up (qPl a) (qN a) p, up (qWx a) (qN a) (waxOf f), up (qWe a) (qN a) 0, up (qBu a) (qN a) true, qSt a, qEn a, qN a, qM a)) z9)) (fun j _ => upd_B (v := true) j) dX4_launch_74 (fun H locs hP hD hS => ?_)
    have hP : va_P D vwCl (wS cA S y ((up (qFr a) (qN a) f, up (qWi a) (qN a) w, up (qLa a) (qN a) l, up (qPl a) (qN a) p, up (qWx a) (qN a) (waxOf f), up (qWe a) (qN a) 0, up (qBu a) (qN a) true, qSt a, qEn a, qN a, qM a)) q) H := hP
    have hD : va_D A (wS cA S y ((up (qFr a) (qN a) f, up (qWi a) (qN a) w, up (qLa a) (qN a) l, up (qPl a) (qN a) p, up (qWx a) (qN a) (waxOf f), up (qWe a) (qN a) 0, up (qBu a) (qN a) true, qSt a, qEn a, qN a, qM a)) q) := hD
    refine lv_aload_n hx hb dX4_launch_75 rfl (lv_at hl 0 rfl) ?_
    refine va_get (D := D) (ci := 4) (v := .ref (S 8)) (C := RX4) (T := TX4) (N := 13) hx hb hts inX4 hown hE.1 hP 0 rfl rfl 9 (by decide) kf37 (fun _ h9 => h9) rfl dX4_launch_76 ?_
    refine lv_aload_n hx hb dX4_launch_79 rfl (lv_at hl 0 rfl) ?_
    refine va_get (D := D) (ci := 4) (v := .int (nI (qN ((up (qFr a) (qN a) f, up (qWi a) (qN a) w, up (qLa a) (qN a) l, up (qPl a) (qN a) p, up (qWx a) (qN a) (waxOf f), up (qWe a) (qN a) 0, up (qBu a) (qN a) true, qSt a, qEn a, qN a, qM a))))) (C := RX4) (T := TX4) (N := 13) hx hb hts inX4 hown hE.1 hP 0 rfl rfl 1 (by decide) kf56 (fun _ h9 => h9) rfl dX4_launch_80 ?_
    refine lv_iconst (v := 0) hx hb dX4_launch_83 (by decide) ?_
    refine ast hx hb hE hP hD hS 8 rfl (k := qN ((up (qFr a) (qN a) f, up (qWi a) (qN a) w, up (qLa a) (qN a) l, up (qPl a) (qN a) p, up (qWx a) (qN a) (waxOf f), up (qWe a) (qN a) 0, up (qBu a) (qN a) true, qSt a, qEn a, qN a, qM a))) (by show qN a < 41; omega) (Nat.le_of_ble_eq_true rfl) (fun z9 => nI (qSt ((up (qFr a) (qN a) f, up (qWi a) (qN a) w, up (qLa a) (qN a) l, up (qPl a) (qN a) p, up (qWx a) (qN a) (waxOf f), up (qWe a) (qN a) 0, up (qBu a) (qN a) true, up (qSt a) (qN a) 0, qEn a, qN a, qM a)) z9)) (fun j _ => upd_N (v := 0) j) dX4_launch_84 (fun H locs hP hD hS => ?_)
    have hP : va_P D vwCl (wS cA S y ((up (qFr a) (qN a) f, up (qWi a) (qN a) w, up (qLa a) (qN a) l, up (qPl a) (qN a) p, up (qWx a) (qN a) (waxOf f), up (qWe a) (qN a) 0, up (qBu a) (qN a) true, up (qSt a) (qN a) 0, qEn a, qN a, qM a)) q) H := hP
    have hD : va_D A (wS cA S y ((up (qFr a) (qN a) f, up (qWi a) (qN a) w, up (qLa a) (qN a) l, up (qPl a) (qN a) p, up (qWx a) (qN a) (waxOf f), up (qWe a) (qN a) 0, up (qBu a) (qN a) true, up (qSt a) (qN a) 0, qEn a, qN a, qM a)) q) := hD
    refine lv_aload_n hx hb dX4_launch_85 rfl (lv_at hl 0 rfl) ?_
    refine va_get (D := D) (ci := 4) (v := .ref (S 9)) (C := RX4) (T := TX4) (N := 13) hx hb hts inX4 hown hE.1 hP 0 rfl rfl 10 (by decide) kf40 (fun _ h9 => h9) rfl dX4_launch_86 ?_
    refine lv_aload_n hx hb dX4_launch_89 rfl (lv_at hl 0 rfl) ?_
    refine va_get (D := D) (ci := 4) (v := .int (nI (qN ((up (qFr a) (qN a) f, up (qWi a) (qN a) w, up (qLa a) (qN a) l, up (qPl a) (qN a) p, up (qWx a) (qN a) (waxOf f), up (qWe a) (qN a) 0, up (qBu a) (qN a) true, up (qSt a) (qN a) 0, qEn a, qN a, qM a))))) (C := RX4) (T := TX4) (N := 13) hx hb hts inX4 hown hE.1 hP 0 rfl rfl 1 (by decide) kf56 (fun _ h9 => h9) rfl dX4_launch_90 ?_
    refine lv_iconst (v := (-1)) hx hb dX4_launch_93 (by decide) ?_
    refine ast hx hb hE hP hD hS 9 rfl (k := qN ((up (qFr a) (qN a) f, up (qWi a) (qN a) w, up (qLa a) (qN a) l, up (qPl a) (qN a) p, up (qWx a) (qN a) (waxOf f), up (qWe a) (qN a) 0, up (qBu a) (qN a) true, up (qSt a) (qN a) 0, qEn a, qN a, qM a))) (by show qN a < 41; omega) (Nat.le_of_ble_eq_true rfl) (qEn ((up (qFr a) (qN a) f, up (qWi a) (qN a) w, up (qLa a) (qN a) l, up (qPl a) (qN a) p, up (qWx a) (qN a) (waxOf f), up (qWe a) (qN a) 0, up (qBu a) (qN a) true, up (qSt a) (qN a) 0, up (qEn a) (qN a) (-1), qN a, qM a))) (fun j _ => upd_I j) dX4_launch_94 (fun H locs hP hD hS => ?_)
    have hP : va_P D vwCl (wS cA S y ((up (qFr a) (qN a) f, up (qWi a) (qN a) w, up (qLa a) (qN a) l, up (qPl a) (qN a) p, up (qWx a) (qN a) (waxOf f), up (qWe a) (qN a) 0, up (qBu a) (qN a) true, up (qSt a) (qN a) 0, up (qEn a) (qN a) (-1), qN a, qM a)) q) H := hP
    have hD : va_D A (wS cA S y ((up (qFr a) (qN a) f, up (qWi a) (qN a) w, up (qLa a) (qN a) l, up (qPl a) (qN a) p, up (qWx a) (qN a) (waxOf f), up (qWe a) (qN a) 0, up (qBu a) (qN a) true, up (qSt a) (qN a) 0, up (qEn a) (qN a) (-1), qN a, qM a)) q) := hD
    refine lv_aload_n hx hb dX4_launch_95 rfl (lv_at hl 0 rfl) ?_
    refine lv_dup hx hb dX4_launch_96 rfl ?_
    refine va_get (D := D) (ci := 4) (v := .int (nI (qN ((up (qFr a) (qN a) f, up (qWi a) (qN a) w, up (qLa a) (qN a) l, up (qPl a) (qN a) p, up (qWx a) (qN a) (waxOf f), up (qWe a) (qN a) 0, up (qBu a) (qN a) true, up (qSt a) (qN a) 0, up (qEn a) (qN a) (-1), qN a, qM a))))) (C := RX4) (T := TX4) (N := 13) hx hb hts inX4 hown hE.1 hP 0 rfl rfl 1 (by decide) kf56 (fun _ h9 => h9) rfl dX4_launch_97 ?_
    refine lv_iconst (v := 1) hx hb dX4_launch_100 (by decide) ?_
    refine lv_iadd hx hb dX4_launch_101 ?_
    refine top_i (y := nI ((qN ((up (qFr a) (qN a) f, up (qWi a) (qN a) w, up (qLa a) (qN a) l, up (qPl a) (qN a) p, up (qWx a) (qN a) (waxOf f), up (qWe a) (qN a) 0, up (qBu a) (qN a) true, up (qSt a) (qN a) 0, up (qEn a) (qN a) (-1), qN a, qM a))) + 1)) (nI_add _ _) ?_
    refine va_put (D := D) (ci := 4) (v := .int (nI ((qN ((up (qFr a) (qN a) f, up (qWi a) (qN a) w, up (qLa a) (qN a) l, up (qPl a) (qN a) p, up (qWx a) (qN a) (waxOf f), up (qWe a) (qN a) 0, up (qBu a) (qN a) true, up (qSt a) (qN a) 0, up (qEn a) (qN a) (-1), qN a, qM a))) + 1))) (ty := .int) (C := RX4) (T := TX4) (N := 13) hx hb hts inX4 tyX4 tyX4_ok nmX4 hown hE.1 hP hD hS 0 rfl rfl 1 (by decide) kf56 (fun _ h9 => h9) rfl (by decide +kernel) rfl rfl (Nat.le_of_ble_eq_true rfl) dX4_launch_102 (fun H locs hP hD hS => ?_)
    have hP : va_P D vwCl (wS cA S y (addA a f w l p) q) H := hP
    have hD : va_D A (wS cA S y (addA a f w l p) q) := hD
    refine lv_aload_n hx hb dX4_launch_105 rfl (lv_at hl 0 rfl) ?_
    refine va_get (D := D) (ci := 4) (v := .int (nI (qN (addA a f w l p)))) (C := RX4) (T := TX4) (N := 13) hx hb hts inX4 hown hE.1 hP 0 rfl rfl 1 (by decide) kf56 (fun _ h9 => h9) rfl dX4_launch_106 ?_
    refine lv_iconst (v := 1) hx hb dX4_launch_109 (by decide) ?_
    refine lv_isub hx hb dX4_launch_110 ?_
    refine top_i (y := nI (qN a)) (nI_pred _) ?_
    rw [hQQ]
    exact W.iret (v := nI (qN a)) hx hb hr (fun t ht hW => ⟨⟨nI (qN a), (), rfl, rfl, by show va_P _ _ _ t.heap; rw [ht]; exact hP⟩, hS.F ht⟩) hS.2.2 dX4_launch_111
  rw [hg1, hg2] at hgoal
  exact hgoal

set_option maxHeartbeats 4000000 in
set_option maxRecDepth 100000 in
/-- sort -/
theorem K_X4_sort (lch : Launch) (D : va_G) (cA : ClassId) (S : Nat → Nat) (y : Nat) (a : FSt) (q : Nat → Int32) (sz : Nat) (hw1 : WFa a) : Met lch yX4_sort wsX4_sort ({ frames := 1, cells := 0, slots := 0, locals := 22 }) (Pr D cA [.ref (S 0)] sz (wS cA S y a q) X0) (va_Qi (fun (r : Int32) (u : Nat → Int32) => r = nI (ordM a) ∧ OK u (ordF a) (ordM a)) (fun (u : Nat → Int32) t => va_P D vwCl (wS cA S y a u) t.heap) (va_A (wS cA S y a q) sz)) 0 0 (va_A (wS cA S y a q) sz) := by
  refine Met.ofW (cc := cX4_sort) (maxL := 4) (ret := (some .int)) (by decide) rfl ?_
  intro pg ev s mi args below meth cd s₁ B hml hv
  obtain ⟨hav, hsz, hP, hE, hD, hXs⟩ := hv
  have hx := B.exec
  have hb := B.bytes
  have hr := B.returns
  have hts := atoms_spec (ws := wsX4_sort) B.pre
  have hown : s.vm.findClass RX4 = some mi.cls := findClass_of_methodNamed B.named
  have hlocks := B.notSynchronized
  clear B
  subst hav
  subst hsz
  have hD := hD.self (sz := s.heap.size)
  generalize hAe : va_A (wS cA S y a q) s.heap.size = A at hD ⊢
  have hA : ∀ q : Nat, s.heap.size ≤ q → A q := fun q h => by rw [← hAe]; exact Or.inr h
  have hS : va_S A s.heap s.heap [] := va_S.rf
  obtain ⟨QQ, hQQ⟩ : ∃ qq9, qq9 = MQ below (va_Qi (fun (r : Int32) (u : Nat → Int32) => r = nI (ordM a) ∧ OK u (ordF a) (ordM a)) (fun (u : Nat → Int32) t => va_P D vwCl (wS cA S y a u) t.heap) A) ([.ref (S 0)] : List Value).toArray s 0 0 A := ⟨_, rfl⟩
  rw [← hQQ]
  have hl := lv_entry ([.ref (S 0)]) (n := 4) (Nat.le_of_ble_eq_true rfl)
  rw [lg_entry_eq]
  generalize (lg_sl ([.ref (S 0)]) ++ List.replicate (4 - (lg_sl ([.ref (S 0)])).length) Slot.unset).toArray = ls at hl ⊢
  have hl : lv_has ls 4 [(0, .ref (S 0))] := hl
  have kf56 := hts (.fieldLink RX4 56 "LanternWeirsModel$State" "lanterns" "I") (by decide +kernel)
  have inX4 : ∀ w ∈ u_ws RX4 TX4 13, w ∈ wsX4_sort := by decide +kernel
  have kf37 := hts (.fieldLink RX4 37 "LanternWeirsModel$State" "state" "[I") (by decide +kernel)
  have kf43 := hts (.fieldLink RX4 43 "LanternWeirsModel$State" "order" "[I") (by decide +kernel)
  obtain ⟨H, locs, hP, hS, hgo⟩ : ∃ H locs, va_P D vwCl (wS cA S y a q) H ∧ va_S A s.heap H locs ∧ (H = s.heap ∧ locs = []) := ⟨_, _, hP, hS, rfl, rfl⟩
  obtain ⟨hg1, hg2⟩ := hgo
  have hgoal : W pg lch ev (headSpec wsX4_sort ({ frames := 1, cells := 0, slots := 0, locals := 22 })).room s mi ([.ref (S 0)] : List Value).toArray below meth cd H locs 0 0 QQ (F0 mi 0 ls []) := by
    refine lv_iconst (v := 0) hx hb dX4_sort_0 (by decide) ?_
    refine lv_istore_n (lv' := [(1, .int 0), (0, .ref (S 0))]) hx hb dX4_sort_1 rfl hl (by decide) rfl (fun ls hl => ?_)
    refine lv_iconst (v := 0) hx hb dX4_sort_2 (by decide) ?_
    refine lv_istore_n (lv' := [(2, .int 0), (1, .int 0), (0, .ref (S 0))]) hx hb dX4_sort_3 rfl hl (by decide) rfl (fun ls hl => ?_)
    have L4 : ∀ (fu4 : Nat) (i : Nat) (g : Nat → Int32), (i ≤ qN a) → (OK g (sortN a i).2 (sortN a i).1) → qN a - i < fu4 → ∀ (H : Heap) (locs : List Loc), va_P D vwCl (wS cA S y a g) H → va_D A (wS cA S y a g) → va_S A s.heap H locs → ∀ ls : Array Slot, lv_has ls 4 [(2, .int (nI i)), (1, .int (nI ((sortN a i).1))), (0, .ref (S 0))] → W pg lch ev (headSpec wsX4_sort ({ frames := 1, cells := 0, slots := 0, locals := 22 })).room s mi ([.ref (S 0)] : List Value).toArray below meth cd H locs 0 0 QQ (F0 mi 4 ls []) := by
      intro fu4
      induction fu4 with
      | zero => intro i g hi hq hms; exact absurd hms (Nat.not_lt_zero _)
      | succ fu4 ih4 =>
        intro i g hi hq hms4 H locs hP hD hS ls hl
        have hn := hw1.1
        have hso := sort_ok (a := a) i
        refine lv_iload_n hx hb dX4_sort_4 rfl (lv_at hl 0 rfl) ?_
        refine lv_aload_n hx hb dX4_sort_5 rfl (lv_at hl 2 rfl) ?_
        refine va_get (D := D) (ci := 4) (v := .int (nI (qN a))) (C := RX4) (T := TX4) (N := 13) hx hb hts inX4 hown hE.1 hP 0 rfl rfl 1 (by decide) kf56 (fun _ h9 => h9) rfl dX4_sort_6 ?_
        refine lv_icmp_ge (tgt := 82) hx hb dX4_sort_9 (by decide) (fun c9 => ?_) (fun c9 => ?_)
        · skip
          have c9 := (nI_leI (a := qN a) (b := i) (by omega) (by omega)).mp c9
          refine lv_iload_n hx hb dX4_sort_82 rfl (lv_at hl 1 rfl) ?_
          have ei : i = qN a := by omega
          have hq : OK g (ordF a) (ordM a) := by rw [ei] at hq; exact hq
          rw [hQQ]
          exact W.iret (v := nI ((sortN a i).1)) hx hb hr (fun t ht hW => ⟨⟨nI ((sortN a i).1), g, rfl, ⟨by rw [ei]; rfl, hq⟩, by show va_P _ _ _ t.heap; rw [ht]; exact hP⟩, hS.F ht⟩) hS.2.2 dX4_sort_83
        · skip
          have c9 := (not_congr (nI_leI (a := qN a) (b := i) (by omega) (by omega))).mp c9
          obtain ⟨w1, w2, w3, w4, w5, w6, w7, w8⟩ := hw1.2 i (by omega)
          refine lv_aload_n hx hb dX4_sort_12 rfl (lv_at hl 2 rfl) ?_
          refine va_get (D := D) (ci := 4) (v := .ref (S 8)) (C := RX4) (T := TX4) (N := 13) hx hb hts inX4 hown hE.1 hP 0 rfl rfl 9 (by decide) kf37 (fun _ h9 => h9) rfl dX4_sort_13 ?_
          refine lv_iload_n hx hb dX4_sort_16 rfl (lv_at hl 0 rfl) ?_
          refine ald hx hb hE hP 8 rfl (k := i) (by omega) (Nat.le_of_ble_eq_true rfl) (v := nI (qSt a i)) rfl dX4_sort_17 ?_
          refine lv_if_eq (tgt := 24) hx hb dX4_sort_18 (by decide) (fun c18 => ?_) (fun c18 => ?_)
          · skip
            have c18 := (nI_eq (a := qSt a i) (b := 0) (by omega) (by omega)).mp c18
            refine lv_iload_n hx hb dX4_sort_24 rfl (lv_at hl 1 rfl) ?_
            refine lv_istore_n (lv' := [(3, .int (nI ((sortN a i).1))), (2, .int (nI i)), (1, .int (nI ((sortN a i).1))), (0, .ref (S 0))]) hx hb dX4_sort_25 rfl hl (by decide) rfl (fun ls hl => ?_)
            have L26 : ∀ (fu26 : Nat) (t : Nat) (o : Nat → Nat) (g2 : Nat → Int32), (t ≤ (sortN a i).1) → (shiftO (aheadA a i) (sortN a i).1 (sortN a i).2 = shiftO (aheadA a i) t o) → (OH g2 o (sortN a i).1 t i) → t < fu26 → ∀ (H : Heap) (locs : List Loc), va_P D vwCl (wS cA S y a g2) H → va_D A (wS cA S y a g2) → va_S A s.heap H locs → ∀ ls : Array Slot, lv_has ls 4 [(3, .int (nI t)), (2, .int (nI i)), (1, .int (nI ((sortN a i).1))), (0, .ref (S 0))] → W pg lch ev (headSpec wsX4_sort ({ frames := 1, cells := 0, slots := 0, locals := 22 })).room s mi ([.ref (S 0)] : List Value).toArray below meth cd H locs 0 0 QQ (F0 mi 26 ls []) := by
              intro fu26
              induction fu26 with
              | zero => intro t o g2 ht hs hqh hms; exact absurd hms (Nat.not_lt_zero _)
              | succ fu26 ih26 =>
                intro t o g2 ht hs hqh hms26 H locs hP hD hS ls hl
                refine lv_iload_n hx hb dX4_sort_26 rfl (lv_at hl 0 rfl) ?_
                refine lv_if_le (tgt := 66) hx hb dX4_sort_27 (by decide) (fun c27 => ?_) (fun c27 => ?_)
                · skip
                  have c27 := (nI_leI (a := t) (b := 0) (by omega) (by omega)).mp c27
                  have et : t = 0 := by omega
                  have hs9 : shiftO (aheadA a i) (sortN a i).1 (sortN a i).2 = (t, o) := by rw [hs, et]; rfl
                  have hq9 := OH_end (i := i) hqh hs9
                  refine lv_aload_n hx hb dX4_sort_66 rfl (lv_at hl 3 rfl) ?_
                  refine va_get (D := D) (ci := 4) (v := .ref (S 10)) (C := RX4) (T := TX4) (N := 13) hx hb hts inX4 hown hE.1 hP 0 rfl rfl 11 (by decide) kf43 (fun _ h9 => h9) rfl dX4_sort_67 ?_
                  refine lv_iload_n hx hb dX4_sort_70 rfl (lv_at hl 0 rfl) ?_
                  refine lv_iload_n hx hb dX4_sort_71 rfl (lv_at hl 1 rfl) ?_
                  refine ast hx hb hE hP hD hS 10 rfl (k := t) (by omega) (Nat.le_of_ble_eq_true rfl) (up g2 t (nI i)) (fun j _ => upd_I j) dX4_sort_72 (fun H locs hP hD hS => ?_)
                  have hP : va_P D vwCl (wS cA S y a (up g2 t (nI i))) H := hP
                  have hD : va_D A (wS cA S y a (up g2 t (nI i))) := hD
                  refine lv_iinc (v := nI (((sortN a i).1) + 1)) (lv' := [(1, .int (nI (((sortN a i).1) + 1))), (3, .int (nI t)), (2, .int (nI i)), (0, .ref (S 0))]) hx hb dX4_sort_73 hl (k := 2) rfl (nI_add ((sortN a i).1) 1) (by decide) rfl (fun ls hl => ?_)
                  refine lv_iinc (v := nI (i + 1)) (lv' := [(2, .int (nI (i + 1))), (1, .int (nI (((sortN a i).1) + 1))), (3, .int (nI t)), (0, .ref (S 0))]) hx hb dX4_sort_76 hl (k := 2) rfl (nI_add i 1) (by decide) rfl (fun ls hl => ?_)
                  refine lv_goto (tgt := 4) hx hb dX4_sort_79 (by decide) ?_
                  have e9 := sort_in (a := a) (i := i) c18
                  have e1 : (sortN a i).1 + 1 = (sortN a (i + 1)).1 := by rw [e9]
                  have e2 : insO (aheadA a i) i (sortN a i).1 (sortN a i).2 = (sortN a (i + 1)).2 := by rw [e9]
                  rw [e1] at hl
                  rw [e1, e2] at hq9
                  exact ih4 (i + 1) (up g2 t (nI i)) (by omega) (hq9) (by omega) H locs hP hD hS ls (lv_sub hl [0, 1, 3] rfl)
                · skip
                  have c27 := (not_congr (nI_leI (a := t) (b := 0) (by omega) (by omega))).mp c27
                  refine lv_aload_n hx hb dX4_sort_30 rfl (lv_at hl 3 rfl) ?_
                  refine lv_iload_n hx hb dX4_sort_31 rfl (lv_at hl 1 rfl) ?_
                  refine lv_aload_n hx hb dX4_sort_32 rfl (lv_at hl 3 rfl) ?_
                  refine va_get (D := D) (ci := 4) (v := .ref (S 10)) (C := RX4) (T := TX4) (N := 13) hx hb hts inX4 hown hE.1 hP 0 rfl rfl 11 (by decide) kf43 (fun _ h9 => h9) rfl dX4_sort_33 ?_
                  refine lv_iload_n hx hb dX4_sort_36 rfl (lv_at hl 0 rfl) ?_
                  refine lv_iconst (v := 1) hx hb dX4_sort_37 (by decide) ?_
                  refine lv_isub hx hb dX4_sort_38 ?_
                  refine top_i (y := nI (t - 1)) (pk_sub (a := t) (b := 1) (by omega)) ?_
                  refine ald hx hb hE hP 10 rfl (k := t - 1) (by omega) (Nat.le_of_ble_eq_true rfl) (v := g2 (t - 1)) rfl dX4_sort_39 ?_
                  have hv := hqh (t - 1) (by omega) (by omega)
                  have hvv := hw1.2 (o (t - 1)) (by omega)
                  refine top_i (y := nI (o (t - 1))) hv.1 ?_
                  refine pVi (As := [.int (nI i), .int (nI (o (t - 1)))]) (rest := []) (wc := (wS cA S y a g2)) ⟨hx, hb, hml, hown, hts⟩ (K_X4_isAhead lch D cA S y a g2 i (o (t - 1)) H.size (by omega) (by omega) (w3) (hvv.2.2.1) (w2) (hvv.2.1)) (cwV 2 hts gX4_sort_X4_isAhead rfl rfl rfl (by decide +kernel) ⟨Nat.le_of_ble_eq_true rfl, Nat.le_of_ble_eq_true rfl⟩) hE hP hD hS hA [0, 1, 2, 3, 4, 5, 6, 7, 8, 9, 10] rfl rfl X0.blind (fun _ _ _ => trivial) 0 4 rfl rfl rfl hl.1 rfl rfl (Nat.le_of_ble_eq_true rfl) dX4_sort_40 ⟨Nat.zero_le _, Nat.zero_le _⟩ (fun r_1 u_2 H locs h_3 hP hS => ?_)
                  subst h_3
                  refine lv_if_eq (tgt := 66) hx hb dX4_sort_43 (by decide) (fun c43 => ?_) (fun c43 => ?_)
                  · skip
                    have c43 := bi_0.mp c43
                    have hst := shift_stop (P := aheadA a i) (t := t - 1) (g := o) (by rw [c43]; decide)
                    rw [show t - 1 + 1 = t by omega] at hst
                    rw [hst] at hs
                    have hq9 := OH_end (i := i) hqh hs
                    refine lv_aload_n hx hb dX4_sort_66 rfl (lv_at hl 3 rfl) ?_
                    refine va_get (D := D) (ci := 4) (v := .ref (S 10)) (C := RX4) (T := TX4) (N := 13) hx hb hts inX4 hown hE.1 hP 0 rfl rfl 11 (by decide) kf43 (fun _ h9 => h9) rfl dX4_sort_67 ?_
                    refine lv_iload_n hx hb dX4_sort_70 rfl (lv_at hl 0 rfl) ?_
                    refine lv_iload_n hx hb dX4_sort_71 rfl (lv_at hl 1 rfl) ?_
                    refine ast hx hb hE hP hD hS 10 rfl (k := t) (by omega) (Nat.le_of_ble_eq_true rfl) (up g2 t (nI i)) (fun j _ => upd_I j) dX4_sort_72 (fun H locs hP hD hS => ?_)
                    have hP : va_P D vwCl (wS cA S y a (up g2 t (nI i))) H := hP
                    have hD : va_D A (wS cA S y a (up g2 t (nI i))) := hD
                    refine lv_iinc (v := nI (((sortN a i).1) + 1)) (lv' := [(1, .int (nI (((sortN a i).1) + 1))), (3, .int (nI t)), (2, .int (nI i)), (0, .ref (S 0))]) hx hb dX4_sort_73 hl (k := 2) rfl (nI_add ((sortN a i).1) 1) (by decide) rfl (fun ls hl => ?_)
                    refine lv_iinc (v := nI (i + 1)) (lv' := [(2, .int (nI (i + 1))), (1, .int (nI (((sortN a i).1) + 1))), (3, .int (nI t)), (0, .ref (S 0))]) hx hb dX4_sort_76 hl (k := 2) rfl (nI_add i 1) (by decide) rfl (fun ls hl => ?_)
                    refine lv_goto (tgt := 4) hx hb dX4_sort_79 (by decide) ?_
                    have e9 := sort_in (a := a) (i := i) c18
                    have e1 : (sortN a i).1 + 1 = (sortN a (i + 1)).1 := by rw [e9]
                    have e2 : insO (aheadA a i) i (sortN a i).1 (sortN a i).2 = (sortN a (i + 1)).2 := by rw [e9]
                    rw [e1] at hl
                    rw [e1, e2] at hq9
                    exact ih4 (i + 1) (up g2 t (nI i)) (by omega) (hq9) (by omega) H locs hP hD hS ls (lv_sub hl [0, 1, 3] rfl)
                  · skip
                    have c43 := bi_1.mp c43
                    refine lv_aload_n hx hb dX4_sort_46 rfl (lv_at hl 3 rfl) ?_
                    refine va_get (D := D) (ci := 4) (v := .ref (S 10)) (C := RX4) (T := TX4) (N := 13) hx hb hts inX4 hown hE.1 hP 0 rfl rfl 11 (by decide) kf43 (fun _ h9 => h9) rfl dX4_sort_47 ?_
                    refine lv_iload_n hx hb dX4_sort_50 rfl (lv_at hl 0 rfl) ?_
                    refine lv_aload_n hx hb dX4_sort_51 rfl (lv_at hl 3 rfl) ?_
                    refine va_get (D := D) (ci := 4) (v := .ref (S 10)) (C := RX4) (T := TX4) (N := 13) hx hb hts inX4 hown hE.1 hP 0 rfl rfl 11 (by decide) kf43 (fun _ h9 => h9) rfl dX4_sort_52 ?_
                    refine lv_iload_n hx hb dX4_sort_55 rfl (lv_at hl 0 rfl) ?_
                    refine lv_iconst (v := 1) hx hb dX4_sort_56 (by decide) ?_
                    refine lv_isub hx hb dX4_sort_57 ?_
                    refine top_i (y := nI (t - 1)) (pk_sub (a := t) (b := 1) (by omega)) ?_
                    refine ald hx hb hE hP 10 rfl (k := t - 1) (by omega) (Nat.le_of_ble_eq_true rfl) (v := g2 (t - 1)) rfl dX4_sort_58 ?_
                    refine ast hx hb hE hP hD hS 10 rfl (k := t) (by omega) (Nat.le_of_ble_eq_true rfl) (up g2 t (g2 (t - 1))) (fun j _ => upd_I j) dX4_sort_59 (fun H locs hP hD hS => ?_)
                    have hP : va_P D vwCl (wS cA S y a (up g2 t (g2 (t - 1)))) H := hP
                    have hD : va_D A (wS cA S y a (up g2 t (g2 (t - 1)))) := hD
                    refine lv_iinc (v := nI (t - 1)) (lv' := [(3, .int (nI (t - 1))), (2, .int (nI i)), (1, .int (nI ((sortN a i).1))), (0, .ref (S 0))]) hx hb dX4_sort_60 hl (k := 0) rfl (dec_nI t (by omega)) (by decide) rfl (fun ls hl => ?_)
                    refine lv_goto (tgt := 26) hx hb dX4_sort_63 (by decide) ?_
                    have hst := shift_go (P := aheadA a i) (t := t - 1) (g := o) c43
                    rw [show t - 1 + 1 = t by omega] at hst
                    have hqs := OH_step (m := (sortN a i).1) (t := t - 1) (by omega) (by rw [show t - 1 + 1 = t by omega]; exact hqh)
                    rw [show t - 1 + 1 = t by omega] at hqs
                    exact ih26 (t - 1) (up o t (o (t - 1))) (up g2 t (g2 (t - 1))) (by omega) (hs.trans hst) (hqs) (by omega) H locs hP hD hS ls (lv_sub hl [0, 1, 2, 3] rfl)
            exact L26 ((sortN a i).1 + 1) ((sortN a i).1) ((sortN a i).2) g (Nat.le_refl _) (rfl) (OH_start hso.2 hq) (by omega) H locs hP hD hS ls (lv_sub hl [0, 1, 2, 3] rfl)
          · skip
            have c18 := (not_congr (nI_eq (a := qSt a i) (b := 0) (by omega) (by omega))).mp c18
            refine lv_goto (tgt := 76) hx hb dX4_sort_21 (by decide) ?_
            refine lv_iinc (v := nI (i + 1)) (lv' := [(2, .int (nI (i + 1))), (1, .int (nI ((sortN a i).1))), (0, .ref (S 0))]) hx hb dX4_sort_76 hl (k := 0) rfl (nI_add i 1) (by decide) rfl (fun ls hl => ?_)
            refine lv_goto (tgt := 4) hx hb dX4_sort_79 (by decide) ?_
            have e9 := sort_out (a := a) (i := i) c18
            rw [← e9] at hl hq
            exact ih4 (i + 1) g (by omega) (hq) (by omega) H locs hP hD hS ls (lv_sub hl [0, 1, 2] rfl)
    exact L4 (qN a + 1) 0 q (Nat.zero_le _) (fun j hj => absurd hj (Nat.not_lt_zero j)) (by omega) H locs hP hD hS ls (lv_sub hl [0, 1, 2] rfl)
  rw [hg1, hg2] at hgoal
  exact hgoal
