set_option maxHeartbeats 4000000 in
set_option maxRecDepth 100000 in
/-- light -/
theorem K_X5_light (lch : Launch) (D : va_G) (cA : ClassId) (y : Nat) (E : Nat → Nat) (S : Nat → Nat) (T : Nat → Nat) (th : Int32) (b : BSt) (a : FSt) (q : Nat → Int32) (a2 : FSt) (q2 : Nat → Int32) (z1 : Nat) (z2 : Nat) (k : Int32) (sz : Nat) (hw1 : WFa a) : Met lch yX5_light wsX5_light ({ frames := 2, cells := 0, slots := 0, locals := 43 }) (Pr D cA [.ref y, .int k] sz ((wM cA y E (S 0) (T 0) th b) ++ ((wS cA S y a q) ++ (wS cA T y a2 q2))) (SX z1 z2 (va_A ((wM cA y E (S 0) (T 0) th b) ++ ((wS cA S y a q) ++ (wS cA T y a2 q2))) sz))) (va_Qi (fun (r : Int32) (u : FSt) => (cdLight a k = 0 → r = nI (qWx a (k).toNatClampNeg) ∧ u = uBu a (up (qBu a) (k).toNatClampNeg true)) ∧ (¬ cdLight a k = 0 → r = 0 ∧ u = a)) (fun (u : FSt) t => va_P D vwCl ((wM cA y E (S 0) (T 0) (nI (cdLight a k)) b) ++ ((wS cA S y u q) ++ (wS cA T y a2 q2))) t.heap) (va_A ((wM cA y E (S 0) (T 0) th b) ++ ((wS cA S y a q) ++ (wS cA T y a2 q2))) sz)) 0 0 (va_A ((wM cA y E (S 0) (T 0) th b) ++ ((wS cA S y a q) ++ (wS cA T y a2 q2))) sz) := by
  refine Met.ofW (cc := cX5_light) (maxL := 2) (ret := (some .int)) (by decide) rfl ?_
  intro pg ev s mi args below meth cd s₁ B hml hv
  obtain ⟨hav, hsz, hP, hE, hD, hXs⟩ := hv
  have hx := B.exec
  have hb := B.bytes
  have hr := B.returns
  have hts := atoms_spec (ws := wsX5_light) B.pre
  have hown : s.vm.findClass RX5 = some mi.cls := findClass_of_methodNamed B.named
  have hlocks := B.notSynchronized
  clear B
  subst hav
  subst hsz
  have hD := hD.self (sz := s.heap.size)
  generalize hAe : va_A ((wM cA y E (S 0) (T 0) th b) ++ ((wS cA S y a q) ++ (wS cA T y a2 q2))) s.heap.size = A at hD hXs ⊢
  have hA : ∀ q : Nat, s.heap.size ≤ q → A q := fun q h => by rw [← hAe]; exact Or.inr h
  have hS : va_S A s.heap s.heap [] := va_S.rf
  obtain ⟨QQ, hQQ⟩ : ∃ qq9, qq9 = MQ below (va_Qi (fun (r : Int32) (u : FSt) => (cdLight a k = 0 → r = nI (qWx a (k).toNatClampNeg) ∧ u = uBu a (up (qBu a) (k).toNatClampNeg true)) ∧ (¬ cdLight a k = 0 → r = 0 ∧ u = a)) (fun (u : FSt) t => va_P D vwCl ((wM cA y E (S 0) (T 0) (nI (cdLight a k)) b) ++ ((wS cA S y u q) ++ (wS cA T y a2 q2))) t.heap) A) ([.ref y, .int k] : List Value).toArray s 0 0 A := ⟨_, rfl⟩
  rw [← hQQ]
  have hl := lv_entry ([.ref y, .int k]) (n := 2) (Nat.le_of_ble_eq_true rfl)
  rw [lg_entry_eq]
  generalize (lg_sl ([.ref y, .int k]) ++ List.replicate (2 - (lg_sl ([.ref y, .int k])).length) Slot.unset).toArray = ls at hl ⊢
  have hl : lv_has ls 2 [(0, .ref y), (1, .int k)] := hl
  have kf31 := hts (.fieldLink RX5 31 "LanternWeirsModel" "thrown" "I") (by decide +kernel)
  have inX5 : ∀ w ∈ u_ws RX5 TX5 8, w ∈ wsX5_light := by decide +kernel
  have kf24 := hts (.fieldLink RX5 24 "LanternWeirsModel" "s" "LLanternWeirsModel$State;") (by decide +kernel)
  have kf73 := va_Nw.use (A := ([.ref y, .int k] : List Value).toArray) rfl (hE.2.2 (.fieldLinkNest "LanternWeirsModel" 73 "LanternWeirsModel$State" "state" "[I" "LanternWeirsModel") (by decide +kernel))
  have inX4 : ∀ w ∈ u_ws RX4 TX4 13, w ∈ wsX5_light := by decide +kernel
  have kf79 := va_Nw.use (A := ([.ref y, .int k] : List Value).toArray) rfl (hE.2.2 (.fieldLinkNest "LanternWeirsModel" 79 "LanternWeirsModel$State" "burns" "[I" "LanternWeirsModel") (by decide +kernel))
  have kf85 := va_Nw.use (A := ([.ref y, .int k] : List Value).toArray) rfl (hE.2.2 (.fieldLinkNest "LanternWeirsModel" 85 "LanternWeirsModel$State" "wax" "[I" "LanternWeirsModel") (by decide +kernel))
  obtain ⟨H, locs, hP, hS, hgo⟩ : ∃ H locs, va_P D vwCl ((wM cA y E (S 0) (T 0) th b) ++ ((wS cA S y a q) ++ (wS cA T y a2 q2))) H ∧ va_S A s.heap H locs ∧ (H = s.heap ∧ locs = []) := ⟨_, _, hP, hS, rfl, rfl⟩
  obtain ⟨hg1, hg2⟩ := hgo
  have hgoal : W pg lch ev (headSpec wsX5_light ({ frames := 2, cells := 0, slots := 0, locals := 43 })).room s mi ([.ref y, .int k] : List Value).toArray below meth cd H locs 0 0 QQ (F0 mi 0 ls []) := by
    have hn := hw1.1
    refine lv_aload_n hx hb dX5_light_0 rfl (lv_at hl 0 rfl) ?_
    refine lv_iconst (v := 0) hx hb dX5_light_1 (by decide) ?_
    refine va_put (D := D) (ci := 5) (v := .int 0) (ty := .int) (C := RX5) (T := TX5) (N := 8) hx hb hts inX5 tyX5 tyX5_ok nmX5 hown hE.1 hP hD hS 0 rfl rfl 0 (by decide) kf31 (fun _ h9 => h9) rfl (by decide +kernel) rfl rfl (Nat.le_of_ble_eq_true rfl) dX5_light_2 (fun H locs hP hD hS => ?_)
    have hP : va_P D vwCl ((wM cA y E (S 0) (T 0) 0 b) ++ ((wS cA S y a q) ++ (wS cA T y a2 q2))) H := hP
    have hD : va_D A ((wM cA y E (S 0) (T 0) 0 b) ++ ((wS cA S y a q) ++ (wS cA T y a2 q2))) := hD
    refine lv_aload_n hx hb dX5_light_5 rfl (lv_at hl 0 rfl) ?_
    refine lv_iload_n hx hb dX5_light_6 rfl (lv_at hl 1 rfl) ?_
    refine pVi (As := [.int k]) (rest := []) (wc := ((wM cA y E (S 0) (T 0) 0 b) ++ ((wS cA S y a q) ++ (wS cA T y a2 q2)))) ⟨hx, hb, hml, hown, hts⟩ (K_X5_isLantern lch D cA y E S T 0 b a q a2 q2 k H.size ) (cwV 1 hts gX5_light_X5_isLantern rfl rfl rfl (by decide +kernel) ⟨Nat.le_of_ble_eq_true rfl, Nat.le_of_ble_eq_true rfl⟩) hE hP hD hS hA [0, 1, 2, 3, 4, 5, 6, 7, 8, 9, 10, 11, 12, 13, 14, 15, 16, 17, 18, 19, 20, 21, 22, 23, 24, 25] rfl rfl X0.blind (fun _ _ _ => trivial) 0 5 rfl rfl rfl hl.1 rfl rfl (Nat.le_of_ble_eq_true rfl) dX5_light_7 ⟨Nat.zero_le _, Nat.zero_le _⟩ (fun r_1 u_2 H locs h_3 hP hS => ?_)
    subst h_3
    refine lv_if_ne (tgt := 19) hx hb dX5_light_10 (by decide) (fun c10 => ?_) (fun c10 => ?_)
    · skip
      have c10 := bi_1.mp c10
      obtain ⟨kn, hkn, ekn⟩ := lan_nat (a := a) (k := k) c10 hn
      subst ekn
      obtain ⟨w1, w2, w3, w4, w5, w6, w7, w8⟩ := hw1.2 kn hkn
      refine lv_aload_n hx hb dX5_light_19 rfl (lv_at hl 0 rfl) ?_
      refine va_get (D := D) (ci := 5) (v := .ref (S 0)) (C := RX5) (T := TX5) (N := 8) hx hb hts inX5 hown hE.1 hP 0 rfl rfl 6 (by decide) kf24 (fun _ h9 => h9) rfl dX5_light_20 ?_
      refine va_getN (D := D) (ci := 4) (v := .ref (S 8)) (C := RX4) (T := TX4) (N := 13) hx hb hts inX4 hown hE.1 hP 4 rfl rfl 9 (by decide) kf73 (fun _ h9 => h9) rfl dX5_light_23 ?_
      refine lv_iload_n hx hb dX5_light_26 rfl (lv_at hl 1 rfl) ?_
      refine ald hx hb hE hP 12 rfl (k := kn) (by omega) (Nat.le_of_ble_eq_true rfl) (v := nI (qSt a kn)) rfl dX5_light_27 ?_
      refine lv_if_ne (tgt := 67) hx hb dX5_light_28 (by decide) (fun c28 => ?_) (fun c28 => ?_)
      · skip
        have c28 := (not_congr (nI_eq (a := qSt a kn) (b := 0) (by omega) (by omega))).mp c28
        refine lv_aload_n hx hb dX5_light_67 rfl (lv_at hl 0 rfl) ?_
        refine lv_iconst (v := 2) hx hb dX5_light_68 (by decide) ?_
        refine cVi (wB := fun (u_5 : Unit) => ((wM cA y E (S 0) (T 0) 2 b) ++ ((wS cA S y a q) ++ (wS cA T y a2 q2)))) (As := [.int 2]) (rest := []) (wc := ((wM cA y E (S 0) (T 0) 0 b) ++ ((wS cA S y a q) ++ (wS cA T y a2 q2)))) ⟨hx, hb, hml, hown, hts⟩ (K_X5_no lch D cA y E S T 0 b a q a2 q2 2 H.size ) (cwV 1 hts gX5_light_X5_no rfl rfl rfl (by decide +kernel) ⟨Nat.le_of_ble_eq_true rfl, Nat.le_of_ble_eq_true rfl⟩) hE hP hD hS hA [0, 1, 2, 3, 4, 5, 6, 7, 8, 9, 10, 11, 12, 13, 14, 15, 16, 17, 18, 19, 20, 21, 22, 23, 24, 25] rfl rfl [y, E 0, E 1, E 2, S 0, S 1, S 2, S 3, S 4, S 5, S 6, S 7, S 8, S 9, S 10, T 0, T 1, T 2, T 3, T 4, T 5, T 6, T 7, T 8, T 9, T 10] (fun _ => rfl) rfl (fun (u_5 : Unit) => ((wM cA y E (S 0) (T 0) 2 b) ++ ((wS cA S y a q) ++ (wS cA T y a2 q2)))) (fun _ => pst_all 26 rfl rfl rfl) X0.blind (fun _ _ _ => trivial) 0 5 rfl rfl rfl hl.1 rfl rfl (Nat.le_of_ble_eq_true rfl) dX5_light_69 ⟨Nat.zero_le _, Nat.zero_le _⟩ (fun r_4 u_5 H locs h_6 hP hD hS => ?_)
        subst h_6
        have ecd : cdLight a (nI kn) = 2 := by unfold cdLight; rw [if_neg (by simp [c10]), nI_clamp (by omega), if_neg (fun q => absurd q.1 (by omega))]
        have ec : nI (cdLight a (nI kn)) = 2 := by rw [ecd]; rfl
        have hP : va_P D vwCl ((wM cA y E (S 0) (T 0) (nI (cdLight a (nI kn))) b) ++ ((wS cA S y a q) ++ (wS cA T y a2 q2))) H := by rw [ec]; exact hP
        rw [hQQ]
        exact W.iret (v := 0) hx hb hr (fun t ht hW => ⟨⟨0, a, rfl, ⟨fun h9 => absurd (ecd.symm.trans h9) (by decide), fun _ => ⟨rfl, rfl⟩⟩, by show va_P _ _ _ t.heap; rw [ht]; exact hP⟩, hS.F ht⟩) hS.2.2 dX5_light_72
      · skip
        have c28 := (nI_eq (a := qSt a kn) (b := 0) (by omega) (by omega)).mp c28
        refine lv_aload_n hx hb dX5_light_31 rfl (lv_at hl 0 rfl) ?_
        refine va_get (D := D) (ci := 5) (v := .ref (S 0)) (C := RX5) (T := TX5) (N := 8) hx hb hts inX5 hown hE.1 hP 0 rfl rfl 6 (by decide) kf24 (fun _ h9 => h9) rfl dX5_light_32 ?_
        refine va_getN (D := D) (ci := 4) (v := .ref (S 7)) (C := RX4) (T := TX4) (N := 13) hx hb hts inX4 hown hE.1 hP 4 rfl rfl 8 (by decide) kf79 (fun _ h9 => h9) rfl dX5_light_35 ?_
        refine lv_iload_n hx hb dX5_light_38 rfl (lv_at hl 1 rfl) ?_
        refine ald hx hb hE hP 11 rfl (k := kn) (by omega) (Nat.le_of_ble_eq_true rfl) (v := bi (qBu a kn)) rfl dX5_light_39 ?_
        refine lv_iconst (v := 1) hx hb dX5_light_40 (by decide) ?_
        refine lv_icmp_eq (tgt := 67) hx hb dX5_light_41 (by decide) (fun c41 => ?_) (fun c41 => ?_)
        · skip
          have c41 := bi_t.mp c41
          refine lv_aload_n hx hb dX5_light_67 rfl (lv_at hl 0 rfl) ?_
          refine lv_iconst (v := 2) hx hb dX5_light_68 (by decide) ?_
          refine cVi (wB := fun (u_8 : Unit) => ((wM cA y E (S 0) (T 0) 2 b) ++ ((wS cA S y a q) ++ (wS cA T y a2 q2)))) (As := [.int 2]) (rest := []) (wc := ((wM cA y E (S 0) (T 0) 0 b) ++ ((wS cA S y a q) ++ (wS cA T y a2 q2)))) ⟨hx, hb, hml, hown, hts⟩ (K_X5_no lch D cA y E S T 0 b a q a2 q2 2 H.size ) (cwV 1 hts gX5_light_X5_no rfl rfl rfl (by decide +kernel) ⟨Nat.le_of_ble_eq_true rfl, Nat.le_of_ble_eq_true rfl⟩) hE hP hD hS hA [0, 1, 2, 3, 4, 5, 6, 7, 8, 9, 10, 11, 12, 13, 14, 15, 16, 17, 18, 19, 20, 21, 22, 23, 24, 25] rfl rfl [y, E 0, E 1, E 2, S 0, S 1, S 2, S 3, S 4, S 5, S 6, S 7, S 8, S 9, S 10, T 0, T 1, T 2, T 3, T 4, T 5, T 6, T 7, T 8, T 9, T 10] (fun _ => rfl) rfl (fun (u_8 : Unit) => ((wM cA y E (S 0) (T 0) 2 b) ++ ((wS cA S y a q) ++ (wS cA T y a2 q2)))) (fun _ => pst_all 26 rfl rfl rfl) X0.blind (fun _ _ _ => trivial) 0 5 rfl rfl rfl hl.1 rfl rfl (Nat.le_of_ble_eq_true rfl) dX5_light_69 ⟨Nat.zero_le _, Nat.zero_le _⟩ (fun r_7 u_8 H locs h_9 hP hD hS => ?_)
          subst h_9
          have ecd : cdLight a (nI kn) = 2 := by unfold cdLight; rw [if_neg (by simp [c10]), nI_clamp (by omega), if_neg (fun q => absurd q.2 (by simp [litA, c41]))]
          have ec : nI (cdLight a (nI kn)) = 2 := by rw [ecd]; rfl
          have hP : va_P D vwCl ((wM cA y E (S 0) (T 0) (nI (cdLight a (nI kn))) b) ++ ((wS cA S y a q) ++ (wS cA T y a2 q2))) H := by rw [ec]; exact hP
          rw [hQQ]
          exact W.iret (v := 0) hx hb hr (fun t ht hW => ⟨⟨0, a, rfl, ⟨fun h9 => absurd (ecd.symm.trans h9) (by decide), fun _ => ⟨rfl, rfl⟩⟩, by show va_P _ _ _ t.heap; rw [ht]; exact hP⟩, hS.F ht⟩) hS.2.2 dX5_light_72
        · skip
          have c41 := bi_f.mp c41
          refine lv_aload_n hx hb dX5_light_44 rfl (lv_at hl 0 rfl) ?_
          refine va_get (D := D) (ci := 5) (v := .ref (S 0)) (C := RX5) (T := TX5) (N := 8) hx hb hts inX5 hown hE.1 hP 0 rfl rfl 6 (by decide) kf24 (fun _ h9 => h9) rfl dX5_light_45 ?_
          refine lv_iload_n hx hb dX5_light_48 rfl (lv_at hl 1 rfl) ?_
          refine pVi (As := [.int (nI kn)]) (rest := []) (wc := (wS cA S y a q)) ⟨hx, hb, hml, hown, hts⟩ (K_X4_isSoaked lch D cA S y a q z1 z2 kn H.size (by omega) (w1)) (cwV 1 hts gX5_light_X4_isSoaked rfl rfl rfl (by decide +kernel) ⟨Nat.le_of_ble_eq_true rfl, Nat.le_of_ble_eq_true rfl⟩) hE hP hD hS hA [4, 5, 6, 7, 8, 9, 10, 11, 12, 13, 14] rfl rfl (SX.blind z1 z2 _) (fun U hU hW => hXs.at hS (fun q h => hA q (Nat.le_trans hS.1 h)) hU hW) 4 4 rfl rfl rfl hl.1 rfl rfl (Nat.le_of_ble_eq_true rfl) dX5_light_49 ⟨Nat.zero_le _, Nat.zero_le _⟩ (fun r_10 u_11 H locs h_12 hP hS => ?_)
          subst h_12
          refine lv_if_ne (tgt := 67) hx hb dX5_light_52 (by decide) (fun c52 => ?_) (fun c52 => ?_)
          · skip
            have c52 := bi_1.mp c52
            refine lv_aload_n hx hb dX5_light_67 rfl (lv_at hl 0 rfl) ?_
            refine lv_iconst (v := 2) hx hb dX5_light_68 (by decide) ?_
            refine cVi (wB := fun (u_14 : Unit) => ((wM cA y E (S 0) (T 0) 2 b) ++ ((wS cA S y a q) ++ (wS cA T y a2 q2)))) (As := [.int 2]) (rest := []) (wc := ((wM cA y E (S 0) (T 0) 0 b) ++ ((wS cA S y a q) ++ (wS cA T y a2 q2)))) ⟨hx, hb, hml, hown, hts⟩ (K_X5_no lch D cA y E S T 0 b a q a2 q2 2 H.size ) (cwV 1 hts gX5_light_X5_no rfl rfl rfl (by decide +kernel) ⟨Nat.le_of_ble_eq_true rfl, Nat.le_of_ble_eq_true rfl⟩) hE hP hD hS hA [0, 1, 2, 3, 4, 5, 6, 7, 8, 9, 10, 11, 12, 13, 14, 15, 16, 17, 18, 19, 20, 21, 22, 23, 24, 25] rfl rfl [y, E 0, E 1, E 2, S 0, S 1, S 2, S 3, S 4, S 5, S 6, S 7, S 8, S 9, S 10, T 0, T 1, T 2, T 3, T 4, T 5, T 6, T 7, T 8, T 9, T 10] (fun _ => rfl) rfl (fun (u_14 : Unit) => ((wM cA y E (S 0) (T 0) 2 b) ++ ((wS cA S y a q) ++ (wS cA T y a2 q2)))) (fun _ => pst_all 26 rfl rfl rfl) X0.blind (fun _ _ _ => trivial) 0 5 rfl rfl rfl hl.1 rfl rfl (Nat.le_of_ble_eq_true rfl) dX5_light_69 ⟨Nat.zero_le _, Nat.zero_le _⟩ (fun r_13 u_14 H locs h_15 hP hD hS => ?_)
            subst h_15
            have ecd : cdLight a (nI kn) = 2 := by unfold cdLight; rw [if_neg (by simp [c10]), nI_clamp (by omega), if_neg (fun q => absurd q.2 (by simp [litA, c52]))]
            have ec : nI (cdLight a (nI kn)) = 2 := by rw [ecd]; rfl
            have hP : va_P D vwCl ((wM cA y E (S 0) (T 0) (nI (cdLight a (nI kn))) b) ++ ((wS cA S y a q) ++ (wS cA T y a2 q2))) H := by rw [ec]; exact hP
            rw [hQQ]
            exact W.iret (v := 0) hx hb hr (fun t ht hW => ⟨⟨0, a, rfl, ⟨fun h9 => absurd (ecd.symm.trans h9) (by decide), fun _ => ⟨rfl, rfl⟩⟩, by show va_P _ _ _ t.heap; rw [ht]; exact hP⟩, hS.F ht⟩) hS.2.2 dX5_light_72
          · skip
            have c52 := bi_0.mp c52
            refine lv_aload_n hx hb dX5_light_55 rfl (lv_at hl 0 rfl) ?_
            refine va_get (D := D) (ci := 5) (v := .ref (S 0)) (C := RX5) (T := TX5) (N := 8) hx hb hts inX5 hown hE.1 hP 0 rfl rfl 6 (by decide) kf24 (fun _ h9 => h9) rfl dX5_light_56 ?_
            refine va_getN (D := D) (ci := 4) (v := .ref (S 5)) (C := RX4) (T := TX4) (N := 13) hx hb hts inX4 hown hE.1 hP 4 rfl rfl 6 (by decide) kf85 (fun _ h9 => h9) rfl dX5_light_59 ?_
            refine lv_iload_n hx hb dX5_light_62 rfl (lv_at hl 1 rfl) ?_
            refine ald hx hb hE hP 9 rfl (k := kn) (by omega) (Nat.le_of_ble_eq_true rfl) (v := nI (qWx a kn)) rfl dX5_light_63 ?_
            refine lv_if_ne (tgt := 73) hx hb dX5_light_64 (by decide) (fun c64 => ?_) (fun c64 => ?_)
            · skip
              have c64 := (not_congr (nI_eq (a := qWx a kn) (b := 0) (by omega) (by omega))).mp c64
              refine lv_aload_n hx hb dX5_light_73 rfl (lv_at hl 0 rfl) ?_
              refine va_get (D := D) (ci := 5) (v := .ref (S 0)) (C := RX5) (T := TX5) (N := 8) hx hb hts inX5 hown hE.1 hP 0 rfl rfl 6 (by decide) kf24 (fun _ h9 => h9) rfl dX5_light_74 ?_
              refine va_getN (D := D) (ci := 4) (v := .ref (S 7)) (C := RX4) (T := TX4) (N := 13) hx hb hts inX4 hown hE.1 hP 4 rfl rfl 8 (by decide) kf79 (fun _ h9 => h9) rfl dX5_light_77 ?_
              refine lv_iload_n hx hb dX5_light_80 rfl (lv_at hl 1 rfl) ?_
              refine lv_iconst (v := 1) hx hb dX5_light_81 (by decide) ?_
              refine ast hx hb hE hP hD hS 11 rfl (k := kn) (by omega) (Nat.le_of_ble_eq_true rfl) (fun z9 => bi (qBu (uBu a (up (qBu a) kn true)) z9)) (fun j _ => upd_B (v := true) j) dX5_light_82 (fun H locs hP hD hS => ?_)
              have hP : va_P D vwCl ((wM cA y E (S 0) (T 0) 0 b) ++ ((wS cA S y (uBu a (up (qBu a) kn true)) q) ++ (wS cA T y a2 q2))) H := hP
              have hD : va_D A ((wM cA y E (S 0) (T 0) 0 b) ++ ((wS cA S y (uBu a (up (qBu a) kn true)) q) ++ (wS cA T y a2 q2))) := hD
              refine lv_aload_n hx hb dX5_light_83 rfl (lv_at hl 0 rfl) ?_
              refine va_get (D := D) (ci := 5) (v := .ref (S 0)) (C := RX5) (T := TX5) (N := 8) hx hb hts inX5 hown hE.1 hP 0 rfl rfl 6 (by decide) kf24 (fun _ h9 => h9) rfl dX5_light_84 ?_
              refine va_getN (D := D) (ci := 4) (v := .ref (S 5)) (C := RX4) (T := TX4) (N := 13) hx hb hts inX4 hown hE.1 hP 4 rfl rfl 6 (by decide) kf85 (fun _ h9 => h9) rfl dX5_light_87 ?_
              refine lv_iload_n hx hb dX5_light_90 rfl (lv_at hl 1 rfl) ?_
              refine ald hx hb hE hP 9 rfl (k := kn) (by omega) (Nat.le_of_ble_eq_true rfl) (v := nI (qWx (uBu a (up (qBu a) kn true)) kn)) rfl dX5_light_91 ?_
              have ecd : cdLight a (nI kn) = 0 := by unfold cdLight; rw [if_neg (by simp [c10]), nI_clamp (by omega), if_pos ⟨by omega, by simp [litA, c41, c52]; omega⟩]
              have ec : nI (cdLight a (nI kn)) = 0 := by rw [ecd]; rfl
              have ew0 : uBu a (up (qBu a) ((nI kn).toNatClampNeg) true) = uBu a (up (qBu a) kn true) := by rw [nI_clamp (by omega)]
              have hP : va_P D vwCl ((wM cA y E (S 0) (T 0) (nI (cdLight a (nI kn))) b) ++ ((wS cA S y (uBu a (up (qBu a) (nI kn).toNatClampNeg true)) q) ++ (wS cA T y a2 q2))) H := by rw [ec, ew0]; exact hP
              rw [hQQ]
              exact W.iret (v := nI (qWx (uBu a (up (qBu a) kn true)) kn)) hx hb hr (fun t ht hW => ⟨⟨nI (qWx (uBu a (up (qBu a) kn true)) kn), uBu a (up (qBu a) (nI kn).toNatClampNeg true), rfl, ⟨fun _ => ⟨by rw [nI_clamp (by omega)]; rfl, rfl⟩, fun h9 => absurd ecd h9⟩, by show va_P _ _ _ t.heap; rw [ht]; exact hP⟩, hS.F ht⟩) hS.2.2 dX5_light_92
            · skip
              have c64 := (nI_eq (a := qWx a kn) (b := 0) (by omega) (by omega)).mp c64
              refine lv_aload_n hx hb dX5_light_67 rfl (lv_at hl 0 rfl) ?_
              refine lv_iconst (v := 2) hx hb dX5_light_68 (by decide) ?_
              refine cVi (wB := fun (u_17 : Unit) => ((wM cA y E (S 0) (T 0) 2 b) ++ ((wS cA S y a q) ++ (wS cA T y a2 q2)))) (As := [.int 2]) (rest := []) (wc := ((wM cA y E (S 0) (T 0) 0 b) ++ ((wS cA S y a q) ++ (wS cA T y a2 q2)))) ⟨hx, hb, hml, hown, hts⟩ (K_X5_no lch D cA y E S T 0 b a q a2 q2 2 H.size ) (cwV 1 hts gX5_light_X5_no rfl rfl rfl (by decide +kernel) ⟨Nat.le_of_ble_eq_true rfl, Nat.le_of_ble_eq_true rfl⟩) hE hP hD hS hA [0, 1, 2, 3, 4, 5, 6, 7, 8, 9, 10, 11, 12, 13, 14, 15, 16, 17, 18, 19, 20, 21, 22, 23, 24, 25] rfl rfl [y, E 0, E 1, E 2, S 0, S 1, S 2, S 3, S 4, S 5, S 6, S 7, S 8, S 9, S 10, T 0, T 1, T 2, T 3, T 4, T 5, T 6, T 7, T 8, T 9, T 10] (fun _ => rfl) rfl (fun (u_17 : Unit) => ((wM cA y E (S 0) (T 0) 2 b) ++ ((wS cA S y a q) ++ (wS cA T y a2 q2)))) (fun _ => pst_all 26 rfl rfl rfl) X0.blind (fun _ _ _ => trivial) 0 5 rfl rfl rfl hl.1 rfl rfl (Nat.le_of_ble_eq_true rfl) dX5_light_69 ⟨Nat.zero_le _, Nat.zero_le _⟩ (fun r_16 u_17 H locs h_18 hP hD hS => ?_)
              subst h_18
              have ecd : cdLight a (nI kn) = 2 := by unfold cdLight; rw [if_neg (by simp [c10]), nI_clamp (by omega), if_neg (fun q => absurd q.2 (by simp [litA, c64]))]
              have ec : nI (cdLight a (nI kn)) = 2 := by rw [ecd]; rfl
              have hP : va_P D vwCl ((wM cA y E (S 0) (T 0) (nI (cdLight a (nI kn))) b) ++ ((wS cA S y a q) ++ (wS cA T y a2 q2))) H := by rw [ec]; exact hP
              rw [hQQ]
              exact W.iret (v := 0) hx hb hr (fun t ht hW => ⟨⟨0, a, rfl, ⟨fun h9 => absurd (ecd.symm.trans h9) (by decide), fun _ => ⟨rfl, rfl⟩⟩, by show va_P _ _ _ t.heap; rw [ht]; exact hP⟩, hS.F ht⟩) hS.2.2 dX5_light_72
    · skip
      have c10 := bi_0.mp c10
      refine lv_aload_n hx hb dX5_light_13 rfl (lv_at hl 0 rfl) ?_
      refine lv_iconst (v := 1) hx hb dX5_light_14 (by decide) ?_
      refine cVi (wB := fun (u_20 : Unit) => ((wM cA y E (S 0) (T 0) 1 b) ++ ((wS cA S y a q) ++ (wS cA T y a2 q2)))) (As := [.int 1]) (rest := []) (wc := ((wM cA y E (S 0) (T 0) 0 b) ++ ((wS cA S y a q) ++ (wS cA T y a2 q2)))) ⟨hx, hb, hml, hown, hts⟩ (K_X5_no lch D cA y E S T 0 b a q a2 q2 1 H.size ) (cwV 1 hts gX5_light_X5_no rfl rfl rfl (by decide +kernel) ⟨Nat.le_of_ble_eq_true rfl, Nat.le_of_ble_eq_true rfl⟩) hE hP hD hS hA [0, 1, 2, 3, 4, 5, 6, 7, 8, 9, 10, 11, 12, 13, 14, 15, 16, 17, 18, 19, 20, 21, 22, 23, 24, 25] rfl rfl [y, E 0, E 1, E 2, S 0, S 1, S 2, S 3, S 4, S 5, S 6, S 7, S 8, S 9, S 10, T 0, T 1, T 2, T 3, T 4, T 5, T 6, T 7, T 8, T 9, T 10] (fun _ => rfl) rfl (fun (u_20 : Unit) => ((wM cA y E (S 0) (T 0) 1 b) ++ ((wS cA S y a q) ++ (wS cA T y a2 q2)))) (fun _ => pst_all 26 rfl rfl rfl) X0.blind (fun _ _ _ => trivial) 0 5 rfl rfl rfl hl.1 rfl rfl (Nat.le_of_ble_eq_true rfl) dX5_light_15 ⟨Nat.zero_le _, Nat.zero_le _⟩ (fun r_19 u_20 H locs h_21 hP hD hS => ?_)
      subst h_21
      have ecd : cdLight a k = 1 := by unfold cdLight; rw [if_pos c10]
      have ec : nI (cdLight a k) = 1 := by rw [ecd]; rfl
      have hP : va_P D vwCl ((wM cA y E (S 0) (T 0) (nI (cdLight a k)) b) ++ ((wS cA S y a q) ++ (wS cA T y a2 q2))) H := by rw [ec]; exact hP
      rw [hQQ]
      exact W.iret (v := 0) hx hb hr (fun t ht hW => ⟨⟨0, a, rfl, ⟨fun h9 => absurd (ecd.symm.trans h9) (by decide), fun _ => ⟨rfl, rfl⟩⟩, by show va_P _ _ _ t.heap; rw [ht]; exact hP⟩, hS.F ht⟩) hS.2.2 dX5_light_18
  rw [hg1, hg2] at hgoal
  exact hgoal

set_option maxHeartbeats 4000000 in
set_option maxRecDepth 100000 in
/-- blow -/
theorem K_X5_blow (lch : Launch) (D : va_G) (cA : ClassId) (y : Nat) (E : Nat → Nat) (S : Nat → Nat) (T : Nat → Nat) (th : Int32) (b : BSt) (a : FSt) (q : Nat → Int32) (a2 : FSt) (q2 : Nat → Int32) (k : Int32) (sz : Nat) (hw1 : WFa a) : Met lch yX5_blow wsX5_blow ({ frames := 2, cells := 0, slots := 0, locals := 43 }) (Pr D cA [.ref y, .int k] sz ((wM cA y E (S 0) (T 0) th b) ++ ((wS cA S y a q) ++ (wS cA T y a2 q2))) X0) (va_Qi (fun (r : Int32) (u : FSt) => (cdBlow a k = 0 → r = nI (qWx a (k).toNatClampNeg) ∧ u = outA a (k).toNatClampNeg) ∧ (¬ cdBlow a k = 0 → r = 0 ∧ u = a)) (fun (u : FSt) t => va_P D vwCl ((wM cA y E (S 0) (T 0) (nI (cdBlow a k)) b) ++ ((wS cA S y u q) ++ (wS cA T y a2 q2))) t.heap) (va_A ((wM cA y E (S 0) (T 0) th b) ++ ((wS cA S y a q) ++ (wS cA T y a2 q2))) sz)) 0 0 (va_A ((wM cA y E (S 0) (T 0) th b) ++ ((wS cA S y a q) ++ (wS cA T y a2 q2))) sz) := by
  refine Met.ofW (cc := cX5_blow) (maxL := 2) (ret := (some .int)) (by decide) rfl ?_
  intro pg ev s mi args below meth cd s₁ B hml hv
  obtain ⟨hav, hsz, hP, hE, hD, hXs⟩ := hv
  have hx := B.exec
  have hb := B.bytes
  have hr := B.returns
  have hts := atoms_spec (ws := wsX5_blow) B.pre
  have hown : s.vm.findClass RX5 = some mi.cls := findClass_of_methodNamed B.named
  have hlocks := B.notSynchronized
  clear B
  subst hav
  subst hsz
  have hD := hD.self (sz := s.heap.size)
  generalize hAe : va_A ((wM cA y E (S 0) (T 0) th b) ++ ((wS cA S y a q) ++ (wS cA T y a2 q2))) s.heap.size = A at hD ⊢
  have hA : ∀ q : Nat, s.heap.size ≤ q → A q := fun q h => by rw [← hAe]; exact Or.inr h
  have hS : va_S A s.heap s.heap [] := va_S.rf
  obtain ⟨QQ, hQQ⟩ : ∃ qq9, qq9 = MQ below (va_Qi (fun (r : Int32) (u : FSt) => (cdBlow a k = 0 → r = nI (qWx a (k).toNatClampNeg) ∧ u = outA a (k).toNatClampNeg) ∧ (¬ cdBlow a k = 0 → r = 0 ∧ u = a)) (fun (u : FSt) t => va_P D vwCl ((wM cA y E (S 0) (T 0) (nI (cdBlow a k)) b) ++ ((wS cA S y u q) ++ (wS cA T y a2 q2))) t.heap) A) ([.ref y, .int k] : List Value).toArray s 0 0 A := ⟨_, rfl⟩
  rw [← hQQ]
  have hl := lv_entry ([.ref y, .int k]) (n := 2) (Nat.le_of_ble_eq_true rfl)
  rw [lg_entry_eq]
  generalize (lg_sl ([.ref y, .int k]) ++ List.replicate (2 - (lg_sl ([.ref y, .int k])).length) Slot.unset).toArray = ls at hl ⊢
  have hl : lv_has ls 2 [(0, .ref y), (1, .int k)] := hl
  have kf31 := hts (.fieldLink RX5 31 "LanternWeirsModel" "thrown" "I") (by decide +kernel)
  have inX5 : ∀ w ∈ u_ws RX5 TX5 8, w ∈ wsX5_blow := by decide +kernel
  have kf24 := hts (.fieldLink RX5 24 "LanternWeirsModel" "s" "LLanternWeirsModel$State;") (by decide +kernel)
  have kf73 := va_Nw.use (A := ([.ref y, .int k] : List Value).toArray) rfl (hE.2.2 (.fieldLinkNest "LanternWeirsModel" 73 "LanternWeirsModel$State" "state" "[I" "LanternWeirsModel") (by decide +kernel))
  have inX4 : ∀ w ∈ u_ws RX4 TX4 13, w ∈ wsX5_blow := by decide +kernel
  have kf79 := va_Nw.use (A := ([.ref y, .int k] : List Value).toArray) rfl (hE.2.2 (.fieldLinkNest "LanternWeirsModel" 79 "LanternWeirsModel$State" "burns" "[I" "LanternWeirsModel") (by decide +kernel))
  have kf85 := va_Nw.use (A := ([.ref y, .int k] : List Value).toArray) rfl (hE.2.2 (.fieldLinkNest "LanternWeirsModel" 85 "LanternWeirsModel$State" "wax" "[I" "LanternWeirsModel") (by decide +kernel))
  obtain ⟨H, locs, hP, hS, hgo⟩ : ∃ H locs, va_P D vwCl ((wM cA y E (S 0) (T 0) th b) ++ ((wS cA S y a q) ++ (wS cA T y a2 q2))) H ∧ va_S A s.heap H locs ∧ (H = s.heap ∧ locs = []) := ⟨_, _, hP, hS, rfl, rfl⟩
  obtain ⟨hg1, hg2⟩ := hgo
  have hgoal : W pg lch ev (headSpec wsX5_blow ({ frames := 2, cells := 0, slots := 0, locals := 43 })).room s mi ([.ref y, .int k] : List Value).toArray below meth cd H locs 0 0 QQ (F0 mi 0 ls []) := by
    have hn := hw1.1
    refine lv_aload_n hx hb dX5_blow_0 rfl (lv_at hl 0 rfl) ?_
    refine lv_iconst (v := 0) hx hb dX5_blow_1 (by decide) ?_
    refine va_put (D := D) (ci := 5) (v := .int 0) (ty := .int) (C := RX5) (T := TX5) (N := 8) hx hb hts inX5 tyX5 tyX5_ok nmX5 hown hE.1 hP hD hS 0 rfl rfl 0 (by decide) kf31 (fun _ h9 => h9) rfl (by decide +kernel) rfl rfl (Nat.le_of_ble_eq_true rfl) dX5_blow_2 (fun H locs hP hD hS => ?_)
    have hP : va_P D vwCl ((wM cA y E (S 0) (T 0) 0 b) ++ ((wS cA S y a q) ++ (wS cA T y a2 q2))) H := hP
    have hD : va_D A ((wM cA y E (S 0) (T 0) 0 b) ++ ((wS cA S y a q) ++ (wS cA T y a2 q2))) := hD
    refine lv_aload_n hx hb dX5_blow_5 rfl (lv_at hl 0 rfl) ?_
    refine lv_iload_n hx hb dX5_blow_6 rfl (lv_at hl 1 rfl) ?_
    refine pVi (As := [.int k]) (rest := []) (wc := ((wM cA y E (S 0) (T 0) 0 b) ++ ((wS cA S y a q) ++ (wS cA T y a2 q2)))) ⟨hx, hb, hml, hown, hts⟩ (K_X5_isLantern lch D cA y E S T 0 b a q a2 q2 k H.size ) (cwV 1 hts gX5_blow_X5_isLantern rfl rfl rfl (by decide +kernel) ⟨Nat.le_of_ble_eq_true rfl, Nat.le_of_ble_eq_true rfl⟩) hE hP hD hS hA [0, 1, 2, 3, 4, 5, 6, 7, 8, 9, 10, 11, 12, 13, 14, 15, 16, 17, 18, 19, 20, 21, 22, 23, 24, 25] rfl rfl X0.blind (fun _ _ _ => trivial) 0 5 rfl rfl rfl hl.1 rfl rfl (Nat.le_of_ble_eq_true rfl) dX5_blow_7 ⟨Nat.zero_le _, Nat.zero_le _⟩ (fun r_1 u_2 H locs h_3 hP hS => ?_)
    subst h_3
    refine lv_if_ne (tgt := 19) hx hb dX5_blow_10 (by decide) (fun c10 => ?_) (fun c10 => ?_)
    · skip
      have c10 := bi_1.mp c10
      obtain ⟨kn, hkn, ekn⟩ := lan_nat (a := a) (k := k) c10 hn
      subst ekn
      obtain ⟨w1, w2, w3, w4, w5, w6, w7, w8⟩ := hw1.2 kn hkn
      refine lv_aload_n hx hb dX5_blow_19 rfl (lv_at hl 0 rfl) ?_
      refine va_get (D := D) (ci := 5) (v := .ref (S 0)) (C := RX5) (T := TX5) (N := 8) hx hb hts inX5 hown hE.1 hP 0 rfl rfl 6 (by decide) kf24 (fun _ h9 => h9) rfl dX5_blow_20 ?_
      refine va_getN (D := D) (ci := 4) (v := .ref (S 8)) (C := RX4) (T := TX4) (N := 13) hx hb hts inX4 hown hE.1 hP 4 rfl rfl 9 (by decide) kf73 (fun _ h9 => h9) rfl dX5_blow_23 ?_
      refine lv_iload_n hx hb dX5_blow_26 rfl (lv_at hl 1 rfl) ?_
      refine ald hx hb hE hP 12 rfl (k := kn) (by omega) (Nat.le_of_ble_eq_true rfl) (v := nI (qSt a kn)) rfl dX5_blow_27 ?_
      refine lv_if_ne (tgt := 43) hx hb dX5_blow_28 (by decide) (fun c28 => ?_) (fun c28 => ?_)
      · skip
        have c28 := (not_congr (nI_eq (a := qSt a kn) (b := 0) (by omega) (by omega))).mp c28
        refine lv_aload_n hx hb dX5_blow_43 rfl (lv_at hl 0 rfl) ?_
        refine lv_iconst (v := 2) hx hb dX5_blow_44 (by decide) ?_
        refine cVi (wB := fun (u_5 : Unit) => ((wM cA y E (S 0) (T 0) 2 b) ++ ((wS cA S y a q) ++ (wS cA T y a2 q2)))) (As := [.int 2]) (rest := []) (wc := ((wM cA y E (S 0) (T 0) 0 b) ++ ((wS cA S y a q) ++ (wS cA T y a2 q2)))) ⟨hx, hb, hml, hown, hts⟩ (K_X5_no lch D cA y E S T 0 b a q a2 q2 2 H.size ) (cwV 1 hts gX5_blow_X5_no rfl rfl rfl (by decide +kernel) ⟨Nat.le_of_ble_eq_true rfl, Nat.le_of_ble_eq_true rfl⟩) hE hP hD hS hA [0, 1, 2, 3, 4, 5, 6, 7, 8, 9, 10, 11, 12, 13, 14, 15, 16, 17, 18, 19, 20, 21, 22, 23, 24, 25] rfl rfl [y, E 0, E 1, E 2, S 0, S 1, S 2, S 3, S 4, S 5, S 6, S 7, S 8, S 9, S 10, T 0, T 1, T 2, T 3, T 4, T 5, T 6, T 7, T 8, T 9, T 10] (fun _ => rfl) rfl (fun (u_5 : Unit) => ((wM cA y E (S 0) (T 0) 2 b) ++ ((wS cA S y a q) ++ (wS cA T y a2 q2)))) (fun _ => pst_all 26 rfl rfl rfl) X0.blind (fun _ _ _ => trivial) 0 5 rfl rfl rfl hl.1 rfl rfl (Nat.le_of_ble_eq_true rfl) dX5_blow_45 ⟨Nat.zero_le _, Nat.zero_le _⟩ (fun r_4 u_5 H locs h_6 hP hD hS => ?_)
        subst h_6
        have ecd : cdBlow a (nI kn) = 2 := by unfold cdBlow; rw [if_neg (by simp [c10]), nI_clamp (by omega), if_neg (fun q => absurd q.1 (by omega))]
        have ec : nI (cdBlow a (nI kn)) = 2 := by rw [ecd]; rfl
        have hP : va_P D vwCl ((wM cA y E (S 0) (T 0) (nI (cdBlow a (nI kn))) b) ++ ((wS cA S y a q) ++ (wS cA T y a2 q2))) H := by rw [ec]; exact hP
        rw [hQQ]
        exact W.iret (v := 0) hx hb hr (fun t ht hW => ⟨⟨0, a, rfl, ⟨fun h9 => absurd (ecd.symm.trans h9) (by decide), fun _ => ⟨rfl, rfl⟩⟩, by show va_P _ _ _ t.heap; rw [ht]; exact hP⟩, hS.F ht⟩) hS.2.2 dX5_blow_48
      · skip
        have c28 := (nI_eq (a := qSt a kn) (b := 0) (by omega) (by omega)).mp c28
        refine lv_aload_n hx hb dX5_blow_31 rfl (lv_at hl 0 rfl) ?_
        refine va_get (D := D) (ci := 5) (v := .ref (S 0)) (C := RX5) (T := TX5) (N := 8) hx hb hts inX5 hown hE.1 hP 0 rfl rfl 6 (by decide) kf24 (fun _ h9 => h9) rfl dX5_blow_32 ?_
        refine va_getN (D := D) (ci := 4) (v := .ref (S 7)) (C := RX4) (T := TX4) (N := 13) hx hb hts inX4 hown hE.1 hP 4 rfl rfl 8 (by decide) kf79 (fun _ h9 => h9) rfl dX5_blow_35 ?_
        refine lv_iload_n hx hb dX5_blow_38 rfl (lv_at hl 1 rfl) ?_
        refine ald hx hb hE hP 11 rfl (k := kn) (by omega) (Nat.le_of_ble_eq_true rfl) (v := bi (qBu a kn)) rfl dX5_blow_39 ?_
        refine lv_if_ne (tgt := 49) hx hb dX5_blow_40 (by decide) (fun c40 => ?_) (fun c40 => ?_)
        · skip
          have c40 := bi_1.mp c40
          refine lv_aload_n hx hb dX5_blow_49 rfl (lv_at hl 0 rfl) ?_
          refine va_get (D := D) (ci := 5) (v := .ref (S 0)) (C := RX5) (T := TX5) (N := 8) hx hb hts inX5 hown hE.1 hP 0 rfl rfl 6 (by decide) kf24 (fun _ h9 => h9) rfl dX5_blow_50 ?_
          refine va_getN (D := D) (ci := 4) (v := .ref (S 7)) (C := RX4) (T := TX4) (N := 13) hx hb hts inX4 hown hE.1 hP 4 rfl rfl 8 (by decide) kf79 (fun _ h9 => h9) rfl dX5_blow_53 ?_
          refine lv_iload_n hx hb dX5_blow_56 rfl (lv_at hl 1 rfl) ?_
          refine lv_iconst (v := 0) hx hb dX5_blow_57 (by decide) ?_
          refine ast hx hb hE hP hD hS 11 rfl (k := kn) (by omega) (Nat.le_of_ble_eq_true rfl) (fun z9 => bi (qBu (outA a kn) z9)) (fun j _ => upd_B (v := false) j) dX5_blow_58 (fun H locs hP hD hS => ?_)
          have hP : va_P D vwCl ((wM cA y E (S 0) (T 0) 0 b) ++ ((wS cA S y (outA a kn) q) ++ (wS cA T y a2 q2))) H := hP
          have hD : va_D A ((wM cA y E (S 0) (T 0) 0 b) ++ ((wS cA S y (outA a kn) q) ++ (wS cA T y a2 q2))) := hD
          refine lv_aload_n hx hb dX5_blow_59 rfl (lv_at hl 0 rfl) ?_
          refine va_get (D := D) (ci := 5) (v := .ref (S 0)) (C := RX5) (T := TX5) (N := 8) hx hb hts inX5 hown hE.1 hP 0 rfl rfl 6 (by decide) kf24 (fun _ h9 => h9) rfl dX5_blow_60 ?_
          refine va_getN (D := D) (ci := 4) (v := .ref (S 5)) (C := RX4) (T := TX4) (N := 13) hx hb hts inX4 hown hE.1 hP 4 rfl rfl 6 (by decide) kf85 (fun _ h9 => h9) rfl dX5_blow_63 ?_
          refine lv_iload_n hx hb dX5_blow_66 rfl (lv_at hl 1 rfl) ?_
          refine ald hx hb hE hP 9 rfl (k := kn) (by omega) (Nat.le_of_ble_eq_true rfl) (v := nI (qWx (outA a kn) kn)) rfl dX5_blow_67 ?_
          have ecd : cdBlow a (nI kn) = 0 := by unfold cdBlow; rw [if_neg (by simp [c10]), nI_clamp (by omega), if_pos ⟨by omega, by simp [c40]⟩]
          have ec : nI (cdBlow a (nI kn)) = 0 := by rw [ecd]; rfl
          have ew0 : outA a ((nI kn).toNatClampNeg) = outA a kn := by rw [nI_clamp (by omega)]
          have hP : va_P D vwCl ((wM cA y E (S 0) (T 0) (nI (cdBlow a (nI kn))) b) ++ ((wS cA S y (outA a (nI kn).toNatClampNeg) q) ++ (wS cA T y a2 q2))) H := by rw [ec, ew0]; exact hP
          rw [hQQ]
          exact W.iret (v := nI (qWx (outA a kn) kn)) hx hb hr (fun t ht hW => ⟨⟨nI (qWx (outA a kn) kn), outA a (nI kn).toNatClampNeg, rfl, ⟨fun _ => ⟨by rw [nI_clamp (by omega)]; rfl, rfl⟩, fun h9 => absurd ecd h9⟩, by show va_P _ _ _ t.heap; rw [ht]; exact hP⟩, hS.F ht⟩) hS.2.2 dX5_blow_68
        · skip
          have c40 := bi_0.mp c40
          refine lv_aload_n hx hb dX5_blow_43 rfl (lv_at hl 0 rfl) ?_
          refine lv_iconst (v := 2) hx hb dX5_blow_44 (by decide) ?_
          refine cVi (wB := fun (u_8 : Unit) => ((wM cA y E (S 0) (T 0) 2 b) ++ ((wS cA S y a q) ++ (wS cA T y a2 q2)))) (As := [.int 2]) (rest := []) (wc := ((wM cA y E (S 0) (T 0) 0 b) ++ ((wS cA S y a q) ++ (wS cA T y a2 q2)))) ⟨hx, hb, hml, hown, hts⟩ (K_X5_no lch D cA y E S T 0 b a q a2 q2 2 H.size ) (cwV 1 hts gX5_blow_X5_no rfl rfl rfl (by decide +kernel) ⟨Nat.le_of_ble_eq_true rfl, Nat.le_of_ble_eq_true rfl⟩) hE hP hD hS hA [0, 1, 2, 3, 4, 5, 6, 7, 8, 9, 10, 11, 12, 13, 14, 15, 16, 17, 18, 19, 20, 21, 22, 23, 24, 25] rfl rfl [y, E 0, E 1, E 2, S 0, S 1, S 2, S 3, S 4, S 5, S 6, S 7, S 8, S 9, S 10, T 0, T 1, T 2, T 3, T 4, T 5, T 6, T 7, T 8, T 9, T 10] (fun _ => rfl) rfl (fun (u_8 : Unit) => ((wM cA y E (S 0) (T 0) 2 b) ++ ((wS cA S y a q) ++ (wS cA T y a2 q2)))) (fun _ => pst_all 26 rfl rfl rfl) X0.blind (fun _ _ _ => trivial) 0 5 rfl rfl rfl hl.1 rfl rfl (Nat.le_of_ble_eq_true rfl) dX5_blow_45 ⟨Nat.zero_le _, Nat.zero_le _⟩ (fun r_7 u_8 H locs h_9 hP hD hS => ?_)
          subst h_9
          have ecd : cdBlow a (nI kn) = 2 := by unfold cdBlow; rw [if_neg (by simp [c10]), nI_clamp (by omega), if_neg (fun q => absurd q.2 (by simp [c40]))]
          have ec : nI (cdBlow a (nI kn)) = 2 := by rw [ecd]; rfl
          have hP : va_P D vwCl ((wM cA y E (S 0) (T 0) (nI (cdBlow a (nI kn))) b) ++ ((wS cA S y a q) ++ (wS cA T y a2 q2))) H := by rw [ec]; exact hP
          rw [hQQ]
          exact W.iret (v := 0) hx hb hr (fun t ht hW => ⟨⟨0, a, rfl, ⟨fun h9 => absurd (ecd.symm.trans h9) (by decide), fun _ => ⟨rfl, rfl⟩⟩, by show va_P _ _ _ t.heap; rw [ht]; exact hP⟩, hS.F ht⟩) hS.2.2 dX5_blow_48
    · skip
      have c10 := bi_0.mp c10
      refine lv_aload_n hx hb dX5_blow_13 rfl (lv_at hl 0 rfl) ?_
      refine lv_iconst (v := 1) hx hb dX5_blow_14 (by decide) ?_
      refine cVi (wB := fun (u_11 : Unit) => ((wM cA y E (S 0) (T 0) 1 b) ++ ((wS cA S y a q) ++ (wS cA T y a2 q2)))) (As := [.int 1]) (rest := []) (wc := ((wM cA y E (S 0) (T 0) 0 b) ++ ((wS cA S y a q) ++ (wS cA T y a2 q2)))) ⟨hx, hb, hml, hown, hts⟩ (K_X5_no lch D cA y E S T 0 b a q a2 q2 1 H.size ) (cwV 1 hts gX5_blow_X5_no rfl rfl rfl (by decide +kernel) ⟨Nat.le_of_ble_eq_true rfl, Nat.le_of_ble_eq_true rfl⟩) hE hP hD hS hA [0, 1, 2, 3, 4, 5, 6, 7, 8, 9, 10, 11, 12, 13, 14, 15, 16, 17, 18, 19, 20, 21, 22, 23, 24, 25] rfl rfl [y, E 0, E 1, E 2, S 0, S 1, S 2, S 3, S 4, S 5, S 6, S 7, S 8, S 9, S 10, T 0, T 1, T 2, T 3, T 4, T 5, T 6, T 7, T 8, T 9, T 10] (fun _ => rfl) rfl (fun (u_11 : Unit) => ((wM cA y E (S 0) (T 0) 1 b) ++ ((wS cA S y a q) ++ (wS cA T y a2 q2)))) (fun _ => pst_all 26 rfl rfl rfl) X0.blind (fun _ _ _ => trivial) 0 5 rfl rfl rfl hl.1 rfl rfl (Nat.le_of_ble_eq_true rfl) dX5_blow_15 ⟨Nat.zero_le _, Nat.zero_le _⟩ (fun r_10 u_11 H locs h_12 hP hD hS => ?_)
      subst h_12
      have ecd : cdBlow a k = 1 := by unfold cdBlow; rw [if_pos c10]
      have ec : nI (cdBlow a k) = 1 := by rw [ecd]; rfl
      have hP : va_P D vwCl ((wM cA y E (S 0) (T 0) (nI (cdBlow a k)) b) ++ ((wS cA S y a q) ++ (wS cA T y a2 q2))) H := by rw [ec]; exact hP
      rw [hQQ]
      exact W.iret (v := 0) hx hb hr (fun t ht hW => ⟨⟨0, a, rfl, ⟨fun h9 => absurd (ecd.symm.trans h9) (by decide), fun _ => ⟨rfl, rfl⟩⟩, by show va_P _ _ _ t.heap; rw [ht]; exact hP⟩, hS.F ht⟩) hS.2.2 dX5_blow_18
  rw [hg1, hg2] at hgoal
  exact hgoal

set_option maxHeartbeats 4000000 in
set_option maxRecDepth 100000 in
/-- lanternTold -/
theorem K_X5_lanternTold (lch : Launch) (D : va_G) (cA : ClassId) (y : Nat) (E : Nat → Nat) (S : Nat → Nat) (T : Nat → Nat) (th : Int32) (b : BSt) (a : FSt) (q : Nat → Int32) (a2 : FSt) (q2 : Nat → Int32) (i : Nat) (w : Nat) (sz : Nat) (hk : i < 41) (hw : w ≤ 8) : Met lch yX5_lanternTold wsX5_lanternTold ({ frames := 0, cells := 1, slots := 9, locals := 0 }) (Pr D cA [.ref y, .int (nI i), .int (nI w)] sz ((wM cA y E (S 0) (T 0) th b) ++ ((wS cA S y a q) ++ (wS cA T y a2 q2))) X0) (va_Qi (fun (r : Int32) (u : Unit) => r = factA a i w) (fun (u : Unit) t => va_P D vwCl ((wM cA y E (S 0) (T 0) th b) ++ ((wS cA S y a q) ++ (wS cA T y a2 q2))) t.heap) (va_A ((wM cA y E (S 0) (T 0) th b) ++ ((wS cA S y a q) ++ (wS cA T y a2 q2))) sz)) 1 9 (va_A ((wM cA y E (S 0) (T 0) th b) ++ ((wS cA S y a q) ++ (wS cA T y a2 q2))) sz) := by
  refine Met.ofW (cc := cX5_lanternTold) (maxL := 4) (ret := (some .int)) (by decide) rfl ?_
  intro pg ev s mi args below meth cd s₁ B hml hv
  obtain ⟨hav, hsz, hP, hE, hD, hXs⟩ := hv
  have hx := B.exec
  have hb := B.bytes
  have hr := B.returns
  have hts := atoms_spec (ws := wsX5_lanternTold) B.pre
  have hown : s.vm.findClass RX5 = some mi.cls := findClass_of_methodNamed B.named
  have hlocks := B.notSynchronized
  clear B
  subst hav
  subst hsz
  have hD := hD.self (sz := s.heap.size)
  generalize hAe : va_A ((wM cA y E (S 0) (T 0) th b) ++ ((wS cA S y a q) ++ (wS cA T y a2 q2))) s.heap.size = A at hD ⊢
  have hA : ∀ q : Nat, s.heap.size ≤ q → A q := fun q h => by rw [← hAe]; exact Or.inr h
  have hS : va_S A s.heap s.heap [] := va_S.rf
  obtain ⟨QQ, hQQ⟩ : ∃ qq9, qq9 = MQ below (va_Qi (fun (r : Int32) (u : Unit) => r = factA a i w) (fun (u : Unit) t => va_P D vwCl ((wM cA y E (S 0) (T 0) th b) ++ ((wS cA S y a q) ++ (wS cA T y a2 q2))) t.heap) A) ([.ref y, .int (nI i), .int (nI w)] : List Value).toArray s 1 9 A := ⟨_, rfl⟩
  rw [← hQQ]
  have hl := lv_entry ([.ref y, .int (nI i), .int (nI w)]) (n := 4) (Nat.le_of_ble_eq_true rfl)
  rw [lg_entry_eq]
  generalize (lg_sl ([.ref y, .int (nI i), .int (nI w)]) ++ List.replicate (4 - (lg_sl ([.ref y, .int (nI i), .int (nI w)])).length) Slot.unset).toArray = ls at hl ⊢
  have hl : lv_has ls 4 [(0, .ref y), (1, .int (nI i)), (2, .int (nI w))] := hl
  have kw0 := hts (.arrayClass .int) (by decide +kernel)
  have kf24 := hts (.fieldLink RX5 24 "LanternWeirsModel" "s" "LLanternWeirsModel$State;") (by decide +kernel)
  have inX5 : ∀ w ∈ u_ws RX5 TX5 8, w ∈ wsX5_lanternTold := by decide +kernel
  have kf88 := va_Nw.use (A := ([.ref y, .int (nI i), .int (nI w)] : List Value).toArray) rfl (hE.2.2 (.fieldLinkNest "LanternWeirsModel" 88 "LanternWeirsModel$State" "frame" "[I" "LanternWeirsModel") (by decide +kernel))
  have inX4 : ∀ w ∈ u_ws RX4 TX4 13, w ∈ wsX5_lanternTold := by decide +kernel
  have kf91 := va_Nw.use (A := ([.ref y, .int (nI i), .int (nI w)] : List Value).toArray) rfl (hE.2.2 (.fieldLinkNest "LanternWeirsModel" 91 "LanternWeirsModel$State" "wish" "[I" "LanternWeirsModel") (by decide +kernel))
  have kf76 := va_Nw.use (A := ([.ref y, .int (nI i), .int (nI w)] : List Value).toArray) rfl (hE.2.2 (.fieldLinkNest "LanternWeirsModel" 76 "LanternWeirsModel$State" "lane" "[I" "LanternWeirsModel") (by decide +kernel))
  have kf94 := va_Nw.use (A := ([.ref y, .int (nI i), .int (nI w)] : List Value).toArray) rfl (hE.2.2 (.fieldLinkNest "LanternWeirsModel" 94 "LanternWeirsModel$State" "place" "[I" "LanternWeirsModel") (by decide +kernel))
  have kf85 := va_Nw.use (A := ([.ref y, .int (nI i), .int (nI w)] : List Value).toArray) rfl (hE.2.2 (.fieldLinkNest "LanternWeirsModel" 85 "LanternWeirsModel$State" "wax" "[I" "LanternWeirsModel") (by decide +kernel))
  have kf97 := va_Nw.use (A := ([.ref y, .int (nI i), .int (nI w)] : List Value).toArray) rfl (hE.2.2 (.fieldLinkNest "LanternWeirsModel" 97 "LanternWeirsModel$State" "wet" "[I" "LanternWeirsModel") (by decide +kernel))
  have kf79 := va_Nw.use (A := ([.ref y, .int (nI i), .int (nI w)] : List Value).toArray) rfl (hE.2.2 (.fieldLinkNest "LanternWeirsModel" 79 "LanternWeirsModel$State" "burns" "[I" "LanternWeirsModel") (by decide +kernel))
  have kf73 := va_Nw.use (A := ([.ref y, .int (nI i), .int (nI w)] : List Value).toArray) rfl (hE.2.2 (.fieldLinkNest "LanternWeirsModel" 73 "LanternWeirsModel$State" "state" "[I" "LanternWeirsModel") (by decide +kernel))
  have kf100 := va_Nw.use (A := ([.ref y, .int (nI i), .int (nI w)] : List Value).toArray) rfl (hE.2.2 (.fieldLinkNest "LanternWeirsModel" 100 "LanternWeirsModel$State" "ended" "[I" "LanternWeirsModel") (by decide +kernel))
  obtain ⟨H, locs, hP, hS, hgo⟩ : ∃ H locs, va_P D vwCl ((wM cA y E (S 0) (T 0) th b) ++ ((wS cA S y a q) ++ (wS cA T y a2 q2))) H ∧ va_S A s.heap H locs ∧ (H = s.heap ∧ locs = []) := ⟨_, _, hP, hS, rfl, rfl⟩
  obtain ⟨hg1, hg2⟩ := hgo
  have hgoal : W pg lch ev (headSpec wsX5_lanternTold ({ frames := 0, cells := 1, slots := 9, locals := 0 })).room s mi ([.ref y, .int (nI i), .int (nI w)] : List Value).toArray below meth cd H locs 0 0 QQ (F0 mi 0 ls []) := by
    refine lv_bipush (v := 9) hx hb dX5_lanternTold_0 (by decide) ?_
    refine na_i hx hb kw0 hE hP hD hS hA (N := 9) (Nat.le_of_ble_eq_true rfl) (Nat.le_of_ble_eq_true rfl) (Nat.le_of_ble_eq_true rfl) dX5_lanternTold_2 (fun qA H hP hD hS => ?_)
    refine W.widen (k := 1) (n := 9) (by omega) (by omega) ?_
    have hP : va_P D vwCl ((wM cA y E (S 0) (T 0) th b) ++ ((wS cA S y a q) ++ ((wS cA T y a2 q2) ++ ([(qA, .inl (cA, 9, .inl (fun _ => 0)))] : va_W)))) H := hP
    have hD : va_D A ((wM cA y E (S 0) (T 0) th b) ++ ((wS cA S y a q) ++ ((wS cA T y a2 q2) ++ ([(qA, .inl (cA, 9, .inl (fun _ => 0)))] : va_W)))) := hD
    refine lv_dup hx hb dX5_lanternTold_4 rfl ?_
    refine lv_iconst (v := 0) hx hb dX5_lanternTold_5 (by decide) ?_
    refine lv_aload_n hx hb dX5_lanternTold_6 rfl (lv_at hl 0 rfl) ?_
    refine va_get (D := D) (ci := 5) (v := .ref (S 0)) (C := RX5) (T := TX5) (N := 8) hx hb hts inX5 hown hE.1 hP 0 rfl rfl 6 (by decide) kf24 (fun _ h9 => h9) rfl dX5_lanternTold_7 ?_
    refine va_getN (D := D) (ci := 4) (v := .ref (S 1)) (C := RX4) (T := TX4) (N := 13) hx hb hts inX4 hown hE.1 hP 4 rfl rfl 2 (by decide) kf88 (fun _ h9 => h9) rfl dX5_lanternTold_10 ?_
    refine lv_iload_n hx hb dX5_lanternTold_13 rfl (lv_at hl 1 rfl) ?_
    refine ald hx hb hE hP 5 rfl (k := i) (by omega) (Nat.le_of_ble_eq_true rfl) (v := nI (qFr a i)) rfl dX5_lanternTold_14 ?_
    refine ast hx hb hE hP hD hS 26 rfl (k := 0) (by omega) (Nat.le_of_ble_eq_true rfl) (upd (fun _ => 0) 0 (nI (qFr a i))) (fun j _ => rfl) dX5_lanternTold_15 (fun H locs hP hD hS => ?_)
    have hP : va_P D vwCl ((wM cA y E (S 0) (T 0) th b) ++ ((wS cA S y a q) ++ ((wS cA T y a2 q2) ++ ([(qA, .inl (cA, 9, .inl (upd (fun _ => 0) 0 (nI (qFr a i)))))] : va_W)))) H := hP
    have hD : va_D A ((wM cA y E (S 0) (T 0) th b) ++ ((wS cA S y a q) ++ ((wS cA T y a2 q2) ++ ([(qA, .inl (cA, 9, .inl (upd (fun _ => 0) 0 (nI (qFr a i)))))] : va_W)))) := hD
    refine lv_dup hx hb dX5_lanternTold_16 rfl ?_
    refine lv_iconst (v := 1) hx hb dX5_lanternTold_17 (by decide) ?_
    refine lv_aload_n hx hb dX5_lanternTold_18 rfl (lv_at hl 0 rfl) ?_
    refine va_get (D := D) (ci := 5) (v := .ref (S 0)) (C := RX5) (T := TX5) (N := 8) hx hb hts inX5 hown hE.1 hP 0 rfl rfl 6 (by decide) kf24 (fun _ h9 => h9) rfl dX5_lanternTold_19 ?_
    refine va_getN (D := D) (ci := 4) (v := .ref (S 2)) (C := RX4) (T := TX4) (N := 13) hx hb hts inX4 hown hE.1 hP 4 rfl rfl 3 (by decide) kf91 (fun _ h9 => h9) rfl dX5_lanternTold_22 ?_
    refine lv_iload_n hx hb dX5_lanternTold_25 rfl (lv_at hl 1 rfl) ?_
    refine ald hx hb hE hP 6 rfl (k := i) (by omega) (Nat.le_of_ble_eq_true rfl) (v := qWi a i) rfl dX5_lanternTold_26 ?_
    refine ast hx hb hE hP hD hS 26 rfl (k := 1) (by omega) (Nat.le_of_ble_eq_true rfl) (upd (upd (fun _ => 0) 0 (nI (qFr a i))) 1 (qWi a i)) (fun j _ => rfl) dX5_lanternTold_27 (fun H locs hP hD hS => ?_)
    have hP : va_P D vwCl ((wM cA y E (S 0) (T 0) th b) ++ ((wS cA S y a q) ++ ((wS cA T y a2 q2) ++ ([(qA, .inl (cA, 9, .inl (upd (upd (fun _ => 0) 0 (nI (qFr a i))) 1 (qWi a i))))] : va_W)))) H := hP
    have hD : va_D A ((wM cA y E (S 0) (T 0) th b) ++ ((wS cA S y a q) ++ ((wS cA T y a2 q2) ++ ([(qA, .inl (cA, 9, .inl (upd (upd (fun _ => 0) 0 (nI (qFr a i))) 1 (qWi a i))))] : va_W)))) := hD
    refine lv_dup hx hb dX5_lanternTold_28 rfl ?_
    refine lv_iconst (v := 2) hx hb dX5_lanternTold_29 (by decide) ?_
    refine lv_aload_n hx hb dX5_lanternTold_30 rfl (lv_at hl 0 rfl) ?_
    refine va_get (D := D) (ci := 5) (v := .ref (S 0)) (C := RX5) (T := TX5) (N := 8) hx hb hts inX5 hown hE.1 hP 0 rfl rfl 6 (by decide) kf24 (fun _ h9 => h9) rfl dX5_lanternTold_31 ?_
    refine va_getN (D := D) (ci := 4) (v := .ref (S 3)) (C := RX4) (T := TX4) (N := 13) hx hb hts inX4 hown hE.1 hP 4 rfl rfl 4 (by decide) kf76 (fun _ h9 => h9) rfl dX5_lanternTold_34 ?_
    refine lv_iload_n hx hb dX5_lanternTold_37 rfl (lv_at hl 1 rfl) ?_
    refine ald hx hb hE hP 7 rfl (k := i) (by omega) (Nat.le_of_ble_eq_true rfl) (v := nI (qLa a i)) rfl dX5_lanternTold_38 ?_
    refine ast hx hb hE hP hD hS 26 rfl (k := 2) (by omega) (Nat.le_of_ble_eq_true rfl) (upd (upd (upd (fun _ => 0) 0 (nI (qFr a i))) 1 (qWi a i)) 2 (nI (qLa a i))) (fun j _ => rfl) dX5_lanternTold_39 (fun H locs hP hD hS => ?_)
    have hP : va_P D vwCl ((wM cA y E (S 0) (T 0) th b) ++ ((wS cA S y a q) ++ ((wS cA T y a2 q2) ++ ([(qA, .inl (cA, 9, .inl (upd (upd (upd (fun _ => 0) 0 (nI (qFr a i))) 1 (qWi a i)) 2 (nI (qLa a i)))))] : va_W)))) H := hP
    have hD : va_D A ((wM cA y E (S 0) (T 0) th b) ++ ((wS cA S y a q) ++ ((wS cA T y a2 q2) ++ ([(qA, .inl (cA, 9, .inl (upd (upd (upd (fun _ => 0) 0 (nI (qFr a i))) 1 (qWi a i)) 2 (nI (qLa a i)))))] : va_W)))) := hD
    refine lv_dup hx hb dX5_lanternTold_40 rfl ?_
    refine lv_iconst (v := 3) hx hb dX5_lanternTold_41 (by decide) ?_
    refine lv_aload_n hx hb dX5_lanternTold_42 rfl (lv_at hl 0 rfl) ?_
    refine va_get (D := D) (ci := 5) (v := .ref (S 0)) (C := RX5) (T := TX5) (N := 8) hx hb hts inX5 hown hE.1 hP 0 rfl rfl 6 (by decide) kf24 (fun _ h9 => h9) rfl dX5_lanternTold_43 ?_
    refine va_getN (D := D) (ci := 4) (v := .ref (S 4)) (C := RX4) (T := TX4) (N := 13) hx hb hts inX4 hown hE.1 hP 4 rfl rfl 5 (by decide) kf94 (fun _ h9 => h9) rfl dX5_lanternTold_46 ?_
    refine lv_iload_n hx hb dX5_lanternTold_49 rfl (lv_at hl 1 rfl) ?_
    refine ald hx hb hE hP 8 rfl (k := i) (by omega) (Nat.le_of_ble_eq_true rfl) (v := nI (qPl a i)) rfl dX5_lanternTold_50 ?_
    refine ast hx hb hE hP hD hS 26 rfl (k := 3) (by omega) (Nat.le_of_ble_eq_true rfl) (upd (upd (upd (upd (fun _ => 0) 0 (nI (qFr a i))) 1 (qWi a i)) 2 (nI (qLa a i))) 3 (nI (qPl a i))) (fun j _ => rfl) dX5_lanternTold_51 (fun H locs hP hD hS => ?_)
    have hP : va_P D vwCl ((wM cA y E (S 0) (T 0) th b) ++ ((wS cA S y a q) ++ ((wS cA T y a2 q2) ++ ([(qA, .inl (cA, 9, .inl (upd (upd (upd (upd (fun _ => 0) 0 (nI (qFr a i))) 1 (qWi a i)) 2 (nI (qLa a i))) 3 (nI (qPl a i)))))] : va_W)))) H := hP
    have hD : va_D A ((wM cA y E (S 0) (T 0) th b) ++ ((wS cA S y a q) ++ ((wS cA T y a2 q2) ++ ([(qA, .inl (cA, 9, .inl (upd (upd (upd (upd (fun _ => 0) 0 (nI (qFr a i))) 1 (qWi a i)) 2 (nI (qLa a i))) 3 (nI (qPl a i)))))] : va_W)))) := hD
    refine lv_dup hx hb dX5_lanternTold_52 rfl ?_
    refine lv_iconst (v := 4) hx hb dX5_lanternTold_53 (by decide) ?_
    refine lv_aload_n hx hb dX5_lanternTold_54 rfl (lv_at hl 0 rfl) ?_
    refine va_get (D := D) (ci := 5) (v := .ref (S 0)) (C := RX5) (T := TX5) (N := 8) hx hb hts inX5 hown hE.1 hP 0 rfl rfl 6 (by decide) kf24 (fun _ h9 => h9) rfl dX5_lanternTold_55 ?_
    refine va_getN (D := D) (ci := 4) (v := .ref (S 5)) (C := RX4) (T := TX4) (N := 13) hx hb hts inX4 hown hE.1 hP 4 rfl rfl 6 (by decide) kf85 (fun _ h9 => h9) rfl dX5_lanternTold_58 ?_
    refine lv_iload_n hx hb dX5_lanternTold_61 rfl (lv_at hl 1 rfl) ?_
    refine ald hx hb hE hP 9 rfl (k := i) (by omega) (Nat.le_of_ble_eq_true rfl) (v := nI (qWx a i)) rfl dX5_lanternTold_62 ?_
    refine ast hx hb hE hP hD hS 26 rfl (k := 4) (by omega) (Nat.le_of_ble_eq_true rfl) (upd (upd (upd (upd (upd (fun _ => 0) 0 (nI (qFr a i))) 1 (qWi a i)) 2 (nI (qLa a i))) 3 (nI (qPl a i))) 4 (nI (qWx a i))) (fun j _ => rfl) dX5_lanternTold_63 (fun H locs hP hD hS => ?_)
    have hP : va_P D vwCl ((wM cA y E (S 0) (T 0) th b) ++ ((wS cA S y a q) ++ ((wS cA T y a2 q2) ++ ([(qA, .inl (cA, 9, .inl (upd (upd (upd (upd (upd (fun _ => 0) 0 (nI (qFr a i))) 1 (qWi a i)) 2 (nI (qLa a i))) 3 (nI (qPl a i))) 4 (nI (qWx a i)))))] : va_W)))) H := hP
    have hD : va_D A ((wM cA y E (S 0) (T 0) th b) ++ ((wS cA S y a q) ++ ((wS cA T y a2 q2) ++ ([(qA, .inl (cA, 9, .inl (upd (upd (upd (upd (upd (fun _ => 0) 0 (nI (qFr a i))) 1 (qWi a i)) 2 (nI (qLa a i))) 3 (nI (qPl a i))) 4 (nI (qWx a i)))))] : va_W)))) := hD
    refine lv_dup hx hb dX5_lanternTold_64 rfl ?_
    refine lv_iconst (v := 5) hx hb dX5_lanternTold_65 (by decide) ?_
    refine lv_aload_n hx hb dX5_lanternTold_66 rfl (lv_at hl 0 rfl) ?_
    refine va_get (D := D) (ci := 5) (v := .ref (S 0)) (C := RX5) (T := TX5) (N := 8) hx hb hts inX5 hown hE.1 hP 0 rfl rfl 6 (by decide) kf24 (fun _ h9 => h9) rfl dX5_lanternTold_67 ?_
    refine va_getN (D := D) (ci := 4) (v := .ref (S 6)) (C := RX4) (T := TX4) (N := 13) hx hb hts inX4 hown hE.1 hP 4 rfl rfl 7 (by decide) kf97 (fun _ h9 => h9) rfl dX5_lanternTold_70 ?_
    refine lv_iload_n hx hb dX5_lanternTold_73 rfl (lv_at hl 1 rfl) ?_
    refine ald hx hb hE hP 10 rfl (k := i) (by omega) (Nat.le_of_ble_eq_true rfl) (v := qWe a i) rfl dX5_lanternTold_74 ?_
    refine ast hx hb hE hP hD hS 26 rfl (k := 5) (by omega) (Nat.le_of_ble_eq_true rfl) (upd (upd (upd (upd (upd (upd (fun _ => 0) 0 (nI (qFr a i))) 1 (qWi a i)) 2 (nI (qLa a i))) 3 (nI (qPl a i))) 4 (nI (qWx a i))) 5 (qWe a i)) (fun j _ => rfl) dX5_lanternTold_75 (fun H locs hP hD hS => ?_)
    have hP : va_P D vwCl ((wM cA y E (S 0) (T 0) th b) ++ ((wS cA S y a q) ++ ((wS cA T y a2 q2) ++ ([(qA, .inl (cA, 9, .inl (upd (upd (upd (upd (upd (upd (fun _ => 0) 0 (nI (qFr a i))) 1 (qWi a i)) 2 (nI (qLa a i))) 3 (nI (qPl a i))) 4 (nI (qWx a i))) 5 (qWe a i))))] : va_W)))) H := hP
    have hD : va_D A ((wM cA y E (S 0) (T 0) th b) ++ ((wS cA S y a q) ++ ((wS cA T y a2 q2) ++ ([(qA, .inl (cA, 9, .inl (upd (upd (upd (upd (upd (upd (fun _ => 0) 0 (nI (qFr a i))) 1 (qWi a i)) 2 (nI (qLa a i))) 3 (nI (qPl a i))) 4 (nI (qWx a i))) 5 (qWe a i))))] : va_W)))) := hD
    refine lv_dup hx hb dX5_lanternTold_76 rfl ?_
    refine lv_bipush (v := 6) hx hb dX5_lanternTold_77 (by decide) ?_
    refine lv_aload_n hx hb dX5_lanternTold_79 rfl (lv_at hl 0 rfl) ?_
    refine va_get (D := D) (ci := 5) (v := .ref (S 0)) (C := RX5) (T := TX5) (N := 8) hx hb hts inX5 hown hE.1 hP 0 rfl rfl 6 (by decide) kf24 (fun _ h9 => h9) rfl dX5_lanternTold_80 ?_
    refine va_getN (D := D) (ci := 4) (v := .ref (S 7)) (C := RX4) (T := TX4) (N := 13) hx hb hts inX4 hown hE.1 hP 4 rfl rfl 8 (by decide) kf79 (fun _ h9 => h9) rfl dX5_lanternTold_83 ?_
    refine lv_iload_n hx hb dX5_lanternTold_86 rfl (lv_at hl 1 rfl) ?_
    refine ald hx hb hE hP 11 rfl (k := i) (by omega) (Nat.le_of_ble_eq_true rfl) (v := bi (qBu a i)) rfl dX5_lanternTold_87 ?_
    refine ast hx hb hE hP hD hS 26 rfl (k := 6) (by omega) (Nat.le_of_ble_eq_true rfl) (upd (upd (upd (upd (upd (upd (upd (fun _ => 0) 0 (nI (qFr a i))) 1 (qWi a i)) 2 (nI (qLa a i))) 3 (nI (qPl a i))) 4 (nI (qWx a i))) 5 (qWe a i)) 6 (bi (qBu a i))) (fun j _ => rfl) dX5_lanternTold_88 (fun H locs hP hD hS => ?_)
    have hP : va_P D vwCl ((wM cA y E (S 0) (T 0) th b) ++ ((wS cA S y a q) ++ ((wS cA T y a2 q2) ++ ([(qA, .inl (cA, 9, .inl (upd (upd (upd (upd (upd (upd (upd (fun _ => 0) 0 (nI (qFr a i))) 1 (qWi a i)) 2 (nI (qLa a i))) 3 (nI (qPl a i))) 4 (nI (qWx a i))) 5 (qWe a i)) 6 (bi (qBu a i)))))] : va_W)))) H := hP
    have hD : va_D A ((wM cA y E (S 0) (T 0) th b) ++ ((wS cA S y a q) ++ ((wS cA T y a2 q2) ++ ([(qA, .inl (cA, 9, .inl (upd (upd (upd (upd (upd (upd (upd (fun _ => 0) 0 (nI (qFr a i))) 1 (qWi a i)) 2 (nI (qLa a i))) 3 (nI (qPl a i))) 4 (nI (qWx a i))) 5 (qWe a i)) 6 (bi (qBu a i)))))] : va_W)))) := hD
    refine lv_dup hx hb dX5_lanternTold_89 rfl ?_
    refine lv_bipush (v := 7) hx hb dX5_lanternTold_90 (by decide) ?_
    refine lv_aload_n hx hb dX5_lanternTold_92 rfl (lv_at hl 0 rfl) ?_
    refine va_get (D := D) (ci := 5) (v := .ref (S 0)) (C := RX5) (T := TX5) (N := 8) hx hb hts inX5 hown hE.1 hP 0 rfl rfl 6 (by decide) kf24 (fun _ h9 => h9) rfl dX5_lanternTold_93 ?_
    refine va_getN (D := D) (ci := 4) (v := .ref (S 8)) (C := RX4) (T := TX4) (N := 13) hx hb hts inX4 hown hE.1 hP 4 rfl rfl 9 (by decide) kf73 (fun _ h9 => h9) rfl dX5_lanternTold_96 ?_
    refine lv_iload_n hx hb dX5_lanternTold_99 rfl (lv_at hl 1 rfl) ?_
    refine ald hx hb hE hP 12 rfl (k := i) (by omega) (Nat.le_of_ble_eq_true rfl) (v := nI (qSt a i)) rfl dX5_lanternTold_100 ?_
    refine ast hx hb hE hP hD hS 26 rfl (k := 7) (by omega) (Nat.le_of_ble_eq_true rfl) (upd (upd (upd (upd (upd (upd (upd (upd (fun _ => 0) 0 (nI (qFr a i))) 1 (qWi a i)) 2 (nI (qLa a i))) 3 (nI (qPl a i))) 4 (nI (qWx a i))) 5 (qWe a i)) 6 (bi (qBu a i))) 7 (nI (qSt a i))) (fun j _ => rfl) dX5_lanternTold_101 (fun H locs hP hD hS => ?_)
    have hP : va_P D vwCl ((wM cA y E (S 0) (T 0) th b) ++ ((wS cA S y a q) ++ ((wS cA T y a2 q2) ++ ([(qA, .inl (cA, 9, .inl (upd (upd (upd (upd (upd (upd (upd (upd (fun _ => 0) 0 (nI (qFr a i))) 1 (qWi a i)) 2 (nI (qLa a i))) 3 (nI (qPl a i))) 4 (nI (qWx a i))) 5 (qWe a i)) 6 (bi (qBu a i))) 7 (nI (qSt a i)))))] : va_W)))) H := hP
    have hD : va_D A ((wM cA y E (S 0) (T 0) th b) ++ ((wS cA S y a q) ++ ((wS cA T y a2 q2) ++ ([(qA, .inl (cA, 9, .inl (upd (upd (upd (upd (upd (upd (upd (upd (fun _ => 0) 0 (nI (qFr a i))) 1 (qWi a i)) 2 (nI (qLa a i))) 3 (nI (qPl a i))) 4 (nI (qWx a i))) 5 (qWe a i)) 6 (bi (qBu a i))) 7 (nI (qSt a i)))))] : va_W)))) := hD
    refine lv_dup hx hb dX5_lanternTold_102 rfl ?_
    refine lv_bipush (v := 8) hx hb dX5_lanternTold_103 (by decide) ?_
    refine lv_aload_n hx hb dX5_lanternTold_105 rfl (lv_at hl 0 rfl) ?_
    refine va_get (D := D) (ci := 5) (v := .ref (S 0)) (C := RX5) (T := TX5) (N := 8) hx hb hts inX5 hown hE.1 hP 0 rfl rfl 6 (by decide) kf24 (fun _ h9 => h9) rfl dX5_lanternTold_106 ?_
    refine va_getN (D := D) (ci := 4) (v := .ref (S 9)) (C := RX4) (T := TX4) (N := 13) hx hb hts inX4 hown hE.1 hP 4 rfl rfl 10 (by decide) kf100 (fun _ h9 => h9) rfl dX5_lanternTold_109 ?_
    refine lv_iload_n hx hb dX5_lanternTold_112 rfl (lv_at hl 1 rfl) ?_
    refine ald hx hb hE hP 13 rfl (k := i) (by omega) (Nat.le_of_ble_eq_true rfl) (v := qEn a i) rfl dX5_lanternTold_113 ?_
    refine ast hx hb hE hP hD hS 26 rfl (k := 8) (by omega) (Nat.le_of_ble_eq_true rfl) (upd (upd (upd (upd (upd (upd (upd (upd (upd (fun _ => 0) 0 (nI (qFr a i))) 1 (qWi a i)) 2 (nI (qLa a i))) 3 (nI (qPl a i))) 4 (nI (qWx a i))) 5 (qWe a i)) 6 (bi (qBu a i))) 7 (nI (qSt a i))) 8 (qEn a i)) (fun j _ => rfl) dX5_lanternTold_114 (fun H locs hP hD hS => ?_)
    have hP : va_P D vwCl ((wM cA y E (S 0) (T 0) th b) ++ ((wS cA S y a q) ++ ((wS cA T y a2 q2) ++ ([(qA, .inl (cA, 9, .inl (upd (upd (upd (upd (upd (upd (upd (upd (upd (fun _ => 0) 0 (nI (qFr a i))) 1 (qWi a i)) 2 (nI (qLa a i))) 3 (nI (qPl a i))) 4 (nI (qWx a i))) 5 (qWe a i)) 6 (bi (qBu a i))) 7 (nI (qSt a i))) 8 (qEn a i))))] : va_W)))) H := hP
    have hD : va_D A ((wM cA y E (S 0) (T 0) th b) ++ ((wS cA S y a q) ++ ((wS cA T y a2 q2) ++ ([(qA, .inl (cA, 9, .inl (upd (upd (upd (upd (upd (upd (upd (upd (upd (fun _ => 0) 0 (nI (qFr a i))) 1 (qWi a i)) 2 (nI (qLa a i))) 3 (nI (qPl a i))) 4 (nI (qWx a i))) 5 (qWe a i)) 6 (bi (qBu a i))) 7 (nI (qSt a i))) 8 (qEn a i))))] : va_W)))) := hD
    have hP : va_P D vwCl ((wM cA y E (S 0) (T 0) th b) ++ ((wS cA S y a q) ++ ((wS cA T y a2 q2) ++ ([(qA, .inl (cA, 9, .inl (fun j => factA a i j)))] : va_W)))) H := hP.arr 26 (fun j => factA a i j) rfl (fac_base a i)
    have hD : va_D A ((wM cA y E (S 0) (T 0) th b) ++ ((wS cA S y a q) ++ ((wS cA T y a2 q2) ++ ([(qA, .inl (cA, 9, .inl (fun j => factA a i j)))] : va_W)))) := hD.set (p := 26) rfl
    refine lv_astore_n (lv' := [(3, .ref qA), (0, .ref y), (1, .int (nI i)), (2, .int (nI w))]) hx hb dX5_lanternTold_115 rfl hl (by decide) rfl (fun ls hl => ?_)
    refine lv_aload_n hx hb dX5_lanternTold_116 rfl (lv_at hl 0 rfl) ?_
    refine lv_iload_n hx hb dX5_lanternTold_117 rfl (lv_at hl 3 rfl) ?_
    refine ald hx hb hE hP 26 rfl (k := w) (by omega) (Nat.le_of_ble_eq_true rfl) (v := (fun j => factA a i j) w) rfl dX5_lanternTold_118 ?_
    have hP : va_P D vwCl ((wM cA y E (S 0) (T 0) th b) ++ ((wS cA S y a q) ++ (wS cA T y a2 q2))) H := hP.sub [0, 1, 2, 3, 4, 5, 6, 7, 8, 9, 10, 11, 12, 13, 14, 15, 16, 17, 18, 19, 20, 21, 22, 23, 24, 25] rfl
    rw [hQQ]
    exact W.iret (v := (fun j => factA a i j) w) hx hb hr (fun t ht hW => ⟨⟨(fun j => factA a i j) w, (), rfl, rfl, by show va_P _ _ _ t.heap; rw [ht]; exact hP⟩, hS.F ht⟩) hS.2.2 dX5_lanternTold_119
  rw [hg1, hg2] at hgoal
  exact hgoal

set_option maxHeartbeats 4000000 in
set_option maxRecDepth 100000 in
/-- told -/
theorem K_X5_told (lch : Launch) (D : va_G) (cA : ClassId) (y : Nat) (E : Nat → Nat) (S : Nat → Nat) (T : Nat → Nat) (th : Int32) (b : BSt) (a : FSt) (q : Nat → Int32) (a2 : FSt) (q2 : Nat → Int32) (k : Int32) (w : Int32) (sz : Nat) (hw1 : WFa a) : Met lch yX5_told wsX5_told ({ frames := 2, cells := 1, slots := 9, locals := 43 }) (Pr D cA [.ref y, .int k, .int w] sz ((wM cA y E (S 0) (T 0) th b) ++ ((wS cA S y a q) ++ (wS cA T y a2 q2))) X0) (va_Qi (fun (r : Int32) (u : Unit) => (cdTold a k w = 0 → r = factA a (k).toNatClampNeg (w).toNatClampNeg ∧ u = ()) ∧ (¬ cdTold a k w = 0 → r = 0 ∧ u = ())) (fun (u : Unit) t => va_P D vwCl ((wM cA y E (S 0) (T 0) (nI (cdTold a k w)) b) ++ ((wS cA S y a q) ++ (wS cA T y a2 q2))) t.heap) (va_A ((wM cA y E (S 0) (T 0) th b) ++ ((wS cA S y a q) ++ (wS cA T y a2 q2))) sz)) 1 9 (va_A ((wM cA y E (S 0) (T 0) th b) ++ ((wS cA S y a q) ++ (wS cA T y a2 q2))) sz) := by
  refine Met.ofW (cc := cX5_told) (maxL := 3) (ret := (some .int)) (by decide) rfl ?_
  intro pg ev s mi args below meth cd s₁ B hml hv
  obtain ⟨hav, hsz, hP, hE, hD, hXs⟩ := hv
  have hx := B.exec
  have hb := B.bytes
  have hr := B.returns
  have hts := atoms_spec (ws := wsX5_told) B.pre
  have hown : s.vm.findClass RX5 = some mi.cls := findClass_of_methodNamed B.named
  have hlocks := B.notSynchronized
  clear B
  subst hav
  subst hsz
  have hD := hD.self (sz := s.heap.size)
  generalize hAe : va_A ((wM cA y E (S 0) (T 0) th b) ++ ((wS cA S y a q) ++ (wS cA T y a2 q2))) s.heap.size = A at hD ⊢
  have hA : ∀ q : Nat, s.heap.size ≤ q → A q := fun q h => by rw [← hAe]; exact Or.inr h
  have hS : va_S A s.heap s.heap [] := va_S.rf
  obtain ⟨QQ, hQQ⟩ : ∃ qq9, qq9 = MQ below (va_Qi (fun (r : Int32) (u : Unit) => (cdTold a k w = 0 → r = factA a (k).toNatClampNeg (w).toNatClampNeg ∧ u = ()) ∧ (¬ cdTold a k w = 0 → r = 0 ∧ u = ())) (fun (u : Unit) t => va_P D vwCl ((wM cA y E (S 0) (T 0) (nI (cdTold a k w)) b) ++ ((wS cA S y a q) ++ (wS cA T y a2 q2))) t.heap) A) ([.ref y, .int k, .int w] : List Value).toArray s 1 9 A := ⟨_, rfl⟩
  rw [← hQQ]
  have hl := lv_entry ([.ref y, .int k, .int w]) (n := 3) (Nat.le_of_ble_eq_true rfl)
  rw [lg_entry_eq]
  generalize (lg_sl ([.ref y, .int k, .int w]) ++ List.replicate (3 - (lg_sl ([.ref y, .int k, .int w])).length) Slot.unset).toArray = ls at hl ⊢
  have hl : lv_has ls 3 [(0, .ref y), (1, .int k), (2, .int w)] := hl
  have kf31 := hts (.fieldLink RX5 31 "LanternWeirsModel" "thrown" "I") (by decide +kernel)
  have inX5 : ∀ w ∈ u_ws RX5 TX5 8, w ∈ wsX5_told := by decide +kernel
  obtain ⟨H, locs, hP, hS, hgo⟩ : ∃ H locs, va_P D vwCl ((wM cA y E (S 0) (T 0) th b) ++ ((wS cA S y a q) ++ (wS cA T y a2 q2))) H ∧ va_S A s.heap H locs ∧ (H = s.heap ∧ locs = []) := ⟨_, _, hP, hS, rfl, rfl⟩
  obtain ⟨hg1, hg2⟩ := hgo
  have hgoal : W pg lch ev (headSpec wsX5_told ({ frames := 2, cells := 1, slots := 9, locals := 43 })).room s mi ([.ref y, .int k, .int w] : List Value).toArray below meth cd H locs 0 0 QQ (F0 mi 0 ls []) := by
    have hn := hw1.1
    refine lv_aload_n hx hb dX5_told_0 rfl (lv_at hl 0 rfl) ?_
    refine lv_iconst (v := 0) hx hb dX5_told_1 (by decide) ?_
    refine va_put (D := D) (ci := 5) (v := .int 0) (ty := .int) (C := RX5) (T := TX5) (N := 8) hx hb hts inX5 tyX5 tyX5_ok nmX5 hown hE.1 hP hD hS 0 rfl rfl 0 (by decide) kf31 (fun _ h9 => h9) rfl (by decide +kernel) rfl rfl (Nat.le_of_ble_eq_true rfl) dX5_told_2 (fun H locs hP hD hS => ?_)
    have hP : va_P D vwCl ((wM cA y E (S 0) (T 0) 0 b) ++ ((wS cA S y a q) ++ (wS cA T y a2 q2))) H := hP
    have hD : va_D A ((wM cA y E (S 0) (T 0) 0 b) ++ ((wS cA S y a q) ++ (wS cA T y a2 q2))) := hD
    refine lv_aload_n hx hb dX5_told_5 rfl (lv_at hl 0 rfl) ?_
    refine lv_iload_n hx hb dX5_told_6 rfl (lv_at hl 1 rfl) ?_
    refine pVi (As := [.int k]) (rest := []) (wc := ((wM cA y E (S 0) (T 0) 0 b) ++ ((wS cA S y a q) ++ (wS cA T y a2 q2)))) ⟨hx, hb, hml, hown, hts⟩ (K_X5_isLantern lch D cA y E S T 0 b a q a2 q2 k H.size ) (cwV 1 hts gX5_told_X5_isLantern rfl rfl rfl (by decide +kernel) ⟨Nat.le_of_ble_eq_true rfl, Nat.le_of_ble_eq_true rfl⟩) hE hP hD hS hA [0, 1, 2, 3, 4, 5, 6, 7, 8, 9, 10, 11, 12, 13, 14, 15, 16, 17, 18, 19, 20, 21, 22, 23, 24, 25] rfl rfl X0.blind (fun _ _ _ => trivial) 0 5 rfl rfl rfl hl.1 rfl rfl (Nat.le_of_ble_eq_true rfl) dX5_told_7 ⟨Nat.zero_le _, Nat.zero_le _⟩ (fun r_1 u_2 H locs h_3 hP hS => ?_)
    subst h_3
    refine lv_if_eq (tgt := 32) hx hb dX5_told_10 (by decide) (fun c10 => ?_) (fun c10 => ?_)
    · skip
      have c10 := bi_0.mp c10
      refine lv_aload_n hx hb dX5_told_32 rfl (lv_at hl 0 rfl) ?_
      refine lv_iconst (v := 1) hx hb dX5_told_33 (by decide) ?_
      refine cVi (wB := fun (u_5 : Unit) => ((wM cA y E (S 0) (T 0) 1 b) ++ ((wS cA S y a q) ++ (wS cA T y a2 q2)))) (As := [.int 1]) (rest := []) (wc := ((wM cA y E (S 0) (T 0) 0 b) ++ ((wS cA S y a q) ++ (wS cA T y a2 q2)))) ⟨hx, hb, hml, hown, hts⟩ (K_X5_no lch D cA y E S T 0 b a q a2 q2 1 H.size ) (cwV 1 hts gX5_told_X5_no rfl rfl rfl (by decide +kernel) ⟨Nat.le_of_ble_eq_true rfl, Nat.le_of_ble_eq_true rfl⟩) hE hP hD hS hA [0, 1, 2, 3, 4, 5, 6, 7, 8, 9, 10, 11, 12, 13, 14, 15, 16, 17, 18, 19, 20, 21, 22, 23, 24, 25] rfl rfl [y, E 0, E 1, E 2, S 0, S 1, S 2, S 3, S 4, S 5, S 6, S 7, S 8, S 9, S 10, T 0, T 1, T 2, T 3, T 4, T 5, T 6, T 7, T 8, T 9, T 10] (fun _ => rfl) rfl (fun (u_5 : Unit) => ((wM cA y E (S 0) (T 0) 1 b) ++ ((wS cA S y a q) ++ (wS cA T y a2 q2)))) (fun _ => pst_all 26 rfl rfl rfl) X0.blind (fun _ _ _ => trivial) 0 5 rfl rfl rfl hl.1 rfl rfl (Nat.le_of_ble_eq_true rfl) dX5_told_34 ⟨Nat.zero_le _, Nat.zero_le _⟩ (fun r_4 u_5 H locs h_6 hP hD hS => ?_)
      subst h_6
      refine W.widen (k := 1) (n := 9) (by first | exact Nat.le_of_ble_eq_true rfl | omega) (by first | exact Nat.le_of_ble_eq_true rfl | omega) ?_
      have ecd : cdTold a k w = 1 := by unfold cdTold; rw [if_pos (Or.inl c10)]
      have ec : nI (cdTold a k w) = 1 := by rw [ecd]; rfl
      have hP : va_P D vwCl ((wM cA y E (S 0) (T 0) (nI (cdTold a k w)) b) ++ ((wS cA S y a q) ++ (wS cA T y a2 q2))) H := by rw [ec]; exact hP
      rw [hQQ]
      exact W.iret (v := 0) hx hb hr (fun t ht hW => ⟨⟨0, (), rfl, ⟨fun h9 => absurd (ecd.symm.trans h9) (by decide), fun _ => ⟨rfl, rfl⟩⟩, by show va_P _ _ _ t.heap; rw [ht]; exact hP⟩, hS.F ht⟩) hS.2.2 dX5_told_37
    · skip
      have c10 := bi_1.mp c10
      refine lv_iload_n hx hb dX5_told_13 rfl (lv_at hl 2 rfl) ?_
      refine lv_iconst (v := 0) hx hb dX5_told_14 (by decide) ?_
      refine lv_bipush (v := 8) hx hb dX5_told_15 (by decide) ?_
      refine pSi (As := [.int w, .int 0, .int 8]) (rest := []) (wc := ([] : va_W)) ⟨hx, hb, hml, hown, hts⟩ (K_X5_isIn lch D cA w 0 8 H.size ) (cwS 3 hts gX5_told_X5_isIn rfl rfl rfl (by decide +kernel) ⟨Nat.le_of_ble_eq_true rfl, Nat.le_of_ble_eq_true rfl⟩) hE hP hD hS hA [] rfl rfl X0.blind (fun _ _ _ => trivial) hl.1 rfl rfl (Nat.le_of_ble_eq_true rfl) dX5_told_17 ⟨Nat.zero_le _, Nat.zero_le _⟩ (fun r_7 u_8 H locs h_9 hP hS => ?_)
      subst h_9
      refine lv_if_eq (tgt := 32) hx hb dX5_told_20 (by decide) (fun c20 => ?_) (fun c20 => ?_)
      · skip
        have c20 := bi_0.mp c20
        refine lv_aload_n hx hb dX5_told_32 rfl (lv_at hl 0 rfl) ?_
        refine lv_iconst (v := 1) hx hb dX5_told_33 (by decide) ?_
        refine cVi (wB := fun (u_11 : Unit) => ((wM cA y E (S 0) (T 0) 1 b) ++ ((wS cA S y a q) ++ (wS cA T y a2 q2)))) (As := [.int 1]) (rest := []) (wc := ((wM cA y E (S 0) (T 0) 0 b) ++ ((wS cA S y a q) ++ (wS cA T y a2 q2)))) ⟨hx, hb, hml, hown, hts⟩ (K_X5_no lch D cA y E S T 0 b a q a2 q2 1 H.size ) (cwV 1 hts gX5_told_X5_no rfl rfl rfl (by decide +kernel) ⟨Nat.le_of_ble_eq_true rfl, Nat.le_of_ble_eq_true rfl⟩) hE hP hD hS hA [0, 1, 2, 3, 4, 5, 6, 7, 8, 9, 10, 11, 12, 13, 14, 15, 16, 17, 18, 19, 20, 21, 22, 23, 24, 25] rfl rfl [y, E 0, E 1, E 2, S 0, S 1, S 2, S 3, S 4, S 5, S 6, S 7, S 8, S 9, S 10, T 0, T 1, T 2, T 3, T 4, T 5, T 6, T 7, T 8, T 9, T 10] (fun _ => rfl) rfl (fun (u_11 : Unit) => ((wM cA y E (S 0) (T 0) 1 b) ++ ((wS cA S y a q) ++ (wS cA T y a2 q2)))) (fun _ => pst_all 26 rfl rfl rfl) X0.blind (fun _ _ _ => trivial) 0 5 rfl rfl rfl hl.1 rfl rfl (Nat.le_of_ble_eq_true rfl) dX5_told_34 ⟨Nat.zero_le _, Nat.zero_le _⟩ (fun r_10 u_11 H locs h_12 hP hD hS => ?_)
        subst h_12
        refine W.widen (k := 1) (n := 9) (by first | exact Nat.le_of_ble_eq_true rfl | omega) (by first | exact Nat.le_of_ble_eq_true rfl | omega) ?_
        have ecd : cdTold a k w = 1 := by unfold cdTold; rw [if_pos (Or.inr c20)]
        have ec : nI (cdTold a k w) = 1 := by rw [ecd]; rfl
        have hP : va_P D vwCl ((wM cA y E (S 0) (T 0) (nI (cdTold a k w)) b) ++ ((wS cA S y a q) ++ (wS cA T y a2 q2))) H := by rw [ec]; exact hP
        rw [hQQ]
        exact W.iret (v := 0) hx hb hr (fun t ht hW => ⟨⟨0, (), rfl, ⟨fun h9 => absurd (ecd.symm.trans h9) (by decide), fun _ => ⟨rfl, rfl⟩⟩, by show va_P _ _ _ t.heap; rw [ht]; exact hP⟩, hS.F ht⟩) hS.2.2 dX5_told_37
      · skip
        have c20 := bi_1.mp c20
        obtain ⟨kn, hkn, ekn⟩ := lan_nat (a := a) (k := k) c10 hn
        subst ekn
        obtain ⟨w1, w2, w3, w4, w5, w6, w7, w8⟩ := hw1.2 kn hkn
        obtain ⟨wn, hw9, ew⟩ := isW_nat (n := 8) c20 (by decide)
        subst ew
        refine lv_aload_n hx hb dX5_told_23 rfl (lv_at hl 0 rfl) ?_
        refine lv_iload_n hx hb dX5_told_24 rfl (lv_at hl 1 rfl) ?_
        refine lv_iload_n hx hb dX5_told_25 rfl (lv_at hl 2 rfl) ?_
        refine cVi (wB := fun (u_14 : Unit) => ((wM cA y E (S 0) (T 0) 0 b) ++ ((wS cA S y a q) ++ (wS cA T y a2 q2)))) (As := [.int (nI kn), .int (nI wn)]) (rest := []) (wc := ((wM cA y E (S 0) (T 0) 0 b) ++ ((wS cA S y a q) ++ (wS cA T y a2 q2)))) ⟨hx, hb, hml, hown, hts⟩ (K_X5_lanternTold lch D cA y E S T 0 b a q a2 q2 kn wn H.size (by omega) (by omega)) (cwV 2 hts gX5_told_X5_lanternTold rfl rfl rfl (by decide +kernel) ⟨Nat.le_of_ble_eq_true rfl, Nat.le_of_ble_eq_true rfl⟩) hE hP hD hS hA [0, 1, 2, 3, 4, 5, 6, 7, 8, 9, 10, 11, 12, 13, 14, 15, 16, 17, 18, 19, 20, 21, 22, 23, 24, 25] rfl rfl [y, E 0, E 1, E 2, S 0, S 1, S 2, S 3, S 4, S 5, S 6, S 7, S 8, S 9, S 10, T 0, T 1, T 2, T 3, T 4, T 5, T 6, T 7, T 8, T 9, T 10] (fun _ => rfl) rfl (fun (u_14 : Unit) => ((wM cA y E (S 0) (T 0) 0 b) ++ ((wS cA S y a q) ++ (wS cA T y a2 q2)))) (fun _ => pst_all 26 rfl rfl rfl) X0.blind (fun _ _ _ => trivial) 0 5 rfl rfl rfl hl.1 rfl rfl (Nat.le_of_ble_eq_true rfl) dX5_told_26 ⟨Nat.le_of_ble_eq_true rfl, Nat.le_of_ble_eq_true rfl⟩ (fun r_13 u_14 H locs h_15 hP hD hS => ?_)
        subst h_15
        refine lv_goto (tgt := 37) hx hb dX5_told_29 (by decide) ?_
        have ecd : cdTold a (nI kn) (nI wn) = 0 := by unfold cdTold; rw [if_neg (by simp [c10, c20])]
        have ec : nI (cdTold a (nI kn) (nI wn)) = 0 := by rw [ecd]; rfl
        have hP : va_P D vwCl ((wM cA y E (S 0) (T 0) (nI (cdTold a (nI kn) (nI wn))) b) ++ ((wS cA S y a q) ++ (wS cA T y a2 q2))) H := by rw [ec]; exact hP
        rw [hQQ]
        exact W.iret (v := factA a kn wn) hx hb hr (fun t ht hW => ⟨⟨factA a kn wn, (), rfl, ⟨fun _ => ⟨by rw [nI_clamp (by omega), nI_clamp (by omega)], rfl⟩, fun h9 => absurd ecd h9⟩, by show va_P _ _ _ t.heap; rw [ht]; exact hP⟩, hS.F ht⟩) hS.2.2 dX5_told_37
  rw [hg1, hg2] at hgoal
  exact hgoal

set_option maxHeartbeats 4000000 in
set_option maxRecDepth 100000 in
/-- nextOf -/
theorem K_X5_nextOf (lch : Launch) (D : va_G) (cA : ClassId) (y : Nat) (E : Nat → Nat) (S : Nat → Nat) (T : Nat → Nat) (th : Int32) (b : BSt) (a : FSt) (q : Nat → Int32) (a2 : FSt) (q2 : Nat → Int32) (i : Nat) (sz : Nat) (hw1 : WFa a) (hi : i < qN a) : Met lch yX5_nextOf wsX5_nextOf ({ frames := 0, cells := 0, slots := 0, locals := 0 }) (Pr D cA [.ref y, .int (nI i)] sz ((wM cA y E (S 0) (T 0) th b) ++ ((wS cA S y a q) ++ (wS cA T y a2 q2))) X0) (va_Qi (fun (r : Int32) (u : Unit) => r = nextA a b i) (fun _ _ => True) (fun q : Nat => sz ≤ q)) 0 0 (fun q : Nat => sz ≤ q) := by
  refine Met.ofW (cc := cX5_nextOf) (maxL := 3) (ret := (some .int)) (by decide) rfl ?_
  intro pg ev s mi args below meth cd s₁ B hml hv
  obtain ⟨hav, hsz, hP, hE, hD, hXs⟩ := hv
  have hx := B.exec
  have hb := B.bytes
  have hr := B.returns
  have hts := atoms_spec (ws := wsX5_nextOf) B.pre
  have hown : s.vm.findClass RX5 = some mi.cls := findClass_of_methodNamed B.named
  have hlocks := B.notSynchronized
  clear B
  subst hav
  subst hsz
  have hA : ∀ q : Nat, s.heap.size ≤ q → (fun q : Nat => s.heap.size ≤ q) q := fun _ h => h
  have hS : va_S (fun q : Nat => s.heap.size ≤ q) s.heap s.heap [] := va_S.rf
  obtain ⟨QQ, hQQ⟩ : ∃ qq9, qq9 = MQ below (va_Qi (fun (r : Int32) (u : Unit) => r = nextA a b i) (fun _ _ => True) (fun q : Nat => s.heap.size ≤ q)) ([.ref y, .int (nI i)] : List Value).toArray s 0 0 (fun q : Nat => s.heap.size ≤ q) := ⟨_, rfl⟩
  rw [← hQQ]
  have hl := lv_entry ([.ref y, .int (nI i)]) (n := 3) (Nat.le_of_ble_eq_true rfl)
  rw [lg_entry_eq]
  generalize (lg_sl ([.ref y, .int (nI i)]) ++ List.replicate (3 - (lg_sl ([.ref y, .int (nI i)])).length) Slot.unset).toArray = ls at hl ⊢
  have hl : lv_has ls 3 [(0, .ref y), (1, .int (nI i))] := hl
  have kf24 := hts (.fieldLink RX5 24 "LanternWeirsModel" "s" "LLanternWeirsModel$State;") (by decide +kernel)
  have inX5 : ∀ w ∈ u_ws RX5 TX5 8, w ∈ wsX5_nextOf := by decide +kernel
  have kf94 := va_Nw.use (A := ([.ref y, .int (nI i)] : List Value).toArray) rfl (hE.2.2 (.fieldLinkNest "LanternWeirsModel" 94 "LanternWeirsModel$State" "place" "[I" "LanternWeirsModel") (by decide +kernel))
  have inX4 : ∀ w ∈ u_ws RX4 TX4 13, w ∈ wsX5_nextOf := by decide +kernel
  have kf73 := va_Nw.use (A := ([.ref y, .int (nI i)] : List Value).toArray) rfl (hE.2.2 (.fieldLinkNest "LanternWeirsModel" 73 "LanternWeirsModel$State" "state" "[I" "LanternWeirsModel") (by decide +kernel))
  have kf13 := hts (.fieldLink RX5 13 "LanternWeirsModel" "spray" "[I") (by decide +kernel)
  obtain ⟨H, locs, hP, hS, hgo⟩ : ∃ H locs, va_P D vwCl ((wM cA y E (S 0) (T 0) th b) ++ ((wS cA S y a q) ++ (wS cA T y a2 q2))) H ∧ va_S (fun q : Nat => s.heap.size ≤ q) s.heap H locs ∧ (H = s.heap ∧ locs = []) := ⟨_, _, hP, hS, rfl, rfl⟩
  obtain ⟨hg1, hg2⟩ := hgo
  have hgoal : W pg lch ev (headSpec wsX5_nextOf ({ frames := 0, cells := 0, slots := 0, locals := 0 })).room s mi ([.ref y, .int (nI i)] : List Value).toArray below meth cd H locs 0 0 QQ (F0 mi 0 ls []) := by
    have hn := hw1.1
    obtain ⟨w1, w2, w3, w4, w5, w6, w7, w8⟩ := hw1.2 i hi
    refine lv_aload_n hx hb dX5_nextOf_0 rfl (lv_at hl 0 rfl) ?_
    refine va_get (D := D) (ci := 5) (v := .ref (S 0)) (C := RX5) (T := TX5) (N := 8) hx hb hts inX5 hown hE.1 hP 0 rfl rfl 6 (by decide) kf24 (fun _ h9 => h9) rfl dX5_nextOf_1 ?_
    refine va_getN (D := D) (ci := 4) (v := .ref (S 4)) (C := RX4) (T := TX4) (N := 13) hx hb hts inX4 hown hE.1 hP 4 rfl rfl 5 (by decide) kf94 (fun _ h9 => h9) rfl dX5_nextOf_4 ?_
    refine lv_iload_n hx hb dX5_nextOf_7 rfl (lv_at hl 1 rfl) ?_
    refine ald hx hb hE hP 8 rfl (k := i) (by omega) (Nat.le_of_ble_eq_true rfl) (v := nI (qPl a i)) rfl dX5_nextOf_8 ?_
    refine lv_iconst (v := 1) hx hb dX5_nextOf_9 (by decide) ?_
    refine lv_iadd hx hb dX5_nextOf_10 ?_
    refine top_i (y := nI ((qPl a i) + 1)) (nI_add _ _) ?_
    refine lv_istore_n (lv' := [(2, .int (nI ((qPl a i) + 1))), (0, .ref y), (1, .int (nI i))]) hx hb dX5_nextOf_11 rfl hl (by decide) rfl (fun ls hl => ?_)
    have L12 : ∀ (fu12 : Nat) (p : Nat), (qSt a i = 0 → p ≤ 60) → (p ≤ 61) → (qSt a i = 0 → nextF b (60 - p) p = nextA a b i) → 62 - p < fu12 → ∀ (H : Heap) (locs : List Loc), va_P D vwCl ((wM cA y E (S 0) (T 0) th b) ++ ((wS cA S y a q) ++ (wS cA T y a2 q2))) H → va_S (fun q : Nat => s.heap.size ≤ q) s.heap H locs → ∀ ls : Array Slot, lv_has ls 3 [(2, .int (nI p)), (0, .ref y), (1, .int (nI i))] → W pg lch ev (headSpec wsX5_nextOf ({ frames := 0, cells := 0, slots := 0, locals := 0 })).room s mi ([.ref y, .int (nI i)] : List Value).toArray below meth cd H locs 0 0 QQ (F0 mi 12 ls []) := by
      intro fu12
      induction fu12 with
      | zero => intro p hp0 hp1 hx9 hms; exact absurd hms (Nat.not_lt_zero _)
      | succ fu12 ih12 =>
        intro p hp0 hp1 hx9 hms12 H locs hP hS ls hl
        refine lv_iload_n hx hb dX5_nextOf_12 rfl (lv_at hl 0 rfl) ?_
        refine lv_bipush (v := 60) hx hb dX5_nextOf_13 (by decide) ?_
        refine lv_icmp_ge (tgt := 47) hx hb dX5_nextOf_15 (by decide) (fun c15 => ?_) (fun c15 => ?_)
        · skip
          have c15 := (nI_leI (a := 60) (b := p) (by omega) (by omega)).mp c15
          refine lv_iconst (v := (-1)) hx hb dX5_nextOf_47 (by decide) ?_
          rw [hQQ]
          exact W.iret (v := (-1)) hx hb hr (fun t ht hW => ⟨⟨(-1), (), rfl, (Decidable.em (qSt a i = 0)).elim (fun h0 => by have := hp0 h0; rw [← hx9 h0, show 60 - p = 0 by omega]; rfl) (fun h0 => by unfold nextA; rw [if_neg h0]), trivial⟩, hS.F ht⟩) hS.2.2 dX5_nextOf_48
        · skip
          have c15 := (not_congr (nI_leI (a := 60) (b := p) (by omega) (by omega))).mp c15
          refine lv_aload_n hx hb dX5_nextOf_18 rfl (lv_at hl 1 rfl) ?_
          refine va_get (D := D) (ci := 5) (v := .ref (S 0)) (C := RX5) (T := TX5) (N := 8) hx hb hts inX5 hown hE.1 hP 0 rfl rfl 6 (by decide) kf24 (fun _ h9 => h9) rfl dX5_nextOf_19 ?_
          refine va_getN (D := D) (ci := 4) (v := .ref (S 8)) (C := RX4) (T := TX4) (N := 13) hx hb hts inX4 hown hE.1 hP 4 rfl rfl 9 (by decide) kf73 (fun _ h9 => h9) rfl dX5_nextOf_22 ?_
          refine lv_iload_n hx hb dX5_nextOf_25 rfl (lv_at hl 2 rfl) ?_
          refine ald hx hb hE hP 12 rfl (k := i) (by omega) (Nat.le_of_ble_eq_true rfl) (v := nI (qSt a i)) rfl dX5_nextOf_26 ?_
          refine lv_if_ne (tgt := 47) hx hb dX5_nextOf_27 (by decide) (fun c27 => ?_) (fun c27 => ?_)
          · skip
            have c27 := (not_congr (nI_eq (a := qSt a i) (b := 0) (by omega) (by omega))).mp c27
            refine lv_iconst (v := (-1)) hx hb dX5_nextOf_47 (by decide) ?_
            rw [hQQ]
            exact W.iret (v := (-1)) hx hb hr (fun t ht hW => ⟨⟨(-1), (), rfl, by unfold nextA; rw [if_neg c27], trivial⟩, hS.F ht⟩) hS.2.2 dX5_nextOf_48
          · skip
            have c27 := (nI_eq (a := qSt a i) (b := 0) (by omega) (by omega)).mp c27
            refine lv_aload_n hx hb dX5_nextOf_30 rfl (lv_at hl 1 rfl) ?_
            refine va_get (D := D) (ci := 5) (v := .ref (E 1)) (C := RX5) (T := TX5) (N := 8) hx hb hts inX5 hown hE.1 hP 0 rfl rfl 3 (by decide) kf13 (fun _ h9 => h9) rfl dX5_nextOf_31 ?_
            refine lv_iload_n hx hb dX5_nextOf_34 rfl (lv_at hl 0 rfl) ?_
            refine ald hx hb hE hP 2 rfl (k := p) (by omega) (Nat.le_of_ble_eq_true rfl) (v := bSp b p) rfl dX5_nextOf_35 ?_
            refine lv_if_le (tgt := 41) hx hb dX5_nextOf_36 (by decide) (fun c36 => ?_) (fun c36 => ?_)
            · skip
              refine lv_iinc (v := nI (p + 1)) (lv' := [(2, .int (nI (p + 1))), (0, .ref y), (1, .int (nI i))]) hx hb dX5_nextOf_41 hl (k := 0) rfl (nI_add p 1) (by decide) rfl (fun ls hl => ?_)
              refine lv_goto (tgt := 12) hx hb dX5_nextOf_44 (by decide) ?_
              have hg := next_go (b := b) (f := 60 - (p + 1)) (p := p) (nlt0.mp c36)
              rw [show 60 - (p + 1) + 1 = 60 - p by omega, hx9 c27] at hg
              exact ih12 (p + 1) (fun _ => by omega) (by omega) (fun _ => hg.symm) (by omega) H locs hP hS ls (lv_sub hl [0, 1, 2] rfl)
            · skip
              refine lv_iload_n hx hb dX5_nextOf_39 rfl (lv_at hl 0 rfl) ?_
              rw [hQQ]
              exact W.iret (v := nI p) hx hb hr (fun t ht hW => ⟨⟨nI p, (), rfl, by rw [← hx9 c27]; exact (show nextF b (60 - p) p = nI p from by rw [show 60 - p = (59 - p) + 1 by omega]; exact next_at (by have := c36; rw [nlt0] at this; exact Decidable.not_not.mp this)).symm, trivial⟩, hS.F ht⟩) hS.2.2 dX5_nextOf_40
    exact L12 63 (qPl a i + 1) (fun h0 => by have := w5 h0; omega) (by omega) (fun h0 => by unfold nextA; rw [if_pos h0, show 59 - qPl a i = 60 - (qPl a i + 1) by omega]) (by omega) H locs hP hS ls (lv_sub hl [0, 1, 2] rfl)
  rw [hg1, hg2] at hgoal
  exact hgoal

set_option maxHeartbeats 4000000 in
set_option maxRecDepth 100000 in
/-- next -/
theorem K_X5_next (lch : Launch) (D : va_G) (cA : ClassId) (y : Nat) (E : Nat → Nat) (S : Nat → Nat) (T : Nat → Nat) (th : Int32) (b : BSt) (a : FSt) (q : Nat → Int32) (a2 : FSt) (q2 : Nat → Int32) (k : Int32) (sz : Nat) (hw1 : WFa a) : Met lch yX5_next wsX5_next ({ frames := 2, cells := 0, slots := 0, locals := 43 }) (Pr D cA [.ref y, .int k] sz ((wM cA y E (S 0) (T 0) th b) ++ ((wS cA S y a q) ++ (wS cA T y a2 q2))) X0) (va_Qi (fun (r : Int32) (u : Unit) => (cdLan a k = 0 → r = nextA a b (k).toNatClampNeg ∧ u = ()) ∧ (¬ cdLan a k = 0 → r = 0 ∧ u = ())) (fun (u : Unit) t => va_P D vwCl ((wM cA y E (S 0) (T 0) (nI (cdLan a k)) b) ++ ((wS cA S y a q) ++ (wS cA T y a2 q2))) t.heap) (va_A ((wM cA y E (S 0) (T 0) th b) ++ ((wS cA S y a q) ++ (wS cA T y a2 q2))) sz)) 0 0 (va_A ((wM cA y E (S 0) (T 0) th b) ++ ((wS cA S y a q) ++ (wS cA T y a2 q2))) sz) := by
  refine Met.ofW (cc := cX5_next) (maxL := 2) (ret := (some .int)) (by decide) rfl ?_
  intro pg ev s mi args below meth cd s₁ B hml hv
  obtain ⟨hav, hsz, hP, hE, hD, hXs⟩ := hv
  have hx := B.exec
  have hb := B.bytes
  have hr := B.returns
  have hts := atoms_spec (ws := wsX5_next) B.pre
  have hown : s.vm.findClass RX5 = some mi.cls := findClass_of_methodNamed B.named
  have hlocks := B.notSynchronized
  clear B
  subst hav
  subst hsz
  have hD := hD.self (sz := s.heap.size)
  generalize hAe : va_A ((wM cA y E (S 0) (T 0) th b) ++ ((wS cA S y a q) ++ (wS cA T y a2 q2))) s.heap.size = A at hD ⊢
  have hA : ∀ q : Nat, s.heap.size ≤ q → A q := fun q h => by rw [← hAe]; exact Or.inr h
  have hS : va_S A s.heap s.heap [] := va_S.rf
  obtain ⟨QQ, hQQ⟩ : ∃ qq9, qq9 = MQ below (va_Qi (fun (r : Int32) (u : Unit) => (cdLan a k = 0 → r = nextA a b (k).toNatClampNeg ∧ u = ()) ∧ (¬ cdLan a k = 0 → r = 0 ∧ u = ())) (fun (u : Unit) t => va_P D vwCl ((wM cA y E (S 0) (T 0) (nI (cdLan a k)) b) ++ ((wS cA S y a q) ++ (wS cA T y a2 q2))) t.heap) A) ([.ref y, .int k] : List Value).toArray s 0 0 A := ⟨_, rfl⟩
  rw [← hQQ]
  have hl := lv_entry ([.ref y, .int k]) (n := 2) (Nat.le_of_ble_eq_true rfl)
  rw [lg_entry_eq]
  generalize (lg_sl ([.ref y, .int k]) ++ List.replicate (2 - (lg_sl ([.ref y, .int k])).length) Slot.unset).toArray = ls at hl ⊢
  have hl : lv_has ls 2 [(0, .ref y), (1, .int k)] := hl
  have kf31 := hts (.fieldLink RX5 31 "LanternWeirsModel" "thrown" "I") (by decide +kernel)
  have inX5 : ∀ w ∈ u_ws RX5 TX5 8, w ∈ wsX5_next := by decide +kernel
  obtain ⟨H, locs, hP, hS, hgo⟩ : ∃ H locs, va_P D vwCl ((wM cA y E (S 0) (T 0) th b) ++ ((wS cA S y a q) ++ (wS cA T y a2 q2))) H ∧ va_S A s.heap H locs ∧ (H = s.heap ∧ locs = []) := ⟨_, _, hP, hS, rfl, rfl⟩
  obtain ⟨hg1, hg2⟩ := hgo
  have hgoal : W pg lch ev (headSpec wsX5_next ({ frames := 2, cells := 0, slots := 0, locals := 43 })).room s mi ([.ref y, .int k] : List Value).toArray below meth cd H locs 0 0 QQ (F0 mi 0 ls []) := by
    have hn := hw1.1
    refine lv_aload_n hx hb dX5_next_0 rfl (lv_at hl 0 rfl) ?_
    refine lv_iconst (v := 0) hx hb dX5_next_1 (by decide) ?_
    refine va_put (D := D) (ci := 5) (v := .int 0) (ty := .int) (C := RX5) (T := TX5) (N := 8) hx hb hts inX5 tyX5 tyX5_ok nmX5 hown hE.1 hP hD hS 0 rfl rfl 0 (by decide) kf31 (fun _ h9 => h9) rfl (by decide +kernel) rfl rfl (Nat.le_of_ble_eq_true rfl) dX5_next_2 (fun H locs hP hD hS => ?_)
    have hP : va_P D vwCl ((wM cA y E (S 0) (T 0) 0 b) ++ ((wS cA S y a q) ++ (wS cA T y a2 q2))) H := hP
    have hD : va_D A ((wM cA y E (S 0) (T 0) 0 b) ++ ((wS cA S y a q) ++ (wS cA T y a2 q2))) := hD
    refine lv_aload_n hx hb dX5_next_5 rfl (lv_at hl 0 rfl) ?_
    refine lv_iload_n hx hb dX5_next_6 rfl (lv_at hl 1 rfl) ?_
    refine pVi (As := [.int k]) (rest := []) (wc := ((wM cA y E (S 0) (T 0) 0 b) ++ ((wS cA S y a q) ++ (wS cA T y a2 q2)))) ⟨hx, hb, hml, hown, hts⟩ (K_X5_isLantern lch D cA y E S T 0 b a q a2 q2 k H.size ) (cwV 1 hts gX5_next_X5_isLantern rfl rfl rfl (by decide +kernel) ⟨Nat.le_of_ble_eq_true rfl, Nat.le_of_ble_eq_true rfl⟩) hE hP hD hS hA [0, 1, 2, 3, 4, 5, 6, 7, 8, 9, 10, 11, 12, 13, 14, 15, 16, 17, 18, 19, 20, 21, 22, 23, 24, 25] rfl rfl X0.blind (fun _ _ _ => trivial) 0 5 rfl rfl rfl hl.1 rfl rfl (Nat.le_of_ble_eq_true rfl) dX5_next_7 ⟨Nat.zero_le _, Nat.zero_le _⟩ (fun r_1 u_2 H locs h_3 hP hS => ?_)
    subst h_3
    refine lv_if_eq (tgt := 21) hx hb dX5_next_10 (by decide) (fun c10 => ?_) (fun c10 => ?_)
    · skip
      have c10 := bi_0.mp c10
      refine lv_aload_n hx hb dX5_next_21 rfl (lv_at hl 0 rfl) ?_
      refine lv_iconst (v := 1) hx hb dX5_next_22 (by decide) ?_
      refine cVi (wB := fun (u_5 : Unit) => ((wM cA y E (S 0) (T 0) 1 b) ++ ((wS cA S y a q) ++ (wS cA T y a2 q2)))) (As := [.int 1]) (rest := []) (wc := ((wM cA y E (S 0) (T 0) 0 b) ++ ((wS cA S y a q) ++ (wS cA T y a2 q2)))) ⟨hx, hb, hml, hown, hts⟩ (K_X5_no lch D cA y E S T 0 b a q a2 q2 1 H.size ) (cwV 1 hts gX5_next_X5_no rfl rfl rfl (by decide +kernel) ⟨Nat.le_of_ble_eq_true rfl, Nat.le_of_ble_eq_true rfl⟩) hE hP hD hS hA [0, 1, 2, 3, 4, 5, 6, 7, 8, 9, 10, 11, 12, 13, 14, 15, 16, 17, 18, 19, 20, 21, 22, 23, 24, 25] rfl rfl [y, E 0, E 1, E 2, S 0, S 1, S 2, S 3, S 4, S 5, S 6, S 7, S 8, S 9, S 10, T 0, T 1, T 2, T 3, T 4, T 5, T 6, T 7, T 8, T 9, T 10] (fun _ => rfl) rfl (fun (u_5 : Unit) => ((wM cA y E (S 0) (T 0) 1 b) ++ ((wS cA S y a q) ++ (wS cA T y a2 q2)))) (fun _ => pst_all 26 rfl rfl rfl) X0.blind (fun _ _ _ => trivial) 0 5 rfl rfl rfl hl.1 rfl rfl (Nat.le_of_ble_eq_true rfl) dX5_next_23 ⟨Nat.zero_le _, Nat.zero_le _⟩ (fun r_4 u_5 H locs h_6 hP hD hS => ?_)
      subst h_6
      have ecd : cdLan a k = 1 := by unfold cdLan; rw [if_pos c10]
      have ec : nI (cdLan a k) = 1 := by rw [ecd]; rfl
      have hP : va_P D vwCl ((wM cA y E (S 0) (T 0) (nI (cdLan a k)) b) ++ ((wS cA S y a q) ++ (wS cA T y a2 q2))) H := by rw [ec]; exact hP
      rw [hQQ]
      exact W.iret (v := 0) hx hb hr (fun t ht hW => ⟨⟨0, (), rfl, ⟨fun h9 => absurd (ecd.symm.trans h9) (by decide), fun _ => ⟨rfl, rfl⟩⟩, by show va_P _ _ _ t.heap; rw [ht]; exact hP⟩, hS.F ht⟩) hS.2.2 dX5_next_26
    · skip
      have c10 := bi_1.mp c10
      obtain ⟨kn, hkn, ekn⟩ := lan_nat (a := a) (k := k) c10 hn
      subst ekn
      obtain ⟨w1, w2, w3, w4, w5, w6, w7, w8⟩ := hw1.2 kn hkn
      refine lv_aload_n hx hb dX5_next_13 rfl (lv_at hl 0 rfl) ?_
      refine lv_iload_n hx hb dX5_next_14 rfl (lv_at hl 1 rfl) ?_
      refine pVi (As := [.int (nI kn)]) (rest := []) (wc := ((wM cA y E (S 0) (T 0) 0 b) ++ ((wS cA S y a q) ++ (wS cA T y a2 q2)))) ⟨hx, hb, hml, hown, hts⟩ (K_X5_nextOf lch D cA y E S T 0 b a q a2 q2 kn H.size (by first | assumption | omega) (by first | assumption | omega)) (cwV 1 hts gX5_next_X5_nextOf rfl rfl rfl (by decide +kernel) ⟨Nat.le_of_ble_eq_true rfl, Nat.le_of_ble_eq_true rfl⟩) hE hP hD hS hA [0, 1, 2, 3, 4, 5, 6, 7, 8, 9, 10, 11, 12, 13, 14, 15, 16, 17, 18, 19, 20, 21, 22, 23, 24, 25] rfl rfl X0.blind (fun _ _ _ => trivial) 0 5 rfl rfl rfl hl.1 rfl rfl (Nat.le_of_ble_eq_true rfl) dX5_next_15 ⟨Nat.zero_le _, Nat.zero_le _⟩ (fun r_7 u_8 H locs h_9 hP hS => ?_)
      subst h_9
      refine lv_goto (tgt := 26) hx hb dX5_next_18 (by decide) ?_
      have ecd : cdLan a (nI kn) = 0 := by unfold cdLan; rw [if_neg (by simp [c10])]
      have ec : nI (cdLan a (nI kn)) = 0 := by rw [ecd]; rfl
      have hP : va_P D vwCl ((wM cA y E (S 0) (T 0) (nI (cdLan a (nI kn))) b) ++ ((wS cA S y a q) ++ (wS cA T y a2 q2))) H := by rw [ec]; exact hP
      rw [hQQ]
      exact W.iret (v := nextA a b kn) hx hb hr (fun t ht hW => ⟨⟨nextA a b kn, (), rfl, ⟨fun _ => ⟨by rw [nI_clamp (by omega)], rfl⟩, fun h9 => absurd ecd h9⟩, by show va_P _ _ _ t.heap; rw [ht]; exact hP⟩, hS.F ht⟩) hS.2.2 dX5_next_26
  rw [hg1, hg2] at hgoal
  exact hgoal

set_option maxHeartbeats 4000000 in
set_option maxRecDepth 100000 in
/-- count -/
theorem K_X5_count (lch : Launch) (D : va_G) (cA : ClassId) (y : Nat) (E : Nat → Nat) (S : Nat → Nat) (T : Nat → Nat) (th : Int32) (b : BSt) (a : FSt) (q : Nat → Int32) (a2 : FSt) (q2 : Nat → Int32) (w : Int32) (sz : Nat) (hw1 : WFa a) : Met lch yX5_count wsX5_count ({ frames := 1, cells := 1, slots := 10, locals := 23 }) (Pr D cA [.ref y, .int w] sz ((wM cA y E (S 0) (T 0) th b) ++ ((wS cA S y a q) ++ (wS cA T y a2 q2))) X0) (va_Qi (fun (r : Int32) (u : Unit) => (cdCount w = 0 → r = countA a b (w).toNatClampNeg ∧ u = ()) ∧ (¬ cdCount w = 0 → r = 0 ∧ u = ())) (fun (u : Unit) t => va_P D vwCl ((wM cA y E (S 0) (T 0) (nI (cdCount w)) b) ++ ((wS cA S y a q) ++ (wS cA T y a2 q2))) t.heap) (va_A ((wM cA y E (S 0) (T 0) th b) ++ ((wS cA S y a q) ++ (wS cA T y a2 q2))) sz)) 1 10 (va_A ((wM cA y E (S 0) (T 0) th b) ++ ((wS cA S y a q) ++ (wS cA T y a2 q2))) sz) := by
  refine Met.ofW (cc := cX5_count) (maxL := 2) (ret := (some .int)) (by decide) rfl ?_
  intro pg ev s mi args below meth cd s₁ B hml hv
  obtain ⟨hav, hsz, hP, hE, hD, hXs⟩ := hv
  have hx := B.exec
  have hb := B.bytes
  have hr := B.returns
  have hts := atoms_spec (ws := wsX5_count) B.pre
  have hown : s.vm.findClass RX5 = some mi.cls := findClass_of_methodNamed B.named
  have hlocks := B.notSynchronized
  clear B
  subst hav
  subst hsz
  have hD := hD.self (sz := s.heap.size)
  generalize hAe : va_A ((wM cA y E (S 0) (T 0) th b) ++ ((wS cA S y a q) ++ (wS cA T y a2 q2))) s.heap.size = A at hD ⊢
  have hA : ∀ q : Nat, s.heap.size ≤ q → A q := fun q h => by rw [← hAe]; exact Or.inr h
  have hS : va_S A s.heap s.heap [] := va_S.rf
  obtain ⟨QQ, hQQ⟩ : ∃ qq9, qq9 = MQ below (va_Qi (fun (r : Int32) (u : Unit) => (cdCount w = 0 → r = countA a b (w).toNatClampNeg ∧ u = ()) ∧ (¬ cdCount w = 0 → r = 0 ∧ u = ())) (fun (u : Unit) t => va_P D vwCl ((wM cA y E (S 0) (T 0) (nI (cdCount w)) b) ++ ((wS cA S y a q) ++ (wS cA T y a2 q2))) t.heap) A) ([.ref y, .int w] : List Value).toArray s 1 10 A := ⟨_, rfl⟩
  rw [← hQQ]
  have hl := lv_entry ([.ref y, .int w]) (n := 2) (Nat.le_of_ble_eq_true rfl)
  rw [lg_entry_eq]
  generalize (lg_sl ([.ref y, .int w]) ++ List.replicate (2 - (lg_sl ([.ref y, .int w])).length) Slot.unset).toArray = ls at hl ⊢
  have hl : lv_has ls 2 [(0, .ref y), (1, .int w)] := hl
  have kf31 := hts (.fieldLink RX5 31 "LanternWeirsModel" "thrown" "I") (by decide +kernel)
  have inX5 : ∀ w ∈ u_ws RX5 TX5 8, w ∈ wsX5_count := by decide +kernel
  have kf24 := hts (.fieldLink RX5 24 "LanternWeirsModel" "s" "LLanternWeirsModel$State;") (by decide +kernel)
  obtain ⟨H, locs, hP, hS, hgo⟩ : ∃ H locs, va_P D vwCl ((wM cA y E (S 0) (T 0) th b) ++ ((wS cA S y a q) ++ (wS cA T y a2 q2))) H ∧ va_S A s.heap H locs ∧ (H = s.heap ∧ locs = []) := ⟨_, _, hP, hS, rfl, rfl⟩
  obtain ⟨hg1, hg2⟩ := hgo
  have hgoal : W pg lch ev (headSpec wsX5_count ({ frames := 1, cells := 1, slots := 10, locals := 23 })).room s mi ([.ref y, .int w] : List Value).toArray below meth cd H locs 0 0 QQ (F0 mi 0 ls []) := by
    have hn := hw1.1
    refine lv_aload_n hx hb dX5_count_0 rfl (lv_at hl 0 rfl) ?_
    refine lv_iconst (v := 0) hx hb dX5_count_1 (by decide) ?_
    refine va_put (D := D) (ci := 5) (v := .int 0) (ty := .int) (C := RX5) (T := TX5) (N := 8) hx hb hts inX5 tyX5 tyX5_ok nmX5 hown hE.1 hP hD hS 0 rfl rfl 0 (by decide) kf31 (fun _ h9 => h9) rfl (by decide +kernel) rfl rfl (Nat.le_of_ble_eq_true rfl) dX5_count_2 (fun H locs hP hD hS => ?_)
    have hP : va_P D vwCl ((wM cA y E (S 0) (T 0) 0 b) ++ ((wS cA S y a q) ++ (wS cA T y a2 q2))) H := hP
    have hD : va_D A ((wM cA y E (S 0) (T 0) 0 b) ++ ((wS cA S y a q) ++ (wS cA T y a2 q2))) := hD
    refine lv_iload_n hx hb dX5_count_5 rfl (lv_at hl 1 rfl) ?_
    refine lv_iconst (v := 0) hx hb dX5_count_6 (by decide) ?_
    refine lv_bipush (v := 9) hx hb dX5_count_7 (by decide) ?_
    refine pSi (As := [.int w, .int 0, .int 9]) (rest := []) (wc := ([] : va_W)) ⟨hx, hb, hml, hown, hts⟩ (K_X5_isIn lch D cA w 0 9 H.size ) (cwS 3 hts gX5_count_X5_isIn rfl rfl rfl (by decide +kernel) ⟨Nat.le_of_ble_eq_true rfl, Nat.le_of_ble_eq_true rfl⟩) hE hP hD hS hA [] rfl rfl X0.blind (fun _ _ _ => trivial) hl.1 rfl rfl (Nat.le_of_ble_eq_true rfl) dX5_count_9 ⟨Nat.zero_le _, Nat.zero_le _⟩ (fun r_1 u_2 H locs h_3 hP hS => ?_)
    subst h_3
    refine lv_if_eq (tgt := 26) hx hb dX5_count_12 (by decide) (fun c12 => ?_) (fun c12 => ?_)
    · skip
      have c12 := bi_0.mp c12
      refine lv_aload_n hx hb dX5_count_26 rfl (lv_at hl 0 rfl) ?_
      refine lv_iconst (v := 1) hx hb dX5_count_27 (by decide) ?_
      refine cVi (wB := fun (u_5 : Unit) => ((wM cA y E (S 0) (T 0) 1 b) ++ ((wS cA S y a q) ++ (wS cA T y a2 q2)))) (As := [.int 1]) (rest := []) (wc := ((wM cA y E (S 0) (T 0) 0 b) ++ ((wS cA S y a q) ++ (wS cA T y a2 q2)))) ⟨hx, hb, hml, hown, hts⟩ (K_X5_no lch D cA y E S T 0 b a q a2 q2 1 H.size ) (cwV 1 hts gX5_count_X5_no rfl rfl rfl (by decide +kernel) ⟨Nat.le_of_ble_eq_true rfl, Nat.le_of_ble_eq_true rfl⟩) hE hP hD hS hA [0, 1, 2, 3, 4, 5, 6, 7, 8, 9, 10, 11, 12, 13, 14, 15, 16, 17, 18, 19, 20, 21, 22, 23, 24, 25] rfl rfl [y, E 0, E 1, E 2, S 0, S 1, S 2, S 3, S 4, S 5, S 6, S 7, S 8, S 9, S 10, T 0, T 1, T 2, T 3, T 4, T 5, T 6, T 7, T 8, T 9, T 10] (fun _ => rfl) rfl (fun (u_5 : Unit) => ((wM cA y E (S 0) (T 0) 1 b) ++ ((wS cA S y a q) ++ (wS cA T y a2 q2)))) (fun _ => pst_all 26 rfl rfl rfl) X0.blind (fun _ _ _ => trivial) 0 5 rfl rfl rfl hl.1 rfl rfl (Nat.le_of_ble_eq_true rfl) dX5_count_28 ⟨Nat.zero_le _, Nat.zero_le _⟩ (fun r_4 u_5 H locs h_6 hP hD hS => ?_)
      subst h_6
      refine W.widen (k := 1) (n := 10) (by first | exact Nat.le_of_ble_eq_true rfl | omega) (by first | exact Nat.le_of_ble_eq_true rfl | omega) ?_
      have ecd : cdCount w = 1 := by unfold cdCount; rw [if_pos c12]
      have ec : nI (cdCount w) = 1 := by rw [ecd]; rfl
      have hP : va_P D vwCl ((wM cA y E (S 0) (T 0) (nI (cdCount w)) b) ++ ((wS cA S y a q) ++ (wS cA T y a2 q2))) H := by rw [ec]; exact hP
      rw [hQQ]
      exact W.iret (v := 0) hx hb hr (fun t ht hW => ⟨⟨0, (), rfl, ⟨fun h9 => absurd (ecd.symm.trans h9) (by decide), fun _ => ⟨rfl, rfl⟩⟩, by show va_P _ _ _ t.heap; rw [ht]; exact hP⟩, hS.F ht⟩) hS.2.2 dX5_count_31
    · skip
      have c12 := bi_1.mp c12
      obtain ⟨wn, hw9, ew⟩ := isW_nat (n := 9) c12 (by decide)
      subst ew
      refine lv_aload_n hx hb dX5_count_15 rfl (lv_at hl 0 rfl) ?_
      refine va_get (D := D) (ci := 5) (v := .ref (S 0)) (C := RX5) (T := TX5) (N := 8) hx hb hts inX5 hown hE.1 hP 0 rfl rfl 6 (by decide) kf24 (fun _ h9 => h9) rfl dX5_count_16 ?_
      refine lv_iload_n hx hb dX5_count_19 rfl (lv_at hl 1 rfl) ?_
      refine cVi (wB := fun (u_8 : Unit) => ((wM cA y E (S 0) (T 0) 0 b) ++ (wS cA S y a q))) (As := [.int (nI wn)]) (rest := []) (wc := ((wM cA y E (S 0) (T 0) 0 b) ++ (wS cA S y a q))) ⟨hx, hb, hml, hown, hts⟩ (K_X4_counted lch D cA S y a q E (S 0) (T 0) 0 b 0 0 wn H.size (by first | assumption | omega) (by omega)) (cwV 1 hts gX5_count_X4_counted rfl rfl rfl (by decide +kernel) ⟨Nat.le_of_ble_eq_true rfl, Nat.le_of_ble_eq_true rfl⟩) hE hP hD hS hA [0, 1, 2, 3, 4, 5, 6, 7, 8, 9, 10, 11, 12, 13, 14] rfl rfl [y, E 0, E 1, E 2, S 0, S 1, S 2, S 3, S 4, S 5, S 6, S 7, S 8, S 9, S 10] (fun _ => rfl) rfl (fun (u_8 : Unit) => ((wM cA y E (S 0) (T 0) 0 b) ++ ((wS cA S y a q) ++ (wS cA T y a2 q2)))) (fun u_8 => ((pst_app 4 (ps1 := [0, 1, 2, 3]) (ps2 := [4, 5, 6, 7, 8, 9, 10, 11, 12, 13, 14]) (w1 := (wM cA y E (S 0) (T 0) 0 b)) (w2 := (wS cA S y a q)) rfl rfl rfl).trans ((congrArg (fun z => pst z [4, 5, 6, 7, 8, 9, 10, 11, 12, 13, 14] (wS cA S y a q)) (pst_blk [] ((wS cA S y a q) ++ (wS cA T y a2 q2)) (wc := (wM cA y E (S 0) (T 0) 0 b)) (w1 := (wM cA y E (S 0) (T 0) 0 b)) (w2 := ((wM cA y E (S 0) (T 0) 0 b) ++ ((wS cA S y a q) ++ (wS cA T y a2 q2)))) 4 0 rfl rfl rfl rfl rfl rfl)).trans (pst_blk (wM cA y E (S 0) (T 0) 0 b) (wS cA T y a2 q2) (wc := (wS cA S y a q)) (w1 := (wS cA S y a q)) (w2 := ((wM cA y E (S 0) (T 0) 0 b) ++ ((wS cA S y a q) ++ (wS cA T y a2 q2)))) 11 4 rfl rfl rfl rfl rfl rfl)))) X0.blind (fun _ _ _ => trivial) 4 4 rfl rfl rfl hl.1 rfl rfl (Nat.le_of_ble_eq_true rfl) dX5_count_20 ⟨Nat.le_of_ble_eq_true rfl, Nat.le_of_ble_eq_true rfl⟩ (fun r_7 u_8 H locs h_9 hP hD hS => ?_)
      subst h_9
      refine lv_goto (tgt := 31) hx hb dX5_count_23 (by decide) ?_
      have ecd : cdCount (nI wn) = 0 := by unfold cdCount; rw [if_neg (by simp [c12])]
      have ec : nI (cdCount (nI wn)) = 0 := by rw [ecd]; rfl
      have hP : va_P D vwCl ((wM cA y E (S 0) (T 0) (nI (cdCount (nI wn))) b) ++ ((wS cA S y a q) ++ (wS cA T y a2 q2))) H := by rw [ec]; exact hP
      rw [hQQ]
      exact W.iret (v := countA a b wn) hx hb hr (fun t ht hW => ⟨⟨countA a b wn, (), rfl, ⟨fun _ => ⟨by rw [nI_clamp (by omega)], rfl⟩, fun h9 => absurd ecd h9⟩, by show va_P _ _ _ t.heap; rw [ht]; exact hP⟩, hS.F ht⟩) hS.2.2 dX5_count_31
  rw [hg1, hg2] at hgoal
  exact hgoal
