set_option maxHeartbeats 4000000 in
set_option maxRecDepth 100000 in
/-- riverTold -/
theorem K_X5_riverTold (lch : Launch) (D : va_G) (cA : ClassId) (y : Nat) (E : Nat → Nat) (S : Nat → Nat) (T : Nat → Nat) (th : Int32) (b : BSt) (a : FSt) (q : Nat → Int32) (a2 : FSt) (q2 : Nat → Int32) (l : Nat) (p : Nat) (w : Nat) (sz : Nat) (hw1 : WFa a) (h3 : l < 3) (h6 : p < 60) (hw : w ≤ 3) : Met lch yX5_riverTold wsX5_riverTold ({ frames := 1, cells := 0, slots := 0, locals := 25 }) (Pr D cA [.ref y, .int (nI l), .int (nI p), .int (nI w)] sz ((wM cA y E (S 0) (T 0) th b) ++ ((wS cA S y a q) ++ (wS cA T y a2 q2))) X0) (va_Qi (fun (r : Int32) (u : Unit) => r = riverA a b l p w) (fun _ _ => True) (fun q : Nat => sz ≤ q)) 0 0 (fun q : Nat => sz ≤ q) := by
  refine Met.ofW (cc := cX5_riverTold) (maxL := 4) (ret := (some .int)) (by decide) rfl ?_
  intro pg ev s mi args below meth cd s₁ B hml hv
  obtain ⟨hav, hsz, hP, hE, hD, hXs⟩ := hv
  have hx := B.exec
  have hb := B.bytes
  have hr := B.returns
  have hts := atoms_spec (ws := wsX5_riverTold) B.pre
  have hown : s.vm.findClass RX5 = some mi.cls := findClass_of_methodNamed B.named
  have hlocks := B.notSynchronized
  clear B
  subst hav
  subst hsz
  have hA : ∀ q : Nat, s.heap.size ≤ q → (fun q : Nat => s.heap.size ≤ q) q := fun _ h => h
  have hS : va_S (fun q : Nat => s.heap.size ≤ q) s.heap s.heap [] := va_S.rf
  obtain ⟨QQ, hQQ⟩ : ∃ qq9, qq9 = MQ below (va_Qi (fun (r : Int32) (u : Unit) => r = riverA a b l p w) (fun _ _ => True) (fun q : Nat => s.heap.size ≤ q)) ([.ref y, .int (nI l), .int (nI p), .int (nI w)] : List Value).toArray s 0 0 (fun q : Nat => s.heap.size ≤ q) := ⟨_, rfl⟩
  rw [← hQQ]
  have hl := lv_entry ([.ref y, .int (nI l), .int (nI p), .int (nI w)]) (n := 4) (Nat.le_of_ble_eq_true rfl)
  rw [lg_entry_eq]
  generalize (lg_sl ([.ref y, .int (nI l), .int (nI p), .int (nI w)]) ++ List.replicate (4 - (lg_sl ([.ref y, .int (nI l), .int (nI p), .int (nI w)])).length) Slot.unset).toArray = ls at hl ⊢
  have hl : lv_has ls 4 [(0, .ref y), (1, .int (nI l)), (2, .int (nI p)), (3, .int (nI w))] := hl
  have kf24 := hts (.fieldLink RX5 24 "LanternWeirsModel" "s" "LLanternWeirsModel$State;") (by decide +kernel)
  have inX5 : ∀ w ∈ u_ws RX5 TX5 8, w ∈ wsX5_riverTold := by decide +kernel
  have kf13 := hts (.fieldLink RX5 13 "LanternWeirsModel" "spray" "[I") (by decide +kernel)
  have kf16 := hts (.fieldLink RX5 16 "LanternWeirsModel" "net" "[I") (by decide +kernel)
  obtain ⟨H, locs, hP, hS, hgo⟩ : ∃ H locs, va_P D vwCl ((wM cA y E (S 0) (T 0) th b) ++ ((wS cA S y a q) ++ (wS cA T y a2 q2))) H ∧ va_S (fun q : Nat => s.heap.size ≤ q) s.heap H locs ∧ (H = s.heap ∧ locs = []) := ⟨_, _, hP, hS, rfl, rfl⟩
  obtain ⟨hg1, hg2⟩ := hgo
  have hgoal : W pg lch ev (headSpec wsX5_riverTold ({ frames := 1, cells := 0, slots := 0, locals := 25 })).room s mi ([.ref y, .int (nI l), .int (nI p), .int (nI w)] : List Value).toArray below meth cd H locs 0 0 QQ (F0 mi 0 ls []) := by
    refine lv_iload_n hx hb dX5_riverTold_0 rfl (lv_at hl 3 rfl) ?_
    obtain rfl | rfl | rfl | rfl : w = 0 ∨ w = 1 ∨ w = 2 ∨ w = 3 := by omega
    · skip
      refine lv_tableIn (tgt := 28) (off := 27) hx hb dX5_riverTold_1 (by decide) (by decide) (by decide) (by decide) ?_
      refine lv_aload_n hx hb dX5_riverTold_28 rfl (lv_at hl 0 rfl) ?_
      refine va_get (D := D) (ci := 5) (v := .ref (S 0)) (C := RX5) (T := TX5) (N := 8) hx hb hts inX5 hown hE.1 hP 0 rfl rfl 6 (by decide) kf24 (fun _ h9 => h9) rfl dX5_riverTold_29 ?_
      refine lv_iload_n hx hb dX5_riverTold_32 rfl (lv_at hl 1 rfl) ?_
      refine lv_iload_n hx hb dX5_riverTold_33 rfl (lv_at hl 2 rfl) ?_
      refine lv_iconst (v := 0) hx hb dX5_riverTold_34 (by decide) ?_
      refine pVi (As := [.int (nI l), .int (nI p), .int 0]) (rest := []) (wc := (wS cA S y a q)) ⟨hx, hb, hml, hown, hts⟩ (K_X4_at lch D cA S y a q l p 0 H.size (by first | assumption | omega) (h3) (by omega) (by decide)) (cwV 3 hts gX5_riverTold_X4_at rfl rfl rfl (by decide +kernel) ⟨Nat.le_of_ble_eq_true rfl, Nat.le_of_ble_eq_true rfl⟩) hE hP hD hS hA [4, 5, 6, 7, 8, 9, 10, 11, 12, 13, 14] rfl rfl X0.blind (fun _ _ _ => trivial) 4 4 rfl rfl rfl hl.1 rfl rfl (Nat.le_of_ble_eq_true rfl) dX5_riverTold_35 ⟨Nat.zero_le _, Nat.zero_le _⟩ (fun r_1 u_2 H locs h_3 hP hS => ?_)
      subst h_3
      rw [hQQ]
      exact W.iret (v := nI (atA a l p 0)) hx hb hr (fun t ht hW => ⟨⟨nI (atA a l p 0), (), rfl, rfl, trivial⟩, hS.F ht⟩) hS.2.2 dX5_riverTold_38
    · skip
      refine lv_tableIn (tgt := 39) (off := 38) hx hb dX5_riverTold_1 (by decide) (by decide) (by decide) (by decide) ?_
      refine lv_aload_n hx hb dX5_riverTold_39 rfl (lv_at hl 0 rfl) ?_
      refine va_get (D := D) (ci := 5) (v := .ref (E 1)) (C := RX5) (T := TX5) (N := 8) hx hb hts inX5 hown hE.1 hP 0 rfl rfl 3 (by decide) kf13 (fun _ h9 => h9) rfl dX5_riverTold_40 ?_
      refine lv_iload_n hx hb dX5_riverTold_43 rfl (lv_at hl 2 rfl) ?_
      refine ald hx hb hE hP 2 rfl (k := p) (by omega) (Nat.le_of_ble_eq_true rfl) (v := bSp b p) rfl dX5_riverTold_44 ?_
      rw [hQQ]
      exact W.iret (v := bSp b p) hx hb hr (fun t ht hW => ⟨⟨bSp b p, (), rfl, rfl, trivial⟩, hS.F ht⟩) hS.2.2 dX5_riverTold_45
    · skip
      refine lv_tableIn (tgt := 46) (off := 45) hx hb dX5_riverTold_1 (by decide) (by decide) (by decide) (by decide) ?_
      refine lv_aload_n hx hb dX5_riverTold_46 rfl (lv_at hl 0 rfl) ?_
      refine va_get (D := D) (ci := 5) (v := .ref (E 2)) (C := RX5) (T := TX5) (N := 8) hx hb hts inX5 hown hE.1 hP 0 rfl rfl 5 (by decide) kf16 (fun _ h9 => h9) rfl dX5_riverTold_47 ?_
      refine lv_bipush (v := 60) hx hb dX5_riverTold_50 (by decide) ?_
      refine lv_iload_n hx hb dX5_riverTold_52 rfl (lv_at hl 1 rfl) ?_
      refine lv_imul hx hb dX5_riverTold_53 ?_
      refine top_i (y := nI (60 * l)) (pk_mul _ _) ?_
      refine lv_iload_n hx hb dX5_riverTold_54 rfl (lv_at hl 2 rfl) ?_
      refine lv_iadd hx hb dX5_riverTold_55 ?_
      refine top_i (y := nI ((60 * l) + p)) (nI_add _ _) ?_
      refine ald hx hb hE hP 3 rfl (k := (60 * l) + p) (by omega) (Nat.le_of_ble_eq_true rfl) (v := bi (bNe b ((60 * l) + p))) rfl dX5_riverTold_56 ?_
      rw [hQQ]
      exact W.iret (v := bi (bNe b ((60 * l) + p))) hx hb hr (fun t ht hW => ⟨⟨bi (bNe b ((60 * l) + p)), (), rfl, by show _ = bi (bNe b (l * 60 + p)); rw [Nat.mul_comm 60 l], trivial⟩, hS.F ht⟩) hS.2.2 dX5_riverTold_57
    · skip
      refine lv_tableOut (tgt := 58) hx hb dX5_riverTold_1 (Or.inr (by decide)) (by decide) ?_
      refine lv_aload_n hx hb dX5_riverTold_58 rfl (lv_at hl 0 rfl) ?_
      refine va_get (D := D) (ci := 5) (v := .ref (S 0)) (C := RX5) (T := TX5) (N := 8) hx hb hts inX5 hown hE.1 hP 0 rfl rfl 6 (by decide) kf24 (fun _ h9 => h9) rfl dX5_riverTold_59 ?_
      refine lv_iload_n hx hb dX5_riverTold_62 rfl (lv_at hl 1 rfl) ?_
      refine lv_iload_n hx hb dX5_riverTold_63 rfl (lv_at hl 2 rfl) ?_
      refine lv_iconst (v := 1) hx hb dX5_riverTold_64 (by decide) ?_
      refine pVi (As := [.int (nI l), .int (nI p), .int 1]) (rest := []) (wc := (wS cA S y a q)) ⟨hx, hb, hml, hown, hts⟩ (K_X4_at lch D cA S y a q l p 1 H.size (by first | assumption | omega) (h3) (by omega) (by decide)) (cwV 3 hts gX5_riverTold_X4_at rfl rfl rfl (by decide +kernel) ⟨Nat.le_of_ble_eq_true rfl, Nat.le_of_ble_eq_true rfl⟩) hE hP hD hS hA [4, 5, 6, 7, 8, 9, 10, 11, 12, 13, 14] rfl rfl X0.blind (fun _ _ _ => trivial) 4 4 rfl rfl rfl hl.1 rfl rfl (Nat.le_of_ble_eq_true rfl) dX5_riverTold_65 ⟨Nat.zero_le _, Nat.zero_le _⟩ (fun r_4 u_5 H locs h_6 hP hS => ?_)
      subst h_6
      rw [hQQ]
      exact W.iret (v := nI (atA a l p 1)) hx hb hr (fun t ht hW => ⟨⟨nI (atA a l p 1), (), rfl, rfl, trivial⟩, hS.F ht⟩) hS.2.2 dX5_riverTold_68
  rw [hg1, hg2] at hgoal
  exact hgoal

set_option maxHeartbeats 4000000 in
set_option maxRecDepth 100000 in
/-- river -/
theorem K_X5_river (lch : Launch) (D : va_G) (cA : ClassId) (y : Nat) (E : Nat → Nat) (S : Nat → Nat) (T : Nat → Nat) (th : Int32) (b : BSt) (a : FSt) (q : Nat → Int32) (a2 : FSt) (q2 : Nat → Int32) (la : Int32) (pl : Int32) (w : Int32) (sz : Nat) (hw1 : WFa a) : Met lch yX5_river wsX5_river ({ frames := 2, cells := 0, slots := 0, locals := 48 }) (Pr D cA [.ref y, .int la, .int pl, .int w] sz ((wM cA y E (S 0) (T 0) th b) ++ ((wS cA S y a q) ++ (wS cA T y a2 q2))) X0) (va_Qi (fun (r : Int32) (u : Unit) => (cdRiver la pl w = 0 → r = riverA a b (la).toNatClampNeg (pl).toNatClampNeg (w).toNatClampNeg ∧ u = ()) ∧ (¬ cdRiver la pl w = 0 → r = 0 ∧ u = ())) (fun (u : Unit) t => va_P D vwCl ((wM cA y E (S 0) (T 0) (nI (cdRiver la pl w)) b) ++ ((wS cA S y a q) ++ (wS cA T y a2 q2))) t.heap) (va_A ((wM cA y E (S 0) (T 0) th b) ++ ((wS cA S y a q) ++ (wS cA T y a2 q2))) sz)) 0 0 (va_A ((wM cA y E (S 0) (T 0) th b) ++ ((wS cA S y a q) ++ (wS cA T y a2 q2))) sz) := by
  refine Met.ofW (cc := cX5_river) (maxL := 4) (ret := (some .int)) (by decide) rfl ?_
  intro pg ev s mi args below meth cd s₁ B hml hv
  obtain ⟨hav, hsz, hP, hE, hD, hXs⟩ := hv
  have hx := B.exec
  have hb := B.bytes
  have hr := B.returns
  have hts := atoms_spec (ws := wsX5_river) B.pre
  have hown : s.vm.findClass RX5 = some mi.cls := findClass_of_methodNamed B.named
  have hlocks := B.notSynchronized
  clear B
  subst hav
  subst hsz
  have hD := hD.self (sz := s.heap.size)
  generalize hAe : va_A ((wM cA y E (S 0) (T 0) th b) ++ ((wS cA S y a q) ++ (wS cA T y a2 q2))) s.heap.size = A at hD ⊢
  have hA : ∀ q : Nat, s.heap.size ≤ q → A q := fun q h => by rw [← hAe]; exact Or.inr h
  have hS : va_S A s.heap s.heap [] := va_S.rf
  obtain ⟨QQ, hQQ⟩ : ∃ qq9, qq9 = MQ below (va_Qi (fun (r : Int32) (u : Unit) => (cdRiver la pl w = 0 → r = riverA a b (la).toNatClampNeg (pl).toNatClampNeg (w).toNatClampNeg ∧ u = ()) ∧ (¬ cdRiver la pl w = 0 → r = 0 ∧ u = ())) (fun (u : Unit) t => va_P D vwCl ((wM cA y E (S 0) (T 0) (nI (cdRiver la pl w)) b) ++ ((wS cA S y a q) ++ (wS cA T y a2 q2))) t.heap) A) ([.ref y, .int la, .int pl, .int w] : List Value).toArray s 0 0 A := ⟨_, rfl⟩
  rw [← hQQ]
  have hl := lv_entry ([.ref y, .int la, .int pl, .int w]) (n := 4) (Nat.le_of_ble_eq_true rfl)
  rw [lg_entry_eq]
  generalize (lg_sl ([.ref y, .int la, .int pl, .int w]) ++ List.replicate (4 - (lg_sl ([.ref y, .int la, .int pl, .int w])).length) Slot.unset).toArray = ls at hl ⊢
  have hl : lv_has ls 4 [(0, .ref y), (1, .int la), (2, .int pl), (3, .int w)] := hl
  have kf31 := hts (.fieldLink RX5 31 "LanternWeirsModel" "thrown" "I") (by decide +kernel)
  have inX5 : ∀ w ∈ u_ws RX5 TX5 8, w ∈ wsX5_river := by decide +kernel
  obtain ⟨H, locs, hP, hS, hgo⟩ : ∃ H locs, va_P D vwCl ((wM cA y E (S 0) (T 0) th b) ++ ((wS cA S y a q) ++ (wS cA T y a2 q2))) H ∧ va_S A s.heap H locs ∧ (H = s.heap ∧ locs = []) := ⟨_, _, hP, hS, rfl, rfl⟩
  obtain ⟨hg1, hg2⟩ := hgo
  have hgoal : W pg lch ev (headSpec wsX5_river ({ frames := 2, cells := 0, slots := 0, locals := 48 })).room s mi ([.ref y, .int la, .int pl, .int w] : List Value).toArray below meth cd H locs 0 0 QQ (F0 mi 0 ls []) := by
    refine lv_aload_n hx hb dX5_river_0 rfl (lv_at hl 0 rfl) ?_
    refine lv_iconst (v := 0) hx hb dX5_river_1 (by decide) ?_
    refine va_put (D := D) (ci := 5) (v := .int 0) (ty := .int) (C := RX5) (T := TX5) (N := 8) hx hb hts inX5 tyX5 tyX5_ok nmX5 hown hE.1 hP hD hS 0 rfl rfl 0 (by decide) kf31 (fun _ h9 => h9) rfl (by decide +kernel) rfl rfl (Nat.le_of_ble_eq_true rfl) dX5_river_2 (fun H locs hP hD hS => ?_)
    have hP : va_P D vwCl ((wM cA y E (S 0) (T 0) 0 b) ++ ((wS cA S y a q) ++ (wS cA T y a2 q2))) H := hP
    have hD : va_D A ((wM cA y E (S 0) (T 0) 0 b) ++ ((wS cA S y a q) ++ (wS cA T y a2 q2))) := hD
    refine lv_iload_n hx hb dX5_river_5 rfl (lv_at hl 1 rfl) ?_
    refine pSi (As := [.int la]) (rest := []) (wc := ([] : va_W)) ⟨hx, hb, hml, hown, hts⟩ (K_X5_isLane lch D cA la H.size ) (cwS 1 hts gX5_river_X5_isLane rfl rfl rfl (by decide +kernel) ⟨Nat.le_of_ble_eq_true rfl, Nat.le_of_ble_eq_true rfl⟩) hE hP hD hS hA [] rfl rfl X0.blind (fun _ _ _ => trivial) hl.1 rfl rfl (Nat.le_of_ble_eq_true rfl) dX5_river_6 ⟨Nat.zero_le _, Nat.zero_le _⟩ (fun r_1 u_2 H locs h_3 hP hS => ?_)
    subst h_3
    refine lv_if_eq (tgt := 38) hx hb dX5_river_9 (by decide) (fun c9 => ?_) (fun c9 => ?_)
    · skip
      have c9 := bi_0.mp c9
      refine lv_aload_n hx hb dX5_river_38 rfl (lv_at hl 0 rfl) ?_
      refine lv_iconst (v := 1) hx hb dX5_river_39 (by decide) ?_
      refine cVi (wB := fun (u_5 : Unit) => ((wM cA y E (S 0) (T 0) 1 b) ++ ((wS cA S y a q) ++ (wS cA T y a2 q2)))) (As := [.int 1]) (rest := []) (wc := ((wM cA y E (S 0) (T 0) 0 b) ++ ((wS cA S y a q) ++ (wS cA T y a2 q2)))) ⟨hx, hb, hml, hown, hts⟩ (K_X5_no lch D cA y E S T 0 b a q a2 q2 1 H.size ) (cwV 1 hts gX5_river_X5_no rfl rfl rfl (by decide +kernel) ⟨Nat.le_of_ble_eq_true rfl, Nat.le_of_ble_eq_true rfl⟩) hE hP hD hS hA [0, 1, 2, 3, 4, 5, 6, 7, 8, 9, 10, 11, 12, 13, 14, 15, 16, 17, 18, 19, 20, 21, 22, 23, 24, 25] rfl rfl [y, E 0, E 1, E 2, S 0, S 1, S 2, S 3, S 4, S 5, S 6, S 7, S 8, S 9, S 10, T 0, T 1, T 2, T 3, T 4, T 5, T 6, T 7, T 8, T 9, T 10] (fun _ => rfl) rfl (fun (u_5 : Unit) => ((wM cA y E (S 0) (T 0) 1 b) ++ ((wS cA S y a q) ++ (wS cA T y a2 q2)))) (fun _ => pst_all 26 rfl rfl rfl) X0.blind (fun _ _ _ => trivial) 0 5 rfl rfl rfl hl.1 rfl rfl (Nat.le_of_ble_eq_true rfl) dX5_river_40 ⟨Nat.zero_le _, Nat.zero_le _⟩ (fun r_4 u_5 H locs h_6 hP hD hS => ?_)
      subst h_6
      have ecd : cdRiver la pl w = 1 := by unfold cdRiver; rw [if_pos (Or.inl c9)]
      have ec : nI (cdRiver la pl w) = 1 := by rw [ecd]; rfl
      have hP : va_P D vwCl ((wM cA y E (S 0) (T 0) (nI (cdRiver la pl w)) b) ++ ((wS cA S y a q) ++ (wS cA T y a2 q2))) H := by rw [ec]; exact hP
      rw [hQQ]
      exact W.iret (v := 0) hx hb hr (fun t ht hW => ⟨⟨0, (), rfl, ⟨fun h9 => absurd (ecd.symm.trans h9) (by decide), fun _ => ⟨rfl, rfl⟩⟩, by show va_P _ _ _ t.heap; rw [ht]; exact hP⟩, hS.F ht⟩) hS.2.2 dX5_river_43
    · skip
      have c9 := bi_1.mp c9
      refine lv_iload_n hx hb dX5_river_12 rfl (lv_at hl 2 rfl) ?_
      refine pSi (As := [.int pl]) (rest := []) (wc := ([] : va_W)) ⟨hx, hb, hml, hown, hts⟩ (K_X5_isPlace lch D cA pl H.size ) (cwS 1 hts gX5_river_X5_isPlace rfl rfl rfl (by decide +kernel) ⟨Nat.le_of_ble_eq_true rfl, Nat.le_of_ble_eq_true rfl⟩) hE hP hD hS hA [] rfl rfl X0.blind (fun _ _ _ => trivial) hl.1 rfl rfl (Nat.le_of_ble_eq_true rfl) dX5_river_13 ⟨Nat.zero_le _, Nat.zero_le _⟩ (fun r_7 u_8 H locs h_9 hP hS => ?_)
      subst h_9
      refine lv_if_eq (tgt := 38) hx hb dX5_river_16 (by decide) (fun c16 => ?_) (fun c16 => ?_)
      · skip
        have c16 := bi_0.mp c16
        refine lv_aload_n hx hb dX5_river_38 rfl (lv_at hl 0 rfl) ?_
        refine lv_iconst (v := 1) hx hb dX5_river_39 (by decide) ?_
        refine cVi (wB := fun (u_11 : Unit) => ((wM cA y E (S 0) (T 0) 1 b) ++ ((wS cA S y a q) ++ (wS cA T y a2 q2)))) (As := [.int 1]) (rest := []) (wc := ((wM cA y E (S 0) (T 0) 0 b) ++ ((wS cA S y a q) ++ (wS cA T y a2 q2)))) ⟨hx, hb, hml, hown, hts⟩ (K_X5_no lch D cA y E S T 0 b a q a2 q2 1 H.size ) (cwV 1 hts gX5_river_X5_no rfl rfl rfl (by decide +kernel) ⟨Nat.le_of_ble_eq_true rfl, Nat.le_of_ble_eq_true rfl⟩) hE hP hD hS hA [0, 1, 2, 3, 4, 5, 6, 7, 8, 9, 10, 11, 12, 13, 14, 15, 16, 17, 18, 19, 20, 21, 22, 23, 24, 25] rfl rfl [y, E 0, E 1, E 2, S 0, S 1, S 2, S 3, S 4, S 5, S 6, S 7, S 8, S 9, S 10, T 0, T 1, T 2, T 3, T 4, T 5, T 6, T 7, T 8, T 9, T 10] (fun _ => rfl) rfl (fun (u_11 : Unit) => ((wM cA y E (S 0) (T 0) 1 b) ++ ((wS cA S y a q) ++ (wS cA T y a2 q2)))) (fun _ => pst_all 26 rfl rfl rfl) X0.blind (fun _ _ _ => trivial) 0 5 rfl rfl rfl hl.1 rfl rfl (Nat.le_of_ble_eq_true rfl) dX5_river_40 ⟨Nat.zero_le _, Nat.zero_le _⟩ (fun r_10 u_11 H locs h_12 hP hD hS => ?_)
        subst h_12
        have ecd : cdRiver la pl w = 1 := by unfold cdRiver; rw [if_pos (Or.inr (Or.inl c16))]
        have ec : nI (cdRiver la pl w) = 1 := by rw [ecd]; rfl
        have hP : va_P D vwCl ((wM cA y E (S 0) (T 0) (nI (cdRiver la pl w)) b) ++ ((wS cA S y a q) ++ (wS cA T y a2 q2))) H := by rw [ec]; exact hP
        rw [hQQ]
        exact W.iret (v := 0) hx hb hr (fun t ht hW => ⟨⟨0, (), rfl, ⟨fun h9 => absurd (ecd.symm.trans h9) (by decide), fun _ => ⟨rfl, rfl⟩⟩, by show va_P _ _ _ t.heap; rw [ht]; exact hP⟩, hS.F ht⟩) hS.2.2 dX5_river_43
      · skip
        have c16 := bi_1.mp c16
        refine lv_iload_n hx hb dX5_river_19 rfl (lv_at hl 3 rfl) ?_
        refine lv_iconst (v := 0) hx hb dX5_river_20 (by decide) ?_
        refine lv_iconst (v := 3) hx hb dX5_river_21 (by decide) ?_
        refine pSi (As := [.int w, .int 0, .int 3]) (rest := []) (wc := ([] : va_W)) ⟨hx, hb, hml, hown, hts⟩ (K_X5_isIn lch D cA w 0 3 H.size ) (cwS 3 hts gX5_river_X5_isIn rfl rfl rfl (by decide +kernel) ⟨Nat.le_of_ble_eq_true rfl, Nat.le_of_ble_eq_true rfl⟩) hE hP hD hS hA [] rfl rfl X0.blind (fun _ _ _ => trivial) hl.1 rfl rfl (Nat.le_of_ble_eq_true rfl) dX5_river_22 ⟨Nat.zero_le _, Nat.zero_le _⟩ (fun r_13 u_14 H locs h_15 hP hS => ?_)
        subst h_15
        refine lv_if_eq (tgt := 38) hx hb dX5_river_25 (by decide) (fun c25 => ?_) (fun c25 => ?_)
        · skip
          have c25 := bi_0.mp c25
          refine lv_aload_n hx hb dX5_river_38 rfl (lv_at hl 0 rfl) ?_
          refine lv_iconst (v := 1) hx hb dX5_river_39 (by decide) ?_
          refine cVi (wB := fun (u_17 : Unit) => ((wM cA y E (S 0) (T 0) 1 b) ++ ((wS cA S y a q) ++ (wS cA T y a2 q2)))) (As := [.int 1]) (rest := []) (wc := ((wM cA y E (S 0) (T 0) 0 b) ++ ((wS cA S y a q) ++ (wS cA T y a2 q2)))) ⟨hx, hb, hml, hown, hts⟩ (K_X5_no lch D cA y E S T 0 b a q a2 q2 1 H.size ) (cwV 1 hts gX5_river_X5_no rfl rfl rfl (by decide +kernel) ⟨Nat.le_of_ble_eq_true rfl, Nat.le_of_ble_eq_true rfl⟩) hE hP hD hS hA [0, 1, 2, 3, 4, 5, 6, 7, 8, 9, 10, 11, 12, 13, 14, 15, 16, 17, 18, 19, 20, 21, 22, 23, 24, 25] rfl rfl [y, E 0, E 1, E 2, S 0, S 1, S 2, S 3, S 4, S 5, S 6, S 7, S 8, S 9, S 10, T 0, T 1, T 2, T 3, T 4, T 5, T 6, T 7, T 8, T 9, T 10] (fun _ => rfl) rfl (fun (u_17 : Unit) => ((wM cA y E (S 0) (T 0) 1 b) ++ ((wS cA S y a q) ++ (wS cA T y a2 q2)))) (fun _ => pst_all 26 rfl rfl rfl) X0.blind (fun _ _ _ => trivial) 0 5 rfl rfl rfl hl.1 rfl rfl (Nat.le_of_ble_eq_true rfl) dX5_river_40 ⟨Nat.zero_le _, Nat.zero_le _⟩ (fun r_16 u_17 H locs h_18 hP hD hS => ?_)
          subst h_18
          have ecd : cdRiver la pl w = 1 := by unfold cdRiver; rw [if_pos (Or.inr (Or.inr c25))]
          have ec : nI (cdRiver la pl w) = 1 := by rw [ecd]; rfl
          have hP : va_P D vwCl ((wM cA y E (S 0) (T 0) (nI (cdRiver la pl w)) b) ++ ((wS cA S y a q) ++ (wS cA T y a2 q2))) H := by rw [ec]; exact hP
          rw [hQQ]
          exact W.iret (v := 0) hx hb hr (fun t ht hW => ⟨⟨0, (), rfl, ⟨fun h9 => absurd (ecd.symm.trans h9) (by decide), fun _ => ⟨rfl, rfl⟩⟩, by show va_P _ _ _ t.heap; rw [ht]; exact hP⟩, hS.F ht⟩) hS.2.2 dX5_river_43
        · skip
          have c25 := bi_1.mp c25
          obtain ⟨lan, hla9, ela⟩ := isW_nat (n := 2) c9 (by decide)
          subst ela
          obtain ⟨pln, hpl9, epl⟩ := isW_nat (n := 59) c16 (by decide)
          subst epl
          obtain ⟨wn, hw9, ew⟩ := isW_nat (n := 3) c25 (by decide)
          subst ew
          refine lv_aload_n hx hb dX5_river_28 rfl (lv_at hl 0 rfl) ?_
          refine lv_iload_n hx hb dX5_river_29 rfl (lv_at hl 1 rfl) ?_
          refine lv_iload_n hx hb dX5_river_30 rfl (lv_at hl 2 rfl) ?_
          refine lv_iload_n hx hb dX5_river_31 rfl (lv_at hl 3 rfl) ?_
          refine pVi (As := [.int (nI lan), .int (nI pln), .int (nI wn)]) (rest := []) (wc := ((wM cA y E (S 0) (T 0) 0 b) ++ ((wS cA S y a q) ++ (wS cA T y a2 q2)))) ⟨hx, hb, hml, hown, hts⟩ (K_X5_riverTold lch D cA y E S T 0 b a q a2 q2 lan pln wn H.size (by first | assumption | omega) (by omega) (by omega) (by omega)) (cwV 3 hts gX5_river_X5_riverTold rfl rfl rfl (by decide +kernel) ⟨Nat.le_of_ble_eq_true rfl, Nat.le_of_ble_eq_true rfl⟩) hE hP hD hS hA [0, 1, 2, 3, 4, 5, 6, 7, 8, 9, 10, 11, 12, 13, 14, 15, 16, 17, 18, 19, 20, 21, 22, 23, 24, 25] rfl rfl X0.blind (fun _ _ _ => trivial) 0 5 rfl rfl rfl hl.1 rfl rfl (Nat.le_of_ble_eq_true rfl) dX5_river_32 ⟨Nat.zero_le _, Nat.zero_le _⟩ (fun r_19 u_20 H locs h_21 hP hS => ?_)
          subst h_21
          refine lv_goto (tgt := 43) hx hb dX5_river_35 (by decide) ?_
          have ecd : cdRiver (nI lan) (nI pln) (nI wn) = 0 := by unfold cdRiver; rw [if_neg (by simp [c9, c16, c25])]
          have ec : nI (cdRiver (nI lan) (nI pln) (nI wn)) = 0 := by rw [ecd]; rfl
          have hP : va_P D vwCl ((wM cA y E (S 0) (T 0) (nI (cdRiver (nI lan) (nI pln) (nI wn))) b) ++ ((wS cA S y a q) ++ (wS cA T y a2 q2))) H := by rw [ec]; exact hP
          rw [hQQ]
          exact W.iret (v := riverA a b lan pln wn) hx hb hr (fun t ht hW => ⟨⟨riverA a b lan pln wn, (), rfl, ⟨fun _ => ⟨by rw [nI_clamp (by omega), nI_clamp (by omega), nI_clamp (by omega)], rfl⟩, fun h9 => absurd ecd h9⟩, by show va_P _ _ _ t.heap; rw [ht]; exact hP⟩, hS.F ht⟩) hS.2.2 dX5_river_43
  rw [hg1, hg2] at hgoal
  exact hgoal

set_option maxHeartbeats 4000000 in
set_option maxRecDepth 100000 in
/-- launch -/
theorem K_X5_launch (lch : Launch) (D : va_G) (cA : ClassId) (y : Nat) (E : Nat → Nat) (S : Nat → Nat) (T : Nat → Nat) (th : Int32) (b : BSt) (a : FSt) (q : Nat → Int32) (a2 : FSt) (q2 : Nat → Int32) (z1 : Nat) (z2 : Nat) (f : Int32) (w : Int32) (la : Int32) (pl : Int32) (sz : Nat) (hn40 : qN a ≤ 40) : Met lch yX5_launch wsX5_launch ({ frames := 2, cells := 0, slots := 0, locals := 42 }) (Pr D cA [.ref y, .int f, .int w, .int la, .int pl] sz ((wM cA y E (S 0) (T 0) th b) ++ ((wS cA S y a q) ++ (wS cA T y a2 q2))) (SX z1 z2 (va_A ((wM cA y E (S 0) (T 0) th b) ++ ((wS cA S y a q) ++ (wS cA T y a2 q2))) sz))) (va_Qi (fun (r : Int32) (u : FSt) => (cdLaunch a f w la pl = 0 → r = nI (qN a) ∧ u = addA a (f).toNatClampNeg w (la).toNatClampNeg (pl).toNatClampNeg) ∧ (¬ cdLaunch a f w la pl = 0 → r = 0 ∧ u = a)) (fun (u : FSt) t => va_P D vwCl ((wM cA y E (S 0) (T 0) (nI (cdLaunch a f w la pl)) b) ++ ((wS cA S y u q) ++ (wS cA T y a2 q2))) t.heap) (va_A ((wM cA y E (S 0) (T 0) th b) ++ ((wS cA S y a q) ++ (wS cA T y a2 q2))) sz)) 0 0 (va_A ((wM cA y E (S 0) (T 0) th b) ++ ((wS cA S y a q) ++ (wS cA T y a2 q2))) sz) := by
  refine Met.ofW (cc := cX5_launch) (maxL := 5) (ret := (some .int)) (by decide) rfl ?_
  intro pg ev s mi args below meth cd s₁ B hml hv
  obtain ⟨hav, hsz, hP, hE, hD, hXs⟩ := hv
  have hx := B.exec
  have hb := B.bytes
  have hr := B.returns
  have hts := atoms_spec (ws := wsX5_launch) B.pre
  have hown : s.vm.findClass RX5 = some mi.cls := findClass_of_methodNamed B.named
  have hlocks := B.notSynchronized
  clear B
  subst hav
  subst hsz
  have hD := hD.self (sz := s.heap.size)
  generalize hAe : va_A ((wM cA y E (S 0) (T 0) th b) ++ ((wS cA S y a q) ++ (wS cA T y a2 q2))) s.heap.size = A at hD hXs ⊢
  have hA : ∀ q : Nat, s.heap.size ≤ q → A q := fun q h => by rw [← hAe]; exact Or.inr h
  have hS : va_S A s.heap s.heap [] := va_S.rf
  obtain ⟨QQ, hQQ⟩ : ∃ qq9, qq9 = MQ below (va_Qi (fun (r : Int32) (u : FSt) => (cdLaunch a f w la pl = 0 → r = nI (qN a) ∧ u = addA a (f).toNatClampNeg w (la).toNatClampNeg (pl).toNatClampNeg) ∧ (¬ cdLaunch a f w la pl = 0 → r = 0 ∧ u = a)) (fun (u : FSt) t => va_P D vwCl ((wM cA y E (S 0) (T 0) (nI (cdLaunch a f w la pl)) b) ++ ((wS cA S y u q) ++ (wS cA T y a2 q2))) t.heap) A) ([.ref y, .int f, .int w, .int la, .int pl] : List Value).toArray s 0 0 A := ⟨_, rfl⟩
  rw [← hQQ]
  have hl := lv_entry ([.ref y, .int f, .int w, .int la, .int pl]) (n := 5) (Nat.le_of_ble_eq_true rfl)
  rw [lg_entry_eq]
  generalize (lg_sl ([.ref y, .int f, .int w, .int la, .int pl]) ++ List.replicate (5 - (lg_sl ([.ref y, .int f, .int w, .int la, .int pl])).length) Slot.unset).toArray = ls at hl ⊢
  have hl : lv_has ls 5 [(0, .ref y), (1, .int f), (2, .int w), (3, .int la), (4, .int pl)] := hl
  have kf31 := hts (.fieldLink RX5 31 "LanternWeirsModel" "thrown" "I") (by decide +kernel)
  have inX5 : ∀ w ∈ u_ws RX5 TX5 8, w ∈ wsX5_launch := by decide +kernel
  have kf24 := hts (.fieldLink RX5 24 "LanternWeirsModel" "s" "LLanternWeirsModel$State;") (by decide +kernel)
  have kf39 := va_Nw.use (A := ([.ref y, .int f, .int w, .int la, .int pl] : List Value).toArray) rfl (hE.2.2 (.fieldLinkNest "LanternWeirsModel" 39 "LanternWeirsModel$State" "lanterns" "I" "LanternWeirsModel") (by decide +kernel))
  have inX4 : ∀ w ∈ u_ws RX4 TX4 13, w ∈ wsX5_launch := by decide +kernel
  obtain ⟨H, locs, hP, hS, hgo⟩ : ∃ H locs, va_P D vwCl ((wM cA y E (S 0) (T 0) th b) ++ ((wS cA S y a q) ++ (wS cA T y a2 q2))) H ∧ va_S A s.heap H locs ∧ (H = s.heap ∧ locs = []) := ⟨_, _, hP, hS, rfl, rfl⟩
  obtain ⟨hg1, hg2⟩ := hgo
  have hgoal : W pg lch ev (headSpec wsX5_launch ({ frames := 2, cells := 0, slots := 0, locals := 42 })).room s mi ([.ref y, .int f, .int w, .int la, .int pl] : List Value).toArray below meth cd H locs 0 0 QQ (F0 mi 0 ls []) := by
    refine lv_aload_n hx hb dX5_launch_0 rfl (lv_at hl 0 rfl) ?_
    refine lv_iconst (v := 0) hx hb dX5_launch_1 (by decide) ?_
    refine va_put (D := D) (ci := 5) (v := .int 0) (ty := .int) (C := RX5) (T := TX5) (N := 8) hx hb hts inX5 tyX5 tyX5_ok nmX5 hown hE.1 hP hD hS 0 rfl rfl 0 (by decide) kf31 (fun _ h9 => h9) rfl (by decide +kernel) rfl rfl (Nat.le_of_ble_eq_true rfl) dX5_launch_2 (fun H locs hP hD hS => ?_)
    have hP : va_P D vwCl ((wM cA y E (S 0) (T 0) 0 b) ++ ((wS cA S y a q) ++ (wS cA T y a2 q2))) H := hP
    have hD : va_D A ((wM cA y E (S 0) (T 0) 0 b) ++ ((wS cA S y a q) ++ (wS cA T y a2 q2))) := hD
    refine lv_iload_n hx hb dX5_launch_5 rfl (lv_at hl 1 rfl) ?_
    refine lv_iconst (v := 0) hx hb dX5_launch_6 (by decide) ?_
    refine lv_iconst (v := 2) hx hb dX5_launch_7 (by decide) ?_
    refine pSi (As := [.int f, .int 0, .int 2]) (rest := []) (wc := ([] : va_W)) ⟨hx, hb, hml, hown, hts⟩ (K_X5_isIn lch D cA f 0 2 H.size ) (cwS 3 hts gX5_launch_X5_isIn rfl rfl rfl (by decide +kernel) ⟨Nat.le_of_ble_eq_true rfl, Nat.le_of_ble_eq_true rfl⟩) hE hP hD hS hA [] rfl rfl X0.blind (fun _ _ _ => trivial) hl.1 rfl rfl (Nat.le_of_ble_eq_true rfl) dX5_launch_8 ⟨Nat.zero_le _, Nat.zero_le _⟩ (fun r_1 u_2 H locs h_3 hP hS => ?_)
    subst h_3
    refine lv_if_eq (tgt := 29) hx hb dX5_launch_11 (by decide) (fun c11 => ?_) (fun c11 => ?_)
    · skip
      have c11 := bi_0.mp c11
      refine lv_aload_n hx hb dX5_launch_29 rfl (lv_at hl 0 rfl) ?_
      refine lv_iconst (v := 1) hx hb dX5_launch_30 (by decide) ?_
      refine cVi (wB := fun (u_5 : Unit) => ((wM cA y E (S 0) (T 0) 1 b) ++ ((wS cA S y a q) ++ (wS cA T y a2 q2)))) (As := [.int 1]) (rest := []) (wc := ((wM cA y E (S 0) (T 0) 0 b) ++ ((wS cA S y a q) ++ (wS cA T y a2 q2)))) ⟨hx, hb, hml, hown, hts⟩ (K_X5_no lch D cA y E S T 0 b a q a2 q2 1 H.size ) (cwV 1 hts gX5_launch_X5_no rfl rfl rfl (by decide +kernel) ⟨Nat.le_of_ble_eq_true rfl, Nat.le_of_ble_eq_true rfl⟩) hE hP hD hS hA [0, 1, 2, 3, 4, 5, 6, 7, 8, 9, 10, 11, 12, 13, 14, 15, 16, 17, 18, 19, 20, 21, 22, 23, 24, 25] rfl rfl [y, E 0, E 1, E 2, S 0, S 1, S 2, S 3, S 4, S 5, S 6, S 7, S 8, S 9, S 10, T 0, T 1, T 2, T 3, T 4, T 5, T 6, T 7, T 8, T 9, T 10] (fun _ => rfl) rfl (fun (u_5 : Unit) => ((wM cA y E (S 0) (T 0) 1 b) ++ ((wS cA S y a q) ++ (wS cA T y a2 q2)))) (fun _ => pst_all 26 rfl rfl rfl) X0.blind (fun _ _ _ => trivial) 0 5 rfl rfl rfl hl.1 rfl rfl (Nat.le_of_ble_eq_true rfl) dX5_launch_31 ⟨Nat.zero_le _, Nat.zero_le _⟩ (fun r_4 u_5 H locs h_6 hP hD hS => ?_)
      subst h_6
      have ecd : cdLaunch a f w la pl = 1 := by unfold cdLaunch; rw [if_pos (Or.inl c11)]
      have ec : nI (cdLaunch a f w la pl) = 1 := by rw [ecd]; rfl
      have hP : va_P D vwCl ((wM cA y E (S 0) (T 0) (nI (cdLaunch a f w la pl)) b) ++ ((wS cA S y a q) ++ (wS cA T y a2 q2))) H := by rw [ec]; exact hP
      rw [hQQ]
      exact W.iret (v := 0) hx hb hr (fun t ht hW => ⟨⟨0, a, rfl, ⟨fun h9 => absurd (ecd.symm.trans h9) (by decide), fun _ => ⟨rfl, rfl⟩⟩, by show va_P _ _ _ t.heap; rw [ht]; exact hP⟩, hS.F ht⟩) hS.2.2 dX5_launch_34
    · skip
      have c11 := bi_1.mp c11
      refine lv_iload_n hx hb dX5_launch_14 rfl (lv_at hl 3 rfl) ?_
      refine pSi (As := [.int la]) (rest := []) (wc := ([] : va_W)) ⟨hx, hb, hml, hown, hts⟩ (K_X5_isLane lch D cA la H.size ) (cwS 1 hts gX5_launch_X5_isLane rfl rfl rfl (by decide +kernel) ⟨Nat.le_of_ble_eq_true rfl, Nat.le_of_ble_eq_true rfl⟩) hE hP hD hS hA [] rfl rfl X0.blind (fun _ _ _ => trivial) hl.1 rfl rfl (Nat.le_of_ble_eq_true rfl) dX5_launch_15 ⟨Nat.zero_le _, Nat.zero_le _⟩ (fun r_7 u_8 H locs h_9 hP hS => ?_)
      subst h_9
      refine lv_if_eq (tgt := 29) hx hb dX5_launch_18 (by decide) (fun c18 => ?_) (fun c18 => ?_)
      · skip
        have c18 := bi_0.mp c18
        refine lv_aload_n hx hb dX5_launch_29 rfl (lv_at hl 0 rfl) ?_
        refine lv_iconst (v := 1) hx hb dX5_launch_30 (by decide) ?_
        refine cVi (wB := fun (u_11 : Unit) => ((wM cA y E (S 0) (T 0) 1 b) ++ ((wS cA S y a q) ++ (wS cA T y a2 q2)))) (As := [.int 1]) (rest := []) (wc := ((wM cA y E (S 0) (T 0) 0 b) ++ ((wS cA S y a q) ++ (wS cA T y a2 q2)))) ⟨hx, hb, hml, hown, hts⟩ (K_X5_no lch D cA y E S T 0 b a q a2 q2 1 H.size ) (cwV 1 hts gX5_launch_X5_no rfl rfl rfl (by decide +kernel) ⟨Nat.le_of_ble_eq_true rfl, Nat.le_of_ble_eq_true rfl⟩) hE hP hD hS hA [0, 1, 2, 3, 4, 5, 6, 7, 8, 9, 10, 11, 12, 13, 14, 15, 16, 17, 18, 19, 20, 21, 22, 23, 24, 25] rfl rfl [y, E 0, E 1, E 2, S 0, S 1, S 2, S 3, S 4, S 5, S 6, S 7, S 8, S 9, S 10, T 0, T 1, T 2, T 3, T 4, T 5, T 6, T 7, T 8, T 9, T 10] (fun _ => rfl) rfl (fun (u_11 : Unit) => ((wM cA y E (S 0) (T 0) 1 b) ++ ((wS cA S y a q) ++ (wS cA T y a2 q2)))) (fun _ => pst_all 26 rfl rfl rfl) X0.blind (fun _ _ _ => trivial) 0 5 rfl rfl rfl hl.1 rfl rfl (Nat.le_of_ble_eq_true rfl) dX5_launch_31 ⟨Nat.zero_le _, Nat.zero_le _⟩ (fun r_10 u_11 H locs h_12 hP hD hS => ?_)
        subst h_12
        have ecd : cdLaunch a f w la pl = 1 := by unfold cdLaunch; rw [if_pos (Or.inr (Or.inl c18))]
        have ec : nI (cdLaunch a f w la pl) = 1 := by rw [ecd]; rfl
        have hP : va_P D vwCl ((wM cA y E (S 0) (T 0) (nI (cdLaunch a f w la pl)) b) ++ ((wS cA S y a q) ++ (wS cA T y a2 q2))) H := by rw [ec]; exact hP
        rw [hQQ]
        exact W.iret (v := 0) hx hb hr (fun t ht hW => ⟨⟨0, a, rfl, ⟨fun h9 => absurd (ecd.symm.trans h9) (by decide), fun _ => ⟨rfl, rfl⟩⟩, by show va_P _ _ _ t.heap; rw [ht]; exact hP⟩, hS.F ht⟩) hS.2.2 dX5_launch_34
      · skip
        have c18 := bi_1.mp c18
        refine lv_iload hx hb dX5_launch_21 (lv_at hl 4 rfl) ?_
        refine pSi (As := [.int pl]) (rest := []) (wc := ([] : va_W)) ⟨hx, hb, hml, hown, hts⟩ (K_X5_isPlace lch D cA pl H.size ) (cwS 1 hts gX5_launch_X5_isPlace rfl rfl rfl (by decide +kernel) ⟨Nat.le_of_ble_eq_true rfl, Nat.le_of_ble_eq_true rfl⟩) hE hP hD hS hA [] rfl rfl X0.blind (fun _ _ _ => trivial) hl.1 rfl rfl (Nat.le_of_ble_eq_true rfl) dX5_launch_23 ⟨Nat.zero_le _, Nat.zero_le _⟩ (fun r_13 u_14 H locs h_15 hP hS => ?_)
        subst h_15
        refine lv_if_ne (tgt := 35) hx hb dX5_launch_26 (by decide) (fun c26 => ?_) (fun c26 => ?_)
        · skip
          have c26 := bi_1.mp c26
          refine lv_iload_n hx hb dX5_launch_35 rfl (lv_at hl 2 rfl) ?_
          refine lv_iconst (v := 0) hx hb dX5_launch_36 (by decide) ?_
          refine lv_sipush (v := 999) hx hb dX5_launch_37 (by decide) ?_
          refine pSi (As := [.int w, .int 0, .int 999]) (rest := []) (wc := ([] : va_W)) ⟨hx, hb, hml, hown, hts⟩ (K_X5_isIn lch D cA w 0 999 H.size ) (cwS 3 hts gX5_launch_X5_isIn rfl rfl rfl (by decide +kernel) ⟨Nat.le_of_ble_eq_true rfl, Nat.le_of_ble_eq_true rfl⟩) hE hP hD hS hA [] rfl rfl X0.blind (fun _ _ _ => trivial) hl.1 rfl rfl (Nat.le_of_ble_eq_true rfl) dX5_launch_40 ⟨Nat.zero_le _, Nat.zero_le _⟩ (fun r_16 u_17 H locs h_18 hP hS => ?_)
          subst h_18
          refine lv_if_ne (tgt := 52) hx hb dX5_launch_43 (by decide) (fun c43 => ?_) (fun c43 => ?_)
          · skip
            have c43 := bi_1.mp c43
            refine lv_aload_n hx hb dX5_launch_52 rfl (lv_at hl 0 rfl) ?_
            refine va_get (D := D) (ci := 5) (v := .ref (S 0)) (C := RX5) (T := TX5) (N := 8) hx hb hts inX5 hown hE.1 hP 0 rfl rfl 6 (by decide) kf24 (fun _ h9 => h9) rfl dX5_launch_53 ?_
            refine va_getN (D := D) (ci := 4) (v := .int (nI (qN a))) (C := RX4) (T := TX4) (N := 13) hx hb hts inX4 hown hE.1 hP 4 rfl rfl 1 (by decide) kf39 (fun _ h9 => h9) rfl dX5_launch_56 ?_
            refine lv_bipush (v := 40) hx hb dX5_launch_59 (by decide) ?_
            refine lv_icmp_ne (tgt := 72) hx hb dX5_launch_61 (by decide) (fun c61 => ?_) (fun c61 => ?_)
            · skip
              have c61 := (not_congr (nI_eq (a := qN a) (b := 40) (by omega) (by omega))).mp c61
              obtain ⟨fn, hf9, ef⟩ := isW_nat (n := 2) c11 (by decide)
              subst ef
              obtain ⟨lan, hla9, ela⟩ := isW_nat (n := 2) c18 (by decide)
              subst ela
              obtain ⟨pln, hpl9, epl⟩ := isW_nat (n := 59) c26 (by decide)
              subst epl
              refine lv_aload_n hx hb dX5_launch_72 rfl (lv_at hl 0 rfl) ?_
              refine va_get (D := D) (ci := 5) (v := .ref (S 0)) (C := RX5) (T := TX5) (N := 8) hx hb hts inX5 hown hE.1 hP 0 rfl rfl 6 (by decide) kf24 (fun _ h9 => h9) rfl dX5_launch_73 ?_
              refine lv_iload_n hx hb dX5_launch_76 rfl (lv_at hl 1 rfl) ?_
              refine lv_iload_n hx hb dX5_launch_77 rfl (lv_at hl 2 rfl) ?_
              refine lv_iload_n hx hb dX5_launch_78 rfl (lv_at hl 3 rfl) ?_
              refine lv_iload hx hb dX5_launch_79 (lv_at hl 4 rfl) ?_
              refine cVi (wB := fun (u_20 : Unit) => (wS cA S y (addA a fn w lan pln) q)) (As := [.int (nI fn), .int w, .int (nI lan), .int (nI pln)]) (rest := []) (wc := (wS cA S y a q)) ⟨hx, hb, hml, hown, hts⟩ (K_X4_launch lch D cA S y a q z1 z2 fn w lan pln H.size (by omega) (by omega)) (cwV 4 hts gX5_launch_X4_launch rfl rfl rfl (by decide +kernel) ⟨Nat.le_of_ble_eq_true rfl, Nat.le_of_ble_eq_true rfl⟩) hE hP hD hS hA [4, 5, 6, 7, 8, 9, 10, 11, 12, 13, 14] rfl rfl [S 0, S 1, S 2, S 3, S 4, S 5, S 6, S 7, S 8, S 9, S 10] (fun _ => rfl) rfl (fun (u_20 : Unit) => ((wM cA y E (S 0) (T 0) 0 b) ++ ((wS cA S y (addA a fn w lan pln) q) ++ (wS cA T y a2 q2)))) (fun _ => pst_blk (wM cA y E (S 0) (T 0) 0 b) (wS cA T y a2 q2) (wc := (wS cA S y a q)) 11 4 rfl rfl rfl rfl rfl rfl) (SX.blind z1 z2 _) (fun U hU hW => hXs.at hS (va_free (wc := (wS cA S y a q)) hD hS hA [4, 5, 6, 7, 8, 9, 10, 11, 12, 13, 14] rfl) hU hW) 4 4 rfl rfl rfl hl.1 rfl rfl (Nat.le_of_ble_eq_true rfl) dX5_launch_81 ⟨Nat.zero_le _, Nat.zero_le _⟩ (fun r_19 u_20 H locs h_21 hP hD hS => ?_)
              subst h_21
              have ecd : cdLaunch a (nI fn) w (nI lan) (nI pln) = 0 := by unfold cdLaunch; rw [if_neg (by simp [c11, c18, c26]), if_neg (by simp [c43]), if_neg (by omega)]
              have ec : nI (cdLaunch a (nI fn) w (nI lan) (nI pln)) = 0 := by rw [ecd]; rfl
              have ew0 : addA a ((nI fn).toNatClampNeg) w ((nI lan).toNatClampNeg) ((nI pln).toNatClampNeg) = addA a fn w lan pln := by rw [nI_clamp (by omega), nI_clamp (by omega), nI_clamp (by omega)]
              have hP : va_P D vwCl ((wM cA y E (S 0) (T 0) (nI (cdLaunch a (nI fn) w (nI lan) (nI pln))) b) ++ ((wS cA S y (addA a (nI fn).toNatClampNeg w (nI lan).toNatClampNeg (nI pln).toNatClampNeg) q) ++ (wS cA T y a2 q2))) H := by rw [ec, ew0]; exact hP
              rw [hQQ]
              exact W.iret (v := nI (qN a)) hx hb hr (fun t ht hW => ⟨⟨nI (qN a), addA a (nI fn).toNatClampNeg w (nI lan).toNatClampNeg (nI pln).toNatClampNeg, rfl, ⟨fun _ => ⟨rfl, rfl⟩, fun h9 => absurd ecd h9⟩, by show va_P _ _ _ t.heap; rw [ht]; exact hP⟩, hS.F ht⟩) hS.2.2 dX5_launch_84
            · skip
              have c61 := (nI_eq (a := qN a) (b := 40) (by omega) (by omega)).mp c61
              refine lv_aload_n hx hb dX5_launch_64 rfl (lv_at hl 0 rfl) ?_
              refine lv_iconst (v := 3) hx hb dX5_launch_65 (by decide) ?_
              refine cVi (wB := fun (u_23 : Unit) => ((wM cA y E (S 0) (T 0) 3 b) ++ ((wS cA S y a q) ++ (wS cA T y a2 q2)))) (As := [.int 3]) (rest := []) (wc := ((wM cA y E (S 0) (T 0) 0 b) ++ ((wS cA S y a q) ++ (wS cA T y a2 q2)))) ⟨hx, hb, hml, hown, hts⟩ (K_X5_no lch D cA y E S T 0 b a q a2 q2 3 H.size ) (cwV 1 hts gX5_launch_X5_no rfl rfl rfl (by decide +kernel) ⟨Nat.le_of_ble_eq_true rfl, Nat.le_of_ble_eq_true rfl⟩) hE hP hD hS hA [0, 1, 2, 3, 4, 5, 6, 7, 8, 9, 10, 11, 12, 13, 14, 15, 16, 17, 18, 19, 20, 21, 22, 23, 24, 25] rfl rfl [y, E 0, E 1, E 2, S 0, S 1, S 2, S 3, S 4, S 5, S 6, S 7, S 8, S 9, S 10, T 0, T 1, T 2, T 3, T 4, T 5, T 6, T 7, T 8, T 9, T 10] (fun _ => rfl) rfl (fun (u_23 : Unit) => ((wM cA y E (S 0) (T 0) 3 b) ++ ((wS cA S y a q) ++ (wS cA T y a2 q2)))) (fun _ => pst_all 26 rfl rfl rfl) X0.blind (fun _ _ _ => trivial) 0 5 rfl rfl rfl hl.1 rfl rfl (Nat.le_of_ble_eq_true rfl) dX5_launch_66 ⟨Nat.zero_le _, Nat.zero_le _⟩ (fun r_22 u_23 H locs h_24 hP hD hS => ?_)
              subst h_24
              refine lv_goto (tgt := 84) hx hb dX5_launch_69 (by decide) ?_
              have ecd : cdLaunch a f w la pl = 3 := by unfold cdLaunch; rw [if_neg (by simp [c11, c18, c26]), if_neg (by simp [c43]), if_pos (by omega)]
              have ec : nI (cdLaunch a f w la pl) = 3 := by rw [ecd]; rfl
              have hP : va_P D vwCl ((wM cA y E (S 0) (T 0) (nI (cdLaunch a f w la pl)) b) ++ ((wS cA S y a q) ++ (wS cA T y a2 q2))) H := by rw [ec]; exact hP
              rw [hQQ]
              exact W.iret (v := 0) hx hb hr (fun t ht hW => ⟨⟨0, a, rfl, ⟨fun h9 => absurd (ecd.symm.trans h9) (by decide), fun _ => ⟨rfl, rfl⟩⟩, by show va_P _ _ _ t.heap; rw [ht]; exact hP⟩, hS.F ht⟩) hS.2.2 dX5_launch_84
          · skip
            have c43 := bi_0.mp c43
            refine lv_aload_n hx hb dX5_launch_46 rfl (lv_at hl 0 rfl) ?_
            refine lv_iconst (v := 2) hx hb dX5_launch_47 (by decide) ?_
            refine cVi (wB := fun (u_26 : Unit) => ((wM cA y E (S 0) (T 0) 2 b) ++ ((wS cA S y a q) ++ (wS cA T y a2 q2)))) (As := [.int 2]) (rest := []) (wc := ((wM cA y E (S 0) (T 0) 0 b) ++ ((wS cA S y a q) ++ (wS cA T y a2 q2)))) ⟨hx, hb, hml, hown, hts⟩ (K_X5_no lch D cA y E S T 0 b a q a2 q2 2 H.size ) (cwV 1 hts gX5_launch_X5_no rfl rfl rfl (by decide +kernel) ⟨Nat.le_of_ble_eq_true rfl, Nat.le_of_ble_eq_true rfl⟩) hE hP hD hS hA [0, 1, 2, 3, 4, 5, 6, 7, 8, 9, 10, 11, 12, 13, 14, 15, 16, 17, 18, 19, 20, 21, 22, 23, 24, 25] rfl rfl [y, E 0, E 1, E 2, S 0, S 1, S 2, S 3, S 4, S 5, S 6, S 7, S 8, S 9, S 10, T 0, T 1, T 2, T 3, T 4, T 5, T 6, T 7, T 8, T 9, T 10] (fun _ => rfl) rfl (fun (u_26 : Unit) => ((wM cA y E (S 0) (T 0) 2 b) ++ ((wS cA S y a q) ++ (wS cA T y a2 q2)))) (fun _ => pst_all 26 rfl rfl rfl) X0.blind (fun _ _ _ => trivial) 0 5 rfl rfl rfl hl.1 rfl rfl (Nat.le_of_ble_eq_true rfl) dX5_launch_48 ⟨Nat.zero_le _, Nat.zero_le _⟩ (fun r_25 u_26 H locs h_27 hP hD hS => ?_)
            subst h_27
            have ecd : cdLaunch a f w la pl = 2 := by unfold cdLaunch; rw [if_neg (by simp [c11, c18, c26]), if_pos c43]
            have ec : nI (cdLaunch a f w la pl) = 2 := by rw [ecd]; rfl
            have hP : va_P D vwCl ((wM cA y E (S 0) (T 0) (nI (cdLaunch a f w la pl)) b) ++ ((wS cA S y a q) ++ (wS cA T y a2 q2))) H := by rw [ec]; exact hP
            rw [hQQ]
            exact W.iret (v := 0) hx hb hr (fun t ht hW => ⟨⟨0, a, rfl, ⟨fun h9 => absurd (ecd.symm.trans h9) (by decide), fun _ => ⟨rfl, rfl⟩⟩, by show va_P _ _ _ t.heap; rw [ht]; exact hP⟩, hS.F ht⟩) hS.2.2 dX5_launch_51
        · skip
          have c26 := bi_0.mp c26
          refine lv_aload_n hx hb dX5_launch_29 rfl (lv_at hl 0 rfl) ?_
          refine lv_iconst (v := 1) hx hb dX5_launch_30 (by decide) ?_
          refine cVi (wB := fun (u_29 : Unit) => ((wM cA y E (S 0) (T 0) 1 b) ++ ((wS cA S y a q) ++ (wS cA T y a2 q2)))) (As := [.int 1]) (rest := []) (wc := ((wM cA y E (S 0) (T 0) 0 b) ++ ((wS cA S y a q) ++ (wS cA T y a2 q2)))) ⟨hx, hb, hml, hown, hts⟩ (K_X5_no lch D cA y E S T 0 b a q a2 q2 1 H.size ) (cwV 1 hts gX5_launch_X5_no rfl rfl rfl (by decide +kernel) ⟨Nat.le_of_ble_eq_true rfl, Nat.le_of_ble_eq_true rfl⟩) hE hP hD hS hA [0, 1, 2, 3, 4, 5, 6, 7, 8, 9, 10, 11, 12, 13, 14, 15, 16, 17, 18, 19, 20, 21, 22, 23, 24, 25] rfl rfl [y, E 0, E 1, E 2, S 0, S 1, S 2, S 3, S 4, S 5, S 6, S 7, S 8, S 9, S 10, T 0, T 1, T 2, T 3, T 4, T 5, T 6, T 7, T 8, T 9, T 10] (fun _ => rfl) rfl (fun (u_29 : Unit) => ((wM cA y E (S 0) (T 0) 1 b) ++ ((wS cA S y a q) ++ (wS cA T y a2 q2)))) (fun _ => pst_all 26 rfl rfl rfl) X0.blind (fun _ _ _ => trivial) 0 5 rfl rfl rfl hl.1 rfl rfl (Nat.le_of_ble_eq_true rfl) dX5_launch_31 ⟨Nat.zero_le _, Nat.zero_le _⟩ (fun r_28 u_29 H locs h_30 hP hD hS => ?_)
          subst h_30
          have ecd : cdLaunch a f w la pl = 1 := by unfold cdLaunch; rw [if_pos (Or.inr (Or.inr c26))]
          have ec : nI (cdLaunch a f w la pl) = 1 := by rw [ecd]; rfl
          have hP : va_P D vwCl ((wM cA y E (S 0) (T 0) (nI (cdLaunch a f w la pl)) b) ++ ((wS cA S y a q) ++ (wS cA T y a2 q2))) H := by rw [ec]; exact hP
          rw [hQQ]
          exact W.iret (v := 0) hx hb hr (fun t ht hW => ⟨⟨0, a, rfl, ⟨fun h9 => absurd (ecd.symm.trans h9) (by decide), fun _ => ⟨rfl, rfl⟩⟩, by show va_P _ _ _ t.heap; rw [ht]; exact hP⟩, hS.F ht⟩) hS.2.2 dX5_launch_34
  rw [hg1, hg2] at hgoal
  exact hgoal

set_option maxHeartbeats 4000000 in
set_option maxRecDepth 100000 in
/-- push -/
theorem K_X5_push (lch : Launch) (D : va_G) (cA : ClassId) (y : Nat) (E : Nat → Nat) (S : Nat → Nat) (T : Nat → Nat) (th : Int32) (b : BSt) (a : FSt) (q : Nat → Int32) (a2 : FSt) (q2 : Nat → Int32) (k : Int32) (la : Int32) (sz : Nat) (hw1 : WFa a) : Met lch yX5_push wsX5_push ({ frames := 2, cells := 0, slots := 0, locals := 43 }) (Pr D cA [.ref y, .int k, .int la] sz ((wM cA y E (S 0) (T 0) th b) ++ ((wS cA S y a q) ++ (wS cA T y a2 q2))) X0) (va_Qi (fun (r : Int32) (u : FSt) => (cdPush a k la = 0 → r = nI (qLa a (k).toNatClampNeg) ∧ u = uLa a (up (qLa a) (k).toNatClampNeg (la).toNatClampNeg)) ∧ (¬ cdPush a k la = 0 → r = 0 ∧ u = a)) (fun (u : FSt) t => va_P D vwCl ((wM cA y E (S 0) (T 0) (nI (cdPush a k la)) b) ++ ((wS cA S y u q) ++ (wS cA T y a2 q2))) t.heap) (va_A ((wM cA y E (S 0) (T 0) th b) ++ ((wS cA S y a q) ++ (wS cA T y a2 q2))) sz)) 0 0 (va_A ((wM cA y E (S 0) (T 0) th b) ++ ((wS cA S y a q) ++ (wS cA T y a2 q2))) sz) := by
  refine Met.ofW (cc := cX5_push) (maxL := 4) (ret := (some .int)) (by decide) rfl ?_
  intro pg ev s mi args below meth cd s₁ B hml hv
  obtain ⟨hav, hsz, hP, hE, hD, hXs⟩ := hv
  have hx := B.exec
  have hb := B.bytes
  have hr := B.returns
  have hts := atoms_spec (ws := wsX5_push) B.pre
  have hown : s.vm.findClass RX5 = some mi.cls := findClass_of_methodNamed B.named
  have hlocks := B.notSynchronized
  clear B
  subst hav
  subst hsz
  have hD := hD.self (sz := s.heap.size)
  generalize hAe : va_A ((wM cA y E (S 0) (T 0) th b) ++ ((wS cA S y a q) ++ (wS cA T y a2 q2))) s.heap.size = A at hD ⊢
  have hA : ∀ q : Nat, s.heap.size ≤ q → A q := fun q h => by rw [← hAe]; exact Or.inr h
  have hS : va_S A s.heap s.heap [] := va_S.rf
  obtain ⟨QQ, hQQ⟩ : ∃ qq9, qq9 = MQ below (va_Qi (fun (r : Int32) (u : FSt) => (cdPush a k la = 0 → r = nI (qLa a (k).toNatClampNeg) ∧ u = uLa a (up (qLa a) (k).toNatClampNeg (la).toNatClampNeg)) ∧ (¬ cdPush a k la = 0 → r = 0 ∧ u = a)) (fun (u : FSt) t => va_P D vwCl ((wM cA y E (S 0) (T 0) (nI (cdPush a k la)) b) ++ ((wS cA S y u q) ++ (wS cA T y a2 q2))) t.heap) A) ([.ref y, .int k, .int la] : List Value).toArray s 0 0 A := ⟨_, rfl⟩
  rw [← hQQ]
  have hl := lv_entry ([.ref y, .int k, .int la]) (n := 4) (Nat.le_of_ble_eq_true rfl)
  rw [lg_entry_eq]
  generalize (lg_sl ([.ref y, .int k, .int la]) ++ List.replicate (4 - (lg_sl ([.ref y, .int k, .int la])).length) Slot.unset).toArray = ls at hl ⊢
  have hl : lv_has ls 4 [(0, .ref y), (1, .int k), (2, .int la)] := hl
  have kf31 := hts (.fieldLink RX5 31 "LanternWeirsModel" "thrown" "I") (by decide +kernel)
  have inX5 : ∀ w ∈ u_ws RX5 TX5 8, w ∈ wsX5_push := by decide +kernel
  have kf24 := hts (.fieldLink RX5 24 "LanternWeirsModel" "s" "LLanternWeirsModel$State;") (by decide +kernel)
  have kf73 := va_Nw.use (A := ([.ref y, .int k, .int la] : List Value).toArray) rfl (hE.2.2 (.fieldLinkNest "LanternWeirsModel" 73 "LanternWeirsModel$State" "state" "[I" "LanternWeirsModel") (by decide +kernel))
  have inX4 : ∀ w ∈ u_ws RX4 TX4 13, w ∈ wsX5_push := by decide +kernel
  have kf76 := va_Nw.use (A := ([.ref y, .int k, .int la] : List Value).toArray) rfl (hE.2.2 (.fieldLinkNest "LanternWeirsModel" 76 "LanternWeirsModel$State" "lane" "[I" "LanternWeirsModel") (by decide +kernel))
  obtain ⟨H, locs, hP, hS, hgo⟩ : ∃ H locs, va_P D vwCl ((wM cA y E (S 0) (T 0) th b) ++ ((wS cA S y a q) ++ (wS cA T y a2 q2))) H ∧ va_S A s.heap H locs ∧ (H = s.heap ∧ locs = []) := ⟨_, _, hP, hS, rfl, rfl⟩
  obtain ⟨hg1, hg2⟩ := hgo
  have hgoal : W pg lch ev (headSpec wsX5_push ({ frames := 2, cells := 0, slots := 0, locals := 43 })).room s mi ([.ref y, .int k, .int la] : List Value).toArray below meth cd H locs 0 0 QQ (F0 mi 0 ls []) := by
    have hn := hw1.1
    refine lv_aload_n hx hb dX5_push_0 rfl (lv_at hl 0 rfl) ?_
    refine lv_iconst (v := 0) hx hb dX5_push_1 (by decide) ?_
    refine va_put (D := D) (ci := 5) (v := .int 0) (ty := .int) (C := RX5) (T := TX5) (N := 8) hx hb hts inX5 tyX5 tyX5_ok nmX5 hown hE.1 hP hD hS 0 rfl rfl 0 (by decide) kf31 (fun _ h9 => h9) rfl (by decide +kernel) rfl rfl (Nat.le_of_ble_eq_true rfl) dX5_push_2 (fun H locs hP hD hS => ?_)
    have hP : va_P D vwCl ((wM cA y E (S 0) (T 0) 0 b) ++ ((wS cA S y a q) ++ (wS cA T y a2 q2))) H := hP
    have hD : va_D A ((wM cA y E (S 0) (T 0) 0 b) ++ ((wS cA S y a q) ++ (wS cA T y a2 q2))) := hD
    refine lv_aload_n hx hb dX5_push_5 rfl (lv_at hl 0 rfl) ?_
    refine lv_iload_n hx hb dX5_push_6 rfl (lv_at hl 1 rfl) ?_
    refine pVi (As := [.int k]) (rest := []) (wc := ((wM cA y E (S 0) (T 0) 0 b) ++ ((wS cA S y a q) ++ (wS cA T y a2 q2)))) ⟨hx, hb, hml, hown, hts⟩ (K_X5_isLantern lch D cA y E S T 0 b a q a2 q2 k H.size ) (cwV 1 hts gX5_push_X5_isLantern rfl rfl rfl (by decide +kernel) ⟨Nat.le_of_ble_eq_true rfl, Nat.le_of_ble_eq_true rfl⟩) hE hP hD hS hA [0, 1, 2, 3, 4, 5, 6, 7, 8, 9, 10, 11, 12, 13, 14, 15, 16, 17, 18, 19, 20, 21, 22, 23, 24, 25] rfl rfl X0.blind (fun _ _ _ => trivial) 0 5 rfl rfl rfl hl.1 rfl rfl (Nat.le_of_ble_eq_true rfl) dX5_push_7 ⟨Nat.zero_le _, Nat.zero_le _⟩ (fun r_1 u_2 H locs h_3 hP hS => ?_)
    subst h_3
    refine lv_if_eq (tgt := 20) hx hb dX5_push_10 (by decide) (fun c10 => ?_) (fun c10 => ?_)
    · skip
      have c10 := bi_0.mp c10
      refine lv_aload_n hx hb dX5_push_20 rfl (lv_at hl 0 rfl) ?_
      refine lv_iconst (v := 1) hx hb dX5_push_21 (by decide) ?_
      refine cVi (wB := fun (u_5 : Unit) => ((wM cA y E (S 0) (T 0) 1 b) ++ ((wS cA S y a q) ++ (wS cA T y a2 q2)))) (As := [.int 1]) (rest := []) (wc := ((wM cA y E (S 0) (T 0) 0 b) ++ ((wS cA S y a q) ++ (wS cA T y a2 q2)))) ⟨hx, hb, hml, hown, hts⟩ (K_X5_no lch D cA y E S T 0 b a q a2 q2 1 H.size ) (cwV 1 hts gX5_push_X5_no rfl rfl rfl (by decide +kernel) ⟨Nat.le_of_ble_eq_true rfl, Nat.le_of_ble_eq_true rfl⟩) hE hP hD hS hA [0, 1, 2, 3, 4, 5, 6, 7, 8, 9, 10, 11, 12, 13, 14, 15, 16, 17, 18, 19, 20, 21, 22, 23, 24, 25] rfl rfl [y, E 0, E 1, E 2, S 0, S 1, S 2, S 3, S 4, S 5, S 6, S 7, S 8, S 9, S 10, T 0, T 1, T 2, T 3, T 4, T 5, T 6, T 7, T 8, T 9, T 10] (fun _ => rfl) rfl (fun (u_5 : Unit) => ((wM cA y E (S 0) (T 0) 1 b) ++ ((wS cA S y a q) ++ (wS cA T y a2 q2)))) (fun _ => pst_all 26 rfl rfl rfl) X0.blind (fun _ _ _ => trivial) 0 5 rfl rfl rfl hl.1 rfl rfl (Nat.le_of_ble_eq_true rfl) dX5_push_22 ⟨Nat.zero_le _, Nat.zero_le _⟩ (fun r_4 u_5 H locs h_6 hP hD hS => ?_)
      subst h_6
      have ecd : cdPush a k la = 1 := by unfold cdPush; rw [if_pos (Or.inl c10)]
      have ec : nI (cdPush a k la) = 1 := by rw [ecd]; rfl
      have hP : va_P D vwCl ((wM cA y E (S 0) (T 0) (nI (cdPush a k la)) b) ++ ((wS cA S y a q) ++ (wS cA T y a2 q2))) H := by rw [ec]; exact hP
      rw [hQQ]
      exact W.iret (v := 0) hx hb hr (fun t ht hW => ⟨⟨0, a, rfl, ⟨fun h9 => absurd (ecd.symm.trans h9) (by decide), fun _ => ⟨rfl, rfl⟩⟩, by show va_P _ _ _ t.heap; rw [ht]; exact hP⟩, hS.F ht⟩) hS.2.2 dX5_push_25
    · skip
      have c10 := bi_1.mp c10
      refine lv_iload_n hx hb dX5_push_13 rfl (lv_at hl 2 rfl) ?_
      refine pSi (As := [.int la]) (rest := []) (wc := ([] : va_W)) ⟨hx, hb, hml, hown, hts⟩ (K_X5_isLane lch D cA la H.size ) (cwS 1 hts gX5_push_X5_isLane rfl rfl rfl (by decide +kernel) ⟨Nat.le_of_ble_eq_true rfl, Nat.le_of_ble_eq_true rfl⟩) hE hP hD hS hA [] rfl rfl X0.blind (fun _ _ _ => trivial) hl.1 rfl rfl (Nat.le_of_ble_eq_true rfl) dX5_push_14 ⟨Nat.zero_le _, Nat.zero_le _⟩ (fun r_7 u_8 H locs h_9 hP hS => ?_)
      subst h_9
      refine lv_if_ne (tgt := 26) hx hb dX5_push_17 (by decide) (fun c17 => ?_) (fun c17 => ?_)
      · skip
        have c17 := bi_1.mp c17
        obtain ⟨kn, hkn, ekn⟩ := lan_nat (a := a) (k := k) c10 hn
        subst ekn
        obtain ⟨w1, w2, w3, w4, w5, w6, w7, w8⟩ := hw1.2 kn hkn
        obtain ⟨lan, hla9, ela⟩ := isW_nat (n := 2) c17 (by decide)
        subst ela
        refine lv_aload_n hx hb dX5_push_26 rfl (lv_at hl 0 rfl) ?_
        refine va_get (D := D) (ci := 5) (v := .ref (S 0)) (C := RX5) (T := TX5) (N := 8) hx hb hts inX5 hown hE.1 hP 0 rfl rfl 6 (by decide) kf24 (fun _ h9 => h9) rfl dX5_push_27 ?_
        refine va_getN (D := D) (ci := 4) (v := .ref (S 8)) (C := RX4) (T := TX4) (N := 13) hx hb hts inX4 hown hE.1 hP 4 rfl rfl 9 (by decide) kf73 (fun _ h9 => h9) rfl dX5_push_30 ?_
        refine lv_iload_n hx hb dX5_push_33 rfl (lv_at hl 1 rfl) ?_
        refine ald hx hb hE hP 12 rfl (k := kn) (by omega) (Nat.le_of_ble_eq_true rfl) (v := nI (qSt a kn)) rfl dX5_push_34 ?_
        refine lv_if_eq (tgt := 44) hx hb dX5_push_35 (by decide) (fun c35 => ?_) (fun c35 => ?_)
        · skip
          have c35 := (nI_eq (a := qSt a kn) (b := 0) (by omega) (by omega)).mp c35
          refine lv_aload_n hx hb dX5_push_44 rfl (lv_at hl 0 rfl) ?_
          refine va_get (D := D) (ci := 5) (v := .ref (S 0)) (C := RX5) (T := TX5) (N := 8) hx hb hts inX5 hown hE.1 hP 0 rfl rfl 6 (by decide) kf24 (fun _ h9 => h9) rfl dX5_push_45 ?_
          refine va_getN (D := D) (ci := 4) (v := .ref (S 3)) (C := RX4) (T := TX4) (N := 13) hx hb hts inX4 hown hE.1 hP 4 rfl rfl 4 (by decide) kf76 (fun _ h9 => h9) rfl dX5_push_48 ?_
          refine lv_iload_n hx hb dX5_push_51 rfl (lv_at hl 1 rfl) ?_
          refine ald hx hb hE hP 7 rfl (k := kn) (by omega) (Nat.le_of_ble_eq_true rfl) (v := nI (qLa a kn)) rfl dX5_push_52 ?_
          refine lv_istore_n (lv' := [(3, .int (nI (qLa a kn))), (0, .ref y), (1, .int (nI kn)), (2, .int (nI lan))]) hx hb dX5_push_53 rfl hl (by decide) rfl (fun ls hl => ?_)
          refine lv_aload_n hx hb dX5_push_54 rfl (lv_at hl 1 rfl) ?_
          refine va_get (D := D) (ci := 5) (v := .ref (S 0)) (C := RX5) (T := TX5) (N := 8) hx hb hts inX5 hown hE.1 hP 0 rfl rfl 6 (by decide) kf24 (fun _ h9 => h9) rfl dX5_push_55 ?_
          refine va_getN (D := D) (ci := 4) (v := .ref (S 3)) (C := RX4) (T := TX4) (N := 13) hx hb hts inX4 hown hE.1 hP 4 rfl rfl 4 (by decide) kf76 (fun _ h9 => h9) rfl dX5_push_58 ?_
          refine lv_iload_n hx hb dX5_push_61 rfl (lv_at hl 2 rfl) ?_
          refine lv_iload_n hx hb dX5_push_62 rfl (lv_at hl 3 rfl) ?_
          refine ast hx hb hE hP hD hS 7 rfl (k := kn) (by omega) (Nat.le_of_ble_eq_true rfl) (fun z9 => nI (qLa (uLa a (up (qLa a) kn lan)) z9)) (fun j _ => upd_N j) dX5_push_63 (fun H locs hP hD hS => ?_)
          have hP : va_P D vwCl ((wM cA y E (S 0) (T 0) 0 b) ++ ((wS cA S y (uLa a (up (qLa a) kn lan)) q) ++ (wS cA T y a2 q2))) H := hP
          have hD : va_D A ((wM cA y E (S 0) (T 0) 0 b) ++ ((wS cA S y (uLa a (up (qLa a) kn lan)) q) ++ (wS cA T y a2 q2))) := hD
          refine lv_iload_n hx hb dX5_push_64 rfl (lv_at hl 0 rfl) ?_
          have ecd : cdPush a (nI kn) (nI lan) = 0 := by unfold cdPush; rw [if_neg (by simp [c10, c17]), nI_clamp (by omega), if_pos (by omega)]
          have ec : nI (cdPush a (nI kn) (nI lan)) = 0 := by rw [ecd]; rfl
          have ew0 : uLa a (up (qLa a) ((nI kn).toNatClampNeg) ((nI lan).toNatClampNeg)) = uLa a (up (qLa a) kn lan) := by rw [nI_clamp (by omega), nI_clamp (by omega)]
          have hP : va_P D vwCl ((wM cA y E (S 0) (T 0) (nI (cdPush a (nI kn) (nI lan))) b) ++ ((wS cA S y (uLa a (up (qLa a) (nI kn).toNatClampNeg (nI lan).toNatClampNeg)) q) ++ (wS cA T y a2 q2))) H := by rw [ec, ew0]; exact hP
          rw [hQQ]
          exact W.iret (v := nI (qLa a kn)) hx hb hr (fun t ht hW => ⟨⟨nI (qLa a kn), uLa a (up (qLa a) (nI kn).toNatClampNeg (nI lan).toNatClampNeg), rfl, ⟨fun _ => ⟨by rw [nI_clamp (by omega)], rfl⟩, fun h9 => absurd ecd h9⟩, by show va_P _ _ _ t.heap; rw [ht]; exact hP⟩, hS.F ht⟩) hS.2.2 dX5_push_65
        · skip
          have c35 := (not_congr (nI_eq (a := qSt a kn) (b := 0) (by omega) (by omega))).mp c35
          refine lv_aload_n hx hb dX5_push_38 rfl (lv_at hl 0 rfl) ?_
          refine lv_iconst (v := 2) hx hb dX5_push_39 (by decide) ?_
          refine cVi (wB := fun (u_11 : Unit) => ((wM cA y E (S 0) (T 0) 2 b) ++ ((wS cA S y a q) ++ (wS cA T y a2 q2)))) (As := [.int 2]) (rest := []) (wc := ((wM cA y E (S 0) (T 0) 0 b) ++ ((wS cA S y a q) ++ (wS cA T y a2 q2)))) ⟨hx, hb, hml, hown, hts⟩ (K_X5_no lch D cA y E S T 0 b a q a2 q2 2 H.size ) (cwV 1 hts gX5_push_X5_no rfl rfl rfl (by decide +kernel) ⟨Nat.le_of_ble_eq_true rfl, Nat.le_of_ble_eq_true rfl⟩) hE hP hD hS hA [0, 1, 2, 3, 4, 5, 6, 7, 8, 9, 10, 11, 12, 13, 14, 15, 16, 17, 18, 19, 20, 21, 22, 23, 24, 25] rfl rfl [y, E 0, E 1, E 2, S 0, S 1, S 2, S 3, S 4, S 5, S 6, S 7, S 8, S 9, S 10, T 0, T 1, T 2, T 3, T 4, T 5, T 6, T 7, T 8, T 9, T 10] (fun _ => rfl) rfl (fun (u_11 : Unit) => ((wM cA y E (S 0) (T 0) 2 b) ++ ((wS cA S y a q) ++ (wS cA T y a2 q2)))) (fun _ => pst_all 26 rfl rfl rfl) X0.blind (fun _ _ _ => trivial) 0 5 rfl rfl rfl hl.1 rfl rfl (Nat.le_of_ble_eq_true rfl) dX5_push_40 ⟨Nat.zero_le _, Nat.zero_le _⟩ (fun r_10 u_11 H locs h_12 hP hD hS => ?_)
          subst h_12
          have ecd : cdPush a (nI kn) (nI lan) = 2 := by unfold cdPush; rw [if_neg (by simp [c10, c17]), nI_clamp (by omega), if_neg (by omega)]
          have ec : nI (cdPush a (nI kn) (nI lan)) = 2 := by rw [ecd]; rfl
          have hP : va_P D vwCl ((wM cA y E (S 0) (T 0) (nI (cdPush a (nI kn) (nI lan))) b) ++ ((wS cA S y a q) ++ (wS cA T y a2 q2))) H := by rw [ec]; exact hP
          rw [hQQ]
          exact W.iret (v := 0) hx hb hr (fun t ht hW => ⟨⟨0, a, rfl, ⟨fun h9 => absurd (ecd.symm.trans h9) (by decide), fun _ => ⟨rfl, rfl⟩⟩, by show va_P _ _ _ t.heap; rw [ht]; exact hP⟩, hS.F ht⟩) hS.2.2 dX5_push_43
      · skip
        have c17 := bi_0.mp c17
        refine lv_aload_n hx hb dX5_push_20 rfl (lv_at hl 0 rfl) ?_
        refine lv_iconst (v := 1) hx hb dX5_push_21 (by decide) ?_
        refine cVi (wB := fun (u_14 : Unit) => ((wM cA y E (S 0) (T 0) 1 b) ++ ((wS cA S y a q) ++ (wS cA T y a2 q2)))) (As := [.int 1]) (rest := []) (wc := ((wM cA y E (S 0) (T 0) 0 b) ++ ((wS cA S y a q) ++ (wS cA T y a2 q2)))) ⟨hx, hb, hml, hown, hts⟩ (K_X5_no lch D cA y E S T 0 b a q a2 q2 1 H.size ) (cwV 1 hts gX5_push_X5_no rfl rfl rfl (by decide +kernel) ⟨Nat.le_of_ble_eq_true rfl, Nat.le_of_ble_eq_true rfl⟩) hE hP hD hS hA [0, 1, 2, 3, 4, 5, 6, 7, 8, 9, 10, 11, 12, 13, 14, 15, 16, 17, 18, 19, 20, 21, 22, 23, 24, 25] rfl rfl [y, E 0, E 1, E 2, S 0, S 1, S 2, S 3, S 4, S 5, S 6, S 7, S 8, S 9, S 10, T 0, T 1, T 2, T 3, T 4, T 5, T 6, T 7, T 8, T 9, T 10] (fun _ => rfl) rfl (fun (u_14 : Unit) => ((wM cA y E (S 0) (T 0) 1 b) ++ ((wS cA S y a q) ++ (wS cA T y a2 q2)))) (fun _ => pst_all 26 rfl rfl rfl) X0.blind (fun _ _ _ => trivial) 0 5 rfl rfl rfl hl.1 rfl rfl (Nat.le_of_ble_eq_true rfl) dX5_push_22 ⟨Nat.zero_le _, Nat.zero_le _⟩ (fun r_13 u_14 H locs h_15 hP hD hS => ?_)
        subst h_15
        have ecd : cdPush a k la = 1 := by unfold cdPush; rw [if_pos (Or.inr c17)]
        have ec : nI (cdPush a k la) = 1 := by rw [ecd]; rfl
        have hP : va_P D vwCl ((wM cA y E (S 0) (T 0) (nI (cdPush a k la)) b) ++ ((wS cA S y a q) ++ (wS cA T y a2 q2))) H := by rw [ec]; exact hP
        rw [hQQ]
        exact W.iret (v := 0) hx hb hr (fun t ht hW => ⟨⟨0, a, rfl, ⟨fun h9 => absurd (ecd.symm.trans h9) (by decide), fun _ => ⟨rfl, rfl⟩⟩, by show va_P _ _ _ t.heap; rw [ht]; exact hP⟩, hS.F ht⟩) hS.2.2 dX5_push_25
  rw [hg1, hg2] at hgoal
  exact hgoal
