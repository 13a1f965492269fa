set_option maxHeartbeats 4000000 in
set_option maxRecDepth 100000 in
/-- advise -/
theorem K_X5_advise (lch : Launch) (D : va_G) (cA : ClassId) (y : Nat) (E : Nat → Nat) (S : Nat → Nat) (T : Nat → Nat) (th : Int32) (b : BSt) (a : FSt) (q : Nat → Int32) (a2 : FSt) (q2 : Nat → Int32) (z1 : Nat) (z2 : Nat) (f : Int32) (sz : Nat) (hw1 : WFa a) (hwb : WFb b) (hn40 : qN a ≤ 40) : Met lch yX5_advise wsX5_advise ({ frames := 5, cells := 0, slots := 0, locals := 116 }) (Pr D cA [.ref y, .int f] sz ((wM cA y E (S 0) (T 0) th b) ++ ((wS cA S y a q) ++ (wS cA T y a2 q2))) (SX z1 z2 (va_A ((wM cA y E (S 0) (T 0) th b) ++ ((wS cA S y a q) ++ (wS cA T y a2 q2))) sz))) (va_Qi (fun (r : Int32) (u : FSt × (Nat → Int32)) => (cdFrame f = 0 → r = adviseA b a (f).toNatClampNeg) ∧ (¬ cdFrame f = 0 → r = 0)) (fun (u : FSt × (Nat → Int32)) t => va_P D vwCl ((wM cA y E (S 0) (T 0) (nI (cdFrame f)) b) ++ ((wS cA S y a q) ++ (wS cA T y u.1 u.2))) t.heap) (va_A ((wM cA y E (S 0) (T 0) th b) ++ ((wS cA S y a q) ++ (wS cA T y a2 q2))) sz)) 0 0 (va_A ((wM cA y E (S 0) (T 0) th b) ++ ((wS cA S y a q) ++ (wS cA T y a2 q2))) sz) := by
  refine Met.ofW (cc := cX5_advise) (maxL := 6) (ret := (some .int)) (by decide) rfl ?_
  intro pg ev s mi args below meth cd s₁ B hml hv
  obtain ⟨hav, hsz, hP, hE, hD, hXs⟩ := hv
  have hx := B.exec
  have hb := B.bytes
  have hr := B.returns
  have hts := atoms_spec (ws := wsX5_advise) B.pre
  have hown : s.vm.findClass RX5 = some mi.cls := findClass_of_methodNamed B.named
  have hlocks := B.notSynchronized
  clear B
  subst hav
  subst hsz
  have hD := hD.self (sz := s.heap.size)
  generalize hAe : va_A ((wM cA y E (S 0) (T 0) th b) ++ ((wS cA S y a q) ++ (wS cA T y a2 q2))) s.heap.size = A at hD hXs ⊢
  have hA : ∀ q : Nat, s.heap.size ≤ q → A q := fun q h => by rw [← hAe]; exact Or.inr h
  have hS : va_S A s.heap s.heap [] := va_S.rf
  obtain ⟨QQ, hQQ⟩ : ∃ qq9, qq9 = MQ below (va_Qi (fun (r : Int32) (u : FSt × (Nat → Int32)) => (cdFrame f = 0 → r = adviseA b a (f).toNatClampNeg) ∧ (¬ cdFrame f = 0 → r = 0)) (fun (u : FSt × (Nat → Int32)) t => va_P D vwCl ((wM cA y E (S 0) (T 0) (nI (cdFrame f)) b) ++ ((wS cA S y a q) ++ (wS cA T y u.1 u.2))) t.heap) A) ([.ref y, .int f] : List Value).toArray s 0 0 A := ⟨_, rfl⟩
  rw [← hQQ]
  have hl := lv_entry ([.ref y, .int f]) (n := 6) (Nat.le_of_ble_eq_true rfl)
  rw [lg_entry_eq]
  generalize (lg_sl ([.ref y, .int f]) ++ List.replicate (6 - (lg_sl ([.ref y, .int f])).length) Slot.unset).toArray = ls at hl ⊢
  have hl : lv_has ls 6 [(0, .ref y), (1, .int f)] := hl
  have kf31 := hts (.fieldLink RX5 31 "LanternWeirsModel" "thrown" "I") (by decide +kernel)
  have inX5 : ∀ w ∈ u_ws RX5 TX5 8, w ∈ wsX5_advise := by decide +kernel
  obtain ⟨H, locs, hP, hS, hgo⟩ : ∃ H locs, va_P D vwCl ((wM cA y E (S 0) (T 0) th b) ++ ((wS cA S y a q) ++ (wS cA T y a2 q2))) H ∧ va_S A s.heap H locs ∧ (H = s.heap ∧ locs = []) := ⟨_, _, hP, hS, rfl, rfl⟩
  obtain ⟨hg1, hg2⟩ := hgo
  have hgoal : W pg lch ev (headSpec wsX5_advise ({ frames := 5, cells := 0, slots := 0, locals := 116 })).room s mi ([.ref y, .int f] : List Value).toArray below meth cd H locs 0 0 QQ (F0 mi 0 ls []) := by
    have hn := hw1.1
    refine lv_aload_n hx hb dX5_advise_0 rfl (lv_at hl 0 rfl) ?_
    refine lv_iconst (v := 0) hx hb dX5_advise_1 (by decide) ?_
    refine va_put (D := D) (ci := 5) (v := .int 0) (ty := .int) (C := RX5) (T := TX5) (N := 8) hx hb hts inX5 tyX5 tyX5_ok nmX5 hown hE.1 hP hD hS 0 rfl rfl 0 (by decide) kf31 (fun _ h9 => h9) rfl (by decide +kernel) rfl rfl (Nat.le_of_ble_eq_true rfl) dX5_advise_2 (fun H locs hP hD hS => ?_)
    have hP : va_P D vwCl ((wM cA y E (S 0) (T 0) 0 b) ++ ((wS cA S y a q) ++ (wS cA T y a2 q2))) H := hP
    have hD : va_D A ((wM cA y E (S 0) (T 0) 0 b) ++ ((wS cA S y a q) ++ (wS cA T y a2 q2))) := hD
    refine lv_iload_n hx hb dX5_advise_5 rfl (lv_at hl 1 rfl) ?_
    refine lv_iconst (v := 0) hx hb dX5_advise_6 (by decide) ?_
    refine lv_iconst (v := 2) hx hb dX5_advise_7 (by decide) ?_
    refine pSi (As := [.int f, .int 0, .int 2]) (rest := []) (wc := ([] : va_W)) ⟨hx, hb, hml, hown, hts⟩ (K_X5_isIn lch D cA f 0 2 H.size ) (cwS 3 hts gX5_advise_X5_isIn rfl rfl rfl (by decide +kernel) ⟨Nat.le_of_ble_eq_true rfl, Nat.le_of_ble_eq_true rfl⟩) hE hP hD hS hA [] rfl rfl X0.blind (fun _ _ _ => trivial) hl.1 rfl rfl (Nat.le_of_ble_eq_true rfl) dX5_advise_8 ⟨Nat.zero_le _, Nat.zero_le _⟩ (fun r_1 u_2 H locs h_3 hP hS => ?_)
    subst h_3
    refine lv_if_ne (tgt := 20) hx hb dX5_advise_11 (by decide) (fun c11 => ?_) (fun c11 => ?_)
    · skip
      have c11 := bi_1.mp c11
      obtain ⟨fn, hf9, ef⟩ := isW_nat (n := 2) c11 (by decide)
      subst ef
      refine lv_iconst (v := (-1)) hx hb dX5_advise_20 (by decide) ?_
      refine lv_istore_n (lv' := [(2, .int ((-1))), (0, .ref y), (1, .int (nI fn))]) hx hb dX5_advise_21 rfl hl (by decide) rfl (fun ls hl => ?_)
      refine lv_bipush (v := 61) hx hb dX5_advise_22 (by decide) ?_
      refine lv_istore_n (lv' := [(3, .int 61), (2, .int ((-1))), (0, .ref y), (1, .int (nI fn))]) hx hb dX5_advise_24 rfl hl (by decide) rfl (fun ls hl => ?_)
      refine lv_iconst (v := 0) hx hb dX5_advise_25 (by decide) ?_
      refine lv_istore (lv' := [(4, .int 0), (3, .int 61), (2, .int ((-1))), (0, .ref y), (1, .int (nI fn))]) hx hb dX5_advise_26 hl (by decide) rfl (fun ls hl => ?_)
      have L28 : ∀ (fu28 : Nat) (l : Nat) (d : FSt) (qd : Nat → Int32), (l ≤ 3) → 3 - l < fu28 → ∀ (H : Heap) (locs : List Loc), va_P D vwCl ((wM cA y E (S 0) (T 0) 0 b) ++ ((wS cA S y a q) ++ (wS cA T y d qd))) H → va_D A ((wM cA y E (S 0) (T 0) 0 b) ++ ((wS cA S y a q) ++ (wS cA T y d qd))) → va_S A s.heap H locs → ∀ ls : Array Slot, lv_has ls 6 [(4, .int (nI l)), (2, .int ((bestA (comesA b a fn) l).1)), (3, .int (nI ((bestA (comesA b a fn) l).2))), (0, .ref y), (1, .int (nI fn))] → W pg lch ev (headSpec wsX5_advise ({ frames := 5, cells := 0, slots := 0, locals := 116 })).room s mi ([.ref y, .int (nI fn)] : List Value).toArray below meth cd H locs 0 0 QQ (F0 mi 28 ls []) := by
        intro fu28
        induction fu28 with
        | zero => intro l d qd hll hms; exact absurd hms (Nat.not_lt_zero _)
        | succ fu28 ih28 =>
          intro l d qd hll hms28 H locs hP hD hS ls hl
          have hcm := comes_le (b := b) (a := a) (f := fn) (l := l)
          have hbm := best_le (g := comesA b a fn) (fun l => comes_le (b := b) (a := a) (f := fn) (l := l)) l
          refine lv_iload hx hb dX5_advise_28 (lv_at hl 0 rfl) ?_
          refine lv_iconst (v := 3) hx hb dX5_advise_30 (by decide) ?_
          refine lv_icmp_ge (tgt := 64) hx hb dX5_advise_31 (by decide) (fun c31 => ?_) (fun c31 => ?_)
          · skip
            have c31 := (nI_leI (a := 3) (b := l) (by omega) (by omega)).mp c31
            refine lv_iload_n hx hb dX5_advise_64 rfl (lv_at hl 1 rfl) ?_
            have ecd : cdFrame (nI fn) = 0 := by unfold cdFrame; rw [if_neg (by simp [c11])]
            have ec : nI (cdFrame (nI fn)) = 0 := by rw [ecd]; rfl
            have hP : va_P D vwCl ((wM cA y E (S 0) (T 0) (nI (cdFrame (nI fn))) b) ++ ((wS cA S y a q) ++ (wS cA T y ((d, qd).1) ((d, qd).2)))) H := by rw [ec]; exact hP
            rw [hQQ]
            exact W.iret (v := (bestA (comesA b a fn) l).1) hx hb hr (fun t ht hW => ⟨⟨(bestA (comesA b a fn) l).1, (d, qd), rfl, ⟨fun _ => by rw [nI_clamp (by omega)]; unfold adviseA; rw [show l = 3 by omega], fun h9 => absurd ecd h9⟩, by show va_P _ _ _ t.heap; rw [ht]; exact hP⟩, hS.F ht⟩) hS.2.2 dX5_advise_65
          · skip
            have c31 := (not_congr (nI_leI (a := 3) (b := l) (by omega) (by omega))).mp c31
            refine lv_aload_n hx hb dX5_advise_34 rfl (lv_at hl 3 rfl) ?_
            refine lv_iload_n hx hb dX5_advise_35 rfl (lv_at hl 4 rfl) ?_
            refine lv_iload hx hb dX5_advise_36 (lv_at hl 0 rfl) ?_
            refine cVi (wB := fun (u9 : FSt × (Nat → Int32)) => ((wM cA y E (S 0) (T 0) 0 b) ++ ((wS cA S y a q) ++ (wS cA T y u9.1 u9.2)))) (As := [.int (nI fn), .int (nI l)]) (rest := []) (wc := ((wM cA y E (S 0) (T 0) 0 b) ++ ((wS cA S y a q) ++ (wS cA T y d qd)))) ⟨hx, hb, hml, hown, hts⟩ (K_X5_comes lch D cA y E S T 0 b a q d qd z1 z2 fn l H.size (by first | assumption | omega) (by first | assumption | omega) (by first | assumption | omega) (by omega) (by omega)) (cwV 2 hts gX5_advise_X5_comes rfl rfl rfl (by decide +kernel) ⟨Nat.le_of_ble_eq_true rfl, Nat.le_of_ble_eq_true rfl⟩) hE hP hD hS hA [0, 1, 2, 3, 4, 5, 6, 7, 8, 9, 10, 11, 12, 13, 14, 15, 16, 17, 18, 19, 20, 21, 22, 23, 24, 25] rfl rfl [y, E 0, E 1, E 2, S 0, S 1, S 2, S 3, S 4, S 5, S 6, S 7, S 8, S 9, S 10, T 0, T 1, T 2, T 3, T 4, T 5, T 6, T 7, T 8, T 9, T 10] (fun _ => rfl) rfl (fun (u9 : FSt × (Nat → Int32)) => ((wM cA y E (S 0) (T 0) 0 b) ++ ((wS cA S y a q) ++ (wS cA T y u9.1 u9.2)))) (fun _ => pst_all 26 rfl rfl rfl) (SX.blind z1 z2 _) (fun U hU hW => hXs.at hS (va_free (wc := ((wM cA y E (S 0) (T 0) 0 b) ++ ((wS cA S y a q) ++ (wS cA T y d qd)))) hD hS hA [0, 1, 2, 3, 4, 5, 6, 7, 8, 9, 10, 11, 12, 13, 14, 15, 16, 17, 18, 19, 20, 21, 22, 23, 24, 25] rfl) hU hW) 0 5 rfl rfl rfl hl.1 rfl rfl (Nat.le_of_ble_eq_true rfl) dX5_advise_38 ⟨Nat.zero_le _, Nat.zero_le _⟩ (fun r_4 u9 H locs h9 hP hD hS => ?_)
            subst h9
            refine lv_istore (lv' := [(5, .int (nI (comesA b a fn l))), (4, .int (nI l)), (2, .int ((bestA (comesA b a fn) l).1)), (3, .int (nI ((bestA (comesA b a fn) l).2))), (0, .ref y), (1, .int (nI fn))]) hx hb dX5_advise_41 hl (by decide) rfl (fun ls hl => ?_)
            refine lv_iload hx hb dX5_advise_43 (lv_at hl 0 rfl) ?_
            refine lv_iload_n hx hb dX5_advise_45 rfl (lv_at hl 3 rfl) ?_
            refine lv_icmp_lt (tgt := 52) hx hb dX5_advise_46 (by decide) (fun c46 => ?_) (fun c46 => ?_)
            · skip
              have c46 := (nI_ltI (a := comesA b a fn l) (b := (bestA (comesA b a fn) l).2) (by omega) (by omega)).mp c46
              refine lv_iload hx hb dX5_advise_52 (lv_at hl 0 rfl) ?_
              refine lv_istore_n (lv' := [(3, .int (nI (comesA b a fn l))), (5, .int (nI (comesA b a fn l))), (4, .int (nI l)), (2, .int ((bestA (comesA b a fn) l).1)), (0, .ref y), (1, .int (nI fn))]) hx hb dX5_advise_54 rfl hl (by decide) rfl (fun ls hl => ?_)
              refine lv_iload hx hb dX5_advise_55 (lv_at hl 2 rfl) ?_
              refine lv_istore_n (lv' := [(2, .int (nI l)), (3, .int (nI (comesA b a fn l))), (5, .int (nI (comesA b a fn l))), (4, .int (nI l)), (0, .ref y), (1, .int (nI fn))]) hx hb dX5_advise_57 rfl hl (by decide) rfl (fun ls hl => ?_)
              refine lv_iinc (v := nI (l + 1)) (lv' := [(4, .int (nI (l + 1))), (2, .int (nI l)), (3, .int (nI (comesA b a fn l))), (5, .int (nI (comesA b a fn l))), (0, .ref y), (1, .int (nI fn))]) hx hb dX5_advise_58 hl (k := 3) rfl (nI_add l 1) (by decide) rfl (fun ls hl => ?_)
              refine lv_goto (tgt := 28) hx hb dX5_advise_61 (by decide) ?_
              have e9 := best_in (g := comesA b a fn) (l := l) (by omega)
              have e8 : nI l = (bestA (comesA b a fn) (l + 1)).1 := by rw [e9]
              have e7 : comesA b a fn l = (bestA (comesA b a fn) (l + 1)).2 := by rw [e9]
              rw [e7] at hl
              have hl : lv_has ls 6 [(4, .int (nI (l + 1))), (2, .int ((bestA (comesA b a fn) (l + 1)).1)), (3, .int (nI ((bestA (comesA b a fn) (l + 1)).2))), (0, .ref y), (1, .int (nI fn))] := by rw [← e8]; exact lv_sub hl [0, 1, 2, 4, 5] rfl
              exact ih28 (l + 1) u9.1 u9.2 (by omega) (by omega) H locs hP hD hS ls (lv_sub hl [0, 1, 2, 3, 4] rfl)
            · skip
              have c46 := (not_congr (nI_ltI (a := comesA b a fn l) (b := (bestA (comesA b a fn) l).2) (by omega) (by omega))).mp c46
              refine lv_goto (tgt := 58) hx hb dX5_advise_49 (by decide) ?_
              refine lv_iinc (v := nI (l + 1)) (lv' := [(4, .int (nI (l + 1))), (5, .int (nI (comesA b a fn l))), (2, .int ((bestA (comesA b a fn) l).1)), (3, .int (nI ((bestA (comesA b a fn) l).2))), (0, .ref y), (1, .int (nI fn))]) hx hb dX5_advise_58 hl (k := 1) rfl (nI_add l 1) (by decide) rfl (fun ls hl => ?_)
              refine lv_goto (tgt := 28) hx hb dX5_advise_61 (by decide) ?_
              have e9 := best_out (g := comesA b a fn) (l := l) (by omega)
              rw [← e9] at hl
              exact ih28 (l + 1) u9.1 u9.2 (by omega) (by omega) H locs hP hD hS ls (lv_sub hl [0, 2, 3, 4, 5] rfl)
      exact L28 4 0 a2 q2 (Nat.zero_le _) (by omega) H locs hP hD hS ls (lv_sub hl [0, 2, 1, 3, 4] rfl)
    · skip
      have c11 := bi_0.mp c11
      refine lv_aload_n hx hb dX5_advise_14 rfl (lv_at hl 0 rfl) ?_
      refine lv_iconst (v := 1) hx hb dX5_advise_15 (by decide) ?_
      refine cVi (wB := fun (u_7 : Unit) => ((wM cA y E (S 0) (T 0) 1 b) ++ ((wS cA S y a q) ++ (wS cA T y a2 q2)))) (As := [.int 1]) (rest := []) (wc := ((wM cA y E (S 0) (T 0) 0 b) ++ ((wS cA S y a q) ++ (wS cA T y a2 q2)))) ⟨hx, hb, hml, hown, hts⟩ (K_X5_no lch D cA y E S T 0 b a q a2 q2 1 H.size ) (cwV 1 hts gX5_advise_X5_no rfl rfl rfl (by decide +kernel) ⟨Nat.le_of_ble_eq_true rfl, Nat.le_of_ble_eq_true rfl⟩) hE hP hD hS hA [0, 1, 2, 3, 4, 5, 6, 7, 8, 9, 10, 11, 12, 13, 14, 15, 16, 17, 18, 19, 20, 21, 22, 23, 24, 25] rfl rfl [y, E 0, E 1, E 2, S 0, S 1, S 2, S 3, S 4, S 5, S 6, S 7, S 8, S 9, S 10, T 0, T 1, T 2, T 3, T 4, T 5, T 6, T 7, T 8, T 9, T 10] (fun _ => rfl) rfl (fun (u_7 : Unit) => ((wM cA y E (S 0) (T 0) 1 b) ++ ((wS cA S y a q) ++ (wS cA T y a2 q2)))) (fun _ => pst_all 26 rfl rfl rfl) X0.blind (fun _ _ _ => trivial) 0 5 rfl rfl rfl hl.1 rfl rfl (Nat.le_of_ble_eq_true rfl) dX5_advise_16 ⟨Nat.zero_le _, Nat.zero_le _⟩ (fun r_6 u_7 H locs h_8 hP hD hS => ?_)
      subst h_8
      have ecd : cdFrame f = 1 := by unfold cdFrame; rw [if_pos c11]
      have ec : nI (cdFrame f) = 1 := by rw [ecd]; rfl
      have hP : va_P D vwCl ((wM cA y E (S 0) (T 0) (nI (cdFrame f)) b) ++ ((wS cA S y a q) ++ (wS cA T y ((a2, q2).1) ((a2, q2).2)))) H := by rw [ec]; exact hP
      rw [hQQ]
      exact W.iret (v := 0) hx hb hr (fun t ht hW => ⟨⟨0, (a2, q2), rfl, ⟨fun h9 => absurd (ecd.symm.trans h9) (by decide), fun _ => rfl⟩, by show va_P _ _ _ t.heap; rw [ht]; exact hP⟩, hS.F ht⟩) hS.2.2 dX5_advise_19
  rw [hg1, hg2] at hgoal
  exact hgoal
