set_option maxHeartbeats 4000000 in
set_option maxRecDepth 100000 in
/-- pass -/
theorem K_X5_pass (lch : Launch) (D : va_G) (cA : ClassId) (y : Nat) (E : Nat → Nat) (S : Nat → Nat) (T : Nat → Nat) (th : Int32) (b : BSt) (a : FSt) (q : Nat → Int32) (a2 : FSt) (q2 : Nat → Int32) (z1 : Nat) (z2 : Nat) (m : Int32) (sz : Nat) (hw1 : WFa a) (hwb : WFb b) : Met lch yX5_pass wsX5_pass ({ frames := 4, cells := 2, slots := 20, locals := 92 }) (Pr D cA [.ref y, .int m] sz ((wM cA y E (S 0) (T 0) th b) ++ ((wS cA S y a q) ++ (wS cA T y a2 q2))) (SX z1 z2 (va_A ((wM cA y E (S 0) (T 0) th b) ++ ((wS cA S y a q) ++ (wS cA T y a2 q2))) sz))) (va_Qi (fun (r : Int32) (u : FSt × (Nat → Int32)) => (cdPass m = 0 → r = tallyA (minsA b (m).toNatClampNeg a) 3 - tallyA a 3 ∧ u.1 = minsA b (m).toNatClampNeg a) ∧ (¬ cdPass m = 0 → r = 0 ∧ u.1 = a)) (fun (u : FSt × (Nat → Int32)) t => va_P D vwCl ((wM cA y E (S 0) (T 0) (nI (cdPass m)) b) ++ ((wS cA S y u.1 u.2) ++ (wS cA T y a2 q2))) t.heap) (va_A ((wM cA y E (S 0) (T 0) th b) ++ ((wS cA S y a q) ++ (wS cA T y a2 q2))) sz)) 2 20 (va_A ((wM cA y E (S 0) (T 0) th b) ++ ((wS cA S y a q) ++ (wS cA T y a2 q2))) sz) := by
  refine Met.ofW (cc := cX5_pass) (maxL := 4) (ret := (some .int)) (by decide) rfl ?_
  intro pg ev s mi args below meth cd s₁ B hml hv
  obtain ⟨hav, hsz, hP, hE, hD, hXs⟩ := hv
  have hx := B.exec
  have hb := B.bytes
  have hr := B.returns
  have hts := atoms_spec (ws := wsX5_pass) B.pre
  have hown : s.vm.findClass RX5 = some mi.cls := findClass_of_methodNamed B.named
  have hlocks := B.notSynchronized
  clear B
  subst hav
  subst hsz
  have hD := hD.self (sz := s.heap.size)
  generalize hAe : va_A ((wM cA y E (S 0) (T 0) th b) ++ ((wS cA S y a q) ++ (wS cA T y a2 q2))) s.heap.size = A at hD hXs ⊢
  have hA : ∀ q : Nat, s.heap.size ≤ q → A q := fun q h => by rw [← hAe]; exact Or.inr h
  have hS : va_S A s.heap s.heap [] := va_S.rf
  obtain ⟨QQ, hQQ⟩ : ∃ qq9, qq9 = MQ below (va_Qi (fun (r : Int32) (u : FSt × (Nat → Int32)) => (cdPass m = 0 → r = tallyA (minsA b (m).toNatClampNeg a) 3 - tallyA a 3 ∧ u.1 = minsA b (m).toNatClampNeg a) ∧ (¬ cdPass m = 0 → r = 0 ∧ u.1 = a)) (fun (u : FSt × (Nat → Int32)) t => va_P D vwCl ((wM cA y E (S 0) (T 0) (nI (cdPass m)) b) ++ ((wS cA S y u.1 u.2) ++ (wS cA T y a2 q2))) t.heap) A) ([.ref y, .int m] : List Value).toArray s 2 20 A := ⟨_, rfl⟩
  rw [← hQQ]
  have hl := lv_entry ([.ref y, .int m]) (n := 4) (Nat.le_of_ble_eq_true rfl)
  rw [lg_entry_eq]
  generalize (lg_sl ([.ref y, .int m]) ++ List.replicate (4 - (lg_sl ([.ref y, .int m])).length) Slot.unset).toArray = ls at hl ⊢
  have hl : lv_has ls 4 [(0, .ref y), (1, .int m)] := hl
  have kf31 := hts (.fieldLink RX5 31 "LanternWeirsModel" "thrown" "I") (by decide +kernel)
  have inX5 : ∀ w ∈ u_ws RX5 TX5 8, w ∈ wsX5_pass := by decide +kernel
  have kf24 := hts (.fieldLink RX5 24 "LanternWeirsModel" "s" "LLanternWeirsModel$State;") (by decide +kernel)
  obtain ⟨H, locs, hP, hS, hgo⟩ : ∃ H locs, va_P D vwCl ((wM cA y E (S 0) (T 0) th b) ++ ((wS cA S y a q) ++ (wS cA T y a2 q2))) H ∧ va_S A s.heap H locs ∧ (H = s.heap ∧ locs = []) := ⟨_, _, hP, hS, rfl, rfl⟩
  obtain ⟨hg1, hg2⟩ := hgo
  have hgoal : W pg lch ev (headSpec wsX5_pass ({ frames := 4, cells := 2, slots := 20, locals := 92 })).room s mi ([.ref y, .int m] : List Value).toArray below meth cd H locs 0 0 QQ (F0 mi 0 ls []) := by
    have hn := hw1.1
    refine lv_aload_n hx hb dX5_pass_0 rfl (lv_at hl 0 rfl) ?_
    refine lv_iconst (v := 0) hx hb dX5_pass_1 (by decide) ?_
    refine va_put (D := D) (ci := 5) (v := .int 0) (ty := .int) (C := RX5) (T := TX5) (N := 8) hx hb hts inX5 tyX5 tyX5_ok nmX5 hown hE.1 hP hD hS 0 rfl rfl 0 (by decide) kf31 (fun _ h9 => h9) rfl (by decide +kernel) rfl rfl (Nat.le_of_ble_eq_true rfl) dX5_pass_2 (fun H locs hP hD hS => ?_)
    have hP : va_P D vwCl ((wM cA y E (S 0) (T 0) 0 b) ++ ((wS cA S y a q) ++ (wS cA T y a2 q2))) H := hP
    have hD : va_D A ((wM cA y E (S 0) (T 0) 0 b) ++ ((wS cA S y a q) ++ (wS cA T y a2 q2))) := hD
    refine lv_iload_n hx hb dX5_pass_5 rfl (lv_at hl 1 rfl) ?_
    refine lv_iconst (v := 1) hx hb dX5_pass_6 (by decide) ?_
    refine lv_bipush (v := 90) hx hb dX5_pass_7 (by decide) ?_
    refine pSi (As := [.int m, .int 1, .int 90]) (rest := []) (wc := ([] : va_W)) ⟨hx, hb, hml, hown, hts⟩ (K_X5_isIn lch D cA m 1 90 H.size ) (cwS 3 hts gX5_pass_X5_isIn rfl rfl rfl (by decide +kernel) ⟨Nat.le_of_ble_eq_true rfl, Nat.le_of_ble_eq_true rfl⟩) hE hP hD hS hA [] rfl rfl X0.blind (fun _ _ _ => trivial) hl.1 rfl rfl (Nat.le_of_ble_eq_true rfl) dX5_pass_9 ⟨Nat.zero_le _, Nat.zero_le _⟩ (fun r_1 u_2 H locs h_3 hP hS => ?_)
    subst h_3
    refine lv_if_ne (tgt := 21) hx hb dX5_pass_12 (by decide) (fun c12 => ?_) (fun c12 => ?_)
    · skip
      have c12 := bi_1.mp c12
      obtain ⟨mn, hm9, em⟩ := isW_nat (n := 90) (isW_0 c12) (by decide)
      subst em
      refine lv_aload_n hx hb dX5_pass_21 rfl (lv_at hl 0 rfl) ?_
      refine va_get (D := D) (ci := 5) (v := .ref (S 0)) (C := RX5) (T := TX5) (N := 8) hx hb hts inX5 hown hE.1 hP 0 rfl rfl 6 (by decide) kf24 (fun _ h9 => h9) rfl dX5_pass_22 ?_
      refine lv_iconst (v := 3) hx hb dX5_pass_25 (by decide) ?_
      have hwz := hw1
      refine cVi (wB := fun (u_5 : Unit) => ((wM cA y E (S 0) (T 0) 0 b) ++ (wS cA S y a q))) (As := [.int 3]) (rest := []) (wc := ((wM cA y E (S 0) (T 0) 0 b) ++ (wS cA S y a q))) ⟨hx, hb, hml, hown, hts⟩ (K_X4_counted lch D cA S y a q E (S 0) (T 0) 0 b 0 0 3 H.size (hwz) (by omega)) (cwV 1 hts gX5_pass_X4_counted rfl rfl rfl (by decide +kernel) ⟨Nat.le_of_ble_eq_true rfl, Nat.le_of_ble_eq_true rfl⟩) hE hP hD hS hA [0, 1, 2, 3, 4, 5, 6, 7, 8, 9, 10, 11, 12, 13, 14] rfl rfl [y, E 0, E 1, E 2, S 0, S 1, S 2, S 3, S 4, S 5, S 6, S 7, S 8, S 9, S 10] (fun _ => rfl) rfl (fun (u_5 : Unit) => ((wM cA y E (S 0) (T 0) 0 b) ++ ((wS cA S y a q) ++ (wS cA T y a2 q2)))) (fun u_5 => ((pst_app 4 (ps1 := [0, 1, 2, 3]) (ps2 := [4, 5, 6, 7, 8, 9, 10, 11, 12, 13, 14]) (w1 := (wM cA y E (S 0) (T 0) 0 b)) (w2 := (wS cA S y a q)) rfl rfl rfl).trans ((congrArg (fun z => pst z [4, 5, 6, 7, 8, 9, 10, 11, 12, 13, 14] (wS cA S y a q)) (pst_blk [] ((wS cA S y a q) ++ (wS cA T y a2 q2)) (wc := (wM cA y E (S 0) (T 0) 0 b)) (w1 := (wM cA y E (S 0) (T 0) 0 b)) (w2 := ((wM cA y E (S 0) (T 0) 0 b) ++ ((wS cA S y a q) ++ (wS cA T y a2 q2)))) 4 0 rfl rfl rfl rfl rfl rfl)).trans (pst_blk (wM cA y E (S 0) (T 0) 0 b) (wS cA T y a2 q2) (wc := (wS cA S y a q)) (w1 := (wS cA S y a q)) (w2 := ((wM cA y E (S 0) (T 0) 0 b) ++ ((wS cA S y a q) ++ (wS cA T y a2 q2)))) 11 4 rfl rfl rfl rfl rfl rfl)))) X0.blind (fun _ _ _ => trivial) 4 4 rfl rfl rfl hl.1 rfl rfl (Nat.le_of_ble_eq_true rfl) dX5_pass_26 ⟨Nat.le_of_ble_eq_true rfl, Nat.le_of_ble_eq_true rfl⟩ (fun r_4 u_5 H locs h_6 hP hD hS => ?_)
      subst h_6
      refine lv_istore_n (lv' := [(2, .int (countA a b 3)), (0, .ref y), (1, .int (nI mn))]) hx hb dX5_pass_29 rfl hl (by decide) rfl (fun ls hl => ?_)
      refine lv_iconst (v := 0) hx hb dX5_pass_30 (by decide) ?_
      refine lv_istore_n (lv' := [(3, .int 0), (2, .int (countA a b 3)), (0, .ref y), (1, .int (nI mn))]) hx hb dX5_pass_31 rfl hl (by decide) rfl (fun ls hl => ?_)
      have L32 : ∀ (fu32 : Nat) (t : Nat) (qd : Nat → Int32), (t ≤ mn) → mn - t < fu32 → ∀ (H : Heap) (locs : List Loc), va_P D vwCl ((wM cA y E (S 0) (T 0) 0 b) ++ ((wS cA S y (minsA b t a) qd) ++ (wS cA T y a2 q2))) H → va_D A ((wM cA y E (S 0) (T 0) 0 b) ++ ((wS cA S y (minsA b t a) qd) ++ (wS cA T y a2 q2))) → va_S A s.heap H locs → ∀ ls : Array Slot, lv_has ls 4 [(3, .int (nI t)), (2, .int (countA a b 3)), (0, .ref y), (1, .int (nI mn))] → W pg lch ev (headSpec wsX5_pass ({ frames := 4, cells := 2, slots := 20, locals := 92 })).room s mi ([.ref y, .int (nI mn)] : List Value).toArray below meth cd H locs 1 10 QQ (F0 mi 32 ls []) := by
        intro fu32
        induction fu32 with
        | zero => intro t qd ht hms; exact absurd hms (Nat.not_lt_zero _)
        | succ fu32 ih32 =>
          intro t qd ht hms32 H locs hP hD hS ls hl
          have hkt := (mins_keep (b := b) hw1 t).1
          refine lv_iload_n hx hb dX5_pass_32 rfl (lv_at hl 0 rfl) ?_
          refine lv_iload_n hx hb dX5_pass_33 rfl (lv_at hl 3 rfl) ?_
          refine lv_icmp_ge (tgt := 50) hx hb dX5_pass_34 (by decide) (fun c34 => ?_) (fun c34 => ?_)
          · skip
            have c34 := (nI_leI (a := mn) (b := t) (by omega) (by omega)).mp c34
            have et : t = mn := by omega
            rw [et] at hP hD
            refine lv_aload_n hx hb dX5_pass_50 rfl (lv_at hl 2 rfl) ?_
            refine va_get (D := D) (ci := 5) (v := .ref (S 0)) (C := RX5) (T := TX5) (N := 8) hx hb hts inX5 hown hE.1 hP 0 rfl rfl 6 (by decide) kf24 (fun _ h9 => h9) rfl dX5_pass_51 ?_
            refine lv_iconst (v := 3) hx hb dX5_pass_54 (by decide) ?_
            have hwz := (mins_keep (b := b) hw1 mn).1
            refine cVi (wB := fun (u_8 : Unit) => ((wM cA y E (S 0) (T 0) 0 b) ++ (wS cA S y (minsA b mn a) qd))) (As := [.int 3]) (rest := []) (wc := ((wM cA y E (S 0) (T 0) 0 b) ++ (wS cA S y (minsA b mn a) qd))) ⟨hx, hb, hml, hown, hts⟩ (K_X4_counted lch D cA S y (minsA b mn a) qd E (S 0) (T 0) 0 b 0 0 3 H.size (hwz) (by omega)) (cwV 1 hts gX5_pass_X4_counted rfl rfl rfl (by decide +kernel) ⟨Nat.le_of_ble_eq_true rfl, Nat.le_of_ble_eq_true rfl⟩) hE hP hD hS hA [0, 1, 2, 3, 4, 5, 6, 7, 8, 9, 10, 11, 12, 13, 14] rfl rfl [y, E 0, E 1, E 2, S 0, S 1, S 2, S 3, S 4, S 5, S 6, S 7, S 8, S 9, S 10] (fun _ => rfl) rfl (fun (u_8 : Unit) => ((wM cA y E (S 0) (T 0) 0 b) ++ ((wS cA S y (minsA b mn a) qd) ++ (wS cA T y a2 q2)))) (fun u_8 => ((pst_app 4 (ps1 := [0, 1, 2, 3]) (ps2 := [4, 5, 6, 7, 8, 9, 10, 11, 12, 13, 14]) (w1 := (wM cA y E (S 0) (T 0) 0 b)) (w2 := (wS cA S y (minsA b mn a) qd)) rfl rfl rfl).trans ((congrArg (fun z => pst z [4, 5, 6, 7, 8, 9, 10, 11, 12, 13, 14] (wS cA S y (minsA b mn a) qd)) (pst_blk [] ((wS cA S y (minsA b mn a) qd) ++ (wS cA T y a2 q2)) (wc := (wM cA y E (S 0) (T 0) 0 b)) (w1 := (wM cA y E (S 0) (T 0) 0 b)) (w2 := ((wM cA y E (S 0) (T 0) 0 b) ++ ((wS cA S y (minsA b mn a) qd) ++ (wS cA T y a2 q2)))) 4 0 rfl rfl rfl rfl rfl rfl)).trans (pst_blk (wM cA y E (S 0) (T 0) 0 b) (wS cA T y a2 q2) (wc := (wS cA S y (minsA b mn a) qd)) (w1 := (wS cA S y (minsA b mn a) qd)) (w2 := ((wM cA y E (S 0) (T 0) 0 b) ++ ((wS cA S y (minsA b mn a) qd) ++ (wS cA T y a2 q2)))) 11 4 rfl rfl rfl rfl rfl rfl)))) X0.blind (fun _ _ _ => trivial) 4 4 rfl rfl rfl hl.1 rfl rfl (Nat.le_of_ble_eq_true rfl) dX5_pass_55 ⟨Nat.le_of_ble_eq_true rfl, Nat.le_of_ble_eq_true rfl⟩ (fun r_7 u_8 H locs h_9 hP hD hS => ?_)
            subst h_9
            refine lv_iload_n hx hb dX5_pass_58 rfl (lv_at hl 1 rfl) ?_
            refine lv_isub hx hb dX5_pass_59 ?_
            have ecd : cdPass (nI mn) = 0 := by unfold cdPass; rw [if_neg (by simp [c12])]
            have ec : nI (cdPass (nI mn)) = 0 := by rw [ecd]; rfl
            have ew0 : minsA b ((nI mn).toNatClampNeg) a = minsA b mn a := by rw [nI_clamp (by omega)]
            have hP : va_P D vwCl ((wM cA y E (S 0) (T 0) (nI (cdPass (nI mn))) b) ++ ((wS cA S y ((minsA b (nI mn).toNatClampNeg a, qd).1) ((minsA b (nI mn).toNatClampNeg a, qd).2)) ++ (wS cA T y a2 q2))) H := by rw [ec, ew0]; exact hP
            rw [hQQ]
            exact W.iret (v := (countA (minsA b mn a) b 3) - (countA a b 3)) hx hb hr (fun t ht hW => ⟨⟨(countA (minsA b mn a) b 3) - (countA a b 3), (minsA b (nI mn).toNatClampNeg a, qd), rfl, ⟨fun _ => ⟨by rw [nI_clamp (by omega)]; rfl, rfl⟩, fun h9 => absurd ecd h9⟩, by show va_P _ _ _ t.heap; rw [ht]; exact hP⟩, hS.F ht⟩) hS.2.2 dX5_pass_60
          · skip
            have c34 := (not_congr (nI_leI (a := mn) (b := t) (by omega) (by omega))).mp c34
            refine lv_aload_n hx hb dX5_pass_37 rfl (lv_at hl 2 rfl) ?_
            refine va_get (D := D) (ci := 5) (v := .ref (S 0)) (C := RX5) (T := TX5) (N := 8) hx hb hts inX5 hown hE.1 hP 0 rfl rfl 6 (by decide) kf24 (fun _ h9 => h9) rfl dX5_pass_38 ?_
            refine cVv (wB := fun (u9 : Nat → Int32) => ((wM cA y E (S 0) (T 0) 0 b) ++ (wS cA S y (minA b (minsA b t a)) u9))) (As := []) (rest := []) (wc := ((wM cA y E (S 0) (T 0) 0 b) ++ (wS cA S y (minsA b t a) qd))) ⟨hx, hb, hml, hown, hts⟩ (K_X4_pass_ lch D cA S y (minsA b t a) qd E (S 0) (T 0) 0 b z1 z2 H.size (hkt) (hwb)) (cwV 0 hts gX5_pass_X4_pass_ rfl rfl rfl (by decide +kernel) ⟨Nat.le_of_ble_eq_true rfl, Nat.le_of_ble_eq_true rfl⟩) hE hP hD hS hA [0, 1, 2, 3, 4, 5, 6, 7, 8, 9, 10, 11, 12, 13, 14] rfl rfl [y, E 0, E 1, E 2, S 0, S 1, S 2, S 3, S 4, S 5, S 6, S 7, S 8, S 9, S 10] (fun _ => rfl) rfl (fun (u9 : Nat → Int32) => ((wM cA y E (S 0) (T 0) 0 b) ++ ((wS cA S y (minA b (minsA b t a)) u9) ++ (wS cA T y a2 q2)))) (fun u9 => ((pst_app 4 (ps1 := [0, 1, 2, 3]) (ps2 := [4, 5, 6, 7, 8, 9, 10, 11, 12, 13, 14]) (w1 := (wM cA y E (S 0) (T 0) 0 b)) (w2 := (wS cA S y (minA b (minsA b t a)) u9)) rfl rfl rfl).trans ((congrArg (fun z => pst z [4, 5, 6, 7, 8, 9, 10, 11, 12, 13, 14] (wS cA S y (minA b (minsA b t a)) u9)) (pst_blk [] ((wS cA S y (minsA b t a) qd) ++ (wS cA T y a2 q2)) (wc := (wM cA y E (S 0) (T 0) 0 b)) (w1 := (wM cA y E (S 0) (T 0) 0 b)) (w2 := ((wM cA y E (S 0) (T 0) 0 b) ++ ((wS cA S y (minsA b t a) qd) ++ (wS cA T y a2 q2)))) 4 0 rfl rfl rfl rfl rfl rfl)).trans (pst_blk (wM cA y E (S 0) (T 0) 0 b) (wS cA T y a2 q2) (wc := (wS cA S y (minsA b t a) qd)) (w1 := (wS cA S y (minA b (minsA b t a)) u9)) (w2 := ((wM cA y E (S 0) (T 0) 0 b) ++ ((wS cA S y (minA b (minsA b t a)) u9) ++ (wS cA T y a2 q2)))) 11 4 rfl rfl rfl rfl rfl rfl)))) (SX.blind z1 z2 _) (fun U hU hW => hXs.at hS (va_free (wc := ((wM cA y E (S 0) (T 0) 0 b) ++ (wS cA S y (minsA b t a) qd))) hD hS hA [0, 1, 2, 3, 4, 5, 6, 7, 8, 9, 10, 11, 12, 13, 14] rfl) hU hW) 4 4 rfl rfl rfl hl.1 rfl rfl (Nat.le_of_ble_eq_true rfl) dX5_pass_41 ⟨Nat.le_of_ble_eq_true rfl, Nat.le_of_ble_eq_true rfl⟩ (fun u9 H locs h_11 hP hD hS => ?_)
            refine lv_iinc (v := nI (t + 1)) (lv' := [(3, .int (nI (t + 1))), (2, .int (countA a b 3)), (0, .ref y), (1, .int (nI mn))]) hx hb dX5_pass_44 hl (k := 0) rfl (nI_add t 1) (by decide) rfl (fun ls hl => ?_)
            refine lv_goto (tgt := 32) hx hb dX5_pass_47 (by decide) ?_
            have e9 : minsA b (t + 1) a = minA b (minsA b t a) := rfl
            have hP : va_P D vwCl ((wM cA y E (S 0) (T 0) 0 b) ++ ((wS cA S y (minsA b (t + 1) a) u9) ++ (wS cA T y a2 q2))) H := by rw [e9]; exact hP
            have hD : va_D A ((wM cA y E (S 0) (T 0) 0 b) ++ ((wS cA S y (minsA b (t + 1) a) u9) ++ (wS cA T y a2 q2))) := by rw [e9]; exact hD
            exact ih32 (t + 1) u9 (by omega) (by omega) H locs hP hD hS ls (lv_sub hl [0, 1, 2, 3] rfl)
      exact L32 (mn + 1) 0 q (Nat.zero_le _) (by omega) H locs hP hD hS ls (lv_sub hl [0, 1, 2, 3] rfl)
    · skip
      have c12 := bi_0.mp c12
      refine lv_aload_n hx hb dX5_pass_15 rfl (lv_at hl 0 rfl) ?_
      refine lv_iconst (v := 1) hx hb dX5_pass_16 (by decide) ?_
      refine cVi (wB := fun (u_13 : Unit) => ((wM cA y E (S 0) (T 0) 1 b) ++ ((wS cA S y a q) ++ (wS cA T y a2 q2)))) (As := [.int 1]) (rest := []) (wc := ((wM cA y E (S 0) (T 0) 0 b) ++ ((wS cA S y a q) ++ (wS cA T y a2 q2)))) ⟨hx, hb, hml, hown, hts⟩ (K_X5_no lch D cA y E S T 0 b a q a2 q2 1 H.size ) (cwV 1 hts gX5_pass_X5_no rfl rfl rfl (by decide +kernel) ⟨Nat.le_of_ble_eq_true rfl, Nat.le_of_ble_eq_true rfl⟩) hE hP hD hS hA [0, 1, 2, 3, 4, 5, 6, 7, 8, 9, 10, 11, 12, 13, 14, 15, 16, 17, 18, 19, 20, 21, 22, 23, 24, 25] rfl rfl [y, E 0, E 1, E 2, S 0, S 1, S 2, S 3, S 4, S 5, S 6, S 7, S 8, S 9, S 10, T 0, T 1, T 2, T 3, T 4, T 5, T 6, T 7, T 8, T 9, T 10] (fun _ => rfl) rfl (fun (u_13 : Unit) => ((wM cA y E (S 0) (T 0) 1 b) ++ ((wS cA S y a q) ++ (wS cA T y a2 q2)))) (fun _ => pst_all 26 rfl rfl rfl) X0.blind (fun _ _ _ => trivial) 0 5 rfl rfl rfl hl.1 rfl rfl (Nat.le_of_ble_eq_true rfl) dX5_pass_17 ⟨Nat.zero_le _, Nat.zero_le _⟩ (fun r_12 u_13 H locs h_14 hP hD hS => ?_)
      subst h_14
      refine W.widen (k := 2) (n := 20) (by first | exact Nat.le_of_ble_eq_true rfl | omega) (by first | exact Nat.le_of_ble_eq_true rfl | omega) ?_
      have ecd : cdPass m = 1 := by unfold cdPass; rw [if_pos c12]
      have ec : nI (cdPass m) = 1 := by rw [ecd]; rfl
      have hP : va_P D vwCl ((wM cA y E (S 0) (T 0) (nI (cdPass m)) b) ++ ((wS cA S y ((a, q).1) ((a, q).2)) ++ (wS cA T y a2 q2))) H := by rw [ec]; exact hP
      rw [hQQ]
      exact W.iret (v := 0) hx hb hr (fun t ht hW => ⟨⟨0, (a, q), rfl, ⟨fun h9 => absurd (ecd.symm.trans h9) (by decide), fun _ => ⟨rfl, rfl⟩⟩, by show va_P _ _ _ t.heap; rw [ht]; exact hP⟩, hS.F ht⟩) hS.2.2 dX5_pass_20
  rw [hg1, hg2] at hgoal
  exact hgoal

set_option maxHeartbeats 4000000 in
set_option maxRecDepth 100000 in
/-- burns -/
theorem K_X5_burns (lch : Launch) (D : va_G) (cA : ClassId) (y : Nat) (E : Nat → Nat) (S : Nat → Nat) (T : Nat → Nat) (th : Int32) (b : BSt) (a : FSt) (q : Nat → Int32) (a2 : FSt) (q2 : Nat → Int32) (z1 : Nat) (z2 : Nat) (k : Int32) (sz : Nat) (hw1 : WFa a) (hwb : WFb b) : Met lch yX5_burns wsX5_burns ({ frames := 4, cells := 0, slots := 0, locals := 92 }) (Pr D cA [.ref y, .int k] sz ((wM cA y E (S 0) (T 0) th b) ++ ((wS cA S y a q) ++ (wS cA T y a2 q2))) (SX z1 z2 (va_A ((wM cA y E (S 0) (T 0) th b) ++ ((wS cA S y a q) ++ (wS cA T y a2 q2))) sz))) (va_Qi (fun (r : Int32) (u : FSt × (Nat → Int32)) => (cdLan a k = 0 → r = burnsA b a (k).toNatClampNeg) ∧ (¬ cdLan a k = 0 → r = 0)) (fun (u : FSt × (Nat → Int32)) t => va_P D vwCl ((wM cA y E (S 0) (T 0) (nI (cdLan a k)) b) ++ ((wS cA S y a q) ++ (wS cA T y u.1 u.2))) t.heap) (va_A ((wM cA y E (S 0) (T 0) th b) ++ ((wS cA S y a q) ++ (wS cA T y a2 q2))) sz)) 0 0 (va_A ((wM cA y E (S 0) (T 0) th b) ++ ((wS cA S y a q) ++ (wS cA T y a2 q2))) sz) := by
  refine Met.ofW (cc := cX5_burns) (maxL := 3) (ret := (some .int)) (by decide) rfl ?_
  intro pg ev s mi args below meth cd s₁ B hml hv
  obtain ⟨hav, hsz, hP, hE, hD, hXs⟩ := hv
  have hx := B.exec
  have hb := B.bytes
  have hr := B.returns
  have hts := atoms_spec (ws := wsX5_burns) B.pre
  have hown : s.vm.findClass RX5 = some mi.cls := findClass_of_methodNamed B.named
  have hlocks := B.notSynchronized
  clear B
  subst hav
  subst hsz
  have hD := hD.self (sz := s.heap.size)
  generalize hAe : va_A ((wM cA y E (S 0) (T 0) th b) ++ ((wS cA S y a q) ++ (wS cA T y a2 q2))) s.heap.size = A at hD hXs ⊢
  have hA : ∀ q : Nat, s.heap.size ≤ q → A q := fun q h => by rw [← hAe]; exact Or.inr h
  have hS : va_S A s.heap s.heap [] := va_S.rf
  obtain ⟨QQ, hQQ⟩ : ∃ qq9, qq9 = MQ below (va_Qi (fun (r : Int32) (u : FSt × (Nat → Int32)) => (cdLan a k = 0 → r = burnsA b a (k).toNatClampNeg) ∧ (¬ cdLan a k = 0 → r = 0)) (fun (u : FSt × (Nat → Int32)) t => va_P D vwCl ((wM cA y E (S 0) (T 0) (nI (cdLan a k)) b) ++ ((wS cA S y a q) ++ (wS cA T y u.1 u.2))) t.heap) A) ([.ref y, .int k] : List Value).toArray s 0 0 A := ⟨_, rfl⟩
  rw [← hQQ]
  have hl := lv_entry ([.ref y, .int k]) (n := 3) (Nat.le_of_ble_eq_true rfl)
  rw [lg_entry_eq]
  generalize (lg_sl ([.ref y, .int k]) ++ List.replicate (3 - (lg_sl ([.ref y, .int k])).length) Slot.unset).toArray = ls at hl ⊢
  have hl : lv_has ls 3 [(0, .ref y), (1, .int k)] := hl
  have kf31 := hts (.fieldLink RX5 31 "LanternWeirsModel" "thrown" "I") (by decide +kernel)
  have inX5 : ∀ w ∈ u_ws RX5 TX5 8, w ∈ wsX5_burns := by decide +kernel
  have kf28 := hts (.fieldLink RX5 28 "LanternWeirsModel" "ahead" "LLanternWeirsModel$State;") (by decide +kernel)
  have kf24 := hts (.fieldLink RX5 24 "LanternWeirsModel" "s" "LLanternWeirsModel$State;") (by decide +kernel)
  have kf79 := va_Nw.use (A := ([.ref y, .int k] : List Value).toArray) rfl (hE.2.2 (.fieldLinkNest "LanternWeirsModel" 79 "LanternWeirsModel$State" "burns" "[I" "LanternWeirsModel") (by decide +kernel))
  have inX4 : ∀ w ∈ u_ws RX4 TX4 13, w ∈ wsX5_burns := by decide +kernel
  obtain ⟨H, locs, hP, hS, hgo⟩ : ∃ H locs, va_P D vwCl ((wM cA y E (S 0) (T 0) th b) ++ ((wS cA S y a q) ++ (wS cA T y a2 q2))) H ∧ va_S A s.heap H locs ∧ (H = s.heap ∧ locs = []) := ⟨_, _, hP, hS, rfl, rfl⟩
  obtain ⟨hg1, hg2⟩ := hgo
  have hgoal : W pg lch ev (headSpec wsX5_burns ({ frames := 4, cells := 0, slots := 0, locals := 92 })).room s mi ([.ref y, .int k] : List Value).toArray below meth cd H locs 0 0 QQ (F0 mi 0 ls []) := by
    have hn := hw1.1
    refine lv_aload_n hx hb dX5_burns_0 rfl (lv_at hl 0 rfl) ?_
    refine lv_iconst (v := 0) hx hb dX5_burns_1 (by decide) ?_
    refine va_put (D := D) (ci := 5) (v := .int 0) (ty := .int) (C := RX5) (T := TX5) (N := 8) hx hb hts inX5 tyX5 tyX5_ok nmX5 hown hE.1 hP hD hS 0 rfl rfl 0 (by decide) kf31 (fun _ h9 => h9) rfl (by decide +kernel) rfl rfl (Nat.le_of_ble_eq_true rfl) dX5_burns_2 (fun H locs hP hD hS => ?_)
    have hP : va_P D vwCl ((wM cA y E (S 0) (T 0) 0 b) ++ ((wS cA S y a q) ++ (wS cA T y a2 q2))) H := hP
    have hD : va_D A ((wM cA y E (S 0) (T 0) 0 b) ++ ((wS cA S y a q) ++ (wS cA T y a2 q2))) := hD
    refine lv_aload_n hx hb dX5_burns_5 rfl (lv_at hl 0 rfl) ?_
    refine lv_iload_n hx hb dX5_burns_6 rfl (lv_at hl 1 rfl) ?_
    refine pVi (As := [.int k]) (rest := []) (wc := ((wM cA y E (S 0) (T 0) 0 b) ++ ((wS cA S y a q) ++ (wS cA T y a2 q2)))) ⟨hx, hb, hml, hown, hts⟩ (K_X5_isLantern lch D cA y E S T 0 b a q a2 q2 k H.size ) (cwV 1 hts gX5_burns_X5_isLantern rfl rfl rfl (by decide +kernel) ⟨Nat.le_of_ble_eq_true rfl, Nat.le_of_ble_eq_true rfl⟩) hE hP hD hS hA [0, 1, 2, 3, 4, 5, 6, 7, 8, 9, 10, 11, 12, 13, 14, 15, 16, 17, 18, 19, 20, 21, 22, 23, 24, 25] rfl rfl X0.blind (fun _ _ _ => trivial) 0 5 rfl rfl rfl hl.1 rfl rfl (Nat.le_of_ble_eq_true rfl) dX5_burns_7 ⟨Nat.zero_le _, Nat.zero_le _⟩ (fun r_1 u_2 H locs h_3 hP hS => ?_)
    subst h_3
    refine lv_if_ne (tgt := 19) hx hb dX5_burns_10 (by decide) (fun c10 => ?_) (fun c10 => ?_)
    · skip
      have c10 := bi_1.mp c10
      obtain ⟨kn, hkn, ekn⟩ := lan_nat (a := a) (k := k) c10 hn
      subst ekn
      obtain ⟨w1, w2, w3, w4, w5, w6, w7, w8⟩ := hw1.2 kn hkn
      refine lv_aload_n hx hb dX5_burns_19 rfl (lv_at hl 0 rfl) ?_
      refine va_get (D := D) (ci := 5) (v := .ref (T 0)) (C := RX5) (T := TX5) (N := 8) hx hb hts inX5 hown hE.1 hP 0 rfl rfl 7 (by decide) kf28 (fun _ h9 => h9) rfl dX5_burns_20 ?_
      refine lv_aload_n hx hb dX5_burns_23 rfl (lv_at hl 0 rfl) ?_
      refine va_get (D := D) (ci := 5) (v := .ref (S 0)) (C := RX5) (T := TX5) (N := 8) hx hb hts inX5 hown hE.1 hP 0 rfl rfl 6 (by decide) kf24 (fun _ h9 => h9) rfl dX5_burns_24 ?_
      refine cVv (wB := fun (u_5 : Unit) => ((wS cA T y a q2) ++ (wS cA S y a q))) (As := [.ref (S 0)]) (rest := []) (wc := ((wS cA T y a2 q2) ++ (wS cA S y a q))) ⟨hx, hb, hml, hown, hts⟩ (K_X4_become lch D cA T S y a2 q2 a q H.size ) (cwV 1 hts gX5_burns_X4_become rfl rfl rfl (by decide +kernel) ⟨Nat.le_of_ble_eq_true rfl, Nat.le_of_ble_eq_true rfl⟩) hE hP hD hS hA [15, 16, 17, 18, 19, 20, 21, 22, 23, 24, 25, 4, 5, 6, 7, 8, 9, 10, 11, 12, 13, 14] rfl rfl [T 0, T 1, T 2, T 3, T 4, T 5, T 6, T 7, T 8, T 9, T 10, S 0, S 1, S 2, S 3, S 4, S 5, S 6, S 7, S 8, S 9, S 10] (fun _ => rfl) rfl (fun (u_5 : Unit) => ((wM cA y E (S 0) (T 0) 0 b) ++ ((wS cA S y a q) ++ (wS cA T y a q2)))) (fun u_5 => ((pst_app 11 (ps1 := [15, 16, 17, 18, 19, 20, 21, 22, 23, 24, 25]) (ps2 := [4, 5, 6, 7, 8, 9, 10, 11, 12, 13, 14]) (w1 := (wS cA T y a q2)) (w2 := (wS cA S y a q)) rfl rfl rfl).trans ((congrArg (fun z => pst z [4, 5, 6, 7, 8, 9, 10, 11, 12, 13, 14] (wS cA S y a q)) (pst_blk ((wM cA y E (S 0) (T 0) 0 b) ++ (wS cA S y a q)) [] (wc := (wS cA T y a2 q2)) (w1 := (wS cA T y a q2)) (w2 := ((wM cA y E (S 0) (T 0) 0 b) ++ ((wS cA S y a q) ++ (wS cA T y a q2)))) 11 15 rfl rfl rfl rfl rfl rfl)).trans (pst_blk (wM cA y E (S 0) (T 0) 0 b) (wS cA T y a q2) (wc := (wS cA S y a q)) (w1 := (wS cA S y a q)) (w2 := ((wM cA y E (S 0) (T 0) 0 b) ++ ((wS cA S y a q) ++ (wS cA T y a q2)))) 11 4 rfl rfl rfl rfl rfl rfl)))) X0.blind (fun _ _ _ => trivial) 15 4 rfl rfl rfl hl.1 rfl rfl (Nat.le_of_ble_eq_true rfl) dX5_burns_27 ⟨Nat.zero_le _, Nat.zero_le _⟩ (fun u_5 H locs h_6 hP hD hS => ?_)
      refine lv_iconst (v := 0) hx hb dX5_burns_30 (by decide) ?_
      refine lv_istore_n (lv' := [(2, .int 0), (0, .ref y), (1, .int (nI kn))]) hx hb dX5_burns_31 rfl hl (by decide) rfl (fun ls hl => ?_)
      have L32 : ∀ (fu32 : Nat) (m : Nat) (d : FSt) (qd : Nat → Int32), (m ≤ 61) → (burnsF b kn (61 - m) m d = burnsA b a kn) → (WFa d) → (kn < qN d) → 61 - m < fu32 → ∀ (H : Heap) (locs : List Loc), va_P D vwCl ((wM cA y E (S 0) (T 0) 0 b) ++ ((wS cA S y a q) ++ (wS cA T y d qd))) H → va_D A ((wM cA y E (S 0) (T 0) 0 b) ++ ((wS cA S y a q) ++ (wS cA T y d qd))) → va_S A s.heap H locs → ∀ ls : Array Slot, lv_has ls 3 [(2, .int (nI m)), (0, .ref y), (1, .int (nI kn))] → W pg lch ev (headSpec wsX5_burns ({ frames := 4, cells := 0, slots := 0, locals := 92 })).room s mi ([.ref y, .int (nI kn)] : List Value).toArray below meth cd H locs 0 0 QQ (F0 mi 32 ls []) := by
        intro fu32
        induction fu32 with
        | zero => intro m d qd hm hrr hwd hkd hms; exact absurd hms (Nat.not_lt_zero _)
        | succ fu32 ih32 =>
          intro m d qd hm hrr hwd hkd hms32 H locs hP hD hS ls hl
          have hnd := hwd.1
          obtain ⟨k1, k2, k3⟩ := min_keep (b := b) hwd
          refine lv_iload_n hx hb dX5_burns_32 rfl (lv_at hl 0 rfl) ?_
          refine lv_bipush (v := 60) hx hb dX5_burns_33 (by decide) ?_
          refine lv_icmp_gt (tgt := 65) hx hb dX5_burns_35 (by decide) (fun c35 => ?_) (fun c35 => ?_)
          · skip
            have c35 := (nI_ltI (a := 60) (b := m) (by omega) (by omega)).mp c35
            refine lv_iconst (v := (-1)) hx hb dX5_burns_65 (by decide) ?_
            have ecd : cdLan a (nI kn) = 0 := by unfold cdLan; rw [if_neg (by simp [c10])]
            have ec : nI (cdLan a (nI kn)) = 0 := by rw [ecd]; rfl
            have hP : va_P D vwCl ((wM cA y E (S 0) (T 0) (nI (cdLan a (nI kn))) b) ++ ((wS cA S y a q) ++ (wS cA T y ((d, qd).1) ((d, qd).2)))) H := by rw [ec]; exact hP
            rw [hQQ]
            exact W.iret (v := (-1)) hx hb hr (fun t ht hW => ⟨⟨(-1), (d, qd), rfl, ⟨fun _ => by rw [nI_clamp (by omega), ← hrr, show 61 - m = 0 by omega]; rfl, fun h9 => absurd ecd h9⟩, by show va_P _ _ _ t.heap; rw [ht]; exact hP⟩, hS.F ht⟩) hS.2.2 dX5_burns_66
          · skip
            have c35 := (not_congr (nI_ltI (a := 60) (b := m) (by omega) (by omega))).mp c35
            refine lv_aload_n hx hb dX5_burns_38 rfl (lv_at hl 1 rfl) ?_
            refine va_get (D := D) (ci := 5) (v := .ref (T 0)) (C := RX5) (T := TX5) (N := 8) hx hb hts inX5 hown hE.1 hP 0 rfl rfl 7 (by decide) kf28 (fun _ h9 => h9) rfl dX5_burns_39 ?_
            refine va_getN (D := D) (ci := 4) (v := .ref (T 7)) (C := RX4) (T := TX4) (N := 13) hx hb hts inX4 hown hE.1 hP 15 rfl rfl 8 (by decide) kf79 (fun _ h9 => h9) rfl dX5_burns_42 ?_
            refine lv_iload_n hx hb dX5_burns_45 rfl (lv_at hl 2 rfl) ?_
            refine ald hx hb hE hP 22 rfl (k := kn) (by omega) (Nat.le_of_ble_eq_true rfl) (v := bi (qBu d kn)) rfl dX5_burns_46 ?_
            refine lv_if_ne (tgt := 52) hx hb dX5_burns_47 (by decide) (fun c47 => ?_) (fun c47 => ?_)
            · skip
              have c47 := bi_1.mp c47
              refine lv_aload_n hx hb dX5_burns_52 rfl (lv_at hl 1 rfl) ?_
              refine va_get (D := D) (ci := 5) (v := .ref (T 0)) (C := RX5) (T := TX5) (N := 8) hx hb hts inX5 hown hE.1 hP 0 rfl rfl 7 (by decide) kf28 (fun _ h9 => h9) rfl dX5_burns_53 ?_
              refine cVv (wB := fun (u9 : Nat → Int32) => ((wM cA y E (S 0) (T 0) 0 b) ++ (wS cA T y (minA b d) u9))) (As := []) (rest := []) (wc := ((wM cA y E (S 0) (T 0) 0 b) ++ (wS cA T y d qd))) ⟨hx, hb, hml, hown, hts⟩ (K_X4_pass_ lch D cA T y d qd E (S 0) (T 0) 0 b z1 z2 H.size (hwd) (hwb)) (cwV 0 hts gX5_burns_X4_pass_ rfl rfl rfl (by decide +kernel) ⟨Nat.le_of_ble_eq_true rfl, Nat.le_of_ble_eq_true rfl⟩) hE hP hD hS hA [0, 1, 2, 3, 15, 16, 17, 18, 19, 20, 21, 22, 23, 24, 25] rfl rfl [y, E 0, E 1, E 2, T 0, T 1, T 2, T 3, T 4, T 5, T 6, T 7, T 8, T 9, T 10] (fun _ => rfl) rfl (fun (u9 : Nat → Int32) => ((wM cA y E (S 0) (T 0) 0 b) ++ ((wS cA S y a q) ++ (wS cA T y (minA b d) u9)))) (fun u9 => ((pst_app 4 (ps1 := [0, 1, 2, 3]) (ps2 := [15, 16, 17, 18, 19, 20, 21, 22, 23, 24, 25]) (w1 := (wM cA y E (S 0) (T 0) 0 b)) (w2 := (wS cA T y (minA b d) u9)) rfl rfl rfl).trans ((congrArg (fun z => pst z [15, 16, 17, 18, 19, 20, 21, 22, 23, 24, 25] (wS cA T y (minA b d) u9)) (pst_blk [] ((wS cA S y a q) ++ (wS cA T y d qd)) (wc := (wM cA y E (S 0) (T 0) 0 b)) (w1 := (wM cA y E (S 0) (T 0) 0 b)) (w2 := ((wM cA y E (S 0) (T 0) 0 b) ++ ((wS cA S y a q) ++ (wS cA T y d qd)))) 4 0 rfl rfl rfl rfl rfl rfl)).trans (pst_blk ((wM cA y E (S 0) (T 0) 0 b) ++ (wS cA S y a q)) [] (wc := (wS cA T y d qd)) (w1 := (wS cA T y (minA b d) u9)) (w2 := ((wM cA y E (S 0) (T 0) 0 b) ++ ((wS cA S y a q) ++ (wS cA T y (minA b d) u9)))) 11 15 rfl rfl rfl rfl rfl rfl)))) (SX.blind z1 z2 _) (fun U hU hW => hXs.at hS (va_free (wc := ((wM cA y E (S 0) (T 0) 0 b) ++ (wS cA T y d qd))) hD hS hA [0, 1, 2, 3, 15, 16, 17, 18, 19, 20, 21, 22, 23, 24, 25] rfl) hU hW) 15 4 rfl rfl rfl hl.1 rfl rfl (Nat.le_of_ble_eq_true rfl) dX5_burns_56 ⟨Nat.zero_le _, Nat.zero_le _⟩ (fun u9 H locs h_8 hP hD hS => ?_)
              refine lv_iinc (v := nI (m + 1)) (lv' := [(2, .int (nI (m + 1))), (0, .ref y), (1, .int (nI kn))]) hx hb dX5_burns_59 hl (k := 0) rfl (nI_add m 1) (by decide) rfl (fun ls hl => ?_)
              refine lv_goto (tgt := 32) hx hb dX5_burns_62 (by decide) ?_
              have hcg := burns_go (b := b) (k := kn) (f := 61 - (m + 1)) (m := m) (a := d) c47
              rw [show 61 - (m + 1) + 1 = 61 - m by omega, hrr] at hcg
              exact ih32 (m + 1) (minA b d) u9 (by omega) (hcg.symm) (k1) (by rw [k2]; exact hkd) (by omega) H locs hP hD hS ls (lv_sub hl [0, 1, 2] rfl)
            · skip
              have c47 := bi_0.mp c47
              refine lv_iload_n hx hb dX5_burns_50 rfl (lv_at hl 0 rfl) ?_
              have ecd : cdLan a (nI kn) = 0 := by unfold cdLan; rw [if_neg (by simp [c10])]
              have ec : nI (cdLan a (nI kn)) = 0 := by rw [ecd]; rfl
              have hP : va_P D vwCl ((wM cA y E (S 0) (T 0) (nI (cdLan a (nI kn))) b) ++ ((wS cA S y a q) ++ (wS cA T y ((d, qd).1) ((d, qd).2)))) H := by rw [ec]; exact hP
              rw [hQQ]
              exact W.iret (v := nI m) hx hb hr (fun t ht hW => ⟨⟨nI m, (d, qd), rfl, ⟨fun _ => by rw [nI_clamp (by omega), ← hrr, show 61 - m = (60 - m) + 1 by omega, burns_at c47], fun h9 => absurd ecd h9⟩, by show va_P _ _ _ t.heap; rw [ht]; exact hP⟩, hS.F ht⟩) hS.2.2 dX5_burns_51
      exact L32 62 0 a q2 (by decide) (rfl) (hw1) (hkn) (by omega) H locs hP hD hS ls (lv_sub hl [0, 1, 2] rfl)
    · skip
      have c10 := bi_0.mp c10
      refine lv_aload_n hx hb dX5_burns_13 rfl (lv_at hl 0 rfl) ?_
      refine lv_iconst (v := 1) hx hb dX5_burns_14 (by decide) ?_
      refine cVi (wB := fun (u_10 : Unit) => ((wM cA y E (S 0) (T 0) 1 b) ++ ((wS cA S y a q) ++ (wS cA T y a2 q2)))) (As := [.int 1]) (rest := []) (wc := ((wM cA y E (S 0) (T 0) 0 b) ++ ((wS cA S y a q) ++ (wS cA T y a2 q2)))) ⟨hx, hb, hml, hown, hts⟩ (K_X5_no lch D cA y E S T 0 b a q a2 q2 1 H.size ) (cwV 1 hts gX5_burns_X5_no rfl rfl rfl (by decide +kernel) ⟨Nat.le_of_ble_eq_true rfl, Nat.le_of_ble_eq_true rfl⟩) hE hP hD hS hA [0, 1, 2, 3, 4, 5, 6, 7, 8, 9, 10, 11, 12, 13, 14, 15, 16, 17, 18, 19, 20, 21, 22, 23, 24, 25] rfl rfl [y, E 0, E 1, E 2, S 0, S 1, S 2, S 3, S 4, S 5, S 6, S 7, S 8, S 9, S 10, T 0, T 1, T 2, T 3, T 4, T 5, T 6, T 7, T 8, T 9, T 10] (fun _ => rfl) rfl (fun (u_10 : Unit) => ((wM cA y E (S 0) (T 0) 1 b) ++ ((wS cA S y a q) ++ (wS cA T y a2 q2)))) (fun _ => pst_all 26 rfl rfl rfl) X0.blind (fun _ _ _ => trivial) 0 5 rfl rfl rfl hl.1 rfl rfl (Nat.le_of_ble_eq_true rfl) dX5_burns_15 ⟨Nat.zero_le _, Nat.zero_le _⟩ (fun r_9 u_10 H locs h_11 hP hD hS => ?_)
      subst h_11
      have ecd : cdLan a k = 1 := by unfold cdLan; rw [if_pos c10]
      have ec : nI (cdLan a k) = 1 := by rw [ecd]; rfl
      have hP : va_P D vwCl ((wM cA y E (S 0) (T 0) (nI (cdLan a k)) b) ++ ((wS cA S y a q) ++ (wS cA T y ((a2, q2).1) ((a2, q2).2)))) H := by rw [ec]; exact hP
      rw [hQQ]
      exact W.iret (v := 0) hx hb hr (fun t ht hW => ⟨⟨0, (a2, q2), rfl, ⟨fun h9 => absurd (ecd.symm.trans h9) (by decide), fun _ => rfl⟩, by show va_P _ _ _ t.heap; rw [ht]; exact hP⟩, hS.F ht⟩) hS.2.2 dX5_burns_18
  rw [hg1, hg2] at hgoal
  exact hgoal
