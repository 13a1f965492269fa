set_option maxHeartbeats 4000000 in
set_option maxRecDepth 100000 in
/-- foresee -/
theorem K_X5_foresee (lch : Launch) (D : va_G) (cA : ClassId) (y : Nat) (E : Nat → Nat) (S : Nat → Nat) (T : Nat → Nat) (th : Int32) (b : BSt) (a : FSt) (q : Nat → Int32) (a2 : FSt) (q2 : Nat → Int32) (z1 : Nat) (z2 : Nat) (m : Int32) (w : Int32) (sz : Nat) (hw1 : WFa a) (hwb : WFb b) : Met lch yX5_foresee wsX5_foresee ({ frames := 4, cells := 1, slots := 10, locals := 92 }) (Pr D cA [.ref y, .int m, .int w] sz ((wM cA y E (S 0) (T 0) th b) ++ ((wS cA S y a q) ++ (wS cA T y a2 q2))) (SX z1 z2 (va_A ((wM cA y E (S 0) (T 0) th b) ++ ((wS cA S y a q) ++ (wS cA T y a2 q2))) sz))) (va_Qi (fun (r : Int32) (u : FSt × (Nat → Int32)) => (cdForesee m w = 0 → r = tallyA (minsA b (m).toNatClampNeg a) (w).toNatClampNeg) ∧ (¬ cdForesee m w = 0 → r = 0)) (fun (u : FSt × (Nat → Int32)) t => va_P D vwCl ((wM cA y E (S 0) (T 0) (nI (cdForesee m w)) b) ++ ((wS cA S y a q) ++ (wS cA T y u.1 u.2))) t.heap) (va_A ((wM cA y E (S 0) (T 0) th b) ++ ((wS cA S y a q) ++ (wS cA T y a2 q2))) sz)) 1 10 (va_A ((wM cA y E (S 0) (T 0) th b) ++ ((wS cA S y a q) ++ (wS cA T y a2 q2))) sz) := by
  refine Met.ofW (cc := cX5_foresee) (maxL := 4) (ret := (some .int)) (by decide) rfl ?_
  intro pg ev s mi args below meth cd s₁ B hml hv
  obtain ⟨hav, hsz, hP, hE, hD, hXs⟩ := hv
  have hx := B.exec
  have hb := B.bytes
  have hr := B.returns
  have hts := atoms_spec (ws := wsX5_foresee) B.pre
  have hown : s.vm.findClass RX5 = some mi.cls := findClass_of_methodNamed B.named
  have hlocks := B.notSynchronized
  clear B
  subst hav
  subst hsz
  have hD := hD.self (sz := s.heap.size)
  generalize hAe : va_A ((wM cA y E (S 0) (T 0) th b) ++ ((wS cA S y a q) ++ (wS cA T y a2 q2))) s.heap.size = A at hD hXs ⊢
  have hA : ∀ q : Nat, s.heap.size ≤ q → A q := fun q h => by rw [← hAe]; exact Or.inr h
  have hS : va_S A s.heap s.heap [] := va_S.rf
  obtain ⟨QQ, hQQ⟩ : ∃ qq9, qq9 = MQ below (va_Qi (fun (r : Int32) (u : FSt × (Nat → Int32)) => (cdForesee m w = 0 → r = tallyA (minsA b (m).toNatClampNeg a) (w).toNatClampNeg) ∧ (¬ cdForesee m w = 0 → r = 0)) (fun (u : FSt × (Nat → Int32)) t => va_P D vwCl ((wM cA y E (S 0) (T 0) (nI (cdForesee m w)) b) ++ ((wS cA S y a q) ++ (wS cA T y u.1 u.2))) t.heap) A) ([.ref y, .int m, .int w] : List Value).toArray s 1 10 A := ⟨_, rfl⟩
  rw [← hQQ]
  have hl := lv_entry ([.ref y, .int m, .int w]) (n := 4) (Nat.le_of_ble_eq_true rfl)
  rw [lg_entry_eq]
  generalize (lg_sl ([.ref y, .int m, .int w]) ++ List.replicate (4 - (lg_sl ([.ref y, .int m, .int w])).length) Slot.unset).toArray = ls at hl ⊢
  have hl : lv_has ls 4 [(0, .ref y), (1, .int m), (2, .int w)] := hl
  have kf31 := hts (.fieldLink RX5 31 "LanternWeirsModel" "thrown" "I") (by decide +kernel)
  have inX5 : ∀ w ∈ u_ws RX5 TX5 8, w ∈ wsX5_foresee := by decide +kernel
  have kf28 := hts (.fieldLink RX5 28 "LanternWeirsModel" "ahead" "LLanternWeirsModel$State;") (by decide +kernel)
  have kf24 := hts (.fieldLink RX5 24 "LanternWeirsModel" "s" "LLanternWeirsModel$State;") (by decide +kernel)
  obtain ⟨H, locs, hP, hS, hgo⟩ : ∃ H locs, va_P D vwCl ((wM cA y E (S 0) (T 0) th b) ++ ((wS cA S y a q) ++ (wS cA T y a2 q2))) H ∧ va_S A s.heap H locs ∧ (H = s.heap ∧ locs = []) := ⟨_, _, hP, hS, rfl, rfl⟩
  obtain ⟨hg1, hg2⟩ := hgo
  have hgoal : W pg lch ev (headSpec wsX5_foresee ({ frames := 4, cells := 1, slots := 10, locals := 92 })).room s mi ([.ref y, .int m, .int w] : List Value).toArray below meth cd H locs 0 0 QQ (F0 mi 0 ls []) := by
    have hn := hw1.1
    refine lv_aload_n hx hb dX5_foresee_0 rfl (lv_at hl 0 rfl) ?_
    refine lv_iconst (v := 0) hx hb dX5_foresee_1 (by decide) ?_
    refine va_put (D := D) (ci := 5) (v := .int 0) (ty := .int) (C := RX5) (T := TX5) (N := 8) hx hb hts inX5 tyX5 tyX5_ok nmX5 hown hE.1 hP hD hS 0 rfl rfl 0 (by decide) kf31 (fun _ h9 => h9) rfl (by decide +kernel) rfl rfl (Nat.le_of_ble_eq_true rfl) dX5_foresee_2 (fun H locs hP hD hS => ?_)
    have hP : va_P D vwCl ((wM cA y E (S 0) (T 0) 0 b) ++ ((wS cA S y a q) ++ (wS cA T y a2 q2))) H := hP
    have hD : va_D A ((wM cA y E (S 0) (T 0) 0 b) ++ ((wS cA S y a q) ++ (wS cA T y a2 q2))) := hD
    refine lv_iload_n hx hb dX5_foresee_5 rfl (lv_at hl 1 rfl) ?_
    refine lv_iconst (v := 1) hx hb dX5_foresee_6 (by decide) ?_
    refine lv_bipush (v := 90) hx hb dX5_foresee_7 (by decide) ?_
    refine pSi (As := [.int m, .int 1, .int 90]) (rest := []) (wc := ([] : va_W)) ⟨hx, hb, hml, hown, hts⟩ (K_X5_isIn lch D cA m 1 90 H.size ) (cwS 3 hts gX5_foresee_X5_isIn rfl rfl rfl (by decide +kernel) ⟨Nat.le_of_ble_eq_true rfl, Nat.le_of_ble_eq_true rfl⟩) hE hP hD hS hA [] rfl rfl X0.blind (fun _ _ _ => trivial) hl.1 rfl rfl (Nat.le_of_ble_eq_true rfl) dX5_foresee_9 ⟨Nat.zero_le _, Nat.zero_le _⟩ (fun r_1 u_2 H locs h_3 hP hS => ?_)
    subst h_3
    refine lv_if_ne (tgt := 21) hx hb dX5_foresee_12 (by decide) (fun c12 => ?_) (fun c12 => ?_)
    · skip
      have c12 := bi_1.mp c12
      refine lv_iload_n hx hb dX5_foresee_21 rfl (lv_at hl 2 rfl) ?_
      refine lv_iconst (v := 2) hx hb dX5_foresee_22 (by decide) ?_
      refine lv_bipush (v := 6) hx hb dX5_foresee_23 (by decide) ?_
      refine pSi (As := [.int w, .int 2, .int 6]) (rest := []) (wc := ([] : va_W)) ⟨hx, hb, hml, hown, hts⟩ (K_X5_isIn lch D cA w 2 6 H.size ) (cwS 3 hts gX5_foresee_X5_isIn rfl rfl rfl (by decide +kernel) ⟨Nat.le_of_ble_eq_true rfl, Nat.le_of_ble_eq_true rfl⟩) hE hP hD hS hA [] rfl rfl X0.blind (fun _ _ _ => trivial) hl.1 rfl rfl (Nat.le_of_ble_eq_true rfl) dX5_foresee_25 ⟨Nat.zero_le _, Nat.zero_le _⟩ (fun r_4 u_5 H locs h_6 hP hS => ?_)
      subst h_6
      refine lv_if_ne (tgt := 43) hx hb dX5_foresee_28 (by decide) (fun c28 => ?_) (fun c28 => ?_)
      · skip
        have c28 := bi_1.mp c28
        obtain ⟨mn, hm9, em⟩ := isW_nat (n := 90) (isW_0 c12) (by decide)
        subst em
        obtain ⟨wn, hw9, ew⟩ := isW_nat (n := 6) (isW_02 c28) (by decide)
        subst ew
        have hw26 := isW_2 c28 (by omega)
        have hwx : wn = 2 ∨ wn = 3 ∨ wn = 4 ∨ wn = 5 ∨ wn = 6 ∨ wn = 9 := by omega
        have hok : cdForesee (nI mn) (nI wn) = 0 := by unfold cdForesee; rw [if_neg (by simp [c12]), if_neg (fun q => absurd q.1 (by simp [c28]))]
        refine lv_aload_n hx hb dX5_foresee_43 rfl (lv_at hl 0 rfl) ?_
        refine va_get (D := D) (ci := 5) (v := .ref (T 0)) (C := RX5) (T := TX5) (N := 8) hx hb hts inX5 hown hE.1 hP 0 rfl rfl 7 (by decide) kf28 (fun _ h9 => h9) rfl dX5_foresee_44 ?_
        refine lv_aload_n hx hb dX5_foresee_47 rfl (lv_at hl 0 rfl) ?_
        refine va_get (D := D) (ci := 5) (v := .ref (S 0)) (C := RX5) (T := TX5) (N := 8) hx hb hts inX5 hown hE.1 hP 0 rfl rfl 6 (by decide) kf24 (fun _ h9 => h9) rfl dX5_foresee_48 ?_
        refine cVv (wB := fun (u_8 : Unit) => ((wS cA T y a q2) ++ (wS cA S y a q))) (As := [.ref (S 0)]) (rest := []) (wc := ((wS cA T y a2 q2) ++ (wS cA S y a q))) ⟨hx, hb, hml, hown, hts⟩ (K_X4_become lch D cA T S y a2 q2 a q H.size ) (cwV 1 hts gX5_foresee_X4_become rfl rfl rfl (by decide +kernel) ⟨Nat.le_of_ble_eq_true rfl, Nat.le_of_ble_eq_true rfl⟩) hE hP hD hS hA [15, 16, 17, 18, 19, 20, 21, 22, 23, 24, 25, 4, 5, 6, 7, 8, 9, 10, 11, 12, 13, 14] rfl rfl [T 0, T 1, T 2, T 3, T 4, T 5, T 6, T 7, T 8, T 9, T 10, S 0, S 1, S 2, S 3, S 4, S 5, S 6, S 7, S 8, S 9, S 10] (fun _ => rfl) rfl (fun (u_8 : Unit) => ((wM cA y E (S 0) (T 0) 0 b) ++ ((wS cA S y a q) ++ (wS cA T y a q2)))) (fun u_8 => ((pst_app 11 (ps1 := [15, 16, 17, 18, 19, 20, 21, 22, 23, 24, 25]) (ps2 := [4, 5, 6, 7, 8, 9, 10, 11, 12, 13, 14]) (w1 := (wS cA T y a q2)) (w2 := (wS cA S y a q)) rfl rfl rfl).trans ((congrArg (fun z => pst z [4, 5, 6, 7, 8, 9, 10, 11, 12, 13, 14] (wS cA S y a q)) (pst_blk ((wM cA y E (S 0) (T 0) 0 b) ++ (wS cA S y a q)) [] (wc := (wS cA T y a2 q2)) (w1 := (wS cA T y a q2)) (w2 := ((wM cA y E (S 0) (T 0) 0 b) ++ ((wS cA S y a q) ++ (wS cA T y a q2)))) 11 15 rfl rfl rfl rfl rfl rfl)).trans (pst_blk (wM cA y E (S 0) (T 0) 0 b) (wS cA T y a q2) (wc := (wS cA S y a q)) (w1 := (wS cA S y a q)) (w2 := ((wM cA y E (S 0) (T 0) 0 b) ++ ((wS cA S y a q) ++ (wS cA T y a q2)))) 11 4 rfl rfl rfl rfl rfl rfl)))) X0.blind (fun _ _ _ => trivial) 15 4 rfl rfl rfl hl.1 rfl rfl (Nat.le_of_ble_eq_true rfl) dX5_foresee_51 ⟨Nat.zero_le _, Nat.zero_le _⟩ (fun u_8 H locs h_9 hP hD hS => ?_)
        refine lv_iconst (v := 0) hx hb dX5_foresee_54 (by decide) ?_
        refine lv_istore_n (lv' := [(3, .int 0), (0, .ref y), (1, .int (nI mn)), (2, .int (nI wn))]) hx hb dX5_foresee_55 rfl hl (by decide) rfl (fun ls hl => ?_)
        have L56 : ∀ (fu56 : Nat) (t : Nat) (qd : Nat → Int32), (t ≤ mn) → mn - t < fu56 → ∀ (H : Heap) (locs : List Loc), va_P D vwCl ((wM cA y E (S 0) (T 0) 0 b) ++ ((wS cA S y a q) ++ (wS cA T y (minsA b t a) qd))) H → va_D A ((wM cA y E (S 0) (T 0) 0 b) ++ ((wS cA S y a q) ++ (wS cA T y (minsA b t a) qd))) → va_S A s.heap H locs → ∀ ls : Array Slot, lv_has ls 4 [(3, .int (nI t)), (2, .int (nI wn)), (0, .ref y), (1, .int (nI mn))] → W pg lch ev (headSpec wsX5_foresee ({ frames := 4, cells := 1, slots := 10, locals := 92 })).room s mi ([.ref y, .int (nI mn), .int (nI wn)] : List Value).toArray below meth cd H locs 0 0 QQ (F0 mi 56 ls []) := by
          intro fu56
          induction fu56 with
          | zero => intro t qd ht hms; exact absurd hms (Nat.not_lt_zero _)
          | succ fu56 ih56 =>
            intro t qd ht hms56 H locs hP hD hS ls hl
            have hkt := (mins_keep (b := b) hw1 t).1
            refine lv_iload_n hx hb dX5_foresee_56 rfl (lv_at hl 0 rfl) ?_
            refine lv_iload_n hx hb dX5_foresee_57 rfl (lv_at hl 3 rfl) ?_
            refine lv_icmp_ge (tgt := 74) hx hb dX5_foresee_58 (by decide) (fun c58 => ?_) (fun c58 => ?_)
            · skip
              have c58 := (nI_leI (a := mn) (b := t) (by omega) (by omega)).mp c58
              have et : t = mn := by omega
              rw [et] at hP hD
              refine lv_aload_n hx hb dX5_foresee_74 rfl (lv_at hl 2 rfl) ?_
              refine va_get (D := D) (ci := 5) (v := .ref (T 0)) (C := RX5) (T := TX5) (N := 8) hx hb hts inX5 hown hE.1 hP 0 rfl rfl 7 (by decide) kf28 (fun _ h9 => h9) rfl dX5_foresee_75 ?_
              refine lv_iload_n hx hb dX5_foresee_78 rfl (lv_at hl 1 rfl) ?_
              have hwz := (mins_keep (b := b) hw1 mn).1
              refine cVi (wB := fun (u_11 : Unit) => ((wM cA y E (S 0) (T 0) 0 b) ++ (wS cA T y (minsA b mn a) qd))) (As := [.int (nI wn)]) (rest := []) (wc := ((wM cA y E (S 0) (T 0) 0 b) ++ (wS cA T y (minsA b mn a) qd))) ⟨hx, hb, hml, hown, hts⟩ (K_X4_counted lch D cA T y (minsA b mn a) qd E (S 0) (T 0) 0 b 0 0 wn H.size (hwz) (by omega)) (cwV 1 hts gX5_foresee_X4_counted rfl rfl rfl (by decide +kernel) ⟨Nat.le_of_ble_eq_true rfl, Nat.le_of_ble_eq_true rfl⟩) hE hP hD hS hA [0, 1, 2, 3, 15, 16, 17, 18, 19, 20, 21, 22, 23, 24, 25] rfl rfl [y, E 0, E 1, E 2, T 0, T 1, T 2, T 3, T 4, T 5, T 6, T 7, T 8, T 9, T 10] (fun _ => rfl) rfl (fun (u_11 : Unit) => ((wM cA y E (S 0) (T 0) 0 b) ++ ((wS cA S y a q) ++ (wS cA T y (minsA b mn a) qd)))) (fun u_11 => ((pst_app 4 (ps1 := [0, 1, 2, 3]) (ps2 := [15, 16, 17, 18, 19, 20, 21, 22, 23, 24, 25]) (w1 := (wM cA y E (S 0) (T 0) 0 b)) (w2 := (wS cA T y (minsA b mn a) qd)) rfl rfl rfl).trans ((congrArg (fun z => pst z [15, 16, 17, 18, 19, 20, 21, 22, 23, 24, 25] (wS cA T y (minsA b mn a) qd)) (pst_blk [] ((wS cA S y a q) ++ (wS cA T y (minsA b mn a) qd)) (wc := (wM cA y E (S 0) (T 0) 0 b)) (w1 := (wM cA y E (S 0) (T 0) 0 b)) (w2 := ((wM cA y E (S 0) (T 0) 0 b) ++ ((wS cA S y a q) ++ (wS cA T y (minsA b mn a) qd)))) 4 0 rfl rfl rfl rfl rfl rfl)).trans (pst_blk ((wM cA y E (S 0) (T 0) 0 b) ++ (wS cA S y a q)) [] (wc := (wS cA T y (minsA b mn a) qd)) (w1 := (wS cA T y (minsA b mn a) qd)) (w2 := ((wM cA y E (S 0) (T 0) 0 b) ++ ((wS cA S y a q) ++ (wS cA T y (minsA b mn a) qd)))) 11 15 rfl rfl rfl rfl rfl rfl)))) X0.blind (fun _ _ _ => trivial) 15 4 rfl rfl rfl hl.1 rfl rfl (Nat.le_of_ble_eq_true rfl) dX5_foresee_79 ⟨Nat.le_of_ble_eq_true rfl, Nat.le_of_ble_eq_true rfl⟩ (fun r_10 u_11 H locs h_12 hP hD hS => ?_)
              subst h_12
              have ecd : cdForesee (nI mn) (nI wn) = 0 := hok
              have ec : nI (cdForesee (nI mn) (nI wn)) = 0 := by rw [ecd]; rfl
              have hP : va_P D vwCl ((wM cA y E (S 0) (T 0) (nI (cdForesee (nI mn) (nI wn))) b) ++ ((wS cA S y a q) ++ (wS cA T y ((minsA b mn a, qd).1) ((minsA b mn a, qd).2)))) H := by rw [ec]; exact hP
              rw [hQQ]
              exact W.iret (v := countA (minsA b mn a) b wn) hx hb hr (fun t ht hW => ⟨⟨countA (minsA b mn a) b wn, (minsA b mn a, qd), rfl, ⟨fun _ => by rw [nI_clamp (by omega), nI_clamp (by omega)]; rcases hwx with h | h | h | h | h | h <;> rw [h] <;> rfl, fun h9 => absurd ecd h9⟩, by show va_P _ _ _ t.heap; rw [ht]; exact hP⟩, hS.F ht⟩) hS.2.2 dX5_foresee_82
            · skip
              have c58 := (not_congr (nI_leI (a := mn) (b := t) (by omega) (by omega))).mp c58
              refine lv_aload_n hx hb dX5_foresee_61 rfl (lv_at hl 2 rfl) ?_
              refine va_get (D := D) (ci := 5) (v := .ref (T 0)) (C := RX5) (T := TX5) (N := 8) hx hb hts inX5 hown hE.1 hP 0 rfl rfl 7 (by decide) kf28 (fun _ h9 => h9) rfl dX5_foresee_62 ?_
              refine cVv (wB := fun (u9 : Nat → Int32) => ((wM cA y E (S 0) (T 0) 0 b) ++ (wS cA T y (minA b (minsA b t a)) u9))) (As := []) (rest := []) (wc := ((wM cA y E (S 0) (T 0) 0 b) ++ (wS cA T y (minsA b t a) qd))) ⟨hx, hb, hml, hown, hts⟩ (K_X4_pass_ lch D cA T y (minsA b t a) qd E (S 0) (T 0) 0 b z1 z2 H.size (hkt) (hwb)) (cwV 0 hts gX5_foresee_X4_pass_ rfl rfl rfl (by decide +kernel) ⟨Nat.le_of_ble_eq_true rfl, Nat.le_of_ble_eq_true rfl⟩) hE hP hD hS hA [0, 1, 2, 3, 15, 16, 17, 18, 19, 20, 21, 22, 23, 24, 25] rfl rfl [y, E 0, E 1, E 2, T 0, T 1, T 2, T 3, T 4, T 5, T 6, T 7, T 8, T 9, T 10] (fun _ => rfl) rfl (fun (u9 : Nat → Int32) => ((wM cA y E (S 0) (T 0) 0 b) ++ ((wS cA S y a q) ++ (wS cA T y (minA b (minsA b t a)) u9)))) (fun u9 => ((pst_app 4 (ps1 := [0, 1, 2, 3]) (ps2 := [15, 16, 17, 18, 19, 20, 21, 22, 23, 24, 25]) (w1 := (wM cA y E (S 0) (T 0) 0 b)) (w2 := (wS cA T y (minA b (minsA b t a)) u9)) rfl rfl rfl).trans ((congrArg (fun z => pst z [15, 16, 17, 18, 19, 20, 21, 22, 23, 24, 25] (wS cA T y (minA b (minsA b t a)) u9)) (pst_blk [] ((wS cA S y a q) ++ (wS cA T y (minsA b t a) qd)) (wc := (wM cA y E (S 0) (T 0) 0 b)) (w1 := (wM cA y E (S 0) (T 0) 0 b)) (w2 := ((wM cA y E (S 0) (T 0) 0 b) ++ ((wS cA S y a q) ++ (wS cA T y (minsA b t a) qd)))) 4 0 rfl rfl rfl rfl rfl rfl)).trans (pst_blk ((wM cA y E (S 0) (T 0) 0 b) ++ (wS cA S y a q)) [] (wc := (wS cA T y (minsA b t a) qd)) (w1 := (wS cA T y (minA b (minsA b t a)) u9)) (w2 := ((wM cA y E (S 0) (T 0) 0 b) ++ ((wS cA S y a q) ++ (wS cA T y (minA b (minsA b t a)) u9)))) 11 15 rfl rfl rfl rfl rfl rfl)))) (SX.blind z1 z2 _) (fun U hU hW => hXs.at hS (va_free (wc := ((wM cA y E (S 0) (T 0) 0 b) ++ (wS cA T y (minsA b t a) qd))) hD hS hA [0, 1, 2, 3, 15, 16, 17, 18, 19, 20, 21, 22, 23, 24, 25] rfl) hU hW) 15 4 rfl rfl rfl hl.1 rfl rfl (Nat.le_of_ble_eq_true rfl) dX5_foresee_65 ⟨Nat.zero_le _, Nat.zero_le _⟩ (fun u9 H locs h_14 hP hD hS => ?_)
              refine lv_iinc (v := nI (t + 1)) (lv' := [(3, .int (nI (t + 1))), (2, .int (nI wn)), (0, .ref y), (1, .int (nI mn))]) hx hb dX5_foresee_68 hl (k := 0) rfl (nI_add t 1) (by decide) rfl (fun ls hl => ?_)
              refine lv_goto (tgt := 56) hx hb dX5_foresee_71 (by decide) ?_
              have e9 : minsA b (t + 1) a = minA b (minsA b t a) := rfl
              have hP : va_P D vwCl ((wM cA y E (S 0) (T 0) 0 b) ++ ((wS cA S y a q) ++ (wS cA T y (minsA b (t + 1) a) u9))) H := by rw [e9]; exact hP
              have hD : va_D A ((wM cA y E (S 0) (T 0) 0 b) ++ ((wS cA S y a q) ++ (wS cA T y (minsA b (t + 1) a) u9))) := by rw [e9]; exact hD
              exact ih56 (t + 1) u9 (by omega) (by omega) H locs hP hD hS ls (lv_sub hl [0, 1, 2, 3] rfl)
        exact L56 (mn + 1) 0 q2 (Nat.zero_le _) (by omega) H locs hP hD hS ls (lv_sub hl [0, 3, 1, 2] rfl)
      · skip
        have c28 := bi_0.mp c28
        refine lv_iload_n hx hb dX5_foresee_31 rfl (lv_at hl 2 rfl) ?_
        refine lv_bipush (v := 9) hx hb dX5_foresee_32 (by decide) ?_
        refine lv_icmp_eq (tgt := 43) hx hb dX5_foresee_34 (by decide) (fun c34 => ?_) (fun c34 => ?_)
        · skip
          obtain ⟨mn, hm9, em⟩ := isW_nat (n := 90) (isW_0 c12) (by decide)
          subst em
          obtain ⟨wn, ewn⟩ : ∃ k : Nat, k = 9 := ⟨9, rfl⟩
          have ew : w = nI wn := by rw [c34, ewn]; rfl
          subst ew
          have hwx : wn = 2 ∨ wn = 3 ∨ wn = 4 ∨ wn = 5 ∨ wn = 6 ∨ wn = 9 := by omega
          have hok : cdForesee (nI mn) (nI wn) = 0 := by unfold cdForesee; rw [if_neg (by simp [c12]), if_neg (fun q => q.2 c34)]
          refine lv_aload_n hx hb dX5_foresee_43 rfl (lv_at hl 0 rfl) ?_
          refine va_get (D := D) (ci := 5) (v := .ref (T 0)) (C := RX5) (T := TX5) (N := 8) hx hb hts inX5 hown hE.1 hP 0 rfl rfl 7 (by decide) kf28 (fun _ h9 => h9) rfl dX5_foresee_44 ?_
          refine lv_aload_n hx hb dX5_foresee_47 rfl (lv_at hl 0 rfl) ?_
          refine va_get (D := D) (ci := 5) (v := .ref (S 0)) (C := RX5) (T := TX5) (N := 8) hx hb hts inX5 hown hE.1 hP 0 rfl rfl 6 (by decide) kf24 (fun _ h9 => h9) rfl dX5_foresee_48 ?_
          refine cVv (wB := fun (u_16 : Unit) => ((wS cA T y a q2) ++ (wS cA S y a q))) (As := [.ref (S 0)]) (rest := []) (wc := ((wS cA T y a2 q2) ++ (wS cA S y a q))) ⟨hx, hb, hml, hown, hts⟩ (K_X4_become lch D cA T S y a2 q2 a q H.size ) (cwV 1 hts gX5_foresee_X4_become rfl rfl rfl (by decide +kernel) ⟨Nat.le_of_ble_eq_true rfl, Nat.le_of_ble_eq_true rfl⟩) hE hP hD hS hA [15, 16, 17, 18, 19, 20, 21, 22, 23, 24, 25, 4, 5, 6, 7, 8, 9, 10, 11, 12, 13, 14] rfl rfl [T 0, T 1, T 2, T 3, T 4, T 5, T 6, T 7, T 8, T 9, T 10, S 0, S 1, S 2, S 3, S 4, S 5, S 6, S 7, S 8, S 9, S 10] (fun _ => rfl) rfl (fun (u_16 : Unit) => ((wM cA y E (S 0) (T 0) 0 b) ++ ((wS cA S y a q) ++ (wS cA T y a q2)))) (fun u_16 => ((pst_app 11 (ps1 := [15, 16, 17, 18, 19, 20, 21, 22, 23, 24, 25]) (ps2 := [4, 5, 6, 7, 8, 9, 10, 11, 12, 13, 14]) (w1 := (wS cA T y a q2)) (w2 := (wS cA S y a q)) rfl rfl rfl).trans ((congrArg (fun z => pst z [4, 5, 6, 7, 8, 9, 10, 11, 12, 13, 14] (wS cA S y a q)) (pst_blk ((wM cA y E (S 0) (T 0) 0 b) ++ (wS cA S y a q)) [] (wc := (wS cA T y a2 q2)) (w1 := (wS cA T y a q2)) (w2 := ((wM cA y E (S 0) (T 0) 0 b) ++ ((wS cA S y a q) ++ (wS cA T y a q2)))) 11 15 rfl rfl rfl rfl rfl rfl)).trans (pst_blk (wM cA y E (S 0) (T 0) 0 b) (wS cA T y a q2) (wc := (wS cA S y a q)) (w1 := (wS cA S y a q)) (w2 := ((wM cA y E (S 0) (T 0) 0 b) ++ ((wS cA S y a q) ++ (wS cA T y a q2)))) 11 4 rfl rfl rfl rfl rfl rfl)))) X0.blind (fun _ _ _ => trivial) 15 4 rfl rfl rfl hl.1 rfl rfl (Nat.le_of_ble_eq_true rfl) dX5_foresee_51 ⟨Nat.zero_le _, Nat.zero_le _⟩ (fun u_16 H locs h_17 hP hD hS => ?_)
          refine lv_iconst (v := 0) hx hb dX5_foresee_54 (by decide) ?_
          refine lv_istore_n (lv' := [(3, .int 0), (0, .ref y), (1, .int (nI mn)), (2, .int (nI wn))]) hx hb dX5_foresee_55 rfl hl (by decide) rfl (fun ls hl => ?_)
          have L56 : ∀ (fu56 : Nat) (t : Nat) (qd : Nat → Int32), (t ≤ mn) → mn - t < fu56 → ∀ (H : Heap) (locs : List Loc), va_P D vwCl ((wM cA y E (S 0) (T 0) 0 b) ++ ((wS cA S y a q) ++ (wS cA T y (minsA b t a) qd))) H → va_D A ((wM cA y E (S 0) (T 0) 0 b) ++ ((wS cA S y a q) ++ (wS cA T y (minsA b t a) qd))) → va_S A s.heap H locs → ∀ ls : Array Slot, lv_has ls 4 [(3, .int (nI t)), (2, .int (nI wn)), (0, .ref y), (1, .int (nI mn))] → W pg lch ev (headSpec wsX5_foresee ({ frames := 4, cells := 1, slots := 10, locals := 92 })).room s mi ([.ref y, .int (nI mn), .int (nI wn)] : List Value).toArray below meth cd H locs 0 0 QQ (F0 mi 56 ls []) := by
            intro fu56
            induction fu56 with
            | zero => intro t qd ht hms; exact absurd hms (Nat.not_lt_zero _)
            | succ fu56 ih56 =>
              intro t qd ht hms56 H locs hP hD hS ls hl
              have hkt := (mins_keep (b := b) hw1 t).1
              refine lv_iload_n hx hb dX5_foresee_56 rfl (lv_at hl 0 rfl) ?_
              refine lv_iload_n hx hb dX5_foresee_57 rfl (lv_at hl 3 rfl) ?_
              refine lv_icmp_ge (tgt := 74) hx hb dX5_foresee_58 (by decide) (fun c58 => ?_) (fun c58 => ?_)
              · skip
                have c58 := (nI_leI (a := mn) (b := t) (by omega) (by omega)).mp c58
                have et : t = mn := by omega
                rw [et] at hP hD
                refine lv_aload_n hx hb dX5_foresee_74 rfl (lv_at hl 2 rfl) ?_
                refine va_get (D := D) (ci := 5) (v := .ref (T 0)) (C := RX5) (T := TX5) (N := 8) hx hb hts inX5 hown hE.1 hP 0 rfl rfl 7 (by decide) kf28 (fun _ h9 => h9) rfl dX5_foresee_75 ?_
                refine lv_iload_n hx hb dX5_foresee_78 rfl (lv_at hl 1 rfl) ?_
                have hwz := (mins_keep (b := b) hw1 mn).1
                refine cVi (wB := fun (u_19 : Unit) => ((wM cA y E (S 0) (T 0) 0 b) ++ (wS cA T y (minsA b mn a) qd))) (As := [.int (nI wn)]) (rest := []) (wc := ((wM cA y E (S 0) (T 0) 0 b) ++ (wS cA T y (minsA b mn a) qd))) ⟨hx, hb, hml, hown, hts⟩ (K_X4_counted lch D cA T y (minsA b mn a) qd E (S 0) (T 0) 0 b 0 0 wn H.size (hwz) (by omega)) (cwV 1 hts gX5_foresee_X4_counted rfl rfl rfl (by decide +kernel) ⟨Nat.le_of_ble_eq_true rfl, Nat.le_of_ble_eq_true rfl⟩) hE hP hD hS hA [0, 1, 2, 3, 15, 16, 17, 18, 19, 20, 21, 22, 23, 24, 25] rfl rfl [y, E 0, E 1, E 2, T 0, T 1, T 2, T 3, T 4, T 5, T 6, T 7, T 8, T 9, T 10] (fun _ => rfl) rfl (fun (u_19 : Unit) => ((wM cA y E (S 0) (T 0) 0 b) ++ ((wS cA S y a q) ++ (wS cA T y (minsA b mn a) qd)))) (fun u_19 => ((pst_app 4 (ps1 := [0, 1, 2, 3]) (ps2 := [15, 16, 17, 18, 19, 20, 21, 22, 23, 24, 25]) (w1 := (wM cA y E (S 0) (T 0) 0 b)) (w2 := (wS cA T y (minsA b mn a) qd)) rfl rfl rfl).trans ((congrArg (fun z => pst z [15, 16, 17, 18, 19, 20, 21, 22, 23, 24, 25] (wS cA T y (minsA b mn a) qd)) (pst_blk [] ((wS cA S y a q) ++ (wS cA T y (minsA b mn a) qd)) (wc := (wM cA y E (S 0) (T 0) 0 b)) (w1 := (wM cA y E (S 0) (T 0) 0 b)) (w2 := ((wM cA y E (S 0) (T 0) 0 b) ++ ((wS cA S y a q) ++ (wS cA T y (minsA b mn a) qd)))) 4 0 rfl rfl rfl rfl rfl rfl)).trans (pst_blk ((wM cA y E (S 0) (T 0) 0 b) ++ (wS cA S y a q)) [] (wc := (wS cA T y (minsA b mn a) qd)) (w1 := (wS cA T y (minsA b mn a) qd)) (w2 := ((wM cA y E (S 0) (T 0) 0 b) ++ ((wS cA S y a q) ++ (wS cA T y (minsA b mn a) qd)))) 11 15 rfl rfl rfl rfl rfl rfl)))) X0.blind (fun _ _ _ => trivial) 15 4 rfl rfl rfl hl.1 rfl rfl (Nat.le_of_ble_eq_true rfl) dX5_foresee_79 ⟨Nat.le_of_ble_eq_true rfl, Nat.le_of_ble_eq_true rfl⟩ (fun r_18 u_19 H locs h_20 hP hD hS => ?_)
                subst h_20
                have ecd : cdForesee (nI mn) (nI wn) = 0 := hok
                have ec : nI (cdForesee (nI mn) (nI wn)) = 0 := by rw [ecd]; rfl
                have hP : va_P D vwCl ((wM cA y E (S 0) (T 0) (nI (cdForesee (nI mn) (nI wn))) b) ++ ((wS cA S y a q) ++ (wS cA T y ((minsA b mn a, qd).1) ((minsA b mn a, qd).2)))) H := by rw [ec]; exact hP
                rw [hQQ]
                exact W.iret (v := countA (minsA b mn a) b wn) hx hb hr (fun t ht hW => ⟨⟨countA (minsA b mn a) b wn, (minsA b mn a, qd), rfl, ⟨fun _ => by rw [nI_clamp (by omega), nI_clamp (by omega)]; rcases hwx with h | h | h | h | h | h <;> rw [h] <;> rfl, fun h9 => absurd ecd h9⟩, by show va_P _ _ _ t.heap; rw [ht]; exact hP⟩, hS.F ht⟩) hS.2.2 dX5_foresee_82
              · skip
                have c58 := (not_congr (nI_leI (a := mn) (b := t) (by omega) (by omega))).mp c58
                refine lv_aload_n hx hb dX5_foresee_61 rfl (lv_at hl 2 rfl) ?_
                refine va_get (D := D) (ci := 5) (v := .ref (T 0)) (C := RX5) (T := TX5) (N := 8) hx hb hts inX5 hown hE.1 hP 0 rfl rfl 7 (by decide) kf28 (fun _ h9 => h9) rfl dX5_foresee_62 ?_
                refine cVv (wB := fun (u9 : Nat → Int32) => ((wM cA y E (S 0) (T 0) 0 b) ++ (wS cA T y (minA b (minsA b t a)) u9))) (As := []) (rest := []) (wc := ((wM cA y E (S 0) (T 0) 0 b) ++ (wS cA T y (minsA b t a) qd))) ⟨hx, hb, hml, hown, hts⟩ (K_X4_pass_ lch D cA T y (minsA b t a) qd E (S 0) (T 0) 0 b z1 z2 H.size (hkt) (hwb)) (cwV 0 hts gX5_foresee_X4_pass_ rfl rfl rfl (by decide +kernel) ⟨Nat.le_of_ble_eq_true rfl, Nat.le_of_ble_eq_true rfl⟩) hE hP hD hS hA [0, 1, 2, 3, 15, 16, 17, 18, 19, 20, 21, 22, 23, 24, 25] rfl rfl [y, E 0, E 1, E 2, T 0, T 1, T 2, T 3, T 4, T 5, T 6, T 7, T 8, T 9, T 10] (fun _ => rfl) rfl (fun (u9 : Nat → Int32) => ((wM cA y E (S 0) (T 0) 0 b) ++ ((wS cA S y a q) ++ (wS cA T y (minA b (minsA b t a)) u9)))) (fun u9 => ((pst_app 4 (ps1 := [0, 1, 2, 3]) (ps2 := [15, 16, 17, 18, 19, 20, 21, 22, 23, 24, 25]) (w1 := (wM cA y E (S 0) (T 0) 0 b)) (w2 := (wS cA T y (minA b (minsA b t a)) u9)) rfl rfl rfl).trans ((congrArg (fun z => pst z [15, 16, 17, 18, 19, 20, 21, 22, 23, 24, 25] (wS cA T y (minA b (minsA b t a)) u9)) (pst_blk [] ((wS cA S y a q) ++ (wS cA T y (minsA b t a) qd)) (wc := (wM cA y E (S 0) (T 0) 0 b)) (w1 := (wM cA y E (S 0) (T 0) 0 b)) (w2 := ((wM cA y E (S 0) (T 0) 0 b) ++ ((wS cA S y a q) ++ (wS cA T y (minsA b t a) qd)))) 4 0 rfl rfl rfl rfl rfl rfl)).trans (pst_blk ((wM cA y E (S 0) (T 0) 0 b) ++ (wS cA S y a q)) [] (wc := (wS cA T y (minsA b t a) qd)) (w1 := (wS cA T y (minA b (minsA b t a)) u9)) (w2 := ((wM cA y E (S 0) (T 0) 0 b) ++ ((wS cA S y a q) ++ (wS cA T y (minA b (minsA b t a)) u9)))) 11 15 rfl rfl rfl rfl rfl rfl)))) (SX.blind z1 z2 _) (fun U hU hW => hXs.at hS (va_free (wc := ((wM cA y E (S 0) (T 0) 0 b) ++ (wS cA T y (minsA b t a) qd))) hD hS hA [0, 1, 2, 3, 15, 16, 17, 18, 19, 20, 21, 22, 23, 24, 25] rfl) hU hW) 15 4 rfl rfl rfl hl.1 rfl rfl (Nat.le_of_ble_eq_true rfl) dX5_foresee_65 ⟨Nat.zero_le _, Nat.zero_le _⟩ (fun u9 H locs h_22 hP hD hS => ?_)
                refine lv_iinc (v := nI (t + 1)) (lv' := [(3, .int (nI (t + 1))), (2, .int (nI wn)), (0, .ref y), (1, .int (nI mn))]) hx hb dX5_foresee_68 hl (k := 0) rfl (nI_add t 1) (by decide) rfl (fun ls hl => ?_)
                refine lv_goto (tgt := 56) hx hb dX5_foresee_71 (by decide) ?_
                have e9 : minsA b (t + 1) a = minA b (minsA b t a) := rfl
                have hP : va_P D vwCl ((wM cA y E (S 0) (T 0) 0 b) ++ ((wS cA S y a q) ++ (wS cA T y (minsA b (t + 1) a) u9))) H := by rw [e9]; exact hP
                have hD : va_D A ((wM cA y E (S 0) (T 0) 0 b) ++ ((wS cA S y a q) ++ (wS cA T y (minsA b (t + 1) a) u9))) := by rw [e9]; exact hD
                exact ih56 (t + 1) u9 (by omega) (by omega) H locs hP hD hS ls (lv_sub hl [0, 1, 2, 3] rfl)
          exact L56 (mn + 1) 0 q2 (Nat.zero_le _) (by omega) H locs hP hD hS ls (lv_sub hl [0, 3, 1, 2] rfl)
        · skip
          refine lv_aload_n hx hb dX5_foresee_37 rfl (lv_at hl 0 rfl) ?_
          refine lv_iconst (v := 2) hx hb dX5_foresee_38 (by decide) ?_
          refine cVi (wB := fun (u_24 : Unit) => ((wM cA y E (S 0) (T 0) 2 b) ++ ((wS cA S y a q) ++ (wS cA T y a2 q2)))) (As := [.int 2]) (rest := []) (wc := ((wM cA y E (S 0) (T 0) 0 b) ++ ((wS cA S y a q) ++ (wS cA T y a2 q2)))) ⟨hx, hb, hml, hown, hts⟩ (K_X5_no lch D cA y E S T 0 b a q a2 q2 2 H.size ) (cwV 1 hts gX5_foresee_X5_no rfl rfl rfl (by decide +kernel) ⟨Nat.le_of_ble_eq_true rfl, Nat.le_of_ble_eq_true rfl⟩) hE hP hD hS hA [0, 1, 2, 3, 4, 5, 6, 7, 8, 9, 10, 11, 12, 13, 14, 15, 16, 17, 18, 19, 20, 21, 22, 23, 24, 25] rfl rfl [y, E 0, E 1, E 2, S 0, S 1, S 2, S 3, S 4, S 5, S 6, S 7, S 8, S 9, S 10, T 0, T 1, T 2, T 3, T 4, T 5, T 6, T 7, T 8, T 9, T 10] (fun _ => rfl) rfl (fun (u_24 : Unit) => ((wM cA y E (S 0) (T 0) 2 b) ++ ((wS cA S y a q) ++ (wS cA T y a2 q2)))) (fun _ => pst_all 26 rfl rfl rfl) X0.blind (fun _ _ _ => trivial) 0 5 rfl rfl rfl hl.1 rfl rfl (Nat.le_of_ble_eq_true rfl) dX5_foresee_39 ⟨Nat.zero_le _, Nat.zero_le _⟩ (fun r_23 u_24 H locs h_25 hP hD hS => ?_)
          subst h_25
          refine W.widen (k := 1) (n := 10) (by first | exact Nat.le_of_ble_eq_true rfl | omega) (by first | exact Nat.le_of_ble_eq_true rfl | omega) ?_
          have ecd : cdForesee m w = 2 := by unfold cdForesee; rw [if_neg (by simp [c12]), if_pos ⟨c28, c34⟩]
          have ec : nI (cdForesee m w) = 2 := by rw [ecd]; rfl
          have hP : va_P D vwCl ((wM cA y E (S 0) (T 0) (nI (cdForesee m w)) b) ++ ((wS cA S y a q) ++ (wS cA T y ((a2, q2).1) ((a2, q2).2)))) H := by rw [ec]; exact hP
          rw [hQQ]
          exact W.iret (v := 0) hx hb hr (fun t ht hW => ⟨⟨0, (a2, q2), rfl, ⟨fun h9 => absurd (ecd.symm.trans h9) (by decide), fun _ => rfl⟩, by show va_P _ _ _ t.heap; rw [ht]; exact hP⟩, hS.F ht⟩) hS.2.2 dX5_foresee_42
    · skip
      have c12 := bi_0.mp c12
      refine lv_aload_n hx hb dX5_foresee_15 rfl (lv_at hl 0 rfl) ?_
      refine lv_iconst (v := 1) hx hb dX5_foresee_16 (by decide) ?_
      refine cVi (wB := fun (u_27 : Unit) => ((wM cA y E (S 0) (T 0) 1 b) ++ ((wS cA S y a q) ++ (wS cA T y a2 q2)))) (As := [.int 1]) (rest := []) (wc := ((wM cA y E (S 0) (T 0) 0 b) ++ ((wS cA S y a q) ++ (wS cA T y a2 q2)))) ⟨hx, hb, hml, hown, hts⟩ (K_X5_no lch D cA y E S T 0 b a q a2 q2 1 H.size ) (cwV 1 hts gX5_foresee_X5_no rfl rfl rfl (by decide +kernel) ⟨Nat.le_of_ble_eq_true rfl, Nat.le_of_ble_eq_true rfl⟩) hE hP hD hS hA [0, 1, 2, 3, 4, 5, 6, 7, 8, 9, 10, 11, 12, 13, 14, 15, 16, 17, 18, 19, 20, 21, 22, 23, 24, 25] rfl rfl [y, E 0, E 1, E 2, S 0, S 1, S 2, S 3, S 4, S 5, S 6, S 7, S 8, S 9, S 10, T 0, T 1, T 2, T 3, T 4, T 5, T 6, T 7, T 8, T 9, T 10] (fun _ => rfl) rfl (fun (u_27 : Unit) => ((wM cA y E (S 0) (T 0) 1 b) ++ ((wS cA S y a q) ++ (wS cA T y a2 q2)))) (fun _ => pst_all 26 rfl rfl rfl) X0.blind (fun _ _ _ => trivial) 0 5 rfl rfl rfl hl.1 rfl rfl (Nat.le_of_ble_eq_true rfl) dX5_foresee_17 ⟨Nat.zero_le _, Nat.zero_le _⟩ (fun r_26 u_27 H locs h_28 hP hD hS => ?_)
      subst h_28
      refine W.widen (k := 1) (n := 10) (by first | exact Nat.le_of_ble_eq_true rfl | omega) (by first | exact Nat.le_of_ble_eq_true rfl | omega) ?_
      have ecd : cdForesee m w = 1 := by unfold cdForesee; rw [if_pos c12]
      have ec : nI (cdForesee m w) = 1 := by rw [ecd]; rfl
      have hP : va_P D vwCl ((wM cA y E (S 0) (T 0) (nI (cdForesee m w)) b) ++ ((wS cA S y a q) ++ (wS cA T y ((a2, q2).1) ((a2, q2).2)))) H := by rw [ec]; exact hP
      rw [hQQ]
      exact W.iret (v := 0) hx hb hr (fun t ht hW => ⟨⟨0, (a2, q2), rfl, ⟨fun h9 => absurd (ecd.symm.trans h9) (by decide), fun _ => rfl⟩, by show va_P _ _ _ t.heap; rw [ht]; exact hP⟩, hS.F ht⟩) hS.2.2 dX5_foresee_20
  rw [hg1, hg2] at hgoal
  exact hgoal

set_option maxHeartbeats 4000000 in
set_option maxRecDepth 100000 in
/-- comes -/
theorem K_X5_comes (lch : Launch) (D : va_G) (cA : ClassId) (y : Nat) (E : Nat → Nat) (S : Nat → Nat) (T : Nat → Nat) (th : Int32) (b : BSt) (a : FSt) (q : Nat → Int32) (a2 : FSt) (q2 : Nat → Int32) (z1 : Nat) (z2 : Nat) (f : Nat) (l : Nat) (sz : Nat) (hw1 : WFa a) (hwb : WFb b) (hn40 : qN a ≤ 40) (hf : f < 3) (hl3 : l < 3) : Met lch yX5_comes wsX5_comes ({ frames := 4, cells := 0, slots := 0, locals := 92 }) (Pr D cA [.ref y, .int (nI f), .int (nI l)] sz ((wM cA y E (S 0) (T 0) th b) ++ ((wS cA S y a q) ++ (wS cA T y a2 q2))) (SX z1 z2 (va_A ((wM cA y E (S 0) (T 0) th b) ++ ((wS cA S y a q) ++ (wS cA T y a2 q2))) sz))) (va_Qi (fun (r : Int32) (u : FSt × (Nat → Int32)) => r = nI (comesA b a f l)) (fun (u : FSt × (Nat → Int32)) t => va_P D vwCl ((wM cA y E (S 0) (T 0) th b) ++ ((wS cA S y a q) ++ (wS cA T y u.1 u.2))) t.heap) (va_A ((wM cA y E (S 0) (T 0) th b) ++ ((wS cA S y a q) ++ (wS cA T y a2 q2))) sz)) 0 0 (va_A ((wM cA y E (S 0) (T 0) th b) ++ ((wS cA S y a q) ++ (wS cA T y a2 q2))) sz) := by
  refine Met.ofW (cc := cX5_comes) (maxL := 5) (ret := (some .int)) (by decide) rfl ?_
  intro pg ev s mi args below meth cd s₁ B hml hv
  obtain ⟨hav, hsz, hP, hE, hD, hXs⟩ := hv
  have hx := B.exec
  have hb := B.bytes
  have hr := B.returns
  have hts := atoms_spec (ws := wsX5_comes) B.pre
  have hown : s.vm.findClass RX5 = some mi.cls := findClass_of_methodNamed B.named
  have hlocks := B.notSynchronized
  clear B
  subst hav
  subst hsz
  have hD := hD.self (sz := s.heap.size)
  generalize hAe : va_A ((wM cA y E (S 0) (T 0) th b) ++ ((wS cA S y a q) ++ (wS cA T y a2 q2))) s.heap.size = A at hD hXs ⊢
  have hA : ∀ q : Nat, s.heap.size ≤ q → A q := fun q h => by rw [← hAe]; exact Or.inr h
  have hS : va_S A s.heap s.heap [] := va_S.rf
  obtain ⟨QQ, hQQ⟩ : ∃ qq9, qq9 = MQ below (va_Qi (fun (r : Int32) (u : FSt × (Nat → Int32)) => r = nI (comesA b a f l)) (fun (u : FSt × (Nat → Int32)) t => va_P D vwCl ((wM cA y E (S 0) (T 0) th b) ++ ((wS cA S y a q) ++ (wS cA T y u.1 u.2))) t.heap) A) ([.ref y, .int (nI f), .int (nI l)] : List Value).toArray s 0 0 A := ⟨_, rfl⟩
  rw [← hQQ]
  have hl := lv_entry ([.ref y, .int (nI f), .int (nI l)]) (n := 5) (Nat.le_of_ble_eq_true rfl)
  rw [lg_entry_eq]
  generalize (lg_sl ([.ref y, .int (nI f), .int (nI l)]) ++ List.replicate (5 - (lg_sl ([.ref y, .int (nI f), .int (nI l)])).length) Slot.unset).toArray = ls at hl ⊢
  have hl : lv_has ls 5 [(0, .ref y), (1, .int (nI f)), (2, .int (nI l))] := hl
  have kf28 := hts (.fieldLink RX5 28 "LanternWeirsModel" "ahead" "LLanternWeirsModel$State;") (by decide +kernel)
  have inX5 : ∀ w ∈ u_ws RX5 TX5 8, w ∈ wsX5_comes := by decide +kernel
  have kf24 := hts (.fieldLink RX5 24 "LanternWeirsModel" "s" "LLanternWeirsModel$State;") (by decide +kernel)
  have kf73 := va_Nw.use (A := ([.ref y, .int (nI f), .int (nI l)] : List Value).toArray) rfl (hE.2.2 (.fieldLinkNest "LanternWeirsModel" 73 "LanternWeirsModel$State" "state" "[I" "LanternWeirsModel") (by decide +kernel))
  have inX4 : ∀ w ∈ u_ws RX4 TX4 13, w ∈ wsX5_comes := by decide +kernel
  have kf79 := va_Nw.use (A := ([.ref y, .int (nI f), .int (nI l)] : List Value).toArray) rfl (hE.2.2 (.fieldLinkNest "LanternWeirsModel" 79 "LanternWeirsModel$State" "burns" "[I" "LanternWeirsModel") (by decide +kernel))
  obtain ⟨H, locs, hP, hS, hgo⟩ : ∃ H locs, va_P D vwCl ((wM cA y E (S 0) (T 0) th b) ++ ((wS cA S y a q) ++ (wS cA T y a2 q2))) H ∧ va_S A s.heap H locs ∧ (H = s.heap ∧ locs = []) := ⟨_, _, hP, hS, rfl, rfl⟩
  obtain ⟨hg1, hg2⟩ := hgo
  have hgoal : W pg lch ev (headSpec wsX5_comes ({ frames := 4, cells := 0, slots := 0, locals := 92 })).room s mi ([.ref y, .int (nI f), .int (nI l)] : List Value).toArray below meth cd H locs 0 0 QQ (F0 mi 0 ls []) := by
    have hn := hw1.1
    refine lv_aload_n hx hb dX5_comes_0 rfl (lv_at hl 0 rfl) ?_
    refine va_get (D := D) (ci := 5) (v := .ref (T 0)) (C := RX5) (T := TX5) (N := 8) hx hb hts inX5 hown hE.1 hP 0 rfl rfl 7 (by decide) kf28 (fun _ h9 => h9) rfl dX5_comes_1 ?_
    refine lv_aload_n hx hb dX5_comes_4 rfl (lv_at hl 0 rfl) ?_
    refine va_get (D := D) (ci := 5) (v := .ref (S 0)) (C := RX5) (T := TX5) (N := 8) hx hb hts inX5 hown hE.1 hP 0 rfl rfl 6 (by decide) kf24 (fun _ h9 => h9) rfl dX5_comes_5 ?_
    refine cVv (wB := fun (u_2 : Unit) => ((wS cA T y a q2) ++ (wS cA S y a q))) (As := [.ref (S 0)]) (rest := []) (wc := ((wS cA T y a2 q2) ++ (wS cA S y a q))) ⟨hx, hb, hml, hown, hts⟩ (K_X4_become lch D cA T S y a2 q2 a q H.size ) (cwV 1 hts gX5_comes_X4_become rfl rfl rfl (by decide +kernel) ⟨Nat.le_of_ble_eq_true rfl, Nat.le_of_ble_eq_true rfl⟩) hE hP hD hS hA [15, 16, 17, 18, 19, 20, 21, 22, 23, 24, 25, 4, 5, 6, 7, 8, 9, 10, 11, 12, 13, 14] rfl rfl [T 0, T 1, T 2, T 3, T 4, T 5, T 6, T 7, T 8, T 9, T 10, S 0, S 1, S 2, S 3, S 4, S 5, S 6, S 7, S 8, S 9, S 10] (fun _ => rfl) rfl (fun (u_2 : Unit) => ((wM cA y E (S 0) (T 0) th b) ++ ((wS cA S y a q) ++ (wS cA T y a q2)))) (fun u_2 => ((pst_app 11 (ps1 := [15, 16, 17, 18, 19, 20, 21, 22, 23, 24, 25]) (ps2 := [4, 5, 6, 7, 8, 9, 10, 11, 12, 13, 14]) (w1 := (wS cA T y a q2)) (w2 := (wS cA S y a q)) rfl rfl rfl).trans ((congrArg (fun z => pst z [4, 5, 6, 7, 8, 9, 10, 11, 12, 13, 14] (wS cA S y a q)) (pst_blk ((wM cA y E (S 0) (T 0) th b) ++ (wS cA S y a q)) [] (wc := (wS cA T y a2 q2)) (w1 := (wS cA T y a q2)) (w2 := ((wM cA y E (S 0) (T 0) th b) ++ ((wS cA S y a q) ++ (wS cA T y a q2)))) 11 15 rfl rfl rfl rfl rfl rfl)).trans (pst_blk (wM cA y E (S 0) (T 0) th b) (wS cA T y a q2) (wc := (wS cA S y a q)) (w1 := (wS cA S y a q)) (w2 := ((wM cA y E (S 0) (T 0) th b) ++ ((wS cA S y a q) ++ (wS cA T y a q2)))) 11 4 rfl rfl rfl rfl rfl rfl)))) X0.blind (fun _ _ _ => trivial) 15 4 rfl rfl rfl hl.1 rfl rfl (Nat.le_of_ble_eq_true rfl) dX5_comes_8 ⟨Nat.zero_le _, Nat.zero_le _⟩ (fun u_2 H locs h_3 hP hD hS => ?_)
    refine lv_aload_n hx hb dX5_comes_11 rfl (lv_at hl 0 rfl) ?_
    refine va_get (D := D) (ci := 5) (v := .ref (T 0)) (C := RX5) (T := TX5) (N := 8) hx hb hts inX5 hown hE.1 hP 0 rfl rfl 7 (by decide) kf28 (fun _ h9 => h9) rfl dX5_comes_12 ?_
    refine lv_iload_n hx hb dX5_comes_15 rfl (lv_at hl 1 rfl) ?_
    refine lv_iconst (v := 0) hx hb dX5_comes_16 (by decide) ?_
    refine lv_iload_n hx hb dX5_comes_17 rfl (lv_at hl 2 rfl) ?_
    refine lv_iconst (v := 0) hx hb dX5_comes_18 (by decide) ?_
    refine cVi (wB := fun (u_5 : Unit) => (wS cA T y (addA a f 0 l 0) q2)) (As := [.int (nI f), .int 0, .int (nI l), .int 0]) (rest := []) (wc := (wS cA T y a q2)) ⟨hx, hb, hml, hown, hts⟩ (K_X4_launch lch D cA T y a q2 z1 z2 f 0 l 0 H.size (hn40) (hf)) (cwV 4 hts gX5_comes_X4_launch rfl rfl rfl (by decide +kernel) ⟨Nat.le_of_ble_eq_true rfl, Nat.le_of_ble_eq_true rfl⟩) hE hP hD hS hA [15, 16, 17, 18, 19, 20, 21, 22, 23, 24, 25] rfl rfl [T 0, T 1, T 2, T 3, T 4, T 5, T 6, T 7, T 8, T 9, T 10] (fun _ => rfl) rfl (fun (u_5 : Unit) => ((wM cA y E (S 0) (T 0) th b) ++ ((wS cA S y a q) ++ (wS cA T y (addA a f 0 l 0) q2)))) (fun _ => pst_blk ((wM cA y E (S 0) (T 0) th b) ++ (wS cA S y a q)) [] (wc := (wS cA T y a q2)) 11 15 rfl rfl rfl rfl rfl rfl) (SX.blind z1 z2 _) (fun U hU hW => hXs.at hS (va_free (wc := (wS cA T y a q2)) hD hS hA [15, 16, 17, 18, 19, 20, 21, 22, 23, 24, 25] rfl) hU hW) 15 4 rfl rfl rfl hl.1 rfl rfl (Nat.le_of_ble_eq_true rfl) dX5_comes_19 ⟨Nat.zero_le _, Nat.zero_le _⟩ (fun r_4 u_5 H locs h_6 hP hD hS => ?_)
    subst h_6
    refine lv_istore_n (lv' := [(3, .int (nI (qN a))), (0, .ref y), (1, .int (nI f)), (2, .int (nI l))]) hx hb dX5_comes_22 rfl hl (by decide) rfl (fun ls hl => ?_)
    refine lv_iconst (v := 1) hx hb dX5_comes_23 (by decide) ?_
    refine lv_istore (lv' := [(4, .int 1), (3, .int (nI (qN a))), (0, .ref y), (1, .int (nI f)), (2, .int (nI l))]) hx hb dX5_comes_24 hl (by decide) rfl (fun ls hl => ?_)
    have L26 : ∀ (fu26 : Nat) (m : Nat) (d : FSt) (qd : Nat → Int32), (m ≤ 61) → (comesF b (qN a) (61 - m) m d = comesA b a f l) → (WFa d) → (qN a < qN d) → 61 - m < fu26 → ∀ (H : Heap) (locs : List Loc), va_P D vwCl ((wM cA y E (S 0) (T 0) th b) ++ ((wS cA S y a q) ++ (wS cA T y d qd))) H → va_D A ((wM cA y E (S 0) (T 0) th b) ++ ((wS cA S y a q) ++ (wS cA T y d qd))) → va_S A s.heap H locs → ∀ ls : Array Slot, lv_has ls 5 [(4, .int (nI m)), (3, .int (nI (qN a))), (0, .ref y), (1, .int (nI f)), (2, .int (nI l))] → W pg lch ev (headSpec wsX5_comes ({ frames := 4, cells := 0, slots := 0, locals := 92 })).room s mi ([.ref y, .int (nI f), .int (nI l)] : List Value).toArray below meth cd H locs 0 0 QQ (F0 mi 26 ls []) := by
      intro fu26
      induction fu26 with
      | zero => intro m d qd hm hrr hwd hkd hms; exact absurd hms (Nat.not_lt_zero _)
      | succ fu26 ih26 =>
        intro m d qd hm hrr hwd hkd hms26 H locs hP hD hS ls hl
        have hnd := hwd.1
        obtain ⟨w1, w2, w3, w4, w5, w6, w7, w8⟩ := hwd.2 (qN a) hkd
        obtain ⟨k1, k2, k3⟩ := min_keep (b := b) hwd
        refine lv_iload hx hb dX5_comes_26 (lv_at hl 0 rfl) ?_
        refine lv_bipush (v := 60) hx hb dX5_comes_28 (by decide) ?_
        refine lv_icmp_gt (tgt := 75) hx hb dX5_comes_30 (by decide) (fun c30 => ?_) (fun c30 => ?_)
        · skip
          have c30 := (nI_ltI (a := 60) (b := m) (by omega) (by omega)).mp c30
          refine lv_bipush (v := 61) hx hb dX5_comes_75 (by decide) ?_
          rw [hQQ]
          exact W.iret (v := 61) hx hb hr (fun t ht hW => ⟨⟨61, (d, qd), rfl, by rw [← hrr, show 61 - m = 0 by omega]; rfl, by show va_P _ _ _ t.heap; rw [ht]; exact hP⟩, hS.F ht⟩) hS.2.2 dX5_comes_77
        · skip
          have c30 := (not_congr (nI_ltI (a := 60) (b := m) (by omega) (by omega))).mp c30
          refine lv_aload_n hx hb dX5_comes_33 rfl (lv_at hl 2 rfl) ?_
          refine va_get (D := D) (ci := 5) (v := .ref (T 0)) (C := RX5) (T := TX5) (N := 8) hx hb hts inX5 hown hE.1 hP 0 rfl rfl 7 (by decide) kf28 (fun _ h9 => h9) rfl dX5_comes_34 ?_
          refine cVv (wB := fun (u9 : Nat → Int32) => ((wM cA y E (S 0) (T 0) th b) ++ (wS cA T y (minA b d) u9))) (As := []) (rest := []) (wc := ((wM cA y E (S 0) (T 0) th b) ++ (wS cA T y d qd))) ⟨hx, hb, hml, hown, hts⟩ (K_X4_pass_ lch D cA T y d qd E (S 0) (T 0) th b z1 z2 H.size (hwd) (hwb)) (cwV 0 hts gX5_comes_X4_pass_ rfl rfl rfl (by decide +kernel) ⟨Nat.le_of_ble_eq_true rfl, Nat.le_of_ble_eq_true rfl⟩) hE hP hD hS hA [0, 1, 2, 3, 15, 16, 17, 18, 19, 20, 21, 22, 23, 24, 25] rfl rfl [y, E 0, E 1, E 2, T 0, T 1, T 2, T 3, T 4, T 5, T 6, T 7, T 8, T 9, T 10] (fun _ => rfl) rfl (fun (u9 : Nat → Int32) => ((wM cA y E (S 0) (T 0) th b) ++ ((wS cA S y a q) ++ (wS cA T y (minA b d) u9)))) (fun u9 => ((pst_app 4 (ps1 := [0, 1, 2, 3]) (ps2 := [15, 16, 17, 18, 19, 20, 21, 22, 23, 24, 25]) (w1 := (wM cA y E (S 0) (T 0) th b)) (w2 := (wS cA T y (minA b d) u9)) rfl rfl rfl).trans ((congrArg (fun z => pst z [15, 16, 17, 18, 19, 20, 21, 22, 23, 24, 25] (wS cA T y (minA b d) u9)) (pst_blk [] ((wS cA S y a q) ++ (wS cA T y d qd)) (wc := (wM cA y E (S 0) (T 0) th b)) (w1 := (wM cA y E (S 0) (T 0) th b)) (w2 := ((wM cA y E (S 0) (T 0) th b) ++ ((wS cA S y a q) ++ (wS cA T y d qd)))) 4 0 rfl rfl rfl rfl rfl rfl)).trans (pst_blk ((wM cA y E (S 0) (T 0) th b) ++ (wS cA S y a q)) [] (wc := (wS cA T y d qd)) (w1 := (wS cA T y (minA b d) u9)) (w2 := ((wM cA y E (S 0) (T 0) th b) ++ ((wS cA S y a q) ++ (wS cA T y (minA b d) u9)))) 11 15 rfl rfl rfl rfl rfl rfl)))) (SX.blind z1 z2 _) (fun U hU hW => hXs.at hS (va_free (wc := ((wM cA y E (S 0) (T 0) th b) ++ (wS cA T y d qd))) hD hS hA [0, 1, 2, 3, 15, 16, 17, 18, 19, 20, 21, 22, 23, 24, 25] rfl) hU hW) 15 4 rfl rfl rfl hl.1 rfl rfl (Nat.le_of_ble_eq_true rfl) dX5_comes_37 ⟨Nat.zero_le _, Nat.zero_le _⟩ (fun u9 H locs h_8 hP hD hS => ?_)
          have kd : qN a < qN (minA b d) := by rw [k2]; exact hkd
          have kn := k1.1
          obtain ⟨v1, v2, v3, v4, v5, v6, v7, v8⟩ := k1.2 (qN a) kd
          refine lv_aload_n hx hb dX5_comes_40 rfl (lv_at hl 2 rfl) ?_
          refine va_get (D := D) (ci := 5) (v := .ref (T 0)) (C := RX5) (T := TX5) (N := 8) hx hb hts inX5 hown hE.1 hP 0 rfl rfl 7 (by decide) kf28 (fun _ h9 => h9) rfl dX5_comes_41 ?_
          refine va_getN (D := D) (ci := 4) (v := .ref (T 8)) (C := RX4) (T := TX4) (N := 13) hx hb hts inX4 hown hE.1 hP 15 rfl rfl 9 (by decide) kf73 (fun _ h9 => h9) rfl dX5_comes_44 ?_
          refine lv_iload_n hx hb dX5_comes_47 rfl (lv_at hl 1 rfl) ?_
          refine ald hx hb hE hP 23 rfl (k := qN a) (by omega) (Nat.le_of_ble_eq_true rfl) (v := nI (qSt (minA b d) (qN a))) rfl dX5_comes_48 ?_
          refine lv_iconst (v := 1) hx hb dX5_comes_49 (by decide) ?_
          refine lv_icmp_ne (tgt := 69) hx hb dX5_comes_50 (by decide) (fun c50 => ?_) (fun c50 => ?_)
          · skip
            have c50 := (not_congr (nI_eq (a := qSt (minA b d) (qN a)) (b := 1) (by omega) (by omega))).mp c50
            refine lv_iinc (v := nI (m + 1)) (lv' := [(4, .int (nI (m + 1))), (3, .int (nI (qN a))), (0, .ref y), (1, .int (nI f)), (2, .int (nI l))]) hx hb dX5_comes_69 hl (k := 0) rfl (nI_add m 1) (by decide) rfl (fun ls hl => ?_)
            refine lv_goto (tgt := 26) hx hb dX5_comes_72 (by decide) ?_
            have hcg := comes_go (b := b) (k := qN a) (f := 61 - (m + 1)) (m := m) (a := d) (fun q => c50 q.1)
            rw [show 61 - (m + 1) + 1 = 61 - m by omega, hrr] at hcg
            exact ih26 (m + 1) (minA b d) u9 (by omega) (hcg.symm) (k1) (by rw [k2]; exact hkd) (by omega) H locs hP hD hS ls (lv_sub hl [0, 1, 2, 3, 4] rfl)
          · skip
            have c50 := (nI_eq (a := qSt (minA b d) (qN a)) (b := 1) (by omega) (by omega)).mp c50
            refine lv_aload_n hx hb dX5_comes_53 rfl (lv_at hl 2 rfl) ?_
            refine va_get (D := D) (ci := 5) (v := .ref (T 0)) (C := RX5) (T := TX5) (N := 8) hx hb hts inX5 hown hE.1 hP 0 rfl rfl 7 (by decide) kf28 (fun _ h9 => h9) rfl dX5_comes_54 ?_
            refine va_getN (D := D) (ci := 4) (v := .ref (T 7)) (C := RX4) (T := TX4) (N := 13) hx hb hts inX4 hown hE.1 hP 15 rfl rfl 8 (by decide) kf79 (fun _ h9 => h9) rfl dX5_comes_57 ?_
            refine lv_iload_n hx hb dX5_comes_60 rfl (lv_at hl 1 rfl) ?_
            refine ald hx hb hE hP 22 rfl (k := qN a) (by omega) (Nat.le_of_ble_eq_true rfl) (v := bi (qBu (minA b d) (qN a))) rfl dX5_comes_61 ?_
            refine lv_iconst (v := 1) hx hb dX5_comes_62 (by decide) ?_
            refine lv_icmp_ne (tgt := 69) hx hb dX5_comes_63 (by decide) (fun c63 => ?_) (fun c63 => ?_)
            · skip
              have c63 := bi_f.mp c63
              refine lv_iinc (v := nI (m + 1)) (lv' := [(4, .int (nI (m + 1))), (3, .int (nI (qN a))), (0, .ref y), (1, .int (nI f)), (2, .int (nI l))]) hx hb dX5_comes_69 hl (k := 0) rfl (nI_add m 1) (by decide) rfl (fun ls hl => ?_)
              refine lv_goto (tgt := 26) hx hb dX5_comes_72 (by decide) ?_
              have hcg := comes_go (b := b) (k := qN a) (f := 61 - (m + 1)) (m := m) (a := d) (fun q => absurd q.2 (by rw [c63]; decide))
              rw [show 61 - (m + 1) + 1 = 61 - m by omega, hrr] at hcg
              exact ih26 (m + 1) (minA b d) u9 (by omega) (hcg.symm) (k1) (by rw [k2]; exact hkd) (by omega) H locs hP hD hS ls (lv_sub hl [0, 1, 2, 3, 4] rfl)
            · skip
              have c63 := bi_t.mp c63
              refine lv_iload hx hb dX5_comes_66 (lv_at hl 0 rfl) ?_
              rw [hQQ]
              exact W.iret (v := nI m) hx hb hr (fun t ht hW => ⟨⟨nI m, (minA b d, u9), rfl, by rw [← hrr, show 61 - m = (60 - m) + 1 by omega, comes_at c63 c50], by show va_P _ _ _ t.heap; rw [ht]; exact hP⟩, hS.F ht⟩) hS.2.2 dX5_comes_68
    exact L26 62 1 (addA a f 0 l 0) q2 (by decide) (rfl) (WFa_add hw1 hn40 hf hl3 (by decide)) (Nat.lt_succ_self _) (by omega) H locs hP hD hS ls (lv_sub hl [0, 1, 2, 3, 4] rfl)
  rw [hg1, hg2] at hgoal
  exact hgoal
