set_option maxHeartbeats 4000000 in
set_option maxRecDepth 100000 in
/-- mean -/
theorem K_X3_mean (lch : Launch) (D : va_G) (cA : ClassId) (x : Nat) (B : Nat → Nat) (F : Nat → Nat) (G : Nat → Nat) (b : BSt) (a : FSt) (c : Nat → Int32) (q : Nat → Int32) (a2 : FSt) (c2 : Nat → Int32) (q2 : Nat → Int32) (sz : Nat) (hw1 : WFa a) : Met lch yX3_mean wsX3_mean ({ frames := 3, cells := 0, slots := 0, locals := 64 }) (Pr D cA [.ref x] sz (([(x, .inr (3, [.ref (B 0), .ref (F 0), .ref (G 0)]))] : va_W) ++ ((wB cA B b) ++ ((wF cA F a c q) ++ (wF cA G a2 c2 q2)))) X0) (va_Qd (fun (r : UInt64) (u : Unit) => r = meanA a) (fun _ _ => True) (fun q : Nat => sz ≤ q)) 0 0 (fun q : Nat => sz ≤ q) := by
  refine Met.ofW (cc := cX3_mean) (maxL := 4) (ret := (some .double)) (by decide) rfl ?_
  intro pg ev s mi args below meth cd s₁ B hml hv
  obtain ⟨hav, hsz, hP, hE, hD, hXs⟩ := hv
  have hx := B.exec
  have hb := B.bytes
  have hr := B.returns
  have hts := atoms_spec (ws := wsX3_mean) B.pre
  have hown : s.vm.findClass RX3 = some mi.cls := findClass_of_methodNamed B.named
  have hlocks := B.notSynchronized
  clear B
  subst hav
  subst hsz
  have hA : ∀ q : Nat, s.heap.size ≤ q → (fun q : Nat => s.heap.size ≤ q) q := fun _ h => h
  have hS : va_S (fun q : Nat => s.heap.size ≤ q) s.heap s.heap [] := va_S.rf
  obtain ⟨QQ, hQQ⟩ : ∃ qq9, qq9 = MQ below (va_Qd (fun (r : UInt64) (u : Unit) => r = meanA a) (fun _ _ => True) (fun q : Nat => s.heap.size ≤ q)) ([.ref x] : List Value).toArray s 0 0 (fun q : Nat => s.heap.size ≤ q) := ⟨_, rfl⟩
  rw [← hQQ]
  have hl := lv_entry ([.ref x]) (n := 4) (Nat.le_of_ble_eq_true rfl)
  rw [lg_entry_eq]
  generalize (lg_sl ([.ref x]) ++ List.replicate (4 - (lg_sl ([.ref x])).length) Slot.unset).toArray = ls at hl ⊢
  have hl : lv_has ls 4 [(0, .ref x)] := hl
  have kf19 := hts (.fieldLink RX3 19 "LanternWeirs" "fleet" "LLanternWeirs$Fleet;") (by decide +kernel)
  have inX3 : ∀ w ∈ u_ws RX3 TX3 3, w ∈ wsX3_mean := by decide +kernel
  have kf110 := hts (.fieldLink RX3 110 "LanternWeirs$Fleet" "size" "I") (by decide +kernel)
  have inX1 : ∀ w ∈ u_ws RX1 TX1 13, w ∈ wsX3_mean := by decide +kernel
  have kf132 := hts (.fieldLink RX3 132 "LanternWeirs$Fleet" "places" "LLanternWeirs$Row;") (by decide +kernel)
  obtain ⟨H, locs, hP, hS, hgo⟩ : ∃ H locs, va_P D vwCl (([(x, .inr (3, [.ref (B 0), .ref (F 0), .ref (G 0)]))] : va_W) ++ ((wB cA B b) ++ ((wF cA F a c q) ++ (wF cA G a2 c2 q2)))) H ∧ va_S (fun q : Nat => s.heap.size ≤ q) s.heap H locs ∧ (H = s.heap ∧ locs = []) := ⟨_, _, hP, hS, rfl, rfl⟩
  obtain ⟨hg1, hg2⟩ := hgo
  have hgoal : W pg lch ev (headSpec wsX3_mean ({ frames := 3, cells := 0, slots := 0, locals := 64 })).room s mi ([.ref x] : List Value).toArray below meth cd H locs 0 0 QQ (F0 mi 0 ls []) := by
    have hn := hw1.1
    refine lv_iconst (v := 0) hx hb dX3_mean_0 (by decide) ?_
    refine lv_istore_n (lv' := [(1, .int 0), (0, .ref x)]) hx hb dX3_mean_1 rfl hl (by decide) rfl (fun ls hl => ?_)
    refine lv_iconst (v := 0) hx hb dX3_mean_2 (by decide) ?_
    refine lv_istore_n (lv' := [(2, .int 0), (1, .int 0), (0, .ref x)]) hx hb dX3_mean_3 rfl hl (by decide) rfl (fun ls hl => ?_)
    refine lv_iconst (v := 0) hx hb dX3_mean_4 (by decide) ?_
    refine lv_istore_n (lv' := [(3, .int 0), (2, .int 0), (1, .int 0), (0, .ref x)]) hx hb dX3_mean_5 rfl hl (by decide) rfl (fun ls hl => ?_)
    have L6 : ∀ (fu6 : Nat) (i : Nat), (i ≤ qN a) → qN a - i < fu6 → ∀ (H : Heap) (locs : List Loc), va_P D vwCl (([(x, .inr (3, [.ref (B 0), .ref (F 0), .ref (G 0)]))] : va_W) ++ ((wB cA B b) ++ ((wF cA F a c q) ++ (wF cA G a2 c2 q2)))) H → va_S (fun q : Nat => s.heap.size ≤ q) s.heap H locs → ∀ ls : Array Slot, lv_has ls 4 [(3, .int (nI i)), (2, .int (placesA a i)), (1, .int (sumA a 2 i)), (0, .ref x)] → W pg lch ev (headSpec wsX3_mean ({ frames := 3, cells := 0, slots := 0, locals := 64 })).room s mi ([.ref x] : List Value).toArray below meth cd H locs 0 0 QQ (F0 mi 6 ls []) := by
      intro fu6
      induction fu6 with
      | zero => intro i hi hms; exact absurd hms (Nat.not_lt_zero _)
      | succ fu6 ih6 =>
        intro i hi hms6 H locs hP hS ls hl
        refine lv_iload_n hx hb dX3_mean_6 rfl (lv_at hl 0 rfl) ?_
        refine lv_aload_n hx hb dX3_mean_7 rfl (lv_at hl 3 rfl) ?_
        refine va_get (D := D) (ci := 3) (v := .ref (F 0)) (C := RX3) (T := TX3) (N := 3) hx hb hts inX3 hown hE.1 hP 0 rfl rfl 1 (by decide) kf19 (fun _ h9 => h9) rfl dX3_mean_8 ?_
        refine va_get (D := D) (ci := 1) (v := .int (nI (qN a))) (C := RX1) (T := TX1) (N := 13) hx hb hts inX1 hown hE.1 hP 8 rfl rfl 11 (by decide) kf110 (fun _ h9 => h9) rfl dX3_mean_11 ?_
        refine lv_icmp_ge (tgt := 51) hx hb dX3_mean_14 (by decide) (fun c14 => ?_) (fun c14 => ?_)
        · skip
          have c14 := (nI_leI (a := qN a) (b := i) (by omega) (by omega)).mp c14
          have e9 : i = (qN a) := by omega
          rw [e9] at hl
          refine lv_iload_n hx hb dX3_mean_51 rfl (lv_at hl 2 rfl) ?_
          refine lv_if_le (tgt := 63) hx hb dX3_mean_52 (by decide) (fun c52 => ?_) (fun c52 => ?_)
          · skip
            refine lv_dconst0 hx hb dX3_mean_63 ?_
            rw [hQQ]
            exact W.dret (v := FP.dconst0) hx hb hr (fun t ht hW => ⟨⟨FP.dconst0, (), rfl, mean_0 hw1 c52, trivial⟩, hS.F ht⟩) hS.2.2 dX3_mean_64
          · skip
            refine lv_iload_n hx hb dX3_mean_55 rfl (lv_at hl 1 rfl) ?_
            refine lv_i2d hx hb dX3_mean_56 ?_
            refine lv_iload_n hx hb dX3_mean_57 rfl (lv_at hl 2 rfl) ?_
            refine lv_i2d hx hb dX3_mean_58 ?_
            refine lv_ddiv hx hb dX3_mean_59 (mean_num (fun e => c52 (by rw [e]; exact Int32.le_refl _))) ?_
            refine lv_goto (tgt := 64) hx hb dX3_mean_60 (by decide) ?_
            rw [hQQ]
            exact W.dret (v := FP.ddiv (FP.i2d (placesA a (qN a))) (FP.i2d (sumA a 2 (qN a)))) hx hb hr (fun t ht hW => ⟨⟨FP.ddiv (FP.i2d (placesA a (qN a))) (FP.i2d (sumA a 2 (qN a))), (), rfl, mean_1 hw1 c52, trivial⟩, hS.F ht⟩) hS.2.2 dX3_mean_64
        · skip
          have c14 := (not_congr (nI_leI (a := qN a) (b := i) (by omega) (by omega))).mp c14
          obtain ⟨w1, w2, w3, w4, w5, w6, w7, w8⟩ := hw1.2 i (by omega)
          refine lv_aload_n hx hb dX3_mean_17 rfl (lv_at hl 3 rfl) ?_
          refine va_get (D := D) (ci := 3) (v := .ref (F 0)) (C := RX3) (T := TX3) (N := 3) hx hb hts inX3 hown hE.1 hP 0 rfl rfl 1 (by decide) kf19 (fun _ h9 => h9) rfl dX3_mean_18 ?_
          refine lv_iload_n hx hb dX3_mean_21 rfl (lv_at hl 0 rfl) ?_
          refine pVi (As := [.int (nI i)]) (rest := []) (wc := (wF cA F a c q)) ⟨hx, hb, hml, hown, hts⟩ (K_X1_isAfloat lch D cA F a c q i H.size (by omega) (hn) (w4)) (cwV 1 hts gX3_mean_X1_isAfloat rfl rfl rfl (by decide +kernel) ⟨Nat.le_of_ble_eq_true rfl, Nat.le_of_ble_eq_true rfl⟩) hE hP hD hS hA [8, 9, 10, 11, 12, 13, 14, 15, 16, 17, 18, 19, 20, 21, 22, 23, 24, 25, 26, 27, 28, 29, 30] rfl rfl X0.blind (fun _ _ _ => trivial) 8 1 rfl rfl rfl hl.1 rfl rfl (Nat.le_of_ble_eq_true rfl) dX3_mean_22 ⟨Nat.zero_le _, Nat.zero_le _⟩ (fun r_1 u_2 H locs h_3 hP hS => ?_)
          subst h_3
          refine lv_if_eq (tgt := 45) hx hb dX3_mean_25 (by decide) (fun c25 => ?_) (fun c25 => ?_)
          · skip
            have c25 := bi_0.mp c25
            refine lv_iinc (v := nI (i + 1)) (lv' := [(3, .int (nI (i + 1))), (2, .int (placesA a i)), (1, .int (sumA a 2 i)), (0, .ref x)]) hx hb dX3_mean_45 hl (k := 0) rfl (nI_add i 1) (by decide) rfl (fun ls hl => ?_)
            refine lv_goto (tgt := 6) hx hb dX3_mean_48 (by decide) ?_
            have e1 := sum2_out (a := a) (i := i) (by simpa using c25)
            have e2 := plc_out (a := a) (i := i) (by simpa using c25)
            rw [← e1, ← e2] at hl
            exact ih6 (i + 1) (by omega) (by omega) H locs hP hS ls (lv_sub hl [0, 1, 2, 3] rfl)
          · skip
            have c25 := bi_1.mp c25
            refine lv_iinc (v := sumA a 2 i + 1) (lv' := [(1, .int (sumA a 2 i + 1)), (3, .int (nI i)), (2, .int (placesA a i)), (0, .ref x)]) hx hb dX3_mean_28 hl (k := 2) rfl (rfl) (by decide) rfl (fun ls hl => ?_)
            refine lv_iload_n hx hb dX3_mean_31 rfl (lv_at hl 2 rfl) ?_
            refine lv_aload_n hx hb dX3_mean_32 rfl (lv_at hl 3 rfl) ?_
            refine va_get (D := D) (ci := 3) (v := .ref (F 0)) (C := RX3) (T := TX3) (N := 3) hx hb hts inX3 hown hE.1 hP 0 rfl rfl 1 (by decide) kf19 (fun _ h9 => h9) rfl dX3_mean_33 ?_
            refine va_get (D := D) (ci := 1) (v := .ref (F 4)) (C := RX1) (T := TX1) (N := 13) hx hb hts inX1 hown hE.1 hP 8 rfl rfl 3 (by decide) kf132 (fun _ h9 => h9) rfl dX3_mean_36 ?_
            refine lv_iload_n hx hb dX3_mean_39 rfl (lv_at hl 1 rfl) ?_
            refine pVi (As := [.int (nI i)]) (rest := [.int (placesA a i)]) (wc := (wR cA (F 4) (F 15) 41 (fun z9 => nI (qPl a z9)))) ⟨hx, hb, hml, hown, hts⟩ (K_X2_getk lch D cA (F 4) (F 15) 41 (fun z9 => nI (qPl a z9)) i (nI (qPl a i)) H.size (by omega) (Nat.le_of_ble_eq_true rfl) (rfl)) (cwV 1 hts gX3_mean_X2_get rfl rfl rfl (by decide +kernel) ⟨Nat.le_of_ble_eq_true rfl, Nat.le_of_ble_eq_true rfl⟩) hE hP hD hS hA [12, 23] rfl rfl X0.blind (fun _ _ _ => trivial) 12 2 rfl rfl rfl hl.1 rfl rfl (Nat.le_of_ble_eq_true rfl) dX3_mean_40 ⟨Nat.zero_le _, Nat.zero_le _⟩ (fun r_4 u_5 H locs h_6 hP hS => ?_)
            subst h_6
            refine lv_iadd hx hb dX3_mean_43 ?_
            refine lv_istore_n (lv' := [(2, .int ((placesA a i) + (nI (qPl a i)))), (1, .int (sumA a 2 i + 1)), (3, .int (nI i)), (0, .ref x)]) hx hb dX3_mean_44 rfl hl (by decide) rfl (fun ls hl => ?_)
            refine lv_iinc (v := nI (i + 1)) (lv' := [(3, .int (nI (i + 1))), (2, .int ((placesA a i) + (nI (qPl a i)))), (1, .int (sumA a 2 i + 1)), (0, .ref x)]) hx hb dX3_mean_45 hl (k := 2) rfl (nI_add i 1) (by decide) rfl (fun ls hl => ?_)
            refine lv_goto (tgt := 6) hx hb dX3_mean_48 (by decide) ?_
            have e1 := sum2_in (a := a) (i := i) (by simpa using c25)
            have e2 := plc_in (a := a) (i := i) (by simpa using c25)
            rw [← e1, ← e2] at hl
            exact ih6 (i + 1) (by omega) (by omega) H locs hP hS ls (lv_sub hl [0, 1, 2, 3] rfl)
    exact L6 (qN a + 1) 0 (Nat.zero_le _) (by omega) H locs hP hS ls (lv_sub hl [0, 1, 2, 3] rfl)
  rw [hg1, hg2] at hgoal
  exact hgoal

set_option maxHeartbeats 4000000 in
set_option maxRecDepth 100000 in
/-- mean -/
theorem K_X5_mean (lch : Launch) (D : va_G) (cA : ClassId) (y : Nat) (E : Nat → Nat) (S : Nat → Nat) (T : Nat → Nat) (th : Int32) (b : BSt) (a : FSt) (q : Nat → Int32) (a2 : FSt) (q2 : Nat → Int32) (sz : Nat) (hw1 : WFa a) : Met lch yX5_mean wsX5_mean ({ frames := 1, cells := 1, slots := 10, locals := 23 }) (Pr D cA [.ref y] sz ((wM cA y E (S 0) (T 0) th b) ++ ((wS cA S y a q) ++ (wS cA T y a2 q2))) X0) (va_Qd (fun (r : UInt64) (u : Unit) => r = meanA a) (fun (u : Unit) t => va_P D vwCl ((wM cA y E (S 0) (T 0) 0 b) ++ ((wS cA S y a q) ++ (wS cA T y a2 q2))) t.heap) (va_A ((wM cA y E (S 0) (T 0) th b) ++ ((wS cA S y a q) ++ (wS cA T y a2 q2))) sz)) 1 10 (va_A ((wM cA y E (S 0) (T 0) th b) ++ ((wS cA S y a q) ++ (wS cA T y a2 q2))) sz) := by
  refine Met.ofW (cc := cX5_mean) (maxL := 4) (ret := (some .double)) (by decide) rfl ?_
  intro pg ev s mi args below meth cd s₁ B hml hv
  obtain ⟨hav, hsz, hP, hE, hD, hXs⟩ := hv
  have hx := B.exec
  have hb := B.bytes
  have hr := B.returns
  have hts := atoms_spec (ws := wsX5_mean) B.pre
  have hown : s.vm.findClass RX5 = some mi.cls := findClass_of_methodNamed B.named
  have hlocks := B.notSynchronized
  clear B
  subst hav
  subst hsz
  have hD := hD.self (sz := s.heap.size)
  generalize hAe : va_A ((wM cA y E (S 0) (T 0) th b) ++ ((wS cA S y a q) ++ (wS cA T y a2 q2))) s.heap.size = A at hD ⊢
  have hA : ∀ q : Nat, s.heap.size ≤ q → A q := fun q h => by rw [← hAe]; exact Or.inr h
  have hS : va_S A s.heap s.heap [] := va_S.rf
  obtain ⟨QQ, hQQ⟩ : ∃ qq9, qq9 = MQ below (va_Qd (fun (r : UInt64) (u : Unit) => r = meanA a) (fun (u : Unit) t => va_P D vwCl ((wM cA y E (S 0) (T 0) 0 b) ++ ((wS cA S y a q) ++ (wS cA T y a2 q2))) t.heap) A) ([.ref y] : List Value).toArray s 1 10 A := ⟨_, rfl⟩
  rw [← hQQ]
  have hl := lv_entry ([.ref y]) (n := 4) (Nat.le_of_ble_eq_true rfl)
  rw [lg_entry_eq]
  generalize (lg_sl ([.ref y]) ++ List.replicate (4 - (lg_sl ([.ref y])).length) Slot.unset).toArray = ls at hl ⊢
  have hl : lv_has ls 4 [(0, .ref y)] := hl
  have kf31 := hts (.fieldLink RX5 31 "LanternWeirsModel" "thrown" "I") (by decide +kernel)
  have inX5 : ∀ w ∈ u_ws RX5 TX5 8, w ∈ wsX5_mean := by decide +kernel
  have kf24 := hts (.fieldLink RX5 24 "LanternWeirsModel" "s" "LLanternWeirsModel$State;") (by decide +kernel)
  have kf39 := va_Nw.use (A := ([.ref y] : List Value).toArray) rfl (hE.2.2 (.fieldLinkNest "LanternWeirsModel" 39 "LanternWeirsModel$State" "lanterns" "I" "LanternWeirsModel") (by decide +kernel))
  have inX4 : ∀ w ∈ u_ws RX4 TX4 13, w ∈ wsX5_mean := by decide +kernel
  have kf73 := va_Nw.use (A := ([.ref y] : List Value).toArray) rfl (hE.2.2 (.fieldLinkNest "LanternWeirsModel" 73 "LanternWeirsModel$State" "state" "[I" "LanternWeirsModel") (by decide +kernel))
  have kf94 := va_Nw.use (A := ([.ref y] : List Value).toArray) rfl (hE.2.2 (.fieldLinkNest "LanternWeirsModel" 94 "LanternWeirsModel$State" "place" "[I" "LanternWeirsModel") (by decide +kernel))
  obtain ⟨H, locs, hP, hS, hgo⟩ : ∃ H locs, va_P D vwCl ((wM cA y E (S 0) (T 0) th b) ++ ((wS cA S y a q) ++ (wS cA T y a2 q2))) H ∧ va_S A s.heap H locs ∧ (H = s.heap ∧ locs = []) := ⟨_, _, hP, hS, rfl, rfl⟩
  obtain ⟨hg1, hg2⟩ := hgo
  have hgoal : W pg lch ev (headSpec wsX5_mean ({ frames := 1, cells := 1, slots := 10, locals := 23 })).room s mi ([.ref y] : List Value).toArray below meth cd H locs 0 0 QQ (F0 mi 0 ls []) := by
    have hn := hw1.1
    refine lv_aload_n hx hb dX5_mean_0 rfl (lv_at hl 0 rfl) ?_
    refine lv_iconst (v := 0) hx hb dX5_mean_1 (by decide) ?_
    refine va_put (D := D) (ci := 5) (v := .int 0) (ty := .int) (C := RX5) (T := TX5) (N := 8) hx hb hts inX5 tyX5 tyX5_ok nmX5 hown hE.1 hP hD hS 0 rfl rfl 0 (by decide) kf31 (fun _ h9 => h9) rfl (by decide +kernel) rfl rfl (Nat.le_of_ble_eq_true rfl) dX5_mean_2 (fun H locs hP hD hS => ?_)
    have hP : va_P D vwCl ((wM cA y E (S 0) (T 0) 0 b) ++ ((wS cA S y a q) ++ (wS cA T y a2 q2))) H := hP
    have hD : va_D A ((wM cA y E (S 0) (T 0) 0 b) ++ ((wS cA S y a q) ++ (wS cA T y a2 q2))) := hD
    refine lv_aload_n hx hb dX5_mean_5 rfl (lv_at hl 0 rfl) ?_
    refine va_get (D := D) (ci := 5) (v := .ref (S 0)) (C := RX5) (T := TX5) (N := 8) hx hb hts inX5 hown hE.1 hP 0 rfl rfl 6 (by decide) kf24 (fun _ h9 => h9) rfl dX5_mean_6 ?_
    refine lv_iconst (v := 2) hx hb dX5_mean_9 (by decide) ?_
    refine cVi (wB := fun (u_2 : Unit) => ((wM cA y E (S 0) (T 0) 0 b) ++ (wS cA S y a q))) (As := [.int 2]) (rest := []) (wc := ((wM cA y E (S 0) (T 0) 0 b) ++ (wS cA S y a q))) ⟨hx, hb, hml, hown, hts⟩ (K_X4_counted lch D cA S y a q E (S 0) (T 0) 0 b 0 0 2 H.size (by first | assumption | omega) (by decide)) (cwV 1 hts gX5_mean_X4_counted rfl rfl rfl (by decide +kernel) ⟨Nat.le_of_ble_eq_true rfl, Nat.le_of_ble_eq_true rfl⟩) hE hP hD hS hA [0, 1, 2, 3, 4, 5, 6, 7, 8, 9, 10, 11, 12, 13, 14] rfl rfl [y, E 0, E 1, E 2, S 0, S 1, S 2, S 3, S 4, S 5, S 6, S 7, S 8, S 9, S 10] (fun _ => rfl) rfl (fun (u_2 : Unit) => ((wM cA y E (S 0) (T 0) 0 b) ++ ((wS cA S y a q) ++ (wS cA T y a2 q2)))) (fun u_2 => ((pst_app 4 (ps1 := [0, 1, 2, 3]) (ps2 := [4, 5, 6, 7, 8, 9, 10, 11, 12, 13, 14]) (w1 := (wM cA y E (S 0) (T 0) 0 b)) (w2 := (wS cA S y a q)) rfl rfl rfl).trans ((congrArg (fun z => pst z [4, 5, 6, 7, 8, 9, 10, 11, 12, 13, 14] (wS cA S y a q)) (pst_blk [] ((wS cA S y a q) ++ (wS cA T y a2 q2)) (wc := (wM cA y E (S 0) (T 0) 0 b)) (w1 := (wM cA y E (S 0) (T 0) 0 b)) (w2 := ((wM cA y E (S 0) (T 0) 0 b) ++ ((wS cA S y a q) ++ (wS cA T y a2 q2)))) 4 0 rfl rfl rfl rfl rfl rfl)).trans (pst_blk (wM cA y E (S 0) (T 0) 0 b) (wS cA T y a2 q2) (wc := (wS cA S y a q)) (w1 := (wS cA S y a q)) (w2 := ((wM cA y E (S 0) (T 0) 0 b) ++ ((wS cA S y a q) ++ (wS cA T y a2 q2)))) 11 4 rfl rfl rfl rfl rfl rfl)))) X0.blind (fun _ _ _ => trivial) 4 4 rfl rfl rfl hl.1 rfl rfl (Nat.le_of_ble_eq_true rfl) dX5_mean_10 ⟨Nat.le_of_ble_eq_true rfl, Nat.le_of_ble_eq_true rfl⟩ (fun r_1 u_2 H locs h_3 hP hD hS => ?_)
    subst h_3
    refine lv_istore_n (lv' := [(1, .int (countA a b 2)), (0, .ref y)]) hx hb dX5_mean_13 rfl hl (by decide) rfl (fun ls hl => ?_)
    refine lv_iconst (v := 0) hx hb dX5_mean_14 (by decide) ?_
    refine lv_istore_n (lv' := [(2, .int 0), (1, .int (countA a b 2)), (0, .ref y)]) hx hb dX5_mean_15 rfl hl (by decide) rfl (fun ls hl => ?_)
    refine lv_iconst (v := 0) hx hb dX5_mean_16 (by decide) ?_
    refine lv_istore_n (lv' := [(3, .int 0), (2, .int 0), (1, .int (countA a b 2)), (0, .ref y)]) hx hb dX5_mean_17 rfl hl (by decide) rfl (fun ls hl => ?_)
    have L18 : ∀ (fu18 : Nat) (i : Nat), (i ≤ qN a) → qN a - i < fu18 → ∀ (H : Heap) (locs : List Loc), va_P D vwCl ((wM cA y E (S 0) (T 0) 0 b) ++ ((wS cA S y a q) ++ (wS cA T y a2 q2))) H → va_D A ((wM cA y E (S 0) (T 0) 0 b) ++ ((wS cA S y a q) ++ (wS cA T y a2 q2))) → va_S A s.heap H locs → ∀ ls : Array Slot, lv_has ls 4 [(3, .int (nI i)), (2, .int (placesA a i)), (1, .int (countA a b 2)), (0, .ref y)] → W pg lch ev (headSpec wsX5_mean ({ frames := 1, cells := 1, slots := 10, locals := 23 })).room s mi ([.ref y] : List Value).toArray below meth cd H locs 1 10 QQ (F0 mi 18 ls []) := by
      intro fu18
      induction fu18 with
      | zero => intro i hi hms; exact absurd hms (Nat.not_lt_zero _)
      | succ fu18 ih18 =>
        intro i hi hms18 H locs hP hD hS ls hl
        refine lv_iload_n hx hb dX5_mean_18 rfl (lv_at hl 0 rfl) ?_
        refine lv_aload_n hx hb dX5_mean_19 rfl (lv_at hl 3 rfl) ?_
        refine va_get (D := D) (ci := 5) (v := .ref (S 0)) (C := RX5) (T := TX5) (N := 8) hx hb hts inX5 hown hE.1 hP 0 rfl rfl 6 (by decide) kf24 (fun _ h9 => h9) rfl dX5_mean_20 ?_
        refine va_getN (D := D) (ci := 4) (v := .int (nI (qN a))) (C := RX4) (T := TX4) (N := 13) hx hb hts inX4 hown hE.1 hP 4 rfl rfl 1 (by decide) kf39 (fun _ h9 => h9) rfl dX5_mean_23 ?_
        refine lv_icmp_ge (tgt := 63) hx hb dX5_mean_26 (by decide) (fun c26 => ?_) (fun c26 => ?_)
        · skip
          have c26 := (nI_leI (a := qN a) (b := i) (by omega) (by omega)).mp c26
          have e9 : i = (qN a) := by omega
          rw [e9] at hl
          refine lv_iload_n hx hb dX5_mean_63 rfl (lv_at hl 2 rfl) ?_
          refine lv_if_ne (tgt := 71) hx hb dX5_mean_64 (by decide) (fun c64 => ?_) (fun c64 => ?_)
          · skip
            refine lv_iload_n hx hb dX5_mean_71 rfl (lv_at hl 1 rfl) ?_
            refine lv_i2d hx hb dX5_mean_72 ?_
            refine lv_iload_n hx hb dX5_mean_73 rfl (lv_at hl 2 rfl) ?_
            refine lv_i2d hx hb dX5_mean_74 ?_
            refine lv_ddiv hx hb dX5_mean_75 (mean_num c64) ?_
            rw [hQQ]
            exact W.dret (v := FP.ddiv (FP.i2d (placesA a (qN a))) (FP.i2d (countA a b 2))) hx hb hr (fun t ht hW => ⟨⟨FP.ddiv (FP.i2d (placesA a (qN a))) (FP.i2d (countA a b 2)), (), rfl, (show meanA a = FP.ddiv (FP.i2d (placesA a (qN a))) (FP.i2d (countA a b 2)) from if_neg c64).symm, by show va_P _ _ _ t.heap; rw [ht]; exact hP⟩, hS.F ht⟩) hS.2.2 dX5_mean_76
          · skip
            refine lv_dconst0 hx hb dX5_mean_67 ?_
            refine lv_goto (tgt := 76) hx hb dX5_mean_68 (by decide) ?_
            rw [hQQ]
            exact W.dret (v := FP.dconst0) hx hb hr (fun t ht hW => ⟨⟨FP.dconst0, (), rfl, mean_0 hw1 (by show countA a b 2 ≤ 0; rw [c64]; exact Int32.le_refl 0), by show va_P _ _ _ t.heap; rw [ht]; exact hP⟩, hS.F ht⟩) hS.2.2 dX5_mean_76
        · skip
          have c26 := (not_congr (nI_leI (a := qN a) (b := i) (by omega) (by omega))).mp c26
          obtain ⟨w1, w2, w3, w4, w5, w6, w7, w8⟩ := hw1.2 i (by omega)
          refine lv_iload_n hx hb dX5_mean_29 rfl (lv_at hl 1 rfl) ?_
          refine lv_aload_n hx hb dX5_mean_30 rfl (lv_at hl 3 rfl) ?_
          refine va_get (D := D) (ci := 5) (v := .ref (S 0)) (C := RX5) (T := TX5) (N := 8) hx hb hts inX5 hown hE.1 hP 0 rfl rfl 6 (by decide) kf24 (fun _ h9 => h9) rfl dX5_mean_31 ?_
          refine va_getN (D := D) (ci := 4) (v := .ref (S 8)) (C := RX4) (T := TX4) (N := 13) hx hb hts inX4 hown hE.1 hP 4 rfl rfl 9 (by decide) kf73 (fun _ h9 => h9) rfl dX5_mean_34 ?_
          refine lv_iload_n hx hb dX5_mean_37 rfl (lv_at hl 0 rfl) ?_
          refine ald hx hb hE hP 12 rfl (k := i) (by omega) (Nat.le_of_ble_eq_true rfl) (v := nI (qSt a i)) rfl dX5_mean_38 ?_
          refine lv_if_ne (tgt := 54) hx hb dX5_mean_39 (by decide) (fun c39 => ?_) (fun c39 => ?_)
          · skip
            have c39 := (not_congr (nI_eq (a := qSt a i) (b := 0) (by omega) (by omega))).mp c39
            refine lv_iconst (v := 0) hx hb dX5_mean_54 (by decide) ?_
            refine lv_iadd hx hb dX5_mean_55 ?_
            refine top_i (y := placesA a (i + 1)) ((Int32.add_zero _).trans (plc_out c39).symm) ?_
            refine lv_istore_n (lv' := [(2, .int (placesA a (i + 1))), (3, .int (nI i)), (1, .int (countA a b 2)), (0, .ref y)]) hx hb dX5_mean_56 rfl hl (by decide) rfl (fun ls hl => ?_)
            refine lv_iinc (v := nI (i + 1)) (lv' := [(3, .int (nI (i + 1))), (2, .int (placesA a (i + 1))), (1, .int (countA a b 2)), (0, .ref y)]) hx hb dX5_mean_57 hl (k := 1) rfl (nI_add i 1) (by decide) rfl (fun ls hl => ?_)
            refine lv_goto (tgt := 18) hx hb dX5_mean_60 (by decide) ?_
            exact ih18 (i + 1) (by omega) (by omega) H locs hP hD hS ls (lv_sub hl [0, 1, 2, 3] rfl)
          · skip
            have c39 := (nI_eq (a := qSt a i) (b := 0) (by omega) (by omega)).mp c39
            refine lv_aload_n hx hb dX5_mean_42 rfl (lv_at hl 3 rfl) ?_
            refine va_get (D := D) (ci := 5) (v := .ref (S 0)) (C := RX5) (T := TX5) (N := 8) hx hb hts inX5 hown hE.1 hP 0 rfl rfl 6 (by decide) kf24 (fun _ h9 => h9) rfl dX5_mean_43 ?_
            refine va_getN (D := D) (ci := 4) (v := .ref (S 4)) (C := RX4) (T := TX4) (N := 13) hx hb hts inX4 hown hE.1 hP 4 rfl rfl 5 (by decide) kf94 (fun _ h9 => h9) rfl dX5_mean_46 ?_
            refine lv_iload_n hx hb dX5_mean_49 rfl (lv_at hl 0 rfl) ?_
            refine ald hx hb hE hP 8 rfl (k := i) (by omega) (Nat.le_of_ble_eq_true rfl) (v := nI (qPl a i)) rfl dX5_mean_50 ?_
            refine lv_goto (tgt := 55) hx hb dX5_mean_51 (by decide) ?_
            refine lv_iadd hx hb dX5_mean_55 ?_
            refine top_i (y := placesA a (i + 1)) ((plc_in c39).symm) ?_
            refine lv_istore_n (lv' := [(2, .int (placesA a (i + 1))), (3, .int (nI i)), (1, .int (countA a b 2)), (0, .ref y)]) hx hb dX5_mean_56 rfl hl (by decide) rfl (fun ls hl => ?_)
            refine lv_iinc (v := nI (i + 1)) (lv' := [(3, .int (nI (i + 1))), (2, .int (placesA a (i + 1))), (1, .int (countA a b 2)), (0, .ref y)]) hx hb dX5_mean_57 hl (k := 1) rfl (nI_add i 1) (by decide) rfl (fun ls hl => ?_)
            refine lv_goto (tgt := 18) hx hb dX5_mean_60 (by decide) ?_
            exact ih18 (i + 1) (by omega) (by omega) H locs hP hD hS ls (lv_sub hl [0, 1, 2, 3] rfl)
    exact L18 (qN a + 1) 0 (Nat.zero_le _) (by omega) H locs hP hD hS ls (lv_sub hl [0, 1, 2, 3] rfl)
  rw [hg1, hg2] at hgoal
  exact hgoal
