set_option maxHeartbeats 4000000 in
set_option maxRecDepth 100000 in
/-- drift -/
theorem K_X1_drift (lch : Launch) (D : va_G) (cA : ClassId) (F : Nat → Nat) (a : FSt) (c : Nat → Int32) (q : Nat → Int32) (B : Nat → Nat) (b : BSt) (i : Nat) (sz : Nat) (hi : i < qN a) (hw1 : WFa a) (hwb : WFb b) (hcr : CRa a c) : Met lch yX1_drift wsX1_drift ({ frames := 3, cells := 0, slots := 0, locals := 68 }) (Pr D cA [.ref (F 0), .int (nI i), .ref (B 0)] sz ((wF cA F a c q) ++ (wB cA B b)) X0) (va_Qv (fun (u : Nat → Int32) => CRa (driftA b a i) u) (fun (u : Nat → Int32) t => va_P D vwCl ((wF cA F (driftA b a i) u q) ++ (wB cA B b)) t.heap) (va_A ((wF cA F a c q) ++ (wB cA B b)) sz)) 0 0 (va_A ((wF cA F a c q) ++ (wB cA B b)) sz) := by
  refine Met.ofW (cc := cX1_drift) (maxL := 7) (ret := none) (by decide) rfl ?_
  intro pg ev s mi args below meth cd s₁ B hml hv
  obtain ⟨hav, hsz, hP, hE, hD, hXs⟩ := hv
  have hx := B.exec
  have hb := B.bytes
  have hr := B.returns
  have hts := atoms_spec (ws := wsX1_drift) B.pre
  have hown : s.vm.findClass RX1 = some mi.cls := findClass_of_methodNamed B.named
  have hlocks := B.notSynchronized
  clear B
  subst hav
  subst hsz
  have hD := hD.self (sz := s.heap.size)
  generalize hAe : va_A ((wF cA F a c q) ++ (wB cA B b)) s.heap.size = A at hD ⊢
  have hA : ∀ q : Nat, s.heap.size ≤ q → A q := fun q h => by rw [← hAe]; exact Or.inr h
  have hS : va_S A s.heap s.heap [] := va_S.rf
  obtain ⟨QQ, hQQ⟩ : ∃ qq9, qq9 = MQ below (va_Qv (fun (u : Nat → Int32) => CRa (driftA b a i) u) (fun (u : Nat → Int32) t => va_P D vwCl ((wF cA F (driftA b a i) u q) ++ (wB cA B b)) t.heap) A) ([.ref (F 0), .int (nI i), .ref (B 0)] : List Value).toArray s 0 0 A := ⟨_, rfl⟩
  rw [← hQQ]
  have hl := lv_entry ([.ref (F 0), .int (nI i), .ref (B 0)]) (n := 7) (Nat.le_of_ble_eq_true rfl)
  rw [lg_entry_eq]
  generalize (lg_sl ([.ref (F 0), .int (nI i), .ref (B 0)]) ++ List.replicate (7 - (lg_sl ([.ref (F 0), .int (nI i), .ref (B 0)])).length) Slot.unset).toArray = ls at hl ⊢
  have hl : lv_has ls 7 [(0, .ref (F 0)), (1, .int (nI i)), (2, .ref (B 0))] := hl
  have kf23 := hts (.fieldLink RX1 23 "LanternWeirs$Fleet" "lanes" "LLanternWeirs$Row;") (by decide +kernel)
  have inX1 : ∀ w ∈ u_ws RX1 TX1 13, w ∈ wsX1_drift := by decide +kernel
  have kf114 := hts (.fieldLink RX1 114 "LanternWeirs$Bed" "currents" "LLanternWeirs$Row;") (by decide +kernel)
  have inX0 : ∀ w ∈ u_ws RX0 TX0 5, w ∈ wsX1_drift := by decide +kernel
  have kf26 := hts (.fieldLink RX1 26 "LanternWeirs$Fleet" "places" "LLanternWeirs$Row;") (by decide +kernel)
  have kf129 := hts (.fieldLink RX1 129 "LanternWeirs$Bed" "sprays" "LLanternWeirs$Row;") (by decide +kernel)
  have kf35 := hts (.fieldLink RX1 35 "LanternWeirs$Fleet" "burning" "LLanternWeirs$Row;") (by decide +kernel)
  obtain ⟨H, locs, hP, hS, hgo⟩ : ∃ H locs, va_P D vwCl ((wF cA F a c q) ++ (wB cA B b)) H ∧ va_S A s.heap H locs ∧ (H = s.heap ∧ locs = []) := ⟨_, _, hP, hS, rfl, rfl⟩
  obtain ⟨hg1, hg2⟩ := hgo
  have hgoal : W pg lch ev (headSpec wsX1_drift ({ frames := 3, cells := 0, slots := 0, locals := 68 })).room s mi ([.ref (F 0), .int (nI i), .ref (B 0)] : List Value).toArray below meth cd H locs 0 0 QQ (F0 mi 0 ls []) := by
    have hn := hw1.1
    have wl2 := (hw1.2 i hi).2.1
    have hcu := hwb.1 (qLa a i) wl2
    refine lv_aload_n hx hb dX1_drift_0 rfl (lv_at hl 0 rfl) ?_
    refine va_get (D := D) (ci := 1) (v := .ref (F 3)) (C := RX1) (T := TX1) (N := 13) hx hb hts inX1 hown hE.1 hP 0 rfl rfl 2 (by decide) kf23 (fun _ h9 => h9) rfl dX1_drift_1 ?_
    refine lv_iload_n hx hb dX1_drift_4 rfl (lv_at hl 1 rfl) ?_
    refine pVi (As := [.int (nI i)]) (rest := []) (wc := (wR cA (F 3) (F 14) 41 (fun z9 => nI (qLa a z9)))) ⟨hx, hb, hml, hown, hts⟩ (K_X2_getk lch D cA (F 3) (F 14) 41 (fun z9 => nI (qLa a z9)) i (nI (qLa a i)) H.size (by first | omega | (have := hw2.1; omega)) (Nat.le_of_ble_eq_true rfl) (rfl)) (cwV 1 hts gX1_drift_X2_get rfl rfl rfl (by decide +kernel) ⟨Nat.le_of_ble_eq_true rfl, Nat.le_of_ble_eq_true rfl⟩) hE hP hD hS hA [3, 14] rfl rfl X0.blind (fun _ _ _ => trivial) 3 2 rfl rfl rfl hl.1 rfl rfl (Nat.le_of_ble_eq_true rfl) dX1_drift_5 ⟨Nat.zero_le _, Nat.zero_le _⟩ (fun r_1 u_2 H locs h_3 hP hS => ?_)
    subst h_3
    refine lv_istore_n (lv' := [(3, .int (nI (qLa a i))), (0, .ref (F 0)), (1, .int (nI i)), (2, .ref (B 0))]) hx hb dX1_drift_8 rfl hl (by decide) rfl (fun ls hl => ?_)
    refine lv_aload_n hx hb dX1_drift_9 rfl (lv_at hl 3 rfl) ?_
    refine va_get (D := D) (ci := 0) (v := .ref (B 1)) (C := RX0) (T := TX0) (N := 5) hx hb hts inX0 hown hE.1 hP 23 rfl rfl 0 (by decide) kf114 (fun _ h9 => h9) rfl dX1_drift_10 ?_
    refine lv_iload_n hx hb dX1_drift_13 rfl (lv_at hl 0 rfl) ?_
    refine pVi (As := [.int (nI (qLa a i))]) (rest := []) (wc := (wR cA (B 1) (B 4) 3 (fun z9 => nI (bCu b z9)))) ⟨hx, hb, hml, hown, hts⟩ (K_X2_getk lch D cA (B 1) (B 4) 3 (fun z9 => nI (bCu b z9)) (qLa a i) (nI (bCu b (qLa a i))) H.size (by first | omega | (have := hw2.1; omega)) (Nat.le_of_ble_eq_true rfl) (rfl)) (cwV 1 hts gX1_drift_X2_get rfl rfl rfl (by decide +kernel) ⟨Nat.le_of_ble_eq_true rfl, Nat.le_of_ble_eq_true rfl⟩) hE hP hD hS hA [24, 27] rfl rfl X0.blind (fun _ _ _ => trivial) 24 2 rfl rfl rfl hl.1 rfl rfl (Nat.le_of_ble_eq_true rfl) dX1_drift_14 ⟨Nat.zero_le _, Nat.zero_le _⟩ (fun r_4 u_5 H locs h_6 hP hS => ?_)
    subst h_6
    refine lv_istore (lv' := [(4, .int (nI (bCu b (qLa a i)))), (3, .int (nI (qLa a i))), (0, .ref (F 0)), (1, .int (nI i)), (2, .ref (B 0))]) hx hb dX1_drift_17 hl (by decide) rfl (fun ls hl => ?_)
    refine lv_iconst (v := 0) hx hb dX1_drift_19 (by decide) ?_
    refine lv_istore (lv' := [(5, .int 0), (4, .int (nI (bCu b (qLa a i)))), (3, .int (nI (qLa a i))), (0, .ref (F 0)), (1, .int (nI i)), (2, .ref (B 0))]) hx hb dX1_drift_20 hl (by decide) rfl (fun ls hl => ?_)
    have L22 : ∀ (fu22 : Nat) (t : Nat) (a1 : FSt) (c1 : Nat → Int32), (t ≤ bCu b (qLa a i)) → (driftN b (bCu b (qLa a i) - t) a1 i = driftA b a i) → (WFa a1) → (CRa a1 c1) → (qN a1 = qN a) → (qLa a1 i = qLa a i) → bCu b (qLa a i) - t < fu22 → ∀ (H : Heap) (locs : List Loc), va_P D vwCl ((wF cA F a1 c1 q) ++ (wB cA B b)) H → va_D A ((wF cA F a1 c1 q) ++ (wB cA B b)) → va_S A s.heap H locs → ∀ ls : Array Slot, lv_has ls 7 [(5, .int (nI t)), (4, .int (nI (bCu b (qLa a i)))), (3, .int (nI (qLa a i))), (0, .ref (F 0)), (1, .int (nI i)), (2, .ref (B 0))] → W pg lch ev (headSpec wsX1_drift ({ frames := 3, cells := 0, slots := 0, locals := 68 })).room s mi ([.ref (F 0), .int (nI i), .ref (B 0)] : List Value).toArray below meth cd H locs 0 0 QQ (F0 mi 22 ls []) := by
      intro fu22
      induction fu22 with
      | zero => intro t a1 c1 ht hd hw2 hc1 hN hL hms; exact absurd hms (Nat.not_lt_zero _)
      | succ fu22 ih22 =>
        intro t a1 c1 ht hd hw2 hc1 hN hL hms22 H locs hP hD hS ls hl
        have hk1 : i < qN a1 := by rw [hN]; exact hi
        obtain ⟨w1, w2, w3, w4, w5, w6, w7, w8⟩ := hw2.2 i hk1
        refine lv_iload hx hb dX1_drift_22 (lv_at hl 0 rfl) ?_
        refine lv_iload hx hb dX1_drift_24 (lv_at hl 1 rfl) ?_
        refine lv_icmp_ge (tgt := 126) hx hb dX1_drift_26 (by decide) (fun c26 => ?_) (fun c26 => ?_)
        · skip
          have c26 := (nI_leI (a := bCu b (qLa a i)) (b := t) (by omega) (by omega)).mp c26
          have ed : driftA b a i = a1 := by rw [← hd, show bCu b (qLa a i) - t = 0 by omega]; rfl
          have hP : va_P D vwCl ((wF cA F (driftA b a i) c1 q) ++ (wB cA B b)) H := by rw [ed]; exact hP
          rw [hQQ]
          exact W.vret hx hb hr (fun t ht hW => ⟨⟨c1, rfl, by rw [ed]; exact hc1, by show va_P _ _ _ t.heap; rw [ht]; exact hP⟩, hS.F ht⟩) hS.2.2 dX1_drift_126
        · skip
          have c26 := (not_congr (nI_leI (a := bCu b (qLa a i)) (b := t) (by omega) (by omega))).mp c26
          refine lv_aload_n hx hb dX1_drift_29 rfl (lv_at hl 3 rfl) ?_
          refine lv_iload_n hx hb dX1_drift_30 rfl (lv_at hl 4 rfl) ?_
          refine pVi (As := [.int (nI i)]) (rest := []) (wc := (wF cA F a1 c1 q)) ⟨hx, hb, hml, hown, hts⟩ (K_X1_isAfloat lch D cA F a1 c1 q i H.size (hk1) (hw2.1) (w4)) (cwV 1 hts gX1_drift_X1_isAfloat rfl rfl rfl (by decide +kernel) ⟨Nat.le_of_ble_eq_true rfl, Nat.le_of_ble_eq_true rfl⟩) hE hP hD hS hA [0, 1, 2, 3, 4, 5, 6, 7, 8, 9, 10, 11, 12, 13, 14, 15, 16, 17, 18, 19, 20, 21, 22] rfl rfl X0.blind (fun _ _ _ => trivial) 0 1 rfl rfl rfl hl.1 rfl rfl (Nat.le_of_ble_eq_true rfl) dX1_drift_31 ⟨Nat.zero_le _, Nat.zero_le _⟩ (fun r_7 u_8 H locs h_9 hP hS => ?_)
          subst h_9
          refine lv_if_eq (tgt := 126) hx hb dX1_drift_34 (by decide) (fun c34 => ?_) (fun c34 => ?_)
          · skip
            have c34 := bi_0.mp c34
            have ed : driftA b a i = a1 := hd.symm.trans (drift_stop (Or.inl (by simpa using c34)) _)
            have hP : va_P D vwCl ((wF cA F (driftA b a i) c1 q) ++ (wB cA B b)) H := by rw [ed]; exact hP
            rw [hQQ]
            exact W.vret hx hb hr (fun t ht hW => ⟨⟨c1, rfl, by rw [ed]; exact hc1, by show va_P _ _ _ t.heap; rw [ht]; exact hP⟩, hS.F ht⟩) hS.2.2 dX1_drift_126
          · skip
            have c34 := bi_1.mp c34
            have hst : qSt a1 i = 0 := by simpa using c34
            have h59 := w5 hst
            refine lv_aload_n hx hb dX1_drift_37 rfl (lv_at hl 3 rfl) ?_
            refine lv_iload_n hx hb dX1_drift_38 rfl (lv_at hl 4 rfl) ?_
            refine pVi (As := [.int (nI i)]) (rest := []) (wc := (wF cA F a1 c1 q)) ⟨hx, hb, hml, hown, hts⟩ (K_X1_catchesAhead lch D cA F a1 c1 q i H.size (hk1) (hw2) (hc1)) (cwV 1 hts gX1_drift_X1_catchesAhead rfl rfl rfl (by decide +kernel) ⟨Nat.le_of_ble_eq_true rfl, Nat.le_of_ble_eq_true rfl⟩) hE hP hD hS hA [0, 1, 2, 3, 4, 5, 6, 7, 8, 9, 10, 11, 12, 13, 14, 15, 16, 17, 18, 19, 20, 21, 22] rfl rfl X0.blind (fun _ _ _ => trivial) 0 1 rfl rfl rfl hl.1 rfl rfl (Nat.le_of_ble_eq_true rfl) dX1_drift_39 ⟨Nat.zero_le _, Nat.zero_le _⟩ (fun r_10 u_11 H locs h_12 hP hS => ?_)
            subst h_12
            refine lv_if_ne (tgt := 126) hx hb dX1_drift_42 (by decide) (fun c42 => ?_) (fun c42 => ?_)
            · skip
              have c42 := bi_1.mp c42
              have ed : driftA b a i = a1 := hd.symm.trans (drift_stop (Or.inr c42) _)
              have hP : va_P D vwCl ((wF cA F (driftA b a i) c1 q) ++ (wB cA B b)) H := by rw [ed]; exact hP
              rw [hQQ]
              exact W.vret hx hb hr (fun t ht hW => ⟨⟨c1, rfl, by rw [ed]; exact hc1, by show va_P _ _ _ t.heap; rw [ht]; exact hP⟩, hS.F ht⟩) hS.2.2 dX1_drift_126
            · skip
              have c42 := bi_0.mp c42
              refine lv_aload_n hx hb dX1_drift_45 rfl (lv_at hl 3 rfl) ?_
              refine va_get (D := D) (ci := 1) (v := .ref (F 4)) (C := RX1) (T := TX1) (N := 13) hx hb hts inX1 hown hE.1 hP 0 rfl rfl 3 (by decide) kf26 (fun _ h9 => h9) rfl dX1_drift_46 ?_
              refine lv_iload_n hx hb dX1_drift_49 rfl (lv_at hl 4 rfl) ?_
              refine pVi (As := [.int (nI i)]) (rest := []) (wc := (wR cA (F 4) (F 15) 41 (fun z9 => nI (qPl a1 z9)))) ⟨hx, hb, hml, hown, hts⟩ (K_X2_getk lch D cA (F 4) (F 15) 41 (fun z9 => nI (qPl a1 z9)) i (nI (qPl a1 i)) H.size (by first | omega | (have := hw2.1; omega)) (Nat.le_of_ble_eq_true rfl) (rfl)) (cwV 1 hts gX1_drift_X2_get rfl rfl rfl (by decide +kernel) ⟨Nat.le_of_ble_eq_true rfl, Nat.le_of_ble_eq_true rfl⟩) hE hP hD hS hA [4, 15] rfl rfl X0.blind (fun _ _ _ => trivial) 4 2 rfl rfl rfl hl.1 rfl rfl (Nat.le_of_ble_eq_true rfl) dX1_drift_50 ⟨Nat.zero_le _, Nat.zero_le _⟩ (fun r_13 u_14 H locs h_15 hP hS => ?_)
              subst h_15
              refine lv_iconst (v := 1) hx hb dX1_drift_53 (by decide) ?_
              refine lv_iadd hx hb dX1_drift_54 ?_
              refine top_i (y := nI ((qPl a1 i) + 1)) (nI_add _ _) ?_
              refine lv_istore (lv' := [(6, .int (nI ((qPl a1 i) + 1))), (5, .int (nI t)), (4, .int (nI (bCu b (qLa a i)))), (3, .int (nI (qLa a i))), (0, .ref (F 0)), (1, .int (nI i)), (2, .ref (B 0))]) hx hb dX1_drift_55 hl (by decide) rfl (fun ls hl => ?_)
              refine lv_aload_n hx hb dX1_drift_57 rfl (lv_at hl 4 rfl) ?_
              refine lv_iload_n hx hb dX1_drift_58 rfl (lv_at hl 5 rfl) ?_
              refine lv_iload_n hx hb dX1_drift_59 rfl (lv_at hl 3 rfl) ?_
              refine lv_iload hx hb dX1_drift_60 (lv_at hl 0 rfl) ?_
              refine cVv (wB := fun (u_17 : Unit) => (wF cA F (mvA a1 i (qLa a i) ((qPl a1 i) + 1)) (cby (mvA a1 i (qLa a i) ((qPl a1 i) + 1)) (cby a1 c1 i (-1)) i 1) q)) (As := [.int (nI i), .int (nI (qLa a i)), .int (nI ((qPl a1 i) + 1))]) (rest := []) (wc := (wF cA F a1 c1 q)) ⟨hx, hb, hml, hown, hts⟩ (K_X1_moveTo lch D cA F a1 c1 q i (qLa a i) ((qPl a1 i) + 1) H.size (by have := hw2.1; omega) (w3) (by omega)) (cwV 3 hts gX1_drift_X1_moveTo rfl rfl rfl (by decide +kernel) ⟨Nat.le_of_ble_eq_true rfl, Nat.le_of_ble_eq_true rfl⟩) hE hP hD hS hA [0, 1, 2, 3, 4, 5, 6, 7, 8, 9, 10, 11, 12, 13, 14, 15, 16, 17, 18, 19, 20, 21, 22] rfl rfl [F 0, F 1, F 2, F 3, F 4, F 5, F 6, F 7, F 8, F 9, F 10, F 11, F 12, F 13, F 14, F 15, F 16, F 17, F 18, F 19, F 20, F 21, F 22] (fun _ => rfl) rfl (fun (u_17 : Unit) => ((wF cA F (mvA a1 i (qLa a i) ((qPl a1 i) + 1)) (cby (mvA a1 i (qLa a i) ((qPl a1 i) + 1)) (cby a1 c1 i (-1)) i 1) q) ++ (wB cA B b))) (fun _ => pst_blk [] (wB cA B b) (wc := (wF cA F a1 c1 q)) 23 0 rfl rfl rfl rfl rfl rfl) X0.blind (fun _ _ _ => trivial) 0 1 rfl rfl rfl hl.1 rfl rfl (Nat.le_of_ble_eq_true rfl) dX1_drift_62 ⟨Nat.zero_le _, Nat.zero_le _⟩ (fun u_17 H locs h_18 hP hD hS => ?_)
              have em : mvA a1 i (qLa a i) (qPl a1 i + 1) = movA a1 i := by rw [← hL]; exact mv_mov a1 i
              have hc2 : CRa (movA a1 i) (cby (movA a1 i) (cby a1 c1 i (-1)) i 1) := by have h9 := CR_move (l := qLa a i) (p := qPl a1 i + 1) hc1 ⟨by rw [hL]; exact wl2, w1⟩ hk1 hst wl2; rw [em] at h9; exact h9
              rw [em] at hP hD
              refine lv_iload hx hb dX1_drift_65 (lv_at hl 0 rfl) ?_
              refine lv_bipush (v := 60) hx hb dX1_drift_67 (by decide) ?_
              refine lv_icmp_lt (tgt := 90) hx hb dX1_drift_69 (by decide) (fun c69 => ?_) (fun c69 => ?_)
              · skip
                have c69 := (nI_ltI (a := (qPl a1 i) + 1) (b := 60) (by omega) (by omega)).mp c69
                refine lv_aload_n hx hb dX1_drift_90 rfl (lv_at hl 4 rfl) ?_
                refine lv_iload_n hx hb dX1_drift_91 rfl (lv_at hl 5 rfl) ?_
                refine lv_aload_n hx hb dX1_drift_92 rfl (lv_at hl 6 rfl) ?_
                refine va_get (D := D) (ci := 0) (v := .ref (B 2)) (C := RX0) (T := TX0) (N := 5) hx hb hts inX0 hown hE.1 hP 23 rfl rfl 1 (by decide) kf129 (fun _ h9 => h9) rfl dX1_drift_93 ?_
                refine lv_iload hx hb dX1_drift_96 (lv_at hl 0 rfl) ?_
                refine pVi (As := [.int (nI ((qPl a1 i) + 1))]) (rest := [.int (nI i), .ref (F 0)]) (wc := (wR cA (B 2) (B 5) 60 (bSp b))) ⟨hx, hb, hml, hown, hts⟩ (K_X2_getk lch D cA (B 2) (B 5) 60 (bSp b) ((qPl a1 i) + 1) (bSp b ((qPl a1 i) + 1)) H.size (by first | omega | (have := hw2.1; omega)) (Nat.le_of_ble_eq_true rfl) (rfl)) (cwV 1 hts gX1_drift_X2_get rfl rfl rfl (by decide +kernel) ⟨Nat.le_of_ble_eq_true rfl, Nat.le_of_ble_eq_true rfl⟩) hE hP hD hS hA [25, 28] rfl rfl X0.blind (fun _ _ _ => trivial) 25 2 rfl rfl rfl hl.1 rfl rfl (Nat.le_of_ble_eq_true rfl) dX1_drift_98 ⟨Nat.zero_le _, Nat.zero_le _⟩ (fun r_19 u_20 H locs h_21 hP hS => ?_)
                subst h_21
                refine cVv (wB := fun (u_23 : Unit) => (wF cA F (metA (bSp b ((qPl a1 i) + 1)) (movA a1 i) i) ((cby (movA a1 i) (cby a1 c1 i (-1)) i 1)) q)) (As := [.int (nI i), .int (bSp b ((qPl a1 i) + 1))]) (rest := []) (wc := (wF cA F (movA a1 i) ((cby (movA a1 i) (cby a1 c1 i (-1)) i 1)) q)) ⟨hx, hb, hml, hown, hts⟩ (K_X1_meetWeir lch D cA F (movA a1 i) ((cby (movA a1 i) (cby a1 c1 i (-1)) i 1)) q i (bSp b ((qPl a1 i) + 1)) H.size (hk1) (WFa_mov (k := i) hw2 (by omega)) (hc2)) (cwV 2 hts gX1_drift_X1_meetWeir rfl rfl rfl (by decide +kernel) ⟨Nat.le_of_ble_eq_true rfl, Nat.le_of_ble_eq_true rfl⟩) hE hP hD hS hA [0, 1, 2, 3, 4, 5, 6, 7, 8, 9, 10, 11, 12, 13, 14, 15, 16, 17, 18, 19, 20, 21, 22] rfl rfl [F 0, F 1, F 2, F 3, F 4, F 5, F 6, F 7, F 8, F 9, F 10, F 11, F 12, F 13, F 14, F 15, F 16, F 17, F 18, F 19, F 20, F 21, F 22] (fun _ => rfl) rfl (fun (u_23 : Unit) => ((wF cA F (metA (bSp b ((qPl a1 i) + 1)) (movA a1 i) i) ((cby (movA a1 i) (cby a1 c1 i (-1)) i 1)) q) ++ (wB cA B b))) (fun _ => pst_blk [] (wB cA B b) (wc := (wF cA F (movA a1 i) ((cby (movA a1 i) (cby a1 c1 i (-1)) i 1)) q)) 23 0 rfl rfl rfl rfl rfl rfl) X0.blind (fun _ _ _ => trivial) 0 1 rfl rfl rfl hl.1 rfl rfl (Nat.le_of_ble_eq_true rfl) dX1_drift_101 ⟨Nat.zero_le _, Nat.zero_le _⟩ (fun u_23 H locs h_24 hP hD hS => ?_)
                obtain ⟨m1, m2, m3, m4, m5, m6, m7⟩ := met_same (bSp b (qPl a1 i + 1)) (movA a1 i) i
                have hc3 : CRa (metA (bSp b (qPl a1 i + 1)) (movA a1 i) i) (cby (movA a1 i) (cby a1 c1 i (-1)) i 1) := CRa_same hc2 m1 m2 m3 m4 m5
                refine lv_aload_n hx hb dX1_drift_104 rfl (lv_at hl 6 rfl) ?_
                refine lv_iload_n hx hb dX1_drift_105 rfl (lv_at hl 3 rfl) ?_
                refine lv_iload hx hb dX1_drift_106 (lv_at hl 0 rfl) ?_
                refine pVi (As := [.int (nI (qLa a i)), .int (nI ((qPl a1 i) + 1))]) (rest := []) (wc := (wB cA B b)) ⟨hx, hb, hml, hown, hts⟩ (K_X0_hasNet lch D cA B b (qLa a i) ((qPl a1 i) + 1) H.size (wl2) (by omega)) (cwV 2 hts gX1_drift_X0_hasNet rfl rfl rfl (by decide +kernel) ⟨Nat.le_of_ble_eq_true rfl, Nat.le_of_ble_eq_true rfl⟩) hE hP hD hS hA [23, 24, 25, 26, 27, 28, 29] rfl rfl X0.blind (fun _ _ _ => trivial) 23 0 rfl rfl rfl hl.1 rfl rfl (Nat.le_of_ble_eq_true rfl) dX1_drift_108 ⟨Nat.zero_le _, Nat.zero_le _⟩ (fun r_25 u_26 H locs h_27 hP hS => ?_)
                subst h_27
                refine lv_if_eq (tgt := 120) hx hb dX1_drift_111 (by decide) (fun c111 => ?_) (fun c111 => ?_)
                · skip
                  have c111 := bi_0.mp c111
                  refine lv_iinc (v := nI (t + 1)) (lv' := [(5, .int (nI (t + 1))), (6, .int (nI ((qPl a1 i) + 1))), (4, .int (nI (bCu b (qLa a i)))), (3, .int (nI (qLa a i))), (0, .ref (F 0)), (1, .int (nI i)), (2, .ref (B 0))]) hx hb dX1_drift_120 hl (k := 1) rfl (nI_add t 1) (by decide) rfl (fun ls hl => ?_)
                  refine lv_goto (tgt := 22) hx hb dX1_drift_123 (by decide) ?_
                  have h60 : ¬ qPl a1 i + 1 = 60 := by omega
                  have e8 : stepA b a1 i = (metA (bSp b (qPl a1 i + 1)) (movA a1 i) i) := by rw [step_on h60]; exact net_no _ (by rw [hL]; exact c111)
                  have hP : va_P D vwCl ((wF cA F (stepA b a1 i) ((cby (movA a1 i) (cby a1 c1 i (-1)) i 1)) q) ++ (wB cA B b)) H := by rw [e8]; exact hP
                  have hD : va_D A ((wF cA F (stepA b a1 i) ((cby (movA a1 i) (cby a1 c1 i (-1)) i 1)) q) ++ (wB cA B b)) := by rw [e8]; exact hD
                  have hc4 : CRa (stepA b a1 i) (cby (movA a1 i) (cby a1 c1 i (-1)) i 1) := by rw [e8]; exact hc3
                  obtain ⟨k1, k2, k3, k4, k5⟩ := step_keep (b := b) hw2 hk1 hst
                  have hdn := drift_go (b := b) (k := i) (n := bCu b (qLa a i) - (t + 1)) (a := a1) hst c42
                  rw [show bCu b (qLa a i) - (t + 1) + 1 = bCu b (qLa a i) - t by omega, hd] at hdn
                  exact ih22 (t + 1) (stepA b a1 i) ((cby (movA a1 i) (cby a1 c1 i (-1)) i 1)) (by omega) (hdn.symm) (k1) (hc4) (k2.trans hN) (by rw [k3]; exact hL) (by omega) H locs hP hD hS ls (lv_sub hl [0, 2, 3, 4, 5, 6] rfl)
                · skip
                  have c111 := bi_1.mp c111
                  refine lv_aload_n hx hb dX1_drift_114 rfl (lv_at hl 4 rfl) ?_
                  refine lv_iload_n hx hb dX1_drift_115 rfl (lv_at hl 5 rfl) ?_
                  refine lv_iconst (v := 1) hx hb dX1_drift_116 (by decide) ?_
                  refine cVv (wB := fun (u_29 : Unit) => (wF cA F (endA (metA (bSp b ((qPl a1 i) + 1)) (movA a1 i) i) i 1) (cby (metA (bSp b ((qPl a1 i) + 1)) (movA a1 i) i) ((cby (movA a1 i) (cby a1 c1 i (-1)) i 1)) i (-1)) q)) (As := [.int (nI i), .int 1]) (rest := []) (wc := (wF cA F (metA (bSp b ((qPl a1 i) + 1)) (movA a1 i) i) ((cby (movA a1 i) (cby a1 c1 i (-1)) i 1)) q)) ⟨hx, hb, hml, hown, hts⟩ (K_X1_leave lch D cA F (metA (bSp b ((qPl a1 i) + 1)) (movA a1 i) i) ((cby (movA a1 i) (cby a1 c1 i (-1)) i 1)) q i 1 H.size (by have := hw2.1; omega) (by rw [m4, mov_at]; omega)) (cwV 2 hts gX1_drift_X1_leave rfl rfl rfl (by decide +kernel) ⟨Nat.le_of_ble_eq_true rfl, Nat.le_of_ble_eq_true rfl⟩) hE hP hD hS hA [0, 1, 2, 3, 4, 5, 6, 7, 8, 9, 10, 11, 12, 13, 14, 15, 16, 17, 18, 19, 20, 21, 22] rfl rfl [F 0, F 1, F 2, F 3, F 4, F 5, F 6, F 7, F 8, F 9, F 10, F 11, F 12, F 13, F 14, F 15, F 16, F 17, F 18, F 19, F 20, F 21, F 22] (fun _ => rfl) rfl (fun (u_29 : Unit) => ((wF cA F (endA (metA (bSp b ((qPl a1 i) + 1)) (movA a1 i) i) i 1) (cby (metA (bSp b ((qPl a1 i) + 1)) (movA a1 i) i) ((cby (movA a1 i) (cby a1 c1 i (-1)) i 1)) i (-1)) q) ++ (wB cA B b))) (fun _ => pst_blk [] (wB cA B b) (wc := (wF cA F (metA (bSp b ((qPl a1 i) + 1)) (movA a1 i) i) ((cby (movA a1 i) (cby a1 c1 i (-1)) i 1)) q)) 23 0 rfl rfl rfl rfl rfl rfl) X0.blind (fun _ _ _ => trivial) 0 1 rfl rfl rfl hl.1 rfl rfl (Nat.le_of_ble_eq_true rfl) dX1_drift_117 ⟨Nat.zero_le _, Nat.zero_le _⟩ (fun u_29 H locs h_30 hP hD hS => ?_)
                  refine lv_iinc (v := nI (t + 1)) (lv' := [(5, .int (nI (t + 1))), (6, .int (nI ((qPl a1 i) + 1))), (4, .int (nI (bCu b (qLa a i)))), (3, .int (nI (qLa a i))), (0, .ref (F 0)), (1, .int (nI i)), (2, .ref (B 0))]) hx hb dX1_drift_120 hl (k := 1) rfl (nI_add t 1) (by decide) rfl (fun ls hl => ?_)
                  refine lv_goto (tgt := 22) hx hb dX1_drift_123 (by decide) ?_
                  have h60 : ¬ qPl a1 i + 1 = 60 := by omega
                  have e8 : stepA b a1 i = endA (metA (bSp b (qPl a1 i + 1)) (movA a1 i) i) i 1 := by rw [step_on h60]; exact net_at _ (by rw [hL]; exact c111)
                  have hP : va_P D vwCl ((wF cA F (stepA b a1 i) ((cby (metA (bSp b (qPl a1 i + 1)) (movA a1 i) i) (cby (movA a1 i) (cby a1 c1 i (-1)) i 1) i (-1))) q) ++ (wB cA B b)) H := by rw [e8]; exact hP
                  have hD : va_D A ((wF cA F (stepA b a1 i) ((cby (metA (bSp b (qPl a1 i + 1)) (movA a1 i) i) (cby (movA a1 i) (cby a1 c1 i (-1)) i 1) i (-1))) q) ++ (wB cA B b)) := by rw [e8]; exact hD
                  have hc4 : CRa (stepA b a1 i) (cby (metA (bSp b (qPl a1 i + 1)) (movA a1 i) i) (cby (movA a1 i) (cby a1 c1 i (-1)) i 1) i (-1)) := by rw [e8]; exact CR_leave hc3 ⟨by rw [m3]; show qLa a1 i < 3; rw [hL]; exact wl2, by rw [m2]; exact w1⟩ (by rw [m1]; exact hk1) (by rw [m5]; exact hst) (by decide)
                  obtain ⟨k1, k2, k3, k4, k5⟩ := step_keep (b := b) hw2 hk1 hst
                  have hdn := drift_go (b := b) (k := i) (n := bCu b (qLa a i) - (t + 1)) (a := a1) hst c42
                  rw [show bCu b (qLa a i) - (t + 1) + 1 = bCu b (qLa a i) - t by omega, hd] at hdn
                  exact ih22 (t + 1) (stepA b a1 i) ((cby (metA (bSp b (qPl a1 i + 1)) (movA a1 i) i) (cby (movA a1 i) (cby a1 c1 i (-1)) i 1) i (-1))) (by omega) (hdn.symm) (k1) (hc4) (k2.trans hN) (by rw [k3]; exact hL) (by omega) H locs hP hD hS ls (lv_sub hl [0, 2, 3, 4, 5, 6] rfl)
              · skip
                have c69 := (not_congr (nI_ltI (a := (qPl a1 i) + 1) (b := 60) (by omega) (by omega))).mp c69
                refine lv_aload_n hx hb dX1_drift_72 rfl (lv_at hl 4 rfl) ?_
                refine va_get (D := D) (ci := 1) (v := .ref (F 7)) (C := RX1) (T := TX1) (N := 13) hx hb hts inX1 hown hE.1 hP 0 rfl rfl 6 (by decide) kf35 (fun _ h9 => h9) rfl dX1_drift_73 ?_
                refine lv_iload_n hx hb dX1_drift_76 rfl (lv_at hl 5 rfl) ?_
                refine lv_iconst (v := 0) hx hb dX1_drift_77 (by decide) ?_
                refine cVv (wB := fun (u_32 : Unit) => (wR cA (F 7) (F 18) 41 (fun z9 => bi (qBu (outA (movA a1 i) i) z9)))) (As := [.int (nI i), .int 0]) (rest := []) (wc := (wR cA (F 7) (F 18) 41 (fun z9 => bi (qBu (movA a1 i) z9)))) ⟨hx, hb, hml, hown, hts⟩ (K_X2_putk lch D cA (F 7) (F 18) 41 (fun z9 => bi (qBu (movA a1 i) z9)) i 0 (fun z9 => bi (qBu (outA (movA a1 i) i) z9)) H.size (by first | omega | (have := hw2.1; omega)) (Nat.le_of_ble_eq_true rfl) (fun j _ => upd_B (v := false) j)) (cwV 2 hts gX1_drift_X2_put rfl rfl rfl (by decide +kernel) ⟨Nat.le_of_ble_eq_true rfl, Nat.le_of_ble_eq_true rfl⟩) hE hP hD hS hA [7, 18] rfl rfl [F 7, F 18] (fun _ => rfl) rfl (fun (u_32 : Unit) => ((wF cA F (outA (movA a1 i) i) ((cby (movA a1 i) (cby a1 c1 i (-1)) i 1)) q) ++ (wB cA B b))) (fun _ => rfl) X0.blind (fun _ _ _ => trivial) 7 2 rfl rfl rfl hl.1 rfl rfl (Nat.le_of_ble_eq_true rfl) dX1_drift_78 ⟨Nat.zero_le _, Nat.zero_le _⟩ (fun u_32 H locs h_33 hP hD hS => ?_)
                refine lv_aload_n hx hb dX1_drift_81 rfl (lv_at hl 4 rfl) ?_
                refine lv_iload_n hx hb dX1_drift_82 rfl (lv_at hl 5 rfl) ?_
                refine lv_iconst (v := 2) hx hb dX1_drift_83 (by decide) ?_
                refine cVv (wB := fun (u_35 : Unit) => (wF cA F (endA (outA (movA a1 i) i) i 2) (cby (outA (movA a1 i) i) ((cby (movA a1 i) (cby a1 c1 i (-1)) i 1)) i (-1)) q)) (As := [.int (nI i), .int 2]) (rest := []) (wc := (wF cA F (outA (movA a1 i) i) ((cby (movA a1 i) (cby a1 c1 i (-1)) i 1)) q)) ⟨hx, hb, hml, hown, hts⟩ (K_X1_leave lch D cA F (outA (movA a1 i) i) ((cby (movA a1 i) (cby a1 c1 i (-1)) i 1)) q i 2 H.size (by have := hw2.1; omega) (by show qPl (movA a1 i) i ≤ 60; rw [mov_at]; omega)) (cwV 2 hts gX1_drift_X1_leave rfl rfl rfl (by decide +kernel) ⟨Nat.le_of_ble_eq_true rfl, Nat.le_of_ble_eq_true rfl⟩) hE hP hD hS hA [0, 1, 2, 3, 4, 5, 6, 7, 8, 9, 10, 11, 12, 13, 14, 15, 16, 17, 18, 19, 20, 21, 22] rfl rfl [F 0, F 1, F 2, F 3, F 4, F 5, F 6, F 7, F 8, F 9, F 10, F 11, F 12, F 13, F 14, F 15, F 16, F 17, F 18, F 19, F 20, F 21, F 22] (fun _ => rfl) rfl (fun (u_35 : Unit) => ((wF cA F (endA (outA (movA a1 i) i) i 2) (cby (outA (movA a1 i) i) ((cby (movA a1 i) (cby a1 c1 i (-1)) i 1)) i (-1)) q) ++ (wB cA B b))) (fun _ => pst_blk [] (wB cA B b) (wc := (wF cA F (outA (movA a1 i) i) ((cby (movA a1 i) (cby a1 c1 i (-1)) i 1)) q)) 23 0 rfl rfl rfl rfl rfl rfl) X0.blind (fun _ _ _ => trivial) 0 1 rfl rfl rfl hl.1 rfl rfl (Nat.le_of_ble_eq_true rfl) dX1_drift_84 ⟨Nat.zero_le _, Nat.zero_le _⟩ (fun u_35 H locs h_36 hP hD hS => ?_)
                refine lv_goto (tgt := 120) hx hb dX1_drift_87 (by decide) ?_
                refine lv_iinc (v := nI (t + 1)) (lv' := [(5, .int (nI (t + 1))), (6, .int (nI ((qPl a1 i) + 1))), (4, .int (nI (bCu b (qLa a i)))), (3, .int (nI (qLa a i))), (0, .ref (F 0)), (1, .int (nI i)), (2, .ref (B 0))]) hx hb dX1_drift_120 hl (k := 1) rfl (nI_add t 1) (by decide) rfl (fun ls hl => ?_)
                refine lv_goto (tgt := 22) hx hb dX1_drift_123 (by decide) ?_
                have h60 : qPl a1 i + 1 = 60 := by omega
                have e8 : stepA b a1 i = endA (outA (movA a1 i) i) i 2 := step_lost h60
                have hP : va_P D vwCl ((wF cA F (stepA b a1 i) ((cby (outA (movA a1 i) i) (cby (movA a1 i) (cby a1 c1 i (-1)) i 1) i (-1))) q) ++ (wB cA B b)) H := by rw [e8]; exact hP
                have hD : va_D A ((wF cA F (stepA b a1 i) ((cby (outA (movA a1 i) i) (cby (movA a1 i) (cby a1 c1 i (-1)) i 1) i (-1))) q) ++ (wB cA B b)) := by rw [e8]; exact hD
                have hc3 : CRa (outA (movA a1 i) i) (cby (movA a1 i) (cby a1 c1 i (-1)) i 1) := CRa_same hc2 rfl rfl rfl rfl rfl
                have hc4 : CRa (stepA b a1 i) (cby (outA (movA a1 i) i) (cby (movA a1 i) (cby a1 c1 i (-1)) i 1) i (-1)) := by rw [e8]; exact CR_leave hc3 ⟨by show qLa a1 i < 3; rw [hL]; exact wl2, w1⟩ hk1 hst (by decide)
                obtain ⟨k1, k2, k3, k4, k5⟩ := step_keep (b := b) hw2 hk1 hst
                have hdn := drift_go (b := b) (k := i) (n := bCu b (qLa a i) - (t + 1)) (a := a1) hst c42
                rw [show bCu b (qLa a i) - (t + 1) + 1 = bCu b (qLa a i) - t by omega, hd] at hdn
                exact ih22 (t + 1) (stepA b a1 i) ((cby (outA (movA a1 i) i) (cby (movA a1 i) (cby a1 c1 i (-1)) i 1) i (-1))) (by omega) (hdn.symm) (k1) (hc4) (k2.trans hN) (by rw [k3]; exact hL) (by omega) H locs hP hD hS ls (lv_sub hl [0, 2, 3, 4, 5, 6] rfl)
    exact L22 (bCu b (qLa a i) + 1) 0 a c (Nat.zero_le _) (rfl) (hw1) (hcr) (rfl) (rfl) (by omega) H locs hP hD hS ls (lv_sub hl [0, 1, 2, 3, 4, 5] rfl)
  rw [hg1, hg2] at hgoal
  exact hgoal
