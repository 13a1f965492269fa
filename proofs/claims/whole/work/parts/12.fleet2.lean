set_option maxHeartbeats 4000000 in
set_option maxRecDepth 100000 in
/-- catchesAhead -/
theorem K_X1_catchesAhead (lch : Launch) (D : va_G) (cA : ClassId) (F : Nat → Nat) (a : FSt) (c : Nat → Int32) (q : Nat → Int32) (i : Nat) (sz : Nat) (hi : i < qN a) (hw1 : WFa a) (hcr : CRa a c) : Met lch yX1_catchesAhead wsX1_catchesAhead ({ frames := 1, cells := 0, slots := 0, locals := 22 }) (Pr D cA [.ref (F 0), .int (nI i)] sz (wF cA F a c q) X0) (va_Qi (fun (r : Int32) (u : Unit) => r = bi (caughtA a i)) (fun _ _ => True) (fun q : Nat => sz ≤ q)) 0 0 (fun q : Nat => sz ≤ q) := by
  refine Met.ofW (cc := cX1_catchesAhead) (maxL := 4) (ret := (some .boolean)) (by decide) rfl ?_
  intro pg ev s mi args below meth cd s₁ B hml hv
  obtain ⟨hav, hsz, hP, hE, hD, hXs⟩ := hv
  have hx := B.exec
  have hb := B.bytes
  have hr := B.returns
  have hts := atoms_spec (ws := wsX1_catchesAhead) B.pre
  have hown : s.vm.findClass RX1 = some mi.cls := findClass_of_methodNamed B.named
  have hlocks := B.notSynchronized
  clear B
  subst hav
  subst hsz
  have hA : ∀ q : Nat, s.heap.size ≤ q → (fun q : Nat => s.heap.size ≤ q) q := fun _ h => h
  have hS : va_S (fun q : Nat => s.heap.size ≤ q) s.heap s.heap [] := va_S.rf
  obtain ⟨QQ, hQQ⟩ : ∃ qq9, qq9 = MQ below (va_Qi (fun (r : Int32) (u : Unit) => r = bi (caughtA a i)) (fun _ _ => True) (fun q : Nat => s.heap.size ≤ q)) ([.ref (F 0), .int (nI i)] : List Value).toArray s 0 0 (fun q : Nat => s.heap.size ≤ q) := ⟨_, rfl⟩
  rw [← hQQ]
  have hl := lv_entry ([.ref (F 0), .int (nI i)]) (n := 4) (Nat.le_of_ble_eq_true rfl)
  rw [lg_entry_eq]
  generalize (lg_sl ([.ref (F 0), .int (nI i)]) ++ List.replicate (4 - (lg_sl ([.ref (F 0), .int (nI i)])).length) Slot.unset).toArray = ls at hl ⊢
  have hl : lv_has ls 4 [(0, .ref (F 0)), (1, .int (nI i))] := hl
  have kf26 := hts (.fieldLink RX1 26 "LanternWeirs$Fleet" "places" "LLanternWeirs$Row;") (by decide +kernel)
  have inX1 : ∀ w ∈ u_ws RX1 TX1 13, w ∈ wsX1_catchesAhead := by decide +kernel
  have kf16 := hts (.fieldLink RX1 16 "LanternWeirs$Fleet" "frames" "LLanternWeirs$Row;") (by decide +kernel)
  have kf44 := hts (.fieldLink RX1 44 "LanternWeirs$Fleet" "crowd" "LLanternWeirs$Row;") (by decide +kernel)
  have kf23 := hts (.fieldLink RX1 23 "LanternWeirs$Fleet" "lanes" "LLanternWeirs$Row;") (by decide +kernel)
  obtain ⟨H, locs, hP, hS, hgo⟩ : ∃ H locs, va_P D vwCl (wF cA F a c q) H ∧ va_S (fun q : Nat => s.heap.size ≤ q) s.heap H locs ∧ (H = s.heap ∧ locs = []) := ⟨_, _, hP, hS, rfl, rfl⟩
  obtain ⟨hg1, hg2⟩ := hgo
  have hgoal : W pg lch ev (headSpec wsX1_catchesAhead ({ frames := 1, cells := 0, slots := 0, locals := 22 })).room s mi ([.ref (F 0), .int (nI i)] : List Value).toArray below meth cd H locs 0 0 QQ (F0 mi 0 ls []) := by
    have hn := hw1.1
    obtain ⟨w1, w2, w3, w4, w5, w6, w7, w8⟩ := hw1.2 i hi
    refine lv_aload_n hx hb dX1_catchesAhead_0 rfl (lv_at hl 0 rfl) ?_
    refine va_get (D := D) (ci := 1) (v := .ref (F 4)) (C := RX1) (T := TX1) (N := 13) hx hb hts inX1 hown hE.1 hP 0 rfl rfl 3 (by decide) kf26 (fun _ h9 => h9) rfl dX1_catchesAhead_1 ?_
    refine lv_iload_n hx hb dX1_catchesAhead_4 rfl (lv_at hl 1 rfl) ?_
    refine pVi (As := [.int (nI i)]) (rest := []) (wc := (wR cA (F 4) (F 15) 41 (fun z9 => nI (qPl a z9)))) ⟨hx, hb, hml, hown, hts⟩ (K_X2_getk lch D cA (F 4) (F 15) 41 (fun z9 => nI (qPl a z9)) i (nI (qPl a i)) H.size (by omega) (Nat.le_of_ble_eq_true rfl) (rfl)) (cwV 1 hts gX1_catchesAhead_X2_get rfl rfl rfl (by decide +kernel) ⟨Nat.le_of_ble_eq_true rfl, Nat.le_of_ble_eq_true rfl⟩) hE hP hD hS hA [4, 15] rfl rfl X0.blind (fun _ _ _ => trivial) 4 2 rfl rfl rfl hl.1 rfl rfl (Nat.le_of_ble_eq_true rfl) dX1_catchesAhead_5 ⟨Nat.zero_le _, Nat.zero_le _⟩ (fun r_1 u_2 H locs h_3 hP hS => ?_)
    subst h_3
    refine lv_iconst (v := 1) hx hb dX1_catchesAhead_8 (by decide) ?_
    refine lv_iadd hx hb dX1_catchesAhead_9 ?_
    refine top_i (y := nI ((qPl a i) + 1)) (nI_add _ _) ?_
    refine lv_istore_n (lv' := [(2, .int (nI ((qPl a i) + 1))), (0, .ref (F 0)), (1, .int (nI i))]) hx hb dX1_catchesAhead_10 rfl hl (by decide) rfl (fun ls hl => ?_)
    refine lv_iconst (v := 0) hx hb dX1_catchesAhead_11 (by decide) ?_
    refine lv_istore_n (lv' := [(3, .int 0), (2, .int (nI ((qPl a i) + 1))), (0, .ref (F 0)), (1, .int (nI i))]) hx hb dX1_catchesAhead_12 rfl hl (by decide) rfl (fun ls hl => ?_)
    refine lv_iload_n hx hb dX1_catchesAhead_13 rfl (lv_at hl 0 rfl) ?_
    refine lv_iconst (v := 3) hx hb dX1_catchesAhead_14 (by decide) ?_
    refine lv_icmp_ge (tgt := 61) hx hb dX1_catchesAhead_15 (by decide) (fun c15 => ?_) (fun c15 => ?_)
    · skip
      exfalso; revert c15; decide
    · skip
      have c15 := (not_congr (nI_leI (a := 3) (b := 0) (by omega) (by omega))).mp c15
      refine lv_iload_n hx hb dX1_catchesAhead_18 rfl (lv_at hl 0 rfl) ?_
      refine lv_aload_n hx hb dX1_catchesAhead_19 rfl (lv_at hl 2 rfl) ?_
      refine va_get (D := D) (ci := 1) (v := .ref (F 1)) (C := RX1) (T := TX1) (N := 13) hx hb hts inX1 hown hE.1 hP 0 rfl rfl 0 (by decide) kf16 (fun _ h9 => h9) rfl dX1_catchesAhead_20 ?_
      refine lv_iload_n hx hb dX1_catchesAhead_23 rfl (lv_at hl 3 rfl) ?_
      refine pVi (As := [.int (nI i)]) (rest := [.int 0]) (wc := (wR cA (F 1) (F 12) 41 (fun z9 => nI (qFr a z9)))) ⟨hx, hb, hml, hown, hts⟩ (K_X2_getk lch D cA (F 1) (F 12) 41 (fun z9 => nI (qFr a z9)) i (nI (qFr a i)) H.size (by omega) (Nat.le_of_ble_eq_true rfl) (rfl)) (cwV 1 hts gX1_catchesAhead_X2_get rfl rfl rfl (by decide +kernel) ⟨Nat.le_of_ble_eq_true rfl, Nat.le_of_ble_eq_true rfl⟩) hE hP hD hS hA [1, 12] rfl rfl X0.blind (fun _ _ _ => trivial) 1 2 rfl rfl rfl hl.1 rfl rfl (Nat.le_of_ble_eq_true rfl) dX1_catchesAhead_24 ⟨Nat.zero_le _, Nat.zero_le _⟩ (fun r_4 u_5 H locs h_6 hP hS => ?_)
      subst h_6
      refine lv_icmp_eq (tgt := 55) hx hb dX1_catchesAhead_27 (by decide) (fun c27 => ?_) (fun c27 => ?_)
      · skip
        have c27 := (nI_eq (a := 0) (b := qFr a i) (by omega) (by omega)).mp c27
        refine lv_iinc (v := 1) (lv' := [(3, .int 1), (2, .int (nI ((qPl a i) + 1))), (0, .ref (F 0)), (1, .int (nI i))]) hx hb dX1_catchesAhead_55 hl (k := 0) rfl (by decide) (by decide) rfl (fun ls hl => ?_)
        refine lv_goto (tgt := 13) hx hb dX1_catchesAhead_58 (by decide) ?_
        refine lv_iload_n hx hb dX1_catchesAhead_13 rfl (lv_at hl 0 rfl) ?_
        refine lv_iconst (v := 3) hx hb dX1_catchesAhead_14 (by decide) ?_
        refine lv_icmp_ge (tgt := 61) hx hb dX1_catchesAhead_15 (by decide) (fun c15_1 => ?_) (fun c15_1 => ?_)
        · skip
          exfalso; revert c15_1; decide
        · skip
          have c15_1 := (not_congr (nI_leI (a := 3) (b := 1) (by omega) (by omega))).mp c15_1
          refine lv_iload_n hx hb dX1_catchesAhead_18 rfl (lv_at hl 0 rfl) ?_
          refine lv_aload_n hx hb dX1_catchesAhead_19 rfl (lv_at hl 2 rfl) ?_
          refine va_get (D := D) (ci := 1) (v := .ref (F 1)) (C := RX1) (T := TX1) (N := 13) hx hb hts inX1 hown hE.1 hP 0 rfl rfl 0 (by decide) kf16 (fun _ h9 => h9) rfl dX1_catchesAhead_20 ?_
          refine lv_iload_n hx hb dX1_catchesAhead_23 rfl (lv_at hl 3 rfl) ?_
          refine pVi (As := [.int (nI i)]) (rest := [.int 1]) (wc := (wR cA (F 1) (F 12) 41 (fun z9 => nI (qFr a z9)))) ⟨hx, hb, hml, hown, hts⟩ (K_X2_getk lch D cA (F 1) (F 12) 41 (fun z9 => nI (qFr a z9)) i (nI (qFr a i)) H.size (by omega) (Nat.le_of_ble_eq_true rfl) (rfl)) (cwV 1 hts gX1_catchesAhead_X2_get rfl rfl rfl (by decide +kernel) ⟨Nat.le_of_ble_eq_true rfl, Nat.le_of_ble_eq_true rfl⟩) hE hP hD hS hA [1, 12] rfl rfl X0.blind (fun _ _ _ => trivial) 1 2 rfl rfl rfl hl.1 rfl rfl (Nat.le_of_ble_eq_true rfl) dX1_catchesAhead_24 ⟨Nat.zero_le _, Nat.zero_le _⟩ (fun r_7 u_8 H locs h_9 hP hS => ?_)
          subst h_9
          refine lv_icmp_eq (tgt := 55) hx hb dX1_catchesAhead_27 (by decide) (fun c27_1 => ?_) (fun c27_1 => ?_)
          · skip
            have c27_1 := (nI_eq (a := 1) (b := qFr a i) (by omega) (by omega)).mp c27_1
            refine lv_iinc (v := 2) (lv' := [(3, .int 2), (2, .int (nI ((qPl a i) + 1))), (0, .ref (F 0)), (1, .int (nI i))]) hx hb dX1_catchesAhead_55 hl (k := 0) rfl (by decide) (by decide) rfl (fun ls hl => ?_)
            refine lv_goto (tgt := 13) hx hb dX1_catchesAhead_58 (by decide) ?_
            refine lv_iload_n hx hb dX1_catchesAhead_13 rfl (lv_at hl 0 rfl) ?_
            refine lv_iconst (v := 3) hx hb dX1_catchesAhead_14 (by decide) ?_
            refine lv_icmp_ge (tgt := 61) hx hb dX1_catchesAhead_15 (by decide) (fun c15_2 => ?_) (fun c15_2 => ?_)
            · skip
              exfalso; revert c15_2; decide
            · skip
              have c15_2 := (not_congr (nI_leI (a := 3) (b := 2) (by omega) (by omega))).mp c15_2
              refine lv_iload_n hx hb dX1_catchesAhead_18 rfl (lv_at hl 0 rfl) ?_
              refine lv_aload_n hx hb dX1_catchesAhead_19 rfl (lv_at hl 2 rfl) ?_
              refine va_get (D := D) (ci := 1) (v := .ref (F 1)) (C := RX1) (T := TX1) (N := 13) hx hb hts inX1 hown hE.1 hP 0 rfl rfl 0 (by decide) kf16 (fun _ h9 => h9) rfl dX1_catchesAhead_20 ?_
              refine lv_iload_n hx hb dX1_catchesAhead_23 rfl (lv_at hl 3 rfl) ?_
              refine pVi (As := [.int (nI i)]) (rest := [.int 2]) (wc := (wR cA (F 1) (F 12) 41 (fun z9 => nI (qFr a z9)))) ⟨hx, hb, hml, hown, hts⟩ (K_X2_getk lch D cA (F 1) (F 12) 41 (fun z9 => nI (qFr a z9)) i (nI (qFr a i)) H.size (by omega) (Nat.le_of_ble_eq_true rfl) (rfl)) (cwV 1 hts gX1_catchesAhead_X2_get rfl rfl rfl (by decide +kernel) ⟨Nat.le_of_ble_eq_true rfl, Nat.le_of_ble_eq_true rfl⟩) hE hP hD hS hA [1, 12] rfl rfl X0.blind (fun _ _ _ => trivial) 1 2 rfl rfl rfl hl.1 rfl rfl (Nat.le_of_ble_eq_true rfl) dX1_catchesAhead_24 ⟨Nat.zero_le _, Nat.zero_le _⟩ (fun r_10 u_11 H locs h_12 hP hS => ?_)
              subst h_12
              refine lv_icmp_eq (tgt := 55) hx hb dX1_catchesAhead_27 (by decide) (fun c27_2 => ?_) (fun c27_2 => ?_)
              · skip
                have c27_2 := (nI_eq (a := 2) (b := qFr a i) (by omega) (by omega)).mp c27_2
                refine lv_iinc (v := 3) (lv' := [(3, .int 3), (2, .int (nI ((qPl a i) + 1))), (0, .ref (F 0)), (1, .int (nI i))]) hx hb dX1_catchesAhead_55 hl (k := 0) rfl (by decide) (by decide) rfl (fun ls hl => ?_)
                refine lv_goto (tgt := 13) hx hb dX1_catchesAhead_58 (by decide) ?_
                refine lv_iload_n hx hb dX1_catchesAhead_13 rfl (lv_at hl 0 rfl) ?_
                refine lv_iconst (v := 3) hx hb dX1_catchesAhead_14 (by decide) ?_
                refine lv_icmp_ge (tgt := 61) hx hb dX1_catchesAhead_15 (by decide) (fun c15_3 => ?_) (fun c15_3 => ?_)
                · skip
                  have c15_3 := (nI_leI (a := 3) (b := 3) (by omega) (by omega)).mp c15_3
                  refine lv_iconst (v := 0) hx hb dX1_catchesAhead_61 (by decide) ?_
                  rw [hQQ]
                  exact W.zret (v := 0) hx hb hr (by decide) (fun t ht hW => ⟨⟨0, (), rfl, catch_f hw1 hcr hi (Or.inl c27) (Or.inl c27_1) (Or.inl c27_2), trivial⟩, hS.F ht⟩) hS.2.2 dX1_catchesAhead_62
                · skip
                  exfalso; revert c15_3; decide
              · skip
                have c27_2 := (not_congr (nI_eq (a := 2) (b := qFr a i) (by omega) (by omega))).mp c27_2
                refine lv_aload_n hx hb dX1_catchesAhead_30 rfl (lv_at hl 2 rfl) ?_
                refine va_get (D := D) (ci := 1) (v := .ref (F 10)) (C := RX1) (T := TX1) (N := 13) hx hb hts inX1 hown hE.1 hP 0 rfl rfl 9 (by decide) kf44 (fun _ h9 => h9) rfl dX1_catchesAhead_31 ?_
                refine lv_aload_n hx hb dX1_catchesAhead_34 rfl (lv_at hl 2 rfl) ?_
                refine va_get (D := D) (ci := 1) (v := .ref (F 3)) (C := RX1) (T := TX1) (N := 13) hx hb hts inX1 hown hE.1 hP 0 rfl rfl 2 (by decide) kf23 (fun _ h9 => h9) rfl dX1_catchesAhead_35 ?_
                refine lv_iload_n hx hb dX1_catchesAhead_38 rfl (lv_at hl 3 rfl) ?_
                refine pVi (As := [.int (nI i)]) (rest := [.ref (F 10)]) (wc := (wR cA (F 3) (F 14) 41 (fun z9 => nI (qLa a z9)))) ⟨hx, hb, hml, hown, hts⟩ (K_X2_getk lch D cA (F 3) (F 14) 41 (fun z9 => nI (qLa a z9)) i (nI (qLa a i)) H.size (by omega) (Nat.le_of_ble_eq_true rfl) (rfl)) (cwV 1 hts gX1_catchesAhead_X2_get rfl rfl rfl (by decide +kernel) ⟨Nat.le_of_ble_eq_true rfl, Nat.le_of_ble_eq_true rfl⟩) hE hP hD hS hA [3, 14] rfl rfl X0.blind (fun _ _ _ => trivial) 3 2 rfl rfl rfl hl.1 rfl rfl (Nat.le_of_ble_eq_true rfl) dX1_catchesAhead_39 ⟨Nat.zero_le _, Nat.zero_le _⟩ (fun r_13 u_14 H locs h_15 hP hS => ?_)
                subst h_15
                refine lv_iload_n hx hb dX1_catchesAhead_42 rfl (lv_at hl 1 rfl) ?_
                refine lv_iload_n hx hb dX1_catchesAhead_43 rfl (lv_at hl 0 rfl) ?_
                refine pSi (As := [.int (nI (qLa a i)), .int (nI ((qPl a i) + 1)), .int 2]) (rest := [.ref (F 10)]) (wc := ([] : va_W)) ⟨hx, hb, hml, hown, hts⟩ (K_X1_cell lch D cA (qLa a i) ((qPl a i) + 1) 2 H.size (by first | assumption | omega)) (cwS 3 hts gX1_catchesAhead_X1_cell rfl rfl rfl (by decide +kernel) ⟨Nat.le_of_ble_eq_true rfl, Nat.le_of_ble_eq_true rfl⟩) hE hP hD hS hA [] rfl rfl X0.blind (fun _ _ _ => trivial) hl.1 rfl rfl (Nat.le_of_ble_eq_true rfl) dX1_catchesAhead_44 ⟨Nat.zero_le _, Nat.zero_le _⟩ (fun r_16 u_17 H locs h_18 hP hS => ?_)
                subst h_18
                refine pVi (As := [.int (ck (qLa a i) ((qPl a i) + 1) 2)]) (rest := []) (wc := (wR cA (F 10) (F 21) 540 c)) ⟨hx, hb, hml, hown, hts⟩ (K_X2_get lch D cA (F 10) (F 21) 540 c (ck (qLa a i) ((qPl a i) + 1) 2) H.size (Nat.le_of_ble_eq_true rfl)) (cwV 1 hts gX1_catchesAhead_X2_get rfl rfl rfl (by decide +kernel) ⟨Nat.le_of_ble_eq_true rfl, Nat.le_of_ble_eq_true rfl⟩) hE hP hD hS hA [10, 21] rfl rfl X0.blind (fun _ _ _ => trivial) 10 2 rfl rfl rfl hl.1 rfl rfl (Nat.le_of_ble_eq_true rfl) dX1_catchesAhead_47 ⟨Nat.zero_le _, Nat.zero_le _⟩ (fun r_19 u_20 H locs h_21 hP hS => ?_)
                subst h_21
                refine lv_if_le (tgt := 55) hx hb dX1_catchesAhead_50 (by decide) (fun c50 => ?_) (fun c50 => ?_)
                · skip
                  refine lv_iinc (v := 3) (lv' := [(3, .int 3), (2, .int (nI ((qPl a i) + 1))), (0, .ref (F 0)), (1, .int (nI i))]) hx hb dX1_catchesAhead_55 hl (k := 0) rfl (by decide) (by decide) rfl (fun ls hl => ?_)
                  refine lv_goto (tgt := 13) hx hb dX1_catchesAhead_58 (by decide) ?_
                  refine lv_iload_n hx hb dX1_catchesAhead_13 rfl (lv_at hl 0 rfl) ?_
                  refine lv_iconst (v := 3) hx hb dX1_catchesAhead_14 (by decide) ?_
                  refine lv_icmp_ge (tgt := 61) hx hb dX1_catchesAhead_15 (by decide) (fun c15_3 => ?_) (fun c15_3 => ?_)
                  · skip
                    have c15_3 := (nI_leI (a := 3) (b := 3) (by omega) (by omega)).mp c15_3
                    refine lv_iconst (v := 0) hx hb dX1_catchesAhead_61 (by decide) ?_
                    rw [hQQ]
                    exact W.zret (v := 0) hx hb hr (by decide) (fun t ht hW => ⟨⟨0, (), rfl, catch_f hw1 hcr hi (Or.inl c27) (Or.inl c27_1) (Or.inr c50), trivial⟩, hS.F ht⟩) hS.2.2 dX1_catchesAhead_62
                  · skip
                    exfalso; revert c15_3; decide
                · skip
                  refine lv_iconst (v := 1) hx hb dX1_catchesAhead_53 (by decide) ?_
                  rw [hQQ]
                  exact W.zret (v := 1) hx hb hr (by decide) (fun t ht hW => ⟨⟨1, (), rfl, catch_t hw1 hcr hi (f := 2) (by decide) c27_2 c50, trivial⟩, hS.F ht⟩) hS.2.2 dX1_catchesAhead_54
          · skip
            have c27_1 := (not_congr (nI_eq (a := 1) (b := qFr a i) (by omega) (by omega))).mp c27_1
            refine lv_aload_n hx hb dX1_catchesAhead_30 rfl (lv_at hl 2 rfl) ?_
            refine va_get (D := D) (ci := 1) (v := .ref (F 10)) (C := RX1) (T := TX1) (N := 13) hx hb hts inX1 hown hE.1 hP 0 rfl rfl 9 (by decide) kf44 (fun _ h9 => h9) rfl dX1_catchesAhead_31 ?_
            refine lv_aload_n hx hb dX1_catchesAhead_34 rfl (lv_at hl 2 rfl) ?_
            refine va_get (D := D) (ci := 1) (v := .ref (F 3)) (C := RX1) (T := TX1) (N := 13) hx hb hts inX1 hown hE.1 hP 0 rfl rfl 2 (by decide) kf23 (fun _ h9 => h9) rfl dX1_catchesAhead_35 ?_
            refine lv_iload_n hx hb dX1_catchesAhead_38 rfl (lv_at hl 3 rfl) ?_
            refine pVi (As := [.int (nI i)]) (rest := [.ref (F 10)]) (wc := (wR cA (F 3) (F 14) 41 (fun z9 => nI (qLa a z9)))) ⟨hx, hb, hml, hown, hts⟩ (K_X2_getk lch D cA (F 3) (F 14) 41 (fun z9 => nI (qLa a z9)) i (nI (qLa a i)) H.size (by omega) (Nat.le_of_ble_eq_true rfl) (rfl)) (cwV 1 hts gX1_catchesAhead_X2_get rfl rfl rfl (by decide +kernel) ⟨Nat.le_of_ble_eq_true rfl, Nat.le_of_ble_eq_true rfl⟩) hE hP hD hS hA [3, 14] rfl rfl X0.blind (fun _ _ _ => trivial) 3 2 rfl rfl rfl hl.1 rfl rfl (Nat.le_of_ble_eq_true rfl) dX1_catchesAhead_39 ⟨Nat.zero_le _, Nat.zero_le _⟩ (fun r_22 u_23 H locs h_24 hP hS => ?_)
            subst h_24
            refine lv_iload_n hx hb dX1_catchesAhead_42 rfl (lv_at hl 1 rfl) ?_
            refine lv_iload_n hx hb dX1_catchesAhead_43 rfl (lv_at hl 0 rfl) ?_
            refine pSi (As := [.int (nI (qLa a i)), .int (nI ((qPl a i) + 1)), .int 1]) (rest := [.ref (F 10)]) (wc := ([] : va_W)) ⟨hx, hb, hml, hown, hts⟩ (K_X1_cell lch D cA (qLa a i) ((qPl a i) + 1) 1 H.size (by first | assumption | omega)) (cwS 3 hts gX1_catchesAhead_X1_cell rfl rfl rfl (by decide +kernel) ⟨Nat.le_of_ble_eq_true rfl, Nat.le_of_ble_eq_true rfl⟩) hE hP hD hS hA [] rfl rfl X0.blind (fun _ _ _ => trivial) hl.1 rfl rfl (Nat.le_of_ble_eq_true rfl) dX1_catchesAhead_44 ⟨Nat.zero_le _, Nat.zero_le _⟩ (fun r_25 u_26 H locs h_27 hP hS => ?_)
            subst h_27
            refine pVi (As := [.int (ck (qLa a i) ((qPl a i) + 1) 1)]) (rest := []) (wc := (wR cA (F 10) (F 21) 540 c)) ⟨hx, hb, hml, hown, hts⟩ (K_X2_get lch D cA (F 10) (F 21) 540 c (ck (qLa a i) ((qPl a i) + 1) 1) H.size (Nat.le_of_ble_eq_true rfl)) (cwV 1 hts gX1_catchesAhead_X2_get rfl rfl rfl (by decide +kernel) ⟨Nat.le_of_ble_eq_true rfl, Nat.le_of_ble_eq_true rfl⟩) hE hP hD hS hA [10, 21] rfl rfl X0.blind (fun _ _ _ => trivial) 10 2 rfl rfl rfl hl.1 rfl rfl (Nat.le_of_ble_eq_true rfl) dX1_catchesAhead_47 ⟨Nat.zero_le _, Nat.zero_le _⟩ (fun r_28 u_29 H locs h_30 hP hS => ?_)
            subst h_30
            refine lv_if_le (tgt := 55) hx hb dX1_catchesAhead_50 (by decide) (fun c50 => ?_) (fun c50 => ?_)
            · skip
              refine lv_iinc (v := 2) (lv' := [(3, .int 2), (2, .int (nI ((qPl a i) + 1))), (0, .ref (F 0)), (1, .int (nI i))]) hx hb dX1_catchesAhead_55 hl (k := 0) rfl (by decide) (by decide) rfl (fun ls hl => ?_)
              refine lv_goto (tgt := 13) hx hb dX1_catchesAhead_58 (by decide) ?_
              refine lv_iload_n hx hb dX1_catchesAhead_13 rfl (lv_at hl 0 rfl) ?_
              refine lv_iconst (v := 3) hx hb dX1_catchesAhead_14 (by decide) ?_
              refine lv_icmp_ge (tgt := 61) hx hb dX1_catchesAhead_15 (by decide) (fun c15_2 => ?_) (fun c15_2 => ?_)
              · skip
                exfalso; revert c15_2; decide
              · skip
                have c15_2 := (not_congr (nI_leI (a := 3) (b := 2) (by omega) (by omega))).mp c15_2
                refine lv_iload_n hx hb dX1_catchesAhead_18 rfl (lv_at hl 0 rfl) ?_
                refine lv_aload_n hx hb dX1_catchesAhead_19 rfl (lv_at hl 2 rfl) ?_
                refine va_get (D := D) (ci := 1) (v := .ref (F 1)) (C := RX1) (T := TX1) (N := 13) hx hb hts inX1 hown hE.1 hP 0 rfl rfl 0 (by decide) kf16 (fun _ h9 => h9) rfl dX1_catchesAhead_20 ?_
                refine lv_iload_n hx hb dX1_catchesAhead_23 rfl (lv_at hl 3 rfl) ?_
                refine pVi (As := [.int (nI i)]) (rest := [.int 2]) (wc := (wR cA (F 1) (F 12) 41 (fun z9 => nI (qFr a z9)))) ⟨hx, hb, hml, hown, hts⟩ (K_X2_getk lch D cA (F 1) (F 12) 41 (fun z9 => nI (qFr a z9)) i (nI (qFr a i)) H.size (by omega) (Nat.le_of_ble_eq_true rfl) (rfl)) (cwV 1 hts gX1_catchesAhead_X2_get rfl rfl rfl (by decide +kernel) ⟨Nat.le_of_ble_eq_true rfl, Nat.le_of_ble_eq_true rfl⟩) hE hP hD hS hA [1, 12] rfl rfl X0.blind (fun _ _ _ => trivial) 1 2 rfl rfl rfl hl.1 rfl rfl (Nat.le_of_ble_eq_true rfl) dX1_catchesAhead_24 ⟨Nat.zero_le _, Nat.zero_le _⟩ (fun r_31 u_32 H locs h_33 hP hS => ?_)
                subst h_33
                refine lv_icmp_eq (tgt := 55) hx hb dX1_catchesAhead_27 (by decide) (fun c27_2 => ?_) (fun c27_2 => ?_)
                · skip
                  have c27_2 := (nI_eq (a := 2) (b := qFr a i) (by omega) (by omega)).mp c27_2
                  refine lv_iinc (v := 3) (lv' := [(3, .int 3), (2, .int (nI ((qPl a i) + 1))), (0, .ref (F 0)), (1, .int (nI i))]) hx hb dX1_catchesAhead_55 hl (k := 0) rfl (by decide) (by decide) rfl (fun ls hl => ?_)
                  refine lv_goto (tgt := 13) hx hb dX1_catchesAhead_58 (by decide) ?_
                  refine lv_iload_n hx hb dX1_catchesAhead_13 rfl (lv_at hl 0 rfl) ?_
                  refine lv_iconst (v := 3) hx hb dX1_catchesAhead_14 (by decide) ?_
                  refine lv_icmp_ge (tgt := 61) hx hb dX1_catchesAhead_15 (by decide) (fun c15_3 => ?_) (fun c15_3 => ?_)
                  · skip
                    have c15_3 := (nI_leI (a := 3) (b := 3) (by omega) (by omega)).mp c15_3
                    refine lv_iconst (v := 0) hx hb dX1_catchesAhead_61 (by decide) ?_
                    rw [hQQ]
                    exact W.zret (v := 0) hx hb hr (by decide) (fun t ht hW => ⟨⟨0, (), rfl, catch_f hw1 hcr hi (Or.inl c27) (Or.inr c50) (Or.inl c27_2), trivial⟩, hS.F ht⟩) hS.2.2 dX1_catchesAhead_62
                  · skip
                    exfalso; revert c15_3; decide
                · skip
                  have c27_2 := (not_congr (nI_eq (a := 2) (b := qFr a i) (by omega) (by omega))).mp c27_2
                  refine lv_aload_n hx hb dX1_catchesAhead_30 rfl (lv_at hl 2 rfl) ?_
                  refine va_get (D := D) (ci := 1) (v := .ref (F 10)) (C := RX1) (T := TX1) (N := 13) hx hb hts inX1 hown hE.1 hP 0 rfl rfl 9 (by decide) kf44 (fun _ h9 => h9) rfl dX1_catchesAhead_31 ?_
                  refine lv_aload_n hx hb dX1_catchesAhead_34 rfl (lv_at hl 2 rfl) ?_
                  refine va_get (D := D) (ci := 1) (v := .ref (F 3)) (C := RX1) (T := TX1) (N := 13) hx hb hts inX1 hown hE.1 hP 0 rfl rfl 2 (by decide) kf23 (fun _ h9 => h9) rfl dX1_catchesAhead_35 ?_
                  refine lv_iload_n hx hb dX1_catchesAhead_38 rfl (lv_at hl 3 rfl) ?_
                  refine pVi (As := [.int (nI i)]) (rest := [.ref (F 10)]) (wc := (wR cA (F 3) (F 14) 41 (fun z9 => nI (qLa a z9)))) ⟨hx, hb, hml, hown, hts⟩ (K_X2_getk lch D cA (F 3) (F 14) 41 (fun z9 => nI (qLa a z9)) i (nI (qLa a i)) H.size (by omega) (Nat.le_of_ble_eq_true rfl) (rfl)) (cwV 1 hts gX1_catchesAhead_X2_get rfl rfl rfl (by decide +kernel) ⟨Nat.le_of_ble_eq_true rfl, Nat.le_of_ble_eq_true rfl⟩) hE hP hD hS hA [3, 14] rfl rfl X0.blind (fun _ _ _ => trivial) 3 2 rfl rfl rfl hl.1 rfl rfl (Nat.le_of_ble_eq_true rfl) dX1_catchesAhead_39 ⟨Nat.zero_le _, Nat.zero_le _⟩ (fun r_34 u_35 H locs h_36 hP hS => ?_)
                  subst h_36
                  refine lv_iload_n hx hb dX1_catchesAhead_42 rfl (lv_at hl 1 rfl) ?_
                  refine lv_iload_n hx hb dX1_catchesAhead_43 rfl (lv_at hl 0 rfl) ?_
                  refine pSi (As := [.int (nI (qLa a i)), .int (nI ((qPl a i) + 1)), .int 2]) (rest := [.ref (F 10)]) (wc := ([] : va_W)) ⟨hx, hb, hml, hown, hts⟩ (K_X1_cell lch D cA (qLa a i) ((qPl a i) + 1) 2 H.size (by first | assumption | omega)) (cwS 3 hts gX1_catchesAhead_X1_cell rfl rfl rfl (by decide +kernel) ⟨Nat.le_of_ble_eq_true rfl, Nat.le_of_ble_eq_true rfl⟩) hE hP hD hS hA [] rfl rfl X0.blind (fun _ _ _ => trivial) hl.1 rfl rfl (Nat.le_of_ble_eq_true rfl) dX1_catchesAhead_44 ⟨Nat.zero_le _, Nat.zero_le _⟩ (fun r_37 u_38 H locs h_39 hP hS => ?_)
                  subst h_39
                  refine pVi (As := [.int (ck (qLa a i) ((qPl a i) + 1) 2)]) (rest := []) (wc := (wR cA (F 10) (F 21) 540 c)) ⟨hx, hb, hml, hown, hts⟩ (K_X2_get lch D cA (F 10) (F 21) 540 c (ck (qLa a i) ((qPl a i) + 1) 2) H.size (Nat.le_of_ble_eq_true rfl)) (cwV 1 hts gX1_catchesAhead_X2_get rfl rfl rfl (by decide +kernel) ⟨Nat.le_of_ble_eq_true rfl, Nat.le_of_ble_eq_true rfl⟩) hE hP hD hS hA [10, 21] rfl rfl X0.blind (fun _ _ _ => trivial) 10 2 rfl rfl rfl hl.1 rfl rfl (Nat.le_of_ble_eq_true rfl) dX1_catchesAhead_47 ⟨Nat.zero_le _, Nat.zero_le _⟩ (fun r_40 u_41 H locs h_42 hP hS => ?_)
                  subst h_42
                  refine lv_if_le (tgt := 55) hx hb dX1_catchesAhead_50 (by decide) (fun c50_1 => ?_) (fun c50_1 => ?_)
                  · skip
                    refine lv_iinc (v := 3) (lv' := [(3, .int 3), (2, .int (nI ((qPl a i) + 1))), (0, .ref (F 0)), (1, .int (nI i))]) hx hb dX1_catchesAhead_55 hl (k := 0) rfl (by decide) (by decide) rfl (fun ls hl => ?_)
                    refine lv_goto (tgt := 13) hx hb dX1_catchesAhead_58 (by decide) ?_
                    refine lv_iload_n hx hb dX1_catchesAhead_13 rfl (lv_at hl 0 rfl) ?_
                    refine lv_iconst (v := 3) hx hb dX1_catchesAhead_14 (by decide) ?_
                    refine lv_icmp_ge (tgt := 61) hx hb dX1_catchesAhead_15 (by decide) (fun c15_3 => ?_) (fun c15_3 => ?_)
                    · skip
                      have c15_3 := (nI_leI (a := 3) (b := 3) (by omega) (by omega)).mp c15_3
                      refine lv_iconst (v := 0) hx hb dX1_catchesAhead_61 (by decide) ?_
                      rw [hQQ]
                      exact W.zret (v := 0) hx hb hr (by decide) (fun t ht hW => ⟨⟨0, (), rfl, catch_f hw1 hcr hi (Or.inl c27) (Or.inr c50) (Or.inr c50_1), trivial⟩, hS.F ht⟩) hS.2.2 dX1_catchesAhead_62
                    · skip
                      exfalso; revert c15_3; decide
                  · skip
                    refine lv_iconst (v := 1) hx hb dX1_catchesAhead_53 (by decide) ?_
                    rw [hQQ]
                    exact W.zret (v := 1) hx hb hr (by decide) (fun t ht hW => ⟨⟨1, (), rfl, catch_t hw1 hcr hi (f := 2) (by decide) c27_2 c50_1, trivial⟩, hS.F ht⟩) hS.2.2 dX1_catchesAhead_54
            · skip
              refine lv_iconst (v := 1) hx hb dX1_catchesAhead_53 (by decide) ?_
              rw [hQQ]
              exact W.zret (v := 1) hx hb hr (by decide) (fun t ht hW => ⟨⟨1, (), rfl, catch_t hw1 hcr hi (f := 1) (by decide) c27_1 c50, trivial⟩, hS.F ht⟩) hS.2.2 dX1_catchesAhead_54
      · skip
        have c27 := (not_congr (nI_eq (a := 0) (b := qFr a i) (by omega) (by omega))).mp c27
        refine lv_aload_n hx hb dX1_catchesAhead_30 rfl (lv_at hl 2 rfl) ?_
        refine va_get (D := D) (ci := 1) (v := .ref (F 10)) (C := RX1) (T := TX1) (N := 13) hx hb hts inX1 hown hE.1 hP 0 rfl rfl 9 (by decide) kf44 (fun _ h9 => h9) rfl dX1_catchesAhead_31 ?_
        refine lv_aload_n hx hb dX1_catchesAhead_34 rfl (lv_at hl 2 rfl) ?_
        refine va_get (D := D) (ci := 1) (v := .ref (F 3)) (C := RX1) (T := TX1) (N := 13) hx hb hts inX1 hown hE.1 hP 0 rfl rfl 2 (by decide) kf23 (fun _ h9 => h9) rfl dX1_catchesAhead_35 ?_
        refine lv_iload_n hx hb dX1_catchesAhead_38 rfl (lv_at hl 3 rfl) ?_
        refine pVi (As := [.int (nI i)]) (rest := [.ref (F 10)]) (wc := (wR cA (F 3) (F 14) 41 (fun z9 => nI (qLa a z9)))) ⟨hx, hb, hml, hown, hts⟩ (K_X2_getk lch D cA (F 3) (F 14) 41 (fun z9 => nI (qLa a z9)) i (nI (qLa a i)) H.size (by omega) (Nat.le_of_ble_eq_true rfl) (rfl)) (cwV 1 hts gX1_catchesAhead_X2_get rfl rfl rfl (by decide +kernel) ⟨Nat.le_of_ble_eq_true rfl, Nat.le_of_ble_eq_true rfl⟩) hE hP hD hS hA [3, 14] rfl rfl X0.blind (fun _ _ _ => trivial) 3 2 rfl rfl rfl hl.1 rfl rfl (Nat.le_of_ble_eq_true rfl) dX1_catchesAhead_39 ⟨Nat.zero_le _, Nat.zero_le _⟩ (fun r_43 u_44 H locs h_45 hP hS => ?_)
        subst h_45
        refine lv_iload_n hx hb dX1_catchesAhead_42 rfl (lv_at hl 1 rfl) ?_
        refine lv_iload_n hx hb dX1_catchesAhead_43 rfl (lv_at hl 0 rfl) ?_
        refine pSi (As := [.int (nI (qLa a i)), .int (nI ((qPl a i) + 1)), .int 0]) (rest := [.ref (F 10)]) (wc := ([] : va_W)) ⟨hx, hb, hml, hown, hts⟩ (K_X1_cell lch D cA (qLa a i) ((qPl a i) + 1) 0 H.size (by first | assumption | omega)) (cwS 3 hts gX1_catchesAhead_X1_cell rfl rfl rfl (by decide +kernel) ⟨Nat.le_of_ble_eq_true rfl, Nat.le_of_ble_eq_true rfl⟩) hE hP hD hS hA [] rfl rfl X0.blind (fun _ _ _ => trivial) hl.1 rfl rfl (Nat.le_of_ble_eq_true rfl) dX1_catchesAhead_44 ⟨Nat.zero_le _, Nat.zero_le _⟩ (fun r_46 u_47 H locs h_48 hP hS => ?_)
        subst h_48
        refine pVi (As := [.int (ck (qLa a i) ((qPl a i) + 1) 0)]) (rest := []) (wc := (wR cA (F 10) (F 21) 540 c)) ⟨hx, hb, hml, hown, hts⟩ (K_X2_get lch D cA (F 10) (F 21) 540 c (ck (qLa a i) ((qPl a i) + 1) 0) H.size (Nat.le_of_ble_eq_true rfl)) (cwV 1 hts gX1_catchesAhead_X2_get rfl rfl rfl (by decide +kernel) ⟨Nat.le_of_ble_eq_true rfl, Nat.le_of_ble_eq_true rfl⟩) hE hP hD hS hA [10, 21] rfl rfl X0.blind (fun _ _ _ => trivial) 10 2 rfl rfl rfl hl.1 rfl rfl (Nat.le_of_ble_eq_true rfl) dX1_catchesAhead_47 ⟨Nat.zero_le _, Nat.zero_le _⟩ (fun r_49 u_50 H locs h_51 hP hS => ?_)
        subst h_51
        refine lv_if_le (tgt := 55) hx hb dX1_catchesAhead_50 (by decide) (fun c50 => ?_) (fun c50 => ?_)
        · skip
          refine lv_iinc (v := 1) (lv' := [(3, .int 1), (2, .int (nI ((qPl a i) + 1))), (0, .ref (F 0)), (1, .int (nI i))]) hx hb dX1_catchesAhead_55 hl (k := 0) rfl (by decide) (by decide) rfl (fun ls hl => ?_)
          refine lv_goto (tgt := 13) hx hb dX1_catchesAhead_58 (by decide) ?_
          refine lv_iload_n hx hb dX1_catchesAhead_13 rfl (lv_at hl 0 rfl) ?_
          refine lv_iconst (v := 3) hx hb dX1_catchesAhead_14 (by decide) ?_
          refine lv_icmp_ge (tgt := 61) hx hb dX1_catchesAhead_15 (by decide) (fun c15_1 => ?_) (fun c15_1 => ?_)
          · skip
            exfalso; revert c15_1; decide
          · skip
            have c15_1 := (not_congr (nI_leI (a := 3) (b := 1) (by omega) (by omega))).mp c15_1
            refine lv_iload_n hx hb dX1_catchesAhead_18 rfl (lv_at hl 0 rfl) ?_
            refine lv_aload_n hx hb dX1_catchesAhead_19 rfl (lv_at hl 2 rfl) ?_
            refine va_get (D := D) (ci := 1) (v := .ref (F 1)) (C := RX1) (T := TX1) (N := 13) hx hb hts inX1 hown hE.1 hP 0 rfl rfl 0 (by decide) kf16 (fun _ h9 => h9) rfl dX1_catchesAhead_20 ?_
            refine lv_iload_n hx hb dX1_catchesAhead_23 rfl (lv_at hl 3 rfl) ?_
            refine pVi (As := [.int (nI i)]) (rest := [.int 1]) (wc := (wR cA (F 1) (F 12) 41 (fun z9 => nI (qFr a z9)))) ⟨hx, hb, hml, hown, hts⟩ (K_X2_getk lch D cA (F 1) (F 12) 41 (fun z9 => nI (qFr a z9)) i (nI (qFr a i)) H.size (by omega) (Nat.le_of_ble_eq_true rfl) (rfl)) (cwV 1 hts gX1_catchesAhead_X2_get rfl rfl rfl (by decide +kernel) ⟨Nat.le_of_ble_eq_true rfl, Nat.le_of_ble_eq_true rfl⟩) hE hP hD hS hA [1, 12] rfl rfl X0.blind (fun _ _ _ => trivial) 1 2 rfl rfl rfl hl.1 rfl rfl (Nat.le_of_ble_eq_true rfl) dX1_catchesAhead_24 ⟨Nat.zero_le _, Nat.zero_le _⟩ (fun r_52 u_53 H locs h_54 hP hS => ?_)
            subst h_54
            refine lv_icmp_eq (tgt := 55) hx hb dX1_catchesAhead_27 (by decide) (fun c27_1 => ?_) (fun c27_1 => ?_)
            · skip
              have c27_1 := (nI_eq (a := 1) (b := qFr a i) (by omega) (by omega)).mp c27_1
              refine lv_iinc (v := 2) (lv' := [(3, .int 2), (2, .int (nI ((qPl a i) + 1))), (0, .ref (F 0)), (1, .int (nI i))]) hx hb dX1_catchesAhead_55 hl (k := 0) rfl (by decide) (by decide) rfl (fun ls hl => ?_)
              refine lv_goto (tgt := 13) hx hb dX1_catchesAhead_58 (by decide) ?_
              refine lv_iload_n hx hb dX1_catchesAhead_13 rfl (lv_at hl 0 rfl) ?_
              refine lv_iconst (v := 3) hx hb dX1_catchesAhead_14 (by decide) ?_
              refine lv_icmp_ge (tgt := 61) hx hb dX1_catchesAhead_15 (by decide) (fun c15_2 => ?_) (fun c15_2 => ?_)
              · skip
                exfalso; revert c15_2; decide
              · skip
                have c15_2 := (not_congr (nI_leI (a := 3) (b := 2) (by omega) (by omega))).mp c15_2
                refine lv_iload_n hx hb dX1_catchesAhead_18 rfl (lv_at hl 0 rfl) ?_
                refine lv_aload_n hx hb dX1_catchesAhead_19 rfl (lv_at hl 2 rfl) ?_
                refine va_get (D := D) (ci := 1) (v := .ref (F 1)) (C := RX1) (T := TX1) (N := 13) hx hb hts inX1 hown hE.1 hP 0 rfl rfl 0 (by decide) kf16 (fun _ h9 => h9) rfl dX1_catchesAhead_20 ?_
                refine lv_iload_n hx hb dX1_catchesAhead_23 rfl (lv_at hl 3 rfl) ?_
                refine pVi (As := [.int (nI i)]) (rest := [.int 2]) (wc := (wR cA (F 1) (F 12) 41 (fun z9 => nI (qFr a z9)))) ⟨hx, hb, hml, hown, hts⟩ (K_X2_getk lch D cA (F 1) (F 12) 41 (fun z9 => nI (qFr a z9)) i (nI (qFr a i)) H.size (by omega) (Nat.le_of_ble_eq_true rfl) (rfl)) (cwV 1 hts gX1_catchesAhead_X2_get rfl rfl rfl (by decide +kernel) ⟨Nat.le_of_ble_eq_true rfl, Nat.le_of_ble_eq_true rfl⟩) hE hP hD hS hA [1, 12] rfl rfl X0.blind (fun _ _ _ => trivial) 1 2 rfl rfl rfl hl.1 rfl rfl (Nat.le_of_ble_eq_true rfl) dX1_catchesAhead_24 ⟨Nat.zero_le _, Nat.zero_le _⟩ (fun r_55 u_56 H locs h_57 hP hS => ?_)
                subst h_57
                refine lv_icmp_eq (tgt := 55) hx hb dX1_catchesAhead_27 (by decide) (fun c27_2 => ?_) (fun c27_2 => ?_)
                · skip
                  have c27_2 := (nI_eq (a := 2) (b := qFr a i) (by omega) (by omega)).mp c27_2
                  refine lv_iinc (v := 3) (lv' := [(3, .int 3), (2, .int (nI ((qPl a i) + 1))), (0, .ref (F 0)), (1, .int (nI i))]) hx hb dX1_catchesAhead_55 hl (k := 0) rfl (by decide) (by decide) rfl (fun ls hl => ?_)
                  refine lv_goto (tgt := 13) hx hb dX1_catchesAhead_58 (by decide) ?_
                  refine lv_iload_n hx hb dX1_catchesAhead_13 rfl (lv_at hl 0 rfl) ?_
                  refine lv_iconst (v := 3) hx hb dX1_catchesAhead_14 (by decide) ?_
                  refine lv_icmp_ge (tgt := 61) hx hb dX1_catchesAhead_15 (by decide) (fun c15_3 => ?_) (fun c15_3 => ?_)
                  · skip
                    have c15_3 := (nI_leI (a := 3) (b := 3) (by omega) (by omega)).mp c15_3
                    refine lv_iconst (v := 0) hx hb dX1_catchesAhead_61 (by decide) ?_
                    rw [hQQ]
                    exact W.zret (v := 0) hx hb hr (by decide) (fun t ht hW => ⟨⟨0, (), rfl, catch_f hw1 hcr hi (Or.inr c50) (Or.inl c27_1) (Or.inl c27_2), trivial⟩, hS.F ht⟩) hS.2.2 dX1_catchesAhead_62
                  · skip
                    exfalso; revert c15_3; decide
                · skip
                  have c27_2 := (not_congr (nI_eq (a := 2) (b := qFr a i) (by omega) (by omega))).mp c27_2
                  refine lv_aload_n hx hb dX1_catchesAhead_30 rfl (lv_at hl 2 rfl) ?_
                  refine va_get (D := D) (ci := 1) (v := .ref (F 10)) (C := RX1) (T := TX1) (N := 13) hx hb hts inX1 hown hE.1 hP 0 rfl rfl 9 (by decide) kf44 (fun _ h9 => h9) rfl dX1_catchesAhead_31 ?_
                  refine lv_aload_n hx hb dX1_catchesAhead_34 rfl (lv_at hl 2 rfl) ?_
                  refine va_get (D := D) (ci := 1) (v := .ref (F 3)) (C := RX1) (T := TX1) (N := 13) hx hb hts inX1 hown hE.1 hP 0 rfl rfl 2 (by decide) kf23 (fun _ h9 => h9) rfl dX1_catchesAhead_35 ?_
                  refine lv_iload_n hx hb dX1_catchesAhead_38 rfl (lv_at hl 3 rfl) ?_
                  refine pVi (As := [.int (nI i)]) (rest := [.ref (F 10)]) (wc := (wR cA (F 3) (F 14) 41 (fun z9 => nI (qLa a z9)))) ⟨hx, hb, hml, hown, hts⟩ (K_X2_getk lch D cA (F 3) (F 14) 41 (fun z9 => nI (qLa a z9)) i (nI (qLa a i)) H.size (by omega) (Nat.le_of_ble_eq_true rfl) (rfl)) (cwV 1 hts gX1_catchesAhead_X2_get rfl rfl rfl (by decide +kernel) ⟨Nat.le_of_ble_eq_true rfl, Nat.le_of_ble_eq_true rfl⟩) hE hP hD hS hA [3, 14] rfl rfl X0.blind (fun _ _ _ => trivial) 3 2 rfl rfl rfl hl.1 rfl rfl (Nat.le_of_ble_eq_true rfl) dX1_catchesAhead_39 ⟨Nat.zero_le _, Nat.zero_le _⟩ (fun r_58 u_59 H locs h_60 hP hS => ?_)
                  subst h_60
                  refine lv_iload_n hx hb dX1_catchesAhead_42 rfl (lv_at hl 1 rfl) ?_
                  refine lv_iload_n hx hb dX1_catchesAhead_43 rfl (lv_at hl 0 rfl) ?_
                  refine pSi (As := [.int (nI (qLa a i)), .int (nI ((qPl a i) + 1)), .int 2]) (rest := [.ref (F 10)]) (wc := ([] : va_W)) ⟨hx, hb, hml, hown, hts⟩ (K_X1_cell lch D cA (qLa a i) ((qPl a i) + 1) 2 H.size (by first | assumption | omega)) (cwS 3 hts gX1_catchesAhead_X1_cell rfl rfl rfl (by decide +kernel) ⟨Nat.le_of_ble_eq_true rfl, Nat.le_of_ble_eq_true rfl⟩) hE hP hD hS hA [] rfl rfl X0.blind (fun _ _ _ => trivial) hl.1 rfl rfl (Nat.le_of_ble_eq_true rfl) dX1_catchesAhead_44 ⟨Nat.zero_le _, Nat.zero_le _⟩ (fun r_61 u_62 H locs h_63 hP hS => ?_)
                  subst h_63
                  refine pVi (As := [.int (ck (qLa a i) ((qPl a i) + 1) 2)]) (rest := []) (wc := (wR cA (F 10) (F 21) 540 c)) ⟨hx, hb, hml, hown, hts⟩ (K_X2_get lch D cA (F 10) (F 21) 540 c (ck (qLa a i) ((qPl a i) + 1) 2) H.size (Nat.le_of_ble_eq_true rfl)) (cwV 1 hts gX1_catchesAhead_X2_get rfl rfl rfl (by decide +kernel) ⟨Nat.le_of_ble_eq_true rfl, Nat.le_of_ble_eq_true rfl⟩) hE hP hD hS hA [10, 21] rfl rfl X0.blind (fun _ _ _ => trivial) 10 2 rfl rfl rfl hl.1 rfl rfl (Nat.le_of_ble_eq_true rfl) dX1_catchesAhead_47 ⟨Nat.zero_le _, Nat.zero_le _⟩ (fun r_64 u_65 H locs h_66 hP hS => ?_)
                  subst h_66
                  refine lv_if_le (tgt := 55) hx hb dX1_catchesAhead_50 (by decide) (fun c50_1 => ?_) (fun c50_1 => ?_)
                  · skip
                    refine lv_iinc (v := 3) (lv' := [(3, .int 3), (2, .int (nI ((qPl a i) + 1))), (0, .ref (F 0)), (1, .int (nI i))]) hx hb dX1_catchesAhead_55 hl (k := 0) rfl (by decide) (by decide) rfl (fun ls hl => ?_)
                    refine lv_goto (tgt := 13) hx hb dX1_catchesAhead_58 (by decide) ?_
                    refine lv_iload_n hx hb dX1_catchesAhead_13 rfl (lv_at hl 0 rfl) ?_
                    refine lv_iconst (v := 3) hx hb dX1_catchesAhead_14 (by decide) ?_
                    refine lv_icmp_ge (tgt := 61) hx hb dX1_catchesAhead_15 (by decide) (fun c15_3 => ?_) (fun c15_3 => ?_)
                    · skip
                      have c15_3 := (nI_leI (a := 3) (b := 3) (by omega) (by omega)).mp c15_3
                      refine lv_iconst (v := 0) hx hb dX1_catchesAhead_61 (by decide) ?_
                      rw [hQQ]
                      exact W.zret (v := 0) hx hb hr (by decide) (fun t ht hW => ⟨⟨0, (), rfl, catch_f hw1 hcr hi (Or.inr c50) (Or.inl c27_1) (Or.inr c50_1), trivial⟩, hS.F ht⟩) hS.2.2 dX1_catchesAhead_62
                    · skip
                      exfalso; revert c15_3; decide
                  · skip
                    refine lv_iconst (v := 1) hx hb dX1_catchesAhead_53 (by decide) ?_
                    rw [hQQ]
                    exact W.zret (v := 1) hx hb hr (by decide) (fun t ht hW => ⟨⟨1, (), rfl, catch_t hw1 hcr hi (f := 2) (by decide) c27_2 c50_1, trivial⟩, hS.F ht⟩) hS.2.2 dX1_catchesAhead_54
            · skip
              have c27_1 := (not_congr (nI_eq (a := 1) (b := qFr a i) (by omega) (by omega))).mp c27_1
              refine lv_aload_n hx hb dX1_catchesAhead_30 rfl (lv_at hl 2 rfl) ?_
              refine va_get (D := D) (ci := 1) (v := .ref (F 10)) (C := RX1) (T := TX1) (N := 13) hx hb hts inX1 hown hE.1 hP 0 rfl rfl 9 (by decide) kf44 (fun _ h9 => h9) rfl dX1_catchesAhead_31 ?_
              refine lv_aload_n hx hb dX1_catchesAhead_34 rfl (lv_at hl 2 rfl) ?_
              refine va_get (D := D) (ci := 1) (v := .ref (F 3)) (C := RX1) (T := TX1) (N := 13) hx hb hts inX1 hown hE.1 hP 0 rfl rfl 2 (by decide) kf23 (fun _ h9 => h9) rfl dX1_catchesAhead_35 ?_
              refine lv_iload_n hx hb dX1_catchesAhead_38 rfl (lv_at hl 3 rfl) ?_
              refine pVi (As := [.int (nI i)]) (rest := [.ref (F 10)]) (wc := (wR cA (F 3) (F 14) 41 (fun z9 => nI (qLa a z9)))) ⟨hx, hb, hml, hown, hts⟩ (K_X2_getk lch D cA (F 3) (F 14) 41 (fun z9 => nI (qLa a z9)) i (nI (qLa a i)) H.size (by omega) (Nat.le_of_ble_eq_true rfl) (rfl)) (cwV 1 hts gX1_catchesAhead_X2_get rfl rfl rfl (by decide +kernel) ⟨Nat.le_of_ble_eq_true rfl, Nat.le_of_ble_eq_true rfl⟩) hE hP hD hS hA [3, 14] rfl rfl X0.blind (fun _ _ _ => trivial) 3 2 rfl rfl rfl hl.1 rfl rfl (Nat.le_of_ble_eq_true rfl) dX1_catchesAhead_39 ⟨Nat.zero_le _, Nat.zero_le _⟩ (fun r_67 u_68 H locs h_69 hP hS => ?_)
              subst h_69
              refine lv_iload_n hx hb dX1_catchesAhead_42 rfl (lv_at hl 1 rfl) ?_
              refine lv_iload_n hx hb dX1_catchesAhead_43 rfl (lv_at hl 0 rfl) ?_
              refine pSi (As := [.int (nI (qLa a i)), .int (nI ((qPl a i) + 1)), .int 1]) (rest := [.ref (F 10)]) (wc := ([] : va_W)) ⟨hx, hb, hml, hown, hts⟩ (K_X1_cell lch D cA (qLa a i) ((qPl a i) + 1) 1 H.size (by first | assumption | omega)) (cwS 3 hts gX1_catchesAhead_X1_cell rfl rfl rfl (by decide +kernel) ⟨Nat.le_of_ble_eq_true rfl, Nat.le_of_ble_eq_true rfl⟩) hE hP hD hS hA [] rfl rfl X0.blind (fun _ _ _ => trivial) hl.1 rfl rfl (Nat.le_of_ble_eq_true rfl) dX1_catchesAhead_44 ⟨Nat.zero_le _, Nat.zero_le _⟩ (fun r_70 u_71 H locs h_72 hP hS => ?_)
              subst h_72
              refine pVi (As := [.int (ck (qLa a i) ((qPl a i) + 1) 1)]) (rest := []) (wc := (wR cA (F 10) (F 21) 540 c)) ⟨hx, hb, hml, hown, hts⟩ (K_X2_get lch D cA (F 10) (F 21) 540 c (ck (qLa a i) ((qPl a i) + 1) 1) H.size (Nat.le_of_ble_eq_true rfl)) (cwV 1 hts gX1_catchesAhead_X2_get rfl rfl rfl (by decide +kernel) ⟨Nat.le_of_ble_eq_true rfl, Nat.le_of_ble_eq_true rfl⟩) hE hP hD hS hA [10, 21] rfl rfl X0.blind (fun _ _ _ => trivial) 10 2 rfl rfl rfl hl.1 rfl rfl (Nat.le_of_ble_eq_true rfl) dX1_catchesAhead_47 ⟨Nat.zero_le _, Nat.zero_le _⟩ (fun r_73 u_74 H locs h_75 hP hS => ?_)
              subst h_75
              refine lv_if_le (tgt := 55) hx hb dX1_catchesAhead_50 (by decide) (fun c50_1 => ?_) (fun c50_1 => ?_)
              · skip
                refine lv_iinc (v := 2) (lv' := [(3, .int 2), (2, .int (nI ((qPl a i) + 1))), (0, .ref (F 0)), (1, .int (nI i))]) hx hb dX1_catchesAhead_55 hl (k := 0) rfl (by decide) (by decide) rfl (fun ls hl => ?_)
                refine lv_goto (tgt := 13) hx hb dX1_catchesAhead_58 (by decide) ?_
                refine lv_iload_n hx hb dX1_catchesAhead_13 rfl (lv_at hl 0 rfl) ?_
                refine lv_iconst (v := 3) hx hb dX1_catchesAhead_14 (by decide) ?_
                refine lv_icmp_ge (tgt := 61) hx hb dX1_catchesAhead_15 (by decide) (fun c15_2 => ?_) (fun c15_2 => ?_)
                · skip
                  exfalso; revert c15_2; decide
                · skip
                  have c15_2 := (not_congr (nI_leI (a := 3) (b := 2) (by omega) (by omega))).mp c15_2
                  refine lv_iload_n hx hb dX1_catchesAhead_18 rfl (lv_at hl 0 rfl) ?_
                  refine lv_aload_n hx hb dX1_catchesAhead_19 rfl (lv_at hl 2 rfl) ?_
                  refine va_get (D := D) (ci := 1) (v := .ref (F 1)) (C := RX1) (T := TX1) (N := 13) hx hb hts inX1 hown hE.1 hP 0 rfl rfl 0 (by decide) kf16 (fun _ h9 => h9) rfl dX1_catchesAhead_20 ?_
                  refine lv_iload_n hx hb dX1_catchesAhead_23 rfl (lv_at hl 3 rfl) ?_
                  refine pVi (As := [.int (nI i)]) (rest := [.int 2]) (wc := (wR cA (F 1) (F 12) 41 (fun z9 => nI (qFr a z9)))) ⟨hx, hb, hml, hown, hts⟩ (K_X2_getk lch D cA (F 1) (F 12) 41 (fun z9 => nI (qFr a z9)) i (nI (qFr a i)) H.size (by omega) (Nat.le_of_ble_eq_true rfl) (rfl)) (cwV 1 hts gX1_catchesAhead_X2_get rfl rfl rfl (by decide +kernel) ⟨Nat.le_of_ble_eq_true rfl, Nat.le_of_ble_eq_true rfl⟩) hE hP hD hS hA [1, 12] rfl rfl X0.blind (fun _ _ _ => trivial) 1 2 rfl rfl rfl hl.1 rfl rfl (Nat.le_of_ble_eq_true rfl) dX1_catchesAhead_24 ⟨Nat.zero_le _, Nat.zero_le _⟩ (fun r_76 u_77 H locs h_78 hP hS => ?_)
                  subst h_78
                  refine lv_icmp_eq (tgt := 55) hx hb dX1_catchesAhead_27 (by decide) (fun c27_2 => ?_) (fun c27_2 => ?_)
                  · skip
                    have c27_2 := (nI_eq (a := 2) (b := qFr a i) (by omega) (by omega)).mp c27_2
                    refine lv_iinc (v := 3) (lv' := [(3, .int 3), (2, .int (nI ((qPl a i) + 1))), (0, .ref (F 0)), (1, .int (nI i))]) hx hb dX1_catchesAhead_55 hl (k := 0) rfl (by decide) (by decide) rfl (fun ls hl => ?_)
                    refine lv_goto (tgt := 13) hx hb dX1_catchesAhead_58 (by decide) ?_
                    refine lv_iload_n hx hb dX1_catchesAhead_13 rfl (lv_at hl 0 rfl) ?_
                    refine lv_iconst (v := 3) hx hb dX1_catchesAhead_14 (by decide) ?_
                    refine lv_icmp_ge (tgt := 61) hx hb dX1_catchesAhead_15 (by decide) (fun c15_3 => ?_) (fun c15_3 => ?_)
                    · skip
                      have c15_3 := (nI_leI (a := 3) (b := 3) (by omega) (by omega)).mp c15_3
                      refine lv_iconst (v := 0) hx hb dX1_catchesAhead_61 (by decide) ?_
                      rw [hQQ]
                      exact W.zret (v := 0) hx hb hr (by decide) (fun t ht hW => ⟨⟨0, (), rfl, catch_f hw1 hcr hi (Or.inr c50) (Or.inr c50_1) (Or.inl c27_2), trivial⟩, hS.F ht⟩) hS.2.2 dX1_catchesAhead_62
                    · skip
                      exfalso; revert c15_3; decide
                  · skip
                    have c27_2 := (not_congr (nI_eq (a := 2) (b := qFr a i) (by omega) (by omega))).mp c27_2
                    refine lv_aload_n hx hb dX1_catchesAhead_30 rfl (lv_at hl 2 rfl) ?_
                    refine va_get (D := D) (ci := 1) (v := .ref (F 10)) (C := RX1) (T := TX1) (N := 13) hx hb hts inX1 hown hE.1 hP 0 rfl rfl 9 (by decide) kf44 (fun _ h9 => h9) rfl dX1_catchesAhead_31 ?_
                    refine lv_aload_n hx hb dX1_catchesAhead_34 rfl (lv_at hl 2 rfl) ?_
                    refine va_get (D := D) (ci := 1) (v := .ref (F 3)) (C := RX1) (T := TX1) (N := 13) hx hb hts inX1 hown hE.1 hP 0 rfl rfl 2 (by decide) kf23 (fun _ h9 => h9) rfl dX1_catchesAhead_35 ?_
                    refine lv_iload_n hx hb dX1_catchesAhead_38 rfl (lv_at hl 3 rfl) ?_
                    refine pVi (As := [.int (nI i)]) (rest := [.ref (F 10)]) (wc := (wR cA (F 3) (F 14) 41 (fun z9 => nI (qLa a z9)))) ⟨hx, hb, hml, hown, hts⟩ (K_X2_getk lch D cA (F 3) (F 14) 41 (fun z9 => nI (qLa a z9)) i (nI (qLa a i)) H.size (by omega) (Nat.le_of_ble_eq_true rfl) (rfl)) (cwV 1 hts gX1_catchesAhead_X2_get rfl rfl rfl (by decide +kernel) ⟨Nat.le_of_ble_eq_true rfl, Nat.le_of_ble_eq_true rfl⟩) hE hP hD hS hA [3, 14] rfl rfl X0.blind (fun _ _ _ => trivial) 3 2 rfl rfl rfl hl.1 rfl rfl (Nat.le_of_ble_eq_true rfl) dX1_catchesAhead_39 ⟨Nat.zero_le _, Nat.zero_le _⟩ (fun r_79 u_80 H locs h_81 hP hS => ?_)
                    subst h_81
                    refine lv_iload_n hx hb dX1_catchesAhead_42 rfl (lv_at hl 1 rfl) ?_
                    refine lv_iload_n hx hb dX1_catchesAhead_43 rfl (lv_at hl 0 rfl) ?_
                    refine pSi (As := [.int (nI (qLa a i)), .int (nI ((qPl a i) + 1)), .int 2]) (rest := [.ref (F 10)]) (wc := ([] : va_W)) ⟨hx, hb, hml, hown, hts⟩ (K_X1_cell lch D cA (qLa a i) ((qPl a i) + 1) 2 H.size (by first | assumption | omega)) (cwS 3 hts gX1_catchesAhead_X1_cell rfl rfl rfl (by decide +kernel) ⟨Nat.le_of_ble_eq_true rfl, Nat.le_of_ble_eq_true rfl⟩) hE hP hD hS hA [] rfl rfl X0.blind (fun _ _ _ => trivial) hl.1 rfl rfl (Nat.le_of_ble_eq_true rfl) dX1_catchesAhead_44 ⟨Nat.zero_le _, Nat.zero_le _⟩ (fun r_82 u_83 H locs h_84 hP hS => ?_)
                    subst h_84
                    refine pVi (As := [.int (ck (qLa a i) ((qPl a i) + 1) 2)]) (rest := []) (wc := (wR cA (F 10) (F 21) 540 c)) ⟨hx, hb, hml, hown, hts⟩ (K_X2_get lch D cA (F 10) (F 21) 540 c (ck (qLa a i) ((qPl a i) + 1) 2) H.size (Nat.le_of_ble_eq_true rfl)) (cwV 1 hts gX1_catchesAhead_X2_get rfl rfl rfl (by decide +kernel) ⟨Nat.le_of_ble_eq_true rfl, Nat.le_of_ble_eq_true rfl⟩) hE hP hD hS hA [10, 21] rfl rfl X0.blind (fun _ _ _ => trivial) 10 2 rfl rfl rfl hl.1 rfl rfl (Nat.le_of_ble_eq_true rfl) dX1_catchesAhead_47 ⟨Nat.zero_le _, Nat.zero_le _⟩ (fun r_85 u_86 H locs h_87 hP hS => ?_)
                    subst h_87
                    refine lv_if_le (tgt := 55) hx hb dX1_catchesAhead_50 (by decide) (fun c50_2 => ?_) (fun c50_2 => ?_)
                    · skip
                      refine lv_iinc (v := 3) (lv' := [(3, .int 3), (2, .int (nI ((qPl a i) + 1))), (0, .ref (F 0)), (1, .int (nI i))]) hx hb dX1_catchesAhead_55 hl (k := 0) rfl (by decide) (by decide) rfl (fun ls hl => ?_)
                      refine lv_goto (tgt := 13) hx hb dX1_catchesAhead_58 (by decide) ?_
                      refine lv_iload_n hx hb dX1_catchesAhead_13 rfl (lv_at hl 0 rfl) ?_
                      refine lv_iconst (v := 3) hx hb dX1_catchesAhead_14 (by decide) ?_
                      refine lv_icmp_ge (tgt := 61) hx hb dX1_catchesAhead_15 (by decide) (fun c15_3 => ?_) (fun c15_3 => ?_)
                      · skip
                        have c15_3 := (nI_leI (a := 3) (b := 3) (by omega) (by omega)).mp c15_3
                        refine lv_iconst (v := 0) hx hb dX1_catchesAhead_61 (by decide) ?_
                        rw [hQQ]
                        exact W.zret (v := 0) hx hb hr (by decide) (fun t ht hW => ⟨⟨0, (), rfl, catch_f hw1 hcr hi (Or.inr c50) (Or.inr c50_1) (Or.inr c50_2), trivial⟩, hS.F ht⟩) hS.2.2 dX1_catchesAhead_62
                      · skip
                        exfalso; revert c15_3; decide
                    · skip
                      refine lv_iconst (v := 1) hx hb dX1_catchesAhead_53 (by decide) ?_
                      rw [hQQ]
                      exact W.zret (v := 1) hx hb hr (by decide) (fun t ht hW => ⟨⟨1, (), rfl, catch_t hw1 hcr hi (f := 2) (by decide) c27_2 c50_2, trivial⟩, hS.F ht⟩) hS.2.2 dX1_catchesAhead_54
              · skip
                refine lv_iconst (v := 1) hx hb dX1_catchesAhead_53 (by decide) ?_
                rw [hQQ]
                exact W.zret (v := 1) hx hb hr (by decide) (fun t ht hW => ⟨⟨1, (), rfl, catch_t hw1 hcr hi (f := 1) (by decide) c27_1 c50_1, trivial⟩, hS.F ht⟩) hS.2.2 dX1_catchesAhead_54
        · skip
          refine lv_iconst (v := 1) hx hb dX1_catchesAhead_53 (by decide) ?_
          rw [hQQ]
          exact W.zret (v := 1) hx hb hr (by decide) (fun t ht hW => ⟨⟨1, (), rfl, catch_t hw1 hcr hi (f := 0) (by decide) c27 c50, trivial⟩, hS.F ht⟩) hS.2.2 dX1_catchesAhead_54
  rw [hg1, hg2] at hgoal
  exact hgoal

set_option maxHeartbeats 4000000 in
set_option maxRecDepth 100000 in
/-- meetWeir -/
theorem K_X1_meetWeir (lch : Launch) (D : va_G) (cA : ClassId) (F : Nat → Nat) (a : FSt) (c : Nat → Int32) (q : Nat → Int32) (i : Nat) (v : Int32) (sz : Nat) (hi : i < qN a) (hw1 : WFa a) (hcr : CRa a c) : Met lch yX1_meetWeir wsX1_meetWeir ({ frames := 2, cells := 0, slots := 0, locals := 42 }) (Pr D cA [.ref (F 0), .int (nI i), .int v] sz (wF cA F a c q) X0) (va_Qv (fun (u : Unit) => True) (fun (u : Unit) t => va_P D vwCl (wF cA F (metA v a i) c q) t.heap) (va_A (wF cA F a c q) sz)) 0 0 (va_A (wF cA F a c q) sz) := by
  refine Met.ofW (cc := cX1_meetWeir) (maxL := 6) (ret := none) (by decide) rfl ?_
  intro pg ev s mi args below meth cd s₁ B hml hv
  obtain ⟨hav, hsz, hP, hE, hD, hXs⟩ := hv
  have hx := B.exec
  have hb := B.bytes
  have hr := B.returns
  have hts := atoms_spec (ws := wsX1_meetWeir) B.pre
  have hown : s.vm.findClass RX1 = some mi.cls := findClass_of_methodNamed B.named
  have hlocks := B.notSynchronized
  clear B
  subst hav
  subst hsz
  have hD := hD.self (sz := s.heap.size)
  generalize hAe : va_A (wF cA F a c q) s.heap.size = A at hD ⊢
  have hA : ∀ q : Nat, s.heap.size ≤ q → A q := fun q h => by rw [← hAe]; exact Or.inr h
  have hS : va_S A s.heap s.heap [] := va_S.rf
  obtain ⟨QQ, hQQ⟩ : ∃ qq9, qq9 = MQ below (va_Qv (fun (u : Unit) => True) (fun (u : Unit) t => va_P D vwCl (wF cA F (metA v a i) c q) t.heap) A) ([.ref (F 0), .int (nI i), .int v] : List Value).toArray s 0 0 A := ⟨_, rfl⟩
  rw [← hQQ]
  have hl := lv_entry ([.ref (F 0), .int (nI i), .int v]) (n := 6) (Nat.le_of_ble_eq_true rfl)
  rw [lg_entry_eq]
  generalize (lg_sl ([.ref (F 0), .int (nI i), .int v]) ++ List.replicate (6 - (lg_sl ([.ref (F 0), .int (nI i), .int v])).length) Slot.unset).toArray = ls at hl ⊢
  have hl : lv_has ls 6 [(0, .ref (F 0)), (1, .int (nI i)), (2, .int v)] := hl
  have kf44 := hts (.fieldLink RX1 44 "LanternWeirs$Fleet" "crowd" "LLanternWeirs$Row;") (by decide +kernel)
  have inX1 : ∀ w ∈ u_ws RX1 TX1 13, w ∈ wsX1_meetWeir := by decide +kernel
  have kf23 := hts (.fieldLink RX1 23 "LanternWeirs$Fleet" "lanes" "LLanternWeirs$Row;") (by decide +kernel)
  have kf26 := hts (.fieldLink RX1 26 "LanternWeirs$Fleet" "places" "LLanternWeirs$Row;") (by decide +kernel)
  have kf32 := hts (.fieldLink RX1 32 "LanternWeirs$Fleet" "wets" "LLanternWeirs$Row;") (by decide +kernel)
  have kf35 := hts (.fieldLink RX1 35 "LanternWeirs$Fleet" "burning" "LLanternWeirs$Row;") (by decide +kernel)
  obtain ⟨H, locs, hP, hS, hgo⟩ : ∃ H locs, va_P D vwCl (wF cA F a c q) H ∧ va_S A s.heap H locs ∧ (H = s.heap ∧ locs = []) := ⟨_, _, hP, hS, rfl, rfl⟩
  obtain ⟨hg1, hg2⟩ := hgo
  have hgoal : W pg lch ev (headSpec wsX1_meetWeir ({ frames := 2, cells := 0, slots := 0, locals := 42 })).room s mi ([.ref (F 0), .int (nI i), .int v] : List Value).toArray below meth cd H locs 0 0 QQ (F0 mi 0 ls []) := by
    have hn := hw1.1
    obtain ⟨w1, w2, w3, w4, w5, w6, w7, w8⟩ := hw1.2 i hi
    refine lv_iload_n hx hb dX1_meetWeir_0 rfl (lv_at hl 2 rfl) ?_
    refine lv_if_gt (tgt := 5) hx hb dX1_meetWeir_1 (by decide) (fun c1 => ?_) (fun c1 => ?_)
    · skip
      refine lv_iload_n hx hb dX1_meetWeir_5 rfl (lv_at hl 2 rfl) ?_
      refine lv_istore_n (lv' := [(3, .int v), (0, .ref (F 0)), (1, .int (nI i)), (2, .int v)]) hx hb dX1_meetWeir_6 rfl hl (by decide) rfl (fun ls hl => ?_)
      refine lv_iconst (v := 1) hx hb dX1_meetWeir_7 (by decide) ?_
      refine lv_istore (lv' := [(4, .int 1), (3, .int v), (0, .ref (F 0)), (1, .int (nI i)), (2, .int v)]) hx hb dX1_meetWeir_8 hl (by decide) rfl (fun ls hl => ?_)
      refine lv_iload hx hb dX1_meetWeir_10 (lv_at hl 0 rfl) ?_
      refine lv_iconst (v := 3) hx hb dX1_meetWeir_12 (by decide) ?_
      refine lv_icmp_gt (tgt := 71) hx hb dX1_meetWeir_13 (by decide) (fun c13 => ?_) (fun c13 => ?_)
      · skip
        exfalso; revert c13; decide
      · skip
        have c13 := (not_congr (nI_ltI (a := 3) (b := 1) (by omega) (by omega))).mp c13
        refine lv_iconst (v := 0) hx hb dX1_meetWeir_16 (by decide) ?_
        refine lv_istore (lv' := [(5, .int 0), (4, .int 1), (3, .int v), (0, .ref (F 0)), (1, .int (nI i)), (2, .int v)]) hx hb dX1_meetWeir_17 hl (by decide) rfl (fun ls hl => ?_)
        refine lv_iload hx hb dX1_meetWeir_19 (lv_at hl 0 rfl) ?_
        refine lv_iconst (v := 3) hx hb dX1_meetWeir_21 (by decide) ?_
        refine lv_icmp_ge (tgt := 65) hx hb dX1_meetWeir_22 (by decide) (fun c22 => ?_) (fun c22 => ?_)
        · skip
          exfalso; revert c22; decide
        · skip
          have c22 := (not_congr (nI_leI (a := 3) (b := 0) (by omega) (by omega))).mp c22
          refine lv_iload_n hx hb dX1_meetWeir_25 rfl (lv_at hl 2 rfl) ?_
          refine lv_aload_n hx hb dX1_meetWeir_26 rfl (lv_at hl 3 rfl) ?_
          refine va_get (D := D) (ci := 1) (v := .ref (F 10)) (C := RX1) (T := TX1) (N := 13) hx hb hts inX1 hown hE.1 hP 0 rfl rfl 9 (by decide) kf44 (fun _ h9 => h9) rfl dX1_meetWeir_27 ?_
          refine lv_aload_n hx hb dX1_meetWeir_30 rfl (lv_at hl 3 rfl) ?_
          refine va_get (D := D) (ci := 1) (v := .ref (F 3)) (C := RX1) (T := TX1) (N := 13) hx hb hts inX1 hown hE.1 hP 0 rfl rfl 2 (by decide) kf23 (fun _ h9 => h9) rfl dX1_meetWeir_31 ?_
          refine lv_iload_n hx hb dX1_meetWeir_34 rfl (lv_at hl 4 rfl) ?_
          refine pVi (As := [.int (nI i)]) (rest := [.ref (F 10), .int v]) (wc := (wR cA (F 3) (F 14) 41 (fun z9 => nI (qLa a z9)))) ⟨hx, hb, hml, hown, hts⟩ (K_X2_getk lch D cA (F 3) (F 14) 41 (fun z9 => nI (qLa a z9)) i (nI (qLa a i)) H.size (by omega) (Nat.le_of_ble_eq_true rfl) (rfl)) (cwV 1 hts gX1_meetWeir_X2_get rfl rfl rfl (by decide +kernel) ⟨Nat.le_of_ble_eq_true rfl, Nat.le_of_ble_eq_true rfl⟩) hE hP hD hS hA [3, 14] rfl rfl X0.blind (fun _ _ _ => trivial) 3 2 rfl rfl rfl hl.1 rfl rfl (Nat.le_of_ble_eq_true rfl) dX1_meetWeir_35 ⟨Nat.zero_le _, Nat.zero_le _⟩ (fun r_1 u_2 H locs h_3 hP hS => ?_)
          subst h_3
          refine lv_aload_n hx hb dX1_meetWeir_38 rfl (lv_at hl 3 rfl) ?_
          refine va_get (D := D) (ci := 1) (v := .ref (F 4)) (C := RX1) (T := TX1) (N := 13) hx hb hts inX1 hown hE.1 hP 0 rfl rfl 3 (by decide) kf26 (fun _ h9 => h9) rfl dX1_meetWeir_39 ?_
          refine lv_iload_n hx hb dX1_meetWeir_42 rfl (lv_at hl 4 rfl) ?_
          refine pVi (As := [.int (nI i)]) (rest := [.int (nI (qLa a i)), .ref (F 10), .int v]) (wc := (wR cA (F 4) (F 15) 41 (fun z9 => nI (qPl a z9)))) ⟨hx, hb, hml, hown, hts⟩ (K_X2_getk lch D cA (F 4) (F 15) 41 (fun z9 => nI (qPl a z9)) i (nI (qPl a i)) H.size (by omega) (Nat.le_of_ble_eq_true rfl) (rfl)) (cwV 1 hts gX1_meetWeir_X2_get rfl rfl rfl (by decide +kernel) ⟨Nat.le_of_ble_eq_true rfl, Nat.le_of_ble_eq_true rfl⟩) hE hP hD hS hA [4, 15] rfl rfl X0.blind (fun _ _ _ => trivial) 4 2 rfl rfl rfl hl.1 rfl rfl (Nat.le_of_ble_eq_true rfl) dX1_meetWeir_43 ⟨Nat.zero_le _, Nat.zero_le _⟩ (fun r_4 u_5 H locs h_6 hP hS => ?_)
          subst h_6
          refine lv_iload hx hb dX1_meetWeir_46 (lv_at hl 1 rfl) ?_
          refine lv_iadd hx hb dX1_meetWeir_48 ?_
          refine top_i (y := nI ((qPl a i) + 1)) (nI_add _ _) ?_
          refine lv_iload hx hb dX1_meetWeir_49 (lv_at hl 0 rfl) ?_
          refine pSi (As := [.int (nI (qLa a i)), .int (nI ((qPl a i) + 1)), .int 0]) (rest := [.ref (F 10), .int v]) (wc := ([] : va_W)) ⟨hx, hb, hml, hown, hts⟩ (K_X1_cell lch D cA (qLa a i) ((qPl a i) + 1) 0 H.size (by first | assumption | omega)) (cwS 3 hts gX1_meetWeir_X1_cell rfl rfl rfl (by decide +kernel) ⟨Nat.le_of_ble_eq_true rfl, Nat.le_of_ble_eq_true rfl⟩) hE hP hD hS hA [] rfl rfl X0.blind (fun _ _ _ => trivial) hl.1 rfl rfl (Nat.le_of_ble_eq_true rfl) dX1_meetWeir_51 ⟨Nat.zero_le _, Nat.zero_le _⟩ (fun r_7 u_8 H locs h_9 hP hS => ?_)
          subst h_9
          refine pVi (As := [.int (ck (qLa a i) ((qPl a i) + 1) 0)]) (rest := [.int v]) (wc := (wR cA (F 10) (F 21) 540 c)) ⟨hx, hb, hml, hown, hts⟩ (K_X2_get lch D cA (F 10) (F 21) 540 c (ck (qLa a i) ((qPl a i) + 1) 0) H.size (Nat.le_of_ble_eq_true rfl)) (cwV 1 hts gX1_meetWeir_X2_get rfl rfl rfl (by decide +kernel) ⟨Nat.le_of_ble_eq_true rfl, Nat.le_of_ble_eq_true rfl⟩) hE hP hD hS hA [10, 21] rfl rfl X0.blind (fun _ _ _ => trivial) 10 2 rfl rfl rfl hl.1 rfl rfl (Nat.le_of_ble_eq_true rfl) dX1_meetWeir_54 ⟨Nat.zero_le _, Nat.zero_le _⟩ (fun r_10 u_11 H locs h_12 hP hS => ?_)
          subst h_12
          refine lv_isub hx hb dX1_meetWeir_57 ?_
          refine lv_istore_n (lv' := [(3, .int (v - (rg 540 c (ck (qLa a i) ((qPl a i) + 1) 0)))), (5, .int 0), (4, .int 1), (0, .ref (F 0)), (1, .int (nI i)), (2, .int v)]) hx hb dX1_meetWeir_58 rfl hl (by decide) rfl (fun ls hl => ?_)
          refine lv_iinc (v := 1) (lv' := [(5, .int 1), (3, .int (v - (rg 540 c (ck (qLa a i) ((qPl a i) + 1) 0)))), (4, .int 1), (0, .ref (F 0)), (1, .int (nI i)), (2, .int v)]) hx hb dX1_meetWeir_59 hl (k := 1) rfl (by decide) (by decide) rfl (fun ls hl => ?_)
          refine lv_goto (tgt := 19) hx hb dX1_meetWeir_62 (by decide) ?_
          refine lv_iload hx hb dX1_meetWeir_19 (lv_at hl 0 rfl) ?_
          refine lv_iconst (v := 3) hx hb dX1_meetWeir_21 (by decide) ?_
          refine lv_icmp_ge (tgt := 65) hx hb dX1_meetWeir_22 (by decide) (fun c22_1 => ?_) (fun c22_1 => ?_)
          · skip
            exfalso; revert c22_1; decide
          · skip
            have c22_1 := (not_congr (nI_leI (a := 3) (b := 1) (by omega) (by omega))).mp c22_1
            refine lv_iload_n hx hb dX1_meetWeir_25 rfl (lv_at hl 1 rfl) ?_
            refine lv_aload_n hx hb dX1_meetWeir_26 rfl (lv_at hl 3 rfl) ?_
            refine va_get (D := D) (ci := 1) (v := .ref (F 10)) (C := RX1) (T := TX1) (N := 13) hx hb hts inX1 hown hE.1 hP 0 rfl rfl 9 (by decide) kf44 (fun _ h9 => h9) rfl dX1_meetWeir_27 ?_
            refine lv_aload_n hx hb dX1_meetWeir_30 rfl (lv_at hl 3 rfl) ?_
            refine va_get (D := D) (ci := 1) (v := .ref (F 3)) (C := RX1) (T := TX1) (N := 13) hx hb hts inX1 hown hE.1 hP 0 rfl rfl 2 (by decide) kf23 (fun _ h9 => h9) rfl dX1_meetWeir_31 ?_
            refine lv_iload_n hx hb dX1_meetWeir_34 rfl (lv_at hl 4 rfl) ?_
            refine pVi (As := [.int (nI i)]) (rest := [.ref (F 10), .int (v - (rg 540 c (ck (qLa a i) ((qPl a i) + 1) 0)))]) (wc := (wR cA (F 3) (F 14) 41 (fun z9 => nI (qLa a z9)))) ⟨hx, hb, hml, hown, hts⟩ (K_X2_getk lch D cA (F 3) (F 14) 41 (fun z9 => nI (qLa a z9)) i (nI (qLa a i)) H.size (by omega) (Nat.le_of_ble_eq_true rfl) (rfl)) (cwV 1 hts gX1_meetWeir_X2_get rfl rfl rfl (by decide +kernel) ⟨Nat.le_of_ble_eq_true rfl, Nat.le_of_ble_eq_true rfl⟩) hE hP hD hS hA [3, 14] rfl rfl X0.blind (fun _ _ _ => trivial) 3 2 rfl rfl rfl hl.1 rfl rfl (Nat.le_of_ble_eq_true rfl) dX1_meetWeir_35 ⟨Nat.zero_le _, Nat.zero_le _⟩ (fun r_13 u_14 H locs h_15 hP hS => ?_)
            subst h_15
            refine lv_aload_n hx hb dX1_meetWeir_38 rfl (lv_at hl 3 rfl) ?_
            refine va_get (D := D) (ci := 1) (v := .ref (F 4)) (C := RX1) (T := TX1) (N := 13) hx hb hts inX1 hown hE.1 hP 0 rfl rfl 3 (by decide) kf26 (fun _ h9 => h9) rfl dX1_meetWeir_39 ?_
            refine lv_iload_n hx hb dX1_meetWeir_42 rfl (lv_at hl 4 rfl) ?_
            refine pVi (As := [.int (nI i)]) (rest := [.int (nI (qLa a i)), .ref (F 10), .int (v - (rg 540 c (ck (qLa a i) ((qPl a i) + 1) 0)))]) (wc := (wR cA (F 4) (F 15) 41 (fun z9 => nI (qPl a z9)))) ⟨hx, hb, hml, hown, hts⟩ (K_X2_getk lch D cA (F 4) (F 15) 41 (fun z9 => nI (qPl a z9)) i (nI (qPl a i)) H.size (by omega) (Nat.le_of_ble_eq_true rfl) (rfl)) (cwV 1 hts gX1_meetWeir_X2_get rfl rfl rfl (by decide +kernel) ⟨Nat.le_of_ble_eq_true rfl, Nat.le_of_ble_eq_true rfl⟩) hE hP hD hS hA [4, 15] rfl rfl X0.blind (fun _ _ _ => trivial) 4 2 rfl rfl rfl hl.1 rfl rfl (Nat.le_of_ble_eq_true rfl) dX1_meetWeir_43 ⟨Nat.zero_le _, Nat.zero_le _⟩ (fun r_16 u_17 H locs h_18 hP hS => ?_)
            subst h_18
            refine lv_iload hx hb dX1_meetWeir_46 (lv_at hl 2 rfl) ?_
            refine lv_iadd hx hb dX1_meetWeir_48 ?_
            refine top_i (y := nI ((qPl a i) + 1)) (nI_add _ _) ?_
            refine lv_iload hx hb dX1_meetWeir_49 (lv_at hl 0 rfl) ?_
            refine pSi (As := [.int (nI (qLa a i)), .int (nI ((qPl a i) + 1)), .int 1]) (rest := [.ref (F 10), .int (v - (rg 540 c (ck (qLa a i) ((qPl a i) + 1) 0)))]) (wc := ([] : va_W)) ⟨hx, hb, hml, hown, hts⟩ (K_X1_cell lch D cA (qLa a i) ((qPl a i) + 1) 1 H.size (by first | assumption | omega)) (cwS 3 hts gX1_meetWeir_X1_cell rfl rfl rfl (by decide +kernel) ⟨Nat.le_of_ble_eq_true rfl, Nat.le_of_ble_eq_true rfl⟩) hE hP hD hS hA [] rfl rfl X0.blind (fun _ _ _ => trivial) hl.1 rfl rfl (Nat.le_of_ble_eq_true rfl) dX1_meetWeir_51 ⟨Nat.zero_le _, Nat.zero_le _⟩ (fun r_19 u_20 H locs h_21 hP hS => ?_)
            subst h_21
            refine pVi (As := [.int (ck (qLa a i) ((qPl a i) + 1) 1)]) (rest := [.int (v - (rg 540 c (ck (qLa a i) ((qPl a i) + 1) 0)))]) (wc := (wR cA (F 10) (F 21) 540 c)) ⟨hx, hb, hml, hown, hts⟩ (K_X2_get lch D cA (F 10) (F 21) 540 c (ck (qLa a i) ((qPl a i) + 1) 1) H.size (Nat.le_of_ble_eq_true rfl)) (cwV 1 hts gX1_meetWeir_X2_get rfl rfl rfl (by decide +kernel) ⟨Nat.le_of_ble_eq_true rfl, Nat.le_of_ble_eq_true rfl⟩) hE hP hD hS hA [10, 21] rfl rfl X0.blind (fun _ _ _ => trivial) 10 2 rfl rfl rfl hl.1 rfl rfl (Nat.le_of_ble_eq_true rfl) dX1_meetWeir_54 ⟨Nat.zero_le _, Nat.zero_le _⟩ (fun r_22 u_23 H locs h_24 hP hS => ?_)
            subst h_24
            refine lv_isub hx hb dX1_meetWeir_57 ?_
            refine lv_istore_n (lv' := [(3, .int ((v - (rg 540 c (ck (qLa a i) ((qPl a i) + 1) 0))) - (rg 540 c (ck (qLa a i) ((qPl a i) + 1) 1)))), (5, .int 1), (4, .int 1), (0, .ref (F 0)), (1, .int (nI i)), (2, .int v)]) hx hb dX1_meetWeir_58 rfl hl (by decide) rfl (fun ls hl => ?_)
            refine lv_iinc (v := 2) (lv' := [(5, .int 2), (3, .int ((v - (rg 540 c (ck (qLa a i) ((qPl a i) + 1) 0))) - (rg 540 c (ck (qLa a i) ((qPl a i) + 1) 1)))), (4, .int 1), (0, .ref (F 0)), (1, .int (nI i)), (2, .int v)]) hx hb dX1_meetWeir_59 hl (k := 1) rfl (by decide) (by decide) rfl (fun ls hl => ?_)
            refine lv_goto (tgt := 19) hx hb dX1_meetWeir_62 (by decide) ?_
            refine lv_iload hx hb dX1_meetWeir_19 (lv_at hl 0 rfl) ?_
            refine lv_iconst (v := 3) hx hb dX1_meetWeir_21 (by decide) ?_
            refine lv_icmp_ge (tgt := 65) hx hb dX1_meetWeir_22 (by decide) (fun c22_2 => ?_) (fun c22_2 => ?_)
            · skip
              exfalso; revert c22_2; decide
            · skip
              have c22_2 := (not_congr (nI_leI (a := 3) (b := 2) (by omega) (by omega))).mp c22_2
              refine lv_iload_n hx hb dX1_meetWeir_25 rfl (lv_at hl 1 rfl) ?_
              refine lv_aload_n hx hb dX1_meetWeir_26 rfl (lv_at hl 3 rfl) ?_
              refine va_get (D := D) (ci := 1) (v := .ref (F 10)) (C := RX1) (T := TX1) (N := 13) hx hb hts inX1 hown hE.1 hP 0 rfl rfl 9 (by decide) kf44 (fun _ h9 => h9) rfl dX1_meetWeir_27 ?_
              refine lv_aload_n hx hb dX1_meetWeir_30 rfl (lv_at hl 3 rfl) ?_
              refine va_get (D := D) (ci := 1) (v := .ref (F 3)) (C := RX1) (T := TX1) (N := 13) hx hb hts inX1 hown hE.1 hP 0 rfl rfl 2 (by decide) kf23 (fun _ h9 => h9) rfl dX1_meetWeir_31 ?_
              refine lv_iload_n hx hb dX1_meetWeir_34 rfl (lv_at hl 4 rfl) ?_
              refine pVi (As := [.int (nI i)]) (rest := [.ref (F 10), .int ((v - (rg 540 c (ck (qLa a i) ((qPl a i) + 1) 0))) - (rg 540 c (ck (qLa a i) ((qPl a i) + 1) 1)))]) (wc := (wR cA (F 3) (F 14) 41 (fun z9 => nI (qLa a z9)))) ⟨hx, hb, hml, hown, hts⟩ (K_X2_getk lch D cA (F 3) (F 14) 41 (fun z9 => nI (qLa a z9)) i (nI (qLa a i)) H.size (by omega) (Nat.le_of_ble_eq_true rfl) (rfl)) (cwV 1 hts gX1_meetWeir_X2_get rfl rfl rfl (by decide +kernel) ⟨Nat.le_of_ble_eq_true rfl, Nat.le_of_ble_eq_true rfl⟩) hE hP hD hS hA [3, 14] rfl rfl X0.blind (fun _ _ _ => trivial) 3 2 rfl rfl rfl hl.1 rfl rfl (Nat.le_of_ble_eq_true rfl) dX1_meetWeir_35 ⟨Nat.zero_le _, Nat.zero_le _⟩ (fun r_25 u_26 H locs h_27 hP hS => ?_)
              subst h_27
              refine lv_aload_n hx hb dX1_meetWeir_38 rfl (lv_at hl 3 rfl) ?_
              refine va_get (D := D) (ci := 1) (v := .ref (F 4)) (C := RX1) (T := TX1) (N := 13) hx hb hts inX1 hown hE.1 hP 0 rfl rfl 3 (by decide) kf26 (fun _ h9 => h9) rfl dX1_meetWeir_39 ?_
              refine lv_iload_n hx hb dX1_meetWeir_42 rfl (lv_at hl 4 rfl) ?_
              refine pVi (As := [.int (nI i)]) (rest := [.int (nI (qLa a i)), .ref (F 10), .int ((v - (rg 540 c (ck (qLa a i) ((qPl a i) + 1) 0))) - (rg 540 c (ck (qLa a i) ((qPl a i) + 1) 1)))]) (wc := (wR cA (F 4) (F 15) 41 (fun z9 => nI (qPl a z9)))) ⟨hx, hb, hml, hown, hts⟩ (K_X2_getk lch D cA (F 4) (F 15) 41 (fun z9 => nI (qPl a z9)) i (nI (qPl a i)) H.size (by omega) (Nat.le_of_ble_eq_true rfl) (rfl)) (cwV 1 hts gX1_meetWeir_X2_get rfl rfl rfl (by decide +kernel) ⟨Nat.le_of_ble_eq_true rfl, Nat.le_of_ble_eq_true rfl⟩) hE hP hD hS hA [4, 15] rfl rfl X0.blind (fun _ _ _ => trivial) 4 2 rfl rfl rfl hl.1 rfl rfl (Nat.le_of_ble_eq_true rfl) dX1_meetWeir_43 ⟨Nat.zero_le _, Nat.zero_le _⟩ (fun r_28 u_29 H locs h_30 hP hS => ?_)
              subst h_30
              refine lv_iload hx hb dX1_meetWeir_46 (lv_at hl 2 rfl) ?_
              refine lv_iadd hx hb dX1_meetWeir_48 ?_
              refine top_i (y := nI ((qPl a i) + 1)) (nI_add _ _) ?_
              refine lv_iload hx hb dX1_meetWeir_49 (lv_at hl 0 rfl) ?_
              refine pSi (As := [.int (nI (qLa a i)), .int (nI ((qPl a i) + 1)), .int 2]) (rest := [.ref (F 10), .int ((v - (rg 540 c (ck (qLa a i) ((qPl a i) + 1) 0))) - (rg 540 c (ck (qLa a i) ((qPl a i) + 1) 1)))]) (wc := ([] : va_W)) ⟨hx, hb, hml, hown, hts⟩ (K_X1_cell lch D cA (qLa a i) ((qPl a i) + 1) 2 H.size (by first | assumption | omega)) (cwS 3 hts gX1_meetWeir_X1_cell rfl rfl rfl (by decide +kernel) ⟨Nat.le_of_ble_eq_true rfl, Nat.le_of_ble_eq_true rfl⟩) hE hP hD hS hA [] rfl rfl X0.blind (fun _ _ _ => trivial) hl.1 rfl rfl (Nat.le_of_ble_eq_true rfl) dX1_meetWeir_51 ⟨Nat.zero_le _, Nat.zero_le _⟩ (fun r_31 u_32 H locs h_33 hP hS => ?_)
              subst h_33
              refine pVi (As := [.int (ck (qLa a i) ((qPl a i) + 1) 2)]) (rest := [.int ((v - (rg 540 c (ck (qLa a i) ((qPl a i) + 1) 0))) - (rg 540 c (ck (qLa a i) ((qPl a i) + 1) 1)))]) (wc := (wR cA (F 10) (F 21) 540 c)) ⟨hx, hb, hml, hown, hts⟩ (K_X2_get lch D cA (F 10) (F 21) 540 c (ck (qLa a i) ((qPl a i) + 1) 2) H.size (Nat.le_of_ble_eq_true rfl)) (cwV 1 hts gX1_meetWeir_X2_get rfl rfl rfl (by decide +kernel) ⟨Nat.le_of_ble_eq_true rfl, Nat.le_of_ble_eq_true rfl⟩) hE hP hD hS hA [10, 21] rfl rfl X0.blind (fun _ _ _ => trivial) 10 2 rfl rfl rfl hl.1 rfl rfl (Nat.le_of_ble_eq_true rfl) dX1_meetWeir_54 ⟨Nat.zero_le _, Nat.zero_le _⟩ (fun r_34 u_35 H locs h_36 hP hS => ?_)
              subst h_36
              refine lv_isub hx hb dX1_meetWeir_57 ?_
              refine lv_istore_n (lv' := [(3, .int (((v - (rg 540 c (ck (qLa a i) ((qPl a i) + 1) 0))) - (rg 540 c (ck (qLa a i) ((qPl a i) + 1) 1))) - (rg 540 c (ck (qLa a i) ((qPl a i) + 1) 2)))), (5, .int 2), (4, .int 1), (0, .ref (F 0)), (1, .int (nI i)), (2, .int v)]) hx hb dX1_meetWeir_58 rfl hl (by decide) rfl (fun ls hl => ?_)
              refine lv_iinc (v := 3) (lv' := [(5, .int 3), (3, .int (((v - (rg 540 c (ck (qLa a i) ((qPl a i) + 1) 0))) - (rg 540 c (ck (qLa a i) ((qPl a i) + 1) 1))) - (rg 540 c (ck (qLa a i) ((qPl a i) + 1) 2)))), (4, .int 1), (0, .ref (F 0)), (1, .int (nI i)), (2, .int v)]) hx hb dX1_meetWeir_59 hl (k := 1) rfl (by decide) (by decide) rfl (fun ls hl => ?_)
              refine lv_goto (tgt := 19) hx hb dX1_meetWeir_62 (by decide) ?_
              refine lv_iload hx hb dX1_meetWeir_19 (lv_at hl 0 rfl) ?_
              refine lv_iconst (v := 3) hx hb dX1_meetWeir_21 (by decide) ?_
              refine lv_icmp_ge (tgt := 65) hx hb dX1_meetWeir_22 (by decide) (fun c22_3 => ?_) (fun c22_3 => ?_)
              · skip
                have c22_3 := (nI_leI (a := 3) (b := 3) (by omega) (by omega)).mp c22_3
                refine lv_iinc (v := 2) (lv' := [(4, .int 2), (5, .int 3), (3, .int (((v - (rg 540 c (ck (qLa a i) ((qPl a i) + 1) 0))) - (rg 540 c (ck (qLa a i) ((qPl a i) + 1) 1))) - (rg 540 c (ck (qLa a i) ((qPl a i) + 1) 2)))), (0, .ref (F 0)), (1, .int (nI i)), (2, .int v)]) hx hb dX1_meetWeir_65 hl (k := 2) rfl (by decide) (by decide) rfl (fun ls hl => ?_)
                refine lv_goto (tgt := 10) hx hb dX1_meetWeir_68 (by decide) ?_
                refine lv_iload hx hb dX1_meetWeir_10 (lv_at hl 0 rfl) ?_
                refine lv_iconst (v := 3) hx hb dX1_meetWeir_12 (by decide) ?_
                refine lv_icmp_gt (tgt := 71) hx hb dX1_meetWeir_13 (by decide) (fun c13_1 => ?_) (fun c13_1 => ?_)
                · skip
                  exfalso; revert c13_1; decide
                · skip
                  have c13_1 := (not_congr (nI_ltI (a := 3) (b := 2) (by omega) (by omega))).mp c13_1
                  refine lv_iconst (v := 0) hx hb dX1_meetWeir_16 (by decide) ?_
                  refine lv_istore (lv' := [(5, .int 0), (4, .int 2), (3, .int (((v - (rg 540 c (ck (qLa a i) ((qPl a i) + 1) 0))) - (rg 540 c (ck (qLa a i) ((qPl a i) + 1) 1))) - (rg 540 c (ck (qLa a i) ((qPl a i) + 1) 2)))), (0, .ref (F 0)), (1, .int (nI i)), (2, .int v)]) hx hb dX1_meetWeir_17 hl (by decide) rfl (fun ls hl => ?_)
                  refine lv_iload hx hb dX1_meetWeir_19 (lv_at hl 0 rfl) ?_
                  refine lv_iconst (v := 3) hx hb dX1_meetWeir_21 (by decide) ?_
                  refine lv_icmp_ge (tgt := 65) hx hb dX1_meetWeir_22 (by decide) (fun c22_4 => ?_) (fun c22_4 => ?_)
                  · skip
                    exfalso; revert c22_4; decide
                  · skip
                    have c22_4 := (not_congr (nI_leI (a := 3) (b := 0) (by omega) (by omega))).mp c22_4
                    refine lv_iload_n hx hb dX1_meetWeir_25 rfl (lv_at hl 2 rfl) ?_
                    refine lv_aload_n hx hb dX1_meetWeir_26 rfl (lv_at hl 3 rfl) ?_
                    refine va_get (D := D) (ci := 1) (v := .ref (F 10)) (C := RX1) (T := TX1) (N := 13) hx hb hts inX1 hown hE.1 hP 0 rfl rfl 9 (by decide) kf44 (fun _ h9 => h9) rfl dX1_meetWeir_27 ?_
                    refine lv_aload_n hx hb dX1_meetWeir_30 rfl (lv_at hl 3 rfl) ?_
                    refine va_get (D := D) (ci := 1) (v := .ref (F 3)) (C := RX1) (T := TX1) (N := 13) hx hb hts inX1 hown hE.1 hP 0 rfl rfl 2 (by decide) kf23 (fun _ h9 => h9) rfl dX1_meetWeir_31 ?_
                    refine lv_iload_n hx hb dX1_meetWeir_34 rfl (lv_at hl 4 rfl) ?_
                    refine pVi (As := [.int (nI i)]) (rest := [.ref (F 10), .int (((v - (rg 540 c (ck (qLa a i) ((qPl a i) + 1) 0))) - (rg 540 c (ck (qLa a i) ((qPl a i) + 1) 1))) - (rg 540 c (ck (qLa a i) ((qPl a i) + 1) 2)))]) (wc := (wR cA (F 3) (F 14) 41 (fun z9 => nI (qLa a z9)))) ⟨hx, hb, hml, hown, hts⟩ (K_X2_getk lch D cA (F 3) (F 14) 41 (fun z9 => nI (qLa a z9)) i (nI (qLa a i)) H.size (by omega) (Nat.le_of_ble_eq_true rfl) (rfl)) (cwV 1 hts gX1_meetWeir_X2_get rfl rfl rfl (by decide +kernel) ⟨Nat.le_of_ble_eq_true rfl, Nat.le_of_ble_eq_true rfl⟩) hE hP hD hS hA [3, 14] rfl rfl X0.blind (fun _ _ _ => trivial) 3 2 rfl rfl rfl hl.1 rfl rfl (Nat.le_of_ble_eq_true rfl) dX1_meetWeir_35 ⟨Nat.zero_le _, Nat.zero_le _⟩ (fun r_37 u_38 H locs h_39 hP hS => ?_)
                    subst h_39
                    refine lv_aload_n hx hb dX1_meetWeir_38 rfl (lv_at hl 3 rfl) ?_
                    refine va_get (D := D) (ci := 1) (v := .ref (F 4)) (C := RX1) (T := TX1) (N := 13) hx hb hts inX1 hown hE.1 hP 0 rfl rfl 3 (by decide) kf26 (fun _ h9 => h9) rfl dX1_meetWeir_39 ?_
                    refine lv_iload_n hx hb dX1_meetWeir_42 rfl (lv_at hl 4 rfl) ?_
                    refine pVi (As := [.int (nI i)]) (rest := [.int (nI (qLa a i)), .ref (F 10), .int (((v - (rg 540 c (ck (qLa a i) ((qPl a i) + 1) 0))) - (rg 540 c (ck (qLa a i) ((qPl a i) + 1) 1))) - (rg 540 c (ck (qLa a i) ((qPl a i) + 1) 2)))]) (wc := (wR cA (F 4) (F 15) 41 (fun z9 => nI (qPl a z9)))) ⟨hx, hb, hml, hown, hts⟩ (K_X2_getk lch D cA (F 4) (F 15) 41 (fun z9 => nI (qPl a z9)) i (nI (qPl a i)) H.size (by omega) (Nat.le_of_ble_eq_true rfl) (rfl)) (cwV 1 hts gX1_meetWeir_X2_get rfl rfl rfl (by decide +kernel) ⟨Nat.le_of_ble_eq_true rfl, Nat.le_of_ble_eq_true rfl⟩) hE hP hD hS hA [4, 15] rfl rfl X0.blind (fun _ _ _ => trivial) 4 2 rfl rfl rfl hl.1 rfl rfl (Nat.le_of_ble_eq_true rfl) dX1_meetWeir_43 ⟨Nat.zero_le _, Nat.zero_le _⟩ (fun r_40 u_41 H locs h_42 hP hS => ?_)
                    subst h_42
                    refine lv_iload hx hb dX1_meetWeir_46 (lv_at hl 1 rfl) ?_
                    refine lv_iadd hx hb dX1_meetWeir_48 ?_
                    refine top_i (y := nI ((qPl a i) + 2)) (nI_add _ _) ?_
                    refine lv_iload hx hb dX1_meetWeir_49 (lv_at hl 0 rfl) ?_
                    refine pSi (As := [.int (nI (qLa a i)), .int (nI ((qPl a i) + 2)), .int 0]) (rest := [.ref (F 10), .int (((v - (rg 540 c (ck (qLa a i) ((qPl a i) + 1) 0))) - (rg 540 c (ck (qLa a i) ((qPl a i) + 1) 1))) - (rg 540 c (ck (qLa a i) ((qPl a i) + 1) 2)))]) (wc := ([] : va_W)) ⟨hx, hb, hml, hown, hts⟩ (K_X1_cell lch D cA (qLa a i) ((qPl a i) + 2) 0 H.size (by first | assumption | omega)) (cwS 3 hts gX1_meetWeir_X1_cell rfl rfl rfl (by decide +kernel) ⟨Nat.le_of_ble_eq_true rfl, Nat.le_of_ble_eq_true rfl⟩) hE hP hD hS hA [] rfl rfl X0.blind (fun _ _ _ => trivial) hl.1 rfl rfl (Nat.le_of_ble_eq_true rfl) dX1_meetWeir_51 ⟨Nat.zero_le _, Nat.zero_le _⟩ (fun r_43 u_44 H locs h_45 hP hS => ?_)
                    subst h_45
                    refine pVi (As := [.int (ck (qLa a i) ((qPl a i) + 2) 0)]) (rest := [.int (((v - (rg 540 c (ck (qLa a i) ((qPl a i) + 1) 0))) - (rg 540 c (ck (qLa a i) ((qPl a i) + 1) 1))) - (rg 540 c (ck (qLa a i) ((qPl a i) + 1) 2)))]) (wc := (wR cA (F 10) (F 21) 540 c)) ⟨hx, hb, hml, hown, hts⟩ (K_X2_get lch D cA (F 10) (F 21) 540 c (ck (qLa a i) ((qPl a i) + 2) 0) H.size (Nat.le_of_ble_eq_true rfl)) (cwV 1 hts gX1_meetWeir_X2_get rfl rfl rfl (by decide +kernel) ⟨Nat.le_of_ble_eq_true rfl, Nat.le_of_ble_eq_true rfl⟩) hE hP hD hS hA [10, 21] rfl rfl X0.blind (fun _ _ _ => trivial) 10 2 rfl rfl rfl hl.1 rfl rfl (Nat.le_of_ble_eq_true rfl) dX1_meetWeir_54 ⟨Nat.zero_le _, Nat.zero_le _⟩ (fun r_46 u_47 H locs h_48 hP hS => ?_)
                    subst h_48
                    refine lv_isub hx hb dX1_meetWeir_57 ?_
                    refine lv_istore_n (lv' := [(3, .int ((((v - (rg 540 c (ck (qLa a i) ((qPl a i) + 1) 0))) - (rg 540 c (ck (qLa a i) ((qPl a i) + 1) 1))) - (rg 540 c (ck (qLa a i) ((qPl a i) + 1) 2))) - (rg 540 c (ck (qLa a i) ((qPl a i) + 2) 0)))), (5, .int 0), (4, .int 2), (0, .ref (F 0)), (1, .int (nI i)), (2, .int v)]) hx hb dX1_meetWeir_58 rfl hl (by decide) rfl (fun ls hl => ?_)
                    refine lv_iinc (v := 1) (lv' := [(5, .int 1), (3, .int ((((v - (rg 540 c (ck (qLa a i) ((qPl a i) + 1) 0))) - (rg 540 c (ck (qLa a i) ((qPl a i) + 1) 1))) - (rg 540 c (ck (qLa a i) ((qPl a i) + 1) 2))) - (rg 540 c (ck (qLa a i) ((qPl a i) + 2) 0)))), (4, .int 2), (0, .ref (F 0)), (1, .int (nI i)), (2, .int v)]) hx hb dX1_meetWeir_59 hl (k := 1) rfl (by decide) (by decide) rfl (fun ls hl => ?_)
                    refine lv_goto (tgt := 19) hx hb dX1_meetWeir_62 (by decide) ?_
                    refine lv_iload hx hb dX1_meetWeir_19 (lv_at hl 0 rfl) ?_
                    refine lv_iconst (v := 3) hx hb dX1_meetWeir_21 (by decide) ?_
                    refine lv_icmp_ge (tgt := 65) hx hb dX1_meetWeir_22 (by decide) (fun c22_5 => ?_) (fun c22_5 => ?_)
                    · skip
                      exfalso; revert c22_5; decide
                    · skip
                      have c22_5 := (not_congr (nI_leI (a := 3) (b := 1) (by omega) (by omega))).mp c22_5
                      refine lv_iload_n hx hb dX1_meetWeir_25 rfl (lv_at hl 1 rfl) ?_
                      refine lv_aload_n hx hb dX1_meetWeir_26 rfl (lv_at hl 3 rfl) ?_
                      refine va_get (D := D) (ci := 1) (v := .ref (F 10)) (C := RX1) (T := TX1) (N := 13) hx hb hts inX1 hown hE.1 hP 0 rfl rfl 9 (by decide) kf44 (fun _ h9 => h9) rfl dX1_meetWeir_27 ?_
                      refine lv_aload_n hx hb dX1_meetWeir_30 rfl (lv_at hl 3 rfl) ?_
                      refine va_get (D := D) (ci := 1) (v := .ref (F 3)) (C := RX1) (T := TX1) (N := 13) hx hb hts inX1 hown hE.1 hP 0 rfl rfl 2 (by decide) kf23 (fun _ h9 => h9) rfl dX1_meetWeir_31 ?_
                      refine lv_iload_n hx hb dX1_meetWeir_34 rfl (lv_at hl 4 rfl) ?_
                      refine pVi (As := [.int (nI i)]) (rest := [.ref (F 10), .int ((((v - (rg 540 c (ck (qLa a i) ((qPl a i) + 1) 0))) - (rg 540 c (ck (qLa a i) ((qPl a i) + 1) 1))) - (rg 540 c (ck (qLa a i) ((qPl a i) + 1) 2))) - (rg 540 c (ck (qLa a i) ((qPl a i) + 2) 0)))]) (wc := (wR cA (F 3) (F 14) 41 (fun z9 => nI (qLa a z9)))) ⟨hx, hb, hml, hown, hts⟩ (K_X2_getk lch D cA (F 3) (F 14) 41 (fun z9 => nI (qLa a z9)) i (nI (qLa a i)) H.size (by omega) (Nat.le_of_ble_eq_true rfl) (rfl)) (cwV 1 hts gX1_meetWeir_X2_get rfl rfl rfl (by decide +kernel) ⟨Nat.le_of_ble_eq_true rfl, Nat.le_of_ble_eq_true rfl⟩) hE hP hD hS hA [3, 14] rfl rfl X0.blind (fun _ _ _ => trivial) 3 2 rfl rfl rfl hl.1 rfl rfl (Nat.le_of_ble_eq_true rfl) dX1_meetWeir_35 ⟨Nat.zero_le _, Nat.zero_le _⟩ (fun r_49 u_50 H locs h_51 hP hS => ?_)
                      subst h_51
                      refine lv_aload_n hx hb dX1_meetWeir_38 rfl (lv_at hl 3 rfl) ?_
                      refine va_get (D := D) (ci := 1) (v := .ref (F 4)) (C := RX1) (T := TX1) (N := 13) hx hb hts inX1 hown hE.1 hP 0 rfl rfl 3 (by decide) kf26 (fun _ h9 => h9) rfl dX1_meetWeir_39 ?_
                      refine lv_iload_n hx hb dX1_meetWeir_42 rfl (lv_at hl 4 rfl) ?_
                      refine pVi (As := [.int (nI i)]) (rest := [.int (nI (qLa a i)), .ref (F 10), .int ((((v - (rg 540 c (ck (qLa a i) ((qPl a i) + 1) 0))) - (rg 540 c (ck (qLa a i) ((qPl a i) + 1) 1))) - (rg 540 c (ck (qLa a i) ((qPl a i) + 1) 2))) - (rg 540 c (ck (qLa a i) ((qPl a i) + 2) 0)))]) (wc := (wR cA (F 4) (F 15) 41 (fun z9 => nI (qPl a z9)))) ⟨hx, hb, hml, hown, hts⟩ (K_X2_getk lch D cA (F 4) (F 15) 41 (fun z9 => nI (qPl a z9)) i (nI (qPl a i)) H.size (by omega) (Nat.le_of_ble_eq_true rfl) (rfl)) (cwV 1 hts gX1_meetWeir_X2_get rfl rfl rfl (by decide +kernel) ⟨Nat.le_of_ble_eq_true rfl, Nat.le_of_ble_eq_true rfl⟩) hE hP hD hS hA [4, 15] rfl rfl X0.blind (fun _ _ _ => trivial) 4 2 rfl rfl rfl hl.1 rfl rfl (Nat.le_of_ble_eq_true rfl) dX1_meetWeir_43 ⟨Nat.zero_le _, Nat.zero_le _⟩ (fun r_52 u_53 H locs h_54 hP hS => ?_)
                      subst h_54
                      refine lv_iload hx hb dX1_meetWeir_46 (lv_at hl 2 rfl) ?_
                      refine lv_iadd hx hb dX1_meetWeir_48 ?_
                      refine top_i (y := nI ((qPl a i) + 2)) (nI_add _ _) ?_
                      refine lv_iload hx hb dX1_meetWeir_49 (lv_at hl 0 rfl) ?_
                      refine pSi (As := [.int (nI (qLa a i)), .int (nI ((qPl a i) + 2)), .int 1]) (rest := [.ref (F 10), .int ((((v - (rg 540 c (ck (qLa a i) ((qPl a i) + 1) 0))) - (rg 540 c (ck (qLa a i) ((qPl a i) + 1) 1))) - (rg 540 c (ck (qLa a i) ((qPl a i) + 1) 2))) - (rg 540 c (ck (qLa a i) ((qPl a i) + 2) 0)))]) (wc := ([] : va_W)) ⟨hx, hb, hml, hown, hts⟩ (K_X1_cell lch D cA (qLa a i) ((qPl a i) + 2) 1 H.size (by first | assumption | omega)) (cwS 3 hts gX1_meetWeir_X1_cell rfl rfl rfl (by decide +kernel) ⟨Nat.le_of_ble_eq_true rfl, Nat.le_of_ble_eq_true rfl⟩) hE hP hD hS hA [] rfl rfl X0.blind (fun _ _ _ => trivial) hl.1 rfl rfl (Nat.le_of_ble_eq_true rfl) dX1_meetWeir_51 ⟨Nat.zero_le _, Nat.zero_le _⟩ (fun r_55 u_56 H locs h_57 hP hS => ?_)
                      subst h_57
                      refine pVi (As := [.int (ck (qLa a i) ((qPl a i) + 2) 1)]) (rest := [.int ((((v - (rg 540 c (ck (qLa a i) ((qPl a i) + 1) 0))) - (rg 540 c (ck (qLa a i) ((qPl a i) + 1) 1))) - (rg 540 c (ck (qLa a i) ((qPl a i) + 1) 2))) - (rg 540 c (ck (qLa a i) ((qPl a i) + 2) 0)))]) (wc := (wR cA (F 10) (F 21) 540 c)) ⟨hx, hb, hml, hown, hts⟩ (K_X2_get lch D cA (F 10) (F 21) 540 c (ck (qLa a i) ((qPl a i) + 2) 1) H.size (Nat.le_of_ble_eq_true rfl)) (cwV 1 hts gX1_meetWeir_X2_get rfl rfl rfl (by decide +kernel) ⟨Nat.le_of_ble_eq_true rfl, Nat.le_of_ble_eq_true rfl⟩) hE hP hD hS hA [10, 21] rfl rfl X0.blind (fun _ _ _ => trivial) 10 2 rfl rfl rfl hl.1 rfl rfl (Nat.le_of_ble_eq_true rfl) dX1_meetWeir_54 ⟨Nat.zero_le _, Nat.zero_le _⟩ (fun r_58 u_59 H locs h_60 hP hS => ?_)
                      subst h_60
                      refine lv_isub hx hb dX1_meetWeir_57 ?_
                      refine lv_istore_n (lv' := [(3, .int (((((v - (rg 540 c (ck (qLa a i) ((qPl a i) + 1) 0))) - (rg 540 c (ck (qLa a i) ((qPl a i) + 1) 1))) - (rg 540 c (ck (qLa a i) ((qPl a i) + 1) 2))) - (rg 540 c (ck (qLa a i) ((qPl a i) + 2) 0))) - (rg 540 c (ck (qLa a i) ((qPl a i) + 2) 1)))), (5, .int 1), (4, .int 2), (0, .ref (F 0)), (1, .int (nI i)), (2, .int v)]) hx hb dX1_meetWeir_58 rfl hl (by decide) rfl (fun ls hl => ?_)
                      refine lv_iinc (v := 2) (lv' := [(5, .int 2), (3, .int (((((v - (rg 540 c (ck (qLa a i) ((qPl a i) + 1) 0))) - (rg 540 c (ck (qLa a i) ((qPl a i) + 1) 1))) - (rg 540 c (ck (qLa a i) ((qPl a i) + 1) 2))) - (rg 540 c (ck (qLa a i) ((qPl a i) + 2) 0))) - (rg 540 c (ck (qLa a i) ((qPl a i) + 2) 1)))), (4, .int 2), (0, .ref (F 0)), (1, .int (nI i)), (2, .int v)]) hx hb dX1_meetWeir_59 hl (k := 1) rfl (by decide) (by decide) rfl (fun ls hl => ?_)
                      refine lv_goto (tgt := 19) hx hb dX1_meetWeir_62 (by decide) ?_
                      refine lv_iload hx hb dX1_meetWeir_19 (lv_at hl 0 rfl) ?_
                      refine lv_iconst (v := 3) hx hb dX1_meetWeir_21 (by decide) ?_
                      refine lv_icmp_ge (tgt := 65) hx hb dX1_meetWeir_22 (by decide) (fun c22_6 => ?_) (fun c22_6 => ?_)
                      · skip
                        exfalso; revert c22_6; decide
                      · skip
                        have c22_6 := (not_congr (nI_leI (a := 3) (b := 2) (by omega) (by omega))).mp c22_6
                        refine lv_iload_n hx hb dX1_meetWeir_25 rfl (lv_at hl 1 rfl) ?_
                        refine lv_aload_n hx hb dX1_meetWeir_26 rfl (lv_at hl 3 rfl) ?_
                        refine va_get (D := D) (ci := 1) (v := .ref (F 10)) (C := RX1) (T := TX1) (N := 13) hx hb hts inX1 hown hE.1 hP 0 rfl rfl 9 (by decide) kf44 (fun _ h9 => h9) rfl dX1_meetWeir_27 ?_
                        refine lv_aload_n hx hb dX1_meetWeir_30 rfl (lv_at hl 3 rfl) ?_
                        refine va_get (D := D) (ci := 1) (v := .ref (F 3)) (C := RX1) (T := TX1) (N := 13) hx hb hts inX1 hown hE.1 hP 0 rfl rfl 2 (by decide) kf23 (fun _ h9 => h9) rfl dX1_meetWeir_31 ?_
                        refine lv_iload_n hx hb dX1_meetWeir_34 rfl (lv_at hl 4 rfl) ?_
                        refine pVi (As := [.int (nI i)]) (rest := [.ref (F 10), .int (((((v - (rg 540 c (ck (qLa a i) ((qPl a i) + 1) 0))) - (rg 540 c (ck (qLa a i) ((qPl a i) + 1) 1))) - (rg 540 c (ck (qLa a i) ((qPl a i) + 1) 2))) - (rg 540 c (ck (qLa a i) ((qPl a i) + 2) 0))) - (rg 540 c (ck (qLa a i) ((qPl a i) + 2) 1)))]) (wc := (wR cA (F 3) (F 14) 41 (fun z9 => nI (qLa a z9)))) ⟨hx, hb, hml, hown, hts⟩ (K_X2_getk lch D cA (F 3) (F 14) 41 (fun z9 => nI (qLa a z9)) i (nI (qLa a i)) H.size (by omega) (Nat.le_of_ble_eq_true rfl) (rfl)) (cwV 1 hts gX1_meetWeir_X2_get rfl rfl rfl (by decide +kernel) ⟨Nat.le_of_ble_eq_true rfl, Nat.le_of_ble_eq_true rfl⟩) hE hP hD hS hA [3, 14] rfl rfl X0.blind (fun _ _ _ => trivial) 3 2 rfl rfl rfl hl.1 rfl rfl (Nat.le_of_ble_eq_true rfl) dX1_meetWeir_35 ⟨Nat.zero_le _, Nat.zero_le _⟩ (fun r_61 u_62 H locs h_63 hP hS => ?_)
                        subst h_63
                        refine lv_aload_n hx hb dX1_meetWeir_38 rfl (lv_at hl 3 rfl) ?_
                        refine va_get (D := D) (ci := 1) (v := .ref (F 4)) (C := RX1) (T := TX1) (N := 13) hx hb hts inX1 hown hE.1 hP 0 rfl rfl 3 (by decide) kf26 (fun _ h9 => h9) rfl dX1_meetWeir_39 ?_
                        refine lv_iload_n hx hb dX1_meetWeir_42 rfl (lv_at hl 4 rfl) ?_
                        refine pVi (As := [.int (nI i)]) (rest := [.int (nI (qLa a i)), .ref (F 10), .int (((((v - (rg 540 c (ck (qLa a i) ((qPl a i) + 1) 0))) - (rg 540 c (ck (qLa a i) ((qPl a i) + 1) 1))) - (rg 540 c (ck (qLa a i) ((qPl a i) + 1) 2))) - (rg 540 c (ck (qLa a i) ((qPl a i) + 2) 0))) - (rg 540 c (ck (qLa a i) ((qPl a i) + 2) 1)))]) (wc := (wR cA (F 4) (F 15) 41 (fun z9 => nI (qPl a z9)))) ⟨hx, hb, hml, hown, hts⟩ (K_X2_getk lch D cA (F 4) (F 15) 41 (fun z9 => nI (qPl a z9)) i (nI (qPl a i)) H.size (by omega) (Nat.le_of_ble_eq_true rfl) (rfl)) (cwV 1 hts gX1_meetWeir_X2_get rfl rfl rfl (by decide +kernel) ⟨Nat.le_of_ble_eq_true rfl, Nat.le_of_ble_eq_true rfl⟩) hE hP hD hS hA [4, 15] rfl rfl X0.blind (fun _ _ _ => trivial) 4 2 rfl rfl rfl hl.1 rfl rfl (Nat.le_of_ble_eq_true rfl) dX1_meetWeir_43 ⟨Nat.zero_le _, Nat.zero_le _⟩ (fun r_64 u_65 H locs h_66 hP hS => ?_)
                        subst h_66
                        refine lv_iload hx hb dX1_meetWeir_46 (lv_at hl 2 rfl) ?_
                        refine lv_iadd hx hb dX1_meetWeir_48 ?_
                        refine top_i (y := nI ((qPl a i) + 2)) (nI_add _ _) ?_
                        refine lv_iload hx hb dX1_meetWeir_49 (lv_at hl 0 rfl) ?_
                        refine pSi (As := [.int (nI (qLa a i)), .int (nI ((qPl a i) + 2)), .int 2]) (rest := [.ref (F 10), .int (((((v - (rg 540 c (ck (qLa a i) ((qPl a i) + 1) 0))) - (rg 540 c (ck (qLa a i) ((qPl a i) + 1) 1))) - (rg 540 c (ck (qLa a i) ((qPl a i) + 1) 2))) - (rg 540 c (ck (qLa a i) ((qPl a i) + 2) 0))) - (rg 540 c (ck (qLa a i) ((qPl a i) + 2) 1)))]) (wc := ([] : va_W)) ⟨hx, hb, hml, hown, hts⟩ (K_X1_cell lch D cA (qLa a i) ((qPl a i) + 2) 2 H.size (by first | assumption | omega)) (cwS 3 hts gX1_meetWeir_X1_cell rfl rfl rfl (by decide +kernel) ⟨Nat.le_of_ble_eq_true rfl, Nat.le_of_ble_eq_true rfl⟩) hE hP hD hS hA [] rfl rfl X0.blind (fun _ _ _ => trivial) hl.1 rfl rfl (Nat.le_of_ble_eq_true rfl) dX1_meetWeir_51 ⟨Nat.zero_le _, Nat.zero_le _⟩ (fun r_67 u_68 H locs h_69 hP hS => ?_)
                        subst h_69
                        refine pVi (As := [.int (ck (qLa a i) ((qPl a i) + 2) 2)]) (rest := [.int (((((v - (rg 540 c (ck (qLa a i) ((qPl a i) + 1) 0))) - (rg 540 c (ck (qLa a i) ((qPl a i) + 1) 1))) - (rg 540 c (ck (qLa a i) ((qPl a i) + 1) 2))) - (rg 540 c (ck (qLa a i) ((qPl a i) + 2) 0))) - (rg 540 c (ck (qLa a i) ((qPl a i) + 2) 1)))]) (wc := (wR cA (F 10) (F 21) 540 c)) ⟨hx, hb, hml, hown, hts⟩ (K_X2_get lch D cA (F 10) (F 21) 540 c (ck (qLa a i) ((qPl a i) + 2) 2) H.size (Nat.le_of_ble_eq_true rfl)) (cwV 1 hts gX1_meetWeir_X2_get rfl rfl rfl (by decide +kernel) ⟨Nat.le_of_ble_eq_true rfl, Nat.le_of_ble_eq_true rfl⟩) hE hP hD hS hA [10, 21] rfl rfl X0.blind (fun _ _ _ => trivial) 10 2 rfl rfl rfl hl.1 rfl rfl (Nat.le_of_ble_eq_true rfl) dX1_meetWeir_54 ⟨Nat.zero_le _, Nat.zero_le _⟩ (fun r_70 u_71 H locs h_72 hP hS => ?_)
                        subst h_72
                        refine lv_isub hx hb dX1_meetWeir_57 ?_
                        refine lv_istore_n (lv' := [(3, .int ((((((v - (rg 540 c (ck (qLa a i) ((qPl a i) + 1) 0))) - (rg 540 c (ck (qLa a i) ((qPl a i) + 1) 1))) - (rg 540 c (ck (qLa a i) ((qPl a i) + 1) 2))) - (rg 540 c (ck (qLa a i) ((qPl a i) + 2) 0))) - (rg 540 c (ck (qLa a i) ((qPl a i) + 2) 1))) - (rg 540 c (ck (qLa a i) ((qPl a i) + 2) 2)))), (5, .int 2), (4, .int 2), (0, .ref (F 0)), (1, .int (nI i)), (2, .int v)]) hx hb dX1_meetWeir_58 rfl hl (by decide) rfl (fun ls hl => ?_)
                        refine lv_iinc (v := 3) (lv' := [(5, .int 3), (3, .int ((((((v - (rg 540 c (ck (qLa a i) ((qPl a i) + 1) 0))) - (rg 540 c (ck (qLa a i) ((qPl a i) + 1) 1))) - (rg 540 c (ck (qLa a i) ((qPl a i) + 1) 2))) - (rg 540 c (ck (qLa a i) ((qPl a i) + 2) 0))) - (rg 540 c (ck (qLa a i) ((qPl a i) + 2) 1))) - (rg 540 c (ck (qLa a i) ((qPl a i) + 2) 2)))), (4, .int 2), (0, .ref (F 0)), (1, .int (nI i)), (2, .int v)]) hx hb dX1_meetWeir_59 hl (k := 1) rfl (by decide) (by decide) rfl (fun ls hl => ?_)
                        refine lv_goto (tgt := 19) hx hb dX1_meetWeir_62 (by decide) ?_
                        refine lv_iload hx hb dX1_meetWeir_19 (lv_at hl 0 rfl) ?_
                        refine lv_iconst (v := 3) hx hb dX1_meetWeir_21 (by decide) ?_
                        refine lv_icmp_ge (tgt := 65) hx hb dX1_meetWeir_22 (by decide) (fun c22_7 => ?_) (fun c22_7 => ?_)
                        · skip
                          have c22_7 := (nI_leI (a := 3) (b := 3) (by omega) (by omega)).mp c22_7
                          refine lv_iinc (v := 3) (lv' := [(4, .int 3), (5, .int 3), (3, .int ((((((v - (rg 540 c (ck (qLa a i) ((qPl a i) + 1) 0))) - (rg 540 c (ck (qLa a i) ((qPl a i) + 1) 1))) - (rg 540 c (ck (qLa a i) ((qPl a i) + 1) 2))) - (rg 540 c (ck (qLa a i) ((qPl a i) + 2) 0))) - (rg 540 c (ck (qLa a i) ((qPl a i) + 2) 1))) - (rg 540 c (ck (qLa a i) ((qPl a i) + 2) 2)))), (0, .ref (F 0)), (1, .int (nI i)), (2, .int v)]) hx hb dX1_meetWeir_65 hl (k := 2) rfl (by decide) (by decide) rfl (fun ls hl => ?_)
                          refine lv_goto (tgt := 10) hx hb dX1_meetWeir_68 (by decide) ?_
                          refine lv_iload hx hb dX1_meetWeir_10 (lv_at hl 0 rfl) ?_
                          refine lv_iconst (v := 3) hx hb dX1_meetWeir_12 (by decide) ?_
                          refine lv_icmp_gt (tgt := 71) hx hb dX1_meetWeir_13 (by decide) (fun c13_2 => ?_) (fun c13_2 => ?_)
                          · skip
                            exfalso; revert c13_2; decide
                          · skip
                            have c13_2 := (not_congr (nI_ltI (a := 3) (b := 3) (by omega) (by omega))).mp c13_2
                            refine lv_iconst (v := 0) hx hb dX1_meetWeir_16 (by decide) ?_
                            refine lv_istore (lv' := [(5, .int 0), (4, .int 3), (3, .int ((((((v - (rg 540 c (ck (qLa a i) ((qPl a i) + 1) 0))) - (rg 540 c (ck (qLa a i) ((qPl a i) + 1) 1))) - (rg 540 c (ck (qLa a i) ((qPl a i) + 1) 2))) - (rg 540 c (ck (qLa a i) ((qPl a i) + 2) 0))) - (rg 540 c (ck (qLa a i) ((qPl a i) + 2) 1))) - (rg 540 c (ck (qLa a i) ((qPl a i) + 2) 2)))), (0, .ref (F 0)), (1, .int (nI i)), (2, .int v)]) hx hb dX1_meetWeir_17 hl (by decide) rfl (fun ls hl => ?_)
                            refine lv_iload hx hb dX1_meetWeir_19 (lv_at hl 0 rfl) ?_
                            refine lv_iconst (v := 3) hx hb dX1_meetWeir_21 (by decide) ?_
                            refine lv_icmp_ge (tgt := 65) hx hb dX1_meetWeir_22 (by decide) (fun c22_8 => ?_) (fun c22_8 => ?_)
                            · skip
                              exfalso; revert c22_8; decide
                            · skip
                              have c22_8 := (not_congr (nI_leI (a := 3) (b := 0) (by omega) (by omega))).mp c22_8
                              refine lv_iload_n hx hb dX1_meetWeir_25 rfl (lv_at hl 2 rfl) ?_
                              refine lv_aload_n hx hb dX1_meetWeir_26 rfl (lv_at hl 3 rfl) ?_
                              refine va_get (D := D) (ci := 1) (v := .ref (F 10)) (C := RX1) (T := TX1) (N := 13) hx hb hts inX1 hown hE.1 hP 0 rfl rfl 9 (by decide) kf44 (fun _ h9 => h9) rfl dX1_meetWeir_27 ?_
                              refine lv_aload_n hx hb dX1_meetWeir_30 rfl (lv_at hl 3 rfl) ?_
                              refine va_get (D := D) (ci := 1) (v := .ref (F 3)) (C := RX1) (T := TX1) (N := 13) hx hb hts inX1 hown hE.1 hP 0 rfl rfl 2 (by decide) kf23 (fun _ h9 => h9) rfl dX1_meetWeir_31 ?_
                              refine lv_iload_n hx hb dX1_meetWeir_34 rfl (lv_at hl 4 rfl) ?_
                              refine pVi (As := [.int (nI i)]) (rest := [.ref (F 10), .int ((((((v - (rg 540 c (ck (qLa a i) ((qPl a i) + 1) 0))) - (rg 540 c (ck (qLa a i) ((qPl a i) + 1) 1))) - (rg 540 c (ck (qLa a i) ((qPl a i) + 1) 2))) - (rg 540 c (ck (qLa a i) ((qPl a i) + 2) 0))) - (rg 540 c (ck (qLa a i) ((qPl a i) + 2) 1))) - (rg 540 c (ck (qLa a i) ((qPl a i) + 2) 2)))]) (wc := (wR cA (F 3) (F 14) 41 (fun z9 => nI (qLa a z9)))) ⟨hx, hb, hml, hown, hts⟩ (K_X2_getk lch D cA (F 3) (F 14) 41 (fun z9 => nI (qLa a z9)) i (nI (qLa a i)) H.size (by omega) (Nat.le_of_ble_eq_true rfl) (rfl)) (cwV 1 hts gX1_meetWeir_X2_get rfl rfl rfl (by decide +kernel) ⟨Nat.le_of_ble_eq_true rfl, Nat.le_of_ble_eq_true rfl⟩) hE hP hD hS hA [3, 14] rfl rfl X0.blind (fun _ _ _ => trivial) 3 2 rfl rfl rfl hl.1 rfl rfl (Nat.le_of_ble_eq_true rfl) dX1_meetWeir_35 ⟨Nat.zero_le _, Nat.zero_le _⟩ (fun r_73 u_74 H locs h_75 hP hS => ?_)
                              subst h_75
                              refine lv_aload_n hx hb dX1_meetWeir_38 rfl (lv_at hl 3 rfl) ?_
                              refine va_get (D := D) (ci := 1) (v := .ref (F 4)) (C := RX1) (T := TX1) (N := 13) hx hb hts inX1 hown hE.1 hP 0 rfl rfl 3 (by decide) kf26 (fun _ h9 => h9) rfl dX1_meetWeir_39 ?_
                              refine lv_iload_n hx hb dX1_meetWeir_42 rfl (lv_at hl 4 rfl) ?_
                              refine pVi (As := [.int (nI i)]) (rest := [.int (nI (qLa a i)), .ref (F 10), .int ((((((v - (rg 540 c (ck (qLa a i) ((qPl a i) + 1) 0))) - (rg 540 c (ck (qLa a i) ((qPl a i) + 1) 1))) - (rg 540 c (ck (qLa a i) ((qPl a i) + 1) 2))) - (rg 540 c (ck (qLa a i) ((qPl a i) + 2) 0))) - (rg 540 c (ck (qLa a i) ((qPl a i) + 2) 1))) - (rg 540 c (ck (qLa a i) ((qPl a i) + 2) 2)))]) (wc := (wR cA (F 4) (F 15) 41 (fun z9 => nI (qPl a z9)))) ⟨hx, hb, hml, hown, hts⟩ (K_X2_getk lch D cA (F 4) (F 15) 41 (fun z9 => nI (qPl a z9)) i (nI (qPl a i)) H.size (by omega) (Nat.le_of_ble_eq_true rfl) (rfl)) (cwV 1 hts gX1_meetWeir_X2_get rfl rfl rfl (by decide +kernel) ⟨Nat.le_of_ble_eq_true rfl, Nat.le_of_ble_eq_true rfl⟩) hE hP hD hS hA [4, 15] rfl rfl X0.blind (fun _ _ _ => trivial) 4 2 rfl rfl rfl hl.1 rfl rfl (Nat.le_of_ble_eq_true rfl) dX1_meetWeir_43 ⟨Nat.zero_le _, Nat.zero_le _⟩ (fun r_76 u_77 H locs h_78 hP hS => ?_)
                              subst h_78
                              refine lv_iload hx hb dX1_meetWeir_46 (lv_at hl 1 rfl) ?_
                              refine lv_iadd hx hb dX1_meetWeir_48 ?_
                              refine top_i (y := nI ((qPl a i) + 3)) (nI_add _ _) ?_
                              refine lv_iload hx hb dX1_meetWeir_49 (lv_at hl 0 rfl) ?_
                              refine pSi (As := [.int (nI (qLa a i)), .int (nI ((qPl a i) + 3)), .int 0]) (rest := [.ref (F 10), .int ((((((v - (rg 540 c (ck (qLa a i) ((qPl a i) + 1) 0))) - (rg 540 c (ck (qLa a i) ((qPl a i) + 1) 1))) - (rg 540 c (ck (qLa a i) ((qPl a i) + 1) 2))) - (rg 540 c (ck (qLa a i) ((qPl a i) + 2) 0))) - (rg 540 c (ck (qLa a i) ((qPl a i) + 2) 1))) - (rg 540 c (ck (qLa a i) ((qPl a i) + 2) 2)))]) (wc := ([] : va_W)) ⟨hx, hb, hml, hown, hts⟩ (K_X1_cell lch D cA (qLa a i) ((qPl a i) + 3) 0 H.size (by first | assumption | omega)) (cwS 3 hts gX1_meetWeir_X1_cell rfl rfl rfl (by decide +kernel) ⟨Nat.le_of_ble_eq_true rfl, Nat.le_of_ble_eq_true rfl⟩) hE hP hD hS hA [] rfl rfl X0.blind (fun _ _ _ => trivial) hl.1 rfl rfl (Nat.le_of_ble_eq_true rfl) dX1_meetWeir_51 ⟨Nat.zero_le _, Nat.zero_le _⟩ (fun r_79 u_80 H locs h_81 hP hS => ?_)
                              subst h_81
                              refine pVi (As := [.int (ck (qLa a i) ((qPl a i) + 3) 0)]) (rest := [.int ((((((v - (rg 540 c (ck (qLa a i) ((qPl a i) + 1) 0))) - (rg 540 c (ck (qLa a i) ((qPl a i) + 1) 1))) - (rg 540 c (ck (qLa a i) ((qPl a i) + 1) 2))) - (rg 540 c (ck (qLa a i) ((qPl a i) + 2) 0))) - (rg 540 c (ck (qLa a i) ((qPl a i) + 2) 1))) - (rg 540 c (ck (qLa a i) ((qPl a i) + 2) 2)))]) (wc := (wR cA (F 10) (F 21) 540 c)) ⟨hx, hb, hml, hown, hts⟩ (K_X2_get lch D cA (F 10) (F 21) 540 c (ck (qLa a i) ((qPl a i) + 3) 0) H.size (Nat.le_of_ble_eq_true rfl)) (cwV 1 hts gX1_meetWeir_X2_get rfl rfl rfl (by decide +kernel) ⟨Nat.le_of_ble_eq_true rfl, Nat.le_of_ble_eq_true rfl⟩) hE hP hD hS hA [10, 21] rfl rfl X0.blind (fun _ _ _ => trivial) 10 2 rfl rfl rfl hl.1 rfl rfl (Nat.le_of_ble_eq_true rfl) dX1_meetWeir_54 ⟨Nat.zero_le _, Nat.zero_le _⟩ (fun r_82 u_83 H locs h_84 hP hS => ?_)
                              subst h_84
                              refine lv_isub hx hb dX1_meetWeir_57 ?_
                              refine lv_istore_n (lv' := [(3, .int (((((((v - (rg 540 c (ck (qLa a i) ((qPl a i) + 1) 0))) - (rg 540 c (ck (qLa a i) ((qPl a i) + 1) 1))) - (rg 540 c (ck (qLa a i) ((qPl a i) + 1) 2))) - (rg 540 c (ck (qLa a i) ((qPl a i) + 2) 0))) - (rg 540 c (ck (qLa a i) ((qPl a i) + 2) 1))) - (rg 540 c (ck (qLa a i) ((qPl a i) + 2) 2))) - (rg 540 c (ck (qLa a i) ((qPl a i) + 3) 0)))), (5, .int 0), (4, .int 3), (0, .ref (F 0)), (1, .int (nI i)), (2, .int v)]) hx hb dX1_meetWeir_58 rfl hl (by decide) rfl (fun ls hl => ?_)
                              refine lv_iinc (v := 1) (lv' := [(5, .int 1), (3, .int (((((((v - (rg 540 c (ck (qLa a i) ((qPl a i) + 1) 0))) - (rg 540 c (ck (qLa a i) ((qPl a i) + 1) 1))) - (rg 540 c (ck (qLa a i) ((qPl a i) + 1) 2))) - (rg 540 c (ck (qLa a i) ((qPl a i) + 2) 0))) - (rg 540 c (ck (qLa a i) ((qPl a i) + 2) 1))) - (rg 540 c (ck (qLa a i) ((qPl a i) + 2) 2))) - (rg 540 c (ck (qLa a i) ((qPl a i) + 3) 0)))), (4, .int 3), (0, .ref (F 0)), (1, .int (nI i)), (2, .int v)]) hx hb dX1_meetWeir_59 hl (k := 1) rfl (by decide) (by decide) rfl (fun ls hl => ?_)
                              refine lv_goto (tgt := 19) hx hb dX1_meetWeir_62 (by decide) ?_
                              refine lv_iload hx hb dX1_meetWeir_19 (lv_at hl 0 rfl) ?_
                              refine lv_iconst (v := 3) hx hb dX1_meetWeir_21 (by decide) ?_
                              refine lv_icmp_ge (tgt := 65) hx hb dX1_meetWeir_22 (by decide) (fun c22_9 => ?_) (fun c22_9 => ?_)
                              · skip
                                exfalso; revert c22_9; decide
                              · skip
                                have c22_9 := (not_congr (nI_leI (a := 3) (b := 1) (by omega) (by omega))).mp c22_9
                                refine lv_iload_n hx hb dX1_meetWeir_25 rfl (lv_at hl 1 rfl) ?_
                                refine lv_aload_n hx hb dX1_meetWeir_26 rfl (lv_at hl 3 rfl) ?_
                                refine va_get (D := D) (ci := 1) (v := .ref (F 10)) (C := RX1) (T := TX1) (N := 13) hx hb hts inX1 hown hE.1 hP 0 rfl rfl 9 (by decide) kf44 (fun _ h9 => h9) rfl dX1_meetWeir_27 ?_
                                refine lv_aload_n hx hb dX1_meetWeir_30 rfl (lv_at hl 3 rfl) ?_
                                refine va_get (D := D) (ci := 1) (v := .ref (F 3)) (C := RX1) (T := TX1) (N := 13) hx hb hts inX1 hown hE.1 hP 0 rfl rfl 2 (by decide) kf23 (fun _ h9 => h9) rfl dX1_meetWeir_31 ?_
                                refine lv_iload_n hx hb dX1_meetWeir_34 rfl (lv_at hl 4 rfl) ?_
                                refine pVi (As := [.int (nI i)]) (rest := [.ref (F 10), .int (((((((v - (rg 540 c (ck (qLa a i) ((qPl a i) + 1) 0))) - (rg 540 c (ck (qLa a i) ((qPl a i) + 1) 1))) - (rg 540 c (ck (qLa a i) ((qPl a i) + 1) 2))) - (rg 540 c (ck (qLa a i) ((qPl a i) + 2) 0))) - (rg 540 c (ck (qLa a i) ((qPl a i) + 2) 1))) - (rg 540 c (ck (qLa a i) ((qPl a i) + 2) 2))) - (rg 540 c (ck (qLa a i) ((qPl a i) + 3) 0)))]) (wc := (wR cA (F 3) (F 14) 41 (fun z9 => nI (qLa a z9)))) ⟨hx, hb, hml, hown, hts⟩ (K_X2_getk lch D cA (F 3) (F 14) 41 (fun z9 => nI (qLa a z9)) i (nI (qLa a i)) H.size (by omega) (Nat.le_of_ble_eq_true rfl) (rfl)) (cwV 1 hts gX1_meetWeir_X2_get rfl rfl rfl (by decide +kernel) ⟨Nat.le_of_ble_eq_true rfl, Nat.le_of_ble_eq_true rfl⟩) hE hP hD hS hA [3, 14] rfl rfl X0.blind (fun _ _ _ => trivial) 3 2 rfl rfl rfl hl.1 rfl rfl (Nat.le_of_ble_eq_true rfl) dX1_meetWeir_35 ⟨Nat.zero_le _, Nat.zero_le _⟩ (fun r_85 u_86 H locs h_87 hP hS => ?_)
                                subst h_87
                                refine lv_aload_n hx hb dX1_meetWeir_38 rfl (lv_at hl 3 rfl) ?_
                                refine va_get (D := D) (ci := 1) (v := .ref (F 4)) (C := RX1) (T := TX1) (N := 13) hx hb hts inX1 hown hE.1 hP 0 rfl rfl 3 (by decide) kf26 (fun _ h9 => h9) rfl dX1_meetWeir_39 ?_
                                refine lv_iload_n hx hb dX1_meetWeir_42 rfl (lv_at hl 4 rfl) ?_
                                refine pVi (As := [.int (nI i)]) (rest := [.int (nI (qLa a i)), .ref (F 10), .int (((((((v - (rg 540 c (ck (qLa a i) ((qPl a i) + 1) 0))) - (rg 540 c (ck (qLa a i) ((qPl a i) + 1) 1))) - (rg 540 c (ck (qLa a i) ((qPl a i) + 1) 2))) - (rg 540 c (ck (qLa a i) ((qPl a i) + 2) 0))) - (rg 540 c (ck (qLa a i) ((qPl a i) + 2) 1))) - (rg 540 c (ck (qLa a i) ((qPl a i) + 2) 2))) - (rg 540 c (ck (qLa a i) ((qPl a i) + 3) 0)))]) (wc := (wR cA (F 4) (F 15) 41 (fun z9 => nI (qPl a z9)))) ⟨hx, hb, hml, hown, hts⟩ (K_X2_getk lch D cA (F 4) (F 15) 41 (fun z9 => nI (qPl a z9)) i (nI (qPl a i)) H.size (by omega) (Nat.le_of_ble_eq_true rfl) (rfl)) (cwV 1 hts gX1_meetWeir_X2_get rfl rfl rfl (by decide +kernel) ⟨Nat.le_of_ble_eq_true rfl, Nat.le_of_ble_eq_true rfl⟩) hE hP hD hS hA [4, 15] rfl rfl X0.blind (fun _ _ _ => trivial) 4 2 rfl rfl rfl hl.1 rfl rfl (Nat.le_of_ble_eq_true rfl) dX1_meetWeir_43 ⟨Nat.zero_le _, Nat.zero_le _⟩ (fun r_88 u_89 H locs h_90 hP hS => ?_)
                                subst h_90
                                refine lv_iload hx hb dX1_meetWeir_46 (lv_at hl 2 rfl) ?_
                                refine lv_iadd hx hb dX1_meetWeir_48 ?_
                                refine top_i (y := nI ((qPl a i) + 3)) (nI_add _ _) ?_
                                refine lv_iload hx hb dX1_meetWeir_49 (lv_at hl 0 rfl) ?_
                                refine pSi (As := [.int (nI (qLa a i)), .int (nI ((qPl a i) + 3)), .int 1]) (rest := [.ref (F 10), .int (((((((v - (rg 540 c (ck (qLa a i) ((qPl a i) + 1) 0))) - (rg 540 c (ck (qLa a i) ((qPl a i) + 1) 1))) - (rg 540 c (ck (qLa a i) ((qPl a i) + 1) 2))) - (rg 540 c (ck (qLa a i) ((qPl a i) + 2) 0))) - (rg 540 c (ck (qLa a i) ((qPl a i) + 2) 1))) - (rg 540 c (ck (qLa a i) ((qPl a i) + 2) 2))) - (rg 540 c (ck (qLa a i) ((qPl a i) + 3) 0)))]) (wc := ([] : va_W)) ⟨hx, hb, hml, hown, hts⟩ (K_X1_cell lch D cA (qLa a i) ((qPl a i) + 3) 1 H.size (by first | assumption | omega)) (cwS 3 hts gX1_meetWeir_X1_cell rfl rfl rfl (by decide +kernel) ⟨Nat.le_of_ble_eq_true rfl, Nat.le_of_ble_eq_true rfl⟩) hE hP hD hS hA [] rfl rfl X0.blind (fun _ _ _ => trivial) hl.1 rfl rfl (Nat.le_of_ble_eq_true rfl) dX1_meetWeir_51 ⟨Nat.zero_le _, Nat.zero_le _⟩ (fun r_91 u_92 H locs h_93 hP hS => ?_)
                                subst h_93
                                refine pVi (As := [.int (ck (qLa a i) ((qPl a i) + 3) 1)]) (rest := [.int (((((((v - (rg 540 c (ck (qLa a i) ((qPl a i) + 1) 0))) - (rg 540 c (ck (qLa a i) ((qPl a i) + 1) 1))) - (rg 540 c (ck (qLa a i) ((qPl a i) + 1) 2))) - (rg 540 c (ck (qLa a i) ((qPl a i) + 2) 0))) - (rg 540 c (ck (qLa a i) ((qPl a i) + 2) 1))) - (rg 540 c (ck (qLa a i) ((qPl a i) + 2) 2))) - (rg 540 c (ck (qLa a i) ((qPl a i) + 3) 0)))]) (wc := (wR cA (F 10) (F 21) 540 c)) ⟨hx, hb, hml, hown, hts⟩ (K_X2_get lch D cA (F 10) (F 21) 540 c (ck (qLa a i) ((qPl a i) + 3) 1) H.size (Nat.le_of_ble_eq_true rfl)) (cwV 1 hts gX1_meetWeir_X2_get rfl rfl rfl (by decide +kernel) ⟨Nat.le_of_ble_eq_true rfl, Nat.le_of_ble_eq_true rfl⟩) hE hP hD hS hA [10, 21] rfl rfl X0.blind (fun _ _ _ => trivial) 10 2 rfl rfl rfl hl.1 rfl rfl (Nat.le_of_ble_eq_true rfl) dX1_meetWeir_54 ⟨Nat.zero_le _, Nat.zero_le _⟩ (fun r_94 u_95 H locs h_96 hP hS => ?_)
                                subst h_96
                                refine lv_isub hx hb dX1_meetWeir_57 ?_
                                refine lv_istore_n (lv' := [(3, .int ((((((((v - (rg 540 c (ck (qLa a i) ((qPl a i) + 1) 0))) - (rg 540 c (ck (qLa a i) ((qPl a i) + 1) 1))) - (rg 540 c (ck (qLa a i) ((qPl a i) + 1) 2))) - (rg 540 c (ck (qLa a i) ((qPl a i) + 2) 0))) - (rg 540 c (ck (qLa a i) ((qPl a i) + 2) 1))) - (rg 540 c (ck (qLa a i) ((qPl a i) + 2) 2))) - (rg 540 c (ck (qLa a i) ((qPl a i) + 3) 0))) - (rg 540 c (ck (qLa a i) ((qPl a i) + 3) 1)))), (5, .int 1), (4, .int 3), (0, .ref (F 0)), (1, .int (nI i)), (2, .int v)]) hx hb dX1_meetWeir_58 rfl hl (by decide) rfl (fun ls hl => ?_)
                                refine lv_iinc (v := 2) (lv' := [(5, .int 2), (3, .int ((((((((v - (rg 540 c (ck (qLa a i) ((qPl a i) + 1) 0))) - (rg 540 c (ck (qLa a i) ((qPl a i) + 1) 1))) - (rg 540 c (ck (qLa a i) ((qPl a i) + 1) 2))) - (rg 540 c (ck (qLa a i) ((qPl a i) + 2) 0))) - (rg 540 c (ck (qLa a i) ((qPl a i) + 2) 1))) - (rg 540 c (ck (qLa a i) ((qPl a i) + 2) 2))) - (rg 540 c (ck (qLa a i) ((qPl a i) + 3) 0))) - (rg 540 c (ck (qLa a i) ((qPl a i) + 3) 1)))), (4, .int 3), (0, .ref (F 0)), (1, .int (nI i)), (2, .int v)]) hx hb dX1_meetWeir_59 hl (k := 1) rfl (by decide) (by decide) rfl (fun ls hl => ?_)
                                refine lv_goto (tgt := 19) hx hb dX1_meetWeir_62 (by decide) ?_
                                refine lv_iload hx hb dX1_meetWeir_19 (lv_at hl 0 rfl) ?_
                                refine lv_iconst (v := 3) hx hb dX1_meetWeir_21 (by decide) ?_
                                refine lv_icmp_ge (tgt := 65) hx hb dX1_meetWeir_22 (by decide) (fun c22_10 => ?_) (fun c22_10 => ?_)
                                · skip
                                  exfalso; revert c22_10; decide
                                · skip
                                  have c22_10 := (not_congr (nI_leI (a := 3) (b := 2) (by omega) (by omega))).mp c22_10
                                  refine lv_iload_n hx hb dX1_meetWeir_25 rfl (lv_at hl 1 rfl) ?_
                                  refine lv_aload_n hx hb dX1_meetWeir_26 rfl (lv_at hl 3 rfl) ?_
                                  refine va_get (D := D) (ci := 1) (v := .ref (F 10)) (C := RX1) (T := TX1) (N := 13) hx hb hts inX1 hown hE.1 hP 0 rfl rfl 9 (by decide) kf44 (fun _ h9 => h9) rfl dX1_meetWeir_27 ?_
                                  refine lv_aload_n hx hb dX1_meetWeir_30 rfl (lv_at hl 3 rfl) ?_
                                  refine va_get (D := D) (ci := 1) (v := .ref (F 3)) (C := RX1) (T := TX1) (N := 13) hx hb hts inX1 hown hE.1 hP 0 rfl rfl 2 (by decide) kf23 (fun _ h9 => h9) rfl dX1_meetWeir_31 ?_
                                  refine lv_iload_n hx hb dX1_meetWeir_34 rfl (lv_at hl 4 rfl) ?_
                                  refine pVi (As := [.int (nI i)]) (rest := [.ref (F 10), .int ((((((((v - (rg 540 c (ck (qLa a i) ((qPl a i) + 1) 0))) - (rg 540 c (ck (qLa a i) ((qPl a i) + 1) 1))) - (rg 540 c (ck (qLa a i) ((qPl a i) + 1) 2))) - (rg 540 c (ck (qLa a i) ((qPl a i) + 2) 0))) - (rg 540 c (ck (qLa a i) ((qPl a i) + 2) 1))) - (rg 540 c (ck (qLa a i) ((qPl a i) + 2) 2))) - (rg 540 c (ck (qLa a i) ((qPl a i) + 3) 0))) - (rg 540 c (ck (qLa a i) ((qPl a i) + 3) 1)))]) (wc := (wR cA (F 3) (F 14) 41 (fun z9 => nI (qLa a z9)))) ⟨hx, hb, hml, hown, hts⟩ (K_X2_getk lch D cA (F 3) (F 14) 41 (fun z9 => nI (qLa a z9)) i (nI (qLa a i)) H.size (by omega) (Nat.le_of_ble_eq_true rfl) (rfl)) (cwV 1 hts gX1_meetWeir_X2_get rfl rfl rfl (by decide +kernel) ⟨Nat.le_of_ble_eq_true rfl, Nat.le_of_ble_eq_true rfl⟩) hE hP hD hS hA [3, 14] rfl rfl X0.blind (fun _ _ _ => trivial) 3 2 rfl rfl rfl hl.1 rfl rfl (Nat.le_of_ble_eq_true rfl) dX1_meetWeir_35 ⟨Nat.zero_le _, Nat.zero_le _⟩ (fun r_97 u_98 H locs h_99 hP hS => ?_)
                                  subst h_99
                                  refine lv_aload_n hx hb dX1_meetWeir_38 rfl (lv_at hl 3 rfl) ?_
                                  refine va_get (D := D) (ci := 1) (v := .ref (F 4)) (C := RX1) (T := TX1) (N := 13) hx hb hts inX1 hown hE.1 hP 0 rfl rfl 3 (by decide) kf26 (fun _ h9 => h9) rfl dX1_meetWeir_39 ?_
                                  refine lv_iload_n hx hb dX1_meetWeir_42 rfl (lv_at hl 4 rfl) ?_
                                  refine pVi (As := [.int (nI i)]) (rest := [.int (nI (qLa a i)), .ref (F 10), .int ((((((((v - (rg 540 c (ck (qLa a i) ((qPl a i) + 1) 0))) - (rg 540 c (ck (qLa a i) ((qPl a i) + 1) 1))) - (rg 540 c (ck (qLa a i) ((qPl a i) + 1) 2))) - (rg 540 c (ck (qLa a i) ((qPl a i) + 2) 0))) - (rg 540 c (ck (qLa a i) ((qPl a i) + 2) 1))) - (rg 540 c (ck (qLa a i) ((qPl a i) + 2) 2))) - (rg 540 c (ck (qLa a i) ((qPl a i) + 3) 0))) - (rg 540 c (ck (qLa a i) ((qPl a i) + 3) 1)))]) (wc := (wR cA (F 4) (F 15) 41 (fun z9 => nI (qPl a z9)))) ⟨hx, hb, hml, hown, hts⟩ (K_X2_getk lch D cA (F 4) (F 15) 41 (fun z9 => nI (qPl a z9)) i (nI (qPl a i)) H.size (by omega) (Nat.le_of_ble_eq_true rfl) (rfl)) (cwV 1 hts gX1_meetWeir_X2_get rfl rfl rfl (by decide +kernel) ⟨Nat.le_of_ble_eq_true rfl, Nat.le_of_ble_eq_true rfl⟩) hE hP hD hS hA [4, 15] rfl rfl X0.blind (fun _ _ _ => trivial) 4 2 rfl rfl rfl hl.1 rfl rfl (Nat.le_of_ble_eq_true rfl) dX1_meetWeir_43 ⟨Nat.zero_le _, Nat.zero_le _⟩ (fun r_100 u_101 H locs h_102 hP hS => ?_)
                                  subst h_102
                                  refine lv_iload hx hb dX1_meetWeir_46 (lv_at hl 2 rfl) ?_
                                  refine lv_iadd hx hb dX1_meetWeir_48 ?_
                                  refine top_i (y := nI ((qPl a i) + 3)) (nI_add _ _) ?_
                                  refine lv_iload hx hb dX1_meetWeir_49 (lv_at hl 0 rfl) ?_
                                  refine pSi (As := [.int (nI (qLa a i)), .int (nI ((qPl a i) + 3)), .int 2]) (rest := [.ref (F 10), .int ((((((((v - (rg 540 c (ck (qLa a i) ((qPl a i) + 1) 0))) - (rg 540 c (ck (qLa a i) ((qPl a i) + 1) 1))) - (rg 540 c (ck (qLa a i) ((qPl a i) + 1) 2))) - (rg 540 c (ck (qLa a i) ((qPl a i) + 2) 0))) - (rg 540 c (ck (qLa a i) ((qPl a i) + 2) 1))) - (rg 540 c (ck (qLa a i) ((qPl a i) + 2) 2))) - (rg 540 c (ck (qLa a i) ((qPl a i) + 3) 0))) - (rg 540 c (ck (qLa a i) ((qPl a i) + 3) 1)))]) (wc := ([] : va_W)) ⟨hx, hb, hml, hown, hts⟩ (K_X1_cell lch D cA (qLa a i) ((qPl a i) + 3) 2 H.size (by first | assumption | omega)) (cwS 3 hts gX1_meetWeir_X1_cell rfl rfl rfl (by decide +kernel) ⟨Nat.le_of_ble_eq_true rfl, Nat.le_of_ble_eq_true rfl⟩) hE hP hD hS hA [] rfl rfl X0.blind (fun _ _ _ => trivial) hl.1 rfl rfl (Nat.le_of_ble_eq_true rfl) dX1_meetWeir_51 ⟨Nat.zero_le _, Nat.zero_le _⟩ (fun r_103 u_104 H locs h_105 hP hS => ?_)
                                  subst h_105
                                  refine pVi (As := [.int (ck (qLa a i) ((qPl a i) + 3) 2)]) (rest := [.int ((((((((v - (rg 540 c (ck (qLa a i) ((qPl a i) + 1) 0))) - (rg 540 c (ck (qLa a i) ((qPl a i) + 1) 1))) - (rg 540 c (ck (qLa a i) ((qPl a i) + 1) 2))) - (rg 540 c (ck (qLa a i) ((qPl a i) + 2) 0))) - (rg 540 c (ck (qLa a i) ((qPl a i) + 2) 1))) - (rg 540 c (ck (qLa a i) ((qPl a i) + 2) 2))) - (rg 540 c (ck (qLa a i) ((qPl a i) + 3) 0))) - (rg 540 c (ck (qLa a i) ((qPl a i) + 3) 1)))]) (wc := (wR cA (F 10) (F 21) 540 c)) ⟨hx, hb, hml, hown, hts⟩ (K_X2_get lch D cA (F 10) (F 21) 540 c (ck (qLa a i) ((qPl a i) + 3) 2) H.size (Nat.le_of_ble_eq_true rfl)) (cwV 1 hts gX1_meetWeir_X2_get rfl rfl rfl (by decide +kernel) ⟨Nat.le_of_ble_eq_true rfl, Nat.le_of_ble_eq_true rfl⟩) hE hP hD hS hA [10, 21] rfl rfl X0.blind (fun _ _ _ => trivial) 10 2 rfl rfl rfl hl.1 rfl rfl (Nat.le_of_ble_eq_true rfl) dX1_meetWeir_54 ⟨Nat.zero_le _, Nat.zero_le _⟩ (fun r_106 u_107 H locs h_108 hP hS => ?_)
                                  subst h_108
                                  refine lv_isub hx hb dX1_meetWeir_57 ?_
                                  refine lv_istore_n (lv' := [(3, .int (((((((((v - (rg 540 c (ck (qLa a i) ((qPl a i) + 1) 0))) - (rg 540 c (ck (qLa a i) ((qPl a i) + 1) 1))) - (rg 540 c (ck (qLa a i) ((qPl a i) + 1) 2))) - (rg 540 c (ck (qLa a i) ((qPl a i) + 2) 0))) - (rg 540 c (ck (qLa a i) ((qPl a i) + 2) 1))) - (rg 540 c (ck (qLa a i) ((qPl a i) + 2) 2))) - (rg 540 c (ck (qLa a i) ((qPl a i) + 3) 0))) - (rg 540 c (ck (qLa a i) ((qPl a i) + 3) 1))) - (rg 540 c (ck (qLa a i) ((qPl a i) + 3) 2)))), (5, .int 2), (4, .int 3), (0, .ref (F 0)), (1, .int (nI i)), (2, .int v)]) hx hb dX1_meetWeir_58 rfl hl (by decide) rfl (fun ls hl => ?_)
                                  refine lv_iinc (v := 3) (lv' := [(5, .int 3), (3, .int (((((((((v - (rg 540 c (ck (qLa a i) ((qPl a i) + 1) 0))) - (rg 540 c (ck (qLa a i) ((qPl a i) + 1) 1))) - (rg 540 c (ck (qLa a i) ((qPl a i) + 1) 2))) - (rg 540 c (ck (qLa a i) ((qPl a i) + 2) 0))) - (rg 540 c (ck (qLa a i) ((qPl a i) + 2) 1))) - (rg 540 c (ck (qLa a i) ((qPl a i) + 2) 2))) - (rg 540 c (ck (qLa a i) ((qPl a i) + 3) 0))) - (rg 540 c (ck (qLa a i) ((qPl a i) + 3) 1))) - (rg 540 c (ck (qLa a i) ((qPl a i) + 3) 2)))), (4, .int 3), (0, .ref (F 0)), (1, .int (nI i)), (2, .int v)]) hx hb dX1_meetWeir_59 hl (k := 1) rfl (by decide) (by decide) rfl (fun ls hl => ?_)
                                  refine lv_goto (tgt := 19) hx hb dX1_meetWeir_62 (by decide) ?_
                                  refine lv_iload hx hb dX1_meetWeir_19 (lv_at hl 0 rfl) ?_
                                  refine lv_iconst (v := 3) hx hb dX1_meetWeir_21 (by decide) ?_
                                  refine lv_icmp_ge (tgt := 65) hx hb dX1_meetWeir_22 (by decide) (fun c22_11 => ?_) (fun c22_11 => ?_)
                                  · skip
                                    have c22_11 := (nI_leI (a := 3) (b := 3) (by omega) (by omega)).mp c22_11
                                    refine lv_iinc (v := 4) (lv' := [(4, .int 4), (5, .int 3), (3, .int (((((((((v - (rg 540 c (ck (qLa a i) ((qPl a i) + 1) 0))) - (rg 540 c (ck (qLa a i) ((qPl a i) + 1) 1))) - (rg 540 c (ck (qLa a i) ((qPl a i) + 1) 2))) - (rg 540 c (ck (qLa a i) ((qPl a i) + 2) 0))) - (rg 540 c (ck (qLa a i) ((qPl a i) + 2) 1))) - (rg 540 c (ck (qLa a i) ((qPl a i) + 2) 2))) - (rg 540 c (ck (qLa a i) ((qPl a i) + 3) 0))) - (rg 540 c (ck (qLa a i) ((qPl a i) + 3) 1))) - (rg 540 c (ck (qLa a i) ((qPl a i) + 3) 2)))), (0, .ref (F 0)), (1, .int (nI i)), (2, .int v)]) hx hb dX1_meetWeir_65 hl (k := 2) rfl (by decide) (by decide) rfl (fun ls hl => ?_)
                                    refine lv_goto (tgt := 10) hx hb dX1_meetWeir_68 (by decide) ?_
                                    refine lv_iload hx hb dX1_meetWeir_10 (lv_at hl 0 rfl) ?_
                                    refine lv_iconst (v := 3) hx hb dX1_meetWeir_12 (by decide) ?_
                                    refine lv_icmp_gt (tgt := 71) hx hb dX1_meetWeir_13 (by decide) (fun c13_3 => ?_) (fun c13_3 => ?_)
                                    · skip
                                      have c13_3 := (nI_ltI (a := 3) (b := 4) (by omega) (by omega)).mp c13_3
                                      rw [wet_sum hw1 hcr hi] at hl
                                      refine lv_aload_n hx hb dX1_meetWeir_71 rfl (lv_at hl 3 rfl) ?_
                                      refine va_get (D := D) (ci := 1) (v := .ref (F 6)) (C := RX1) (T := TX1) (N := 13) hx hb hts inX1 hown hE.1 hP 0 rfl rfl 5 (by decide) kf32 (fun _ h9 => h9) rfl dX1_meetWeir_72 ?_
                                      refine lv_iload_n hx hb dX1_meetWeir_75 rfl (lv_at hl 4 rfl) ?_
                                      refine lv_aload_n hx hb dX1_meetWeir_76 rfl (lv_at hl 3 rfl) ?_
                                      refine va_get (D := D) (ci := 1) (v := .ref (F 6)) (C := RX1) (T := TX1) (N := 13) hx hb hts inX1 hown hE.1 hP 0 rfl rfl 5 (by decide) kf32 (fun _ h9 => h9) rfl dX1_meetWeir_77 ?_
                                      refine lv_iload_n hx hb dX1_meetWeir_80 rfl (lv_at hl 4 rfl) ?_
                                      refine pVi (As := [.int (nI i)]) (rest := [.int (nI i), .ref (F 6)]) (wc := (wR cA (F 6) (F 17) 41 (qWe a))) ⟨hx, hb, hml, hown, hts⟩ (K_X2_getk lch D cA (F 6) (F 17) 41 (qWe a) i (qWe a i) H.size (by omega) (Nat.le_of_ble_eq_true rfl) (rfl)) (cwV 1 hts gX1_meetWeir_X2_get rfl rfl rfl (by decide +kernel) ⟨Nat.le_of_ble_eq_true rfl, Nat.le_of_ble_eq_true rfl⟩) hE hP hD hS hA [6, 17] rfl rfl X0.blind (fun _ _ _ => trivial) 6 2 rfl rfl rfl hl.1 rfl rfl (Nat.le_of_ble_eq_true rfl) dX1_meetWeir_81 ⟨Nat.zero_le _, Nat.zero_le _⟩ (fun r_109 u_110 H locs h_111 hP hS => ?_)
                                      subst h_111
                                      refine lv_iload_n hx hb dX1_meetWeir_84 rfl (lv_at hl 2 rfl) ?_
                                      refine lv_iconst (v := 1) hx hb dX1_meetWeir_85 (by decide) ?_
                                      refine lv_icmp_le (tgt := 93) hx hb dX1_meetWeir_86 (by decide) (fun c86 => ?_) (fun c86 => ?_)
                                      · skip
                                        refine lv_iconst (v := 1) hx hb dX1_meetWeir_93 (by decide) ?_
                                        refine lv_iadd hx hb dX1_meetWeir_94 ?_
                                        refine top_i (y := qWe a i + imax1 (v - nI (belowA a i))) (by rw [imax_t c86]) ?_
                                        refine cVv (As := [.int (nI i), .int (qWe a i + imax1 (v - nI (belowA a i)))]) (rest := []) (wc := (wR cA (F 6) (F 17) 41 (qWe a))) ⟨hx, hb, hml, hown, hts⟩ (K_X2_putk lch D cA (F 6) (F 17) 41 (qWe a) i (qWe a i + imax1 (v - nI (belowA a i))) (qWe (uWe a (up (qWe a) i (qWe a i + imax1 (v - nI (belowA a i)))))) H.size (by omega) (Nat.le_of_ble_eq_true rfl) (fun j _ => upd_I j)) (cwV 2 hts gX1_meetWeir_X2_put rfl rfl rfl (by decide +kernel) ⟨Nat.le_of_ble_eq_true rfl, Nat.le_of_ble_eq_true rfl⟩) hE hP hD hS hA [6, 17] rfl rfl [F 6, F 17] (fun _ => rfl) rfl (fun (u_113 : Unit) => (wF cA F (uWe a (up (qWe a) i (qWe a i + imax1 (v - nI (belowA a i))))) c q)) (fun _ => rfl) X0.blind (fun _ _ _ => trivial) 6 2 rfl rfl rfl hl.1 rfl rfl (Nat.le_of_ble_eq_true rfl) dX1_meetWeir_95 ⟨Nat.zero_le _, Nat.zero_le _⟩ (fun u_113 H locs h_114 hP hD hS => ?_)
                                        refine lv_aload_n hx hb dX1_meetWeir_98 rfl (lv_at hl 3 rfl) ?_
                                        refine lv_iload_n hx hb dX1_meetWeir_99 rfl (lv_at hl 4 rfl) ?_
                                        refine pVi (As := [.int (nI i)]) (rest := []) (wc := (wF cA F (uWe a (up (qWe a) i (qWe a i + imax1 (v - nI (belowA a i))))) c q)) ⟨hx, hb, hml, hown, hts⟩ (K_X1_isSoaked lch D cA F (uWe a (up (qWe a) i (qWe a i + imax1 (v - nI (belowA a i))))) c q i H.size (by first | assumption | omega) (by first | assumption | omega)) (cwV 1 hts gX1_meetWeir_X1_isSoaked rfl rfl rfl (by decide +kernel) ⟨Nat.le_of_ble_eq_true rfl, Nat.le_of_ble_eq_true rfl⟩) hE hP hD hS hA [0, 1, 2, 3, 4, 5, 6, 7, 8, 9, 10, 11, 12, 13, 14, 15, 16, 17, 18, 19, 20, 21, 22] rfl rfl X0.blind (fun _ _ _ => trivial) 0 1 rfl rfl rfl hl.1 rfl rfl (Nat.le_of_ble_eq_true rfl) dX1_meetWeir_100 ⟨Nat.zero_le _, Nat.zero_le _⟩ (fun r_115 u_116 H locs h_117 hP hS => ?_)
                                        subst h_117
                                        refine lv_if_eq (tgt := 115) hx hb dX1_meetWeir_103 (by decide) (fun c103 => ?_) (fun c103 => ?_)
                                        · skip
                                          have c103 := bi_0.mp c103
                                          have e9 : metA v a i = uWe a (up (qWe a) i (qWe a i + imax1 (v - nI (belowA a i)))) := by unfold metA dryA; rw [if_pos c1, c103]; rfl
                                          have hP : va_P D vwCl (wF cA F (metA v a i) c q) H := by rw [e9]; exact hP
                                          rw [hQQ]
                                          exact W.vret hx hb hr (fun t ht hW => ⟨⟨(), rfl, trivial, by show va_P _ _ _ t.heap; rw [ht]; exact hP⟩, hS.F ht⟩) hS.2.2 dX1_meetWeir_115
                                        · skip
                                          have c103 := bi_1.mp c103
                                          refine lv_aload_n hx hb dX1_meetWeir_106 rfl (lv_at hl 3 rfl) ?_
                                          refine va_get (D := D) (ci := 1) (v := .ref (F 7)) (C := RX1) (T := TX1) (N := 13) hx hb hts inX1 hown hE.1 hP 0 rfl rfl 6 (by decide) kf35 (fun _ h9 => h9) rfl dX1_meetWeir_107 ?_
                                          refine lv_iload_n hx hb dX1_meetWeir_110 rfl (lv_at hl 4 rfl) ?_
                                          refine lv_iconst (v := 0) hx hb dX1_meetWeir_111 (by decide) ?_
                                          refine cVv (As := [.int (nI i), .int 0]) (rest := []) (wc := (wR cA (F 7) (F 18) 41 (fun z9 => bi (qBu (uWe a (up (qWe a) i (qWe a i + imax1 (v - nI (belowA a i))))) z9)))) ⟨hx, hb, hml, hown, hts⟩ (K_X2_putk lch D cA (F 7) (F 18) 41 (fun z9 => bi (qBu (uWe a (up (qWe a) i (qWe a i + imax1 (v - nI (belowA a i))))) z9)) i 0 (fun z9 => bi (qBu (outA (uWe a (up (qWe a) i (qWe a i + imax1 (v - nI (belowA a i))))) i) z9)) H.size (by omega) (Nat.le_of_ble_eq_true rfl) (fun j _ => upd_B (v := false) j)) (cwV 2 hts gX1_meetWeir_X2_put rfl rfl rfl (by decide +kernel) ⟨Nat.le_of_ble_eq_true rfl, Nat.le_of_ble_eq_true rfl⟩) hE hP hD hS hA [7, 18] rfl rfl [F 7, F 18] (fun _ => rfl) rfl (fun (u_119 : Unit) => (wF cA F (outA (uWe a (up (qWe a) i (qWe a i + imax1 (v - nI (belowA a i))))) i) c q)) (fun _ => rfl) X0.blind (fun _ _ _ => trivial) 7 2 rfl rfl rfl hl.1 rfl rfl (Nat.le_of_ble_eq_true rfl) dX1_meetWeir_112 ⟨Nat.zero_le _, Nat.zero_le _⟩ (fun u_119 H locs h_120 hP hD hS => ?_)
                                          have e9 : metA v a i = outA (uWe a (up (qWe a) i (qWe a i + imax1 (v - nI (belowA a i))))) i := by unfold metA dryA; rw [if_pos c1, if_pos c103]
                                          have hP : va_P D vwCl (wF cA F (metA v a i) c q) H := by rw [e9]; exact hP
                                          rw [hQQ]
                                          exact W.vret hx hb hr (fun t ht hW => ⟨⟨(), rfl, trivial, by show va_P _ _ _ t.heap; rw [ht]; exact hP⟩, hS.F ht⟩) hS.2.2 dX1_meetWeir_115
                                      · skip
                                        refine lv_iload_n hx hb dX1_meetWeir_89 rfl (lv_at hl 2 rfl) ?_
                                        refine lv_goto (tgt := 94) hx hb dX1_meetWeir_90 (by decide) ?_
                                        refine lv_iadd hx hb dX1_meetWeir_94 ?_
                                        refine top_i (y := qWe a i + imax1 (v - nI (belowA a i))) (by rw [imax_f c86]) ?_
                                        refine cVv (As := [.int (nI i), .int (qWe a i + imax1 (v - nI (belowA a i)))]) (rest := []) (wc := (wR cA (F 6) (F 17) 41 (qWe a))) ⟨hx, hb, hml, hown, hts⟩ (K_X2_putk lch D cA (F 6) (F 17) 41 (qWe a) i (qWe a i + imax1 (v - nI (belowA a i))) (qWe (uWe a (up (qWe a) i (qWe a i + imax1 (v - nI (belowA a i)))))) H.size (by omega) (Nat.le_of_ble_eq_true rfl) (fun j _ => upd_I j)) (cwV 2 hts gX1_meetWeir_X2_put rfl rfl rfl (by decide +kernel) ⟨Nat.le_of_ble_eq_true rfl, Nat.le_of_ble_eq_true rfl⟩) hE hP hD hS hA [6, 17] rfl rfl [F 6, F 17] (fun _ => rfl) rfl (fun (u_122 : Unit) => (wF cA F (uWe a (up (qWe a) i (qWe a i + imax1 (v - nI (belowA a i))))) c q)) (fun _ => rfl) X0.blind (fun _ _ _ => trivial) 6 2 rfl rfl rfl hl.1 rfl rfl (Nat.le_of_ble_eq_true rfl) dX1_meetWeir_95 ⟨Nat.zero_le _, Nat.zero_le _⟩ (fun u_122 H locs h_123 hP hD hS => ?_)
                                        refine lv_aload_n hx hb dX1_meetWeir_98 rfl (lv_at hl 3 rfl) ?_
                                        refine lv_iload_n hx hb dX1_meetWeir_99 rfl (lv_at hl 4 rfl) ?_
                                        refine pVi (As := [.int (nI i)]) (rest := []) (wc := (wF cA F (uWe a (up (qWe a) i (qWe a i + imax1 (v - nI (belowA a i))))) c q)) ⟨hx, hb, hml, hown, hts⟩ (K_X1_isSoaked lch D cA F (uWe a (up (qWe a) i (qWe a i + imax1 (v - nI (belowA a i))))) c q i H.size (by first | assumption | omega) (by first | assumption | omega)) (cwV 1 hts gX1_meetWeir_X1_isSoaked rfl rfl rfl (by decide +kernel) ⟨Nat.le_of_ble_eq_true rfl, Nat.le_of_ble_eq_true rfl⟩) hE hP hD hS hA [0, 1, 2, 3, 4, 5, 6, 7, 8, 9, 10, 11, 12, 13, 14, 15, 16, 17, 18, 19, 20, 21, 22] rfl rfl X0.blind (fun _ _ _ => trivial) 0 1 rfl rfl rfl hl.1 rfl rfl (Nat.le_of_ble_eq_true rfl) dX1_meetWeir_100 ⟨Nat.zero_le _, Nat.zero_le _⟩ (fun r_124 u_125 H locs h_126 hP hS => ?_)
                                        subst h_126
                                        refine lv_if_eq (tgt := 115) hx hb dX1_meetWeir_103 (by decide) (fun c103 => ?_) (fun c103 => ?_)
                                        · skip
                                          have c103 := bi_0.mp c103
                                          have e9 : metA v a i = uWe a (up (qWe a) i (qWe a i + imax1 (v - nI (belowA a i)))) := by unfold metA dryA; rw [if_pos c1, c103]; rfl
                                          have hP : va_P D vwCl (wF cA F (metA v a i) c q) H := by rw [e9]; exact hP
                                          rw [hQQ]
                                          exact W.vret hx hb hr (fun t ht hW => ⟨⟨(), rfl, trivial, by show va_P _ _ _ t.heap; rw [ht]; exact hP⟩, hS.F ht⟩) hS.2.2 dX1_meetWeir_115
                                        · skip
                                          have c103 := bi_1.mp c103
                                          refine lv_aload_n hx hb dX1_meetWeir_106 rfl (lv_at hl 3 rfl) ?_
                                          refine va_get (D := D) (ci := 1) (v := .ref (F 7)) (C := RX1) (T := TX1) (N := 13) hx hb hts inX1 hown hE.1 hP 0 rfl rfl 6 (by decide) kf35 (fun _ h9 => h9) rfl dX1_meetWeir_107 ?_
                                          refine lv_iload_n hx hb dX1_meetWeir_110 rfl (lv_at hl 4 rfl) ?_
                                          refine lv_iconst (v := 0) hx hb dX1_meetWeir_111 (by decide) ?_
                                          refine cVv (As := [.int (nI i), .int 0]) (rest := []) (wc := (wR cA (F 7) (F 18) 41 (fun z9 => bi (qBu (uWe a (up (qWe a) i (qWe a i + imax1 (v - nI (belowA a i))))) z9)))) ⟨hx, hb, hml, hown, hts⟩ (K_X2_putk lch D cA (F 7) (F 18) 41 (fun z9 => bi (qBu (uWe a (up (qWe a) i (qWe a i + imax1 (v - nI (belowA a i))))) z9)) i 0 (fun z9 => bi (qBu (outA (uWe a (up (qWe a) i (qWe a i + imax1 (v - nI (belowA a i))))) i) z9)) H.size (by omega) (Nat.le_of_ble_eq_true rfl) (fun j _ => upd_B (v := false) j)) (cwV 2 hts gX1_meetWeir_X2_put rfl rfl rfl (by decide +kernel) ⟨Nat.le_of_ble_eq_true rfl, Nat.le_of_ble_eq_true rfl⟩) hE hP hD hS hA [7, 18] rfl rfl [F 7, F 18] (fun _ => rfl) rfl (fun (u_128 : Unit) => (wF cA F (outA (uWe a (up (qWe a) i (qWe a i + imax1 (v - nI (belowA a i))))) i) c q)) (fun _ => rfl) X0.blind (fun _ _ _ => trivial) 7 2 rfl rfl rfl hl.1 rfl rfl (Nat.le_of_ble_eq_true rfl) dX1_meetWeir_112 ⟨Nat.zero_le _, Nat.zero_le _⟩ (fun u_128 H locs h_129 hP hD hS => ?_)
                                          have e9 : metA v a i = outA (uWe a (up (qWe a) i (qWe a i + imax1 (v - nI (belowA a i))))) i := by unfold metA dryA; rw [if_pos c1, if_pos c103]
                                          have hP : va_P D vwCl (wF cA F (metA v a i) c q) H := by rw [e9]; exact hP
                                          rw [hQQ]
                                          exact W.vret hx hb hr (fun t ht hW => ⟨⟨(), rfl, trivial, by show va_P _ _ _ t.heap; rw [ht]; exact hP⟩, hS.F ht⟩) hS.2.2 dX1_meetWeir_115
                                    · skip
                                      exfalso; revert c13_3; decide
                                  · skip
                                    exfalso; revert c22_11; decide
                        · skip
                          exfalso; revert c22_7; decide
              · skip
                exfalso; revert c22_3; decide
    · skip
      have e9 : metA v a i = a := if_neg ((nlt_iff 0 v).mpr ((nlt_iff 0 v).mp c1))
      have hP : va_P D vwCl (wF cA F (metA v a i) c q) H := by rw [e9]; exact hP
      rw [hQQ]
      exact W.vret hx hb hr (fun t ht hW => ⟨⟨(), rfl, trivial, by show va_P _ _ _ t.heap; rw [ht]; exact hP⟩, hS.F ht⟩) hS.2.2 dX1_meetWeir_4
  rw [hg1, hg2] at hgoal
  exact hgoal

set_option maxHeartbeats 4000000 in
set_option maxRecDepth 100000 in
/-- useWax -/
theorem K_X1_useWax (lch : Launch) (D : va_G) (cA : ClassId) (F : Nat → Nat) (a : FSt) (c : Nat → Int32) (q : Nat → Int32) (sz : Nat) (hw1 : WFa a) : Met lch yX1_useWax wsX1_useWax ({ frames := 3, cells := 0, slots := 0, locals := 64 }) (Pr D cA [.ref (F 0)] sz (wF cA F a c q) X0) (va_Qv (fun (u : Unit) => True) (fun (u : Unit) t => va_P D vwCl (wF cA F (burnA (qN a) a) c q) t.heap) (va_A (wF cA F a c q) sz)) 0 0 (va_A (wF cA F a c q) sz) := by
  refine Met.ofW (cc := cX1_useWax) (maxL := 3) (ret := none) (by decide) rfl ?_
  intro pg ev s mi args below meth cd s₁ B hml hv
  obtain ⟨hav, hsz, hP, hE, hD, hXs⟩ := hv
  have hx := B.exec
  have hb := B.bytes
  have hr := B.returns
  have hts := atoms_spec (ws := wsX1_useWax) B.pre
  have hown : s.vm.findClass RX1 = some mi.cls := findClass_of_methodNamed B.named
  have hlocks := B.notSynchronized
  clear B
  subst hav
  subst hsz
  have hD := hD.self (sz := s.heap.size)
  generalize hAe : va_A (wF cA F a c q) s.heap.size = A at hD ⊢
  have hA : ∀ q : Nat, s.heap.size ≤ q → A q := fun q h => by rw [← hAe]; exact Or.inr h
  have hS : va_S A s.heap s.heap [] := va_S.rf
  obtain ⟨QQ, hQQ⟩ : ∃ qq9, qq9 = MQ below (va_Qv (fun (u : Unit) => True) (fun (u : Unit) t => va_P D vwCl (wF cA F (burnA (qN a) a) c q) t.heap) A) ([.ref (F 0)] : List Value).toArray s 0 0 A := ⟨_, rfl⟩
  rw [← hQQ]
  have hl := lv_entry ([.ref (F 0)]) (n := 3) (Nat.le_of_ble_eq_true rfl)
  rw [lg_entry_eq]
  generalize (lg_sl ([.ref (F 0)]) ++ List.replicate (3 - (lg_sl ([.ref (F 0)])).length) Slot.unset).toArray = ls at hl ⊢
  have hl : lv_has ls 3 [(0, .ref (F 0))] := hl
  have kf54 := hts (.fieldLink RX1 54 "LanternWeirs$Fleet" "size" "I") (by decide +kernel)
  have inX1 : ∀ w ∈ u_ws RX1 TX1 13, w ∈ wsX1_useWax := by decide +kernel
  have kf29 := hts (.fieldLink RX1 29 "LanternWeirs$Fleet" "waxes" "LLanternWeirs$Row;") (by decide +kernel)
  have kf35 := hts (.fieldLink RX1 35 "LanternWeirs$Fleet" "burning" "LLanternWeirs$Row;") (by decide +kernel)
  obtain ⟨H, locs, hP, hS, hgo⟩ : ∃ H locs, va_P D vwCl (wF cA F a c q) H ∧ va_S A s.heap H locs ∧ (H = s.heap ∧ locs = []) := ⟨_, _, hP, hS, rfl, rfl⟩
  obtain ⟨hg1, hg2⟩ := hgo
  have hgoal : W pg lch ev (headSpec wsX1_useWax ({ frames := 3, cells := 0, slots := 0, locals := 64 })).room s mi ([.ref (F 0)] : List Value).toArray below meth cd H locs 0 0 QQ (F0 mi 0 ls []) := by
    refine lv_iconst (v := 0) hx hb dX1_useWax_0 (by decide) ?_
    refine lv_istore_n (lv' := [(1, .int 0), (0, .ref (F 0))]) hx hb dX1_useWax_1 rfl hl (by decide) rfl (fun ls hl => ?_)
    have L2 : ∀ (fu2 : Nat) (i : Nat), (i ≤ qN a) → qN a - i < fu2 → ∀ (H : Heap) (locs : List Loc), va_P D vwCl (wF cA F (burnA i a) c q) H → va_D A (wF cA F (burnA i a) c q) → va_S A s.heap H locs → ∀ ls : Array Slot, lv_has ls 3 [(1, .int (nI i)), (0, .ref (F 0))] → W pg lch ev (headSpec wsX1_useWax ({ frames := 3, cells := 0, slots := 0, locals := 64 })).room s mi ([.ref (F 0)] : List Value).toArray below meth cd H locs 0 0 QQ (F0 mi 2 ls []) := by
      intro fu2
      induction fu2 with
      | zero => intro i hi hms; exact absurd hms (Nat.not_lt_zero _)
      | succ fu2 ih2 =>
        intro i hi hms2 H locs hP hD hS ls hl
        have hn := hw1.1
        have hwb := WFa_burn hw1 i
        obtain ⟨b1, b2, b3, b4, b5, b6⟩ := burn_same a i
        refine lv_iload_n hx hb dX1_useWax_2 rfl (lv_at hl 0 rfl) ?_
        refine lv_aload_n hx hb dX1_useWax_3 rfl (lv_at hl 1 rfl) ?_
        refine va_get (D := D) (ci := 1) (v := .int (nI (qN (burnA i a)))) (C := RX1) (T := TX1) (N := 13) hx hb hts inX1 hown hE.1 hP 0 rfl rfl 11 (by decide) kf54 (fun _ h9 => h9) rfl dX1_useWax_4 ?_
        refine lv_icmp_ge (tgt := 65) hx hb dX1_useWax_7 (by decide) (fun c7 => ?_) (fun c7 => ?_)
        · skip
          have c7 := (nI_leI (a := qN (burnA i a)) (b := i) (by omega) (by omega)).mp c7
          rw [b1] at c7
          have ei : i = qN a := by omega
          have hP : va_P D vwCl (wF cA F (burnA (qN a) a) c q) H := by rw [← ei]; exact hP
          rw [hQQ]
          exact W.vret hx hb hr (fun t ht hW => ⟨⟨(), rfl, trivial, by show va_P _ _ _ t.heap; rw [ht]; exact hP⟩, hS.F ht⟩) hS.2.2 dX1_useWax_65
        · skip
          have c7 := (not_congr (nI_leI (a := qN (burnA i a)) (b := i) (by omega) (by omega))).mp c7
          have hib : i < qN (burnA i a) := by omega
          obtain ⟨w1, w2, w3, w4, w5, w6, w7, w8⟩ := hwb.2 i hib
          refine lv_aload_n hx hb dX1_useWax_10 rfl (lv_at hl 1 rfl) ?_
          refine lv_iload_n hx hb dX1_useWax_11 rfl (lv_at hl 0 rfl) ?_
          refine pVi (As := [.int (nI i)]) (rest := []) (wc := (wF cA F (burnA i a) c q)) ⟨hx, hb, hml, hown, hts⟩ (K_X1_isAfloat lch D cA F (burnA i a) c q i H.size (hib) (hwb.1) (w4)) (cwV 1 hts gX1_useWax_X1_isAfloat rfl rfl rfl (by decide +kernel) ⟨Nat.le_of_ble_eq_true rfl, Nat.le_of_ble_eq_true rfl⟩) hE hP hD hS hA [0, 1, 2, 3, 4, 5, 6, 7, 8, 9, 10, 11, 12, 13, 14, 15, 16, 17, 18, 19, 20, 21, 22] rfl rfl X0.blind (fun _ _ _ => trivial) 0 1 rfl rfl rfl hl.1 rfl rfl (Nat.le_of_ble_eq_true rfl) dX1_useWax_12 ⟨Nat.zero_le _, Nat.zero_le _⟩ (fun r_1 u_2 H locs h_3 hP hS => ?_)
          subst h_3
          refine lv_if_eq (tgt := 59) hx hb dX1_useWax_15 (by decide) (fun c15 => ?_) (fun c15 => ?_)
          · skip
            have c15 := bi_0.mp c15
            refine lv_iinc (v := nI (i + 1)) (lv' := [(1, .int (nI (i + 1))), (0, .ref (F 0))]) hx hb dX1_useWax_59 hl (k := 0) rfl (nI_add i 1) (by decide) rfl (fun ls hl => ?_)
            refine lv_goto (tgt := 2) hx hb dX1_useWax_62 (by decide) ?_
            have e9 : waxA (burnA i a) i = burnA i a := if_neg (fun q => absurd q.1 (by simpa using c15))
            have hP : va_P D vwCl (wF cA F (burnA (i + 1) a) c q) H := by show va_P D vwCl (wF cA F (waxA (burnA i a) i) c q) H; rw [e9]; exact hP
            have hD : va_D A (wF cA F (burnA (i + 1) a) c q) := by show va_D A (wF cA F (waxA (burnA i a) i) c q); rw [e9]; exact hD
            exact ih2 (i + 1) (by omega) (by omega) H locs hP hD hS ls (lv_sub hl [0, 1] rfl)
          · skip
            have c15 := bi_1.mp c15
            have h0 : qSt (burnA i a) i = 0 := by simpa using c15
            refine lv_aload_n hx hb dX1_useWax_18 rfl (lv_at hl 1 rfl) ?_
            refine lv_iload_n hx hb dX1_useWax_19 rfl (lv_at hl 0 rfl) ?_
            refine pVi (As := [.int (nI i)]) (rest := []) (wc := (wF cA F (burnA i a) c q)) ⟨hx, hb, hml, hown, hts⟩ (K_X1_isBurning lch D cA F (burnA i a) c q i H.size (hib) (hwb.1)) (cwV 1 hts gX1_useWax_X1_isBurning rfl rfl rfl (by decide +kernel) ⟨Nat.le_of_ble_eq_true rfl, Nat.le_of_ble_eq_true rfl⟩) hE hP hD hS hA [0, 1, 2, 3, 4, 5, 6, 7, 8, 9, 10, 11, 12, 13, 14, 15, 16, 17, 18, 19, 20, 21, 22] rfl rfl X0.blind (fun _ _ _ => trivial) 0 1 rfl rfl rfl hl.1 rfl rfl (Nat.le_of_ble_eq_true rfl) dX1_useWax_20 ⟨Nat.zero_le _, Nat.zero_le _⟩ (fun r_4 u_5 H locs h_6 hP hS => ?_)
            subst h_6
            refine lv_if_eq (tgt := 59) hx hb dX1_useWax_23 (by decide) (fun c23 => ?_) (fun c23 => ?_)
            · skip
              have c23 := bi_0.mp c23
              refine lv_iinc (v := nI (i + 1)) (lv' := [(1, .int (nI (i + 1))), (0, .ref (F 0))]) hx hb dX1_useWax_59 hl (k := 0) rfl (nI_add i 1) (by decide) rfl (fun ls hl => ?_)
              refine lv_goto (tgt := 2) hx hb dX1_useWax_62 (by decide) ?_
              have e9 : waxA (burnA i a) i = burnA i a := if_neg (fun q => absurd q.2 (by rw [c23]; decide))
              have hP : va_P D vwCl (wF cA F (burnA (i + 1) a) c q) H := by show va_P D vwCl (wF cA F (waxA (burnA i a) i) c q) H; rw [e9]; exact hP
              have hD : va_D A (wF cA F (burnA (i + 1) a) c q) := by show va_D A (wF cA F (waxA (burnA i a) i) c q); rw [e9]; exact hD
              exact ih2 (i + 1) (by omega) (by omega) H locs hP hD hS ls (lv_sub hl [0, 1] rfl)
            · skip
              have c23 := bi_1.mp c23
              have hx0 := w8 h0 c23
              refine lv_aload_n hx hb dX1_useWax_26 rfl (lv_at hl 1 rfl) ?_
              refine va_get (D := D) (ci := 1) (v := .ref (F 5)) (C := RX1) (T := TX1) (N := 13) hx hb hts inX1 hown hE.1 hP 0 rfl rfl 4 (by decide) kf29 (fun _ h9 => h9) rfl dX1_useWax_27 ?_
              refine lv_iload_n hx hb dX1_useWax_30 rfl (lv_at hl 0 rfl) ?_
              refine pVi (As := [.int (nI i)]) (rest := []) (wc := (wR cA (F 5) (F 16) 41 (fun z9 => nI (qWx (burnA i a) z9)))) ⟨hx, hb, hml, hown, hts⟩ (K_X2_getk lch D cA (F 5) (F 16) 41 (fun z9 => nI (qWx (burnA i a) z9)) i (nI (qWx (burnA i a) i)) H.size (by have := hwb.1; omega) (Nat.le_of_ble_eq_true rfl) (rfl)) (cwV 1 hts gX1_useWax_X2_get rfl rfl rfl (by decide +kernel) ⟨Nat.le_of_ble_eq_true rfl, Nat.le_of_ble_eq_true rfl⟩) hE hP hD hS hA [5, 16] rfl rfl X0.blind (fun _ _ _ => trivial) 5 2 rfl rfl rfl hl.1 rfl rfl (Nat.le_of_ble_eq_true rfl) dX1_useWax_31 ⟨Nat.zero_le _, Nat.zero_le _⟩ (fun r_7 u_8 H locs h_9 hP hS => ?_)
              subst h_9
              refine lv_iconst (v := 1) hx hb dX1_useWax_34 (by decide) ?_
              refine lv_isub hx hb dX1_useWax_35 ?_
              refine top_i (y := nI ((qWx (burnA i a) i) - 1)) (pk_sub (a := qWx (burnA i a) i) (b := 1) (by omega)) ?_
              refine lv_istore_n (lv' := [(2, .int (nI ((qWx (burnA i a) i) - 1))), (1, .int (nI i)), (0, .ref (F 0))]) hx hb dX1_useWax_36 rfl hl (by decide) rfl (fun ls hl => ?_)
              refine lv_aload_n hx hb dX1_useWax_37 rfl (lv_at hl 2 rfl) ?_
              refine va_get (D := D) (ci := 1) (v := .ref (F 5)) (C := RX1) (T := TX1) (N := 13) hx hb hts inX1 hown hE.1 hP 0 rfl rfl 4 (by decide) kf29 (fun _ h9 => h9) rfl dX1_useWax_38 ?_
              refine lv_iload_n hx hb dX1_useWax_41 rfl (lv_at hl 1 rfl) ?_
              refine lv_iload_n hx hb dX1_useWax_42 rfl (lv_at hl 0 rfl) ?_
              refine cVv (As := [.int (nI i), .int (nI ((qWx (burnA i a) i) - 1))]) (rest := []) (wc := (wR cA (F 5) (F 16) 41 (fun z9 => nI (qWx (burnA i a) z9)))) ⟨hx, hb, hml, hown, hts⟩ (K_X2_putk lch D cA (F 5) (F 16) 41 (fun z9 => nI (qWx (burnA i a) z9)) i (nI ((qWx (burnA i a) i) - 1)) (fun z9 => nI (qWx (uWx (burnA i a) (up (qWx (burnA i a)) i (qWx (burnA i a) i - 1))) z9)) H.size (by have := hwb.1; omega) (Nat.le_of_ble_eq_true rfl) (fun j _ => upd_N j)) (cwV 2 hts gX1_useWax_X2_put rfl rfl rfl (by decide +kernel) ⟨Nat.le_of_ble_eq_true rfl, Nat.le_of_ble_eq_true rfl⟩) hE hP hD hS hA [5, 16] rfl rfl [F 5, F 16] (fun _ => rfl) rfl (fun (u_11 : Unit) => (wF cA F (uWx (burnA i a) (up (qWx (burnA i a)) i (qWx (burnA i a) i - 1))) c q)) (fun _ => rfl) X0.blind (fun _ _ _ => trivial) 5 2 rfl rfl rfl hl.1 rfl rfl (Nat.le_of_ble_eq_true rfl) dX1_useWax_43 ⟨Nat.zero_le _, Nat.zero_le _⟩ (fun u_11 H locs h_12 hP hD hS => ?_)
              refine lv_iload_n hx hb dX1_useWax_46 rfl (lv_at hl 0 rfl) ?_
              refine lv_if_gt (tgt := 59) hx hb dX1_useWax_47 (by decide) (fun c47 => ?_) (fun c47 => ?_)
              · skip
                have c47 := (nI_ltI (a := 0) (b := (qWx (burnA i a) i) - 1) (by omega) (by omega)).mp c47
                refine lv_iinc (v := nI (i + 1)) (lv' := [(1, .int (nI (i + 1))), (2, .int (nI ((qWx (burnA i a) i) - 1))), (0, .ref (F 0))]) hx hb dX1_useWax_59 hl (k := 1) rfl (nI_add i 1) (by decide) rfl (fun ls hl => ?_)
                refine lv_goto (tgt := 2) hx hb dX1_useWax_62 (by decide) ?_
                have e9 : waxA (burnA i a) i = uWx (burnA i a) (up (qWx (burnA i a)) i (qWx (burnA i a) i - 1)) := by unfold waxA; rw [if_pos ⟨h0, c23⟩, if_neg (by omega)]
                have hP : va_P D vwCl (wF cA F (burnA (i + 1) a) c q) H := by show va_P D vwCl (wF cA F (waxA (burnA i a) i) c q) H; rw [e9]; exact hP
                have hD : va_D A (wF cA F (burnA (i + 1) a) c q) := by show va_D A (wF cA F (waxA (burnA i a) i) c q); rw [e9]; exact hD
                exact ih2 (i + 1) (by omega) (by omega) H locs hP hD hS ls (lv_sub hl [0, 2] rfl)
              · skip
                have c47 := (not_congr (nI_ltI (a := 0) (b := (qWx (burnA i a) i) - 1) (by omega) (by omega))).mp c47
                refine lv_aload_n hx hb dX1_useWax_50 rfl (lv_at hl 2 rfl) ?_
                refine va_get (D := D) (ci := 1) (v := .ref (F 7)) (C := RX1) (T := TX1) (N := 13) hx hb hts inX1 hown hE.1 hP 0 rfl rfl 6 (by decide) kf35 (fun _ h9 => h9) rfl dX1_useWax_51 ?_
                refine lv_iload_n hx hb dX1_useWax_54 rfl (lv_at hl 1 rfl) ?_
                refine lv_iconst (v := 0) hx hb dX1_useWax_55 (by decide) ?_
                refine cVv (As := [.int (nI i), .int 0]) (rest := []) (wc := (wR cA (F 7) (F 18) 41 (fun z9 => bi (qBu (uWx (burnA i a) (up (qWx (burnA i a)) i (qWx (burnA i a) i - 1))) z9)))) ⟨hx, hb, hml, hown, hts⟩ (K_X2_putk lch D cA (F 7) (F 18) 41 (fun z9 => bi (qBu (uWx (burnA i a) (up (qWx (burnA i a)) i (qWx (burnA i a) i - 1))) z9)) i 0 (fun z9 => bi (qBu (outA (uWx (burnA i a) (up (qWx (burnA i a)) i (qWx (burnA i a) i - 1))) i) z9)) H.size (by have := hwb.1; omega) (Nat.le_of_ble_eq_true rfl) (fun j _ => upd_B (v := false) j)) (cwV 2 hts gX1_useWax_X2_put rfl rfl rfl (by decide +kernel) ⟨Nat.le_of_ble_eq_true rfl, Nat.le_of_ble_eq_true rfl⟩) hE hP hD hS hA [7, 18] rfl rfl [F 7, F 18] (fun _ => rfl) rfl (fun (u_14 : Unit) => (wF cA F (outA (uWx (burnA i a) (up (qWx (burnA i a)) i (qWx (burnA i a) i - 1))) i) c q)) (fun _ => rfl) X0.blind (fun _ _ _ => trivial) 7 2 rfl rfl rfl hl.1 rfl rfl (Nat.le_of_ble_eq_true rfl) dX1_useWax_56 ⟨Nat.zero_le _, Nat.zero_le _⟩ (fun u_14 H locs h_15 hP hD hS => ?_)
                refine lv_iinc (v := nI (i + 1)) (lv' := [(1, .int (nI (i + 1))), (2, .int (nI ((qWx (burnA i a) i) - 1))), (0, .ref (F 0))]) hx hb dX1_useWax_59 hl (k := 1) rfl (nI_add i 1) (by decide) rfl (fun ls hl => ?_)
                refine lv_goto (tgt := 2) hx hb dX1_useWax_62 (by decide) ?_
                have e9 : waxA (burnA i a) i = outA (uWx (burnA i a) (up (qWx (burnA i a)) i (qWx (burnA i a) i - 1))) i := by unfold waxA; rw [if_pos ⟨h0, c23⟩, if_pos (by omega)]
                have hP : va_P D vwCl (wF cA F (burnA (i + 1) a) c q) H := by show va_P D vwCl (wF cA F (waxA (burnA i a) i) c q) H; rw [e9]; exact hP
                have hD : va_D A (wF cA F (burnA (i + 1) a) c q) := by show va_D A (wF cA F (waxA (burnA i a) i) c q); rw [e9]; exact hD
                exact ih2 (i + 1) (by omega) (by omega) H locs hP hD hS ls (lv_sub hl [0, 2] rfl)
    exact L2 (qN a + 1) 0 (Nat.zero_le _) (by omega) H locs hP hD hS ls (lv_sub hl [0, 1] rfl)
  rw [hg1, hg2] at hgoal
  exact hgoal

set_option maxHeartbeats 4000000 in
set_option maxRecDepth 100000 in
/-- Fleet.copy -/
theorem K_X1_copy (lch : Launch) (D : va_G) (cA : ClassId) (F : Nat → Nat) (G : Nat → Nat) (a : FSt) (c : Nat → Int32) (q : Nat → Int32) (a2 : FSt) (c2 : Nat → Int32) (q2 : Nat → Int32) (sz : Nat)  : Met lch yX1_copy wsX1_copy ({ frames := 2, cells := 0, slots := 0, locals := 43 }) (Pr D cA [.ref (F 0), .ref (G 0)] sz ((wF cA F a c q) ++ (wF cA G a2 c2 q2)) X0) (va_Qv (fun (u : Unit) => True) (fun (u : Unit) t => va_P D vwCl ((wF cA F a2 c2 q) ++ (wF cA G a2 c2 q2)) t.heap) (va_A ((wF cA F a c q) ++ (wF cA G a2 c2 q2)) sz)) 0 0 (va_A ((wF cA F a c q) ++ (wF cA G a2 c2 q2)) sz) := by
  refine Met.ofW (cc := cX1_copy) (maxL := 2) (ret := none) (by decide) rfl ?_
  intro pg ev s mi args below meth cd s₁ B hml hv
  obtain ⟨hav, hsz, hP, hE, hD, hXs⟩ := hv
  have hx := B.exec
  have hb := B.bytes
  have hr := B.returns
  have hts := atoms_spec (ws := wsX1_copy) B.pre
  have hown : s.vm.findClass RX1 = some mi.cls := findClass_of_methodNamed B.named
  have hlocks := B.notSynchronized
  clear B
  subst hav
  subst hsz
  have hD := hD.self (sz := s.heap.size)
  generalize hAe : va_A ((wF cA F a c q) ++ (wF cA G a2 c2 q2)) s.heap.size = A at hD ⊢
  have hA : ∀ q : Nat, s.heap.size ≤ q → A q := fun q h => by rw [← hAe]; exact Or.inr h
  have hS : va_S A s.heap s.heap [] := va_S.rf
  obtain ⟨QQ, hQQ⟩ : ∃ qq9, qq9 = MQ below (va_Qv (fun (u : Unit) => True) (fun (u : Unit) t => va_P D vwCl ((wF cA F a2 c2 q) ++ (wF cA G a2 c2 q2)) t.heap) A) ([.ref (F 0), .ref (G 0)] : List Value).toArray s 0 0 A := ⟨_, rfl⟩
  rw [← hQQ]
  have hl := lv_entry ([.ref (F 0), .ref (G 0)]) (n := 2) (Nat.le_of_ble_eq_true rfl)
  rw [lg_entry_eq]
  generalize (lg_sl ([.ref (F 0), .ref (G 0)]) ++ List.replicate (2 - (lg_sl ([.ref (F 0), .ref (G 0)])).length) Slot.unset).toArray = ls at hl ⊢
  have hl : lv_has ls 2 [(0, .ref (F 0)), (1, .ref (G 0))] := hl
  have kf16 := hts (.fieldLink RX1 16 "LanternWeirs$Fleet" "frames" "LLanternWeirs$Row;") (by decide +kernel)
  have inX1 : ∀ w ∈ u_ws RX1 TX1 13, w ∈ wsX1_copy := by decide +kernel
  have kf20 := hts (.fieldLink RX1 20 "LanternWeirs$Fleet" "wishes" "LLanternWeirs$Row;") (by decide +kernel)
  have kf23 := hts (.fieldLink RX1 23 "LanternWeirs$Fleet" "lanes" "LLanternWeirs$Row;") (by decide +kernel)
  have kf26 := hts (.fieldLink RX1 26 "LanternWeirs$Fleet" "places" "LLanternWeirs$Row;") (by decide +kernel)
  have kf29 := hts (.fieldLink RX1 29 "LanternWeirs$Fleet" "waxes" "LLanternWeirs$Row;") (by decide +kernel)
  have kf32 := hts (.fieldLink RX1 32 "LanternWeirs$Fleet" "wets" "LLanternWeirs$Row;") (by decide +kernel)
  have kf35 := hts (.fieldLink RX1 35 "LanternWeirs$Fleet" "burning" "LLanternWeirs$Row;") (by decide +kernel)
  have kf38 := hts (.fieldLink RX1 38 "LanternWeirs$Fleet" "states" "LLanternWeirs$Row;") (by decide +kernel)
  have kf41 := hts (.fieldLink RX1 41 "LanternWeirs$Fleet" "ends" "LLanternWeirs$Row;") (by decide +kernel)
  have kf44 := hts (.fieldLink RX1 44 "LanternWeirs$Fleet" "crowd" "LLanternWeirs$Row;") (by decide +kernel)
  have kf54 := hts (.fieldLink RX1 54 "LanternWeirs$Fleet" "size" "I") (by decide +kernel)
  have kf58 := hts (.fieldLink RX1 58 "LanternWeirs$Fleet" "minute" "I") (by decide +kernel)
  obtain ⟨H, locs, hP, hS, hgo⟩ : ∃ H locs, va_P D vwCl ((wF cA F a c q) ++ (wF cA G a2 c2 q2)) H ∧ va_S A s.heap H locs ∧ (H = s.heap ∧ locs = []) := ⟨_, _, hP, hS, rfl, rfl⟩
  obtain ⟨hg1, hg2⟩ := hgo
  have hgoal : W pg lch ev (headSpec wsX1_copy ({ frames := 2, cells := 0, slots := 0, locals := 43 })).room s mi ([.ref (F 0), .ref (G 0)] : List Value).toArray below meth cd H locs 0 0 QQ (F0 mi 0 ls []) := by
    refine lv_aload_n hx hb dX1_copy_0 rfl (lv_at hl 0 rfl) ?_
    refine va_get (D := D) (ci := 1) (v := .ref (F 1)) (C := RX1) (T := TX1) (N := 13) hx hb hts inX1 hown hE.1 hP 0 rfl rfl 0 (by decide) kf16 (fun _ h9 => h9) rfl dX1_copy_1 ?_
    refine lv_aload_n hx hb dX1_copy_4 rfl (lv_at hl 1 rfl) ?_
    refine va_get (D := D) (ci := 1) (v := .ref (G 1)) (C := RX1) (T := TX1) (N := 13) hx hb hts inX1 hown hE.1 hP 23 rfl rfl 0 (by decide) kf16 (fun _ h9 => h9) rfl dX1_copy_5 ?_
    refine cVv (As := [.ref (G 1)]) (rest := []) (wc := ((wR cA (F 1) (F 12) 41 (fun z9 => nI (qFr a z9))) ++ (wR cA (G 1) (G 12) 41 (fun z9 => nI (qFr a2 z9))))) ⟨hx, hb, hml, hown, hts⟩ (K_X2_copy lch D cA (F 1) (F 12) 41 (fun z9 => nI (qFr a z9)) (G 1) (G 12) (fun z9 => nI (qFr a2 z9)) H.size (Nat.le_of_ble_eq_true rfl)) (cwV 1 hts gX1_copy_X2_copy rfl rfl rfl (by decide +kernel) ⟨Nat.le_of_ble_eq_true rfl, Nat.le_of_ble_eq_true rfl⟩) hE hP hD hS hA [1, 12, 24, 35] rfl rfl [F 1, F 12, G 1, G 12] (fun _ => rfl) rfl (fun (u_2 : Unit) => ((wF cA F (uFr (a) (qFr a2)) c q) ++ (wF cA G a2 c2 q2))) (fun _ => rfl) X0.blind (fun _ _ _ => trivial) 1 2 rfl rfl rfl hl.1 rfl rfl (Nat.le_of_ble_eq_true rfl) dX1_copy_8 ⟨Nat.zero_le _, Nat.zero_le _⟩ (fun u_2 H locs h_3 hP hD hS => ?_)
    refine lv_aload_n hx hb dX1_copy_11 rfl (lv_at hl 0 rfl) ?_
    refine va_get (D := D) (ci := 1) (v := .ref (F 2)) (C := RX1) (T := TX1) (N := 13) hx hb hts inX1 hown hE.1 hP 0 rfl rfl 1 (by decide) kf20 (fun _ h9 => h9) rfl dX1_copy_12 ?_
    refine lv_aload_n hx hb dX1_copy_15 rfl (lv_at hl 1 rfl) ?_
    refine va_get (D := D) (ci := 1) (v := .ref (G 2)) (C := RX1) (T := TX1) (N := 13) hx hb hts inX1 hown hE.1 hP 23 rfl rfl 1 (by decide) kf20 (fun _ h9 => h9) rfl dX1_copy_16 ?_
    refine cVv (As := [.ref (G 2)]) (rest := []) (wc := ((wR cA (F 2) (F 13) 41 (qWi (uFr (a) (qFr a2)))) ++ (wR cA (G 2) (G 13) 41 (qWi a2)))) ⟨hx, hb, hml, hown, hts⟩ (K_X2_copy lch D cA (F 2) (F 13) 41 (qWi (uFr (a) (qFr a2))) (G 2) (G 13) (qWi a2) H.size (Nat.le_of_ble_eq_true rfl)) (cwV 1 hts gX1_copy_X2_copy rfl rfl rfl (by decide +kernel) ⟨Nat.le_of_ble_eq_true rfl, Nat.le_of_ble_eq_true rfl⟩) hE hP hD hS hA [2, 13, 25, 36] rfl rfl [F 2, F 13, G 2, G 13] (fun _ => rfl) rfl (fun (u_5 : Unit) => ((wF cA F (uWi (uFr (a) (qFr a2)) (qWi a2)) c q) ++ (wF cA G a2 c2 q2))) (fun _ => rfl) X0.blind (fun _ _ _ => trivial) 2 2 rfl rfl rfl hl.1 rfl rfl (Nat.le_of_ble_eq_true rfl) dX1_copy_19 ⟨Nat.zero_le _, Nat.zero_le _⟩ (fun u_5 H locs h_6 hP hD hS => ?_)
    refine lv_aload_n hx hb dX1_copy_22 rfl (lv_at hl 0 rfl) ?_
    refine va_get (D := D) (ci := 1) (v := .ref (F 3)) (C := RX1) (T := TX1) (N := 13) hx hb hts inX1 hown hE.1 hP 0 rfl rfl 2 (by decide) kf23 (fun _ h9 => h9) rfl dX1_copy_23 ?_
    refine lv_aload_n hx hb dX1_copy_26 rfl (lv_at hl 1 rfl) ?_
    refine va_get (D := D) (ci := 1) (v := .ref (G 3)) (C := RX1) (T := TX1) (N := 13) hx hb hts inX1 hown hE.1 hP 23 rfl rfl 2 (by decide) kf23 (fun _ h9 => h9) rfl dX1_copy_27 ?_
    refine cVv (As := [.ref (G 3)]) (rest := []) (wc := ((wR cA (F 3) (F 14) 41 (fun z9 => nI (qLa (uWi (uFr (a) (qFr a2)) (qWi a2)) z9))) ++ (wR cA (G 3) (G 14) 41 (fun z9 => nI (qLa a2 z9))))) ⟨hx, hb, hml, hown, hts⟩ (K_X2_copy lch D cA (F 3) (F 14) 41 (fun z9 => nI (qLa (uWi (uFr (a) (qFr a2)) (qWi a2)) z9)) (G 3) (G 14) (fun z9 => nI (qLa a2 z9)) H.size (Nat.le_of_ble_eq_true rfl)) (cwV 1 hts gX1_copy_X2_copy rfl rfl rfl (by decide +kernel) ⟨Nat.le_of_ble_eq_true rfl, Nat.le_of_ble_eq_true rfl⟩) hE hP hD hS hA [3, 14, 26, 37] rfl rfl [F 3, F 14, G 3, G 14] (fun _ => rfl) rfl (fun (u_8 : Unit) => ((wF cA F (uLa (uWi (uFr (a) (qFr a2)) (qWi a2)) (qLa a2)) c q) ++ (wF cA G a2 c2 q2))) (fun _ => rfl) X0.blind (fun _ _ _ => trivial) 3 2 rfl rfl rfl hl.1 rfl rfl (Nat.le_of_ble_eq_true rfl) dX1_copy_30 ⟨Nat.zero_le _, Nat.zero_le _⟩ (fun u_8 H locs h_9 hP hD hS => ?_)
    refine lv_aload_n hx hb dX1_copy_33 rfl (lv_at hl 0 rfl) ?_
    refine va_get (D := D) (ci := 1) (v := .ref (F 4)) (C := RX1) (T := TX1) (N := 13) hx hb hts inX1 hown hE.1 hP 0 rfl rfl 3 (by decide) kf26 (fun _ h9 => h9) rfl dX1_copy_34 ?_
    refine lv_aload_n hx hb dX1_copy_37 rfl (lv_at hl 1 rfl) ?_
    refine va_get (D := D) (ci := 1) (v := .ref (G 4)) (C := RX1) (T := TX1) (N := 13) hx hb hts inX1 hown hE.1 hP 23 rfl rfl 3 (by decide) kf26 (fun _ h9 => h9) rfl dX1_copy_38 ?_
    refine cVv (As := [.ref (G 4)]) (rest := []) (wc := ((wR cA (F 4) (F 15) 41 (fun z9 => nI (qPl (uLa (uWi (uFr (a) (qFr a2)) (qWi a2)) (qLa a2)) z9))) ++ (wR cA (G 4) (G 15) 41 (fun z9 => nI (qPl a2 z9))))) ⟨hx, hb, hml, hown, hts⟩ (K_X2_copy lch D cA (F 4) (F 15) 41 (fun z9 => nI (qPl (uLa (uWi (uFr (a) (qFr a2)) (qWi a2)) (qLa a2)) z9)) (G 4) (G 15) (fun z9 => nI (qPl a2 z9)) H.size (Nat.le_of_ble_eq_true rfl)) (cwV 1 hts gX1_copy_X2_copy rfl rfl rfl (by decide +kernel) ⟨Nat.le_of_ble_eq_true rfl, Nat.le_of_ble_eq_true rfl⟩) hE hP hD hS hA [4, 15, 27, 38] rfl rfl [F 4, F 15, G 4, G 15] (fun _ => rfl) rfl (fun (u_11 : Unit) => ((wF cA F (uPl (uLa (uWi (uFr (a) (qFr a2)) (qWi a2)) (qLa a2)) (qPl a2)) c q) ++ (wF cA G a2 c2 q2))) (fun _ => rfl) X0.blind (fun _ _ _ => trivial) 4 2 rfl rfl rfl hl.1 rfl rfl (Nat.le_of_ble_eq_true rfl) dX1_copy_41 ⟨Nat.zero_le _, Nat.zero_le _⟩ (fun u_11 H locs h_12 hP hD hS => ?_)
    refine lv_aload_n hx hb dX1_copy_44 rfl (lv_at hl 0 rfl) ?_
    refine va_get (D := D) (ci := 1) (v := .ref (F 5)) (C := RX1) (T := TX1) (N := 13) hx hb hts inX1 hown hE.1 hP 0 rfl rfl 4 (by decide) kf29 (fun _ h9 => h9) rfl dX1_copy_45 ?_
    refine lv_aload_n hx hb dX1_copy_48 rfl (lv_at hl 1 rfl) ?_
    refine va_get (D := D) (ci := 1) (v := .ref (G 5)) (C := RX1) (T := TX1) (N := 13) hx hb hts inX1 hown hE.1 hP 23 rfl rfl 4 (by decide) kf29 (fun _ h9 => h9) rfl dX1_copy_49 ?_
    refine cVv (As := [.ref (G 5)]) (rest := []) (wc := ((wR cA (F 5) (F 16) 41 (fun z9 => nI (qWx (uPl (uLa (uWi (uFr (a) (qFr a2)) (qWi a2)) (qLa a2)) (qPl a2)) z9))) ++ (wR cA (G 5) (G 16) 41 (fun z9 => nI (qWx a2 z9))))) ⟨hx, hb, hml, hown, hts⟩ (K_X2_copy lch D cA (F 5) (F 16) 41 (fun z9 => nI (qWx (uPl (uLa (uWi (uFr (a) (qFr a2)) (qWi a2)) (qLa a2)) (qPl a2)) z9)) (G 5) (G 16) (fun z9 => nI (qWx a2 z9)) H.size (Nat.le_of_ble_eq_true rfl)) (cwV 1 hts gX1_copy_X2_copy rfl rfl rfl (by decide +kernel) ⟨Nat.le_of_ble_eq_true rfl, Nat.le_of_ble_eq_true rfl⟩) hE hP hD hS hA [5, 16, 28, 39] rfl rfl [F 5, F 16, G 5, G 16] (fun _ => rfl) rfl (fun (u_14 : Unit) => ((wF cA F (uWx (uPl (uLa (uWi (uFr (a) (qFr a2)) (qWi a2)) (qLa a2)) (qPl a2)) (qWx a2)) c q) ++ (wF cA G a2 c2 q2))) (fun _ => rfl) X0.blind (fun _ _ _ => trivial) 5 2 rfl rfl rfl hl.1 rfl rfl (Nat.le_of_ble_eq_true rfl) dX1_copy_52 ⟨Nat.zero_le _, Nat.zero_le _⟩ (fun u_14 H locs h_15 hP hD hS => ?_)
    refine lv_aload_n hx hb dX1_copy_55 rfl (lv_at hl 0 rfl) ?_
    refine va_get (D := D) (ci := 1) (v := .ref (F 6)) (C := RX1) (T := TX1) (N := 13) hx hb hts inX1 hown hE.1 hP 0 rfl rfl 5 (by decide) kf32 (fun _ h9 => h9) rfl dX1_copy_56 ?_
    refine lv_aload_n hx hb dX1_copy_59 rfl (lv_at hl 1 rfl) ?_
    refine va_get (D := D) (ci := 1) (v := .ref (G 6)) (C := RX1) (T := TX1) (N := 13) hx hb hts inX1 hown hE.1 hP 23 rfl rfl 5 (by decide) kf32 (fun _ h9 => h9) rfl dX1_copy_60 ?_
    refine cVv (As := [.ref (G 6)]) (rest := []) (wc := ((wR cA (F 6) (F 17) 41 (qWe (uWx (uPl (uLa (uWi (uFr (a) (qFr a2)) (qWi a2)) (qLa a2)) (qPl a2)) (qWx a2)))) ++ (wR cA (G 6) (G 17) 41 (qWe a2)))) ⟨hx, hb, hml, hown, hts⟩ (K_X2_copy lch D cA (F 6) (F 17) 41 (qWe (uWx (uPl (uLa (uWi (uFr (a) (qFr a2)) (qWi a2)) (qLa a2)) (qPl a2)) (qWx a2))) (G 6) (G 17) (qWe a2) H.size (Nat.le_of_ble_eq_true rfl)) (cwV 1 hts gX1_copy_X2_copy rfl rfl rfl (by decide +kernel) ⟨Nat.le_of_ble_eq_true rfl, Nat.le_of_ble_eq_true rfl⟩) hE hP hD hS hA [6, 17, 29, 40] rfl rfl [F 6, F 17, G 6, G 17] (fun _ => rfl) rfl (fun (u_17 : Unit) => ((wF cA F (uWe (uWx (uPl (uLa (uWi (uFr (a) (qFr a2)) (qWi a2)) (qLa a2)) (qPl a2)) (qWx a2)) (qWe a2)) c q) ++ (wF cA G a2 c2 q2))) (fun _ => rfl) X0.blind (fun _ _ _ => trivial) 6 2 rfl rfl rfl hl.1 rfl rfl (Nat.le_of_ble_eq_true rfl) dX1_copy_63 ⟨Nat.zero_le _, Nat.zero_le _⟩ (fun u_17 H locs h_18 hP hD hS => ?_)
    refine lv_aload_n hx hb dX1_copy_66 rfl (lv_at hl 0 rfl) ?_
    refine va_get (D := D) (ci := 1) (v := .ref (F 7)) (C := RX1) (T := TX1) (N := 13) hx hb hts inX1 hown hE.1 hP 0 rfl rfl 6 (by decide) kf35 (fun _ h9 => h9) rfl dX1_copy_67 ?_
    refine lv_aload_n hx hb dX1_copy_70 rfl (lv_at hl 1 rfl) ?_
    refine va_get (D := D) (ci := 1) (v := .ref (G 7)) (C := RX1) (T := TX1) (N := 13) hx hb hts inX1 hown hE.1 hP 23 rfl rfl 6 (by decide) kf35 (fun _ h9 => h9) rfl dX1_copy_71 ?_
    refine cVv (As := [.ref (G 7)]) (rest := []) (wc := ((wR cA (F 7) (F 18) 41 (fun z9 => bi (qBu (uWe (uWx (uPl (uLa (uWi (uFr (a) (qFr a2)) (qWi a2)) (qLa a2)) (qPl a2)) (qWx a2)) (qWe a2)) z9))) ++ (wR cA (G 7) (G 18) 41 (fun z9 => bi (qBu a2 z9))))) ⟨hx, hb, hml, hown, hts⟩ (K_X2_copy lch D cA (F 7) (F 18) 41 (fun z9 => bi (qBu (uWe (uWx (uPl (uLa (uWi (uFr (a) (qFr a2)) (qWi a2)) (qLa a2)) (qPl a2)) (qWx a2)) (qWe a2)) z9)) (G 7) (G 18) (fun z9 => bi (qBu a2 z9)) H.size (Nat.le_of_ble_eq_true rfl)) (cwV 1 hts gX1_copy_X2_copy rfl rfl rfl (by decide +kernel) ⟨Nat.le_of_ble_eq_true rfl, Nat.le_of_ble_eq_true rfl⟩) hE hP hD hS hA [7, 18, 30, 41] rfl rfl [F 7, F 18, G 7, G 18] (fun _ => rfl) rfl (fun (u_20 : Unit) => ((wF cA F (uBu (uWe (uWx (uPl (uLa (uWi (uFr (a) (qFr a2)) (qWi a2)) (qLa a2)) (qPl a2)) (qWx a2)) (qWe a2)) (qBu a2)) c q) ++ (wF cA G a2 c2 q2))) (fun _ => rfl) X0.blind (fun _ _ _ => trivial) 7 2 rfl rfl rfl hl.1 rfl rfl (Nat.le_of_ble_eq_true rfl) dX1_copy_74 ⟨Nat.zero_le _, Nat.zero_le _⟩ (fun u_20 H locs h_21 hP hD hS => ?_)
    refine lv_aload_n hx hb dX1_copy_77 rfl (lv_at hl 0 rfl) ?_
    refine va_get (D := D) (ci := 1) (v := .ref (F 8)) (C := RX1) (T := TX1) (N := 13) hx hb hts inX1 hown hE.1 hP 0 rfl rfl 7 (by decide) kf38 (fun _ h9 => h9) rfl dX1_copy_78 ?_
    refine lv_aload_n hx hb dX1_copy_81 rfl (lv_at hl 1 rfl) ?_
    refine va_get (D := D) (ci := 1) (v := .ref (G 8)) (C := RX1) (T := TX1) (N := 13) hx hb hts inX1 hown hE.1 hP 23 rfl rfl 7 (by decide) kf38 (fun _ h9 => h9) rfl dX1_copy_82 ?_
    refine cVv (As := [.ref (G 8)]) (rest := []) (wc := ((wR cA (F 8) (F 19) 41 (fun z9 => nI (qSt (uBu (uWe (uWx (uPl (uLa (uWi (uFr (a) (qFr a2)) (qWi a2)) (qLa a2)) (qPl a2)) (qWx a2)) (qWe a2)) (qBu a2)) z9))) ++ (wR cA (G 8) (G 19) 41 (fun z9 => nI (qSt a2 z9))))) ⟨hx, hb, hml, hown, hts⟩ (K_X2_copy lch D cA (F 8) (F 19) 41 (fun z9 => nI (qSt (uBu (uWe (uWx (uPl (uLa (uWi (uFr (a) (qFr a2)) (qWi a2)) (qLa a2)) (qPl a2)) (qWx a2)) (qWe a2)) (qBu a2)) z9)) (G 8) (G 19) (fun z9 => nI (qSt a2 z9)) H.size (Nat.le_of_ble_eq_true rfl)) (cwV 1 hts gX1_copy_X2_copy rfl rfl rfl (by decide +kernel) ⟨Nat.le_of_ble_eq_true rfl, Nat.le_of_ble_eq_true rfl⟩) hE hP hD hS hA [8, 19, 31, 42] rfl rfl [F 8, F 19, G 8, G 19] (fun _ => rfl) rfl (fun (u_23 : Unit) => ((wF cA F (uSt (uBu (uWe (uWx (uPl (uLa (uWi (uFr (a) (qFr a2)) (qWi a2)) (qLa a2)) (qPl a2)) (qWx a2)) (qWe a2)) (qBu a2)) (qSt a2)) c q) ++ (wF cA G a2 c2 q2))) (fun _ => rfl) X0.blind (fun _ _ _ => trivial) 8 2 rfl rfl rfl hl.1 rfl rfl (Nat.le_of_ble_eq_true rfl) dX1_copy_85 ⟨Nat.zero_le _, Nat.zero_le _⟩ (fun u_23 H locs h_24 hP hD hS => ?_)
    refine lv_aload_n hx hb dX1_copy_88 rfl (lv_at hl 0 rfl) ?_
    refine va_get (D := D) (ci := 1) (v := .ref (F 9)) (C := RX1) (T := TX1) (N := 13) hx hb hts inX1 hown hE.1 hP 0 rfl rfl 8 (by decide) kf41 (fun _ h9 => h9) rfl dX1_copy_89 ?_
    refine lv_aload_n hx hb dX1_copy_92 rfl (lv_at hl 1 rfl) ?_
    refine va_get (D := D) (ci := 1) (v := .ref (G 9)) (C := RX1) (T := TX1) (N := 13) hx hb hts inX1 hown hE.1 hP 23 rfl rfl 8 (by decide) kf41 (fun _ h9 => h9) rfl dX1_copy_93 ?_
    refine cVv (As := [.ref (G 9)]) (rest := []) (wc := ((wR cA (F 9) (F 20) 41 (qEn (uSt (uBu (uWe (uWx (uPl (uLa (uWi (uFr (a) (qFr a2)) (qWi a2)) (qLa a2)) (qPl a2)) (qWx a2)) (qWe a2)) (qBu a2)) (qSt a2)))) ++ (wR cA (G 9) (G 20) 41 (qEn a2)))) ⟨hx, hb, hml, hown, hts⟩ (K_X2_copy lch D cA (F 9) (F 20) 41 (qEn (uSt (uBu (uWe (uWx (uPl (uLa (uWi (uFr (a) (qFr a2)) (qWi a2)) (qLa a2)) (qPl a2)) (qWx a2)) (qWe a2)) (qBu a2)) (qSt a2))) (G 9) (G 20) (qEn a2) H.size (Nat.le_of_ble_eq_true rfl)) (cwV 1 hts gX1_copy_X2_copy rfl rfl rfl (by decide +kernel) ⟨Nat.le_of_ble_eq_true rfl, Nat.le_of_ble_eq_true rfl⟩) hE hP hD hS hA [9, 20, 32, 43] rfl rfl [F 9, F 20, G 9, G 20] (fun _ => rfl) rfl (fun (u_26 : Unit) => ((wF cA F (uEn (uSt (uBu (uWe (uWx (uPl (uLa (uWi (uFr (a) (qFr a2)) (qWi a2)) (qLa a2)) (qPl a2)) (qWx a2)) (qWe a2)) (qBu a2)) (qSt a2)) (qEn a2)) c q) ++ (wF cA G a2 c2 q2))) (fun _ => rfl) X0.blind (fun _ _ _ => trivial) 9 2 rfl rfl rfl hl.1 rfl rfl (Nat.le_of_ble_eq_true rfl) dX1_copy_96 ⟨Nat.zero_le _, Nat.zero_le _⟩ (fun u_26 H locs h_27 hP hD hS => ?_)
    refine lv_aload_n hx hb dX1_copy_99 rfl (lv_at hl 0 rfl) ?_
    refine va_get (D := D) (ci := 1) (v := .ref (F 10)) (C := RX1) (T := TX1) (N := 13) hx hb hts inX1 hown hE.1 hP 0 rfl rfl 9 (by decide) kf44 (fun _ h9 => h9) rfl dX1_copy_100 ?_
    refine lv_aload_n hx hb dX1_copy_103 rfl (lv_at hl 1 rfl) ?_
    refine va_get (D := D) (ci := 1) (v := .ref (G 10)) (C := RX1) (T := TX1) (N := 13) hx hb hts inX1 hown hE.1 hP 23 rfl rfl 9 (by decide) kf44 (fun _ h9 => h9) rfl dX1_copy_104 ?_
    refine cVv (As := [.ref (G 10)]) (rest := []) (wc := ((wR cA (F 10) (F 21) 540 c) ++ (wR cA (G 10) (G 21) 540 c2))) ⟨hx, hb, hml, hown, hts⟩ (K_X2_copy lch D cA (F 10) (F 21) 540 c (G 10) (G 21) c2 H.size (Nat.le_of_ble_eq_true rfl)) (cwV 1 hts gX1_copy_X2_copy rfl rfl rfl (by decide +kernel) ⟨Nat.le_of_ble_eq_true rfl, Nat.le_of_ble_eq_true rfl⟩) hE hP hD hS hA [10, 21, 33, 44] rfl rfl [F 10, F 21, G 10, G 21] (fun _ => rfl) rfl (fun (u_29 : Unit) => ((wF cA F (uEn (uSt (uBu (uWe (uWx (uPl (uLa (uWi (uFr (a) (qFr a2)) (qWi a2)) (qLa a2)) (qPl a2)) (qWx a2)) (qWe a2)) (qBu a2)) (qSt a2)) (qEn a2)) c2 q) ++ (wF cA G a2 c2 q2))) (fun _ => rfl) X0.blind (fun _ _ _ => trivial) 10 2 rfl rfl rfl hl.1 rfl rfl (Nat.le_of_ble_eq_true rfl) dX1_copy_107 ⟨Nat.zero_le _, Nat.zero_le _⟩ (fun u_29 H locs h_30 hP hD hS => ?_)
    refine lv_aload_n hx hb dX1_copy_110 rfl (lv_at hl 0 rfl) ?_
    refine lv_aload_n hx hb dX1_copy_111 rfl (lv_at hl 1 rfl) ?_
    refine va_get (D := D) (ci := 1) (v := .int (nI (qN a2))) (C := RX1) (T := TX1) (N := 13) hx hb hts inX1 hown hE.1 hP 23 rfl rfl 11 (by decide) kf54 (fun _ h9 => h9) rfl dX1_copy_112 ?_
    refine va_put (D := D) (ci := 1) (v := .int (nI (qN a2))) (ty := .int) (C := RX1) (T := TX1) (N := 13) hx hb hts inX1 tyX1 tyX1_ok nmX1 hown hE.1 hP hD hS 0 rfl rfl 11 (by decide) kf54 (fun _ h9 => h9) rfl (by decide +kernel) rfl rfl (Nat.le_of_ble_eq_true rfl) dX1_copy_115 (fun H locs hP hD hS => ?_)
    have hP : va_P D vwCl ((wF cA F (uN (uEn (uSt (uBu (uWe (uWx (uPl (uLa (uWi (uFr (a) (qFr a2)) (qWi a2)) (qLa a2)) (qPl a2)) (qWx a2)) (qWe a2)) (qBu a2)) (qSt a2)) (qEn a2)) (qN a2)) c2 q) ++ (wF cA G a2 c2 q2)) H := hP
    have hD : va_D A ((wF cA F (uN (uEn (uSt (uBu (uWe (uWx (uPl (uLa (uWi (uFr (a) (qFr a2)) (qWi a2)) (qLa a2)) (qPl a2)) (qWx a2)) (qWe a2)) (qBu a2)) (qSt a2)) (qEn a2)) (qN a2)) c2 q) ++ (wF cA G a2 c2 q2)) := hD
    refine lv_aload_n hx hb dX1_copy_118 rfl (lv_at hl 0 rfl) ?_
    refine lv_aload_n hx hb dX1_copy_119 rfl (lv_at hl 1 rfl) ?_
    refine va_get (D := D) (ci := 1) (v := .int (qM a2)) (C := RX1) (T := TX1) (N := 13) hx hb hts inX1 hown hE.1 hP 23 rfl rfl 12 (by decide) kf58 (fun _ h9 => h9) rfl dX1_copy_120 ?_
    refine va_put (D := D) (ci := 1) (v := .int (qM a2)) (ty := .int) (C := RX1) (T := TX1) (N := 13) hx hb hts inX1 tyX1 tyX1_ok nmX1 hown hE.1 hP hD hS 0 rfl rfl 12 (by decide) kf58 (fun _ h9 => h9) rfl (by decide +kernel) rfl rfl (Nat.le_of_ble_eq_true rfl) dX1_copy_123 (fun H locs hP hD hS => ?_)
    have hP : va_P D vwCl ((wF cA F (uM (uN (uEn (uSt (uBu (uWe (uWx (uPl (uLa (uWi (uFr (a) (qFr a2)) (qWi a2)) (qLa a2)) (qPl a2)) (qWx a2)) (qWe a2)) (qBu a2)) (qSt a2)) (qEn a2)) (qN a2)) (qM a2)) c2 q) ++ (wF cA G a2 c2 q2)) H := hP
    have hD : va_D A ((wF cA F (uM (uN (uEn (uSt (uBu (uWe (uWx (uPl (uLa (uWi (uFr (a) (qFr a2)) (qWi a2)) (qLa a2)) (qPl a2)) (qWx a2)) (qWe a2)) (qBu a2)) (qSt a2)) (qEn a2)) (qN a2)) (qM a2)) c2 q) ++ (wF cA G a2 c2 q2)) := hD
    have hP : va_P D vwCl ((wF cA F a2 c2 q) ++ (wF cA G a2 c2 q2)) H := hP
    rw [hQQ]
    exact W.vret hx hb hr (fun t ht hW => ⟨⟨(), rfl, trivial, by show va_P _ _ _ t.heap; rw [ht]; exact hP⟩, hS.F ht⟩) hS.2.2 dX1_copy_126
  rw [hg1, hg2] at hgoal
  exact hgoal
