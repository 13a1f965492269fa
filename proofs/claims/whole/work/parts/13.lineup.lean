set_option maxHeartbeats 4000000 in
set_option maxRecDepth 100000 in
/-- lineUp -/
theorem K_X1_lineUp (lch : Launch) (D : va_G) (cA : ClassId) (F : Nat → Nat) (a : FSt) (c : Nat → Int32) (q : Nat → Int32) (sz : Nat) (hw1 : WFa a) : Met lch yX1_lineUp wsX1_lineUp ({ frames := 3, cells := 0, slots := 0, locals := 64 }) (Pr D cA [.ref (F 0)] sz (wF cA F a c q) X0) (va_Qi (fun (r : Int32) (u : Nat → Int32) => r = nI (ordM a) ∧ QK a u (ordF a) (ordM a)) (fun (u : Nat → Int32) t => va_P D vwCl (wF cA F a c u) t.heap) (va_A (wF cA F a c q) sz)) 0 0 (va_A (wF cA F a c q) sz) := by
  refine Met.ofW (cc := cX1_lineUp) (maxL := 6) (ret := (some .int)) (by decide) rfl ?_
  intro pg ev s mi args below meth cd s₁ B hml hv
  obtain ⟨hav, hsz, hP, hE, hD, hXs⟩ := hv
  have hx := B.exec
  have hb := B.bytes
  have hr := B.returns
  have hts := atoms_spec (ws := wsX1_lineUp) B.pre
  have hown : s.vm.findClass RX1 = some mi.cls := findClass_of_methodNamed B.named
  have hlocks := B.notSynchronized
  clear B
  subst hav
  subst hsz
  have hD := hD.self (sz := s.heap.size)
  generalize hAe : va_A (wF cA F a c q) s.heap.size = A at hD ⊢
  have hA : ∀ q : Nat, s.heap.size ≤ q → A q := fun q h => by rw [← hAe]; exact Or.inr h
  have hS : va_S A s.heap s.heap [] := va_S.rf
  obtain ⟨QQ, hQQ⟩ : ∃ qq9, qq9 = MQ below (va_Qi (fun (r : Int32) (u : Nat → Int32) => r = nI (ordM a) ∧ QK a u (ordF a) (ordM a)) (fun (u : Nat → Int32) t => va_P D vwCl (wF cA F a c u) t.heap) A) ([.ref (F 0)] : List Value).toArray s 0 0 A := ⟨_, rfl⟩
  rw [← hQQ]
  have hl := lv_entry ([.ref (F 0)]) (n := 6) (Nat.le_of_ble_eq_true rfl)
  rw [lg_entry_eq]
  generalize (lg_sl ([.ref (F 0)]) ++ List.replicate (6 - (lg_sl ([.ref (F 0)])).length) Slot.unset).toArray = ls at hl ⊢
  have hl : lv_has ls 6 [(0, .ref (F 0))] := hl
  have kf54 := hts (.fieldLink RX1 54 "LanternWeirs$Fleet" "size" "I") (by decide +kernel)
  have inX1 : ∀ w ∈ u_ws RX1 TX1 13, w ∈ wsX1_lineUp := by decide +kernel
  have kf26 := hts (.fieldLink RX1 26 "LanternWeirs$Fleet" "places" "LLanternWeirs$Row;") (by decide +kernel)
  have kf23 := hts (.fieldLink RX1 23 "LanternWeirs$Fleet" "lanes" "LLanternWeirs$Row;") (by decide +kernel)
  have kf47 := hts (.fieldLink RX1 47 "LanternWeirs$Fleet" "queue" "LLanternWeirs$Row;") (by decide +kernel)
  obtain ⟨H, locs, hP, hS, hgo⟩ : ∃ H locs, va_P D vwCl (wF cA F a c q) H ∧ va_S A s.heap H locs ∧ (H = s.heap ∧ locs = []) := ⟨_, _, hP, hS, rfl, rfl⟩
  obtain ⟨hg1, hg2⟩ := hgo
  have hgoal : W pg lch ev (headSpec wsX1_lineUp ({ frames := 3, cells := 0, slots := 0, locals := 64 })).room s mi ([.ref (F 0)] : List Value).toArray below meth cd H locs 0 0 QQ (F0 mi 0 ls []) := by
    refine lv_iconst (v := 0) hx hb dX1_lineUp_0 (by decide) ?_
    refine lv_istore_n (lv' := [(1, .int 0), (0, .ref (F 0))]) hx hb dX1_lineUp_1 rfl hl (by decide) rfl (fun ls hl => ?_)
    refine lv_iconst (v := 0) hx hb dX1_lineUp_2 (by decide) ?_
    refine lv_istore_n (lv' := [(2, .int 0), (1, .int 0), (0, .ref (F 0))]) hx hb dX1_lineUp_3 rfl hl (by decide) rfl (fun ls hl => ?_)
    have L4 : ∀ (fu4 : Nat) (i : Nat) (g : Nat → Int32), (i ≤ qN a) → (QK a g (sortN a i).2 (sortN a i).1) → qN a - i < fu4 → ∀ (H : Heap) (locs : List Loc), va_P D vwCl (wF cA F a c g) H → va_D A (wF cA F a c g) → va_S A s.heap H locs → ∀ ls : Array Slot, lv_has ls 6 [(2, .int (nI i)), (1, .int (nI ((sortN a i).1))), (0, .ref (F 0))] → W pg lch ev (headSpec wsX1_lineUp ({ frames := 3, cells := 0, slots := 0, locals := 64 })).room s mi ([.ref (F 0)] : List Value).toArray below meth cd H locs 0 0 QQ (F0 mi 4 ls []) := by
      intro fu4
      induction fu4 with
      | zero => intro i g hi hq hms; exact absurd hms (Nat.not_lt_zero _)
      | succ fu4 ih4 =>
        intro i g hi hq hms4 H locs hP hD hS ls hl
        have hn := hw1.1
        have hso := sort_ok (a := a) i
        refine lv_iload_n hx hb dX1_lineUp_4 rfl (lv_at hl 0 rfl) ?_
        refine lv_aload_n hx hb dX1_lineUp_5 rfl (lv_at hl 2 rfl) ?_
        refine va_get (D := D) (ci := 1) (v := .int (nI (qN a))) (C := RX1) (T := TX1) (N := 13) hx hb hts inX1 hown hE.1 hP 0 rfl rfl 11 (by decide) kf54 (fun _ h9 => h9) rfl dX1_lineUp_6 ?_
        refine lv_icmp_ge (tgt := 121) hx hb dX1_lineUp_9 (by decide) (fun c9 => ?_) (fun c9 => ?_)
        · skip
          have c9 := (nI_leI (a := qN a) (b := i) (by omega) (by omega)).mp c9
          refine lv_iload_n hx hb dX1_lineUp_121 rfl (lv_at hl 1 rfl) ?_
          have ei : i = qN a := by omega
          have hq : QK a g (ordF a) (ordM a) := by rw [ei] at hq; exact hq
          rw [hQQ]
          exact W.iret (v := nI ((sortN a i).1)) hx hb hr (fun t ht hW => ⟨⟨nI ((sortN a i).1), g, rfl, ⟨by rw [ei]; rfl, hq⟩, by show va_P _ _ _ t.heap; rw [ht]; exact hP⟩, hS.F ht⟩) hS.2.2 dX1_lineUp_122
        · skip
          have c9 := (not_congr (nI_leI (a := qN a) (b := i) (by omega) (by omega))).mp c9
          obtain ⟨w1, w2, w3, w4, w5, w6, w7, w8⟩ := hw1.2 i (by omega)
          refine lv_aload_n hx hb dX1_lineUp_12 rfl (lv_at hl 2 rfl) ?_
          refine lv_iload_n hx hb dX1_lineUp_13 rfl (lv_at hl 0 rfl) ?_
          refine pVi (As := [.int (nI i)]) (rest := []) (wc := (wF cA F a c g)) ⟨hx, hb, hml, hown, hts⟩ (K_X1_isAfloat lch D cA F a c g i H.size (by first | assumption | omega) (by first | assumption | omega) (by first | assumption | omega)) (cwV 1 hts gX1_lineUp_X1_isAfloat rfl rfl rfl (by decide +kernel) ⟨Nat.le_of_ble_eq_true rfl, Nat.le_of_ble_eq_true rfl⟩) hE hP hD hS hA [0, 1, 2, 3, 4, 5, 6, 7, 8, 9, 10, 11, 12, 13, 14, 15, 16, 17, 18, 19, 20, 21, 22] rfl rfl X0.blind (fun _ _ _ => trivial) 0 1 rfl rfl rfl hl.1 rfl rfl (Nat.le_of_ble_eq_true rfl) dX1_lineUp_14 ⟨Nat.zero_le _, Nat.zero_le _⟩ (fun r_1 u_2 H locs h_3 hP hS => ?_)
          subst h_3
          refine lv_if_eq (tgt := 115) hx hb dX1_lineUp_17 (by decide) (fun c17 => ?_) (fun c17 => ?_)
          · skip
            have c17 := bi_0.mp c17
            refine lv_iinc (v := nI (i + 1)) (lv' := [(2, .int (nI (i + 1))), (1, .int (nI ((sortN a i).1))), (0, .ref (F 0))]) hx hb dX1_lineUp_115 hl (k := 0) rfl (nI_add i 1) (by decide) rfl (fun ls hl => ?_)
            refine lv_goto (tgt := 4) hx hb dX1_lineUp_118 (by decide) ?_
            have e9 := sort_out (a := a) (i := i) (by simpa using c17)
            rw [← e9] at hl hq
            exact ih4 (i + 1) g (by omega) (hq) (by omega) H locs hP hD hS ls (lv_sub hl [0, 1, 2] rfl)
          · skip
            have c17 := bi_1.mp c17
            have h0 : qSt a i = 0 := by simpa using c17
            have hpl := w5 h0
            have hks := key_small (a := a) (i := i) ⟨hpl, w2, by omega⟩
            refine lv_bipush (v := 59) hx hb dX1_lineUp_20 (by decide) ?_
            refine lv_aload_n hx hb dX1_lineUp_22 rfl (lv_at hl 2 rfl) ?_
            refine va_get (D := D) (ci := 1) (v := .ref (F 4)) (C := RX1) (T := TX1) (N := 13) hx hb hts inX1 hown hE.1 hP 0 rfl rfl 3 (by decide) kf26 (fun _ h9 => h9) rfl dX1_lineUp_23 ?_
            refine lv_iload_n hx hb dX1_lineUp_26 rfl (lv_at hl 0 rfl) ?_
            refine pVi (As := [.int (nI i)]) (rest := [.int 59]) (wc := (wR cA (F 4) (F 15) 41 (fun z9 => nI (qPl a z9)))) ⟨hx, hb, hml, hown, hts⟩ (K_X2_getk lch D cA (F 4) (F 15) 41 (fun z9 => nI (qPl a z9)) i (nI (qPl a i)) H.size (by omega) (Nat.le_of_ble_eq_true rfl) (rfl)) (cwV 1 hts gX1_lineUp_X2_get rfl rfl rfl (by decide +kernel) ⟨Nat.le_of_ble_eq_true rfl, Nat.le_of_ble_eq_true rfl⟩) hE hP hD hS hA [4, 15] rfl rfl X0.blind (fun _ _ _ => trivial) 4 2 rfl rfl rfl hl.1 rfl rfl (Nat.le_of_ble_eq_true rfl) dX1_lineUp_27 ⟨Nat.zero_le _, Nat.zero_le _⟩ (fun r_4 u_5 H locs h_6 hP hS => ?_)
            subst h_6
            refine lv_isub hx hb dX1_lineUp_30 ?_
            refine top_i (y := nI (59 - (qPl a i))) (pk_sub (a := 59) (b := qPl a i) (by omega)) ?_
            refine lv_iconst (v := 3) hx hb dX1_lineUp_31 (by decide) ?_
            refine lv_imul hx hb dX1_lineUp_32 ?_
            refine top_i (y := nI ((59 - (qPl a i)) * 3)) (pk_mul _ _) ?_
            refine lv_aload_n hx hb dX1_lineUp_33 rfl (lv_at hl 2 rfl) ?_
            refine va_get (D := D) (ci := 1) (v := .ref (F 3)) (C := RX1) (T := TX1) (N := 13) hx hb hts inX1 hown hE.1 hP 0 rfl rfl 2 (by decide) kf23 (fun _ h9 => h9) rfl dX1_lineUp_34 ?_
            refine lv_iload_n hx hb dX1_lineUp_37 rfl (lv_at hl 0 rfl) ?_
            refine pVi (As := [.int (nI i)]) (rest := [.int (nI ((59 - (qPl a i)) * 3))]) (wc := (wR cA (F 3) (F 14) 41 (fun z9 => nI (qLa a z9)))) ⟨hx, hb, hml, hown, hts⟩ (K_X2_getk lch D cA (F 3) (F 14) 41 (fun z9 => nI (qLa a z9)) i (nI (qLa a i)) H.size (by omega) (Nat.le_of_ble_eq_true rfl) (rfl)) (cwV 1 hts gX1_lineUp_X2_get rfl rfl rfl (by decide +kernel) ⟨Nat.le_of_ble_eq_true rfl, Nat.le_of_ble_eq_true rfl⟩) hE hP hD hS hA [3, 14] rfl rfl X0.blind (fun _ _ _ => trivial) 3 2 rfl rfl rfl hl.1 rfl rfl (Nat.le_of_ble_eq_true rfl) dX1_lineUp_38 ⟨Nat.zero_le _, Nat.zero_le _⟩ (fun r_7 u_8 H locs h_9 hP hS => ?_)
            subst h_9
            refine lv_iadd hx hb dX1_lineUp_41 ?_
            refine top_i (y := nI (((59 - (qPl a i)) * 3) + (qLa a i))) (nI_add _ _) ?_
            refine lv_istore_n (lv' := [(3, .int (nI (((59 - (qPl a i)) * 3) + (qLa a i)))), (2, .int (nI i)), (1, .int (nI ((sortN a i).1))), (0, .ref (F 0))]) hx hb dX1_lineUp_42 rfl hl (by decide) rfl (fun ls hl => ?_)
            refine lv_iload_n hx hb dX1_lineUp_43 rfl (lv_at hl 0 rfl) ?_
            refine lv_bipush (v := 64) hx hb dX1_lineUp_44 (by decide) ?_
            refine lv_imul hx hb dX1_lineUp_46 ?_
            refine top_i (y := nI ((((59 - (qPl a i)) * 3) + (qLa a i)) * 64)) (pk_mul _ _) ?_
            refine lv_iload_n hx hb dX1_lineUp_47 rfl (lv_at hl 1 rfl) ?_
            refine lv_iadd hx hb dX1_lineUp_48 ?_
            refine top_i (y := nI (keyA a i)) (nI_add _ _) ?_
            refine lv_istore (lv' := [(4, .int (nI (keyA a i))), (3, .int (nI (((59 - (qPl a i)) * 3) + (qLa a i)))), (2, .int (nI i)), (1, .int (nI ((sortN a i).1))), (0, .ref (F 0))]) hx hb dX1_lineUp_49 hl (by decide) rfl (fun ls hl => ?_)
            refine lv_iload_n hx hb dX1_lineUp_51 rfl (lv_at hl 3 rfl) ?_
            refine lv_istore (lv' := [(5, .int (nI ((sortN a i).1))), (4, .int (nI (keyA a i))), (3, .int (nI (((59 - (qPl a i)) * 3) + (qLa a i)))), (2, .int (nI i)), (1, .int (nI ((sortN a i).1))), (0, .ref (F 0))]) hx hb dX1_lineUp_52 hl (by decide) rfl (fun ls hl => ?_)
            have L54 : ∀ (fu54 : Nat) (t : Nat) (o : Nat → Nat) (g2 : Nat → Int32), (t ≤ (sortN a i).1) → (shiftO (aheadA a i) (sortN a i).1 (sortN a i).2 = shiftO (aheadA a i) t o) → (QH a g2 o (sortN a i).1 t i) → t < fu54 → ∀ (H : Heap) (locs : List Loc), va_P D vwCl (wF cA F a c g2) H → va_D A (wF cA F a c g2) → va_S A s.heap H locs → ∀ ls : Array Slot, lv_has ls 6 [(5, .int (nI t)), (4, .int (nI (keyA a i))), (2, .int (nI i)), (1, .int (nI ((sortN a i).1))), (0, .ref (F 0))] → W pg lch ev (headSpec wsX1_lineUp ({ frames := 3, cells := 0, slots := 0, locals := 64 })).room s mi ([.ref (F 0)] : List Value).toArray below meth cd H locs 0 0 QQ (F0 mi 54 ls []) := by
              intro fu54
              induction fu54 with
              | zero => intro t o g2 ht hs hqh hms; exact absurd hms (Nat.not_lt_zero _)
              | succ fu54 ih54 =>
                intro t o g2 ht hs hqh hms54 H locs hP hD hS ls hl
                refine lv_iload hx hb dX1_lineUp_54 (lv_at hl 0 rfl) ?_
                refine lv_if_le (tgt := 101) hx hb dX1_lineUp_56 (by decide) (fun c56 => ?_) (fun c56 => ?_)
                · skip
                  have c56 := (nI_leI (a := t) (b := 0) (by omega) (by omega)).mp c56
                  have et : t = 0 := by omega
                  have hs9 : shiftO (aheadA a i) (sortN a i).1 (sortN a i).2 = (t, o) := by rw [hs, et]; rfl
                  have hq9 := QH_end (i := i) hqh hs9
                  refine lv_aload_n hx hb dX1_lineUp_101 rfl (lv_at hl 4 rfl) ?_
                  refine va_get (D := D) (ci := 1) (v := .ref (F 11)) (C := RX1) (T := TX1) (N := 13) hx hb hts inX1 hown hE.1 hP 0 rfl rfl 10 (by decide) kf47 (fun _ h9 => h9) rfl dX1_lineUp_102 ?_
                  refine lv_iload hx hb dX1_lineUp_105 (lv_at hl 0 rfl) ?_
                  refine lv_iload hx hb dX1_lineUp_107 (lv_at hl 1 rfl) ?_
                  refine cVv (As := [.int (nI t), .int (nI (keyA a i))]) (rest := []) (wc := (wR cA (F 11) (F 22) 41 g2)) ⟨hx, hb, hml, hown, hts⟩ (K_X2_putk lch D cA (F 11) (F 22) 41 g2 t (nI (keyA a i)) (up g2 t (nI (keyA a i))) H.size (by omega) (Nat.le_of_ble_eq_true rfl) (fun j _ => upd_I j)) (cwV 2 hts gX1_lineUp_X2_put rfl rfl rfl (by decide +kernel) ⟨Nat.le_of_ble_eq_true rfl, Nat.le_of_ble_eq_true rfl⟩) hE hP hD hS hA [11, 22] rfl rfl [F 11, F 22] (fun _ => rfl) rfl (fun (u_11 : Unit) => (wF cA F a c (up g2 t (nI (keyA a i))))) (fun _ => rfl) X0.blind (fun _ _ _ => trivial) 11 2 rfl rfl rfl hl.1 rfl rfl (Nat.le_of_ble_eq_true rfl) dX1_lineUp_109 ⟨Nat.zero_le _, Nat.zero_le _⟩ (fun u_11 H locs h_12 hP hD hS => ?_)
                  refine lv_iinc (v := nI (((sortN a i).1) + 1)) (lv' := [(1, .int (nI (((sortN a i).1) + 1))), (5, .int (nI t)), (4, .int (nI (keyA a i))), (2, .int (nI i)), (0, .ref (F 0))]) hx hb dX1_lineUp_112 hl (k := 3) rfl (nI_add ((sortN a i).1) 1) (by decide) rfl (fun ls hl => ?_)
                  refine lv_iinc (v := nI (i + 1)) (lv' := [(2, .int (nI (i + 1))), (1, .int (nI (((sortN a i).1) + 1))), (5, .int (nI t)), (4, .int (nI (keyA a i))), (0, .ref (F 0))]) hx hb dX1_lineUp_115 hl (k := 3) rfl (nI_add i 1) (by decide) rfl (fun ls hl => ?_)
                  refine lv_goto (tgt := 4) hx hb dX1_lineUp_118 (by decide) ?_
                  have e9 := sort_in (a := a) (i := i) h0
                  have e1 : (sortN a i).1 + 1 = (sortN a (i + 1)).1 := by rw [e9]
                  have e2 : insO (aheadA a i) i (sortN a i).1 (sortN a i).2 = (sortN a (i + 1)).2 := by rw [e9]
                  rw [e1] at hl
                  rw [e1, e2] at hq9
                  exact ih4 (i + 1) (up g2 t (nI (keyA a i))) (by omega) (hq9) (by omega) H locs hP hD hS ls (lv_sub hl [0, 1, 4] rfl)
                · skip
                  have c56 := (not_congr (nI_leI (a := t) (b := 0) (by omega) (by omega))).mp c56
                  refine lv_aload_n hx hb dX1_lineUp_59 rfl (lv_at hl 4 rfl) ?_
                  refine va_get (D := D) (ci := 1) (v := .ref (F 11)) (C := RX1) (T := TX1) (N := 13) hx hb hts inX1 hown hE.1 hP 0 rfl rfl 10 (by decide) kf47 (fun _ h9 => h9) rfl dX1_lineUp_60 ?_
                  refine lv_iload hx hb dX1_lineUp_63 (lv_at hl 0 rfl) ?_
                  refine lv_iconst (v := 1) hx hb dX1_lineUp_65 (by decide) ?_
                  refine lv_isub hx hb dX1_lineUp_66 ?_
                  refine top_i (y := nI (t - 1)) (pk_sub (a := t) (b := 1) (by omega)) ?_
                  refine pVi (As := [.int (nI (t - 1))]) (rest := []) (wc := (wR cA (F 11) (F 22) 41 g2)) ⟨hx, hb, hml, hown, hts⟩ (K_X2_getk lch D cA (F 11) (F 22) 41 g2 (t - 1) (g2 (t - 1)) H.size (by omega) (Nat.le_of_ble_eq_true rfl) (rfl)) (cwV 1 hts gX1_lineUp_X2_get rfl rfl rfl (by decide +kernel) ⟨Nat.le_of_ble_eq_true rfl, Nat.le_of_ble_eq_true rfl⟩) hE hP hD hS hA [11, 22] rfl rfl X0.blind (fun _ _ _ => trivial) 11 2 rfl rfl rfl hl.1 rfl rfl (Nat.le_of_ble_eq_true rfl) dX1_lineUp_67 ⟨Nat.zero_le _, Nat.zero_le _⟩ (fun r_13 u_14 H locs h_15 hP hS => ?_)
                  subst h_15
                  have hv := hqh (t - 1) (by omega) (by omega)
                  have hvv := hw1.2 (o (t - 1)) (by omega)
                  have hv1 : qPl a (o (t - 1)) < 60 ∧ qLa a (o (t - 1)) < 3 ∧ o (t - 1) < 41 := ⟨hvv.2.2.2.2.1 hv.2.2, hvv.2.1, by omega⟩
                  have hk1 := key_small hv1
                  refine top_i (y := nI (keyA a (o (t - 1)))) hv.1 ?_
                  refine lv_iload hx hb dX1_lineUp_70 (lv_at hl 1 rfl) ?_
                  refine lv_icmp_le (tgt := 101) hx hb dX1_lineUp_72 (by decide) (fun c72 => ?_) (fun c72 => ?_)
                  · skip
                    have c72 := (nI_leI (a := keyA a (o (t - 1))) (b := keyA a i) (by omega) (by omega)).mp c72
                    have hna : ¬ aheadA a i (o (t - 1)) = true := fun q => absurd ((key_lt ⟨w5 h0, w2, by omega⟩ hv1).mpr q) (by omega)
                    have hst := shift_stop (P := aheadA a i) (t := t - 1) (g := o) hna
                    rw [show t - 1 + 1 = t by omega] at hst
                    rw [hst] at hs
                    have hq9 := QH_end (i := i) hqh hs
                    refine lv_aload_n hx hb dX1_lineUp_101 rfl (lv_at hl 4 rfl) ?_
                    refine va_get (D := D) (ci := 1) (v := .ref (F 11)) (C := RX1) (T := TX1) (N := 13) hx hb hts inX1 hown hE.1 hP 0 rfl rfl 10 (by decide) kf47 (fun _ h9 => h9) rfl dX1_lineUp_102 ?_
                    refine lv_iload hx hb dX1_lineUp_105 (lv_at hl 0 rfl) ?_
                    refine lv_iload hx hb dX1_lineUp_107 (lv_at hl 1 rfl) ?_
                    refine cVv (As := [.int (nI t), .int (nI (keyA a i))]) (rest := []) (wc := (wR cA (F 11) (F 22) 41 g2)) ⟨hx, hb, hml, hown, hts⟩ (K_X2_putk lch D cA (F 11) (F 22) 41 g2 t (nI (keyA a i)) (up g2 t (nI (keyA a i))) H.size (by omega) (Nat.le_of_ble_eq_true rfl) (fun j _ => upd_I j)) (cwV 2 hts gX1_lineUp_X2_put rfl rfl rfl (by decide +kernel) ⟨Nat.le_of_ble_eq_true rfl, Nat.le_of_ble_eq_true rfl⟩) hE hP hD hS hA [11, 22] rfl rfl [F 11, F 22] (fun _ => rfl) rfl (fun (u_17 : Unit) => (wF cA F a c (up g2 t (nI (keyA a i))))) (fun _ => rfl) X0.blind (fun _ _ _ => trivial) 11 2 rfl rfl rfl hl.1 rfl rfl (Nat.le_of_ble_eq_true rfl) dX1_lineUp_109 ⟨Nat.zero_le _, Nat.zero_le _⟩ (fun u_17 H locs h_18 hP hD hS => ?_)
                    refine lv_iinc (v := nI (((sortN a i).1) + 1)) (lv' := [(1, .int (nI (((sortN a i).1) + 1))), (5, .int (nI t)), (4, .int (nI (keyA a i))), (2, .int (nI i)), (0, .ref (F 0))]) hx hb dX1_lineUp_112 hl (k := 3) rfl (nI_add ((sortN a i).1) 1) (by decide) rfl (fun ls hl => ?_)
                    refine lv_iinc (v := nI (i + 1)) (lv' := [(2, .int (nI (i + 1))), (1, .int (nI (((sortN a i).1) + 1))), (5, .int (nI t)), (4, .int (nI (keyA a i))), (0, .ref (F 0))]) hx hb dX1_lineUp_115 hl (k := 3) rfl (nI_add i 1) (by decide) rfl (fun ls hl => ?_)
                    refine lv_goto (tgt := 4) hx hb dX1_lineUp_118 (by decide) ?_
                    have e9 := sort_in (a := a) (i := i) h0
                    have e1 : (sortN a i).1 + 1 = (sortN a (i + 1)).1 := by rw [e9]
                    have e2 : insO (aheadA a i) i (sortN a i).1 (sortN a i).2 = (sortN a (i + 1)).2 := by rw [e9]
                    rw [e1] at hl
                    rw [e1, e2] at hq9
                    exact ih4 (i + 1) (up g2 t (nI (keyA a i))) (by omega) (hq9) (by omega) H locs hP hD hS ls (lv_sub hl [0, 1, 4] rfl)
                  · skip
                    have c72 := (not_congr (nI_leI (a := keyA a (o (t - 1))) (b := keyA a i) (by omega) (by omega))).mp c72
                    have hah : aheadA a i (o (t - 1)) = true := (key_lt ⟨w5 h0, w2, by omega⟩ hv1).mp (by omega)
                    refine lv_aload_n hx hb dX1_lineUp_75 rfl (lv_at hl 4 rfl) ?_
                    refine va_get (D := D) (ci := 1) (v := .ref (F 11)) (C := RX1) (T := TX1) (N := 13) hx hb hts inX1 hown hE.1 hP 0 rfl rfl 10 (by decide) kf47 (fun _ h9 => h9) rfl dX1_lineUp_76 ?_
                    refine lv_iload hx hb dX1_lineUp_79 (lv_at hl 0 rfl) ?_
                    refine lv_aload_n hx hb dX1_lineUp_81 rfl (lv_at hl 4 rfl) ?_
                    refine va_get (D := D) (ci := 1) (v := .ref (F 11)) (C := RX1) (T := TX1) (N := 13) hx hb hts inX1 hown hE.1 hP 0 rfl rfl 10 (by decide) kf47 (fun _ h9 => h9) rfl dX1_lineUp_82 ?_
                    refine lv_iload hx hb dX1_lineUp_85 (lv_at hl 0 rfl) ?_
                    refine lv_iconst (v := 1) hx hb dX1_lineUp_87 (by decide) ?_
                    refine lv_isub hx hb dX1_lineUp_88 ?_
                    refine top_i (y := nI (t - 1)) (pk_sub (a := t) (b := 1) (by omega)) ?_
                    refine pVi (As := [.int (nI (t - 1))]) (rest := [.int (nI t), .ref (F 11)]) (wc := (wR cA (F 11) (F 22) 41 g2)) ⟨hx, hb, hml, hown, hts⟩ (K_X2_getk lch D cA (F 11) (F 22) 41 g2 (t - 1) (g2 (t - 1)) H.size (by omega) (Nat.le_of_ble_eq_true rfl) (rfl)) (cwV 1 hts gX1_lineUp_X2_get rfl rfl rfl (by decide +kernel) ⟨Nat.le_of_ble_eq_true rfl, Nat.le_of_ble_eq_true rfl⟩) hE hP hD hS hA [11, 22] rfl rfl X0.blind (fun _ _ _ => trivial) 11 2 rfl rfl rfl hl.1 rfl rfl (Nat.le_of_ble_eq_true rfl) dX1_lineUp_89 ⟨Nat.zero_le _, Nat.zero_le _⟩ (fun r_19 u_20 H locs h_21 hP hS => ?_)
                    subst h_21
                    refine cVv (As := [.int (nI t), .int (g2 (t - 1))]) (rest := []) (wc := (wR cA (F 11) (F 22) 41 g2)) ⟨hx, hb, hml, hown, hts⟩ (K_X2_putk lch D cA (F 11) (F 22) 41 g2 t (g2 (t - 1)) (up g2 t (g2 (t - 1))) H.size (by omega) (Nat.le_of_ble_eq_true rfl) (fun j _ => upd_I j)) (cwV 2 hts gX1_lineUp_X2_put rfl rfl rfl (by decide +kernel) ⟨Nat.le_of_ble_eq_true rfl, Nat.le_of_ble_eq_true rfl⟩) hE hP hD hS hA [11, 22] rfl rfl [F 11, F 22] (fun _ => rfl) rfl (fun (u_23 : Unit) => (wF cA F a c (up g2 t (g2 (t - 1))))) (fun _ => rfl) X0.blind (fun _ _ _ => trivial) 11 2 rfl rfl rfl hl.1 rfl rfl (Nat.le_of_ble_eq_true rfl) dX1_lineUp_92 ⟨Nat.zero_le _, Nat.zero_le _⟩ (fun u_23 H locs h_24 hP hD hS => ?_)
                    refine lv_iinc (v := nI (t - 1)) (lv' := [(5, .int (nI (t - 1))), (4, .int (nI (keyA a i))), (2, .int (nI i)), (1, .int (nI ((sortN a i).1))), (0, .ref (F 0))]) hx hb dX1_lineUp_95 hl (k := 0) rfl (dec_nI t (by omega)) (by decide) rfl (fun ls hl => ?_)
                    refine lv_goto (tgt := 54) hx hb dX1_lineUp_98 (by decide) ?_
                    have hst := shift_go (P := aheadA a i) (t := t - 1) (g := o) hah
                    rw [show t - 1 + 1 = t by omega] at hst
                    have hqs := QH_step (m := (sortN a i).1) (t := t - 1) (by omega) (by rw [show t - 1 + 1 = t by omega]; exact hqh)
                    rw [show t - 1 + 1 = t by omega] at hqs
                    exact ih54 (t - 1) (up o t (o (t - 1))) (up g2 t (g2 (t - 1))) (by omega) (hs.trans hst) (hqs) (by omega) H locs hP hD hS ls (lv_sub hl [0, 1, 2, 3, 4] rfl)
            exact L54 ((sortN a i).1 + 1) ((sortN a i).1) ((sortN a i).2) g (Nat.le_refl _) (rfl) (QH_start hq) (by omega) H locs hP hD hS ls (lv_sub hl [0, 1, 3, 4, 5] rfl)
    exact L4 (qN a + 1) 0 q (Nat.zero_le _) (fun j hj => absurd hj (Nat.not_lt_zero j)) (by omega) H locs hP hD hS ls (lv_sub hl [0, 1, 2] rfl)
  rw [hg1, hg2] at hgoal
  exact hgoal
