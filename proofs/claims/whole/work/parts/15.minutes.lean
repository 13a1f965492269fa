set_option maxHeartbeats 4000000 in
set_option maxRecDepth 100000 in
/-- passMinutes -/
theorem K_X1_passMinutes (lch : Launch) (D : va_G) (cA : ClassId) (F : Nat → Nat) (a : FSt) (c : Nat → Int32) (q : Nat → Int32) (B : Nat → Nat) (b : BSt) (m : Nat) (sz : Nat) (hw1 : WFa a) (hwb : WFb b) (hcr : CRa a c) (hm : m < 1000) : Met lch yX1_passMinutes wsX1_passMinutes ({ frames := 4, cells := 0, slots := 0, locals := 94 }) (Pr D cA [.ref (F 0), .int (nI m), .ref (B 0)] sz ((wF cA F a c q) ++ (wB cA B b)) X0) (va_Qv (fun (u : (Nat → Int32) × (Nat → Int32)) => CRa (minsA b m a) u.1) (fun (u : (Nat → Int32) × (Nat → Int32)) t => va_P D vwCl ((wF cA F (minsA b m a) u.1 u.2) ++ (wB cA B b)) t.heap) (va_A ((wF cA F a c q) ++ (wB cA B b)) sz)) 0 0 (va_A ((wF cA F a c q) ++ (wB cA B b)) sz) := by
  refine Met.ofW (cc := cX1_passMinutes) (maxL := 6) (ret := none) (by decide) rfl ?_
  intro pg ev s mi args below meth cd s₁ B hml hv
  obtain ⟨hav, hsz, hP, hE, hD, hXs⟩ := hv
  have hx := B.exec
  have hb := B.bytes
  have hr := B.returns
  have hts := atoms_spec (ws := wsX1_passMinutes) B.pre
  have hown : s.vm.findClass RX1 = some mi.cls := findClass_of_methodNamed B.named
  have hlocks := B.notSynchronized
  clear B
  subst hav
  subst hsz
  have hD := hD.self (sz := s.heap.size)
  generalize hAe : va_A ((wF cA F a c q) ++ (wB cA B b)) s.heap.size = A at hD ⊢
  have hA : ∀ q : Nat, s.heap.size ≤ q → A q := fun q h => by rw [← hAe]; exact Or.inr h
  have hS : va_S A s.heap s.heap [] := va_S.rf
  obtain ⟨QQ, hQQ⟩ : ∃ qq9, qq9 = MQ below (va_Qv (fun (u : (Nat → Int32) × (Nat → Int32)) => CRa (minsA b m a) u.1) (fun (u : (Nat → Int32) × (Nat → Int32)) t => va_P D vwCl ((wF cA F (minsA b m a) u.1 u.2) ++ (wB cA B b)) t.heap) A) ([.ref (F 0), .int (nI m), .ref (B 0)] : List Value).toArray s 0 0 A := ⟨_, rfl⟩
  rw [← hQQ]
  have hl := lv_entry ([.ref (F 0), .int (nI m), .ref (B 0)]) (n := 6) (Nat.le_of_ble_eq_true rfl)
  rw [lg_entry_eq]
  generalize (lg_sl ([.ref (F 0), .int (nI m), .ref (B 0)]) ++ List.replicate (6 - (lg_sl ([.ref (F 0), .int (nI m), .ref (B 0)])).length) Slot.unset).toArray = ls at hl ⊢
  have hl : lv_has ls 6 [(0, .ref (F 0)), (1, .int (nI m)), (2, .ref (B 0))] := hl
  have kf58 := hts (.fieldLink RX1 58 "LanternWeirs$Fleet" "minute" "I") (by decide +kernel)
  have inX1 : ∀ w ∈ u_ws RX1 TX1 13, w ∈ wsX1_passMinutes := by decide +kernel
  have kf47 := hts (.fieldLink RX1 47 "LanternWeirs$Fleet" "queue" "LLanternWeirs$Row;") (by decide +kernel)
  obtain ⟨H, locs, hP, hS, hgo⟩ : ∃ H locs, va_P D vwCl ((wF cA F a c q) ++ (wB cA B b)) H ∧ va_S A s.heap H locs ∧ (H = s.heap ∧ locs = []) := ⟨_, _, hP, hS, rfl, rfl⟩
  obtain ⟨hg1, hg2⟩ := hgo
  have hgoal : W pg lch ev (headSpec wsX1_passMinutes ({ frames := 4, cells := 0, slots := 0, locals := 94 })).room s mi ([.ref (F 0), .int (nI m), .ref (B 0)] : List Value).toArray below meth cd H locs 0 0 QQ (F0 mi 0 ls []) := by
    refine lv_iconst (v := 0) hx hb dX1_passMinutes_0 (by decide) ?_
    refine lv_istore_n (lv' := [(3, .int 0), (0, .ref (F 0)), (1, .int (nI m)), (2, .ref (B 0))]) hx hb dX1_passMinutes_1 rfl hl (by decide) rfl (fun ls hl => ?_)
    have L2 : ∀ (fu2 : Nat) (t : Nat) (c1 : Nat → Int32) (q1 : Nat → Int32), (t ≤ m) → (CRa (minsA b t a) c1) → m - t < fu2 → ∀ (H : Heap) (locs : List Loc), va_P D vwCl ((wF cA F (minsA b t a) c1 q1) ++ (wB cA B b)) H → va_D A ((wF cA F (minsA b t a) c1 q1) ++ (wB cA B b)) → va_S A s.heap H locs → ∀ ls : Array Slot, lv_has ls 6 [(3, .int (nI t)), (0, .ref (F 0)), (1, .int (nI m)), (2, .ref (B 0))] → W pg lch ev (headSpec wsX1_passMinutes ({ frames := 4, cells := 0, slots := 0, locals := 94 })).room s mi ([.ref (F 0), .int (nI m), .ref (B 0)] : List Value).toArray below meth cd H locs 0 0 QQ (F0 mi 2 ls []) := by
      intro fu2
      induction fu2 with
      | zero => intro t c1 q1 ht hc1 hms; exact absurd hms (Nat.not_lt_zero _)
      | succ fu2 ih2 =>
        intro t c1 q1 ht hc1 hms2 H locs hP hD hS ls hl
        obtain ⟨g1, g2⟩ := mins_keep (b := b) hw1 t
        have hn := hw1.1
        have hom := (ord_ok (minsA b t a)).1
        refine lv_iload_n hx hb dX1_passMinutes_2 rfl (lv_at hl 0 rfl) ?_
        refine lv_iload_n hx hb dX1_passMinutes_3 rfl (lv_at hl 2 rfl) ?_
        refine lv_icmp_ge (tgt := 66) hx hb dX1_passMinutes_4 (by decide) (fun c4 => ?_) (fun c4 => ?_)
        · skip
          have c4 := (nI_leI (a := m) (b := t) (by omega) (by omega)).mp c4
          have et : t = m := by omega
          have hP : va_P D vwCl ((wF cA F (minsA b m a) c1 q1) ++ (wB cA B b)) H := by rw [← et]; exact hP
          rw [hQQ]
          exact W.vret hx hb hr (fun t ht hW => ⟨⟨(c1, q1), rfl, by rw [← et]; exact hc1, by show va_P _ _ _ t.heap; rw [ht]; exact hP⟩, hS.F ht⟩) hS.2.2 dX1_passMinutes_66
        · skip
          have c4 := (not_congr (nI_leI (a := m) (b := t) (by omega) (by omega))).mp c4
          refine lv_aload_n hx hb dX1_passMinutes_7 rfl (lv_at hl 1 rfl) ?_
          refine cVi (wB := fun (u : Nat → Int32) => (wF cA F (minsA b t a) c1 u)) (As := []) (rest := []) (wc := (wF cA F (minsA b t a) c1 q1)) ⟨hx, hb, hml, hown, hts⟩ (K_X1_lineUp lch D cA F (minsA b t a) c1 q1 H.size (g1)) (cwV 0 hts gX1_passMinutes_X1_lineUp rfl rfl rfl (by decide +kernel) ⟨Nat.le_of_ble_eq_true rfl, Nat.le_of_ble_eq_true rfl⟩) hE hP hD hS hA [0, 1, 2, 3, 4, 5, 6, 7, 8, 9, 10, 11, 12, 13, 14, 15, 16, 17, 18, 19, 20, 21, 22] rfl rfl [F 0, F 1, F 2, F 3, F 4, F 5, F 6, F 7, F 8, F 9, F 10, F 11, F 12, F 13, F 14, F 15, F 16, F 17, F 18, F 19, F 20, F 21, F 22] (fun _ => rfl) rfl (fun (u : Nat → Int32) => ((wF cA F (minsA b t a) c1 u) ++ (wB cA B b))) (fun _ => pst_blk [] (wB cA B b) (wc := (wF cA F (minsA b t a) c1 q1)) 23 0 rfl rfl rfl rfl rfl rfl) X0.blind (fun _ _ _ => trivial) 0 1 rfl rfl rfl hl.1 rfl rfl (Nat.le_of_ble_eq_true rfl) dX1_passMinutes_8 ⟨Nat.zero_le _, Nat.zero_le _⟩ (fun r_1 u H locs hu hP hD hS => ?_)
          obtain ⟨r_1e, hu⟩ := hu
          subst r_1e
          refine lv_istore (lv' := [(4, .int (nI (ordM (minsA b t a)))), (3, .int (nI t)), (0, .ref (F 0)), (1, .int (nI m)), (2, .ref (B 0))]) hx hb dX1_passMinutes_11 hl (by decide) rfl (fun ls hl => ?_)
          refine lv_iconst (v := 0) hx hb dX1_passMinutes_13 (by decide) ?_
          refine lv_istore (lv' := [(5, .int 0), (4, .int (nI (ordM (minsA b t a)))), (3, .int (nI t)), (0, .ref (F 0)), (1, .int (nI m)), (2, .ref (B 0))]) hx hb dX1_passMinutes_14 hl (by decide) rfl (fun ls hl => ?_)
          have L16 : ∀ (fu16 : Nat) (j : Nat) (c2 : Nat → Int32), (j ≤ ordM (minsA b t a)) → (CRa (floatA b (ordF (minsA b t a)) j (minsA b t a)) c2) → ordM (minsA b t a) - j < fu16 → ∀ (H : Heap) (locs : List Loc), va_P D vwCl ((wF cA F (floatA b (ordF (minsA b t a)) j (minsA b t a)) c2 u) ++ (wB cA B b)) H → va_D A ((wF cA F (floatA b (ordF (minsA b t a)) j (minsA b t a)) c2 u) ++ (wB cA B b)) → va_S A s.heap H locs → ∀ ls : Array Slot, lv_has ls 6 [(5, .int (nI j)), (4, .int (nI (ordM (minsA b t a)))), (3, .int (nI t)), (0, .ref (F 0)), (1, .int (nI m)), (2, .ref (B 0))] → W pg lch ev (headSpec wsX1_passMinutes ({ frames := 4, cells := 0, slots := 0, locals := 94 })).room s mi ([.ref (F 0), .int (nI m), .ref (B 0)] : List Value).toArray below meth cd H locs 0 0 QQ (F0 mi 16 ls []) := by
            intro fu16
            induction fu16 with
            | zero => intro j c2 hj hc2 hms; exact absurd hms (Nat.not_lt_zero _)
            | succ fu16 ih16 =>
              intro j c2 hj hc2 hms16 H locs hP hD hS ls hl
              obtain ⟨f1, f2, f3, f4⟩ := float_keep (b := b) (o := ordF (minsA b t a)) (a := (minsA b t a)) j g1 (fun k hk => ((ord_ok (minsA b t a)).2 k (by omega)).1)
              refine lv_iload hx hb dX1_passMinutes_16 (lv_at hl 0 rfl) ?_
              refine lv_iload hx hb dX1_passMinutes_18 (lv_at hl 1 rfl) ?_
              refine lv_icmp_ge (tgt := 46) hx hb dX1_passMinutes_20 (by decide) (fun c20 => ?_) (fun c20 => ?_)
              · skip
                have c20 := (nI_leI (a := ordM (minsA b t a)) (b := j) (by omega) (by omega)).mp c20
                have ej : j = ordM (minsA b t a) := by omega
                have hc2 : CRa (floatA b (ordF (minsA b t a)) (ordM (minsA b t a)) (minsA b t a)) c2 := by rw [← ej]; exact hc2
                have f1 : WFa (floatA b (ordF (minsA b t a)) (ordM (minsA b t a)) (minsA b t a)) := by rw [← ej]; exact f1
                have f2 : qN (floatA b (ordF (minsA b t a)) (ordM (minsA b t a)) (minsA b t a)) = qN (minsA b t a) := by rw [← ej]; exact f2
                refine lv_aload_n hx hb dX1_passMinutes_46 rfl (lv_at hl 3 rfl) ?_
                rw [ej] at hP hD
                refine cVv (wB := fun (u_4 : Unit) => (wF cA F (burnA (qN (floatA b (ordF (minsA b t a)) (ordM (minsA b t a)) (minsA b t a))) (floatA b (ordF (minsA b t a)) (ordM (minsA b t a)) (minsA b t a))) c2 u)) (As := []) (rest := []) (wc := (wF cA F (floatA b (ordF (minsA b t a)) (ordM (minsA b t a)) (minsA b t a)) c2 u)) ⟨hx, hb, hml, hown, hts⟩ (K_X1_useWax lch D cA F (floatA b (ordF (minsA b t a)) (ordM (minsA b t a)) (minsA b t a)) c2 u H.size (f1)) (cwV 0 hts gX1_passMinutes_X1_useWax rfl rfl rfl (by decide +kernel) ⟨Nat.le_of_ble_eq_true rfl, Nat.le_of_ble_eq_true rfl⟩) hE hP hD hS hA [0, 1, 2, 3, 4, 5, 6, 7, 8, 9, 10, 11, 12, 13, 14, 15, 16, 17, 18, 19, 20, 21, 22] rfl rfl [F 0, F 1, F 2, F 3, F 4, F 5, F 6, F 7, F 8, F 9, F 10, F 11, F 12, F 13, F 14, F 15, F 16, F 17, F 18, F 19, F 20, F 21, F 22] (fun _ => rfl) rfl (fun (u_4 : Unit) => ((wF cA F (burnA (qN (floatA b (ordF (minsA b t a)) (ordM (minsA b t a)) (minsA b t a))) (floatA b (ordF (minsA b t a)) (ordM (minsA b t a)) (minsA b t a))) c2 u) ++ (wB cA B b))) (fun _ => pst_blk [] (wB cA B b) (wc := (wF cA F (floatA b (ordF (minsA b t a)) (ordM (minsA b t a)) (minsA b t a)) c2 u)) 23 0 rfl rfl rfl rfl rfl rfl) X0.blind (fun _ _ _ => trivial) 0 1 rfl rfl rfl hl.1 rfl rfl (Nat.le_of_ble_eq_true rfl) dX1_passMinutes_47 ⟨Nat.zero_le _, Nat.zero_le _⟩ (fun u_4 H locs h_5 hP hD hS => ?_)
                refine lv_aload_n hx hb dX1_passMinutes_50 rfl (lv_at hl 3 rfl) ?_
                refine lv_dup hx hb dX1_passMinutes_51 rfl ?_
                refine va_get (D := D) (ci := 1) (v := .int (qM (burnA (qN (floatA b (ordF (minsA b t a)) (ordM (minsA b t a)) (minsA b t a))) (floatA b (ordF (minsA b t a)) (ordM (minsA b t a)) (minsA b t a))))) (C := RX1) (T := TX1) (N := 13) hx hb hts inX1 hown hE.1 hP 0 rfl rfl 12 (by decide) kf58 (fun _ h9 => h9) rfl dX1_passMinutes_52 ?_
                refine lv_iconst (v := 1) hx hb dX1_passMinutes_55 (by decide) ?_
                refine lv_iadd hx hb dX1_passMinutes_56 ?_
                have e9 : minA b (minsA b t a) = tickA (burnA (qN (floatA b (ordF (minsA b t a)) (ordM (minsA b t a)) (minsA b t a))) (floatA b (ordF (minsA b t a)) (ordM (minsA b t a)) (minsA b t a))) := by unfold minA; rw [f2]
                refine va_put (D := D) (ci := 1) (v := .int ((qM (burnA (qN (floatA b (ordF (minsA b t a)) (ordM (minsA b t a)) (minsA b t a))) (floatA b (ordF (minsA b t a)) (ordM (minsA b t a)) (minsA b t a)))) + 1)) (ty := .int) (C := RX1) (T := TX1) (N := 13) hx hb hts inX1 tyX1 tyX1_ok nmX1 hown hE.1 hP hD hS 0 rfl rfl 12 (by decide) kf58 (fun _ h9 => h9) rfl (by decide +kernel) rfl rfl (Nat.le_of_ble_eq_true rfl) dX1_passMinutes_57 (fun H locs hP hD hS => ?_)
                have hP : va_P D vwCl ((wF cA F (tickA (burnA (qN (floatA b (ordF (minsA b t a)) (ordM (minsA b t a)) (minsA b t a))) (floatA b (ordF (minsA b t a)) (ordM (minsA b t a)) (minsA b t a)))) c2 u) ++ (wB cA B b)) H := hP
                have hD : va_D A ((wF cA F (tickA (burnA (qN (floatA b (ordF (minsA b t a)) (ordM (minsA b t a)) (minsA b t a))) (floatA b (ordF (minsA b t a)) (ordM (minsA b t a)) (minsA b t a)))) c2 u) ++ (wB cA B b)) := hD
                refine lv_iinc (v := nI (t + 1)) (lv' := [(3, .int (nI (t + 1))), (5, .int (nI j)), (4, .int (nI (ordM (minsA b t a)))), (0, .ref (F 0)), (1, .int (nI m)), (2, .ref (B 0))]) hx hb dX1_passMinutes_60 hl (k := 2) rfl (nI_add t 1) (by decide) rfl (fun ls hl => ?_)
                refine lv_goto (tgt := 2) hx hb dX1_passMinutes_63 (by decide) ?_
                have hP : va_P D vwCl ((wF cA F (minsA b (t + 1) a) c2 u) ++ (wB cA B b)) H := by show va_P D vwCl ((wF cA F (minA b (minsA b t a)) c2 u) ++ (wB cA B b)) H; rw [e9]; exact hP
                have hD : va_D A ((wF cA F (minsA b (t + 1) a) c2 u) ++ (wB cA B b)) := by show va_D A ((wF cA F (minA b (minsA b t a)) c2 u) ++ (wB cA B b)); rw [e9]; exact hD
                have hc8 : CRa (minsA b (t + 1) a) c2 := by show CRa (minA b (minsA b t a)) c2; rw [e9]; exact CRa_tick (CRa_burn hc2 _)
                exact ih2 (t + 1) c2 u (by omega) (hc8) (by omega) H locs hP hD hS ls (lv_sub hl [0, 3, 4, 5] rfl)
              · skip
                have c20 := (not_congr (nI_leI (a := ordM (minsA b t a)) (b := j) (by omega) (by omega))).mp c20
                refine lv_aload_n hx hb dX1_passMinutes_23 rfl (lv_at hl 3 rfl) ?_
                refine lv_aload_n hx hb dX1_passMinutes_24 rfl (lv_at hl 3 rfl) ?_
                refine va_get (D := D) (ci := 1) (v := .ref (F 11)) (C := RX1) (T := TX1) (N := 13) hx hb hts inX1 hown hE.1 hP 0 rfl rfl 10 (by decide) kf47 (fun _ h9 => h9) rfl dX1_passMinutes_25 ?_
                refine lv_iload hx hb dX1_passMinutes_28 (lv_at hl 0 rfl) ?_
                refine pVi (As := [.int (nI j)]) (rest := [.ref (F 0)]) (wc := (wR cA (F 11) (F 22) 41 u)) ⟨hx, hb, hml, hown, hts⟩ (K_X2_getk lch D cA (F 11) (F 22) 41 u j (u j) H.size (by omega) (Nat.le_of_ble_eq_true rfl) (rfl)) (cwV 1 hts gX1_passMinutes_X2_get rfl rfl rfl (by decide +kernel) ⟨Nat.le_of_ble_eq_true rfl, Nat.le_of_ble_eq_true rfl⟩) hE hP hD hS hA [11, 22] rfl rfl X0.blind (fun _ _ _ => trivial) 11 2 rfl rfl rfl hl.1 rfl rfl (Nat.le_of_ble_eq_true rfl) dX1_passMinutes_30 ⟨Nat.zero_le _, Nat.zero_le _⟩ (fun r_6 u_7 H locs h_8 hP hS => ?_)
                subst h_8
                have hoj := (ord_ok (minsA b t a)).2 j (by omega)
                have hvv := g1.2 (ordF (minsA b t a) j) hoj.1
                have hv1 : qPl (minsA b t a) (ordF (minsA b t a) j) < 60 ∧ qLa (minsA b t a) (ordF (minsA b t a) j) < 3 ∧ ordF (minsA b t a) j < 41 := ⟨hvv.2.2.2.2.1 hoj.2, hvv.2.1, by have := g1.1; omega⟩
                have hk1 := key_small hv1
                refine top_i (y := nI (keyA (minsA b t a) (ordF (minsA b t a) j))) (hu j (by omega)) ?_
                refine lv_bipush (v := 64) hx hb dX1_passMinutes_33 (by decide) ?_
                refine lv_irem hx hb dX1_passMinutes_35 (by decide) ?_
                refine top_i (y := nI (ordF (minsA b t a) j)) ((pk_rem (a := keyA (minsA b t a) (ordF (minsA b t a) j)) (d := 64) hk1 (by decide) (by decide)).trans (congrArg nI (key_mod hv1.2.2))) ?_
                refine lv_aload_n hx hb dX1_passMinutes_36 rfl (lv_at hl 5 rfl) ?_
                refine cVv (wB := fun (u9 : Nat → Int32) => ((wF cA F (driftA b (floatA b (ordF (minsA b t a)) j (minsA b t a)) (ordF (minsA b t a) j)) u9 u) ++ (wB cA B b))) (As := [.int (nI (ordF (minsA b t a) j)), .ref (B 0)]) (rest := []) (wc := ((wF cA F (floatA b (ordF (minsA b t a)) j (minsA b t a)) c2 u) ++ (wB cA B b))) ⟨hx, hb, hml, hown, hts⟩ (K_X1_drift lch D cA F (floatA b (ordF (minsA b t a)) j (minsA b t a)) c2 u B b (ordF (minsA b t a) j) H.size (by rw [f2]; exact hoj.1) (f1) (hwb) (hc2)) (cwV 2 hts gX1_passMinutes_X1_drift rfl rfl rfl (by decide +kernel) ⟨Nat.le_of_ble_eq_true rfl, Nat.le_of_ble_eq_true rfl⟩) hE hP hD hS hA [0, 1, 2, 3, 4, 5, 6, 7, 8, 9, 10, 11, 12, 13, 14, 15, 16, 17, 18, 19, 20, 21, 22, 23, 24, 25, 26, 27, 28, 29] rfl rfl [F 0, F 1, F 2, F 3, F 4, F 5, F 6, F 7, F 8, F 9, F 10, F 11, F 12, F 13, F 14, F 15, F 16, F 17, F 18, F 19, F 20, F 21, F 22, B 0, B 1, B 2, B 3, B 4, B 5, B 6] (fun _ => rfl) rfl (fun (u9 : Nat → Int32) => ((wF cA F (driftA b (floatA b (ordF (minsA b t a)) j (minsA b t a)) (ordF (minsA b t a) j)) u9 u) ++ (wB cA B b))) (fun _ => pst_all 30 rfl rfl rfl) X0.blind (fun _ _ _ => trivial) 0 1 rfl rfl rfl hl.1 rfl rfl (Nat.le_of_ble_eq_true rfl) dX1_passMinutes_37 ⟨Nat.zero_le _, Nat.zero_le _⟩ (fun u9 H locs h9 hP hD hS => ?_)
                refine lv_iinc (v := nI (j + 1)) (lv' := [(5, .int (nI (j + 1))), (4, .int (nI (ordM (minsA b t a)))), (3, .int (nI t)), (0, .ref (F 0)), (1, .int (nI m)), (2, .ref (B 0))]) hx hb dX1_passMinutes_40 hl (k := 0) rfl (nI_add j 1) (by decide) rfl (fun ls hl => ?_)
                refine lv_goto (tgt := 16) hx hb dX1_passMinutes_43 (by decide) ?_
                exact ih16 (j + 1) u9 (by omega) (h9) (by omega) H locs hP hD hS ls (lv_sub hl [0, 1, 2, 3, 4, 5] rfl)
          exact L16 (ordM (minsA b t a) + 1) 0 c1 (Nat.zero_le _) (hc1) (by omega) H locs hP hD hS ls (lv_sub hl [0, 1, 2, 3, 4, 5] rfl)
    exact L2 (m + 1) 0 c q (Nat.zero_le _) (hcr) (by omega) H locs hP hD hS ls (lv_sub hl [0, 1, 2, 3] rfl)
  rw [hg1, hg2] at hgoal
  exact hgoal
