set_option maxHeartbeats 4000000 in
set_option maxRecDepth 100000 in
/-- push -/
theorem K_X3_push (lch : Launch) (hlt : lch.stackTraces = false) (D : va_G) (cA : ClassId) (sa : Nat → Nat) (x : Nat) (B : Nat → Nat) (F : Nat → Nat) (G : Nat → Nat) (b : BSt) (a : FSt) (c : Nat → Int32) (q : Nat → Int32) (a2 : FSt) (c2 : Nat → Int32) (q2 : Nat → Int32) (k : Int32) (la : Int32) (sz : Nat) (hw1 : WFa a) (hcr : CRa a c) : vx_Met lch yX3_push wsX3_push ({ frames := 6, cells := 1, slots := 6, locals := 82 }) (Pr D cA [.ref x, .int k, .int la] sz (([(x, .inr (3, [.ref (B 0), .ref (F 0), .ref (G 0)]))] : va_W) ++ ((wB cA B b) ++ ((wF cA F a c q) ++ (wF cA G a2 c2 q2)))) (TX sa (va_A (([(x, .inr (3, [.ref (B 0), .ref (F 0), .ref (G 0)]))] : va_W) ++ ((wB cA B b) ++ ((wF cA F a c q) ++ (wF cA G a2 c2 q2)))) sz))) (va_Qi (fun (r : Int32) (u : Nat → Int32) => r = nI (qLa a (k).toNatClampNeg) ∧ cdPush a k la = 0 ∧ CRa (uLa a (up (qLa a) (k).toNatClampNeg (la).toNatClampNeg)) u) (fun (u : Nat → Int32) t => va_P D vwCl (([(x, .inr (3, [.ref (B 0), .ref (F 0), .ref (G 0)]))] : va_W) ++ ((wB cA B b) ++ ((wF cA F (uLa a (up (qLa a) (k).toNatClampNeg (la).toNatClampNeg)) u q) ++ (wF cA G a2 c2 q2)))) t.heap) (va_A (([(x, .inr (3, [.ref (B 0), .ref (F 0), .ref (G 0)]))] : va_W) ++ ((wB cA B b) ++ ((wF cA F a c q) ++ (wF cA G a2 c2 q2)))) sz)) (vx_X (S := Unit) (fun _ => True) (fun E _ t => (fun E => (cdPush a k la = 1 ∧ E = "java/lang/IndexOutOfBoundsException") ∨ (cdPush a k la = 2 ∧ E = "java/lang/IllegalStateException")) E ∧ va_P D vwCl (([(x, .inr (3, [.ref (B 0), .ref (F 0), .ref (G 0)]))] : va_W) ++ ((wB cA B b) ++ ((wF cA F a c q) ++ (wF cA G a2 c2 q2)))) t.heap) (va_A (([(x, .inr (3, [.ref (B 0), .ref (F 0), .ref (G 0)]))] : va_W) ++ ((wB cA B b) ++ ((wF cA F a c q) ++ (wF cA G a2 c2 q2)))) sz)) 1 6 (va_A (([(x, .inr (3, [.ref (B 0), .ref (F 0), .ref (G 0)]))] : va_W) ++ ((wB cA B b) ++ ((wF cA F a c q) ++ (wF cA G a2 c2 q2)))) sz) := by
  refine vx_ofW (cc := cX3_push) (maxL := 4) (ret := (some .int)) (by decide) rfl ?_
  intro pg ev s mi args below meth cd s₁ B hml htb hv
  obtain ⟨hav, hsz, hP, hE, hD, hXs⟩ := hv
  have hx := B.exec
  have hb := B.bytes
  have hr := B.returns
  have hts := atoms_spec (ws := wsX3_push) B.pre
  have hown : s.vm.findClass RX3 = some mi.cls := findClass_of_methodNamed B.named
  have hlocks := B.notSynchronized
  clear B
  subst hav
  subst hsz
  have hD := hD.self (sz := s.heap.size)
  generalize hAe : va_A (([(x, .inr (3, [.ref (B 0), .ref (F 0), .ref (G 0)]))] : va_W) ++ ((wB cA B b) ++ ((wF cA F a c q) ++ (wF cA G a2 c2 q2)))) s.heap.size = A at hD hXs ⊢
  have hA : ∀ q : Nat, s.heap.size ≤ q → A q := fun q h => by rw [← hAe]; exact Or.inr h
  have hS : va_S A s.heap s.heap [] := va_S.rf
  obtain ⟨QQ, hQQ⟩ : ∃ qq9, qq9 = vx_MQ below (va_Qi (fun (r : Int32) (u : Nat → Int32) => r = nI (qLa a (k).toNatClampNeg) ∧ cdPush a k la = 0 ∧ CRa (uLa a (up (qLa a) (k).toNatClampNeg (la).toNatClampNeg)) u) (fun (u : Nat → Int32) t => va_P D vwCl (([(x, .inr (3, [.ref (B 0), .ref (F 0), .ref (G 0)]))] : va_W) ++ ((wB cA B b) ++ ((wF cA F (uLa a (up (qLa a) (k).toNatClampNeg (la).toNatClampNeg)) u q) ++ (wF cA G a2 c2 q2)))) t.heap) A) (vx_X (S := Unit) (fun _ => True) (fun E _ t => (fun E => (cdPush a k la = 1 ∧ E = "java/lang/IndexOutOfBoundsException") ∨ (cdPush a k la = 2 ∧ E = "java/lang/IllegalStateException")) E ∧ va_P D vwCl (([(x, .inr (3, [.ref (B 0), .ref (F 0), .ref (G 0)]))] : va_W) ++ ((wB cA B b) ++ ((wF cA F a c q) ++ (wF cA G a2 c2 q2)))) t.heap) A) ([.ref x, .int k, .int la] : List Value).toArray s 1 6 A := ⟨_, rfl⟩
  rw [← hQQ]
  have hl := lv_entry ([.ref x, .int k, .int la]) (n := 4) (Nat.le_of_ble_eq_true rfl)
  rw [lg_entry_eq]
  generalize (lg_sl ([.ref x, .int k, .int la]) ++ List.replicate (4 - (lg_sl ([.ref x, .int k, .int la])).length) Slot.unset).toArray = ls at hl ⊢
  have hl : lv_has ls 4 [(0, .ref x), (1, .int k), (2, .int la)] := hl
  have kf19 := hts (.fieldLink RX3 19 "LanternWeirs" "fleet" "LLanternWeirs$Fleet;") (by decide +kernel)
  have inX3 : ∀ w ∈ u_ws RX3 TX3 3, w ∈ wsX3_push := by decide +kernel
  have kw2 := hts (.classLink RX3 30 "java/lang/IndexOutOfBoundsException") (by decide +kernel)
  have kw3 := hts (.initialized "java/lang/IndexOutOfBoundsException") (by decide +kernel)
  have kf129 := hts (.fieldLink RX3 129 "LanternWeirs$Fleet" "lanes" "LLanternWeirs$Row;") (by decide +kernel)
  have inX1 : ∀ w ∈ u_ws RX1 TX1 13, w ∈ wsX3_push := by decide +kernel
  have kf132 := hts (.fieldLink RX3 132 "LanternWeirs$Fleet" "places" "LLanternWeirs$Row;") (by decide +kernel)
  have kw7 := hts (.classLink RX3 71 "java/lang/IllegalStateException") (by decide +kernel)
  have kw8 := hts (.initialized "java/lang/IllegalStateException") (by decide +kernel)
  obtain ⟨H, locs, hP, hS, hg1, hg2⟩ : ∃ H locs, va_P D vwCl (([(x, .inr (3, [.ref (B 0), .ref (F 0), .ref (G 0)]))] : va_W) ++ ((wB cA B b) ++ ((wF cA F a c q) ++ (wF cA G a2 c2 q2)))) H ∧ va_S A s.heap H locs ∧ H = s.heap ∧ locs = [] := ⟨_, _, hP, hS, rfl, rfl⟩
  have hgoal : W pg lch ev (headSpec wsX3_push ({ frames := 6, cells := 1, slots := 6, locals := 82 })).room s mi ([.ref x, .int k, .int la] : List Value).toArray below meth cd H locs 0 0 QQ (F0 mi 0 ls []) := by
    have hn := hw1.1
    refine lv_aload_n hx hb dX3_push_0 rfl (lv_at hl 0 rfl) ?_
    refine va_get (D := D) (ci := 3) (v := .ref (F 0)) (C := RX3) (T := TX3) (N := 3) hx hb hts inX3 hown hE.1 hP 0 rfl rfl 1 (by decide) kf19 (fun _ h9 => h9) rfl dX3_push_1 ?_
    refine lv_iload_n hx hb dX3_push_4 rfl (lv_at hl 1 rfl) ?_
    refine pVi (As := [.int k]) (rest := []) (wc := (wF cA F a c q)) ⟨hx, hb, hml, hown, hts⟩ (K_X1_has lch D cA F a c q k H.size ) (cwV 1 hts gX3_push_X1_has rfl rfl rfl (by decide +kernel) ⟨Nat.le_of_ble_eq_true rfl, Nat.le_of_ble_eq_true rfl⟩) hE hP hD hS hA [8, 9, 10, 11, 12, 13, 14, 15, 16, 17, 18, 19, 20, 21, 22, 23, 24, 25, 26, 27, 28, 29, 30] rfl rfl X0.blind (fun _ _ _ => trivial) 8 1 rfl rfl rfl hl.1 rfl rfl (Nat.le_of_ble_eq_true rfl) dX3_push_5 ⟨Nat.zero_le _, Nat.zero_le _⟩ (fun r_1 u_2 H locs h_3 hP hS => ?_)
    subst h_3
    refine lv_if_eq (tgt := 18) hx hb dX3_push_8 (by decide) (fun c8 => ?_) (fun c8 => ?_)
    · skip
      have c8 := bi_0.mp c8
      rw [hQQ]
      exact thrI (sa := sa) (is := 122) (text := "no such lantern or lane") hx hb hlt hown kw2 kw3 (fun w h => hts w (List.mem_cons_of_mem _ (List.mem_append_left _ (List.mem_append_right _ h)))) hXs (by decide +kernel) hS hP (by rw [hml]; exact hl.1) dX3_push_18 dX3_push_21 dX3_push_22 dX3_push_24 dX3_push_27 htb (Nat.le_of_ble_eq_true rfl) (Nat.le_of_ble_eq_true rfl) (Nat.le_of_ble_eq_true rfl) (Nat.le_of_ble_eq_true rfl) hlocks (Nat.le_of_ble_eq_true rfl) (Nat.le_of_ble_eq_true rfl) (Or.inl ⟨by unfold cdPush; rw [if_pos (Or.inl (show isLan a k = false from c8))], rfl⟩)
    · skip
      have c8 := bi_1.mp c8
      refine lv_iload_n hx hb dX3_push_11 rfl (lv_at hl 2 rfl) ?_
      refine pSi (As := [.int la]) (rest := []) (wc := ([] : va_W)) ⟨hx, hb, hml, hown, hts⟩ (K_X3_isLane lch D cA la H.size ) (cwS 1 hts gX3_push_X3_isLane rfl rfl rfl (by decide +kernel) ⟨Nat.le_of_ble_eq_true rfl, Nat.le_of_ble_eq_true rfl⟩) hE hP hD hS hA [] rfl rfl X0.blind (fun _ _ _ => trivial) hl.1 rfl rfl (Nat.le_of_ble_eq_true rfl) dX3_push_12 ⟨Nat.zero_le _, Nat.zero_le _⟩ (fun r_4 u_5 H locs h_6 hP hS => ?_)
      subst h_6
      refine lv_if_ne (tgt := 28) hx hb dX3_push_15 (by decide) (fun c15 => ?_) (fun c15 => ?_)
      · skip
        have c15 := bi_1.mp c15
        obtain ⟨kn, hkn, ekn⟩ := lan_nat (a := a) (k := k) c8 hn
        subst ekn
        obtain ⟨w1, w2, w3, w4, w5, w6, w7, w8⟩ := hw1.2 kn hkn
        obtain ⟨lan, hla9, ela⟩ := isW_nat (n := 2) c15 (by decide)
        subst ela
        refine lv_aload_n hx hb dX3_push_28 rfl (lv_at hl 0 rfl) ?_
        refine va_get (D := D) (ci := 3) (v := .ref (F 0)) (C := RX3) (T := TX3) (N := 3) hx hb hts inX3 hown hE.1 hP 0 rfl rfl 1 (by decide) kf19 (fun _ h9 => h9) rfl dX3_push_29 ?_
        refine lv_iload_n hx hb dX3_push_32 rfl (lv_at hl 1 rfl) ?_
        refine pVi (As := [.int (nI kn)]) (rest := []) (wc := (wF cA F a c q)) ⟨hx, hb, hml, hown, hts⟩ (K_X1_isAfloat lch D cA F a c q kn H.size (hkn) (hn) (w4)) (cwV 1 hts gX3_push_X1_isAfloat rfl rfl rfl (by decide +kernel) ⟨Nat.le_of_ble_eq_true rfl, Nat.le_of_ble_eq_true rfl⟩) hE hP hD hS hA [8, 9, 10, 11, 12, 13, 14, 15, 16, 17, 18, 19, 20, 21, 22, 23, 24, 25, 26, 27, 28, 29, 30] rfl rfl X0.blind (fun _ _ _ => trivial) 8 1 rfl rfl rfl hl.1 rfl rfl (Nat.le_of_ble_eq_true rfl) dX3_push_33 ⟨Nat.zero_le _, Nat.zero_le _⟩ (fun r_7 u_8 H locs h_9 hP hS => ?_)
        subst h_9
        refine lv_if_ne (tgt := 49) hx hb dX3_push_36 (by decide) (fun c36 => ?_) (fun c36 => ?_)
        · skip
          have c36 := bi_1.mp c36
          refine lv_aload_n hx hb dX3_push_49 rfl (lv_at hl 0 rfl) ?_
          refine va_get (D := D) (ci := 3) (v := .ref (F 0)) (C := RX3) (T := TX3) (N := 3) hx hb hts inX3 hown hE.1 hP 0 rfl rfl 1 (by decide) kf19 (fun _ h9 => h9) rfl dX3_push_50 ?_
          refine va_get (D := D) (ci := 1) (v := .ref (F 3)) (C := RX1) (T := TX1) (N := 13) hx hb hts inX1 hown hE.1 hP 8 rfl rfl 2 (by decide) kf129 (fun _ h9 => h9) rfl dX3_push_53 ?_
          refine lv_iload_n hx hb dX3_push_56 rfl (lv_at hl 1 rfl) ?_
          refine pVi (As := [.int (nI kn)]) (rest := []) (wc := (wR cA (F 3) (F 14) 41 (fun z9 => nI (qLa a z9)))) ⟨hx, hb, hml, hown, hts⟩ (K_X2_getk lch D cA (F 3) (F 14) 41 (fun z9 => nI (qLa a z9)) kn (nI (qLa a kn)) H.size (by omega) (Nat.le_of_ble_eq_true rfl) (rfl)) (cwV 1 hts gX3_push_X2_get rfl rfl rfl (by decide +kernel) ⟨Nat.le_of_ble_eq_true rfl, Nat.le_of_ble_eq_true rfl⟩) hE hP hD hS hA [11, 22] rfl rfl X0.blind (fun _ _ _ => trivial) 11 2 rfl rfl rfl hl.1 rfl rfl (Nat.le_of_ble_eq_true rfl) dX3_push_57 ⟨Nat.zero_le _, Nat.zero_le _⟩ (fun r_10 u_11 H locs h_12 hP hS => ?_)
          subst h_12
          refine lv_istore_n (lv' := [(3, .int (nI (qLa a kn))), (0, .ref x), (1, .int (nI kn)), (2, .int (nI lan))]) hx hb dX3_push_60 rfl hl (by decide) rfl (fun ls hl => ?_)
          refine lv_aload_n hx hb dX3_push_61 rfl (lv_at hl 1 rfl) ?_
          refine va_get (D := D) (ci := 3) (v := .ref (F 0)) (C := RX3) (T := TX3) (N := 3) hx hb hts inX3 hown hE.1 hP 0 rfl rfl 1 (by decide) kf19 (fun _ h9 => h9) rfl dX3_push_62 ?_
          refine lv_iload_n hx hb dX3_push_65 rfl (lv_at hl 2 rfl) ?_
          refine lv_iload_n hx hb dX3_push_66 rfl (lv_at hl 3 rfl) ?_
          refine lv_aload_n hx hb dX3_push_67 rfl (lv_at hl 1 rfl) ?_
          refine va_get (D := D) (ci := 3) (v := .ref (F 0)) (C := RX3) (T := TX3) (N := 3) hx hb hts inX3 hown hE.1 hP 0 rfl rfl 1 (by decide) kf19 (fun _ h9 => h9) rfl dX3_push_68 ?_
          refine va_get (D := D) (ci := 1) (v := .ref (F 4)) (C := RX1) (T := TX1) (N := 13) hx hb hts inX1 hown hE.1 hP 8 rfl rfl 3 (by decide) kf132 (fun _ h9 => h9) rfl dX3_push_71 ?_
          refine lv_iload_n hx hb dX3_push_74 rfl (lv_at hl 2 rfl) ?_
          refine pVi (As := [.int (nI kn)]) (rest := [.int (nI lan), .int (nI kn), .ref (F 0)]) (wc := (wR cA (F 4) (F 15) 41 (fun z9 => nI (qPl a z9)))) ⟨hx, hb, hml, hown, hts⟩ (K_X2_getk lch D cA (F 4) (F 15) 41 (fun z9 => nI (qPl a z9)) kn (nI (qPl a kn)) H.size (by omega) (Nat.le_of_ble_eq_true rfl) (rfl)) (cwV 1 hts gX3_push_X2_get rfl rfl rfl (by decide +kernel) ⟨Nat.le_of_ble_eq_true rfl, Nat.le_of_ble_eq_true rfl⟩) hE hP hD hS hA [12, 23] rfl rfl X0.blind (fun _ _ _ => trivial) 12 2 rfl rfl rfl hl.1 rfl rfl (Nat.le_of_ble_eq_true rfl) dX3_push_75 ⟨Nat.zero_le _, Nat.zero_le _⟩ (fun r_13 u_14 H locs h_15 hP hS => ?_)
          subst h_15
          refine cVv (wB := fun (u_17 : Unit) => (wF cA F (mvA a kn lan (qPl a kn)) (cby (mvA a kn lan (qPl a kn)) (cby a c kn (-1)) kn 1) q)) (As := [.int (nI kn), .int (nI lan), .int (nI (qPl a kn))]) (rest := []) (wc := (wF cA F a c q)) ⟨hx, hb, hml, hown, hts⟩ (K_X1_moveTo lch D cA F a c q kn lan (qPl a kn) H.size (by omega) (w3) (w3)) (cwV 3 hts gX3_push_X1_moveTo rfl rfl rfl (by decide +kernel) ⟨Nat.le_of_ble_eq_true rfl, Nat.le_of_ble_eq_true rfl⟩) hE hP hD hS hA [8, 9, 10, 11, 12, 13, 14, 15, 16, 17, 18, 19, 20, 21, 22, 23, 24, 25, 26, 27, 28, 29, 30] rfl rfl [F 0, F 1, F 2, F 3, F 4, F 5, F 6, F 7, F 8, F 9, F 10, F 11, F 12, F 13, F 14, F 15, F 16, F 17, F 18, F 19, F 20, F 21, F 22] (fun _ => rfl) rfl (fun (u_17 : Unit) => (([(x, .inr (3, [.ref (B 0), .ref (F 0), .ref (G 0)]))] : va_W) ++ ((wB cA B b) ++ ((wF cA F (mvA a kn lan (qPl a kn)) (cby (mvA a kn lan (qPl a kn)) (cby a c kn (-1)) kn 1) q) ++ (wF cA G a2 c2 q2))))) (fun _ => pst_blk (([(x, .inr (3, [.ref (B 0), .ref (F 0), .ref (G 0)]))] : va_W) ++ (wB cA B b)) (wF cA G a2 c2 q2) (wc := (wF cA F a c q)) 23 8 rfl rfl rfl rfl rfl rfl) X0.blind (fun _ _ _ => trivial) 8 1 rfl rfl rfl hl.1 rfl rfl (Nat.le_of_ble_eq_true rfl) dX3_push_78 ⟨Nat.zero_le _, Nat.zero_le _⟩ (fun u_17 H locs h_18 hP hD hS => ?_)
          refine lv_iload_n hx hb dX3_push_81 rfl (lv_at hl 0 rfl) ?_
          refine W.widen (k := 1) (n := 6) (by first | exact Nat.le_of_ble_eq_true rfl | omega) (by first | exact Nat.le_of_ble_eq_true rfl | omega) ?_
          have h0 : qSt a kn = 0 := by simpa using c36
          have emv : mvA a kn lan (qPl a kn) = uLa a (up (qLa a) kn lan) := by unfold mvA; rw [up_same]; rfl
          have ewd : uLa a (up (qLa a) ((nI kn).toNatClampNeg) ((nI lan).toNatClampNeg)) = uLa a (up (qLa a) kn lan) := by rw [nI_clamp (by omega), nI_clamp (by omega)]
          have hc9 := CR_move (l := lan) (p := qPl a kn) hcr ⟨w2, w1⟩ hkn h0 (by omega)
          obtain ⟨cc9, ecc⟩ : ∃ z, z = cby (mvA a kn lan (qPl a kn)) (cby a c kn (-1)) kn 1 := ⟨_, rfl⟩
          rw [← ecc] at hP hc9
          rw [emv, ← ewd] at hP hc9
          rw [hQQ]
          refine vx_ret ?_
          exact W.iret (v := nI (qLa a kn)) hx hb hr (fun t ht hW => ⟨⟨nI (qLa a kn), cc9, rfl, ⟨by rw [nI_clamp (by omega)], by unfold cdPush; rw [if_neg (by simp [isLan, c8, c15]), nI_clamp (by omega), if_pos h0], hc9⟩, by show va_P _ _ _ t.heap; rw [ht]; exact hP⟩, hS.F ht⟩) hS.2.2 dX3_push_82
        · skip
          have c36 := bi_0.mp c36
          rw [hQQ]
          exact thrS (sa := sa) (is := 127) (text := "it is not afloat") hx hb hlt hown kw7 kw8 (fun w h => hts w (List.mem_cons_of_mem _ (List.mem_append_right _ h))) hXs (by decide +kernel) hS hP (by rw [hml]; exact hl.1) dX3_push_39 dX3_push_42 dX3_push_43 dX3_push_45 dX3_push_48 htb (Nat.le_of_ble_eq_true rfl) (Nat.le_of_ble_eq_true rfl) (Nat.le_of_ble_eq_true rfl) (Nat.le_of_ble_eq_true rfl) hlocks (Nat.le_of_ble_eq_true rfl) (Nat.le_of_ble_eq_true rfl) (Or.inr (⟨by unfold cdPush; rw [if_neg (by simp [isLan, c8, c15]), if_neg (by rw [nI_clamp (by omega)]; simpa using c36)], rfl⟩))
      · skip
        have c15 := bi_0.mp c15
        rw [hQQ]
        exact thrI (sa := sa) (is := 122) (text := "no such lantern or lane") hx hb hlt hown kw2 kw3 (fun w h => hts w (List.mem_cons_of_mem _ (List.mem_append_left _ (List.mem_append_right _ h)))) hXs (by decide +kernel) hS hP (by rw [hml]; exact hl.1) dX3_push_18 dX3_push_21 dX3_push_22 dX3_push_24 dX3_push_27 htb (Nat.le_of_ble_eq_true rfl) (Nat.le_of_ble_eq_true rfl) (Nat.le_of_ble_eq_true rfl) (Nat.le_of_ble_eq_true rfl) hlocks (Nat.le_of_ble_eq_true rfl) (Nat.le_of_ble_eq_true rfl) (Or.inl ⟨by unfold cdPush; rw [if_pos (Or.inr c15)], rfl⟩)
  rw [hg1, hg2] at hgoal
  exact hgoal

set_option maxHeartbeats 4000000 in
set_option maxRecDepth 100000 in
/-- light -/
theorem K_X3_light (lch : Launch) (hlt : lch.stackTraces = false) (D : va_G) (cA : ClassId) (sa : Nat → Nat) (x : Nat) (B : Nat → Nat) (F : Nat → Nat) (G : Nat → Nat) (b : BSt) (a : FSt) (c : Nat → Int32) (q : Nat → Int32) (a2 : FSt) (c2 : Nat → Int32) (q2 : Nat → Int32) (k : Int32) (sz : Nat) (hw1 : WFa a) : vx_Met lch yX3_light wsX3_light ({ frames := 6, cells := 1, slots := 6, locals := 85 }) (Pr D cA [.ref x, .int k] sz (([(x, .inr (3, [.ref (B 0), .ref (F 0), .ref (G 0)]))] : va_W) ++ ((wB cA B b) ++ ((wF cA F a c q) ++ (wF cA G a2 c2 q2)))) (TX sa (va_A (([(x, .inr (3, [.ref (B 0), .ref (F 0), .ref (G 0)]))] : va_W) ++ ((wB cA B b) ++ ((wF cA F a c q) ++ (wF cA G a2 c2 q2)))) sz))) (va_Qi (fun (r : Int32) (u : Unit) => r = nI (qWx a (k).toNatClampNeg) ∧ cdLight a k = 0) (fun (u : Unit) t => va_P D vwCl (([(x, .inr (3, [.ref (B 0), .ref (F 0), .ref (G 0)]))] : va_W) ++ ((wB cA B b) ++ ((wF cA F (uBu a (up (qBu a) (k).toNatClampNeg true)) c q) ++ (wF cA G a2 c2 q2)))) t.heap) (va_A (([(x, .inr (3, [.ref (B 0), .ref (F 0), .ref (G 0)]))] : va_W) ++ ((wB cA B b) ++ ((wF cA F a c q) ++ (wF cA G a2 c2 q2)))) sz)) (vx_X (S := Unit) (fun _ => True) (fun E _ t => (fun E => (cdLight a k = 1 ∧ E = "java/lang/IndexOutOfBoundsException") ∨ (cdLight a k = 2 ∧ E = "java/lang/IllegalStateException")) E ∧ va_P D vwCl (([(x, .inr (3, [.ref (B 0), .ref (F 0), .ref (G 0)]))] : va_W) ++ ((wB cA B b) ++ ((wF cA F a c q) ++ (wF cA G a2 c2 q2)))) t.heap) (va_A (([(x, .inr (3, [.ref (B 0), .ref (F 0), .ref (G 0)]))] : va_W) ++ ((wB cA B b) ++ ((wF cA F a c q) ++ (wF cA G a2 c2 q2)))) sz)) 1 6 (va_A (([(x, .inr (3, [.ref (B 0), .ref (F 0), .ref (G 0)]))] : va_W) ++ ((wB cA B b) ++ ((wF cA F a c q) ++ (wF cA G a2 c2 q2)))) sz) := by
  refine vx_ofW (cc := cX3_light) (maxL := 2) (ret := (some .int)) (by decide) rfl ?_
  intro pg ev s mi args below meth cd s₁ B hml htb hv
  obtain ⟨hav, hsz, hP, hE, hD, hXs⟩ := hv
  have hx := B.exec
  have hb := B.bytes
  have hr := B.returns
  have hts := atoms_spec (ws := wsX3_light) B.pre
  have hown : s.vm.findClass RX3 = some mi.cls := findClass_of_methodNamed B.named
  have hlocks := B.notSynchronized
  clear B
  subst hav
  subst hsz
  have hD := hD.self (sz := s.heap.size)
  generalize hAe : va_A (([(x, .inr (3, [.ref (B 0), .ref (F 0), .ref (G 0)]))] : va_W) ++ ((wB cA B b) ++ ((wF cA F a c q) ++ (wF cA G a2 c2 q2)))) s.heap.size = A at hD hXs ⊢
  have hA : ∀ q : Nat, s.heap.size ≤ q → A q := fun q h => by rw [← hAe]; exact Or.inr h
  have hS : va_S A s.heap s.heap [] := va_S.rf
  obtain ⟨QQ, hQQ⟩ : ∃ qq9, qq9 = vx_MQ below (va_Qi (fun (r : Int32) (u : Unit) => r = nI (qWx a (k).toNatClampNeg) ∧ cdLight a k = 0) (fun (u : Unit) t => va_P D vwCl (([(x, .inr (3, [.ref (B 0), .ref (F 0), .ref (G 0)]))] : va_W) ++ ((wB cA B b) ++ ((wF cA F (uBu a (up (qBu a) (k).toNatClampNeg true)) c q) ++ (wF cA G a2 c2 q2)))) t.heap) A) (vx_X (S := Unit) (fun _ => True) (fun E _ t => (fun E => (cdLight a k = 1 ∧ E = "java/lang/IndexOutOfBoundsException") ∨ (cdLight a k = 2 ∧ E = "java/lang/IllegalStateException")) E ∧ va_P D vwCl (([(x, .inr (3, [.ref (B 0), .ref (F 0), .ref (G 0)]))] : va_W) ++ ((wB cA B b) ++ ((wF cA F a c q) ++ (wF cA G a2 c2 q2)))) t.heap) A) ([.ref x, .int k] : List Value).toArray s 1 6 A := ⟨_, rfl⟩
  rw [← hQQ]
  have hl := lv_entry ([.ref x, .int k]) (n := 2) (Nat.le_of_ble_eq_true rfl)
  rw [lg_entry_eq]
  generalize (lg_sl ([.ref x, .int k]) ++ List.replicate (2 - (lg_sl ([.ref x, .int k])).length) Slot.unset).toArray = ls at hl ⊢
  have hl : lv_has ls 2 [(0, .ref x), (1, .int k)] := hl
  have kf19 := hts (.fieldLink RX3 19 "LanternWeirs" "fleet" "LLanternWeirs$Fleet;") (by decide +kernel)
  have inX3 : ∀ w ∈ u_ws RX3 TX3 3, w ∈ wsX3_light := by decide +kernel
  have kw2 := hts (.classLink RX3 71 "java/lang/IllegalStateException") (by decide +kernel)
  have kw3 := hts (.initialized "java/lang/IllegalStateException") (by decide +kernel)
  have kf146 := hts (.fieldLink RX3 146 "LanternWeirs$Fleet" "burning" "LLanternWeirs$Row;") (by decide +kernel)
  have inX1 : ∀ w ∈ u_ws RX1 TX1 13, w ∈ wsX3_light := by decide +kernel
  have kf149 := hts (.fieldLink RX3 149 "LanternWeirs$Fleet" "waxes" "LLanternWeirs$Row;") (by decide +kernel)
  have kw7 := hts (.classLink RX3 30 "java/lang/IndexOutOfBoundsException") (by decide +kernel)
  have kw8 := hts (.initialized "java/lang/IndexOutOfBoundsException") (by decide +kernel)
  obtain ⟨H, locs, hP, hS, hg1, hg2⟩ : ∃ H locs, va_P D vwCl (([(x, .inr (3, [.ref (B 0), .ref (F 0), .ref (G 0)]))] : va_W) ++ ((wB cA B b) ++ ((wF cA F a c q) ++ (wF cA G a2 c2 q2)))) H ∧ va_S A s.heap H locs ∧ H = s.heap ∧ locs = [] := ⟨_, _, hP, hS, rfl, rfl⟩
  have hgoal : W pg lch ev (headSpec wsX3_light ({ frames := 6, cells := 1, slots := 6, locals := 85 })).room s mi ([.ref x, .int k] : List Value).toArray below meth cd H locs 0 0 QQ (F0 mi 0 ls []) := by
    have hn := hw1.1
    refine lv_aload_n hx hb dX3_light_0 rfl (lv_at hl 0 rfl) ?_
    refine va_get (D := D) (ci := 3) (v := .ref (F 0)) (C := RX3) (T := TX3) (N := 3) hx hb hts inX3 hown hE.1 hP 0 rfl rfl 1 (by decide) kf19 (fun _ h9 => h9) rfl dX3_light_1 ?_
    refine lv_iload_n hx hb dX3_light_4 rfl (lv_at hl 1 rfl) ?_
    refine pVi (As := [.int k]) (rest := []) (wc := (wF cA F a c q)) ⟨hx, hb, hml, hown, hts⟩ (K_X1_has lch D cA F a c q k H.size ) (cwV 1 hts gX3_light_X1_has rfl rfl rfl (by decide +kernel) ⟨Nat.le_of_ble_eq_true rfl, Nat.le_of_ble_eq_true rfl⟩) hE hP hD hS hA [8, 9, 10, 11, 12, 13, 14, 15, 16, 17, 18, 19, 20, 21, 22, 23, 24, 25, 26, 27, 28, 29, 30] rfl rfl X0.blind (fun _ _ _ => trivial) 8 1 rfl rfl rfl hl.1 rfl rfl (Nat.le_of_ble_eq_true rfl) dX3_light_5 ⟨Nat.zero_le _, Nat.zero_le _⟩ (fun r_1 u_2 H locs h_3 hP hS => ?_)
    subst h_3
    refine lv_if_ne (tgt := 21) hx hb dX3_light_8 (by decide) (fun c8 => ?_) (fun c8 => ?_)
    · skip
      have c8 := bi_1.mp c8
      obtain ⟨kn, hkn, ekn⟩ := lan_nat (a := a) (k := k) c8 hn
      subst ekn
      obtain ⟨w1, w2, w3, w4, w5, w6, w7, w8⟩ := hw1.2 kn hkn
      refine lv_aload_n hx hb dX3_light_21 rfl (lv_at hl 0 rfl) ?_
      refine va_get (D := D) (ci := 3) (v := .ref (F 0)) (C := RX3) (T := TX3) (N := 3) hx hb hts inX3 hown hE.1 hP 0 rfl rfl 1 (by decide) kf19 (fun _ h9 => h9) rfl dX3_light_22 ?_
      refine lv_iload_n hx hb dX3_light_25 rfl (lv_at hl 1 rfl) ?_
      refine pVi (As := [.int (nI kn)]) (rest := []) (wc := (wF cA F a c q)) ⟨hx, hb, hml, hown, hts⟩ (K_X1_isAfloat lch D cA F a c q kn H.size (hkn) (hn) (w4)) (cwV 1 hts gX3_light_X1_isAfloat rfl rfl rfl (by decide +kernel) ⟨Nat.le_of_ble_eq_true rfl, Nat.le_of_ble_eq_true rfl⟩) hE hP hD hS hA [8, 9, 10, 11, 12, 13, 14, 15, 16, 17, 18, 19, 20, 21, 22, 23, 24, 25, 26, 27, 28, 29, 30] rfl rfl X0.blind (fun _ _ _ => trivial) 8 1 rfl rfl rfl hl.1 rfl rfl (Nat.le_of_ble_eq_true rfl) dX3_light_26 ⟨Nat.zero_le _, Nat.zero_le _⟩ (fun r_4 u_5 H locs h_6 hP hS => ?_)
      subst h_6
      refine lv_if_eq (tgt := 43) hx hb dX3_light_29 (by decide) (fun c29 => ?_) (fun c29 => ?_)
      · skip
        have c29 := bi_0.mp c29
        rw [hQQ]
        exact thrS (sa := sa) (is := 144) (text := "it can't be lit") hx hb hlt hown kw2 kw3 (fun w h => hts w (List.mem_cons_of_mem _ (List.mem_append_right _ h))) hXs (by decide +kernel) hS hP (by rw [hml]; exact hl.1) dX3_light_43 dX3_light_46 dX3_light_47 dX3_light_49 dX3_light_52 htb (Nat.le_of_ble_eq_true rfl) (Nat.le_of_ble_eq_true rfl) (Nat.le_of_ble_eq_true rfl) (Nat.le_of_ble_eq_true rfl) hlocks (Nat.le_of_ble_eq_true rfl) (Nat.le_of_ble_eq_true rfl) (Or.inr (⟨by unfold cdLight; rw [if_neg (by simp [isLan, c8]), if_neg (fun q => absurd q.1 (by rw [nI_clamp (by omega)]; simpa using c29))], rfl⟩))
      · skip
        have c29 := bi_1.mp c29
        refine lv_aload_n hx hb dX3_light_32 rfl (lv_at hl 0 rfl) ?_
        refine va_get (D := D) (ci := 3) (v := .ref (F 0)) (C := RX3) (T := TX3) (N := 3) hx hb hts inX3 hown hE.1 hP 0 rfl rfl 1 (by decide) kf19 (fun _ h9 => h9) rfl dX3_light_33 ?_
        refine lv_iload_n hx hb dX3_light_36 rfl (lv_at hl 1 rfl) ?_
        refine pVi (As := [.int (nI kn)]) (rest := []) (wc := (wF cA F a c q)) ⟨hx, hb, hml, hown, hts⟩ (K_X1_canBeLit lch D cA F a c q kn H.size (hkn) (hn) (w1) (w7)) (cwV 1 hts gX3_light_X1_canBeLit rfl rfl rfl (by decide +kernel) ⟨Nat.le_of_ble_eq_true rfl, Nat.le_of_ble_eq_true rfl⟩) hE hP hD hS hA [8, 9, 10, 11, 12, 13, 14, 15, 16, 17, 18, 19, 20, 21, 22, 23, 24, 25, 26, 27, 28, 29, 30] rfl rfl X0.blind (fun _ _ _ => trivial) 8 1 rfl rfl rfl hl.1 rfl rfl (Nat.le_of_ble_eq_true rfl) dX3_light_37 ⟨Nat.zero_le _, Nat.zero_le _⟩ (fun r_7 u_8 H locs h_9 hP hS => ?_)
        subst h_9
        refine lv_if_ne (tgt := 53) hx hb dX3_light_40 (by decide) (fun c40 => ?_) (fun c40 => ?_)
        · skip
          have c40 := bi_1.mp c40
          refine lv_aload_n hx hb dX3_light_53 rfl (lv_at hl 0 rfl) ?_
          refine va_get (D := D) (ci := 3) (v := .ref (F 0)) (C := RX3) (T := TX3) (N := 3) hx hb hts inX3 hown hE.1 hP 0 rfl rfl 1 (by decide) kf19 (fun _ h9 => h9) rfl dX3_light_54 ?_
          refine va_get (D := D) (ci := 1) (v := .ref (F 7)) (C := RX1) (T := TX1) (N := 13) hx hb hts inX1 hown hE.1 hP 8 rfl rfl 6 (by decide) kf146 (fun _ h9 => h9) rfl dX3_light_57 ?_
          refine lv_iload_n hx hb dX3_light_60 rfl (lv_at hl 1 rfl) ?_
          refine lv_iconst (v := 1) hx hb dX3_light_61 (by decide) ?_
          refine cVv (wB := fun (u_11 : Unit) => (wR cA (F 7) (F 18) 41 (fun z9 => bi (qBu (uBu a (up (qBu a) kn true)) z9)))) (As := [.int (nI kn), .int 1]) (rest := []) (wc := (wR cA (F 7) (F 18) 41 (fun z9 => bi (qBu a z9)))) ⟨hx, hb, hml, hown, hts⟩ (K_X2_putk lch D cA (F 7) (F 18) 41 (fun z9 => bi (qBu a z9)) kn 1 (fun z9 => bi (qBu (uBu a (up (qBu a) kn true)) z9)) H.size (by omega) (Nat.le_of_ble_eq_true rfl) (fun j _ => upd_B (v := true) j)) (cwV 2 hts gX3_light_X2_put rfl rfl rfl (by decide +kernel) ⟨Nat.le_of_ble_eq_true rfl, Nat.le_of_ble_eq_true rfl⟩) hE hP hD hS hA [15, 26] rfl rfl [F 7, F 18] (fun _ => rfl) rfl (fun (u_11 : Unit) => (([(x, .inr (3, [.ref (B 0), .ref (F 0), .ref (G 0)]))] : va_W) ++ ((wB cA B b) ++ ((wF cA F (uBu a (up (qBu a) kn true)) c q) ++ (wF cA G a2 c2 q2))))) (fun _ => rfl) X0.blind (fun _ _ _ => trivial) 15 2 rfl rfl rfl hl.1 rfl rfl (Nat.le_of_ble_eq_true rfl) dX3_light_62 ⟨Nat.zero_le _, Nat.zero_le _⟩ (fun u_11 H locs h_12 hP hD hS => ?_)
          refine lv_aload_n hx hb dX3_light_65 rfl (lv_at hl 0 rfl) ?_
          refine va_get (D := D) (ci := 3) (v := .ref (F 0)) (C := RX3) (T := TX3) (N := 3) hx hb hts inX3 hown hE.1 hP 0 rfl rfl 1 (by decide) kf19 (fun _ h9 => h9) rfl dX3_light_66 ?_
          refine va_get (D := D) (ci := 1) (v := .ref (F 5)) (C := RX1) (T := TX1) (N := 13) hx hb hts inX1 hown hE.1 hP 8 rfl rfl 4 (by decide) kf149 (fun _ h9 => h9) rfl dX3_light_69 ?_
          refine lv_iload_n hx hb dX3_light_72 rfl (lv_at hl 1 rfl) ?_
          refine pVi (As := [.int (nI kn)]) (rest := []) (wc := (wR cA (F 5) (F 16) 41 (fun z9 => nI (qWx (uBu a (up (qBu a) kn true)) z9)))) ⟨hx, hb, hml, hown, hts⟩ (K_X2_getk lch D cA (F 5) (F 16) 41 (fun z9 => nI (qWx (uBu a (up (qBu a) kn true)) z9)) kn (nI (qWx (uBu a (up (qBu a) kn true)) kn)) H.size (by omega) (Nat.le_of_ble_eq_true rfl) (rfl)) (cwV 1 hts gX3_light_X2_get rfl rfl rfl (by decide +kernel) ⟨Nat.le_of_ble_eq_true rfl, Nat.le_of_ble_eq_true rfl⟩) hE hP hD hS hA [13, 24] rfl rfl X0.blind (fun _ _ _ => trivial) 13 2 rfl rfl rfl hl.1 rfl rfl (Nat.le_of_ble_eq_true rfl) dX3_light_73 ⟨Nat.zero_le _, Nat.zero_le _⟩ (fun r_13 u_14 H locs h_15 hP hS => ?_)
          subst h_15
          refine W.widen (k := 1) (n := 6) (by first | exact Nat.le_of_ble_eq_true rfl | omega) (by first | exact Nat.le_of_ble_eq_true rfl | omega) ?_
          have h0 : qSt a kn = 0 := by simpa using c29
          have ewd : uBu a (up (qBu a) ((nI kn).toNatClampNeg) true) = uBu a (up (qBu a) kn true) := by rw [nI_clamp (by omega)]
          rw [← ewd] at hP
          rw [hQQ]
          refine vx_ret ?_
          exact W.iret (v := nI (qWx (uBu a (up (qBu a) kn true)) kn)) hx hb hr (fun t ht hW => ⟨⟨nI (qWx (uBu a (up (qBu a) kn true)) kn), (), rfl, ⟨by rw [nI_clamp (by omega)]; rfl, by unfold cdLight; rw [if_neg (by simp [isLan, c8]), nI_clamp (by omega), if_pos ⟨h0, c40⟩]⟩, by show va_P _ _ _ t.heap; rw [ht]; exact hP⟩, hS.F ht⟩) hS.2.2 dX3_light_76
        · skip
          have c40 := bi_0.mp c40
          rw [hQQ]
          exact thrS (sa := sa) (is := 144) (text := "it can't be lit") hx hb hlt hown kw2 kw3 (fun w h => hts w (List.mem_cons_of_mem _ (List.mem_append_right _ h))) hXs (by decide +kernel) hS hP (by rw [hml]; exact hl.1) dX3_light_43 dX3_light_46 dX3_light_47 dX3_light_49 dX3_light_52 htb (Nat.le_of_ble_eq_true rfl) (Nat.le_of_ble_eq_true rfl) (Nat.le_of_ble_eq_true rfl) (Nat.le_of_ble_eq_true rfl) hlocks (Nat.le_of_ble_eq_true rfl) (Nat.le_of_ble_eq_true rfl) (Or.inr (⟨by unfold cdLight; rw [if_neg (by simp [isLan, c8]), if_neg (fun q => absurd q.2 (by rw [nI_clamp (by omega), c40]; decide))], rfl⟩))
    · skip
      have c8 := bi_0.mp c8
      rw [hQQ]
      exact thrI (sa := sa) (is := 139) (text := "no such lantern") hx hb hlt hown kw7 kw8 (fun w h => hts w (List.mem_cons_of_mem _ (List.mem_append_left _ (List.mem_append_right _ h)))) hXs (by decide +kernel) hS hP (by rw [hml]; exact hl.1) dX3_light_11 dX3_light_14 dX3_light_15 dX3_light_17 dX3_light_20 htb (Nat.le_of_ble_eq_true rfl) (Nat.le_of_ble_eq_true rfl) (Nat.le_of_ble_eq_true rfl) (Nat.le_of_ble_eq_true rfl) hlocks (Nat.le_of_ble_eq_true rfl) (Nat.le_of_ble_eq_true rfl) (Or.inl ⟨by unfold cdLight; rw [if_pos (show isLan a k = false from c8)], rfl⟩)
  rw [hg1, hg2] at hgoal
  exact hgoal

set_option maxHeartbeats 4000000 in
set_option maxRecDepth 100000 in
/-- blow -/
theorem K_X3_blow (lch : Launch) (hlt : lch.stackTraces = false) (D : va_G) (cA : ClassId) (sa : Nat → Nat) (x : Nat) (B : Nat → Nat) (F : Nat → Nat) (G : Nat → Nat) (b : BSt) (a : FSt) (c : Nat → Int32) (q : Nat → Int32) (a2 : FSt) (c2 : Nat → Int32) (q2 : Nat → Int32) (k : Int32) (sz : Nat) (hw1 : WFa a) : vx_Met lch yX3_blow wsX3_blow ({ frames := 6, cells := 1, slots := 6, locals := 82 }) (Pr D cA [.ref x, .int k] sz (([(x, .inr (3, [.ref (B 0), .ref (F 0), .ref (G 0)]))] : va_W) ++ ((wB cA B b) ++ ((wF cA F a c q) ++ (wF cA G a2 c2 q2)))) (TX sa (va_A (([(x, .inr (3, [.ref (B 0), .ref (F 0), .ref (G 0)]))] : va_W) ++ ((wB cA B b) ++ ((wF cA F a c q) ++ (wF cA G a2 c2 q2)))) sz))) (va_Qi (fun (r : Int32) (u : Unit) => r = nI (qWx a (k).toNatClampNeg) ∧ cdBlow a k = 0) (fun (u : Unit) t => va_P D vwCl (([(x, .inr (3, [.ref (B 0), .ref (F 0), .ref (G 0)]))] : va_W) ++ ((wB cA B b) ++ ((wF cA F (outA a (k).toNatClampNeg) c q) ++ (wF cA G a2 c2 q2)))) t.heap) (va_A (([(x, .inr (3, [.ref (B 0), .ref (F 0), .ref (G 0)]))] : va_W) ++ ((wB cA B b) ++ ((wF cA F a c q) ++ (wF cA G a2 c2 q2)))) sz)) (vx_X (S := Unit) (fun _ => True) (fun E _ t => (fun E => (cdBlow a k = 1 ∧ E = "java/lang/IndexOutOfBoundsException") ∨ (cdBlow a k = 2 ∧ E = "java/lang/IllegalStateException")) E ∧ va_P D vwCl (([(x, .inr (3, [.ref (B 0), .ref (F 0), .ref (G 0)]))] : va_W) ++ ((wB cA B b) ++ ((wF cA F a c q) ++ (wF cA G a2 c2 q2)))) t.heap) (va_A (([(x, .inr (3, [.ref (B 0), .ref (F 0), .ref (G 0)]))] : va_W) ++ ((wB cA B b) ++ ((wF cA F a c q) ++ (wF cA G a2 c2 q2)))) sz)) 1 6 (va_A (([(x, .inr (3, [.ref (B 0), .ref (F 0), .ref (G 0)]))] : va_W) ++ ((wB cA B b) ++ ((wF cA F a c q) ++ (wF cA G a2 c2 q2)))) sz) := by
  refine vx_ofW (cc := cX3_blow) (maxL := 2) (ret := (some .int)) (by decide) rfl ?_
  intro pg ev s mi args below meth cd s₁ B hml htb hv
  obtain ⟨hav, hsz, hP, hE, hD, hXs⟩ := hv
  have hx := B.exec
  have hb := B.bytes
  have hr := B.returns
  have hts := atoms_spec (ws := wsX3_blow) B.pre
  have hown : s.vm.findClass RX3 = some mi.cls := findClass_of_methodNamed B.named
  have hlocks := B.notSynchronized
  clear B
  subst hav
  subst hsz
  have hD := hD.self (sz := s.heap.size)
  generalize hAe : va_A (([(x, .inr (3, [.ref (B 0), .ref (F 0), .ref (G 0)]))] : va_W) ++ ((wB cA B b) ++ ((wF cA F a c q) ++ (wF cA G a2 c2 q2)))) s.heap.size = A at hD hXs ⊢
  have hA : ∀ q : Nat, s.heap.size ≤ q → A q := fun q h => by rw [← hAe]; exact Or.inr h
  have hS : va_S A s.heap s.heap [] := va_S.rf
  obtain ⟨QQ, hQQ⟩ : ∃ qq9, qq9 = vx_MQ below (va_Qi (fun (r : Int32) (u : Unit) => r = nI (qWx a (k).toNatClampNeg) ∧ cdBlow a k = 0) (fun (u : Unit) t => va_P D vwCl (([(x, .inr (3, [.ref (B 0), .ref (F 0), .ref (G 0)]))] : va_W) ++ ((wB cA B b) ++ ((wF cA F (outA a (k).toNatClampNeg) c q) ++ (wF cA G a2 c2 q2)))) t.heap) A) (vx_X (S := Unit) (fun _ => True) (fun E _ t => (fun E => (cdBlow a k = 1 ∧ E = "java/lang/IndexOutOfBoundsException") ∨ (cdBlow a k = 2 ∧ E = "java/lang/IllegalStateException")) E ∧ va_P D vwCl (([(x, .inr (3, [.ref (B 0), .ref (F 0), .ref (G 0)]))] : va_W) ++ ((wB cA B b) ++ ((wF cA F a c q) ++ (wF cA G a2 c2 q2)))) t.heap) A) ([.ref x, .int k] : List Value).toArray s 1 6 A := ⟨_, rfl⟩
  rw [← hQQ]
  have hl := lv_entry ([.ref x, .int k]) (n := 2) (Nat.le_of_ble_eq_true rfl)
  rw [lg_entry_eq]
  generalize (lg_sl ([.ref x, .int k]) ++ List.replicate (2 - (lg_sl ([.ref x, .int k])).length) Slot.unset).toArray = ls at hl ⊢
  have hl : lv_has ls 2 [(0, .ref x), (1, .int k)] := hl
  have kf19 := hts (.fieldLink RX3 19 "LanternWeirs" "fleet" "LLanternWeirs$Fleet;") (by decide +kernel)
  have inX3 : ∀ w ∈ u_ws RX3 TX3 3, w ∈ wsX3_blow := by decide +kernel
  have kw2 := hts (.classLink RX3 71 "java/lang/IllegalStateException") (by decide +kernel)
  have kw3 := hts (.initialized "java/lang/IllegalStateException") (by decide +kernel)
  have kf146 := hts (.fieldLink RX3 146 "LanternWeirs$Fleet" "burning" "LLanternWeirs$Row;") (by decide +kernel)
  have inX1 : ∀ w ∈ u_ws RX1 TX1 13, w ∈ wsX3_blow := by decide +kernel
  have kf149 := hts (.fieldLink RX3 149 "LanternWeirs$Fleet" "waxes" "LLanternWeirs$Row;") (by decide +kernel)
  have kw7 := hts (.classLink RX3 30 "java/lang/IndexOutOfBoundsException") (by decide +kernel)
  have kw8 := hts (.initialized "java/lang/IndexOutOfBoundsException") (by decide +kernel)
  obtain ⟨H, locs, hP, hS, hg1, hg2⟩ : ∃ H locs, va_P D vwCl (([(x, .inr (3, [.ref (B 0), .ref (F 0), .ref (G 0)]))] : va_W) ++ ((wB cA B b) ++ ((wF cA F a c q) ++ (wF cA G a2 c2 q2)))) H ∧ va_S A s.heap H locs ∧ H = s.heap ∧ locs = [] := ⟨_, _, hP, hS, rfl, rfl⟩
  have hgoal : W pg lch ev (headSpec wsX3_blow ({ frames := 6, cells := 1, slots := 6, locals := 82 })).room s mi ([.ref x, .int k] : List Value).toArray below meth cd H locs 0 0 QQ (F0 mi 0 ls []) := by
    have hn := hw1.1
    refine lv_aload_n hx hb dX3_blow_0 rfl (lv_at hl 0 rfl) ?_
    refine va_get (D := D) (ci := 3) (v := .ref (F 0)) (C := RX3) (T := TX3) (N := 3) hx hb hts inX3 hown hE.1 hP 0 rfl rfl 1 (by decide) kf19 (fun _ h9 => h9) rfl dX3_blow_1 ?_
    refine lv_iload_n hx hb dX3_blow_4 rfl (lv_at hl 1 rfl) ?_
    refine pVi (As := [.int k]) (rest := []) (wc := (wF cA F a c q)) ⟨hx, hb, hml, hown, hts⟩ (K_X1_has lch D cA F a c q k H.size ) (cwV 1 hts gX3_blow_X1_has rfl rfl rfl (by decide +kernel) ⟨Nat.le_of_ble_eq_true rfl, Nat.le_of_ble_eq_true rfl⟩) hE hP hD hS hA [8, 9, 10, 11, 12, 13, 14, 15, 16, 17, 18, 19, 20, 21, 22, 23, 24, 25, 26, 27, 28, 29, 30] rfl rfl X0.blind (fun _ _ _ => trivial) 8 1 rfl rfl rfl hl.1 rfl rfl (Nat.le_of_ble_eq_true rfl) dX3_blow_5 ⟨Nat.zero_le _, Nat.zero_le _⟩ (fun r_1 u_2 H locs h_3 hP hS => ?_)
    subst h_3
    refine lv_if_ne (tgt := 21) hx hb dX3_blow_8 (by decide) (fun c8 => ?_) (fun c8 => ?_)
    · skip
      have c8 := bi_1.mp c8
      obtain ⟨kn, hkn, ekn⟩ := lan_nat (a := a) (k := k) c8 hn
      subst ekn
      obtain ⟨w1, w2, w3, w4, w5, w6, w7, w8⟩ := hw1.2 kn hkn
      refine lv_aload_n hx hb dX3_blow_21 rfl (lv_at hl 0 rfl) ?_
      refine va_get (D := D) (ci := 3) (v := .ref (F 0)) (C := RX3) (T := TX3) (N := 3) hx hb hts inX3 hown hE.1 hP 0 rfl rfl 1 (by decide) kf19 (fun _ h9 => h9) rfl dX3_blow_22 ?_
      refine lv_iload_n hx hb dX3_blow_25 rfl (lv_at hl 1 rfl) ?_
      refine pVi (As := [.int (nI kn)]) (rest := []) (wc := (wF cA F a c q)) ⟨hx, hb, hml, hown, hts⟩ (K_X1_isAfloat lch D cA F a c q kn H.size (hkn) (hn) (w4)) (cwV 1 hts gX3_blow_X1_isAfloat rfl rfl rfl (by decide +kernel) ⟨Nat.le_of_ble_eq_true rfl, Nat.le_of_ble_eq_true rfl⟩) hE hP hD hS hA [8, 9, 10, 11, 12, 13, 14, 15, 16, 17, 18, 19, 20, 21, 22, 23, 24, 25, 26, 27, 28, 29, 30] rfl rfl X0.blind (fun _ _ _ => trivial) 8 1 rfl rfl rfl hl.1 rfl rfl (Nat.le_of_ble_eq_true rfl) dX3_blow_26 ⟨Nat.zero_le _, Nat.zero_le _⟩ (fun r_4 u_5 H locs h_6 hP hS => ?_)
      subst h_6
      refine lv_if_eq (tgt := 43) hx hb dX3_blow_29 (by decide) (fun c29 => ?_) (fun c29 => ?_)
      · skip
        have c29 := bi_0.mp c29
        rw [hQQ]
        exact thrS (sa := sa) (is := 155) (text := "it is not afloat, or does not burn") hx hb hlt hown kw2 kw3 (fun w h => hts w (List.mem_cons_of_mem _ (List.mem_append_right _ h))) hXs (by decide +kernel) hS hP (by rw [hml]; exact hl.1) dX3_blow_43 dX3_blow_46 dX3_blow_47 dX3_blow_49 dX3_blow_52 htb (Nat.le_of_ble_eq_true rfl) (Nat.le_of_ble_eq_true rfl) (Nat.le_of_ble_eq_true rfl) (Nat.le_of_ble_eq_true rfl) hlocks (Nat.le_of_ble_eq_true rfl) (Nat.le_of_ble_eq_true rfl) (Or.inr (⟨by unfold cdBlow; rw [if_neg (by simp [isLan, c8]), if_neg (fun q => absurd q.1 (by rw [nI_clamp (by omega)]; simpa using c29))], rfl⟩))
      · skip
        have c29 := bi_1.mp c29
        refine lv_aload_n hx hb dX3_blow_32 rfl (lv_at hl 0 rfl) ?_
        refine va_get (D := D) (ci := 3) (v := .ref (F 0)) (C := RX3) (T := TX3) (N := 3) hx hb hts inX3 hown hE.1 hP 0 rfl rfl 1 (by decide) kf19 (fun _ h9 => h9) rfl dX3_blow_33 ?_
        refine lv_iload_n hx hb dX3_blow_36 rfl (lv_at hl 1 rfl) ?_
        refine pVi (As := [.int (nI kn)]) (rest := []) (wc := (wF cA F a c q)) ⟨hx, hb, hml, hown, hts⟩ (K_X1_isBurning lch D cA F a c q kn H.size (hkn) (hn)) (cwV 1 hts gX3_blow_X1_isBurning rfl rfl rfl (by decide +kernel) ⟨Nat.le_of_ble_eq_true rfl, Nat.le_of_ble_eq_true rfl⟩) hE hP hD hS hA [8, 9, 10, 11, 12, 13, 14, 15, 16, 17, 18, 19, 20, 21, 22, 23, 24, 25, 26, 27, 28, 29, 30] rfl rfl X0.blind (fun _ _ _ => trivial) 8 1 rfl rfl rfl hl.1 rfl rfl (Nat.le_of_ble_eq_true rfl) dX3_blow_37 ⟨Nat.zero_le _, Nat.zero_le _⟩ (fun r_7 u_8 H locs h_9 hP hS => ?_)
        subst h_9
        refine lv_if_ne (tgt := 53) hx hb dX3_blow_40 (by decide) (fun c40 => ?_) (fun c40 => ?_)
        · skip
          have c40 := bi_1.mp c40
          refine lv_aload_n hx hb dX3_blow_53 rfl (lv_at hl 0 rfl) ?_
          refine va_get (D := D) (ci := 3) (v := .ref (F 0)) (C := RX3) (T := TX3) (N := 3) hx hb hts inX3 hown hE.1 hP 0 rfl rfl 1 (by decide) kf19 (fun _ h9 => h9) rfl dX3_blow_54 ?_
          refine va_get (D := D) (ci := 1) (v := .ref (F 7)) (C := RX1) (T := TX1) (N := 13) hx hb hts inX1 hown hE.1 hP 8 rfl rfl 6 (by decide) kf146 (fun _ h9 => h9) rfl dX3_blow_57 ?_
          refine lv_iload_n hx hb dX3_blow_60 rfl (lv_at hl 1 rfl) ?_
          refine lv_iconst (v := 0) hx hb dX3_blow_61 (by decide) ?_
          refine cVv (wB := fun (u_11 : Unit) => (wR cA (F 7) (F 18) 41 (fun z9 => bi (qBu (outA a kn) z9)))) (As := [.int (nI kn), .int 0]) (rest := []) (wc := (wR cA (F 7) (F 18) 41 (fun z9 => bi (qBu a z9)))) ⟨hx, hb, hml, hown, hts⟩ (K_X2_putk lch D cA (F 7) (F 18) 41 (fun z9 => bi (qBu a z9)) kn 0 (fun z9 => bi (qBu (outA a kn) z9)) H.size (by omega) (Nat.le_of_ble_eq_true rfl) (fun j _ => upd_B (v := false) j)) (cwV 2 hts gX3_blow_X2_put rfl rfl rfl (by decide +kernel) ⟨Nat.le_of_ble_eq_true rfl, Nat.le_of_ble_eq_true rfl⟩) hE hP hD hS hA [15, 26] rfl rfl [F 7, F 18] (fun _ => rfl) rfl (fun (u_11 : Unit) => (([(x, .inr (3, [.ref (B 0), .ref (F 0), .ref (G 0)]))] : va_W) ++ ((wB cA B b) ++ ((wF cA F (outA a kn) c q) ++ (wF cA G a2 c2 q2))))) (fun _ => rfl) X0.blind (fun _ _ _ => trivial) 15 2 rfl rfl rfl hl.1 rfl rfl (Nat.le_of_ble_eq_true rfl) dX3_blow_62 ⟨Nat.zero_le _, Nat.zero_le _⟩ (fun u_11 H locs h_12 hP hD hS => ?_)
          refine lv_aload_n hx hb dX3_blow_65 rfl (lv_at hl 0 rfl) ?_
          refine va_get (D := D) (ci := 3) (v := .ref (F 0)) (C := RX3) (T := TX3) (N := 3) hx hb hts inX3 hown hE.1 hP 0 rfl rfl 1 (by decide) kf19 (fun _ h9 => h9) rfl dX3_blow_66 ?_
          refine va_get (D := D) (ci := 1) (v := .ref (F 5)) (C := RX1) (T := TX1) (N := 13) hx hb hts inX1 hown hE.1 hP 8 rfl rfl 4 (by decide) kf149 (fun _ h9 => h9) rfl dX3_blow_69 ?_
          refine lv_iload_n hx hb dX3_blow_72 rfl (lv_at hl 1 rfl) ?_
          refine pVi (As := [.int (nI kn)]) (rest := []) (wc := (wR cA (F 5) (F 16) 41 (fun z9 => nI (qWx (outA a kn) z9)))) ⟨hx, hb, hml, hown, hts⟩ (K_X2_getk lch D cA (F 5) (F 16) 41 (fun z9 => nI (qWx (outA a kn) z9)) kn (nI (qWx (outA a kn) kn)) H.size (by omega) (Nat.le_of_ble_eq_true rfl) (rfl)) (cwV 1 hts gX3_blow_X2_get rfl rfl rfl (by decide +kernel) ⟨Nat.le_of_ble_eq_true rfl, Nat.le_of_ble_eq_true rfl⟩) hE hP hD hS hA [13, 24] rfl rfl X0.blind (fun _ _ _ => trivial) 13 2 rfl rfl rfl hl.1 rfl rfl (Nat.le_of_ble_eq_true rfl) dX3_blow_73 ⟨Nat.zero_le _, Nat.zero_le _⟩ (fun r_13 u_14 H locs h_15 hP hS => ?_)
          subst h_15
          refine W.widen (k := 1) (n := 6) (by first | exact Nat.le_of_ble_eq_true rfl | omega) (by first | exact Nat.le_of_ble_eq_true rfl | omega) ?_
          have h0 : qSt a kn = 0 := by simpa using c29
          have ewd : outA a ((nI kn).toNatClampNeg) = outA a kn := by rw [nI_clamp (by omega)]
          rw [← ewd] at hP
          rw [hQQ]
          refine vx_ret ?_
          exact W.iret (v := nI (qWx (outA a kn) kn)) hx hb hr (fun t ht hW => ⟨⟨nI (qWx (outA a kn) kn), (), rfl, ⟨by rw [nI_clamp (by omega)]; rfl, by unfold cdBlow; rw [if_neg (by simp [isLan, c8]), nI_clamp (by omega), if_pos ⟨h0, c40⟩]⟩, by show va_P _ _ _ t.heap; rw [ht]; exact hP⟩, hS.F ht⟩) hS.2.2 dX3_blow_76
        · skip
          have c40 := bi_0.mp c40
          rw [hQQ]
          exact thrS (sa := sa) (is := 155) (text := "it is not afloat, or does not burn") hx hb hlt hown kw2 kw3 (fun w h => hts w (List.mem_cons_of_mem _ (List.mem_append_right _ h))) hXs (by decide +kernel) hS hP (by rw [hml]; exact hl.1) dX3_blow_43 dX3_blow_46 dX3_blow_47 dX3_blow_49 dX3_blow_52 htb (Nat.le_of_ble_eq_true rfl) (Nat.le_of_ble_eq_true rfl) (Nat.le_of_ble_eq_true rfl) (Nat.le_of_ble_eq_true rfl) hlocks (Nat.le_of_ble_eq_true rfl) (Nat.le_of_ble_eq_true rfl) (Or.inr (⟨by unfold cdBlow; rw [if_neg (by simp [isLan, c8]), if_neg (fun q => absurd q.2 (by rw [nI_clamp (by omega), c40]; decide))], rfl⟩))
    · skip
      have c8 := bi_0.mp c8
      rw [hQQ]
      exact thrI (sa := sa) (is := 139) (text := "no such lantern") hx hb hlt hown kw7 kw8 (fun w h => hts w (List.mem_cons_of_mem _ (List.mem_append_left _ (List.mem_append_right _ h)))) hXs (by decide +kernel) hS hP (by rw [hml]; exact hl.1) dX3_blow_11 dX3_blow_14 dX3_blow_15 dX3_blow_17 dX3_blow_20 htb (Nat.le_of_ble_eq_true rfl) (Nat.le_of_ble_eq_true rfl) (Nat.le_of_ble_eq_true rfl) (Nat.le_of_ble_eq_true rfl) hlocks (Nat.le_of_ble_eq_true rfl) (Nat.le_of_ble_eq_true rfl) (Or.inl ⟨by unfold cdBlow; rw [if_pos (show isLan a k = false from c8)], rfl⟩)
  rw [hg1, hg2] at hgoal
  exact hgoal

set_option maxHeartbeats 4000000 in
set_option maxRecDepth 100000 in
/-- told -/
theorem K_X3_told (lch : Launch) (hlt : lch.stackTraces = false) (D : va_G) (cA : ClassId) (sa : Nat → Nat) (x : Nat) (B : Nat → Nat) (F : Nat → Nat) (G : Nat → Nat) (b : BSt) (a : FSt) (c : Nat → Int32) (q : Nat → Int32) (a2 : FSt) (c2 : Nat → Int32) (q2 : Nat → Int32) (k : Int32) (w : Int32) (sz : Nat) (hw1 : WFa a) : vx_Met lch yX3_told wsX3_told ({ frames := 6, cells := 1, slots := 6, locals := 82 }) (Pr D cA [.ref x, .int k, .int w] sz (([(x, .inr (3, [.ref (B 0), .ref (F 0), .ref (G 0)]))] : va_W) ++ ((wB cA B b) ++ ((wF cA F a c q) ++ (wF cA G a2 c2 q2)))) (TX sa (va_A (([(x, .inr (3, [.ref (B 0), .ref (F 0), .ref (G 0)]))] : va_W) ++ ((wB cA B b) ++ ((wF cA F a c q) ++ (wF cA G a2 c2 q2)))) sz))) (va_Qi (fun (r : Int32) (u : Unit) => r = factA a (k).toNatClampNeg (w).toNatClampNeg ∧ cdTold a k w = 0) (fun (u : Unit) t => va_P D vwCl (([(x, .inr (3, [.ref (B 0), .ref (F 0), .ref (G 0)]))] : va_W) ++ ((wB cA B b) ++ ((wF cA F a c q) ++ (wF cA G a2 c2 q2)))) t.heap) (va_A (([(x, .inr (3, [.ref (B 0), .ref (F 0), .ref (G 0)]))] : va_W) ++ ((wB cA B b) ++ ((wF cA F a c q) ++ (wF cA G a2 c2 q2)))) sz)) (vx_X (S := Unit) (fun _ => True) (fun E _ t => (fun E => (cdTold a k w = 1 ∧ E = "java/lang/IndexOutOfBoundsException")) E ∧ va_P D vwCl (([(x, .inr (3, [.ref (B 0), .ref (F 0), .ref (G 0)]))] : va_W) ++ ((wB cA B b) ++ ((wF cA F a c q) ++ (wF cA G a2 c2 q2)))) t.heap) (va_A (([(x, .inr (3, [.ref (B 0), .ref (F 0), .ref (G 0)]))] : va_W) ++ ((wB cA B b) ++ ((wF cA F a c q) ++ (wF cA G a2 c2 q2)))) sz)) 1 6 (va_A (([(x, .inr (3, [.ref (B 0), .ref (F 0), .ref (G 0)]))] : va_W) ++ ((wB cA B b) ++ ((wF cA F a c q) ++ (wF cA G a2 c2 q2)))) sz) := by
  refine vx_ofW (cc := cX3_told) (maxL := 3) (ret := (some .int)) (by decide) rfl ?_
  intro pg ev s mi args below meth cd s₁ B hml htb hv
  obtain ⟨hav, hsz, hP, hE, hD, hXs⟩ := hv
  have hx := B.exec
  have hb := B.bytes
  have hr := B.returns
  have hts := atoms_spec (ws := wsX3_told) B.pre
  have hown : s.vm.findClass RX3 = some mi.cls := findClass_of_methodNamed B.named
  have hlocks := B.notSynchronized
  clear B
  subst hav
  subst hsz
  have hD := hD.self (sz := s.heap.size)
  generalize hAe : va_A (([(x, .inr (3, [.ref (B 0), .ref (F 0), .ref (G 0)]))] : va_W) ++ ((wB cA B b) ++ ((wF cA F a c q) ++ (wF cA G a2 c2 q2)))) s.heap.size = A at hD hXs ⊢
  have hA : ∀ q : Nat, s.heap.size ≤ q → A q := fun q h => by rw [← hAe]; exact Or.inr h
  have hS : va_S A s.heap s.heap [] := va_S.rf
  obtain ⟨QQ, hQQ⟩ : ∃ qq9, qq9 = vx_MQ below (va_Qi (fun (r : Int32) (u : Unit) => r = factA a (k).toNatClampNeg (w).toNatClampNeg ∧ cdTold a k w = 0) (fun (u : Unit) t => va_P D vwCl (([(x, .inr (3, [.ref (B 0), .ref (F 0), .ref (G 0)]))] : va_W) ++ ((wB cA B b) ++ ((wF cA F a c q) ++ (wF cA G a2 c2 q2)))) t.heap) A) (vx_X (S := Unit) (fun _ => True) (fun E _ t => (fun E => (cdTold a k w = 1 ∧ E = "java/lang/IndexOutOfBoundsException")) E ∧ va_P D vwCl (([(x, .inr (3, [.ref (B 0), .ref (F 0), .ref (G 0)]))] : va_W) ++ ((wB cA B b) ++ ((wF cA F a c q) ++ (wF cA G a2 c2 q2)))) t.heap) A) ([.ref x, .int k, .int w] : List Value).toArray s 1 6 A := ⟨_, rfl⟩
  rw [← hQQ]
  have hl := lv_entry ([.ref x, .int k, .int w]) (n := 3) (Nat.le_of_ble_eq_true rfl)
  rw [lg_entry_eq]
  generalize (lg_sl ([.ref x, .int k, .int w]) ++ List.replicate (3 - (lg_sl ([.ref x, .int k, .int w])).length) Slot.unset).toArray = ls at hl ⊢
  have hl : lv_has ls 3 [(0, .ref x), (1, .int k), (2, .int w)] := hl
  have kf19 := hts (.fieldLink RX3 19 "LanternWeirs" "fleet" "LLanternWeirs$Fleet;") (by decide +kernel)
  have inX3 : ∀ w ∈ u_ws RX3 TX3 3, w ∈ wsX3_told := by decide +kernel
  have kw2 := hts (.classLink RX3 30 "java/lang/IndexOutOfBoundsException") (by decide +kernel)
  have kw3 := hts (.initialized "java/lang/IndexOutOfBoundsException") (by decide +kernel)
  obtain ⟨H, locs, hP, hS, hg1, hg2⟩ : ∃ H locs, va_P D vwCl (([(x, .inr (3, [.ref (B 0), .ref (F 0), .ref (G 0)]))] : va_W) ++ ((wB cA B b) ++ ((wF cA F a c q) ++ (wF cA G a2 c2 q2)))) H ∧ va_S A s.heap H locs ∧ H = s.heap ∧ locs = [] := ⟨_, _, hP, hS, rfl, rfl⟩
  have hgoal : W pg lch ev (headSpec wsX3_told ({ frames := 6, cells := 1, slots := 6, locals := 82 })).room s mi ([.ref x, .int k, .int w] : List Value).toArray below meth cd H locs 0 0 QQ (F0 mi 0 ls []) := by
    have hn := hw1.1
    refine lv_aload_n hx hb dX3_told_0 rfl (lv_at hl 0 rfl) ?_
    refine va_get (D := D) (ci := 3) (v := .ref (F 0)) (C := RX3) (T := TX3) (N := 3) hx hb hts inX3 hown hE.1 hP 0 rfl rfl 1 (by decide) kf19 (fun _ h9 => h9) rfl dX3_told_1 ?_
    refine lv_iload_n hx hb dX3_told_4 rfl (lv_at hl 1 rfl) ?_
    refine pVi (As := [.int k]) (rest := []) (wc := (wF cA F a c q)) ⟨hx, hb, hml, hown, hts⟩ (K_X1_has lch D cA F a c q k H.size ) (cwV 1 hts gX3_told_X1_has rfl rfl rfl (by decide +kernel) ⟨Nat.le_of_ble_eq_true rfl, Nat.le_of_ble_eq_true rfl⟩) hE hP hD hS hA [8, 9, 10, 11, 12, 13, 14, 15, 16, 17, 18, 19, 20, 21, 22, 23, 24, 25, 26, 27, 28, 29, 30] rfl rfl X0.blind (fun _ _ _ => trivial) 8 1 rfl rfl rfl hl.1 rfl rfl (Nat.le_of_ble_eq_true rfl) dX3_told_5 ⟨Nat.zero_le _, Nat.zero_le _⟩ (fun r_1 u_2 H locs h_3 hP hS => ?_)
    subst h_3
    refine lv_if_eq (tgt := 21) hx hb dX3_told_8 (by decide) (fun c8 => ?_) (fun c8 => ?_)
    · skip
      have c8 := bi_0.mp c8
      rw [hQQ]
      exact thrI (sa := sa) (is := 157) (text := "nothing of a lantern is told of this") hx hb hlt hown kw2 kw3 (fun w h => hts w (List.mem_cons_of_mem _ (List.mem_append_right _ h))) hXs (by decide +kernel) hS hP (by rw [hml]; exact hl.1) dX3_told_21 dX3_told_24 dX3_told_25 dX3_told_27 dX3_told_30 htb (Nat.le_of_ble_eq_true rfl) (Nat.le_of_ble_eq_true rfl) (Nat.le_of_ble_eq_true rfl) (Nat.le_of_ble_eq_true rfl) hlocks (Nat.le_of_ble_eq_true rfl) (Nat.le_of_ble_eq_true rfl) (⟨by unfold cdTold; rw [if_pos (Or.inl (show isLan a k = false from c8))], rfl⟩)
    · skip
      have c8 := bi_1.mp c8
      refine lv_iload_n hx hb dX3_told_11 rfl (lv_at hl 2 rfl) ?_
      refine lv_iconst (v := 0) hx hb dX3_told_12 (by decide) ?_
      refine lv_bipush (v := 8) hx hb dX3_told_13 (by decide) ?_
      refine pSi (As := [.int w, .int 0, .int 8]) (rest := []) (wc := ([] : va_W)) ⟨hx, hb, hml, hown, hts⟩ (K_X3_isWithin lch D cA w 0 8 H.size ) (cwS 3 hts gX3_told_X3_isWithin rfl rfl rfl (by decide +kernel) ⟨Nat.le_of_ble_eq_true rfl, Nat.le_of_ble_eq_true rfl⟩) hE hP hD hS hA [] rfl rfl X0.blind (fun _ _ _ => trivial) hl.1 rfl rfl (Nat.le_of_ble_eq_true rfl) dX3_told_15 ⟨Nat.zero_le _, Nat.zero_le _⟩ (fun r_4 u_5 H locs h_6 hP hS => ?_)
      subst h_6
      refine lv_if_ne (tgt := 31) hx hb dX3_told_18 (by decide) (fun c18 => ?_) (fun c18 => ?_)
      · skip
        have c18 := bi_1.mp c18
        obtain ⟨kn, hkn, ekn⟩ := lan_nat (a := a) (k := k) c8 hn
        subst ekn
        obtain ⟨w1, w2, w3, w4, w5, w6, w7, w8⟩ := hw1.2 kn hkn
        obtain ⟨wn, hw9, ew⟩ := isW_nat (n := 8) c18 (by decide)
        subst ew
        refine lv_aload_n hx hb dX3_told_31 rfl (lv_at hl 0 rfl) ?_
        refine va_get (D := D) (ci := 3) (v := .ref (F 0)) (C := RX3) (T := TX3) (N := 3) hx hb hts inX3 hown hE.1 hP 0 rfl rfl 1 (by decide) kf19 (fun _ h9 => h9) rfl dX3_told_32 ?_
        refine lv_iload_n hx hb dX3_told_35 rfl (lv_at hl 1 rfl) ?_
        refine lv_iload_n hx hb dX3_told_36 rfl (lv_at hl 2 rfl) ?_
        refine pVi (As := [.int (nI kn), .int (nI wn)]) (rest := []) (wc := (wF cA F a c q)) ⟨hx, hb, hml, hown, hts⟩ (K_X1_fact lch D cA F a c q kn wn H.size (by omega) (by omega)) (cwV 2 hts gX3_told_X1_fact rfl rfl rfl (by decide +kernel) ⟨Nat.le_of_ble_eq_true rfl, Nat.le_of_ble_eq_true rfl⟩) hE hP hD hS hA [8, 9, 10, 11, 12, 13, 14, 15, 16, 17, 18, 19, 20, 21, 22, 23, 24, 25, 26, 27, 28, 29, 30] rfl rfl X0.blind (fun _ _ _ => trivial) 8 1 rfl rfl rfl hl.1 rfl rfl (Nat.le_of_ble_eq_true rfl) dX3_told_37 ⟨Nat.zero_le _, Nat.zero_le _⟩ (fun r_7 u_8 H locs h_9 hP hS => ?_)
        subst h_9
        refine W.widen (k := 1) (n := 6) (by first | exact Nat.le_of_ble_eq_true rfl | omega) (by first | exact Nat.le_of_ble_eq_true rfl | omega) ?_
        rw [hQQ]
        refine vx_ret ?_
        exact W.iret (v := factA a kn wn) hx hb hr (fun t ht hW => ⟨⟨factA a kn wn, (), rfl, ⟨by rw [nI_clamp (by omega), nI_clamp (by omega)], by unfold cdTold; rw [if_neg (by simp [isLan, c8, c18])]⟩, by show va_P _ _ _ t.heap; rw [ht]; exact hP⟩, hS.F ht⟩) hS.2.2 dX3_told_40
      · skip
        have c18 := bi_0.mp c18
        rw [hQQ]
        exact thrI (sa := sa) (is := 157) (text := "nothing of a lantern is told of this") hx hb hlt hown kw2 kw3 (fun w h => hts w (List.mem_cons_of_mem _ (List.mem_append_right _ h))) hXs (by decide +kernel) hS hP (by rw [hml]; exact hl.1) dX3_told_21 dX3_told_24 dX3_told_25 dX3_told_27 dX3_told_30 htb (Nat.le_of_ble_eq_true rfl) (Nat.le_of_ble_eq_true rfl) (Nat.le_of_ble_eq_true rfl) (Nat.le_of_ble_eq_true rfl) hlocks (Nat.le_of_ble_eq_true rfl) (Nat.le_of_ble_eq_true rfl) (⟨by unfold cdTold; rw [if_pos (Or.inr c18)], rfl⟩)
  rw [hg1, hg2] at hgoal
  exact hgoal

set_option maxHeartbeats 4000000 in
set_option maxRecDepth 100000 in
/-- next -/
theorem K_X3_next (lch : Launch) (hlt : lch.stackTraces = false) (D : va_G) (cA : ClassId) (sa : Nat → Nat) (x : Nat) (B : Nat → Nat) (F : Nat → Nat) (G : Nat → Nat) (b : BSt) (a : FSt) (c : Nat → Int32) (q : Nat → Int32) (a2 : FSt) (c2 : Nat → Int32) (q2 : Nat → Int32) (k : Int32) (sz : Nat) (hw1 : WFa a) : vx_Met lch yX3_next wsX3_next ({ frames := 6, cells := 1, slots := 6, locals := 86 }) (Pr D cA [.ref x, .int k] sz (([(x, .inr (3, [.ref (B 0), .ref (F 0), .ref (G 0)]))] : va_W) ++ ((wB cA B b) ++ ((wF cA F a c q) ++ (wF cA G a2 c2 q2)))) (TX sa (va_A (([(x, .inr (3, [.ref (B 0), .ref (F 0), .ref (G 0)]))] : va_W) ++ ((wB cA B b) ++ ((wF cA F a c q) ++ (wF cA G a2 c2 q2)))) sz))) (va_Qi (fun (r : Int32) (u : Unit) => r = nextA a b (k).toNatClampNeg ∧ cdLan a k = 0) (fun (u : Unit) t => va_P D vwCl (([(x, .inr (3, [.ref (B 0), .ref (F 0), .ref (G 0)]))] : va_W) ++ ((wB cA B b) ++ ((wF cA F a c q) ++ (wF cA G a2 c2 q2)))) t.heap) (va_A (([(x, .inr (3, [.ref (B 0), .ref (F 0), .ref (G 0)]))] : va_W) ++ ((wB cA B b) ++ ((wF cA F a c q) ++ (wF cA G a2 c2 q2)))) sz)) (vx_X (S := Unit) (fun _ => True) (fun E _ t => (fun E => (cdLan a k = 1 ∧ E = "java/lang/IndexOutOfBoundsException")) E ∧ va_P D vwCl (([(x, .inr (3, [.ref (B 0), .ref (F 0), .ref (G 0)]))] : va_W) ++ ((wB cA B b) ++ ((wF cA F a c q) ++ (wF cA G a2 c2 q2)))) t.heap) (va_A (([(x, .inr (3, [.ref (B 0), .ref (F 0), .ref (G 0)]))] : va_W) ++ ((wB cA B b) ++ ((wF cA F a c q) ++ (wF cA G a2 c2 q2)))) sz)) 1 6 (va_A (([(x, .inr (3, [.ref (B 0), .ref (F 0), .ref (G 0)]))] : va_W) ++ ((wB cA B b) ++ ((wF cA F a c q) ++ (wF cA G a2 c2 q2)))) sz) := by
  refine vx_ofW (cc := cX3_next) (maxL := 2) (ret := (some .int)) (by decide) rfl ?_
  intro pg ev s mi args below meth cd s₁ B hml htb hv
  obtain ⟨hav, hsz, hP, hE, hD, hXs⟩ := hv
  have hx := B.exec
  have hb := B.bytes
  have hr := B.returns
  have hts := atoms_spec (ws := wsX3_next) B.pre
  have hown : s.vm.findClass RX3 = some mi.cls := findClass_of_methodNamed B.named
  have hlocks := B.notSynchronized
  clear B
  subst hav
  subst hsz
  have hD := hD.self (sz := s.heap.size)
  generalize hAe : va_A (([(x, .inr (3, [.ref (B 0), .ref (F 0), .ref (G 0)]))] : va_W) ++ ((wB cA B b) ++ ((wF cA F a c q) ++ (wF cA G a2 c2 q2)))) s.heap.size = A at hD hXs ⊢
  have hA : ∀ q : Nat, s.heap.size ≤ q → A q := fun q h => by rw [← hAe]; exact Or.inr h
  have hS : va_S A s.heap s.heap [] := va_S.rf
  obtain ⟨QQ, hQQ⟩ : ∃ qq9, qq9 = vx_MQ below (va_Qi (fun (r : Int32) (u : Unit) => r = nextA a b (k).toNatClampNeg ∧ cdLan a k = 0) (fun (u : Unit) t => va_P D vwCl (([(x, .inr (3, [.ref (B 0), .ref (F 0), .ref (G 0)]))] : va_W) ++ ((wB cA B b) ++ ((wF cA F a c q) ++ (wF cA G a2 c2 q2)))) t.heap) A) (vx_X (S := Unit) (fun _ => True) (fun E _ t => (fun E => (cdLan a k = 1 ∧ E = "java/lang/IndexOutOfBoundsException")) E ∧ va_P D vwCl (([(x, .inr (3, [.ref (B 0), .ref (F 0), .ref (G 0)]))] : va_W) ++ ((wB cA B b) ++ ((wF cA F a c q) ++ (wF cA G a2 c2 q2)))) t.heap) A) ([.ref x, .int k] : List Value).toArray s 1 6 A := ⟨_, rfl⟩
  rw [← hQQ]
  have hl := lv_entry ([.ref x, .int k]) (n := 2) (Nat.le_of_ble_eq_true rfl)
  rw [lg_entry_eq]
  generalize (lg_sl ([.ref x, .int k]) ++ List.replicate (2 - (lg_sl ([.ref x, .int k])).length) Slot.unset).toArray = ls at hl ⊢
  have hl : lv_has ls 2 [(0, .ref x), (1, .int k)] := hl
  have kf19 := hts (.fieldLink RX3 19 "LanternWeirs" "fleet" "LLanternWeirs$Fleet;") (by decide +kernel)
  have inX3 : ∀ w ∈ u_ws RX3 TX3 3, w ∈ wsX3_next := by decide +kernel
  have kw2 := hts (.classLink RX3 30 "java/lang/IndexOutOfBoundsException") (by decide +kernel)
  have kw3 := hts (.initialized "java/lang/IndexOutOfBoundsException") (by decide +kernel)
  obtain ⟨H, locs, hP, hS, hg1, hg2⟩ : ∃ H locs, va_P D vwCl (([(x, .inr (3, [.ref (B 0), .ref (F 0), .ref (G 0)]))] : va_W) ++ ((wB cA B b) ++ ((wF cA F a c q) ++ (wF cA G a2 c2 q2)))) H ∧ va_S A s.heap H locs ∧ H = s.heap ∧ locs = [] := ⟨_, _, hP, hS, rfl, rfl⟩
  have hgoal : W pg lch ev (headSpec wsX3_next ({ frames := 6, cells := 1, slots := 6, locals := 86 })).room s mi ([.ref x, .int k] : List Value).toArray below meth cd H locs 0 0 QQ (F0 mi 0 ls []) := by
    have hn := hw1.1
    refine lv_aload_n hx hb dX3_next_0 rfl (lv_at hl 0 rfl) ?_
    refine va_get (D := D) (ci := 3) (v := .ref (F 0)) (C := RX3) (T := TX3) (N := 3) hx hb hts inX3 hown hE.1 hP 0 rfl rfl 1 (by decide) kf19 (fun _ h9 => h9) rfl dX3_next_1 ?_
    refine lv_iload_n hx hb dX3_next_4 rfl (lv_at hl 1 rfl) ?_
    refine pVi (As := [.int k]) (rest := []) (wc := (wF cA F a c q)) ⟨hx, hb, hml, hown, hts⟩ (K_X1_has lch D cA F a c q k H.size ) (cwV 1 hts gX3_next_X1_has rfl rfl rfl (by decide +kernel) ⟨Nat.le_of_ble_eq_true rfl, Nat.le_of_ble_eq_true rfl⟩) hE hP hD hS hA [8, 9, 10, 11, 12, 13, 14, 15, 16, 17, 18, 19, 20, 21, 22, 23, 24, 25, 26, 27, 28, 29, 30] rfl rfl X0.blind (fun _ _ _ => trivial) 8 1 rfl rfl rfl hl.1 rfl rfl (Nat.le_of_ble_eq_true rfl) dX3_next_5 ⟨Nat.zero_le _, Nat.zero_le _⟩ (fun r_1 u_2 H locs h_3 hP hS => ?_)
    subst h_3
    refine lv_if_ne (tgt := 21) hx hb dX3_next_8 (by decide) (fun c8 => ?_) (fun c8 => ?_)
    · skip
      have c8 := bi_1.mp c8
      obtain ⟨kn, hkn, ekn⟩ := lan_nat (a := a) (k := k) c8 hn
      subst ekn
      obtain ⟨w1, w2, w3, w4, w5, w6, w7, w8⟩ := hw1.2 kn hkn
      refine lv_aload_n hx hb dX3_next_21 rfl (lv_at hl 0 rfl) ?_
      refine lv_iload_n hx hb dX3_next_22 rfl (lv_at hl 1 rfl) ?_
      refine pVi (As := [.int (nI kn)]) (rest := []) (wc := (([(x, .inr (3, [.ref (B 0), .ref (F 0), .ref (G 0)]))] : va_W) ++ ((wB cA B b) ++ ((wF cA F a c q) ++ (wF cA G a2 c2 q2))))) ⟨hx, hb, hml, hown, hts⟩ (K_X3_nextWeir lch D cA x B F G b a c q a2 c2 q2 kn H.size (by first | assumption | omega) (hkn)) (cwV 1 hts gX3_next_X3_nextWeir rfl rfl rfl (by decide +kernel) ⟨Nat.le_of_ble_eq_true rfl, Nat.le_of_ble_eq_true rfl⟩) hE hP hD hS hA [0, 1, 2, 3, 4, 5, 6, 7, 8, 9, 10, 11, 12, 13, 14, 15, 16, 17, 18, 19, 20, 21, 22, 23, 24, 25, 26, 27, 28, 29, 30, 31, 32, 33, 34, 35, 36, 37, 38, 39, 40, 41, 42, 43, 44, 45, 46, 47, 48, 49, 50, 51, 52, 53] rfl rfl X0.blind (fun _ _ _ => trivial) 0 3 rfl rfl rfl hl.1 rfl rfl (Nat.le_of_ble_eq_true rfl) dX3_next_23 ⟨Nat.zero_le _, Nat.zero_le _⟩ (fun r_4 u_5 H locs h_6 hP hS => ?_)
      subst h_6
      refine W.widen (k := 1) (n := 6) (by first | exact Nat.le_of_ble_eq_true rfl | omega) (by first | exact Nat.le_of_ble_eq_true rfl | omega) ?_
      rw [hQQ]
      refine vx_ret ?_
      exact W.iret (v := nextA a b kn) hx hb hr (fun t ht hW => ⟨⟨nextA a b kn, (), rfl, ⟨by rw [nI_clamp (by omega)], by unfold cdLan; rw [if_neg (by simp [isLan, c8])]⟩, by show va_P _ _ _ t.heap; rw [ht]; exact hP⟩, hS.F ht⟩) hS.2.2 dX3_next_26
    · skip
      have c8 := bi_0.mp c8
      rw [hQQ]
      exact thrI (sa := sa) (is := 139) (text := "no such lantern") hx hb hlt hown kw2 kw3 (fun w h => hts w (List.mem_cons_of_mem _ (List.mem_append_right _ h))) hXs (by decide +kernel) hS hP (by rw [hml]; exact hl.1) dX3_next_11 dX3_next_14 dX3_next_15 dX3_next_17 dX3_next_20 htb (Nat.le_of_ble_eq_true rfl) (Nat.le_of_ble_eq_true rfl) (Nat.le_of_ble_eq_true rfl) (Nat.le_of_ble_eq_true rfl) hlocks (Nat.le_of_ble_eq_true rfl) (Nat.le_of_ble_eq_true rfl) (⟨by unfold cdLan; rw [if_pos (show isLan a k = false from c8)], rfl⟩)
  rw [hg1, hg2] at hgoal
  exact hgoal

set_option maxHeartbeats 4000000 in
set_option maxRecDepth 100000 in
/-- count -/
theorem K_X3_count (lch : Launch) (hlt : lch.stackTraces = false) (D : va_G) (cA : ClassId) (sa : Nat → Nat) (x : Nat) (B : Nat → Nat) (F : Nat → Nat) (G : Nat → Nat) (b : BSt) (a : FSt) (c : Nat → Int32) (q : Nat → Int32) (a2 : FSt) (c2 : Nat → Int32) (q2 : Nat → Int32) (w : Int32) (sz : Nat) (hw1 : WFa a) : vx_Met lch yX3_count wsX3_count ({ frames := 6, cells := 1, slots := 6, locals := 89 }) (Pr D cA [.ref x, .int w] sz (([(x, .inr (3, [.ref (B 0), .ref (F 0), .ref (G 0)]))] : va_W) ++ ((wB cA B b) ++ ((wF cA F a c q) ++ (wF cA G a2 c2 q2)))) (TX sa (va_A (([(x, .inr (3, [.ref (B 0), .ref (F 0), .ref (G 0)]))] : va_W) ++ ((wB cA B b) ++ ((wF cA F a c q) ++ (wF cA G a2 c2 q2)))) sz))) (va_Qi (fun (r : Int32) (u : Unit) => r = countA a b (w).toNatClampNeg ∧ cdCount w = 0) (fun (u : Unit) t => va_P D vwCl (([(x, .inr (3, [.ref (B 0), .ref (F 0), .ref (G 0)]))] : va_W) ++ ((wB cA B b) ++ ((wF cA F a c q) ++ (wF cA G a2 c2 q2)))) t.heap) (va_A (([(x, .inr (3, [.ref (B 0), .ref (F 0), .ref (G 0)]))] : va_W) ++ ((wB cA B b) ++ ((wF cA F a c q) ++ (wF cA G a2 c2 q2)))) sz)) (vx_X (S := Unit) (fun _ => True) (fun E _ t => (fun E => (cdCount w = 1 ∧ E = "java/lang/IndexOutOfBoundsException")) E ∧ va_P D vwCl (([(x, .inr (3, [.ref (B 0), .ref (F 0), .ref (G 0)]))] : va_W) ++ ((wB cA B b) ++ ((wF cA F a c q) ++ (wF cA G a2 c2 q2)))) t.heap) (va_A (([(x, .inr (3, [.ref (B 0), .ref (F 0), .ref (G 0)]))] : va_W) ++ ((wB cA B b) ++ ((wF cA F a c q) ++ (wF cA G a2 c2 q2)))) sz)) 1 6 (va_A (([(x, .inr (3, [.ref (B 0), .ref (F 0), .ref (G 0)]))] : va_W) ++ ((wB cA B b) ++ ((wF cA F a c q) ++ (wF cA G a2 c2 q2)))) sz) := by
  refine vx_ofW (cc := cX3_count) (maxL := 2) (ret := (some .int)) (by decide) rfl ?_
  intro pg ev s mi args below meth cd s₁ B hml htb hv
  obtain ⟨hav, hsz, hP, hE, hD, hXs⟩ := hv
  have hx := B.exec
  have hb := B.bytes
  have hr := B.returns
  have hts := atoms_spec (ws := wsX3_count) B.pre
  have hown : s.vm.findClass RX3 = some mi.cls := findClass_of_methodNamed B.named
  have hlocks := B.notSynchronized
  clear B
  subst hav
  subst hsz
  have hD := hD.self (sz := s.heap.size)
  generalize hAe : va_A (([(x, .inr (3, [.ref (B 0), .ref (F 0), .ref (G 0)]))] : va_W) ++ ((wB cA B b) ++ ((wF cA F a c q) ++ (wF cA G a2 c2 q2)))) s.heap.size = A at hD hXs ⊢
  have hA : ∀ q : Nat, s.heap.size ≤ q → A q := fun q h => by rw [← hAe]; exact Or.inr h
  have hS : va_S A s.heap s.heap [] := va_S.rf
  obtain ⟨QQ, hQQ⟩ : ∃ qq9, qq9 = vx_MQ below (va_Qi (fun (r : Int32) (u : Unit) => r = countA a b (w).toNatClampNeg ∧ cdCount w = 0) (fun (u : Unit) t => va_P D vwCl (([(x, .inr (3, [.ref (B 0), .ref (F 0), .ref (G 0)]))] : va_W) ++ ((wB cA B b) ++ ((wF cA F a c q) ++ (wF cA G a2 c2 q2)))) t.heap) A) (vx_X (S := Unit) (fun _ => True) (fun E _ t => (fun E => (cdCount w = 1 ∧ E = "java/lang/IndexOutOfBoundsException")) E ∧ va_P D vwCl (([(x, .inr (3, [.ref (B 0), .ref (F 0), .ref (G 0)]))] : va_W) ++ ((wB cA B b) ++ ((wF cA F a c q) ++ (wF cA G a2 c2 q2)))) t.heap) A) ([.ref x, .int w] : List Value).toArray s 1 6 A := ⟨_, rfl⟩
  rw [← hQQ]
  have hl := lv_entry ([.ref x, .int w]) (n := 2) (Nat.le_of_ble_eq_true rfl)
  rw [lg_entry_eq]
  generalize (lg_sl ([.ref x, .int w]) ++ List.replicate (2 - (lg_sl ([.ref x, .int w])).length) Slot.unset).toArray = ls at hl ⊢
  have hl : lv_has ls 2 [(0, .ref x), (1, .int w)] := hl
  have kw0 := hts (.classLink RX3 30 "java/lang/IndexOutOfBoundsException") (by decide +kernel)
  have kw1 := hts (.initialized "java/lang/IndexOutOfBoundsException") (by decide +kernel)
  obtain ⟨H, locs, hP, hS, hg1, hg2⟩ : ∃ H locs, va_P D vwCl (([(x, .inr (3, [.ref (B 0), .ref (F 0), .ref (G 0)]))] : va_W) ++ ((wB cA B b) ++ ((wF cA F a c q) ++ (wF cA G a2 c2 q2)))) H ∧ va_S A s.heap H locs ∧ H = s.heap ∧ locs = [] := ⟨_, _, hP, hS, rfl, rfl⟩
  have hgoal : W pg lch ev (headSpec wsX3_count ({ frames := 6, cells := 1, slots := 6, locals := 89 })).room s mi ([.ref x, .int w] : List Value).toArray below meth cd H locs 0 0 QQ (F0 mi 0 ls []) := by
    refine lv_iload_n hx hb dX3_count_0 rfl (lv_at hl 1 rfl) ?_
    refine lv_iconst (v := 0) hx hb dX3_count_1 (by decide) ?_
    refine lv_bipush (v := 9) hx hb dX3_count_2 (by decide) ?_
    refine pSi (As := [.int w, .int 0, .int 9]) (rest := []) (wc := ([] : va_W)) ⟨hx, hb, hml, hown, hts⟩ (K_X3_isWithin lch D cA w 0 9 H.size ) (cwS 3 hts gX3_count_X3_isWithin rfl rfl rfl (by decide +kernel) ⟨Nat.le_of_ble_eq_true rfl, Nat.le_of_ble_eq_true rfl⟩) hE hP hD hS hA [] rfl rfl X0.blind (fun _ _ _ => trivial) hl.1 rfl rfl (Nat.le_of_ble_eq_true rfl) dX3_count_4 ⟨Nat.zero_le _, Nat.zero_le _⟩ (fun r_1 u_2 H locs h_3 hP hS => ?_)
    subst h_3
    refine lv_if_ne (tgt := 20) hx hb dX3_count_7 (by decide) (fun c7 => ?_) (fun c7 => ?_)
    · skip
      have c7 := bi_1.mp c7
      obtain ⟨wn, hw9, ew⟩ := isW_nat (n := 9) c7 (by decide)
      subst ew
      refine lv_aload_n hx hb dX3_count_20 rfl (lv_at hl 0 rfl) ?_
      refine lv_iload_n hx hb dX3_count_21 rfl (lv_at hl 1 rfl) ?_
      refine pVi (As := [.int (nI wn)]) (rest := []) (wc := (([(x, .inr (3, [.ref (B 0), .ref (F 0), .ref (G 0)]))] : va_W) ++ ((wB cA B b) ++ ((wF cA F a c q) ++ (wF cA G a2 c2 q2))))) ⟨hx, hb, hml, hown, hts⟩ (K_X3_counted lch D cA x B F G b a c q a2 c2 q2 wn H.size (by first | assumption | omega) (by omega)) (cwV 1 hts gX3_count_X3_counted rfl rfl rfl (by decide +kernel) ⟨Nat.le_of_ble_eq_true rfl, Nat.le_of_ble_eq_true rfl⟩) hE hP hD hS hA [0, 1, 2, 3, 4, 5, 6, 7, 8, 9, 10, 11, 12, 13, 14, 15, 16, 17, 18, 19, 20, 21, 22, 23, 24, 25, 26, 27, 28, 29, 30, 31, 32, 33, 34, 35, 36, 37, 38, 39, 40, 41, 42, 43, 44, 45, 46, 47, 48, 49, 50, 51, 52, 53] rfl rfl X0.blind (fun _ _ _ => trivial) 0 3 rfl rfl rfl hl.1 rfl rfl (Nat.le_of_ble_eq_true rfl) dX3_count_22 ⟨Nat.zero_le _, Nat.zero_le _⟩ (fun r_4 u_5 H locs h_6 hP hS => ?_)
      subst h_6
      refine W.widen (k := 1) (n := 6) (by first | exact Nat.le_of_ble_eq_true rfl | omega) (by first | exact Nat.le_of_ble_eq_true rfl | omega) ?_
      rw [hQQ]
      refine vx_ret ?_
      exact W.iret (v := countA a b wn) hx hb hr (fun t ht hW => ⟨⟨countA a b wn, (), rfl, ⟨by rw [nI_clamp (by omega)], by unfold cdCount; rw [if_neg (by simp [c7])]⟩, by show va_P _ _ _ t.heap; rw [ht]; exact hP⟩, hS.F ht⟩) hS.2.2 dX3_count_25
    · skip
      have c7 := bi_0.mp c7
      rw [hQQ]
      exact thrI (sa := sa) (is := 165) (text := "nothing is counted of this") hx hb hlt hown kw0 kw1 (fun w h => hts w (List.mem_cons_of_mem _ (List.mem_append_right _ h))) hXs (by decide +kernel) hS hP (by rw [hml]; exact hl.1) dX3_count_10 dX3_count_13 dX3_count_14 dX3_count_16 dX3_count_19 htb (Nat.le_of_ble_eq_true rfl) (Nat.le_of_ble_eq_true rfl) (Nat.le_of_ble_eq_true rfl) (Nat.le_of_ble_eq_true rfl) hlocks (Nat.le_of_ble_eq_true rfl) (Nat.le_of_ble_eq_true rfl) (⟨by unfold cdCount; rw [if_pos c7], rfl⟩)
  rw [hg1, hg2] at hgoal
  exact hgoal
