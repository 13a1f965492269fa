set_option maxHeartbeats 4000000 in
set_option maxRecDepth 100000 in
/-- setCurrent -/
theorem K_X3_setCurrent (lch : Launch) (hlt : lch.stackTraces = false) (D : va_G) (cA : ClassId) (sa : Nat → Nat) (x : Nat) (B : Nat → Nat) (F : Nat → Nat) (G : Nat → Nat) (b : BSt) (a : FSt) (c : Nat → Int32) (q : Nat → Int32) (a2 : FSt) (c2 : Nat → Int32) (q2 : Nat → Int32) (la : Int32) (cu : Int32) (sz : Nat)  : vx_Met lch yX3_setCurrent wsX3_setCurrent ({ frames := 6, cells := 1, slots := 6, locals := 82 }) (Pr D cA [.ref x, .int la, .int cu] sz (([(x, .inr (3, [.ref (B 0), .ref (F 0), .ref (G 0)]))] : va_W) ++ ((wB cA B b) ++ ((wF cA F a c q) ++ (wF cA G a2 c2 q2)))) (TX sa (va_A (([(x, .inr (3, [.ref (B 0), .ref (F 0), .ref (G 0)]))] : va_W) ++ ((wB cA B b) ++ ((wF cA F a c q) ++ (wF cA G a2 c2 q2)))) sz))) (va_Qi (fun (r : Int32) (u : Unit) => r = nI (bCu b (la.toNatClampNeg)) ∧ cdCurrent la cu = 0) (fun (u : Unit) t => va_P D vwCl (([(x, .inr (3, [.ref (B 0), .ref (F 0), .ref (G 0)]))] : va_W) ++ ((wB cA B (vCu b (up (bCu b) (la.toNatClampNeg) (cu.toNatClampNeg)))) ++ ((wF cA F a c q) ++ (wF cA G a2 c2 q2)))) t.heap) (va_A (([(x, .inr (3, [.ref (B 0), .ref (F 0), .ref (G 0)]))] : va_W) ++ ((wB cA B b) ++ ((wF cA F a c q) ++ (wF cA G a2 c2 q2)))) sz)) (vx_X (S := Unit) (fun _ => True) (fun E _ t => (fun E => (cdCurrent la cu = 1 ∧ E = "java/lang/IndexOutOfBoundsException") ∨ (cdCurrent la cu = 2 ∧ E = "java/lang/IllegalArgumentException")) E ∧ va_P D vwCl (([(x, .inr (3, [.ref (B 0), .ref (F 0), .ref (G 0)]))] : va_W) ++ ((wB cA B b) ++ ((wF cA F a c q) ++ (wF cA G a2 c2 q2)))) t.heap) (va_A (([(x, .inr (3, [.ref (B 0), .ref (F 0), .ref (G 0)]))] : va_W) ++ ((wB cA B b) ++ ((wF cA F a c q) ++ (wF cA G a2 c2 q2)))) sz)) 1 6 (va_A (([(x, .inr (3, [.ref (B 0), .ref (F 0), .ref (G 0)]))] : va_W) ++ ((wB cA B b) ++ ((wF cA F a c q) ++ (wF cA G a2 c2 q2)))) sz) := by
  refine vx_ofW (cc := cX3_setCurrent) (maxL := 4) (ret := (some .int)) (by decide) rfl ?_
  intro pg ev s mi args below meth cd s₁ B hml htb hv
  obtain ⟨hav, hsz, hP, hE, hD, hXs⟩ := hv
  have hx := B.exec
  have hb := B.bytes
  have hr := B.returns
  have hts := atoms_spec (ws := wsX3_setCurrent) B.pre
  have hown : s.vm.findClass RX3 = some mi.cls := findClass_of_methodNamed B.named
  have hlocks := B.notSynchronized
  clear B
  subst hav
  subst hsz
  have hD := hD.self (sz := s.heap.size)
  generalize hAe : va_A (([(x, .inr (3, [.ref (B 0), .ref (F 0), .ref (G 0)]))] : va_W) ++ ((wB cA B b) ++ ((wF cA F a c q) ++ (wF cA G a2 c2 q2)))) s.heap.size = A at hD hXs ⊢
  have hA : ∀ q : Nat, s.heap.size ≤ q → A q := fun q h => by rw [← hAe]; exact Or.inr h
  have hS : va_S A s.heap s.heap [] := va_S.rf
  obtain ⟨QQ, hQQ⟩ : ∃ qq9, qq9 = vx_MQ below (va_Qi (fun (r : Int32) (u : Unit) => r = nI (bCu b (la.toNatClampNeg)) ∧ cdCurrent la cu = 0) (fun (u : Unit) t => va_P D vwCl (([(x, .inr (3, [.ref (B 0), .ref (F 0), .ref (G 0)]))] : va_W) ++ ((wB cA B (vCu b (up (bCu b) (la.toNatClampNeg) (cu.toNatClampNeg)))) ++ ((wF cA F a c q) ++ (wF cA G a2 c2 q2)))) t.heap) A) (vx_X (S := Unit) (fun _ => True) (fun E _ t => (fun E => (cdCurrent la cu = 1 ∧ E = "java/lang/IndexOutOfBoundsException") ∨ (cdCurrent la cu = 2 ∧ E = "java/lang/IllegalArgumentException")) E ∧ va_P D vwCl (([(x, .inr (3, [.ref (B 0), .ref (F 0), .ref (G 0)]))] : va_W) ++ ((wB cA B b) ++ ((wF cA F a c q) ++ (wF cA G a2 c2 q2)))) t.heap) A) ([.ref x, .int la, .int cu] : List Value).toArray s 1 6 A := ⟨_, rfl⟩
  rw [← hQQ]
  have hl := lv_entry ([.ref x, .int la, .int cu]) (n := 4) (Nat.le_of_ble_eq_true rfl)
  rw [lg_entry_eq]
  generalize (lg_sl ([.ref x, .int la, .int cu]) ++ List.replicate (4 - (lg_sl ([.ref x, .int la, .int cu])).length) Slot.unset).toArray = ls at hl ⊢
  have hl : lv_has ls 4 [(0, .ref x), (1, .int la), (2, .int cu)] := hl
  have kf10 := hts (.fieldLink RX3 10 "LanternWeirs" "bed" "LLanternWeirs$Bed;") (by decide +kernel)
  have inX3 : ∀ w ∈ u_ws RX3 TX3 3, w ∈ wsX3_setCurrent := by decide +kernel
  have kf46 := hts (.fieldLink RX3 46 "LanternWeirs$Bed" "currents" "LLanternWeirs$Row;") (by decide +kernel)
  have inX0 : ∀ w ∈ u_ws RX0 TX0 5, w ∈ wsX3_setCurrent := by decide +kernel
  have kw4 := hts (.classLink RX3 41 "java/lang/IllegalArgumentException") (by decide +kernel)
  have kw5 := hts (.initialized "java/lang/IllegalArgumentException") (by decide +kernel)
  have kw6 := hts (.classLink RX3 30 "java/lang/IndexOutOfBoundsException") (by decide +kernel)
  have kw7 := hts (.initialized "java/lang/IndexOutOfBoundsException") (by decide +kernel)
  obtain ⟨H, locs, hP, hS, hg1, hg2⟩ : ∃ H locs, va_P D vwCl (([(x, .inr (3, [.ref (B 0), .ref (F 0), .ref (G 0)]))] : va_W) ++ ((wB cA B b) ++ ((wF cA F a c q) ++ (wF cA G a2 c2 q2)))) H ∧ va_S A s.heap H locs ∧ H = s.heap ∧ locs = [] := ⟨_, _, hP, hS, rfl, rfl⟩
  have hgoal : W pg lch ev (headSpec wsX3_setCurrent ({ frames := 6, cells := 1, slots := 6, locals := 82 })).room s mi ([.ref x, .int la, .int cu] : List Value).toArray below meth cd H locs 0 0 QQ (F0 mi 0 ls []) := by
    refine lv_iload_n hx hb dX3_setCurrent_0 rfl (lv_at hl 1 rfl) ?_
    refine pSi (As := [.int la]) (rest := []) (wc := ([] : va_W)) ⟨hx, hb, hml, hown, hts⟩ (K_X3_isLane lch D cA la H.size ) (cwS 1 hts gX3_setCurrent_X3_isLane rfl rfl rfl (by decide +kernel) ⟨Nat.le_of_ble_eq_true rfl, Nat.le_of_ble_eq_true rfl⟩) hE hP hD hS hA [] rfl rfl X0.blind (fun _ _ _ => trivial) hl.1 rfl rfl (Nat.le_of_ble_eq_true rfl) dX3_setCurrent_1 ⟨Nat.zero_le _, Nat.zero_le _⟩ (fun r_1 u_2 H locs h_3 hP hS => ?_)
    subst h_3
    refine lv_if_ne (tgt := 17) hx hb dX3_setCurrent_4 (by decide) (fun c4 => ?_) (fun c4 => ?_)
    · skip
      have c4 := bi_1.mp c4
      refine lv_iload_n hx hb dX3_setCurrent_17 rfl (lv_at hl 2 rfl) ?_
      refine lv_iconst (v := 1) hx hb dX3_setCurrent_18 (by decide) ?_
      refine lv_iconst (v := 5) hx hb dX3_setCurrent_19 (by decide) ?_
      refine pSi (As := [.int cu, .int 1, .int 5]) (rest := []) (wc := ([] : va_W)) ⟨hx, hb, hml, hown, hts⟩ (K_X3_isWithin lch D cA cu 1 5 H.size ) (cwS 3 hts gX3_setCurrent_X3_isWithin rfl rfl rfl (by decide +kernel) ⟨Nat.le_of_ble_eq_true rfl, Nat.le_of_ble_eq_true rfl⟩) hE hP hD hS hA [] rfl rfl X0.blind (fun _ _ _ => trivial) hl.1 rfl rfl (Nat.le_of_ble_eq_true rfl) dX3_setCurrent_20 ⟨Nat.zero_le _, Nat.zero_le _⟩ (fun r_4 u_5 H locs h_6 hP hS => ?_)
      subst h_6
      refine lv_if_ne (tgt := 36) hx hb dX3_setCurrent_23 (by decide) (fun c23 => ?_) (fun c23 => ?_)
      · skip
        have c23 := bi_1.mp c23
        obtain ⟨lan, hla9, ela⟩ := isW_nat (n := 2) c4 (by decide)
        subst ela
        obtain ⟨cun, hcu9, ecu⟩ := isW_nat (n := 5) (isW_0 c23) (by decide)
        subst ecu
        refine lv_aload_n hx hb dX3_setCurrent_36 rfl (lv_at hl 0 rfl) ?_
        refine va_get (D := D) (ci := 3) (v := .ref (B 0)) (C := RX3) (T := TX3) (N := 3) hx hb hts inX3 hown hE.1 hP 0 rfl rfl 0 (by decide) kf10 (fun _ h9 => h9) rfl dX3_setCurrent_37 ?_
        refine va_get (D := D) (ci := 0) (v := .ref (B 1)) (C := RX0) (T := TX0) (N := 5) hx hb hts inX0 hown hE.1 hP 1 rfl rfl 0 (by decide) kf46 (fun _ h9 => h9) rfl dX3_setCurrent_40 ?_
        refine lv_iload_n hx hb dX3_setCurrent_43 rfl (lv_at hl 1 rfl) ?_
        refine pVi (As := [.int (nI lan)]) (rest := []) (wc := (wR cA (B 1) (B 4) 3 (fun z9 => nI (bCu b z9)))) ⟨hx, hb, hml, hown, hts⟩ (K_X2_getk lch D cA (B 1) (B 4) 3 (fun z9 => nI (bCu b z9)) lan (nI (bCu b lan)) H.size (by omega) (Nat.le_of_ble_eq_true rfl) (rfl)) (cwV 1 hts gX3_setCurrent_X2_get rfl rfl rfl (by decide +kernel) ⟨Nat.le_of_ble_eq_true rfl, Nat.le_of_ble_eq_true rfl⟩) hE hP hD hS hA [2, 5] rfl rfl X0.blind (fun _ _ _ => trivial) 2 2 rfl rfl rfl hl.1 rfl rfl (Nat.le_of_ble_eq_true rfl) dX3_setCurrent_44 ⟨Nat.zero_le _, Nat.zero_le _⟩ (fun r_7 u_8 H locs h_9 hP hS => ?_)
        subst h_9
        refine lv_istore_n (lv' := [(3, .int (nI (bCu b lan))), (0, .ref x), (1, .int (nI lan)), (2, .int (nI cun))]) hx hb dX3_setCurrent_47 rfl hl (by decide) rfl (fun ls hl => ?_)
        refine lv_aload_n hx hb dX3_setCurrent_48 rfl (lv_at hl 1 rfl) ?_
        refine va_get (D := D) (ci := 3) (v := .ref (B 0)) (C := RX3) (T := TX3) (N := 3) hx hb hts inX3 hown hE.1 hP 0 rfl rfl 0 (by decide) kf10 (fun _ h9 => h9) rfl dX3_setCurrent_49 ?_
        refine va_get (D := D) (ci := 0) (v := .ref (B 1)) (C := RX0) (T := TX0) (N := 5) hx hb hts inX0 hown hE.1 hP 1 rfl rfl 0 (by decide) kf46 (fun _ h9 => h9) rfl dX3_setCurrent_52 ?_
        refine lv_iload_n hx hb dX3_setCurrent_55 rfl (lv_at hl 2 rfl) ?_
        refine lv_iload_n hx hb dX3_setCurrent_56 rfl (lv_at hl 3 rfl) ?_
        refine cVv (wB := fun (u_11 : Unit) => (wR cA (B 1) (B 4) 3 (fun z9 => nI (bCu (vCu b (up (bCu b) lan cun)) z9)))) (As := [.int (nI lan), .int (nI cun)]) (rest := []) (wc := (wR cA (B 1) (B 4) 3 (fun z9 => nI (bCu b z9)))) ⟨hx, hb, hml, hown, hts⟩ (K_X2_putk lch D cA (B 1) (B 4) 3 (fun z9 => nI (bCu b z9)) lan (nI cun) (fun z9 => nI (bCu (vCu b (up (bCu b) lan cun)) z9)) H.size (by omega) (Nat.le_of_ble_eq_true rfl) (fun j _ => upd_N j)) (cwV 2 hts gX3_setCurrent_X2_put rfl rfl rfl (by decide +kernel) ⟨Nat.le_of_ble_eq_true rfl, Nat.le_of_ble_eq_true rfl⟩) hE hP hD hS hA [2, 5] rfl rfl [B 1, B 4] (fun _ => rfl) rfl (fun (u_11 : Unit) => (([(x, .inr (3, [.ref (B 0), .ref (F 0), .ref (G 0)]))] : va_W) ++ ((wB cA B (vCu b (up (bCu b) lan cun))) ++ ((wF cA F a c q) ++ (wF cA G a2 c2 q2))))) (fun _ => rfl) X0.blind (fun _ _ _ => trivial) 2 2 rfl rfl rfl hl.1 rfl rfl (Nat.le_of_ble_eq_true rfl) dX3_setCurrent_57 ⟨Nat.zero_le _, Nat.zero_le _⟩ (fun u_11 H locs h_12 hP hD hS => ?_)
        refine lv_iload_n hx hb dX3_setCurrent_60 rfl (lv_at hl 0 rfl) ?_
        refine W.widen (k := 1) (n := 6) (by first | exact Nat.le_of_ble_eq_true rfl | omega) (by first | exact Nat.le_of_ble_eq_true rfl | omega) ?_
        have ewd : vCu b (up (bCu b) ((nI lan).toNatClampNeg) ((nI cun).toNatClampNeg)) = vCu b (up (bCu b) lan cun) := by rw [nI_clamp (by omega), nI_clamp (by omega)]
        rw [← ewd] at hP
        rw [hQQ]
        refine vx_ret ?_
        exact W.iret (v := nI (bCu b lan)) hx hb hr (fun t ht hW => ⟨⟨nI (bCu b lan), (), rfl, ⟨by rw [nI_clamp (by omega)], by unfold cdCurrent; rw [if_neg (by simp [c4]), if_neg (by simp [c23])]⟩, by show va_P _ _ _ t.heap; rw [ht]; exact hP⟩, hS.F ht⟩) hS.2.2 dX3_setCurrent_61
      · skip
        have c23 := bi_0.mp c23
        rw [hQQ]
        exact thrA (sa := sa) (is := 43) (text := "no such current") hx hb hlt hown kw4 kw5 (fun w h => hts w (List.mem_cons_of_mem _ (List.mem_append_right _ h))) hXs (by decide +kernel) hS hP (by rw [hml]; exact hl.1) dX3_setCurrent_26 dX3_setCurrent_29 dX3_setCurrent_30 dX3_setCurrent_32 dX3_setCurrent_35 htb (Nat.le_of_ble_eq_true rfl) (Nat.le_of_ble_eq_true rfl) (Nat.le_of_ble_eq_true rfl) (Nat.le_of_ble_eq_true rfl) hlocks (Nat.le_of_ble_eq_true rfl) (Nat.le_of_ble_eq_true rfl) (Or.inr (⟨by simp [cdCurrent, c4, c23], rfl⟩))
    · skip
      have c4 := bi_0.mp c4
      rw [hQQ]
      exact thrI (sa := sa) (is := 32) (text := "no such lane") hx hb hlt hown kw6 kw7 (fun w h => hts w (List.mem_cons_of_mem _ (List.mem_append_left _ (List.mem_append_right _ h)))) hXs (by decide +kernel) hS hP (by rw [hml]; exact hl.1) dX3_setCurrent_7 dX3_setCurrent_10 dX3_setCurrent_11 dX3_setCurrent_13 dX3_setCurrent_16 htb (Nat.le_of_ble_eq_true rfl) (Nat.le_of_ble_eq_true rfl) (Nat.le_of_ble_eq_true rfl) (Nat.le_of_ble_eq_true rfl) hlocks (Nat.le_of_ble_eq_true rfl) (Nat.le_of_ble_eq_true rfl) (Or.inl ⟨by simp [cdCurrent, c4], rfl⟩)
  rw [hg1, hg2] at hgoal
  exact hgoal
