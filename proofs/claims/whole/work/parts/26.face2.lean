set_option maxHeartbeats 4000000 in
set_option maxRecDepth 100000 in
/-- weir -/
theorem K_X3_weir (lch : Launch) (hlt : lch.stackTraces = false) (D : va_G) (cA : ClassId) (sa : Nat → Nat) (x : Nat) (B : Nat → Nat) (F : Nat → Nat) (G : Nat → Nat) (b : BSt) (a : FSt) (c : Nat → Int32) (q : Nat → Int32) (a2 : FSt) (c2 : Nat → Int32) (q2 : Nat → Int32) (pl : Int32) (v : Int32) (sz : Nat) (hwb : WFb b) : vx_Met lch yX3_weir wsX3_weir ({ frames := 6, cells := 1, slots := 6, locals := 82 }) (Pr D cA [.ref x, .int pl, .int v] sz (([(x, .inr (3, [.ref (B 0), .ref (F 0), .ref (G 0)]))] : va_W) ++ ((wB cA B b) ++ ((wF cA F a c q) ++ (wF cA G a2 c2 q2)))) (TX sa (va_A (([(x, .inr (3, [.ref (B 0), .ref (F 0), .ref (G 0)]))] : va_W) ++ ((wB cA B b) ++ ((wF cA F a c q) ++ (wF cA G a2 c2 q2)))) sz))) (va_Qi (fun (r : Int32) (u : Unit) => r = nI (bW b + 1) ∧ cdWeir b pl v = 0) (fun (u : Unit) t => va_P D vwCl (([(x, .inr (3, [.ref (B 0), .ref (F 0), .ref (G 0)]))] : va_W) ++ ((wB cA B (vW (vSp b (up (bSp b) (pl).toNatClampNeg v)) (bW b + 1))) ++ ((wF cA F a c q) ++ (wF cA G a2 c2 q2)))) t.heap) (va_A (([(x, .inr (3, [.ref (B 0), .ref (F 0), .ref (G 0)]))] : va_W) ++ ((wB cA B b) ++ ((wF cA F a c q) ++ (wF cA G a2 c2 q2)))) sz)) (vx_X (S := Unit) (fun _ => True) (fun E _ t => (fun E => (cdWeir b pl v = 1 ∧ E = "java/lang/IndexOutOfBoundsException") ∨ (cdWeir b pl v = 2 ∧ E = "java/lang/IllegalArgumentException") ∨ (cdWeir b pl v = 3 ∧ E = "java/lang/IllegalStateException")) E ∧ va_P D vwCl (([(x, .inr (3, [.ref (B 0), .ref (F 0), .ref (G 0)]))] : va_W) ++ ((wB cA B b) ++ ((wF cA F a c q) ++ (wF cA G a2 c2 q2)))) t.heap) (va_A (([(x, .inr (3, [.ref (B 0), .ref (F 0), .ref (G 0)]))] : va_W) ++ ((wB cA B b) ++ ((wF cA F a c q) ++ (wF cA G a2 c2 q2)))) sz)) 1 6 (va_A (([(x, .inr (3, [.ref (B 0), .ref (F 0), .ref (G 0)]))] : va_W) ++ ((wB cA B b) ++ ((wF cA F a c q) ++ (wF cA G a2 c2 q2)))) sz) := by
  refine vx_ofW (cc := cX3_weir) (maxL := 3) (ret := (some .int)) (by decide) rfl ?_
  intro pg ev s mi args below meth cd s₁ B hml htb hv
  obtain ⟨hav, hsz, hP, hE, hD, hXs⟩ := hv
  have hx := B.exec
  have hb := B.bytes
  have hr := B.returns
  have hts := atoms_spec (ws := wsX3_weir) B.pre
  have hown : s.vm.findClass RX3 = some mi.cls := findClass_of_methodNamed B.named
  have hlocks := B.notSynchronized
  clear B
  subst hav
  subst hsz
  have hD := hD.self (sz := s.heap.size)
  generalize hAe : va_A (([(x, .inr (3, [.ref (B 0), .ref (F 0), .ref (G 0)]))] : va_W) ++ ((wB cA B b) ++ ((wF cA F a c q) ++ (wF cA G a2 c2 q2)))) s.heap.size = A at hD hXs ⊢
  have hA : ∀ q : Nat, s.heap.size ≤ q → A q := fun q h => by rw [← hAe]; exact Or.inr h
  have hS : va_S A s.heap s.heap [] := va_S.rf
  obtain ⟨QQ, hQQ⟩ : ∃ qq9, qq9 = vx_MQ below (va_Qi (fun (r : Int32) (u : Unit) => r = nI (bW b + 1) ∧ cdWeir b pl v = 0) (fun (u : Unit) t => va_P D vwCl (([(x, .inr (3, [.ref (B 0), .ref (F 0), .ref (G 0)]))] : va_W) ++ ((wB cA B (vW (vSp b (up (bSp b) (pl).toNatClampNeg v)) (bW b + 1))) ++ ((wF cA F a c q) ++ (wF cA G a2 c2 q2)))) t.heap) A) (vx_X (S := Unit) (fun _ => True) (fun E _ t => (fun E => (cdWeir b pl v = 1 ∧ E = "java/lang/IndexOutOfBoundsException") ∨ (cdWeir b pl v = 2 ∧ E = "java/lang/IllegalArgumentException") ∨ (cdWeir b pl v = 3 ∧ E = "java/lang/IllegalStateException")) E ∧ va_P D vwCl (([(x, .inr (3, [.ref (B 0), .ref (F 0), .ref (G 0)]))] : va_W) ++ ((wB cA B b) ++ ((wF cA F a c q) ++ (wF cA G a2 c2 q2)))) t.heap) A) ([.ref x, .int pl, .int v] : List Value).toArray s 1 6 A := ⟨_, rfl⟩
  rw [← hQQ]
  have hl := lv_entry ([.ref x, .int pl, .int v]) (n := 3) (Nat.le_of_ble_eq_true rfl)
  rw [lg_entry_eq]
  generalize (lg_sl ([.ref x, .int pl, .int v]) ++ List.replicate (3 - (lg_sl ([.ref x, .int pl, .int v])).length) Slot.unset).toArray = ls at hl ⊢
  have hl : lv_has ls 3 [(0, .ref x), (1, .int pl), (2, .int v)] := hl
  have kf10 := hts (.fieldLink RX3 10 "LanternWeirs" "bed" "LLanternWeirs$Bed;") (by decide +kernel)
  have inX3 : ∀ w ∈ u_ws RX3 TX3 3, w ∈ wsX3_weir := by decide +kernel
  have kf64 := hts (.fieldLink RX3 64 "LanternWeirs$Bed" "weirs" "I") (by decide +kernel)
  have inX0 : ∀ w ∈ u_ws RX0 TX0 5, w ∈ wsX3_weir := by decide +kernel
  have kw4 := hts (.classLink RX3 71 "java/lang/IllegalStateException") (by decide +kernel)
  have kw5 := hts (.initialized "java/lang/IllegalStateException") (by decide +kernel)
  have kf68 := hts (.fieldLink RX3 68 "LanternWeirs$Bed" "sprays" "LLanternWeirs$Row;") (by decide +kernel)
  have kw7 := hts (.classLink RX3 41 "java/lang/IllegalArgumentException") (by decide +kernel)
  have kw8 := hts (.initialized "java/lang/IllegalArgumentException") (by decide +kernel)
  have kw9 := hts (.classLink RX3 30 "java/lang/IndexOutOfBoundsException") (by decide +kernel)
  have kw10 := hts (.initialized "java/lang/IndexOutOfBoundsException") (by decide +kernel)
  obtain ⟨H, locs, hP, hS, hg1, hg2⟩ : ∃ H locs, va_P D vwCl (([(x, .inr (3, [.ref (B 0), .ref (F 0), .ref (G 0)]))] : va_W) ++ ((wB cA B b) ++ ((wF cA F a c q) ++ (wF cA G a2 c2 q2)))) H ∧ va_S A s.heap H locs ∧ H = s.heap ∧ locs = [] := ⟨_, _, hP, hS, rfl, rfl⟩
  have hgoal : W pg lch ev (headSpec wsX3_weir ({ frames := 6, cells := 1, slots := 6, locals := 82 })).room s mi ([.ref x, .int pl, .int v] : List Value).toArray below meth cd H locs 0 0 QQ (F0 mi 0 ls []) := by
    have hw6 := hwb.2.1
    refine lv_iload_n hx hb dX3_weir_0 rfl (lv_at hl 1 rfl) ?_
    refine lv_iconst (v := 1) hx hb dX3_weir_1 (by decide) ?_
    refine lv_bipush (v := 59) hx hb dX3_weir_2 (by decide) ?_
    refine pSi (As := [.int pl, .int 1, .int 59]) (rest := []) (wc := ([] : va_W)) ⟨hx, hb, hml, hown, hts⟩ (K_X3_isWithin lch D cA pl 1 59 H.size ) (cwS 3 hts gX3_weir_X3_isWithin rfl rfl rfl (by decide +kernel) ⟨Nat.le_of_ble_eq_true rfl, Nat.le_of_ble_eq_true rfl⟩) hE hP hD hS hA [] rfl rfl X0.blind (fun _ _ _ => trivial) hl.1 rfl rfl (Nat.le_of_ble_eq_true rfl) dX3_weir_4 ⟨Nat.zero_le _, Nat.zero_le _⟩ (fun r_1 u_2 H locs h_3 hP hS => ?_)
    subst h_3
    refine lv_if_ne (tgt := 20) hx hb dX3_weir_7 (by decide) (fun c7 => ?_) (fun c7 => ?_)
    · skip
      have c7 := bi_1.mp c7
      refine lv_iload_n hx hb dX3_weir_20 rfl (lv_at hl 2 rfl) ?_
      refine lv_iconst (v := 1) hx hb dX3_weir_21 (by decide) ?_
      refine lv_bipush (v := 9) hx hb dX3_weir_22 (by decide) ?_
      refine pSi (As := [.int v, .int 1, .int 9]) (rest := []) (wc := ([] : va_W)) ⟨hx, hb, hml, hown, hts⟩ (K_X3_isWithin lch D cA v 1 9 H.size ) (cwS 3 hts gX3_weir_X3_isWithin rfl rfl rfl (by decide +kernel) ⟨Nat.le_of_ble_eq_true rfl, Nat.le_of_ble_eq_true rfl⟩) hE hP hD hS hA [] rfl rfl X0.blind (fun _ _ _ => trivial) hl.1 rfl rfl (Nat.le_of_ble_eq_true rfl) dX3_weir_24 ⟨Nat.zero_le _, Nat.zero_le _⟩ (fun r_4 u_5 H locs h_6 hP hS => ?_)
      subst h_6
      refine lv_if_ne (tgt := 40) hx hb dX3_weir_27 (by decide) (fun c27 => ?_) (fun c27 => ?_)
      · skip
        have c27 := bi_1.mp c27
        obtain ⟨pln, hpl9, epl⟩ := isW_nat (n := 59) (isW_0 c7) (by decide)
        subst epl
        refine lv_aload_n hx hb dX3_weir_40 rfl (lv_at hl 0 rfl) ?_
        refine va_get (D := D) (ci := 3) (v := .ref (B 0)) (C := RX3) (T := TX3) (N := 3) hx hb hts inX3 hown hE.1 hP 0 rfl rfl 0 (by decide) kf10 (fun _ h9 => h9) rfl dX3_weir_41 ?_
        refine va_get (D := D) (ci := 0) (v := .int (nI (bW b))) (C := RX0) (T := TX0) (N := 5) hx hb hts inX0 hown hE.1 hP 1 rfl rfl 3 (by decide) kf64 (fun _ h9 => h9) rfl dX3_weir_44 ?_
        refine lv_bipush (v := 6) hx hb dX3_weir_47 (by decide) ?_
        refine lv_icmp_ge (tgt := 66) hx hb dX3_weir_49 (by decide) (fun c49 => ?_) (fun c49 => ?_)
        · skip
          have c49 := (nI_leI (a := 6) (b := bW b) (by omega) (by omega)).mp c49
          rw [hQQ]
          exact thrS (sa := sa) (is := 73) (text := "too many weirs, or one is there") hx hb hlt hown kw4 kw5 (fun w h => hts w (List.mem_cons_of_mem _ (List.mem_append_right _ h))) hXs (by decide +kernel) hS hP (by rw [hml]; exact hl.1) dX3_weir_66 dX3_weir_69 dX3_weir_70 dX3_weir_72 dX3_weir_75 htb (Nat.le_of_ble_eq_true rfl) (Nat.le_of_ble_eq_true rfl) (Nat.le_of_ble_eq_true rfl) (Nat.le_of_ble_eq_true rfl) hlocks (Nat.le_of_ble_eq_true rfl) (Nat.le_of_ble_eq_true rfl) (Or.inr (Or.inr (⟨by unfold cdWeir; rw [if_neg (by simp [c7]), if_neg (by simp [c27]), if_pos (Or.inl (by omega))], rfl⟩)))
        · skip
          have c49 := (not_congr (nI_leI (a := 6) (b := bW b) (by omega) (by omega))).mp c49
          refine lv_aload_n hx hb dX3_weir_52 rfl (lv_at hl 0 rfl) ?_
          refine va_get (D := D) (ci := 3) (v := .ref (B 0)) (C := RX3) (T := TX3) (N := 3) hx hb hts inX3 hown hE.1 hP 0 rfl rfl 0 (by decide) kf10 (fun _ h9 => h9) rfl dX3_weir_53 ?_
          refine va_get (D := D) (ci := 0) (v := .ref (B 2)) (C := RX0) (T := TX0) (N := 5) hx hb hts inX0 hown hE.1 hP 1 rfl rfl 1 (by decide) kf68 (fun _ h9 => h9) rfl dX3_weir_56 ?_
          refine lv_iload_n hx hb dX3_weir_59 rfl (lv_at hl 1 rfl) ?_
          refine pVi (As := [.int (nI pln)]) (rest := []) (wc := (wR cA (B 2) (B 5) 60 (bSp b))) ⟨hx, hb, hml, hown, hts⟩ (K_X2_getk lch D cA (B 2) (B 5) 60 (bSp b) pln (bSp b pln) H.size (by omega) (Nat.le_of_ble_eq_true rfl) (rfl)) (cwV 1 hts gX3_weir_X2_get rfl rfl rfl (by decide +kernel) ⟨Nat.le_of_ble_eq_true rfl, Nat.le_of_ble_eq_true rfl⟩) hE hP hD hS hA [3, 6] rfl rfl X0.blind (fun _ _ _ => trivial) 3 2 rfl rfl rfl hl.1 rfl rfl (Nat.le_of_ble_eq_true rfl) dX3_weir_60 ⟨Nat.zero_le _, Nat.zero_le _⟩ (fun r_7 u_8 H locs h_9 hP hS => ?_)
          subst h_9
          refine lv_if_le (tgt := 76) hx hb dX3_weir_63 (by decide) (fun c63 => ?_) (fun c63 => ?_)
          · skip
            refine lv_aload_n hx hb dX3_weir_76 rfl (lv_at hl 0 rfl) ?_
            refine va_get (D := D) (ci := 3) (v := .ref (B 0)) (C := RX3) (T := TX3) (N := 3) hx hb hts inX3 hown hE.1 hP 0 rfl rfl 0 (by decide) kf10 (fun _ h9 => h9) rfl dX3_weir_77 ?_
            refine lv_iload_n hx hb dX3_weir_80 rfl (lv_at hl 1 rfl) ?_
            refine lv_iload_n hx hb dX3_weir_81 rfl (lv_at hl 2 rfl) ?_
            refine cVi (wB := fun (u_11 : Unit) => (wB cA B (vW (vSp b (up (bSp b) pln v)) (bW b + 1)))) (As := [.int (nI pln), .int v]) (rest := []) (wc := (wB cA B b)) ⟨hx, hb, hml, hown, hts⟩ (K_X0_addWeir lch D cA B b pln v H.size (by first | assumption | omega)) (cwV 2 hts gX3_weir_X0_addWeir rfl rfl rfl (by decide +kernel) ⟨Nat.le_of_ble_eq_true rfl, Nat.le_of_ble_eq_true rfl⟩) hE hP hD hS hA [1, 2, 3, 4, 5, 6, 7] rfl rfl [B 0, B 1, B 2, B 3, B 4, B 5, B 6] (fun _ => rfl) rfl (fun (u_11 : Unit) => (([(x, .inr (3, [.ref (B 0), .ref (F 0), .ref (G 0)]))] : va_W) ++ ((wB cA B (vW (vSp b (up (bSp b) pln v)) (bW b + 1))) ++ ((wF cA F a c q) ++ (wF cA G a2 c2 q2))))) (fun _ => pst_blk ([(x, .inr (3, [.ref (B 0), .ref (F 0), .ref (G 0)]))] : va_W) ((wF cA F a c q) ++ (wF cA G a2 c2 q2)) (wc := (wB cA B b)) 7 1 rfl rfl rfl rfl rfl rfl) X0.blind (fun _ _ _ => trivial) 1 0 rfl rfl rfl hl.1 rfl rfl (Nat.le_of_ble_eq_true rfl) dX3_weir_82 ⟨Nat.zero_le _, Nat.zero_le _⟩ (fun r_10 u_11 H locs h_12 hP hD hS => ?_)
            subst h_12
            refine W.widen (k := 1) (n := 6) (by first | exact Nat.le_of_ble_eq_true rfl | omega) (by first | exact Nat.le_of_ble_eq_true rfl | omega) ?_
            have ewd : vW (vSp b (up (bSp b) ((nI pln).toNatClampNeg) v)) (bW b + 1) = vW (vSp b (up (bSp b) pln v)) (bW b + 1) := by rw [nI_clamp (by omega)]
            rw [← ewd] at hP
            rw [hQQ]
            refine vx_ret ?_
            exact W.iret (v := nI (bW b + 1)) hx hb hr (fun t ht hW => ⟨⟨nI (bW b + 1), (), rfl, ⟨rfl, by unfold cdWeir; rw [if_neg (by simp [c7]), if_neg (by simp [c27]), if_neg (fun q => q.elim (fun q => by omega) (fun q => by rw [nI_clamp (by omega)] at q; exact nlt0.mp c63 q))]⟩, by show va_P _ _ _ t.heap; rw [ht]; exact hP⟩, hS.F ht⟩) hS.2.2 dX3_weir_85
          · skip
            rw [hQQ]
            exact thrS (sa := sa) (is := 73) (text := "too many weirs, or one is there") hx hb hlt hown kw4 kw5 (fun w h => hts w (List.mem_cons_of_mem _ (List.mem_append_right _ h))) hXs (by decide +kernel) hS hP (by rw [hml]; exact hl.1) dX3_weir_66 dX3_weir_69 dX3_weir_70 dX3_weir_72 dX3_weir_75 htb (Nat.le_of_ble_eq_true rfl) (Nat.le_of_ble_eq_true rfl) (Nat.le_of_ble_eq_true rfl) (Nat.le_of_ble_eq_true rfl) hlocks (Nat.le_of_ble_eq_true rfl) (Nat.le_of_ble_eq_true rfl) (Or.inr (Or.inr (⟨by unfold cdWeir; rw [if_neg (by simp [c7]), if_neg (by simp [c27]), if_pos (Or.inr (by rw [nI_clamp (by omega)]; exact (nle_iff _ _).mp c63))], rfl⟩)))
      · skip
        have c27 := bi_0.mp c27
        rw [hQQ]
        exact thrA (sa := sa) (is := 62) (text := "no such spray") hx hb hlt hown kw7 kw8 (fun w h => hts w (List.mem_cons_of_mem _ (List.mem_append_left _ (List.mem_append_right _ h)))) hXs (by decide +kernel) hS hP (by rw [hml]; exact hl.1) dX3_weir_30 dX3_weir_33 dX3_weir_34 dX3_weir_36 dX3_weir_39 htb (Nat.le_of_ble_eq_true rfl) (Nat.le_of_ble_eq_true rfl) (Nat.le_of_ble_eq_true rfl) (Nat.le_of_ble_eq_true rfl) hlocks (Nat.le_of_ble_eq_true rfl) (Nat.le_of_ble_eq_true rfl) (Or.inr (Or.inl ⟨by unfold cdWeir; rw [if_neg (by simp [c7]), if_pos c27], rfl⟩))
    · skip
      have c7 := bi_0.mp c7
      rw [hQQ]
      exact thrI (sa := sa) (is := 60) (text := "no place for a weir") hx hb hlt hown kw9 kw10 (fun w h => hts w (List.mem_cons_of_mem _ (List.mem_append_left _ (List.mem_append_left _ (List.mem_append_right _ h))))) hXs (by decide +kernel) hS hP (by rw [hml]; exact hl.1) dX3_weir_10 dX3_weir_13 dX3_weir_14 dX3_weir_16 dX3_weir_19 htb (Nat.le_of_ble_eq_true rfl) (Nat.le_of_ble_eq_true rfl) (Nat.le_of_ble_eq_true rfl) (Nat.le_of_ble_eq_true rfl) hlocks (Nat.le_of_ble_eq_true rfl) (Nat.le_of_ble_eq_true rfl) (Or.inl ⟨by unfold cdWeir; rw [if_pos c7], rfl⟩)
  rw [hg1, hg2] at hgoal
  exact hgoal

set_option maxHeartbeats 4000000 in
set_option maxRecDepth 100000 in
/-- net -/
theorem K_X3_net (lch : Launch) (hlt : lch.stackTraces = false) (D : va_G) (cA : ClassId) (sa : Nat → Nat) (x : Nat) (B : Nat → Nat) (F : Nat → Nat) (G : Nat → Nat) (b : BSt) (a : FSt) (c : Nat → Int32) (q : Nat → Int32) (a2 : FSt) (c2 : Nat → Int32) (q2 : Nat → Int32) (la : Int32) (pl : Int32) (sz : Nat) (hwb : WFb b) : vx_Met lch yX3_net wsX3_net ({ frames := 6, cells := 1, slots := 6, locals := 82 }) (Pr D cA [.ref x, .int la, .int pl] sz (([(x, .inr (3, [.ref (B 0), .ref (F 0), .ref (G 0)]))] : va_W) ++ ((wB cA B b) ++ ((wF cA F a c q) ++ (wF cA G a2 c2 q2)))) (TX sa (va_A (([(x, .inr (3, [.ref (B 0), .ref (F 0), .ref (G 0)]))] : va_W) ++ ((wB cA B b) ++ ((wF cA F a c q) ++ (wF cA G a2 c2 q2)))) sz))) (va_Qi (fun (r : Int32) (u : Unit) => r = nI (bK b + 1) ∧ cdNet b la pl = 0) (fun (u : Unit) t => va_P D vwCl (([(x, .inr (3, [.ref (B 0), .ref (F 0), .ref (G 0)]))] : va_W) ++ ((wB cA B (vK (vNe b (up (bNe b) ((la).toNatClampNeg * 60 + (pl).toNatClampNeg) true)) (bK b + 1))) ++ ((wF cA F a c q) ++ (wF cA G a2 c2 q2)))) t.heap) (va_A (([(x, .inr (3, [.ref (B 0), .ref (F 0), .ref (G 0)]))] : va_W) ++ ((wB cA B b) ++ ((wF cA F a c q) ++ (wF cA G a2 c2 q2)))) sz)) (vx_X (S := Unit) (fun _ => True) (fun E _ t => (fun E => (cdNet b la pl = 1 ∧ E = "java/lang/IndexOutOfBoundsException") ∨ (cdNet b la pl = 2 ∧ E = "java/lang/IllegalStateException")) E ∧ va_P D vwCl (([(x, .inr (3, [.ref (B 0), .ref (F 0), .ref (G 0)]))] : va_W) ++ ((wB cA B b) ++ ((wF cA F a c q) ++ (wF cA G a2 c2 q2)))) t.heap) (va_A (([(x, .inr (3, [.ref (B 0), .ref (F 0), .ref (G 0)]))] : va_W) ++ ((wB cA B b) ++ ((wF cA F a c q) ++ (wF cA G a2 c2 q2)))) sz)) 1 6 (va_A (([(x, .inr (3, [.ref (B 0), .ref (F 0), .ref (G 0)]))] : va_W) ++ ((wB cA B b) ++ ((wF cA F a c q) ++ (wF cA G a2 c2 q2)))) sz) := by
  refine vx_ofW (cc := cX3_net) (maxL := 3) (ret := (some .int)) (by decide) rfl ?_
  intro pg ev s mi args below meth cd s₁ B hml htb hv
  obtain ⟨hav, hsz, hP, hE, hD, hXs⟩ := hv
  have hx := B.exec
  have hb := B.bytes
  have hr := B.returns
  have hts := atoms_spec (ws := wsX3_net) B.pre
  have hown : s.vm.findClass RX3 = some mi.cls := findClass_of_methodNamed B.named
  have hlocks := B.notSynchronized
  clear B
  subst hav
  subst hsz
  have hD := hD.self (sz := s.heap.size)
  generalize hAe : va_A (([(x, .inr (3, [.ref (B 0), .ref (F 0), .ref (G 0)]))] : va_W) ++ ((wB cA B b) ++ ((wF cA F a c q) ++ (wF cA G a2 c2 q2)))) s.heap.size = A at hD hXs ⊢
  have hA : ∀ q : Nat, s.heap.size ≤ q → A q := fun q h => by rw [← hAe]; exact Or.inr h
  have hS : va_S A s.heap s.heap [] := va_S.rf
  obtain ⟨QQ, hQQ⟩ : ∃ qq9, qq9 = vx_MQ below (va_Qi (fun (r : Int32) (u : Unit) => r = nI (bK b + 1) ∧ cdNet b la pl = 0) (fun (u : Unit) t => va_P D vwCl (([(x, .inr (3, [.ref (B 0), .ref (F 0), .ref (G 0)]))] : va_W) ++ ((wB cA B (vK (vNe b (up (bNe b) ((la).toNatClampNeg * 60 + (pl).toNatClampNeg) true)) (bK b + 1))) ++ ((wF cA F a c q) ++ (wF cA G a2 c2 q2)))) t.heap) A) (vx_X (S := Unit) (fun _ => True) (fun E _ t => (fun E => (cdNet b la pl = 1 ∧ E = "java/lang/IndexOutOfBoundsException") ∨ (cdNet b la pl = 2 ∧ E = "java/lang/IllegalStateException")) E ∧ va_P D vwCl (([(x, .inr (3, [.ref (B 0), .ref (F 0), .ref (G 0)]))] : va_W) ++ ((wB cA B b) ++ ((wF cA F a c q) ++ (wF cA G a2 c2 q2)))) t.heap) A) ([.ref x, .int la, .int pl] : List Value).toArray s 1 6 A := ⟨_, rfl⟩
  rw [← hQQ]
  have hl := lv_entry ([.ref x, .int la, .int pl]) (n := 3) (Nat.le_of_ble_eq_true rfl)
  rw [lg_entry_eq]
  generalize (lg_sl ([.ref x, .int la, .int pl]) ++ List.replicate (3 - (lg_sl ([.ref x, .int la, .int pl])).length) Slot.unset).toArray = ls at hl ⊢
  have hl : lv_has ls 3 [(0, .ref x), (1, .int la), (2, .int pl)] := hl
  have kw0 := hts (.classLink RX3 30 "java/lang/IndexOutOfBoundsException") (by decide +kernel)
  have kw1 := hts (.initialized "java/lang/IndexOutOfBoundsException") (by decide +kernel)
  have kf10 := hts (.fieldLink RX3 10 "LanternWeirs" "bed" "LLanternWeirs$Bed;") (by decide +kernel)
  have inX3 : ∀ w ∈ u_ws RX3 TX3 3, w ∈ wsX3_net := by decide +kernel
  have kf82 := hts (.fieldLink RX3 82 "LanternWeirs$Bed" "netCount" "I") (by decide +kernel)
  have inX0 : ∀ w ∈ u_ws RX0 TX0 5, w ∈ wsX3_net := by decide +kernel
  have kw6 := hts (.classLink RX3 71 "java/lang/IllegalStateException") (by decide +kernel)
  have kw7 := hts (.initialized "java/lang/IllegalStateException") (by decide +kernel)
  obtain ⟨H, locs, hP, hS, hg1, hg2⟩ : ∃ H locs, va_P D vwCl (([(x, .inr (3, [.ref (B 0), .ref (F 0), .ref (G 0)]))] : va_W) ++ ((wB cA B b) ++ ((wF cA F a c q) ++ (wF cA G a2 c2 q2)))) H ∧ va_S A s.heap H locs ∧ H = s.heap ∧ locs = [] := ⟨_, _, hP, hS, rfl, rfl⟩
  have hgoal : W pg lch ev (headSpec wsX3_net ({ frames := 6, cells := 1, slots := 6, locals := 82 })).room s mi ([.ref x, .int la, .int pl] : List Value).toArray below meth cd H locs 0 0 QQ (F0 mi 0 ls []) := by
    have hk4 := hwb.2.2
    refine lv_iload_n hx hb dX3_net_0 rfl (lv_at hl 1 rfl) ?_
    refine pSi (As := [.int la]) (rest := []) (wc := ([] : va_W)) ⟨hx, hb, hml, hown, hts⟩ (K_X3_isLane lch D cA la H.size ) (cwS 1 hts gX3_net_X3_isLane rfl rfl rfl (by decide +kernel) ⟨Nat.le_of_ble_eq_true rfl, Nat.le_of_ble_eq_true rfl⟩) hE hP hD hS hA [] rfl rfl X0.blind (fun _ _ _ => trivial) hl.1 rfl rfl (Nat.le_of_ble_eq_true rfl) dX3_net_1 ⟨Nat.zero_le _, Nat.zero_le _⟩ (fun r_1 u_2 H locs h_3 hP hS => ?_)
    subst h_3
    refine lv_if_eq (tgt := 17) hx hb dX3_net_4 (by decide) (fun c4 => ?_) (fun c4 => ?_)
    · skip
      have c4 := bi_0.mp c4
      rw [hQQ]
      exact thrI (sa := sa) (is := 80) (text := "no place for a net") hx hb hlt hown kw0 kw1 (fun w h => hts w (List.mem_cons_of_mem _ (List.mem_append_left _ (List.mem_append_right _ h)))) hXs (by decide +kernel) hS hP (by rw [hml]; exact hl.1) dX3_net_17 dX3_net_20 dX3_net_21 dX3_net_23 dX3_net_26 htb (Nat.le_of_ble_eq_true rfl) (Nat.le_of_ble_eq_true rfl) (Nat.le_of_ble_eq_true rfl) (Nat.le_of_ble_eq_true rfl) hlocks (Nat.le_of_ble_eq_true rfl) (Nat.le_of_ble_eq_true rfl) (Or.inl ⟨by unfold cdNet; rw [if_pos (Or.inl c4)], rfl⟩)
    · skip
      have c4 := bi_1.mp c4
      refine lv_iload_n hx hb dX3_net_7 rfl (lv_at hl 2 rfl) ?_
      refine lv_iconst (v := 1) hx hb dX3_net_8 (by decide) ?_
      refine lv_bipush (v := 59) hx hb dX3_net_9 (by decide) ?_
      refine pSi (As := [.int pl, .int 1, .int 59]) (rest := []) (wc := ([] : va_W)) ⟨hx, hb, hml, hown, hts⟩ (K_X3_isWithin lch D cA pl 1 59 H.size ) (cwS 3 hts gX3_net_X3_isWithin rfl rfl rfl (by decide +kernel) ⟨Nat.le_of_ble_eq_true rfl, Nat.le_of_ble_eq_true rfl⟩) hE hP hD hS hA [] rfl rfl X0.blind (fun _ _ _ => trivial) hl.1 rfl rfl (Nat.le_of_ble_eq_true rfl) dX3_net_11 ⟨Nat.zero_le _, Nat.zero_le _⟩ (fun r_4 u_5 H locs h_6 hP hS => ?_)
      subst h_6
      refine lv_if_ne (tgt := 27) hx hb dX3_net_14 (by decide) (fun c14 => ?_) (fun c14 => ?_)
      · skip
        have c14 := bi_1.mp c14
        obtain ⟨lan, hla9, ela⟩ := isW_nat (n := 2) c4 (by decide)
        subst ela
        obtain ⟨pln, hpl9, epl⟩ := isW_nat (n := 59) (isW_0 c14) (by decide)
        subst epl
        refine lv_aload_n hx hb dX3_net_27 rfl (lv_at hl 0 rfl) ?_
        refine va_get (D := D) (ci := 3) (v := .ref (B 0)) (C := RX3) (T := TX3) (N := 3) hx hb hts inX3 hown hE.1 hP 0 rfl rfl 0 (by decide) kf10 (fun _ h9 => h9) rfl dX3_net_28 ?_
        refine va_get (D := D) (ci := 0) (v := .int (nI (bK b))) (C := RX0) (T := TX0) (N := 5) hx hb hts inX0 hown hE.1 hP 1 rfl rfl 4 (by decide) kf82 (fun _ h9 => h9) rfl dX3_net_31 ?_
        refine lv_iconst (v := 4) hx hb dX3_net_34 (by decide) ?_
        refine lv_icmp_ge (tgt := 50) hx hb dX3_net_35 (by decide) (fun c35 => ?_) (fun c35 => ?_)
        · skip
          have c35 := (nI_leI (a := 4) (b := bK b) (by omega) (by omega)).mp c35
          rw [hQQ]
          exact thrS (sa := sa) (is := 89) (text := "too many nets, or one is there") hx hb hlt hown kw6 kw7 (fun w h => hts w (List.mem_cons_of_mem _ (List.mem_append_right _ h))) hXs (by decide +kernel) hS hP (by rw [hml]; exact hl.1) dX3_net_50 dX3_net_53 dX3_net_54 dX3_net_56 dX3_net_59 htb (Nat.le_of_ble_eq_true rfl) (Nat.le_of_ble_eq_true rfl) (Nat.le_of_ble_eq_true rfl) (Nat.le_of_ble_eq_true rfl) hlocks (Nat.le_of_ble_eq_true rfl) (Nat.le_of_ble_eq_true rfl) (Or.inr (⟨by unfold cdNet; rw [if_neg (by simp [c4, c14]), if_pos (Or.inl (by omega))], rfl⟩))
        · skip
          have c35 := (not_congr (nI_leI (a := 4) (b := bK b) (by omega) (by omega))).mp c35
          refine lv_aload_n hx hb dX3_net_38 rfl (lv_at hl 0 rfl) ?_
          refine va_get (D := D) (ci := 3) (v := .ref (B 0)) (C := RX3) (T := TX3) (N := 3) hx hb hts inX3 hown hE.1 hP 0 rfl rfl 0 (by decide) kf10 (fun _ h9 => h9) rfl dX3_net_39 ?_
          refine lv_iload_n hx hb dX3_net_42 rfl (lv_at hl 1 rfl) ?_
          refine lv_iload_n hx hb dX3_net_43 rfl (lv_at hl 2 rfl) ?_
          refine pVi (As := [.int (nI lan), .int (nI pln)]) (rest := []) (wc := (wB cA B b)) ⟨hx, hb, hml, hown, hts⟩ (K_X0_hasNet lch D cA B b lan pln H.size (by omega) (by omega)) (cwV 2 hts gX3_net_X0_hasNet rfl rfl rfl (by decide +kernel) ⟨Nat.le_of_ble_eq_true rfl, Nat.le_of_ble_eq_true rfl⟩) hE hP hD hS hA [1, 2, 3, 4, 5, 6, 7] rfl rfl X0.blind (fun _ _ _ => trivial) 1 0 rfl rfl rfl hl.1 rfl rfl (Nat.le_of_ble_eq_true rfl) dX3_net_44 ⟨Nat.zero_le _, Nat.zero_le _⟩ (fun r_7 u_8 H locs h_9 hP hS => ?_)
          subst h_9
          refine lv_if_eq (tgt := 60) hx hb dX3_net_47 (by decide) (fun c47 => ?_) (fun c47 => ?_)
          · skip
            have c47 := bi_0.mp c47
            refine lv_aload_n hx hb dX3_net_60 rfl (lv_at hl 0 rfl) ?_
            refine va_get (D := D) (ci := 3) (v := .ref (B 0)) (C := RX3) (T := TX3) (N := 3) hx hb hts inX3 hown hE.1 hP 0 rfl rfl 0 (by decide) kf10 (fun _ h9 => h9) rfl dX3_net_61 ?_
            refine lv_iload_n hx hb dX3_net_64 rfl (lv_at hl 1 rfl) ?_
            refine lv_iload_n hx hb dX3_net_65 rfl (lv_at hl 2 rfl) ?_
            refine cVi (wB := fun (u_11 : Unit) => (wB cA B (vK (vNe b (up (bNe b) (lan * 60 + pln) true)) (bK b + 1)))) (As := [.int (nI lan), .int (nI pln)]) (rest := []) (wc := (wB cA B b)) ⟨hx, hb, hml, hown, hts⟩ (K_X0_addNet lch D cA B b lan pln H.size (by first | assumption | omega) (by first | assumption | omega)) (cwV 2 hts gX3_net_X0_addNet rfl rfl rfl (by decide +kernel) ⟨Nat.le_of_ble_eq_true rfl, Nat.le_of_ble_eq_true rfl⟩) hE hP hD hS hA [1, 2, 3, 4, 5, 6, 7] rfl rfl [B 0, B 1, B 2, B 3, B 4, B 5, B 6] (fun _ => rfl) rfl (fun (u_11 : Unit) => (([(x, .inr (3, [.ref (B 0), .ref (F 0), .ref (G 0)]))] : va_W) ++ ((wB cA B (vK (vNe b (up (bNe b) (lan * 60 + pln) true)) (bK b + 1))) ++ ((wF cA F a c q) ++ (wF cA G a2 c2 q2))))) (fun _ => pst_blk ([(x, .inr (3, [.ref (B 0), .ref (F 0), .ref (G 0)]))] : va_W) ((wF cA F a c q) ++ (wF cA G a2 c2 q2)) (wc := (wB cA B b)) 7 1 rfl rfl rfl rfl rfl rfl) X0.blind (fun _ _ _ => trivial) 1 0 rfl rfl rfl hl.1 rfl rfl (Nat.le_of_ble_eq_true rfl) dX3_net_66 ⟨Nat.zero_le _, Nat.zero_le _⟩ (fun r_10 u_11 H locs h_12 hP hD hS => ?_)
            subst h_12
            refine W.widen (k := 1) (n := 6) (by first | exact Nat.le_of_ble_eq_true rfl | omega) (by first | exact Nat.le_of_ble_eq_true rfl | omega) ?_
            have ewd : vK (vNe b (up (bNe b) ((nI lan).toNatClampNeg * 60 + (nI pln).toNatClampNeg) true)) (bK b + 1) = vK (vNe b (up (bNe b) (lan * 60 + pln) true)) (bK b + 1) := by rw [nI_clamp (by omega), nI_clamp (by omega)]
            rw [← ewd] at hP
            rw [hQQ]
            refine vx_ret ?_
            exact W.iret (v := nI (bK b + 1)) hx hb hr (fun t ht hW => ⟨⟨nI (bK b + 1), (), rfl, ⟨rfl, by unfold cdNet; rw [if_neg (by simp [c4, c14]), if_neg (fun q => q.elim (fun q => by omega) (fun q => by rw [nI_clamp (by omega), nI_clamp (by omega), c47] at q; exact absurd q (by decide)))]⟩, by show va_P _ _ _ t.heap; rw [ht]; exact hP⟩, hS.F ht⟩) hS.2.2 dX3_net_69
          · skip
            have c47 := bi_1.mp c47
            rw [hQQ]
            exact thrS (sa := sa) (is := 89) (text := "too many nets, or one is there") hx hb hlt hown kw6 kw7 (fun w h => hts w (List.mem_cons_of_mem _ (List.mem_append_right _ h))) hXs (by decide +kernel) hS hP (by rw [hml]; exact hl.1) dX3_net_50 dX3_net_53 dX3_net_54 dX3_net_56 dX3_net_59 htb (Nat.le_of_ble_eq_true rfl) (Nat.le_of_ble_eq_true rfl) (Nat.le_of_ble_eq_true rfl) (Nat.le_of_ble_eq_true rfl) hlocks (Nat.le_of_ble_eq_true rfl) (Nat.le_of_ble_eq_true rfl) (Or.inr (⟨by unfold cdNet; rw [if_neg (by simp [c4, c14]), if_pos (Or.inr (by rw [nI_clamp (by omega), nI_clamp (by omega)]; exact c47))], rfl⟩))
      · skip
        have c14 := bi_0.mp c14
        rw [hQQ]
        exact thrI (sa := sa) (is := 80) (text := "no place for a net") hx hb hlt hown kw0 kw1 (fun w h => hts w (List.mem_cons_of_mem _ (List.mem_append_left _ (List.mem_append_right _ h)))) hXs (by decide +kernel) hS hP (by rw [hml]; exact hl.1) dX3_net_17 dX3_net_20 dX3_net_21 dX3_net_23 dX3_net_26 htb (Nat.le_of_ble_eq_true rfl) (Nat.le_of_ble_eq_true rfl) (Nat.le_of_ble_eq_true rfl) (Nat.le_of_ble_eq_true rfl) hlocks (Nat.le_of_ble_eq_true rfl) (Nat.le_of_ble_eq_true rfl) (Or.inl ⟨by unfold cdNet; rw [if_pos (Or.inr c14)], rfl⟩)
  rw [hg1, hg2] at hgoal
  exact hgoal

set_option maxHeartbeats 4000000 in
set_option maxRecDepth 100000 in
/-- river -/
theorem K_X3_river (lch : Launch) (hlt : lch.stackTraces = false) (D : va_G) (cA : ClassId) (sa : Nat → Nat) (x : Nat) (B : Nat → Nat) (F : Nat → Nat) (G : Nat → Nat) (b : BSt) (a : FSt) (c : Nat → Int32) (q : Nat → Int32) (a2 : FSt) (c2 : Nat → Int32) (q2 : Nat → Int32) (la : Int32) (pl : Int32) (w : Int32) (sz : Nat) (hw1 : WFa a) (hcr : CRa a c) (hwn : WFn b a) : vx_Met lch yX3_river wsX3_river ({ frames := 6, cells := 1, slots := 6, locals := 82 }) (Pr D cA [.ref x, .int la, .int pl, .int w] sz (([(x, .inr (3, [.ref (B 0), .ref (F 0), .ref (G 0)]))] : va_W) ++ ((wB cA B b) ++ ((wF cA F a c q) ++ (wF cA G a2 c2 q2)))) (TX sa (va_A (([(x, .inr (3, [.ref (B 0), .ref (F 0), .ref (G 0)]))] : va_W) ++ ((wB cA B b) ++ ((wF cA F a c q) ++ (wF cA G a2 c2 q2)))) sz))) (va_Qi (fun (r : Int32) (u : Unit) => r = riverA a b (la).toNatClampNeg (pl).toNatClampNeg (w).toNatClampNeg ∧ cdRiver la pl w = 0) (fun (u : Unit) t => va_P D vwCl (([(x, .inr (3, [.ref (B 0), .ref (F 0), .ref (G 0)]))] : va_W) ++ ((wB cA B b) ++ ((wF cA F a c q) ++ (wF cA G a2 c2 q2)))) t.heap) (va_A (([(x, .inr (3, [.ref (B 0), .ref (F 0), .ref (G 0)]))] : va_W) ++ ((wB cA B b) ++ ((wF cA F a c q) ++ (wF cA G a2 c2 q2)))) sz)) (vx_X (S := Unit) (fun _ => True) (fun E _ t => (fun E => (cdRiver la pl w = 1 ∧ E = "java/lang/IndexOutOfBoundsException")) E ∧ va_P D vwCl (([(x, .inr (3, [.ref (B 0), .ref (F 0), .ref (G 0)]))] : va_W) ++ ((wB cA B b) ++ ((wF cA F a c q) ++ (wF cA G a2 c2 q2)))) t.heap) (va_A (([(x, .inr (3, [.ref (B 0), .ref (F 0), .ref (G 0)]))] : va_W) ++ ((wB cA B b) ++ ((wF cA F a c q) ++ (wF cA G a2 c2 q2)))) sz)) 1 6 (va_A (([(x, .inr (3, [.ref (B 0), .ref (F 0), .ref (G 0)]))] : va_W) ++ ((wB cA B b) ++ ((wF cA F a c q) ++ (wF cA G a2 c2 q2)))) sz) := by
  refine vx_ofW (cc := cX3_river) (maxL := 4) (ret := (some .int)) (by decide) rfl ?_
  intro pg ev s mi args below meth cd s₁ B hml htb hv
  obtain ⟨hav, hsz, hP, hE, hD, hXs⟩ := hv
  have hx := B.exec
  have hb := B.bytes
  have hr := B.returns
  have hts := atoms_spec (ws := wsX3_river) B.pre
  have hown : s.vm.findClass RX3 = some mi.cls := findClass_of_methodNamed B.named
  have hlocks := B.notSynchronized
  clear B
  subst hav
  subst hsz
  have hD := hD.self (sz := s.heap.size)
  generalize hAe : va_A (([(x, .inr (3, [.ref (B 0), .ref (F 0), .ref (G 0)]))] : va_W) ++ ((wB cA B b) ++ ((wF cA F a c q) ++ (wF cA G a2 c2 q2)))) s.heap.size = A at hD hXs ⊢
  have hA : ∀ q : Nat, s.heap.size ≤ q → A q := fun q h => by rw [← hAe]; exact Or.inr h
  have hS : va_S A s.heap s.heap [] := va_S.rf
  obtain ⟨QQ, hQQ⟩ : ∃ qq9, qq9 = vx_MQ below (va_Qi (fun (r : Int32) (u : Unit) => r = riverA a b (la).toNatClampNeg (pl).toNatClampNeg (w).toNatClampNeg ∧ cdRiver la pl w = 0) (fun (u : Unit) t => va_P D vwCl (([(x, .inr (3, [.ref (B 0), .ref (F 0), .ref (G 0)]))] : va_W) ++ ((wB cA B b) ++ ((wF cA F a c q) ++ (wF cA G a2 c2 q2)))) t.heap) A) (vx_X (S := Unit) (fun _ => True) (fun E _ t => (fun E => (cdRiver la pl w = 1 ∧ E = "java/lang/IndexOutOfBoundsException")) E ∧ va_P D vwCl (([(x, .inr (3, [.ref (B 0), .ref (F 0), .ref (G 0)]))] : va_W) ++ ((wB cA B b) ++ ((wF cA F a c q) ++ (wF cA G a2 c2 q2)))) t.heap) A) ([.ref x, .int la, .int pl, .int w] : List Value).toArray s 1 6 A := ⟨_, rfl⟩
  rw [← hQQ]
  have hl := lv_entry ([.ref x, .int la, .int pl, .int w]) (n := 4) (Nat.le_of_ble_eq_true rfl)
  rw [lg_entry_eq]
  generalize (lg_sl ([.ref x, .int la, .int pl, .int w]) ++ List.replicate (4 - (lg_sl ([.ref x, .int la, .int pl, .int w])).length) Slot.unset).toArray = ls at hl ⊢
  have hl : lv_has ls 4 [(0, .ref x), (1, .int la), (2, .int pl), (3, .int w)] := hl
  have kw0 := hts (.classLink RX3 30 "java/lang/IndexOutOfBoundsException") (by decide +kernel)
  have kw1 := hts (.initialized "java/lang/IndexOutOfBoundsException") (by decide +kernel)
  obtain ⟨H, locs, hP, hS, hg1, hg2⟩ : ∃ H locs, va_P D vwCl (([(x, .inr (3, [.ref (B 0), .ref (F 0), .ref (G 0)]))] : va_W) ++ ((wB cA B b) ++ ((wF cA F a c q) ++ (wF cA G a2 c2 q2)))) H ∧ va_S A s.heap H locs ∧ H = s.heap ∧ locs = [] := ⟨_, _, hP, hS, rfl, rfl⟩
  have hgoal : W pg lch ev (headSpec wsX3_river ({ frames := 6, cells := 1, slots := 6, locals := 82 })).room s mi ([.ref x, .int la, .int pl, .int w] : List Value).toArray below meth cd H locs 0 0 QQ (F0 mi 0 ls []) := by
    refine lv_iload_n hx hb dX3_river_0 rfl (lv_at hl 1 rfl) ?_
    refine pSi (As := [.int la]) (rest := []) (wc := ([] : va_W)) ⟨hx, hb, hml, hown, hts⟩ (K_X3_isLane lch D cA la H.size ) (cwS 1 hts gX3_river_X3_isLane rfl rfl rfl (by decide +kernel) ⟨Nat.le_of_ble_eq_true rfl, Nat.le_of_ble_eq_true rfl⟩) hE hP hD hS hA [] rfl rfl X0.blind (fun _ _ _ => trivial) hl.1 rfl rfl (Nat.le_of_ble_eq_true rfl) dX3_river_1 ⟨Nat.zero_le _, Nat.zero_le _⟩ (fun r_1 u_2 H locs h_3 hP hS => ?_)
    subst h_3
    refine lv_if_eq (tgt := 23) hx hb dX3_river_4 (by decide) (fun c4 => ?_) (fun c4 => ?_)
    · skip
      have c4 := bi_0.mp c4
      rw [hQQ]
      exact thrI (sa := sa) (is := 97) (text := "nothing of the river is told of this") hx hb hlt hown kw0 kw1 (fun w h => hts w (List.mem_cons_of_mem _ (List.mem_append_right _ h))) hXs (by decide +kernel) hS hP (by rw [hml]; exact hl.1) dX3_river_23 dX3_river_26 dX3_river_27 dX3_river_29 dX3_river_32 htb (Nat.le_of_ble_eq_true rfl) (Nat.le_of_ble_eq_true rfl) (Nat.le_of_ble_eq_true rfl) (Nat.le_of_ble_eq_true rfl) hlocks (Nat.le_of_ble_eq_true rfl) (Nat.le_of_ble_eq_true rfl) (⟨by unfold cdRiver; rw [if_pos (Or.inl c4)], rfl⟩)
    · skip
      have c4 := bi_1.mp c4
      refine lv_iload_n hx hb dX3_river_7 rfl (lv_at hl 2 rfl) ?_
      refine pSi (As := [.int pl]) (rest := []) (wc := ([] : va_W)) ⟨hx, hb, hml, hown, hts⟩ (K_X3_isPlace lch D cA pl H.size ) (cwS 1 hts gX3_river_X3_isPlace rfl rfl rfl (by decide +kernel) ⟨Nat.le_of_ble_eq_true rfl, Nat.le_of_ble_eq_true rfl⟩) hE hP hD hS hA [] rfl rfl X0.blind (fun _ _ _ => trivial) hl.1 rfl rfl (Nat.le_of_ble_eq_true rfl) dX3_river_8 ⟨Nat.zero_le _, Nat.zero_le _⟩ (fun r_4 u_5 H locs h_6 hP hS => ?_)
      subst h_6
      refine lv_if_eq (tgt := 23) hx hb dX3_river_11 (by decide) (fun c11 => ?_) (fun c11 => ?_)
      · skip
        have c11 := bi_0.mp c11
        rw [hQQ]
        exact thrI (sa := sa) (is := 97) (text := "nothing of the river is told of this") hx hb hlt hown kw0 kw1 (fun w h => hts w (List.mem_cons_of_mem _ (List.mem_append_right _ h))) hXs (by decide +kernel) hS hP (by rw [hml]; exact hl.1) dX3_river_23 dX3_river_26 dX3_river_27 dX3_river_29 dX3_river_32 htb (Nat.le_of_ble_eq_true rfl) (Nat.le_of_ble_eq_true rfl) (Nat.le_of_ble_eq_true rfl) (Nat.le_of_ble_eq_true rfl) hlocks (Nat.le_of_ble_eq_true rfl) (Nat.le_of_ble_eq_true rfl) (⟨by unfold cdRiver; rw [if_pos (Or.inr (Or.inl c11))], rfl⟩)
      · skip
        have c11 := bi_1.mp c11
        refine lv_iload_n hx hb dX3_river_14 rfl (lv_at hl 3 rfl) ?_
        refine lv_iconst (v := 0) hx hb dX3_river_15 (by decide) ?_
        refine lv_iconst (v := 3) hx hb dX3_river_16 (by decide) ?_
        refine pSi (As := [.int w, .int 0, .int 3]) (rest := []) (wc := ([] : va_W)) ⟨hx, hb, hml, hown, hts⟩ (K_X3_isWithin lch D cA w 0 3 H.size ) (cwS 3 hts gX3_river_X3_isWithin rfl rfl rfl (by decide +kernel) ⟨Nat.le_of_ble_eq_true rfl, Nat.le_of_ble_eq_true rfl⟩) hE hP hD hS hA [] rfl rfl X0.blind (fun _ _ _ => trivial) hl.1 rfl rfl (Nat.le_of_ble_eq_true rfl) dX3_river_17 ⟨Nat.zero_le _, Nat.zero_le _⟩ (fun r_7 u_8 H locs h_9 hP hS => ?_)
        subst h_9
        refine lv_if_ne (tgt := 33) hx hb dX3_river_20 (by decide) (fun c20 => ?_) (fun c20 => ?_)
        · skip
          have c20 := bi_1.mp c20
          obtain ⟨lan, hla9, ela⟩ := isW_nat (n := 2) c4 (by decide)
          subst ela
          obtain ⟨pln, hpl9, epl⟩ := isW_nat (n := 59) c11 (by decide)
          subst epl
          obtain ⟨wn, hw9, ew⟩ := isW_nat (n := 3) c20 (by decide)
          subst ew
          refine lv_aload_n hx hb dX3_river_33 rfl (lv_at hl 0 rfl) ?_
          refine lv_iload_n hx hb dX3_river_34 rfl (lv_at hl 1 rfl) ?_
          refine lv_iload_n hx hb dX3_river_35 rfl (lv_at hl 2 rfl) ?_
          refine lv_iload_n hx hb dX3_river_36 rfl (lv_at hl 3 rfl) ?_
          refine pVi (As := [.int (nI lan), .int (nI pln), .int (nI wn)]) (rest := []) (wc := (([(x, .inr (3, [.ref (B 0), .ref (F 0), .ref (G 0)]))] : va_W) ++ ((wB cA B b) ++ ((wF cA F a c q) ++ (wF cA G a2 c2 q2))))) ⟨hx, hb, hml, hown, hts⟩ (K_X3_riverFact lch D cA x B F G b a c q a2 c2 q2 lan pln wn H.size (by first | assumption | omega) (by first | assumption | omega) (by first | assumption | omega) (by omega) (by omega) (by omega)) (cwV 3 hts gX3_river_X3_riverFact rfl rfl rfl (by decide +kernel) ⟨Nat.le_of_ble_eq_true rfl, Nat.le_of_ble_eq_true rfl⟩) hE hP hD hS hA [0, 1, 2, 3, 4, 5, 6, 7, 8, 9, 10, 11, 12, 13, 14, 15, 16, 17, 18, 19, 20, 21, 22, 23, 24, 25, 26, 27, 28, 29, 30, 31, 32, 33, 34, 35, 36, 37, 38, 39, 40, 41, 42, 43, 44, 45, 46, 47, 48, 49, 50, 51, 52, 53] rfl rfl X0.blind (fun _ _ _ => trivial) 0 3 rfl rfl rfl hl.1 rfl rfl (Nat.le_of_ble_eq_true rfl) dX3_river_37 ⟨Nat.zero_le _, Nat.zero_le _⟩ (fun r_10 u_11 H locs h_12 hP hS => ?_)
          subst h_12
          refine W.widen (k := 1) (n := 6) (by first | exact Nat.le_of_ble_eq_true rfl | omega) (by first | exact Nat.le_of_ble_eq_true rfl | omega) ?_
          rw [hQQ]
          refine vx_ret ?_
          exact W.iret (v := riverA a b lan pln wn) hx hb hr (fun t ht hW => ⟨⟨riverA a b lan pln wn, (), rfl, ⟨by rw [nI_clamp (by omega), nI_clamp (by omega), nI_clamp (by omega)], by unfold cdRiver; rw [if_neg (by simp [c4, c11, c20])]⟩, by show va_P _ _ _ t.heap; rw [ht]; exact hP⟩, hS.F ht⟩) hS.2.2 dX3_river_40
        · skip
          have c20 := bi_0.mp c20
          rw [hQQ]
          exact thrI (sa := sa) (is := 97) (text := "nothing of the river is told of this") hx hb hlt hown kw0 kw1 (fun w h => hts w (List.mem_cons_of_mem _ (List.mem_append_right _ h))) hXs (by decide +kernel) hS hP (by rw [hml]; exact hl.1) dX3_river_23 dX3_river_26 dX3_river_27 dX3_river_29 dX3_river_32 htb (Nat.le_of_ble_eq_true rfl) (Nat.le_of_ble_eq_true rfl) (Nat.le_of_ble_eq_true rfl) (Nat.le_of_ble_eq_true rfl) hlocks (Nat.le_of_ble_eq_true rfl) (Nat.le_of_ble_eq_true rfl) (⟨by unfold cdRiver; rw [if_pos (Or.inr (Or.inr c20))], rfl⟩)
  rw [hg1, hg2] at hgoal
  exact hgoal

set_option maxHeartbeats 4000000 in
set_option maxRecDepth 100000 in
/-- launch -/
theorem K_X3_launch (lch : Launch) (hlt : lch.stackTraces = false) (D : va_G) (cA : ClassId) (sa : Nat → Nat) (x : Nat) (B : Nat → Nat) (F : Nat → Nat) (G : Nat → Nat) (b : BSt) (a : FSt) (c : Nat → Int32) (q : Nat → Int32) (a2 : FSt) (c2 : Nat → Int32) (q2 : Nat → Int32) (f : Int32) (w : Int32) (la : Int32) (pl : Int32) (sz : Nat) (hn40 : qN a ≤ 40) (hcr : CRa a c) : vx_Met lch yX3_launch wsX3_launch ({ frames := 6, cells := 1, slots := 6, locals := 82 }) (Pr D cA [.ref x, .int f, .int w, .int la, .int pl] sz (([(x, .inr (3, [.ref (B 0), .ref (F 0), .ref (G 0)]))] : va_W) ++ ((wB cA B b) ++ ((wF cA F a c q) ++ (wF cA G a2 c2 q2)))) (TX sa (va_A (([(x, .inr (3, [.ref (B 0), .ref (F 0), .ref (G 0)]))] : va_W) ++ ((wB cA B b) ++ ((wF cA F a c q) ++ (wF cA G a2 c2 q2)))) sz))) (va_Qi (fun (r : Int32) (u : Nat → Int32) => r = nI (qN a) ∧ cdLaunch a f w la pl = 0 ∧ CRa (addA a (f).toNatClampNeg w (la).toNatClampNeg (pl).toNatClampNeg) u) (fun (u : Nat → Int32) t => va_P D vwCl (([(x, .inr (3, [.ref (B 0), .ref (F 0), .ref (G 0)]))] : va_W) ++ ((wB cA B b) ++ ((wF cA F (addA a (f).toNatClampNeg w (la).toNatClampNeg (pl).toNatClampNeg) u q) ++ (wF cA G a2 c2 q2)))) t.heap) (va_A (([(x, .inr (3, [.ref (B 0), .ref (F 0), .ref (G 0)]))] : va_W) ++ ((wB cA B b) ++ ((wF cA F a c q) ++ (wF cA G a2 c2 q2)))) sz)) (vx_X (S := Unit) (fun _ => True) (fun E _ t => (fun E => (cdLaunch a f w la pl = 1 ∧ E = "java/lang/IndexOutOfBoundsException") ∨ (cdLaunch a f w la pl = 2 ∧ E = "java/lang/IllegalArgumentException") ∨ (cdLaunch a f w la pl = 3 ∧ E = "java/lang/IllegalStateException")) E ∧ va_P D vwCl (([(x, .inr (3, [.ref (B 0), .ref (F 0), .ref (G 0)]))] : va_W) ++ ((wB cA B b) ++ ((wF cA F a c q) ++ (wF cA G a2 c2 q2)))) t.heap) (va_A (([(x, .inr (3, [.ref (B 0), .ref (F 0), .ref (G 0)]))] : va_W) ++ ((wB cA B b) ++ ((wF cA F a c q) ++ (wF cA G a2 c2 q2)))) sz)) 1 6 (va_A (([(x, .inr (3, [.ref (B 0), .ref (F 0), .ref (G 0)]))] : va_W) ++ ((wB cA B b) ++ ((wF cA F a c q) ++ (wF cA G a2 c2 q2)))) sz) := by
  refine vx_ofW (cc := cX3_launch) (maxL := 5) (ret := (some .int)) (by decide) rfl ?_
  intro pg ev s mi args below meth cd s₁ B hml htb hv
  obtain ⟨hav, hsz, hP, hE, hD, hXs⟩ := hv
  have hx := B.exec
  have hb := B.bytes
  have hr := B.returns
  have hts := atoms_spec (ws := wsX3_launch) B.pre
  have hown : s.vm.findClass RX3 = some mi.cls := findClass_of_methodNamed B.named
  have hlocks := B.notSynchronized
  clear B
  subst hav
  subst hsz
  have hD := hD.self (sz := s.heap.size)
  generalize hAe : va_A (([(x, .inr (3, [.ref (B 0), .ref (F 0), .ref (G 0)]))] : va_W) ++ ((wB cA B b) ++ ((wF cA F a c q) ++ (wF cA G a2 c2 q2)))) s.heap.size = A at hD hXs ⊢
  have hA : ∀ q : Nat, s.heap.size ≤ q → A q := fun q h => by rw [← hAe]; exact Or.inr h
  have hS : va_S A s.heap s.heap [] := va_S.rf
  obtain ⟨QQ, hQQ⟩ : ∃ qq9, qq9 = vx_MQ below (va_Qi (fun (r : Int32) (u : Nat → Int32) => r = nI (qN a) ∧ cdLaunch a f w la pl = 0 ∧ CRa (addA a (f).toNatClampNeg w (la).toNatClampNeg (pl).toNatClampNeg) u) (fun (u : Nat → Int32) t => va_P D vwCl (([(x, .inr (3, [.ref (B 0), .ref (F 0), .ref (G 0)]))] : va_W) ++ ((wB cA B b) ++ ((wF cA F (addA a (f).toNatClampNeg w (la).toNatClampNeg (pl).toNatClampNeg) u q) ++ (wF cA G a2 c2 q2)))) t.heap) A) (vx_X (S := Unit) (fun _ => True) (fun E _ t => (fun E => (cdLaunch a f w la pl = 1 ∧ E = "java/lang/IndexOutOfBoundsException") ∨ (cdLaunch a f w la pl = 2 ∧ E = "java/lang/IllegalArgumentException") ∨ (cdLaunch a f w la pl = 3 ∧ E = "java/lang/IllegalStateException")) E ∧ va_P D vwCl (([(x, .inr (3, [.ref (B 0), .ref (F 0), .ref (G 0)]))] : va_W) ++ ((wB cA B b) ++ ((wF cA F a c q) ++ (wF cA G a2 c2 q2)))) t.heap) A) ([.ref x, .int f, .int w, .int la, .int pl] : List Value).toArray s 1 6 A := ⟨_, rfl⟩
  rw [← hQQ]
  have hl := lv_entry ([.ref x, .int f, .int w, .int la, .int pl]) (n := 5) (Nat.le_of_ble_eq_true rfl)
  rw [lg_entry_eq]
  generalize (lg_sl ([.ref x, .int f, .int w, .int la, .int pl]) ++ List.replicate (5 - (lg_sl ([.ref x, .int f, .int w, .int la, .int pl])).length) Slot.unset).toArray = ls at hl ⊢
  have hl : lv_has ls 5 [(0, .ref x), (1, .int f), (2, .int w), (3, .int la), (4, .int pl)] := hl
  have kw0 := hts (.classLink RX3 30 "java/lang/IndexOutOfBoundsException") (by decide +kernel)
  have kw1 := hts (.initialized "java/lang/IndexOutOfBoundsException") (by decide +kernel)
  have kf19 := hts (.fieldLink RX3 19 "LanternWeirs" "fleet" "LLanternWeirs$Fleet;") (by decide +kernel)
  have inX3 : ∀ w ∈ u_ws RX3 TX3 3, w ∈ wsX3_launch := by decide +kernel
  have kf110 := hts (.fieldLink RX3 110 "LanternWeirs$Fleet" "size" "I") (by decide +kernel)
  have inX1 : ∀ w ∈ u_ws RX1 TX1 13, w ∈ wsX3_launch := by decide +kernel
  have kw6 := hts (.classLink RX3 71 "java/lang/IllegalStateException") (by decide +kernel)
  have kw7 := hts (.initialized "java/lang/IllegalStateException") (by decide +kernel)
  have kw8 := hts (.classLink RX3 41 "java/lang/IllegalArgumentException") (by decide +kernel)
  have kw9 := hts (.initialized "java/lang/IllegalArgumentException") (by decide +kernel)
  obtain ⟨H, locs, hP, hS, hg1, hg2⟩ : ∃ H locs, va_P D vwCl (([(x, .inr (3, [.ref (B 0), .ref (F 0), .ref (G 0)]))] : va_W) ++ ((wB cA B b) ++ ((wF cA F a c q) ++ (wF cA G a2 c2 q2)))) H ∧ va_S A s.heap H locs ∧ H = s.heap ∧ locs = [] := ⟨_, _, hP, hS, rfl, rfl⟩
  have hgoal : W pg lch ev (headSpec wsX3_launch ({ frames := 6, cells := 1, slots := 6, locals := 82 })).room s mi ([.ref x, .int f, .int w, .int la, .int pl] : List Value).toArray below meth cd H locs 0 0 QQ (F0 mi 0 ls []) := by
    refine lv_iload_n hx hb dX3_launch_0 rfl (lv_at hl 1 rfl) ?_
    refine pSi (As := [.int f]) (rest := []) (wc := ([] : va_W)) ⟨hx, hb, hml, hown, hts⟩ (K_X3_isFrame lch D cA f H.size ) (cwS 1 hts gX3_launch_X3_isFrame rfl rfl rfl (by decide +kernel) ⟨Nat.le_of_ble_eq_true rfl, Nat.le_of_ble_eq_true rfl⟩) hE hP hD hS hA [] rfl rfl X0.blind (fun _ _ _ => trivial) hl.1 rfl rfl (Nat.le_of_ble_eq_true rfl) dX3_launch_1 ⟨Nat.zero_le _, Nat.zero_le _⟩ (fun r_1 u_2 H locs h_3 hP hS => ?_)
    subst h_3
    refine lv_if_eq (tgt := 22) hx hb dX3_launch_4 (by decide) (fun c4 => ?_) (fun c4 => ?_)
    · skip
      have c4 := bi_0.mp c4
      rw [hQQ]
      exact thrI (sa := sa) (is := 106) (text := "no such frame, lane or place") hx hb hlt hown kw0 kw1 (fun w h => hts w (List.mem_cons_of_mem _ (List.mem_append_left _ (List.mem_append_left _ (List.mem_append_right _ h))))) hXs (by decide +kernel) hS hP (by rw [hml]; exact hl.1) dX3_launch_22 dX3_launch_25 dX3_launch_26 dX3_launch_28 dX3_launch_31 htb (Nat.le_of_ble_eq_true rfl) (Nat.le_of_ble_eq_true rfl) (Nat.le_of_ble_eq_true rfl) (Nat.le_of_ble_eq_true rfl) hlocks (Nat.le_of_ble_eq_true rfl) (Nat.le_of_ble_eq_true rfl) (Or.inl ⟨by unfold cdLaunch; rw [if_pos (Or.inl c4)], rfl⟩)
    · skip
      have c4 := bi_1.mp c4
      refine lv_iload_n hx hb dX3_launch_7 rfl (lv_at hl 3 rfl) ?_
      refine pSi (As := [.int la]) (rest := []) (wc := ([] : va_W)) ⟨hx, hb, hml, hown, hts⟩ (K_X3_isLane lch D cA la H.size ) (cwS 1 hts gX3_launch_X3_isLane rfl rfl rfl (by decide +kernel) ⟨Nat.le_of_ble_eq_true rfl, Nat.le_of_ble_eq_true rfl⟩) hE hP hD hS hA [] rfl rfl X0.blind (fun _ _ _ => trivial) hl.1 rfl rfl (Nat.le_of_ble_eq_true rfl) dX3_launch_8 ⟨Nat.zero_le _, Nat.zero_le _⟩ (fun r_4 u_5 H locs h_6 hP hS => ?_)
      subst h_6
      refine lv_if_eq (tgt := 22) hx hb dX3_launch_11 (by decide) (fun c11 => ?_) (fun c11 => ?_)
      · skip
        have c11 := bi_0.mp c11
        rw [hQQ]
        exact thrI (sa := sa) (is := 106) (text := "no such frame, lane or place") hx hb hlt hown kw0 kw1 (fun w h => hts w (List.mem_cons_of_mem _ (List.mem_append_left _ (List.mem_append_left _ (List.mem_append_right _ h))))) hXs (by decide +kernel) hS hP (by rw [hml]; exact hl.1) dX3_launch_22 dX3_launch_25 dX3_launch_26 dX3_launch_28 dX3_launch_31 htb (Nat.le_of_ble_eq_true rfl) (Nat.le_of_ble_eq_true rfl) (Nat.le_of_ble_eq_true rfl) (Nat.le_of_ble_eq_true rfl) hlocks (Nat.le_of_ble_eq_true rfl) (Nat.le_of_ble_eq_true rfl) (Or.inl ⟨by unfold cdLaunch; rw [if_pos (Or.inr (Or.inl c11))], rfl⟩)
      · skip
        have c11 := bi_1.mp c11
        refine lv_iload hx hb dX3_launch_14 (lv_at hl 4 rfl) ?_
        refine pSi (As := [.int pl]) (rest := []) (wc := ([] : va_W)) ⟨hx, hb, hml, hown, hts⟩ (K_X3_isPlace lch D cA pl H.size ) (cwS 1 hts gX3_launch_X3_isPlace rfl rfl rfl (by decide +kernel) ⟨Nat.le_of_ble_eq_true rfl, Nat.le_of_ble_eq_true rfl⟩) hE hP hD hS hA [] rfl rfl X0.blind (fun _ _ _ => trivial) hl.1 rfl rfl (Nat.le_of_ble_eq_true rfl) dX3_launch_16 ⟨Nat.zero_le _, Nat.zero_le _⟩ (fun r_7 u_8 H locs h_9 hP hS => ?_)
        subst h_9
        refine lv_if_ne (tgt := 32) hx hb dX3_launch_19 (by decide) (fun c19 => ?_) (fun c19 => ?_)
        · skip
          have c19 := bi_1.mp c19
          refine lv_iload_n hx hb dX3_launch_32 rfl (lv_at hl 2 rfl) ?_
          refine lv_iconst (v := 0) hx hb dX3_launch_33 (by decide) ?_
          refine lv_sipush (v := 999) hx hb dX3_launch_34 (by decide) ?_
          refine pSi (As := [.int w, .int 0, .int 999]) (rest := []) (wc := ([] : va_W)) ⟨hx, hb, hml, hown, hts⟩ (K_X3_isWithin lch D cA w 0 999 H.size ) (cwS 3 hts gX3_launch_X3_isWithin rfl rfl rfl (by decide +kernel) ⟨Nat.le_of_ble_eq_true rfl, Nat.le_of_ble_eq_true rfl⟩) hE hP hD hS hA [] rfl rfl X0.blind (fun _ _ _ => trivial) hl.1 rfl rfl (Nat.le_of_ble_eq_true rfl) dX3_launch_37 ⟨Nat.zero_le _, Nat.zero_le _⟩ (fun r_10 u_11 H locs h_12 hP hS => ?_)
          subst h_12
          refine lv_if_ne (tgt := 53) hx hb dX3_launch_40 (by decide) (fun c40 => ?_) (fun c40 => ?_)
          · skip
            have c40 := bi_1.mp c40
            refine lv_aload_n hx hb dX3_launch_53 rfl (lv_at hl 0 rfl) ?_
            refine va_get (D := D) (ci := 3) (v := .ref (F 0)) (C := RX3) (T := TX3) (N := 3) hx hb hts inX3 hown hE.1 hP 0 rfl rfl 1 (by decide) kf19 (fun _ h9 => h9) rfl dX3_launch_54 ?_
            refine va_get (D := D) (ci := 1) (v := .int (nI (qN a))) (C := RX1) (T := TX1) (N := 13) hx hb hts inX1 hown hE.1 hP 8 rfl rfl 11 (by decide) kf110 (fun _ h9 => h9) rfl dX3_launch_57 ?_
            refine lv_bipush (v := 40) hx hb dX3_launch_60 (by decide) ?_
            refine lv_icmp_lt (tgt := 75) hx hb dX3_launch_62 (by decide) (fun c62 => ?_) (fun c62 => ?_)
            · skip
              have c62 := (nI_ltI (a := qN a) (b := 40) (by omega) (by omega)).mp c62
              obtain ⟨fn, hf9, ef⟩ := isW_nat (n := 2) c4 (by decide)
              subst ef
              obtain ⟨lan, hla9, ela⟩ := isW_nat (n := 2) c11 (by decide)
              subst ela
              obtain ⟨pln, hpl9, epl⟩ := isW_nat (n := 59) c19 (by decide)
              subst epl
              refine lv_aload_n hx hb dX3_launch_75 rfl (lv_at hl 0 rfl) ?_
              refine va_get (D := D) (ci := 3) (v := .ref (F 0)) (C := RX3) (T := TX3) (N := 3) hx hb hts inX3 hown hE.1 hP 0 rfl rfl 1 (by decide) kf19 (fun _ h9 => h9) rfl dX3_launch_76 ?_
              refine lv_iload_n hx hb dX3_launch_79 rfl (lv_at hl 1 rfl) ?_
              refine lv_iload_n hx hb dX3_launch_80 rfl (lv_at hl 2 rfl) ?_
              refine lv_iload_n hx hb dX3_launch_81 rfl (lv_at hl 3 rfl) ?_
              refine lv_iload hx hb dX3_launch_82 (lv_at hl 4 rfl) ?_
              refine cVi (wB := fun (u_14 : Unit) => (wF cA F (addA a fn w lan pln) (cby (addA a fn w lan pln) c (qN a) 1) q)) (As := [.int (nI fn), .int w, .int (nI lan), .int (nI pln)]) (rest := []) (wc := (wF cA F a c q)) ⟨hx, hb, hml, hown, hts⟩ (K_X1_add lch D cA F a c q fn w lan pln H.size (by omega) (by omega) (by omega)) (cwV 4 hts gX3_launch_X1_add rfl rfl rfl (by decide +kernel) ⟨Nat.le_of_ble_eq_true rfl, Nat.le_of_ble_eq_true rfl⟩) hE hP hD hS hA [8, 9, 10, 11, 12, 13, 14, 15, 16, 17, 18, 19, 20, 21, 22, 23, 24, 25, 26, 27, 28, 29, 30] rfl rfl [F 0, F 1, F 2, F 3, F 4, F 5, F 6, F 7, F 8, F 9, F 10, F 11, F 12, F 13, F 14, F 15, F 16, F 17, F 18, F 19, F 20, F 21, F 22] (fun _ => rfl) rfl (fun (u_14 : Unit) => (([(x, .inr (3, [.ref (B 0), .ref (F 0), .ref (G 0)]))] : va_W) ++ ((wB cA B b) ++ ((wF cA F (addA a fn w lan pln) (cby (addA a fn w lan pln) c (qN a) 1) q) ++ (wF cA G a2 c2 q2))))) (fun _ => pst_blk (([(x, .inr (3, [.ref (B 0), .ref (F 0), .ref (G 0)]))] : va_W) ++ (wB cA B b)) (wF cA G a2 c2 q2) (wc := (wF cA F a c q)) 23 8 rfl rfl rfl rfl rfl rfl) X0.blind (fun _ _ _ => trivial) 8 1 rfl rfl rfl hl.1 rfl rfl (Nat.le_of_ble_eq_true rfl) dX3_launch_84 ⟨Nat.zero_le _, Nat.zero_le _⟩ (fun r_13 u_14 H locs h_15 hP hD hS => ?_)
              subst h_15
              refine W.widen (k := 1) (n := 6) (by first | exact Nat.le_of_ble_eq_true rfl | omega) (by first | exact Nat.le_of_ble_eq_true rfl | omega) ?_
              have ewd : addA a ((nI fn).toNatClampNeg) w ((nI lan).toNatClampNeg) ((nI pln).toNatClampNeg) = addA a fn w lan pln := by rw [nI_clamp (by omega), nI_clamp (by omega), nI_clamp (by omega)]
              have hc9 := CRa_add (w := w) (p := pln) hcr (show fn < 3 by omega) (show lan < 3 by omega)
              obtain ⟨cc9, ecc⟩ : ∃ z, z = cby (addA a fn w lan pln) c (qN a) 1 := ⟨_, rfl⟩
              rw [← ecc] at hP hc9
              rw [← ewd] at hP hc9
              rw [hQQ]
              refine vx_ret ?_
              exact W.iret (v := nI (qN a)) hx hb hr (fun t ht hW => ⟨⟨nI (qN a), cc9, rfl, ⟨rfl, by unfold cdLaunch; rw [if_neg (by simp [c4, c11, c19]), if_neg (by simp [c40]), if_neg (by omega)], hc9⟩, by show va_P _ _ _ t.heap; rw [ht]; exact hP⟩, hS.F ht⟩) hS.2.2 dX3_launch_87
            · skip
              have c62 := (not_congr (nI_ltI (a := qN a) (b := 40) (by omega) (by omega))).mp c62
              rw [hQQ]
              exact thrS (sa := sa) (is := 113) (text := "too many lanterns") hx hb hlt hown kw6 kw7 (fun w h => hts w (List.mem_cons_of_mem _ (List.mem_append_right _ h))) hXs (by decide +kernel) hS hP (by rw [hml]; exact hl.1) dX3_launch_65 dX3_launch_68 dX3_launch_69 dX3_launch_71 dX3_launch_74 htb (Nat.le_of_ble_eq_true rfl) (Nat.le_of_ble_eq_true rfl) (Nat.le_of_ble_eq_true rfl) (Nat.le_of_ble_eq_true rfl) hlocks (Nat.le_of_ble_eq_true rfl) (Nat.le_of_ble_eq_true rfl) (Or.inr (Or.inr (⟨by unfold cdLaunch; rw [if_neg (by simp [c4, c11, c19]), if_neg (by simp [c40]), if_pos (by omega)], rfl⟩)))
          · skip
            have c40 := bi_0.mp c40
            rw [hQQ]
            exact thrA (sa := sa) (is := 108) (text := "no such wish") hx hb hlt hown kw8 kw9 (fun w h => hts w (List.mem_cons_of_mem _ (List.mem_append_left _ (List.mem_append_right _ h)))) hXs (by decide +kernel) hS hP (by rw [hml]; exact hl.1) dX3_launch_43 dX3_launch_46 dX3_launch_47 dX3_launch_49 dX3_launch_52 htb (Nat.le_of_ble_eq_true rfl) (Nat.le_of_ble_eq_true rfl) (Nat.le_of_ble_eq_true rfl) (Nat.le_of_ble_eq_true rfl) hlocks (Nat.le_of_ble_eq_true rfl) (Nat.le_of_ble_eq_true rfl) (Or.inr (Or.inl ⟨by unfold cdLaunch; rw [if_neg (by simp [c4, c11, c19]), if_pos c40], rfl⟩))
        · skip
          have c19 := bi_0.mp c19
          rw [hQQ]
          exact thrI (sa := sa) (is := 106) (text := "no such frame, lane or place") hx hb hlt hown kw0 kw1 (fun w h => hts w (List.mem_cons_of_mem _ (List.mem_append_left _ (List.mem_append_left _ (List.mem_append_right _ h))))) hXs (by decide +kernel) hS hP (by rw [hml]; exact hl.1) dX3_launch_22 dX3_launch_25 dX3_launch_26 dX3_launch_28 dX3_launch_31 htb (Nat.le_of_ble_eq_true rfl) (Nat.le_of_ble_eq_true rfl) (Nat.le_of_ble_eq_true rfl) (Nat.le_of_ble_eq_true rfl) hlocks (Nat.le_of_ble_eq_true rfl) (Nat.le_of_ble_eq_true rfl) (Or.inl ⟨by unfold cdLaunch; rw [if_pos (Or.inr (Or.inr c19))], rfl⟩)
  rw [hg1, hg2] at hgoal
  exact hgoal
