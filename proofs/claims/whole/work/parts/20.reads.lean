set_option maxHeartbeats 4000000 in
set_option maxRecDepth 100000 in
/-- riverFact -/
theorem K_X3_riverFact (lch : Launch) (D : va_G) (cA : ClassId) (x : Nat) (B : Nat → Nat) (F : Nat → Nat) (G : Nat → Nat) (b : BSt) (a : FSt) (c : Nat → Int32) (q : Nat → Int32) (a2 : FSt) (c2 : Nat → Int32) (q2 : Nat → Int32) (l : Nat) (p : Nat) (w : Nat) (sz : Nat) (hw1 : WFa a) (hcr : CRa a c) (hwn : WFn b a) (h3 : l < 3) (h6 : p < 60) (hw : w ≤ 3) : Met lch yX3_riverFact wsX3_riverFact ({ frames := 2, cells := 0, slots := 0, locals := 46 }) (Pr D cA [.ref x, .int (nI l), .int (nI p), .int (nI w)] sz (([(x, .inr (3, [.ref (B 0), .ref (F 0), .ref (G 0)]))] : va_W) ++ ((wB cA B b) ++ ((wF cA F a c q) ++ (wF cA G a2 c2 q2)))) X0) (va_Qi (fun (r : Int32) (u : Unit) => r = riverA a b l p w) (fun _ _ => True) (fun q : Nat => sz ≤ q)) 0 0 (fun q : Nat => sz ≤ q) := by
  refine Met.ofW (cc := cX3_riverFact) (maxL := 4) (ret := (some .int)) (by decide) rfl ?_
  intro pg ev s mi args below meth cd s₁ B hml hv
  obtain ⟨hav, hsz, hP, hE, hD, hXs⟩ := hv
  have hx := B.exec
  have hb := B.bytes
  have hr := B.returns
  have hts := atoms_spec (ws := wsX3_riverFact) B.pre
  have hown : s.vm.findClass RX3 = some mi.cls := findClass_of_methodNamed B.named
  have hlocks := B.notSynchronized
  clear B
  subst hav
  subst hsz
  have hA : ∀ q : Nat, s.heap.size ≤ q → (fun q : Nat => s.heap.size ≤ q) q := fun _ h => h
  have hS : va_S (fun q : Nat => s.heap.size ≤ q) s.heap s.heap [] := va_S.rf
  obtain ⟨QQ, hQQ⟩ : ∃ qq9, qq9 = MQ below (va_Qi (fun (r : Int32) (u : Unit) => r = riverA a b l p w) (fun _ _ => True) (fun q : Nat => s.heap.size ≤ q)) ([.ref x, .int (nI l), .int (nI p), .int (nI w)] : List Value).toArray s 0 0 (fun q : Nat => s.heap.size ≤ q) := ⟨_, rfl⟩
  rw [← hQQ]
  have hl := lv_entry ([.ref x, .int (nI l), .int (nI p), .int (nI w)]) (n := 4) (Nat.le_of_ble_eq_true rfl)
  rw [lg_entry_eq]
  generalize (lg_sl ([.ref x, .int (nI l), .int (nI p), .int (nI w)]) ++ List.replicate (4 - (lg_sl ([.ref x, .int (nI l), .int (nI p), .int (nI w)])).length) Slot.unset).toArray = ls at hl ⊢
  have hl : lv_has ls 4 [(0, .ref x), (1, .int (nI l)), (2, .int (nI p)), (3, .int (nI w))] := hl
  have kf19 := hts (.fieldLink RX3 19 "LanternWeirs" "fleet" "LLanternWeirs$Fleet;") (by decide +kernel)
  have inX3 : ∀ w ∈ u_ws RX3 TX3 3, w ∈ wsX3_riverFact := by decide +kernel
  have kf10 := hts (.fieldLink RX3 10 "LanternWeirs" "bed" "LLanternWeirs$Bed;") (by decide +kernel)
  have kf68 := hts (.fieldLink RX3 68 "LanternWeirs$Bed" "sprays" "LLanternWeirs$Row;") (by decide +kernel)
  have inX0 : ∀ w ∈ u_ws RX0 TX0 5, w ∈ wsX3_riverFact := by decide +kernel
  obtain ⟨H, locs, hP, hS, hgo⟩ : ∃ H locs, va_P D vwCl (([(x, .inr (3, [.ref (B 0), .ref (F 0), .ref (G 0)]))] : va_W) ++ ((wB cA B b) ++ ((wF cA F a c q) ++ (wF cA G a2 c2 q2)))) H ∧ va_S (fun q : Nat => s.heap.size ≤ q) s.heap H locs ∧ (H = s.heap ∧ locs = []) := ⟨_, _, hP, hS, rfl, rfl⟩
  obtain ⟨hg1, hg2⟩ := hgo
  have hgoal : W pg lch ev (headSpec wsX3_riverFact ({ frames := 2, cells := 0, slots := 0, locals := 46 })).room s mi ([.ref x, .int (nI l), .int (nI p), .int (nI w)] : List Value).toArray below meth cd H locs 0 0 QQ (F0 mi 0 ls []) := by
    refine lv_iload_n hx hb dX3_riverFact_0 rfl (lv_at hl 3 rfl) ?_
    obtain rfl | rfl | rfl | rfl : w = 0 ∨ w = 1 ∨ w = 2 ∨ w = 3 := by omega
    · skip
      refine lv_tableIn (tgt := 28) (off := 27) hx hb dX3_riverFact_1 (by decide) (by decide) (by decide) (by decide) ?_
      refine lv_aload_n hx hb dX3_riverFact_28 rfl (lv_at hl 0 rfl) ?_
      refine va_get (D := D) (ci := 3) (v := .ref (F 0)) (C := RX3) (T := TX3) (N := 3) hx hb hts inX3 hown hE.1 hP 0 rfl rfl 1 (by decide) kf19 (fun _ h9 => h9) rfl dX3_riverFact_29 ?_
      refine lv_iload_n hx hb dX3_riverFact_32 rfl (lv_at hl 1 rfl) ?_
      refine lv_iload_n hx hb dX3_riverFact_33 rfl (lv_at hl 2 rfl) ?_
      refine pVi (As := [.int (nI l), .int (nI p)]) (rest := []) (wc := (wF cA F a c q)) ⟨hx, hb, hml, hown, hts⟩ (K_X1_floatingAt lch D cA F a c q l p H.size (by first | assumption | omega) (by first | assumption | omega) (by first | assumption | omega) (by first | assumption | omega)) (cwV 2 hts gX3_riverFact_X1_floatingAt rfl rfl rfl (by decide +kernel) ⟨Nat.le_of_ble_eq_true rfl, Nat.le_of_ble_eq_true rfl⟩) hE hP hD hS hA [8, 9, 10, 11, 12, 13, 14, 15, 16, 17, 18, 19, 20, 21, 22, 23, 24, 25, 26, 27, 28, 29, 30] rfl rfl X0.blind (fun _ _ _ => trivial) 8 1 rfl rfl rfl hl.1 rfl rfl (Nat.le_of_ble_eq_true rfl) dX3_riverFact_34 ⟨Nat.zero_le _, Nat.zero_le _⟩ (fun r_1 u_2 H locs h_3 hP hS => ?_)
      subst h_3
      rw [hQQ]
      exact W.iret (v := nI (atA a l p 0)) hx hb hr (fun t ht hW => ⟨⟨nI (atA a l p 0), (), rfl, rfl, trivial⟩, hS.F ht⟩) hS.2.2 dX3_riverFact_37
    · skip
      refine lv_tableIn (tgt := 38) (off := 37) hx hb dX3_riverFact_1 (by decide) (by decide) (by decide) (by decide) ?_
      refine lv_aload_n hx hb dX3_riverFact_38 rfl (lv_at hl 0 rfl) ?_
      refine va_get (D := D) (ci := 3) (v := .ref (B 0)) (C := RX3) (T := TX3) (N := 3) hx hb hts inX3 hown hE.1 hP 0 rfl rfl 0 (by decide) kf10 (fun _ h9 => h9) rfl dX3_riverFact_39 ?_
      refine va_get (D := D) (ci := 0) (v := .ref (B 2)) (C := RX0) (T := TX0) (N := 5) hx hb hts inX0 hown hE.1 hP 1 rfl rfl 1 (by decide) kf68 (fun _ h9 => h9) rfl dX3_riverFact_42 ?_
      refine lv_iload_n hx hb dX3_riverFact_45 rfl (lv_at hl 2 rfl) ?_
      refine pVi (As := [.int (nI p)]) (rest := []) (wc := (wR cA (B 2) (B 5) 60 (bSp b))) ⟨hx, hb, hml, hown, hts⟩ (K_X2_getk lch D cA (B 2) (B 5) 60 (bSp b) p (bSp b p) H.size (by omega) (Nat.le_of_ble_eq_true rfl) (rfl)) (cwV 1 hts gX3_riverFact_X2_get rfl rfl rfl (by decide +kernel) ⟨Nat.le_of_ble_eq_true rfl, Nat.le_of_ble_eq_true rfl⟩) hE hP hD hS hA [3, 6] rfl rfl X0.blind (fun _ _ _ => trivial) 3 2 rfl rfl rfl hl.1 rfl rfl (Nat.le_of_ble_eq_true rfl) dX3_riverFact_46 ⟨Nat.zero_le _, Nat.zero_le _⟩ (fun r_4 u_5 H locs h_6 hP hS => ?_)
      subst h_6
      rw [hQQ]
      exact W.iret (v := bSp b p) hx hb hr (fun t ht hW => ⟨⟨bSp b p, (), rfl, rfl, trivial⟩, hS.F ht⟩) hS.2.2 dX3_riverFact_49
    · skip
      refine lv_tableIn (tgt := 50) (off := 49) hx hb dX3_riverFact_1 (by decide) (by decide) (by decide) (by decide) ?_
      refine lv_aload_n hx hb dX3_riverFact_50 rfl (lv_at hl 0 rfl) ?_
      refine va_get (D := D) (ci := 3) (v := .ref (B 0)) (C := RX3) (T := TX3) (N := 3) hx hb hts inX3 hown hE.1 hP 0 rfl rfl 0 (by decide) kf10 (fun _ h9 => h9) rfl dX3_riverFact_51 ?_
      refine lv_iload_n hx hb dX3_riverFact_54 rfl (lv_at hl 1 rfl) ?_
      refine lv_iload_n hx hb dX3_riverFact_55 rfl (lv_at hl 2 rfl) ?_
      refine pVi (As := [.int (nI l), .int (nI p)]) (rest := []) (wc := (wB cA B b)) ⟨hx, hb, hml, hown, hts⟩ (K_X0_hasNet lch D cA B b l p H.size (h3) (h6)) (cwV 2 hts gX3_riverFact_X0_hasNet rfl rfl rfl (by decide +kernel) ⟨Nat.le_of_ble_eq_true rfl, Nat.le_of_ble_eq_true rfl⟩) hE hP hD hS hA [1, 2, 3, 4, 5, 6, 7] rfl rfl X0.blind (fun _ _ _ => trivial) 1 0 rfl rfl rfl hl.1 rfl rfl (Nat.le_of_ble_eq_true rfl) dX3_riverFact_56 ⟨Nat.zero_le _, Nat.zero_le _⟩ (fun r_7 u_8 H locs h_9 hP hS => ?_)
      subst h_9
      refine lv_if_eq (tgt := 66) hx hb dX3_riverFact_59 (by decide) (fun c59 => ?_) (fun c59 => ?_)
      · skip
        have c59 := bi_0.mp c59
        refine lv_iconst (v := 0) hx hb dX3_riverFact_66 (by decide) ?_
        rw [hQQ]
        exact W.iret (v := 0) hx hb hr (fun t ht hW => ⟨⟨0, (), rfl, by show _ = bi (bNe b (l * 60 + p)); rw [c59]; rfl, trivial⟩, hS.F ht⟩) hS.2.2 dX3_riverFact_67
      · skip
        have c59 := bi_1.mp c59
        refine lv_iconst (v := 1) hx hb dX3_riverFact_62 (by decide) ?_
        refine lv_goto (tgt := 67) hx hb dX3_riverFact_63 (by decide) ?_
        rw [hQQ]
        exact W.iret (v := 1) hx hb hr (fun t ht hW => ⟨⟨1, (), rfl, by show _ = bi (bNe b (l * 60 + p)); rw [c59]; rfl, trivial⟩, hS.F ht⟩) hS.2.2 dX3_riverFact_67
    · skip
      refine lv_tableOut (tgt := 68) hx hb dX3_riverFact_1 (Or.inr (by decide)) (by decide) ?_
      refine lv_aload_n hx hb dX3_riverFact_68 rfl (lv_at hl 0 rfl) ?_
      refine va_get (D := D) (ci := 3) (v := .ref (B 0)) (C := RX3) (T := TX3) (N := 3) hx hb hts inX3 hown hE.1 hP 0 rfl rfl 0 (by decide) kf10 (fun _ h9 => h9) rfl dX3_riverFact_69 ?_
      refine lv_iload_n hx hb dX3_riverFact_72 rfl (lv_at hl 1 rfl) ?_
      refine lv_iload_n hx hb dX3_riverFact_73 rfl (lv_at hl 2 rfl) ?_
      refine pVi (As := [.int (nI l), .int (nI p)]) (rest := []) (wc := (wB cA B b)) ⟨hx, hb, hml, hown, hts⟩ (K_X0_hasNet lch D cA B b l p H.size (h3) (h6)) (cwV 2 hts gX3_riverFact_X0_hasNet rfl rfl rfl (by decide +kernel) ⟨Nat.le_of_ble_eq_true rfl, Nat.le_of_ble_eq_true rfl⟩) hE hP hD hS hA [1, 2, 3, 4, 5, 6, 7] rfl rfl X0.blind (fun _ _ _ => trivial) 1 0 rfl rfl rfl hl.1 rfl rfl (Nat.le_of_ble_eq_true rfl) dX3_riverFact_74 ⟨Nat.zero_le _, Nat.zero_le _⟩ (fun r_10 u_11 H locs h_12 hP hS => ?_)
      subst h_12
      refine lv_if_eq (tgt := 92) hx hb dX3_riverFact_77 (by decide) (fun c77 => ?_) (fun c77 => ?_)
      · skip
        have c77 := bi_0.mp c77
        refine lv_iconst (v := 0) hx hb dX3_riverFact_92 (by decide) ?_
        rw [hQQ]
        exact W.iret (v := 0) hx hb hr (fun t ht hW => ⟨⟨0, (), rfl, river_3 hwn c77, trivial⟩, hS.F ht⟩) hS.2.2 dX3_riverFact_93
      · skip
        have c77 := bi_1.mp c77
        refine lv_aload_n hx hb dX3_riverFact_80 rfl (lv_at hl 0 rfl) ?_
        refine va_get (D := D) (ci := 3) (v := .ref (F 0)) (C := RX3) (T := TX3) (N := 3) hx hb hts inX3 hown hE.1 hP 0 rfl rfl 1 (by decide) kf19 (fun _ h9 => h9) rfl dX3_riverFact_81 ?_
        refine lv_iload_n hx hb dX3_riverFact_84 rfl (lv_at hl 1 rfl) ?_
        refine lv_iload_n hx hb dX3_riverFact_85 rfl (lv_at hl 2 rfl) ?_
        refine pVi (As := [.int (nI l), .int (nI p)]) (rest := []) (wc := (wF cA F a c q)) ⟨hx, hb, hml, hown, hts⟩ (K_X1_caughtAt lch D cA F a c q l p H.size (by first | assumption | omega) (by first | assumption | omega) (by first | assumption | omega)) (cwV 2 hts gX3_riverFact_X1_caughtAt rfl rfl rfl (by decide +kernel) ⟨Nat.le_of_ble_eq_true rfl, Nat.le_of_ble_eq_true rfl⟩) hE hP hD hS hA [8, 9, 10, 11, 12, 13, 14, 15, 16, 17, 18, 19, 20, 21, 22, 23, 24, 25, 26, 27, 28, 29, 30] rfl rfl X0.blind (fun _ _ _ => trivial) 8 1 rfl rfl rfl hl.1 rfl rfl (Nat.le_of_ble_eq_true rfl) dX3_riverFact_86 ⟨Nat.zero_le _, Nat.zero_le _⟩ (fun r_13 u_14 H locs h_15 hP hS => ?_)
        subst h_15
        refine lv_goto (tgt := 93) hx hb dX3_riverFact_89 (by decide) ?_
        rw [hQQ]
        exact W.iret (v := nI (atA a l p 1)) hx hb hr (fun t ht hW => ⟨⟨nI (atA a l p 1), (), rfl, rfl, trivial⟩, hS.F ht⟩) hS.2.2 dX3_riverFact_93
  rw [hg1, hg2] at hgoal
  exact hgoal

set_option maxHeartbeats 4000000 in
set_option maxRecDepth 100000 in
/-- nextWeir -/
theorem K_X3_nextWeir (lch : Launch) (D : va_G) (cA : ClassId) (x : Nat) (B : Nat → Nat) (F : Nat → Nat) (G : Nat → Nat) (b : BSt) (a : FSt) (c : Nat → Int32) (q : Nat → Int32) (a2 : FSt) (c2 : Nat → Int32) (q2 : Nat → Int32) (i : Nat) (sz : Nat) (hw1 : WFa a) (hi : i < qN a) : Met lch yX3_nextWeir wsX3_nextWeir ({ frames := 3, cells := 0, slots := 0, locals := 64 }) (Pr D cA [.ref x, .int (nI i)] sz (([(x, .inr (3, [.ref (B 0), .ref (F 0), .ref (G 0)]))] : va_W) ++ ((wB cA B b) ++ ((wF cA F a c q) ++ (wF cA G a2 c2 q2)))) X0) (va_Qi (fun (r : Int32) (u : Unit) => r = nextA a b i) (fun _ _ => True) (fun q : Nat => sz ≤ q)) 0 0 (fun q : Nat => sz ≤ q) := by
  refine Met.ofW (cc := cX3_nextWeir) (maxL := 3) (ret := (some .int)) (by decide) rfl ?_
  intro pg ev s mi args below meth cd s₁ B hml hv
  obtain ⟨hav, hsz, hP, hE, hD, hXs⟩ := hv
  have hx := B.exec
  have hb := B.bytes
  have hr := B.returns
  have hts := atoms_spec (ws := wsX3_nextWeir) B.pre
  have hown : s.vm.findClass RX3 = some mi.cls := findClass_of_methodNamed B.named
  have hlocks := B.notSynchronized
  clear B
  subst hav
  subst hsz
  have hA : ∀ q : Nat, s.heap.size ≤ q → (fun q : Nat => s.heap.size ≤ q) q := fun _ h => h
  have hS : va_S (fun q : Nat => s.heap.size ≤ q) s.heap s.heap [] := va_S.rf
  obtain ⟨QQ, hQQ⟩ : ∃ qq9, qq9 = MQ below (va_Qi (fun (r : Int32) (u : Unit) => r = nextA a b i) (fun _ _ => True) (fun q : Nat => s.heap.size ≤ q)) ([.ref x, .int (nI i)] : List Value).toArray s 0 0 (fun q : Nat => s.heap.size ≤ q) := ⟨_, rfl⟩
  rw [← hQQ]
  have hl := lv_entry ([.ref x, .int (nI i)]) (n := 3) (Nat.le_of_ble_eq_true rfl)
  rw [lg_entry_eq]
  generalize (lg_sl ([.ref x, .int (nI i)]) ++ List.replicate (3 - (lg_sl ([.ref x, .int (nI i)])).length) Slot.unset).toArray = ls at hl ⊢
  have hl : lv_has ls 3 [(0, .ref x), (1, .int (nI i))] := hl
  have kf19 := hts (.fieldLink RX3 19 "LanternWeirs" "fleet" "LLanternWeirs$Fleet;") (by decide +kernel)
  have inX3 : ∀ w ∈ u_ws RX3 TX3 3, w ∈ wsX3_nextWeir := by decide +kernel
  have kf132 := hts (.fieldLink RX3 132 "LanternWeirs$Fleet" "places" "LLanternWeirs$Row;") (by decide +kernel)
  have inX1 : ∀ w ∈ u_ws RX1 TX1 13, w ∈ wsX3_nextWeir := by decide +kernel
  have kf10 := hts (.fieldLink RX3 10 "LanternWeirs" "bed" "LLanternWeirs$Bed;") (by decide +kernel)
  have kf68 := hts (.fieldLink RX3 68 "LanternWeirs$Bed" "sprays" "LLanternWeirs$Row;") (by decide +kernel)
  have inX0 : ∀ w ∈ u_ws RX0 TX0 5, w ∈ wsX3_nextWeir := by decide +kernel
  obtain ⟨H, locs, hP, hS, hgo⟩ : ∃ H locs, va_P D vwCl (([(x, .inr (3, [.ref (B 0), .ref (F 0), .ref (G 0)]))] : va_W) ++ ((wB cA B b) ++ ((wF cA F a c q) ++ (wF cA G a2 c2 q2)))) H ∧ va_S (fun q : Nat => s.heap.size ≤ q) s.heap H locs ∧ (H = s.heap ∧ locs = []) := ⟨_, _, hP, hS, rfl, rfl⟩
  obtain ⟨hg1, hg2⟩ := hgo
  have hgoal : W pg lch ev (headSpec wsX3_nextWeir ({ frames := 3, cells := 0, slots := 0, locals := 64 })).room s mi ([.ref x, .int (nI i)] : List Value).toArray below meth cd H locs 0 0 QQ (F0 mi 0 ls []) := by
    have hn := hw1.1
    obtain ⟨w1, w2, w3, w4, w5, w6, w7, w8⟩ := hw1.2 i hi
    refine lv_aload_n hx hb dX3_nextWeir_0 rfl (lv_at hl 0 rfl) ?_
    refine va_get (D := D) (ci := 3) (v := .ref (F 0)) (C := RX3) (T := TX3) (N := 3) hx hb hts inX3 hown hE.1 hP 0 rfl rfl 1 (by decide) kf19 (fun _ h9 => h9) rfl dX3_nextWeir_1 ?_
    refine lv_iload_n hx hb dX3_nextWeir_4 rfl (lv_at hl 1 rfl) ?_
    refine pVi (As := [.int (nI i)]) (rest := []) (wc := (wF cA F a c q)) ⟨hx, hb, hml, hown, hts⟩ (K_X1_isAfloat lch D cA F a c q i H.size (by first | assumption | omega) (by first | assumption | omega) (by first | assumption | omega)) (cwV 1 hts gX3_nextWeir_X1_isAfloat rfl rfl rfl (by decide +kernel) ⟨Nat.le_of_ble_eq_true rfl, Nat.le_of_ble_eq_true rfl⟩) hE hP hD hS hA [8, 9, 10, 11, 12, 13, 14, 15, 16, 17, 18, 19, 20, 21, 22, 23, 24, 25, 26, 27, 28, 29, 30] rfl rfl X0.blind (fun _ _ _ => trivial) 8 1 rfl rfl rfl hl.1 rfl rfl (Nat.le_of_ble_eq_true rfl) dX3_nextWeir_5 ⟨Nat.zero_le _, Nat.zero_le _⟩ (fun r_1 u_2 H locs h_3 hP hS => ?_)
    subst h_3
    refine lv_if_ne (tgt := 13) hx hb dX3_nextWeir_8 (by decide) (fun c8 => ?_) (fun c8 => ?_)
    · skip
      have c8 := bi_1.mp c8
      have h0 : qSt a i = 0 := by simpa using c8
      have hpl := w5 h0
      refine lv_aload_n hx hb dX3_nextWeir_13 rfl (lv_at hl 0 rfl) ?_
      refine va_get (D := D) (ci := 3) (v := .ref (F 0)) (C := RX3) (T := TX3) (N := 3) hx hb hts inX3 hown hE.1 hP 0 rfl rfl 1 (by decide) kf19 (fun _ h9 => h9) rfl dX3_nextWeir_14 ?_
      refine va_get (D := D) (ci := 1) (v := .ref (F 4)) (C := RX1) (T := TX1) (N := 13) hx hb hts inX1 hown hE.1 hP 8 rfl rfl 3 (by decide) kf132 (fun _ h9 => h9) rfl dX3_nextWeir_17 ?_
      refine lv_iload_n hx hb dX3_nextWeir_20 rfl (lv_at hl 1 rfl) ?_
      refine pVi (As := [.int (nI i)]) (rest := []) (wc := (wR cA (F 4) (F 15) 41 (fun z9 => nI (qPl a z9)))) ⟨hx, hb, hml, hown, hts⟩ (K_X2_getk lch D cA (F 4) (F 15) 41 (fun z9 => nI (qPl a z9)) i (nI (qPl a i)) H.size (by omega) (Nat.le_of_ble_eq_true rfl) (rfl)) (cwV 1 hts gX3_nextWeir_X2_get rfl rfl rfl (by decide +kernel) ⟨Nat.le_of_ble_eq_true rfl, Nat.le_of_ble_eq_true rfl⟩) hE hP hD hS hA [12, 23] rfl rfl X0.blind (fun _ _ _ => trivial) 12 2 rfl rfl rfl hl.1 rfl rfl (Nat.le_of_ble_eq_true rfl) dX3_nextWeir_21 ⟨Nat.zero_le _, Nat.zero_le _⟩ (fun r_4 u_5 H locs h_6 hP hS => ?_)
      subst h_6
      refine lv_iconst (v := 1) hx hb dX3_nextWeir_24 (by decide) ?_
      refine lv_iadd hx hb dX3_nextWeir_25 ?_
      refine top_i (y := nI ((qPl a i) + 1)) (nI_add _ _) ?_
      refine lv_istore_n (lv' := [(2, .int (nI ((qPl a i) + 1))), (0, .ref x), (1, .int (nI i))]) hx hb dX3_nextWeir_26 rfl hl (by decide) rfl (fun ls hl => ?_)
      have L27 : ∀ (fu27 : Nat) (p : Nat), (p ≤ 60) → (nextF b (60 - p) p = nextA a b i) → 60 - p < fu27 → ∀ (H : Heap) (locs : List Loc), va_P D vwCl (([(x, .inr (3, [.ref (B 0), .ref (F 0), .ref (G 0)]))] : va_W) ++ ((wB cA B b) ++ ((wF cA F a c q) ++ (wF cA G a2 c2 q2)))) H → va_S (fun q : Nat => s.heap.size ≤ q) s.heap H locs → ∀ ls : Array Slot, lv_has ls 3 [(2, .int (nI p)), (0, .ref x), (1, .int (nI i))] → W pg lch ev (headSpec wsX3_nextWeir ({ frames := 3, cells := 0, slots := 0, locals := 64 })).room s mi ([.ref x, .int (nI i)] : List Value).toArray below meth cd H locs 0 0 QQ (F0 mi 27 ls []) := by
        intro fu27
        induction fu27 with
        | zero => intro p hp hx9 hms; exact absurd hms (Nat.not_lt_zero _)
        | succ fu27 ih27 =>
          intro p hp hx9 hms27 H locs hP hS ls hl
          refine lv_iload_n hx hb dX3_nextWeir_27 rfl (lv_at hl 0 rfl) ?_
          refine lv_bipush (v := 60) hx hb dX3_nextWeir_28 (by decide) ?_
          refine lv_icmp_ge (tgt := 55) hx hb dX3_nextWeir_30 (by decide) (fun c30 => ?_) (fun c30 => ?_)
          · skip
            have c30 := (nI_leI (a := 60) (b := p) (by omega) (by omega)).mp c30
            refine lv_iconst (v := (-1)) hx hb dX3_nextWeir_55 (by decide) ?_
            rw [hQQ]
            exact W.iret (v := (-1)) hx hb hr (fun t ht hW => ⟨⟨(-1), (), rfl, by rw [← hx9, show 60 - p = 0 by omega]; rfl, trivial⟩, hS.F ht⟩) hS.2.2 dX3_nextWeir_56
          · skip
            have c30 := (not_congr (nI_leI (a := 60) (b := p) (by omega) (by omega))).mp c30
            refine lv_aload_n hx hb dX3_nextWeir_33 rfl (lv_at hl 1 rfl) ?_
            refine va_get (D := D) (ci := 3) (v := .ref (B 0)) (C := RX3) (T := TX3) (N := 3) hx hb hts inX3 hown hE.1 hP 0 rfl rfl 0 (by decide) kf10 (fun _ h9 => h9) rfl dX3_nextWeir_34 ?_
            refine va_get (D := D) (ci := 0) (v := .ref (B 2)) (C := RX0) (T := TX0) (N := 5) hx hb hts inX0 hown hE.1 hP 1 rfl rfl 1 (by decide) kf68 (fun _ h9 => h9) rfl dX3_nextWeir_37 ?_
            refine lv_iload_n hx hb dX3_nextWeir_40 rfl (lv_at hl 0 rfl) ?_
            refine pVi (As := [.int (nI p)]) (rest := []) (wc := (wR cA (B 2) (B 5) 60 (bSp b))) ⟨hx, hb, hml, hown, hts⟩ (K_X2_getk lch D cA (B 2) (B 5) 60 (bSp b) p (bSp b p) H.size (by omega) (Nat.le_of_ble_eq_true rfl) (rfl)) (cwV 1 hts gX3_nextWeir_X2_get rfl rfl rfl (by decide +kernel) ⟨Nat.le_of_ble_eq_true rfl, Nat.le_of_ble_eq_true rfl⟩) hE hP hD hS hA [3, 6] rfl rfl X0.blind (fun _ _ _ => trivial) 3 2 rfl rfl rfl hl.1 rfl rfl (Nat.le_of_ble_eq_true rfl) dX3_nextWeir_41 ⟨Nat.zero_le _, Nat.zero_le _⟩ (fun r_7 u_8 H locs h_9 hP hS => ?_)
            subst h_9
            refine lv_if_le (tgt := 49) hx hb dX3_nextWeir_44 (by decide) (fun c44 => ?_) (fun c44 => ?_)
            · skip
              refine lv_iinc (v := nI (p + 1)) (lv' := [(2, .int (nI (p + 1))), (0, .ref x), (1, .int (nI i))]) hx hb dX3_nextWeir_49 hl (k := 0) rfl (nI_add p 1) (by decide) rfl (fun ls hl => ?_)
              refine lv_goto (tgt := 27) hx hb dX3_nextWeir_52 (by decide) ?_
              have hg := next_go (b := b) (f := 60 - (p + 1)) (p := p) (nlt0.mp c44)
              rw [show 60 - (p + 1) + 1 = 60 - p by omega, hx9] at hg
              exact ih27 (p + 1) (by omega) (hg.symm) (by omega) H locs hP hS ls (lv_sub hl [0, 1, 2] rfl)
            · skip
              refine lv_iload_n hx hb dX3_nextWeir_47 rfl (lv_at hl 0 rfl) ?_
              rw [hQQ]
              exact W.iret (v := nI p) hx hb hr (fun t ht hW => ⟨⟨nI p, (), rfl, by rw [← hx9]; exact (show nextF b (60 - p) p = nI p from by rw [show 60 - p = (59 - p) + 1 by omega]; exact next_at (by have := c44; rw [nlt0] at this; exact Decidable.not_not.mp this)).symm, trivial⟩, hS.F ht⟩) hS.2.2 dX3_nextWeir_48
      exact L27 61 (qPl a i + 1) (by omega) (by unfold nextA; rw [if_pos h0, show 59 - qPl a i = 60 - (qPl a i + 1) by omega]) (by omega) H locs hP hS ls (lv_sub hl [0, 1, 2] rfl)
    · skip
      have c8 := bi_0.mp c8
      have h0 : ¬ qSt a i = 0 := by simpa using c8
      refine lv_iconst (v := (-1)) hx hb dX3_nextWeir_11 (by decide) ?_
      rw [hQQ]
      exact W.iret (v := (-1)) hx hb hr (fun t ht hW => ⟨⟨(-1), (), rfl, by unfold nextA; rw [if_neg h0], trivial⟩, hS.F ht⟩) hS.2.2 dX3_nextWeir_12
  rw [hg1, hg2] at hgoal
  exact hgoal

set_option maxHeartbeats 4000000 in
set_option maxRecDepth 100000 in
/-- counted -/
theorem K_X3_counted (lch : Launch) (D : va_G) (cA : ClassId) (x : Nat) (B : Nat → Nat) (F : Nat → Nat) (G : Nat → Nat) (b : BSt) (a : FSt) (c : Nat → Int32) (q : Nat → Int32) (a2 : FSt) (c2 : Nat → Int32) (q2 : Nat → Int32) (w : Nat) (sz : Nat) (hw1 : WFa a) (hw : w ≤ 9) : Met lch yX3_counted wsX3_counted ({ frames := 3, cells := 0, slots := 0, locals := 68 }) (Pr D cA [.ref x, .int (nI w)] sz (([(x, .inr (3, [.ref (B 0), .ref (F 0), .ref (G 0)]))] : va_W) ++ ((wB cA B b) ++ ((wF cA F a c q) ++ (wF cA G a2 c2 q2)))) X0) (va_Qi (fun (r : Int32) (u : Unit) => r = countA a b w) (fun _ _ => True) (fun q : Nat => sz ≤ q)) 0 0 (fun q : Nat => sz ≤ q) := by
  refine Met.ofW (cc := cX3_counted) (maxL := 2) (ret := (some .int)) (by decide) rfl ?_
  intro pg ev s mi args below meth cd s₁ B hml hv
  obtain ⟨hav, hsz, hP, hE, hD, hXs⟩ := hv
  have hx := B.exec
  have hb := B.bytes
  have hr := B.returns
  have hts := atoms_spec (ws := wsX3_counted) B.pre
  have hown : s.vm.findClass RX3 = some mi.cls := findClass_of_methodNamed B.named
  have hlocks := B.notSynchronized
  clear B
  subst hav
  subst hsz
  have hA : ∀ q : Nat, s.heap.size ≤ q → (fun q : Nat => s.heap.size ≤ q) q := fun _ h => h
  have hS : va_S (fun q : Nat => s.heap.size ≤ q) s.heap s.heap [] := va_S.rf
  obtain ⟨QQ, hQQ⟩ : ∃ qq9, qq9 = MQ below (va_Qi (fun (r : Int32) (u : Unit) => r = countA a b w) (fun _ _ => True) (fun q : Nat => s.heap.size ≤ q)) ([.ref x, .int (nI w)] : List Value).toArray s 0 0 (fun q : Nat => s.heap.size ≤ q) := ⟨_, rfl⟩
  rw [← hQQ]
  have hl := lv_entry ([.ref x, .int (nI w)]) (n := 2) (Nat.le_of_ble_eq_true rfl)
  rw [lg_entry_eq]
  generalize (lg_sl ([.ref x, .int (nI w)]) ++ List.replicate (2 - (lg_sl ([.ref x, .int (nI w)])).length) Slot.unset).toArray = ls at hl ⊢
  have hl : lv_has ls 2 [(0, .ref x), (1, .int (nI w))] := hl
  have kf19 := hts (.fieldLink RX3 19 "LanternWeirs" "fleet" "LLanternWeirs$Fleet;") (by decide +kernel)
  have inX3 : ∀ w ∈ u_ws RX3 TX3 3, w ∈ wsX3_counted := by decide +kernel
  have kf200 := hts (.fieldLink RX3 200 "LanternWeirs$Fleet" "minute" "I") (by decide +kernel)
  have inX1 : ∀ w ∈ u_ws RX1 TX1 13, w ∈ wsX3_counted := by decide +kernel
  have kf110 := hts (.fieldLink RX3 110 "LanternWeirs$Fleet" "size" "I") (by decide +kernel)
  have kf10 := hts (.fieldLink RX3 10 "LanternWeirs" "bed" "LLanternWeirs$Bed;") (by decide +kernel)
  have kf64 := hts (.fieldLink RX3 64 "LanternWeirs$Bed" "weirs" "I") (by decide +kernel)
  have inX0 : ∀ w ∈ u_ws RX0 TX0 5, w ∈ wsX3_counted := by decide +kernel
  have kf82 := hts (.fieldLink RX3 82 "LanternWeirs$Bed" "netCount" "I") (by decide +kernel)
  obtain ⟨H, locs, hP, hS, hgo⟩ : ∃ H locs, va_P D vwCl (([(x, .inr (3, [.ref (B 0), .ref (F 0), .ref (G 0)]))] : va_W) ++ ((wB cA B b) ++ ((wF cA F a c q) ++ (wF cA G a2 c2 q2)))) H ∧ va_S (fun q : Nat => s.heap.size ≤ q) s.heap H locs ∧ (H = s.heap ∧ locs = []) := ⟨_, _, hP, hS, rfl, rfl⟩
  obtain ⟨hg1, hg2⟩ := hgo
  have hgoal : W pg lch ev (headSpec wsX3_counted ({ frames := 3, cells := 0, slots := 0, locals := 68 })).room s mi ([.ref x, .int (nI w)] : List Value).toArray below meth cd H locs 0 0 QQ (F0 mi 0 ls []) := by
    refine lv_iload_n hx hb dX3_counted_0 rfl (lv_at hl 1 rfl) ?_
    obtain rfl | rfl | rfl | rfl | rfl | rfl | rfl | rfl | rfl | rfl : w = 0 ∨ w = 1 ∨ w = 2 ∨ w = 3 ∨ w = 4 ∨ w = 5 ∨ w = 6 ∨ w = 7 ∨ w = 8 ∨ w = 9 := by omega
    · skip
      refine lv_tableIn (tgt := 52) (off := 51) hx hb dX3_counted_1 (by decide) (by decide) (by decide) (by decide) ?_
      refine lv_aload_n hx hb dX3_counted_52 rfl (lv_at hl 0 rfl) ?_
      refine va_get (D := D) (ci := 3) (v := .ref (F 0)) (C := RX3) (T := TX3) (N := 3) hx hb hts inX3 hown hE.1 hP 0 rfl rfl 1 (by decide) kf19 (fun _ h9 => h9) rfl dX3_counted_53 ?_
      refine va_get (D := D) (ci := 1) (v := .int (qM a)) (C := RX1) (T := TX1) (N := 13) hx hb hts inX1 hown hE.1 hP 8 rfl rfl 12 (by decide) kf200 (fun _ h9 => h9) rfl dX3_counted_56 ?_
      rw [hQQ]
      exact W.iret (v := qM a) hx hb hr (fun t ht hW => ⟨⟨qM a, (), rfl, rfl, trivial⟩, hS.F ht⟩) hS.2.2 dX3_counted_59
    · skip
      refine lv_tableIn (tgt := 60) (off := 59) hx hb dX3_counted_1 (by decide) (by decide) (by decide) (by decide) ?_
      refine lv_aload_n hx hb dX3_counted_60 rfl (lv_at hl 0 rfl) ?_
      refine va_get (D := D) (ci := 3) (v := .ref (F 0)) (C := RX3) (T := TX3) (N := 3) hx hb hts inX3 hown hE.1 hP 0 rfl rfl 1 (by decide) kf19 (fun _ h9 => h9) rfl dX3_counted_61 ?_
      refine va_get (D := D) (ci := 1) (v := .int (nI (qN a))) (C := RX1) (T := TX1) (N := 13) hx hb hts inX1 hown hE.1 hP 8 rfl rfl 11 (by decide) kf110 (fun _ h9 => h9) rfl dX3_counted_64 ?_
      rw [hQQ]
      exact W.iret (v := nI (qN a)) hx hb hr (fun t ht hW => ⟨⟨nI (qN a), (), rfl, rfl, trivial⟩, hS.F ht⟩) hS.2.2 dX3_counted_67
    · skip
      have hw2 : 2 = 2 ∨ 2 = 3 ∨ 2 = 4 ∨ 2 = 5 ∨ 2 = 6 ∨ 2 = 9 := by decide
      refine lv_tableIn (tgt := 84) (off := 83) hx hb dX3_counted_1 (by decide) (by decide) (by decide) (by decide) ?_
      refine lv_aload_n hx hb dX3_counted_84 rfl (lv_at hl 0 rfl) ?_
      refine va_get (D := D) (ci := 3) (v := .ref (F 0)) (C := RX3) (T := TX3) (N := 3) hx hb hts inX3 hown hE.1 hP 0 rfl rfl 1 (by decide) kf19 (fun _ h9 => h9) rfl dX3_counted_85 ?_
      refine lv_iload_n hx hb dX3_counted_88 rfl (lv_at hl 1 rfl) ?_
      refine pVi (As := [.int (nI 2)]) (rest := []) (wc := (wF cA F a c q)) ⟨hx, hb, hml, hown, hts⟩ (K_X1_tally lch D cA F a c q 2 H.size (by first | assumption | omega) (hw2)) (cwV 1 hts gX3_counted_X1_tally rfl rfl rfl (by decide +kernel) ⟨Nat.le_of_ble_eq_true rfl, Nat.le_of_ble_eq_true rfl⟩) hE hP hD hS hA [8, 9, 10, 11, 12, 13, 14, 15, 16, 17, 18, 19, 20, 21, 22, 23, 24, 25, 26, 27, 28, 29, 30] rfl rfl X0.blind (fun _ _ _ => trivial) 8 1 rfl rfl rfl hl.1 rfl rfl (Nat.le_of_ble_eq_true rfl) dX3_counted_89 ⟨Nat.zero_le _, Nat.zero_le _⟩ (fun r_1 u_2 H locs h_3 hP hS => ?_)
      subst h_3
      rw [hQQ]
      exact W.iret (v := tallyA a 2) hx hb hr (fun t ht hW => ⟨⟨tallyA a 2, (), rfl, rfl, trivial⟩, hS.F ht⟩) hS.2.2 dX3_counted_92
    · skip
      have hw2 : 3 = 2 ∨ 3 = 3 ∨ 3 = 4 ∨ 3 = 5 ∨ 3 = 6 ∨ 3 = 9 := by decide
      refine lv_tableIn (tgt := 84) (off := 83) hx hb dX3_counted_1 (by decide) (by decide) (by decide) (by decide) ?_
      refine lv_aload_n hx hb dX3_counted_84 rfl (lv_at hl 0 rfl) ?_
      refine va_get (D := D) (ci := 3) (v := .ref (F 0)) (C := RX3) (T := TX3) (N := 3) hx hb hts inX3 hown hE.1 hP 0 rfl rfl 1 (by decide) kf19 (fun _ h9 => h9) rfl dX3_counted_85 ?_
      refine lv_iload_n hx hb dX3_counted_88 rfl (lv_at hl 1 rfl) ?_
      refine pVi (As := [.int (nI 3)]) (rest := []) (wc := (wF cA F a c q)) ⟨hx, hb, hml, hown, hts⟩ (K_X1_tally lch D cA F a c q 3 H.size (by first | assumption | omega) (hw2)) (cwV 1 hts gX3_counted_X1_tally rfl rfl rfl (by decide +kernel) ⟨Nat.le_of_ble_eq_true rfl, Nat.le_of_ble_eq_true rfl⟩) hE hP hD hS hA [8, 9, 10, 11, 12, 13, 14, 15, 16, 17, 18, 19, 20, 21, 22, 23, 24, 25, 26, 27, 28, 29, 30] rfl rfl X0.blind (fun _ _ _ => trivial) 8 1 rfl rfl rfl hl.1 rfl rfl (Nat.le_of_ble_eq_true rfl) dX3_counted_89 ⟨Nat.zero_le _, Nat.zero_le _⟩ (fun r_4 u_5 H locs h_6 hP hS => ?_)
      subst h_6
      rw [hQQ]
      exact W.iret (v := tallyA a 3) hx hb hr (fun t ht hW => ⟨⟨tallyA a 3, (), rfl, rfl, trivial⟩, hS.F ht⟩) hS.2.2 dX3_counted_92
    · skip
      have hw2 : 4 = 2 ∨ 4 = 3 ∨ 4 = 4 ∨ 4 = 5 ∨ 4 = 6 ∨ 4 = 9 := by decide
      refine lv_tableIn (tgt := 84) (off := 83) hx hb dX3_counted_1 (by decide) (by decide) (by decide) (by decide) ?_
      refine lv_aload_n hx hb dX3_counted_84 rfl (lv_at hl 0 rfl) ?_
      refine va_get (D := D) (ci := 3) (v := .ref (F 0)) (C := RX3) (T := TX3) (N := 3) hx hb hts inX3 hown hE.1 hP 0 rfl rfl 1 (by decide) kf19 (fun _ h9 => h9) rfl dX3_counted_85 ?_
      refine lv_iload_n hx hb dX3_counted_88 rfl (lv_at hl 1 rfl) ?_
      refine pVi (As := [.int (nI 4)]) (rest := []) (wc := (wF cA F a c q)) ⟨hx, hb, hml, hown, hts⟩ (K_X1_tally lch D cA F a c q 4 H.size (by first | assumption | omega) (hw2)) (cwV 1 hts gX3_counted_X1_tally rfl rfl rfl (by decide +kernel) ⟨Nat.le_of_ble_eq_true rfl, Nat.le_of_ble_eq_true rfl⟩) hE hP hD hS hA [8, 9, 10, 11, 12, 13, 14, 15, 16, 17, 18, 19, 20, 21, 22, 23, 24, 25, 26, 27, 28, 29, 30] rfl rfl X0.blind (fun _ _ _ => trivial) 8 1 rfl rfl rfl hl.1 rfl rfl (Nat.le_of_ble_eq_true rfl) dX3_counted_89 ⟨Nat.zero_le _, Nat.zero_le _⟩ (fun r_7 u_8 H locs h_9 hP hS => ?_)
      subst h_9
      rw [hQQ]
      exact W.iret (v := tallyA a 4) hx hb hr (fun t ht hW => ⟨⟨tallyA a 4, (), rfl, rfl, trivial⟩, hS.F ht⟩) hS.2.2 dX3_counted_92
    · skip
      have hw2 : 5 = 2 ∨ 5 = 3 ∨ 5 = 4 ∨ 5 = 5 ∨ 5 = 6 ∨ 5 = 9 := by decide
      refine lv_tableIn (tgt := 84) (off := 83) hx hb dX3_counted_1 (by decide) (by decide) (by decide) (by decide) ?_
      refine lv_aload_n hx hb dX3_counted_84 rfl (lv_at hl 0 rfl) ?_
      refine va_get (D := D) (ci := 3) (v := .ref (F 0)) (C := RX3) (T := TX3) (N := 3) hx hb hts inX3 hown hE.1 hP 0 rfl rfl 1 (by decide) kf19 (fun _ h9 => h9) rfl dX3_counted_85 ?_
      refine lv_iload_n hx hb dX3_counted_88 rfl (lv_at hl 1 rfl) ?_
      refine pVi (As := [.int (nI 5)]) (rest := []) (wc := (wF cA F a c q)) ⟨hx, hb, hml, hown, hts⟩ (K_X1_tally lch D cA F a c q 5 H.size (by first | assumption | omega) (hw2)) (cwV 1 hts gX3_counted_X1_tally rfl rfl rfl (by decide +kernel) ⟨Nat.le_of_ble_eq_true rfl, Nat.le_of_ble_eq_true rfl⟩) hE hP hD hS hA [8, 9, 10, 11, 12, 13, 14, 15, 16, 17, 18, 19, 20, 21, 22, 23, 24, 25, 26, 27, 28, 29, 30] rfl rfl X0.blind (fun _ _ _ => trivial) 8 1 rfl rfl rfl hl.1 rfl rfl (Nat.le_of_ble_eq_true rfl) dX3_counted_89 ⟨Nat.zero_le _, Nat.zero_le _⟩ (fun r_10 u_11 H locs h_12 hP hS => ?_)
      subst h_12
      rw [hQQ]
      exact W.iret (v := tallyA a 5) hx hb hr (fun t ht hW => ⟨⟨tallyA a 5, (), rfl, rfl, trivial⟩, hS.F ht⟩) hS.2.2 dX3_counted_92
    · skip
      have hw2 : 6 = 2 ∨ 6 = 3 ∨ 6 = 4 ∨ 6 = 5 ∨ 6 = 6 ∨ 6 = 9 := by decide
      refine lv_tableIn (tgt := 84) (off := 83) hx hb dX3_counted_1 (by decide) (by decide) (by decide) (by decide) ?_
      refine lv_aload_n hx hb dX3_counted_84 rfl (lv_at hl 0 rfl) ?_
      refine va_get (D := D) (ci := 3) (v := .ref (F 0)) (C := RX3) (T := TX3) (N := 3) hx hb hts inX3 hown hE.1 hP 0 rfl rfl 1 (by decide) kf19 (fun _ h9 => h9) rfl dX3_counted_85 ?_
      refine lv_iload_n hx hb dX3_counted_88 rfl (lv_at hl 1 rfl) ?_
      refine pVi (As := [.int (nI 6)]) (rest := []) (wc := (wF cA F a c q)) ⟨hx, hb, hml, hown, hts⟩ (K_X1_tally lch D cA F a c q 6 H.size (by first | assumption | omega) (hw2)) (cwV 1 hts gX3_counted_X1_tally rfl rfl rfl (by decide +kernel) ⟨Nat.le_of_ble_eq_true rfl, Nat.le_of_ble_eq_true rfl⟩) hE hP hD hS hA [8, 9, 10, 11, 12, 13, 14, 15, 16, 17, 18, 19, 20, 21, 22, 23, 24, 25, 26, 27, 28, 29, 30] rfl rfl X0.blind (fun _ _ _ => trivial) 8 1 rfl rfl rfl hl.1 rfl rfl (Nat.le_of_ble_eq_true rfl) dX3_counted_89 ⟨Nat.zero_le _, Nat.zero_le _⟩ (fun r_13 u_14 H locs h_15 hP hS => ?_)
      subst h_15
      rw [hQQ]
      exact W.iret (v := tallyA a 6) hx hb hr (fun t ht hW => ⟨⟨tallyA a 6, (), rfl, rfl, trivial⟩, hS.F ht⟩) hS.2.2 dX3_counted_92
    · skip
      refine lv_tableIn (tgt := 68) (off := 67) hx hb dX3_counted_1 (by decide) (by decide) (by decide) (by decide) ?_
      refine lv_aload_n hx hb dX3_counted_68 rfl (lv_at hl 0 rfl) ?_
      refine va_get (D := D) (ci := 3) (v := .ref (B 0)) (C := RX3) (T := TX3) (N := 3) hx hb hts inX3 hown hE.1 hP 0 rfl rfl 0 (by decide) kf10 (fun _ h9 => h9) rfl dX3_counted_69 ?_
      refine va_get (D := D) (ci := 0) (v := .int (nI (bW b))) (C := RX0) (T := TX0) (N := 5) hx hb hts inX0 hown hE.1 hP 1 rfl rfl 3 (by decide) kf64 (fun _ h9 => h9) rfl dX3_counted_72 ?_
      rw [hQQ]
      exact W.iret (v := nI (bW b)) hx hb hr (fun t ht hW => ⟨⟨nI (bW b), (), rfl, rfl, trivial⟩, hS.F ht⟩) hS.2.2 dX3_counted_75
    · skip
      refine lv_tableIn (tgt := 76) (off := 75) hx hb dX3_counted_1 (by decide) (by decide) (by decide) (by decide) ?_
      refine lv_aload_n hx hb dX3_counted_76 rfl (lv_at hl 0 rfl) ?_
      refine va_get (D := D) (ci := 3) (v := .ref (B 0)) (C := RX3) (T := TX3) (N := 3) hx hb hts inX3 hown hE.1 hP 0 rfl rfl 0 (by decide) kf10 (fun _ h9 => h9) rfl dX3_counted_77 ?_
      refine va_get (D := D) (ci := 0) (v := .int (nI (bK b))) (C := RX0) (T := TX0) (N := 5) hx hb hts inX0 hown hE.1 hP 1 rfl rfl 4 (by decide) kf82 (fun _ h9 => h9) rfl dX3_counted_80 ?_
      rw [hQQ]
      exact W.iret (v := nI (bK b)) hx hb hr (fun t ht hW => ⟨⟨nI (bK b), (), rfl, rfl, trivial⟩, hS.F ht⟩) hS.2.2 dX3_counted_83
    · skip
      have hw2 : 9 = 2 ∨ 9 = 3 ∨ 9 = 4 ∨ 9 = 5 ∨ 9 = 6 ∨ 9 = 9 := by decide
      refine lv_tableOut (tgt := 84) hx hb dX3_counted_1 (Or.inr (by decide)) (by decide) ?_
      refine lv_aload_n hx hb dX3_counted_84 rfl (lv_at hl 0 rfl) ?_
      refine va_get (D := D) (ci := 3) (v := .ref (F 0)) (C := RX3) (T := TX3) (N := 3) hx hb hts inX3 hown hE.1 hP 0 rfl rfl 1 (by decide) kf19 (fun _ h9 => h9) rfl dX3_counted_85 ?_
      refine lv_iload_n hx hb dX3_counted_88 rfl (lv_at hl 1 rfl) ?_
      refine pVi (As := [.int (nI 9)]) (rest := []) (wc := (wF cA F a c q)) ⟨hx, hb, hml, hown, hts⟩ (K_X1_tally lch D cA F a c q 9 H.size (by first | assumption | omega) (hw2)) (cwV 1 hts gX3_counted_X1_tally rfl rfl rfl (by decide +kernel) ⟨Nat.le_of_ble_eq_true rfl, Nat.le_of_ble_eq_true rfl⟩) hE hP hD hS hA [8, 9, 10, 11, 12, 13, 14, 15, 16, 17, 18, 19, 20, 21, 22, 23, 24, 25, 26, 27, 28, 29, 30] rfl rfl X0.blind (fun _ _ _ => trivial) 8 1 rfl rfl rfl hl.1 rfl rfl (Nat.le_of_ble_eq_true rfl) dX3_counted_89 ⟨Nat.zero_le _, Nat.zero_le _⟩ (fun r_16 u_17 H locs h_18 hP hS => ?_)
      subst h_18
      rw [hQQ]
      exact W.iret (v := tallyA a 9) hx hb hr (fun t ht hW => ⟨⟨tallyA a 9, (), rfl, rfl, trivial⟩, hS.F ht⟩) hS.2.2 dX3_counted_92
  rw [hg1, hg2] at hgoal
  exact hgoal
