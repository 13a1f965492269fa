set_option maxHeartbeats 4000000 in
set_option maxRecDepth 100000 in
/-- pass -/
theorem K_X3_pass (lch : Launch) (hlt : lch.stackTraces = false) (D : va_G) (cA : ClassId) (sa : Nat → Nat) (x : Nat) (B : Nat → Nat) (F : Nat → Nat) (G : Nat → Nat) (b : BSt) (a : FSt) (c : Nat → Int32) (q : Nat → Int32) (a2 : FSt) (c2 : Nat → Int32) (q2 : Nat → Int32) (m : Int32) (sz : Nat) (hw1 : WFa a) (hwb : WFb b) (hcr : CRa a c) : vx_Met lch yX3_pass wsX3_pass ({ frames := 6, cells := 1, slots := 6, locals := 119 }) (Pr D cA [.ref x, .int m] sz (([(x, .inr (3, [.ref (B 0), .ref (F 0), .ref (G 0)]))] : va_W) ++ ((wB cA B b) ++ ((wF cA F a c q) ++ (wF cA G a2 c2 q2)))) (TX sa (va_A (([(x, .inr (3, [.ref (B 0), .ref (F 0), .ref (G 0)]))] : va_W) ++ ((wB cA B b) ++ ((wF cA F a c q) ++ (wF cA G a2 c2 q2)))) sz))) (va_Qi (fun (r : Int32) (u : (Nat → Int32) × (Nat → Int32)) => r = tallyA (minsA b (m).toNatClampNeg a) 3 - tallyA a 3 ∧ cdPass m = 0 ∧ CRa (minsA b (m).toNatClampNeg a) u.1) (fun (u : (Nat → Int32) × (Nat → Int32)) t => va_P D vwCl (([(x, .inr (3, [.ref (B 0), .ref (F 0), .ref (G 0)]))] : va_W) ++ ((wB cA B b) ++ ((wF cA F (minsA b (m).toNatClampNeg a) u.1 u.2) ++ (wF cA G a2 c2 q2)))) t.heap) (va_A (([(x, .inr (3, [.ref (B 0), .ref (F 0), .ref (G 0)]))] : va_W) ++ ((wB cA B b) ++ ((wF cA F a c q) ++ (wF cA G a2 c2 q2)))) sz)) (vx_X (S := Unit) (fun _ => True) (fun E _ t => (fun E => (cdPass m = 1 ∧ E = "java/lang/IllegalArgumentException")) E ∧ va_P D vwCl (([(x, .inr (3, [.ref (B 0), .ref (F 0), .ref (G 0)]))] : va_W) ++ ((wB cA B b) ++ ((wF cA F a c q) ++ (wF cA G a2 c2 q2)))) t.heap) (va_A (([(x, .inr (3, [.ref (B 0), .ref (F 0), .ref (G 0)]))] : va_W) ++ ((wB cA B b) ++ ((wF cA F a c q) ++ (wF cA G a2 c2 q2)))) sz)) 1 6 (va_A (([(x, .inr (3, [.ref (B 0), .ref (F 0), .ref (G 0)]))] : va_W) ++ ((wB cA B b) ++ ((wF cA F a c q) ++ (wF cA G a2 c2 q2)))) sz) := by
  refine vx_ofW (cc := cX3_pass) (maxL := 3) (ret := (some .int)) (by decide) rfl ?_
  intro pg ev s mi args below meth cd s₁ B hml htb hv
  obtain ⟨hav, hsz, hP, hE, hD, hXs⟩ := hv
  have hx := B.exec
  have hb := B.bytes
  have hr := B.returns
  have hts := atoms_spec (ws := wsX3_pass) B.pre
  have hown : s.vm.findClass RX3 = some mi.cls := findClass_of_methodNamed B.named
  have hlocks := B.notSynchronized
  clear B
  subst hav
  subst hsz
  have hD := hD.self (sz := s.heap.size)
  generalize hAe : va_A (([(x, .inr (3, [.ref (B 0), .ref (F 0), .ref (G 0)]))] : va_W) ++ ((wB cA B b) ++ ((wF cA F a c q) ++ (wF cA G a2 c2 q2)))) s.heap.size = A at hD hXs ⊢
  have hA : ∀ q : Nat, s.heap.size ≤ q → A q := fun q h => by rw [← hAe]; exact Or.inr h
  have hS : va_S A s.heap s.heap [] := va_S.rf
  obtain ⟨QQ, hQQ⟩ : ∃ qq9, qq9 = vx_MQ below (va_Qi (fun (r : Int32) (u : (Nat → Int32) × (Nat → Int32)) => r = tallyA (minsA b (m).toNatClampNeg a) 3 - tallyA a 3 ∧ cdPass m = 0 ∧ CRa (minsA b (m).toNatClampNeg a) u.1) (fun (u : (Nat → Int32) × (Nat → Int32)) t => va_P D vwCl (([(x, .inr (3, [.ref (B 0), .ref (F 0), .ref (G 0)]))] : va_W) ++ ((wB cA B b) ++ ((wF cA F (minsA b (m).toNatClampNeg a) u.1 u.2) ++ (wF cA G a2 c2 q2)))) t.heap) A) (vx_X (S := Unit) (fun _ => True) (fun E _ t => (fun E => (cdPass m = 1 ∧ E = "java/lang/IllegalArgumentException")) E ∧ va_P D vwCl (([(x, .inr (3, [.ref (B 0), .ref (F 0), .ref (G 0)]))] : va_W) ++ ((wB cA B b) ++ ((wF cA F a c q) ++ (wF cA G a2 c2 q2)))) t.heap) A) ([.ref x, .int m] : List Value).toArray s 1 6 A := ⟨_, rfl⟩
  rw [← hQQ]
  have hl := lv_entry ([.ref x, .int m]) (n := 3) (Nat.le_of_ble_eq_true rfl)
  rw [lg_entry_eq]
  generalize (lg_sl ([.ref x, .int m]) ++ List.replicate (3 - (lg_sl ([.ref x, .int m])).length) Slot.unset).toArray = ls at hl ⊢
  have hl : lv_has ls 3 [(0, .ref x), (1, .int m)] := hl
  have kf19 := hts (.fieldLink RX3 19 "LanternWeirs" "fleet" "LLanternWeirs$Fleet;") (by decide +kernel)
  have inX3 : ∀ w ∈ u_ws RX3 TX3 3, w ∈ wsX3_pass := by decide +kernel
  have kf10 := hts (.fieldLink RX3 10 "LanternWeirs" "bed" "LLanternWeirs$Bed;") (by decide +kernel)
  have kw3 := hts (.classLink RX3 41 "java/lang/IllegalArgumentException") (by decide +kernel)
  have kw4 := hts (.initialized "java/lang/IllegalArgumentException") (by decide +kernel)
  obtain ⟨H, locs, hP, hS, hg1, hg2⟩ : ∃ H locs, va_P D vwCl (([(x, .inr (3, [.ref (B 0), .ref (F 0), .ref (G 0)]))] : va_W) ++ ((wB cA B b) ++ ((wF cA F a c q) ++ (wF cA G a2 c2 q2)))) H ∧ va_S A s.heap H locs ∧ H = s.heap ∧ locs = [] := ⟨_, _, hP, hS, rfl, rfl⟩
  have hgoal : W pg lch ev (headSpec wsX3_pass ({ frames := 6, cells := 1, slots := 6, locals := 119 })).room s mi ([.ref x, .int m] : List Value).toArray below meth cd H locs 0 0 QQ (F0 mi 0 ls []) := by
    refine lv_iload_n hx hb dX3_pass_0 rfl (lv_at hl 1 rfl) ?_
    refine lv_iconst (v := 1) hx hb dX3_pass_1 (by decide) ?_
    refine lv_bipush (v := 90) hx hb dX3_pass_2 (by decide) ?_
    refine pSi (As := [.int m, .int 1, .int 90]) (rest := []) (wc := ([] : va_W)) ⟨hx, hb, hml, hown, hts⟩ (K_X3_isWithin lch D cA m 1 90 H.size ) (cwS 3 hts gX3_pass_X3_isWithin rfl rfl rfl (by decide +kernel) ⟨Nat.le_of_ble_eq_true rfl, Nat.le_of_ble_eq_true rfl⟩) hE hP hD hS hA [] rfl rfl X0.blind (fun _ _ _ => trivial) hl.1 rfl rfl (Nat.le_of_ble_eq_true rfl) dX3_pass_4 ⟨Nat.zero_le _, Nat.zero_le _⟩ (fun r_1 u_2 H locs h_3 hP hS => ?_)
    subst h_3
    refine lv_if_ne (tgt := 20) hx hb dX3_pass_7 (by decide) (fun c7 => ?_) (fun c7 => ?_)
    · skip
      have c7 := bi_1.mp c7
      obtain ⟨mn, hm9, em⟩ := isW_nat (n := 90) (isW_0 c7) (by decide)
      subst em
      refine lv_aload_n hx hb dX3_pass_20 rfl (lv_at hl 0 rfl) ?_
      refine va_get (D := D) (ci := 3) (v := .ref (F 0)) (C := RX3) (T := TX3) (N := 3) hx hb hts inX3 hown hE.1 hP 0 rfl rfl 1 (by decide) kf19 (fun _ h9 => h9) rfl dX3_pass_21 ?_
      refine lv_iconst (v := 3) hx hb dX3_pass_24 (by decide) ?_
      have hwz := hw1
      refine pVi (As := [.int 3]) (rest := []) (wc := (wF cA F a c q)) ⟨hx, hb, hml, hown, hts⟩ (K_X1_tally lch D cA F a c q 3 H.size (hwz) (Or.inr (Or.inl rfl))) (cwV 1 hts gX3_pass_X1_tally rfl rfl rfl (by decide +kernel) ⟨Nat.le_of_ble_eq_true rfl, Nat.le_of_ble_eq_true rfl⟩) hE hP hD hS hA [8, 9, 10, 11, 12, 13, 14, 15, 16, 17, 18, 19, 20, 21, 22, 23, 24, 25, 26, 27, 28, 29, 30] rfl rfl X0.blind (fun _ _ _ => trivial) 8 1 rfl rfl rfl hl.1 rfl rfl (Nat.le_of_ble_eq_true rfl) dX3_pass_25 ⟨Nat.zero_le _, Nat.zero_le _⟩ (fun r_4 u_5 H locs h_6 hP hS => ?_)
      subst h_6
      refine lv_istore_n (lv' := [(2, .int (tallyA a 3)), (0, .ref x), (1, .int (nI mn))]) hx hb dX3_pass_28 rfl hl (by decide) rfl (fun ls hl => ?_)
      refine lv_aload_n hx hb dX3_pass_29 rfl (lv_at hl 1 rfl) ?_
      refine va_get (D := D) (ci := 3) (v := .ref (F 0)) (C := RX3) (T := TX3) (N := 3) hx hb hts inX3 hown hE.1 hP 0 rfl rfl 1 (by decide) kf19 (fun _ h9 => h9) rfl dX3_pass_30 ?_
      refine lv_iload_n hx hb dX3_pass_33 rfl (lv_at hl 2 rfl) ?_
      refine lv_aload_n hx hb dX3_pass_34 rfl (lv_at hl 1 rfl) ?_
      refine va_get (D := D) (ci := 3) (v := .ref (B 0)) (C := RX3) (T := TX3) (N := 3) hx hb hts inX3 hown hE.1 hP 0 rfl rfl 0 (by decide) kf10 (fun _ h9 => h9) rfl dX3_pass_35 ?_
      refine cVv (wB := fun (u9 : (Nat → Int32) × (Nat → Int32)) => ((wF cA F (minsA b mn a) u9.1 u9.2) ++ (wB cA B b))) (As := [.int (nI mn), .ref (B 0)]) (rest := []) (wc := ((wF cA F a c q) ++ (wB cA B b))) ⟨hx, hb, hml, hown, hts⟩ (K_X1_passMinutes lch D cA F a c q B b mn H.size (hw1) (hwb) (hcr) (by omega)) (cwV 2 hts gX3_pass_X1_passMinutes rfl rfl rfl (by decide +kernel) ⟨Nat.le_of_ble_eq_true rfl, Nat.le_of_ble_eq_true rfl⟩) hE hP hD hS hA [8, 9, 10, 11, 12, 13, 14, 15, 16, 17, 18, 19, 20, 21, 22, 23, 24, 25, 26, 27, 28, 29, 30, 1, 2, 3, 4, 5, 6, 7] rfl rfl [F 0, F 1, F 2, F 3, F 4, F 5, F 6, F 7, F 8, F 9, F 10, F 11, F 12, F 13, F 14, F 15, F 16, F 17, F 18, F 19, F 20, F 21, F 22, B 0, B 1, B 2, B 3, B 4, B 5, B 6] (fun _ => rfl) rfl (fun (u9 : (Nat → Int32) × (Nat → Int32)) => (([(x, .inr (3, [.ref (B 0), .ref (F 0), .ref (G 0)]))] : va_W) ++ ((wB cA B b) ++ ((wF cA F (minsA b mn a) u9.1 u9.2) ++ (wF cA G a2 c2 q2))))) (fun u9 => ((pst_app 23 (ps1 := [8, 9, 10, 11, 12, 13, 14, 15, 16, 17, 18, 19, 20, 21, 22, 23, 24, 25, 26, 27, 28, 29, 30]) (ps2 := [1, 2, 3, 4, 5, 6, 7]) (w1 := (wF cA F (minsA b mn a) u9.1 u9.2)) (w2 := (wB cA B b)) rfl rfl rfl).trans ((congrArg (fun z => pst z [1, 2, 3, 4, 5, 6, 7] (wB cA B b)) (pst_blk (([(x, .inr (3, [.ref (B 0), .ref (F 0), .ref (G 0)]))] : va_W) ++ (wB cA B b)) (wF cA G a2 c2 q2) (wc := (wF cA F a c q)) (w1 := (wF cA F (minsA b mn a) u9.1 u9.2)) (w2 := (([(x, .inr (3, [.ref (B 0), .ref (F 0), .ref (G 0)]))] : va_W) ++ ((wB cA B b) ++ ((wF cA F (minsA b mn a) u9.1 u9.2) ++ (wF cA G a2 c2 q2))))) 23 8 rfl rfl rfl rfl rfl rfl)).trans (pst_blk ([(x, .inr (3, [.ref (B 0), .ref (F 0), .ref (G 0)]))] : va_W) ((wF cA F (minsA b mn a) u9.1 u9.2) ++ (wF cA G a2 c2 q2)) (wc := (wB cA B b)) (w1 := (wB cA B b)) (w2 := (([(x, .inr (3, [.ref (B 0), .ref (F 0), .ref (G 0)]))] : va_W) ++ ((wB cA B b) ++ ((wF cA F (minsA b mn a) u9.1 u9.2) ++ (wF cA G a2 c2 q2))))) 7 1 rfl rfl rfl rfl rfl rfl)))) X0.blind (fun _ _ _ => trivial) 8 1 rfl rfl rfl hl.1 rfl rfl (Nat.le_of_ble_eq_true rfl) dX3_pass_38 ⟨Nat.zero_le _, Nat.zero_le _⟩ (fun u9 H locs h9 hP hD hS => ?_)
      refine lv_aload_n hx hb dX3_pass_41 rfl (lv_at hl 1 rfl) ?_
      refine va_get (D := D) (ci := 3) (v := .ref (F 0)) (C := RX3) (T := TX3) (N := 3) hx hb hts inX3 hown hE.1 hP 0 rfl rfl 1 (by decide) kf19 (fun _ h9 => h9) rfl dX3_pass_42 ?_
      refine lv_iconst (v := 3) hx hb dX3_pass_45 (by decide) ?_
      have hwz := (mins_keep (b := b) hw1 mn).1
      refine pVi (As := [.int 3]) (rest := []) (wc := (wF cA F (minsA b mn a) u9.1 u9.2)) ⟨hx, hb, hml, hown, hts⟩ (K_X1_tally lch D cA F (minsA b mn a) u9.1 u9.2 3 H.size (hwz) (Or.inr (Or.inl rfl))) (cwV 1 hts gX3_pass_X1_tally rfl rfl rfl (by decide +kernel) ⟨Nat.le_of_ble_eq_true rfl, Nat.le_of_ble_eq_true rfl⟩) hE hP hD hS hA [8, 9, 10, 11, 12, 13, 14, 15, 16, 17, 18, 19, 20, 21, 22, 23, 24, 25, 26, 27, 28, 29, 30] rfl rfl X0.blind (fun _ _ _ => trivial) 8 1 rfl rfl rfl hl.1 rfl rfl (Nat.le_of_ble_eq_true rfl) dX3_pass_46 ⟨Nat.zero_le _, Nat.zero_le _⟩ (fun r_9 u_10 H locs h_11 hP hS => ?_)
      subst h_11
      refine lv_iload_n hx hb dX3_pass_49 rfl (lv_at hl 0 rfl) ?_
      refine lv_isub hx hb dX3_pass_50 ?_
      refine W.widen (k := 1) (n := 6) (by first | exact Nat.le_of_ble_eq_true rfl | omega) (by first | exact Nat.le_of_ble_eq_true rfl | omega) ?_
      have ewd : minsA b ((nI mn).toNatClampNeg) a = minsA b mn a := by rw [nI_clamp (by omega)]
      rw [← ewd] at hP h9
      rw [hQQ]
      refine vx_ret ?_
      exact W.iret (v := (tallyA (minsA b mn a) 3) - (tallyA a 3)) hx hb hr (fun t ht hW => ⟨⟨(tallyA (minsA b mn a) 3) - (tallyA a 3), u9, rfl, ⟨by rw [nI_clamp (by omega)], by unfold cdPass; rw [if_neg (by simp [c7])], h9⟩, by show va_P _ _ _ t.heap; rw [ht]; exact hP⟩, hS.F ht⟩) hS.2.2 dX3_pass_51
    · skip
      have c7 := bi_0.mp c7
      rw [hQQ]
      exact thrA (sa := sa) (is := 170) (text := "no such number of minutes") hx hb hlt hown kw3 kw4 (fun w h => hts w (List.mem_cons_of_mem _ (List.mem_append_right _ h))) hXs (by decide +kernel) hS hP (by rw [hml]; exact hl.1) dX3_pass_10 dX3_pass_13 dX3_pass_14 dX3_pass_16 dX3_pass_19 htb (Nat.le_of_ble_eq_true rfl) (Nat.le_of_ble_eq_true rfl) (Nat.le_of_ble_eq_true rfl) (Nat.le_of_ble_eq_true rfl) hlocks (Nat.le_of_ble_eq_true rfl) (Nat.le_of_ble_eq_true rfl) (⟨by unfold cdPass; rw [if_pos c7], rfl⟩)
  rw [hg1, hg2] at hgoal
  exact hgoal

set_option maxHeartbeats 4000000 in
set_option maxRecDepth 100000 in
/-- burns -/
theorem K_X3_burns (lch : Launch) (hlt : lch.stackTraces = false) (D : va_G) (cA : ClassId) (sa : Nat → Nat) (x : Nat) (B : Nat → Nat) (F : Nat → Nat) (G : Nat → Nat) (b : BSt) (a : FSt) (c : Nat → Int32) (q : Nat → Int32) (a2 : FSt) (c2 : Nat → Int32) (q2 : Nat → Int32) (k : Int32) (sz : Nat) (hw1 : WFa a) (hwb : WFb b) (hcr : CRa a c) : vx_Met lch yX3_burns wsX3_burns ({ frames := 6, cells := 1, slots := 6, locals := 119 }) (Pr D cA [.ref x, .int k] sz (([(x, .inr (3, [.ref (B 0), .ref (F 0), .ref (G 0)]))] : va_W) ++ ((wB cA B b) ++ ((wF cA F a c q) ++ (wF cA G a2 c2 q2)))) (TX sa (va_A (([(x, .inr (3, [.ref (B 0), .ref (F 0), .ref (G 0)]))] : va_W) ++ ((wB cA B b) ++ ((wF cA F a c q) ++ (wF cA G a2 c2 q2)))) sz))) (va_Qi (fun (r : Int32) (u : FSt × (Nat → Int32) × (Nat → Int32)) => r = burnsA b a (k).toNatClampNeg ∧ cdLan a k = 0) (fun (u : FSt × (Nat → Int32) × (Nat → Int32)) t => va_P D vwCl (([(x, .inr (3, [.ref (B 0), .ref (F 0), .ref (G 0)]))] : va_W) ++ ((wB cA B b) ++ ((wF cA F a c q) ++ (wF cA G u.1 u.2.1 u.2.2)))) t.heap) (va_A (([(x, .inr (3, [.ref (B 0), .ref (F 0), .ref (G 0)]))] : va_W) ++ ((wB cA B b) ++ ((wF cA F a c q) ++ (wF cA G a2 c2 q2)))) sz)) (vx_X (S := Unit) (fun _ => True) (fun E _ t => (fun E => (cdLan a k = 1 ∧ E = "java/lang/IndexOutOfBoundsException")) E ∧ va_P D vwCl (([(x, .inr (3, [.ref (B 0), .ref (F 0), .ref (G 0)]))] : va_W) ++ ((wB cA B b) ++ ((wF cA F a c q) ++ (wF cA G a2 c2 q2)))) t.heap) (va_A (([(x, .inr (3, [.ref (B 0), .ref (F 0), .ref (G 0)]))] : va_W) ++ ((wB cA B b) ++ ((wF cA F a c q) ++ (wF cA G a2 c2 q2)))) sz)) 1 6 (va_A (([(x, .inr (3, [.ref (B 0), .ref (F 0), .ref (G 0)]))] : va_W) ++ ((wB cA B b) ++ ((wF cA F a c q) ++ (wF cA G a2 c2 q2)))) sz) := by
  refine vx_ofW (cc := cX3_burns) (maxL := 3) (ret := (some .int)) (by decide) rfl ?_
  intro pg ev s mi args below meth cd s₁ B hml htb hv
  obtain ⟨hav, hsz, hP, hE, hD, hXs⟩ := hv
  have hx := B.exec
  have hb := B.bytes
  have hr := B.returns
  have hts := atoms_spec (ws := wsX3_burns) B.pre
  have hown : s.vm.findClass RX3 = some mi.cls := findClass_of_methodNamed B.named
  have hlocks := B.notSynchronized
  clear B
  subst hav
  subst hsz
  have hD := hD.self (sz := s.heap.size)
  generalize hAe : va_A (([(x, .inr (3, [.ref (B 0), .ref (F 0), .ref (G 0)]))] : va_W) ++ ((wB cA B b) ++ ((wF cA F a c q) ++ (wF cA G a2 c2 q2)))) s.heap.size = A at hD hXs ⊢
  have hA : ∀ q : Nat, s.heap.size ≤ q → A q := fun q h => by rw [← hAe]; exact Or.inr h
  have hS : va_S A s.heap s.heap [] := va_S.rf
  obtain ⟨QQ, hQQ⟩ : ∃ qq9, qq9 = vx_MQ below (va_Qi (fun (r : Int32) (u : FSt × (Nat → Int32) × (Nat → Int32)) => r = burnsA b a (k).toNatClampNeg ∧ cdLan a k = 0) (fun (u : FSt × (Nat → Int32) × (Nat → Int32)) t => va_P D vwCl (([(x, .inr (3, [.ref (B 0), .ref (F 0), .ref (G 0)]))] : va_W) ++ ((wB cA B b) ++ ((wF cA F a c q) ++ (wF cA G u.1 u.2.1 u.2.2)))) t.heap) A) (vx_X (S := Unit) (fun _ => True) (fun E _ t => (fun E => (cdLan a k = 1 ∧ E = "java/lang/IndexOutOfBoundsException")) E ∧ va_P D vwCl (([(x, .inr (3, [.ref (B 0), .ref (F 0), .ref (G 0)]))] : va_W) ++ ((wB cA B b) ++ ((wF cA F a c q) ++ (wF cA G a2 c2 q2)))) t.heap) A) ([.ref x, .int k] : List Value).toArray s 1 6 A := ⟨_, rfl⟩
  rw [← hQQ]
  have hl := lv_entry ([.ref x, .int k]) (n := 3) (Nat.le_of_ble_eq_true rfl)
  rw [lg_entry_eq]
  generalize (lg_sl ([.ref x, .int k]) ++ List.replicate (3 - (lg_sl ([.ref x, .int k])).length) Slot.unset).toArray = ls at hl ⊢
  have hl : lv_has ls 3 [(0, .ref x), (1, .int k)] := hl
  have kf19 := hts (.fieldLink RX3 19 "LanternWeirs" "fleet" "LLanternWeirs$Fleet;") (by decide +kernel)
  have inX3 : ∀ w ∈ u_ws RX3 TX3 3, w ∈ wsX3_burns := by decide +kernel
  have kf23 := hts (.fieldLink RX3 23 "LanternWeirs" "dream" "LLanternWeirs$Fleet;") (by decide +kernel)
  have kf10 := hts (.fieldLink RX3 10 "LanternWeirs" "bed" "LLanternWeirs$Bed;") (by decide +kernel)
  have kw4 := hts (.classLink RX3 30 "java/lang/IndexOutOfBoundsException") (by decide +kernel)
  have kw5 := hts (.initialized "java/lang/IndexOutOfBoundsException") (by decide +kernel)
  obtain ⟨H, locs, hP, hS, hg1, hg2⟩ : ∃ H locs, va_P D vwCl (([(x, .inr (3, [.ref (B 0), .ref (F 0), .ref (G 0)]))] : va_W) ++ ((wB cA B b) ++ ((wF cA F a c q) ++ (wF cA G a2 c2 q2)))) H ∧ va_S A s.heap H locs ∧ H = s.heap ∧ locs = [] := ⟨_, _, hP, hS, rfl, rfl⟩
  have hgoal : W pg lch ev (headSpec wsX3_burns ({ frames := 6, cells := 1, slots := 6, locals := 119 })).room s mi ([.ref x, .int k] : List Value).toArray below meth cd H locs 0 0 QQ (F0 mi 0 ls []) := by
    have hn := hw1.1
    refine lv_aload_n hx hb dX3_burns_0 rfl (lv_at hl 0 rfl) ?_
    refine va_get (D := D) (ci := 3) (v := .ref (F 0)) (C := RX3) (T := TX3) (N := 3) hx hb hts inX3 hown hE.1 hP 0 rfl rfl 1 (by decide) kf19 (fun _ h9 => h9) rfl dX3_burns_1 ?_
    refine lv_iload_n hx hb dX3_burns_4 rfl (lv_at hl 1 rfl) ?_
    refine pVi (As := [.int k]) (rest := []) (wc := (wF cA F a c q)) ⟨hx, hb, hml, hown, hts⟩ (K_X1_has lch D cA F a c q k H.size ) (cwV 1 hts gX3_burns_X1_has rfl rfl rfl (by decide +kernel) ⟨Nat.le_of_ble_eq_true rfl, Nat.le_of_ble_eq_true rfl⟩) hE hP hD hS hA [8, 9, 10, 11, 12, 13, 14, 15, 16, 17, 18, 19, 20, 21, 22, 23, 24, 25, 26, 27, 28, 29, 30] rfl rfl X0.blind (fun _ _ _ => trivial) 8 1 rfl rfl rfl hl.1 rfl rfl (Nat.le_of_ble_eq_true rfl) dX3_burns_5 ⟨Nat.zero_le _, Nat.zero_le _⟩ (fun r_1 u_2 H locs h_3 hP hS => ?_)
    subst h_3
    refine lv_if_ne (tgt := 21) hx hb dX3_burns_8 (by decide) (fun c8 => ?_) (fun c8 => ?_)
    · skip
      have c8 := bi_1.mp c8
      obtain ⟨kn, hkn, ekn⟩ := lan_nat (a := a) (k := k) c8 hn
      subst ekn
      obtain ⟨w1, w2, w3, w4, w5, w6, w7, w8⟩ := hw1.2 kn hkn
      refine lv_aload_n hx hb dX3_burns_21 rfl (lv_at hl 0 rfl) ?_
      refine va_get (D := D) (ci := 3) (v := .ref (G 0)) (C := RX3) (T := TX3) (N := 3) hx hb hts inX3 hown hE.1 hP 0 rfl rfl 2 (by decide) kf23 (fun _ h9 => h9) rfl dX3_burns_22 ?_
      refine lv_aload_n hx hb dX3_burns_25 rfl (lv_at hl 0 rfl) ?_
      refine va_get (D := D) (ci := 3) (v := .ref (F 0)) (C := RX3) (T := TX3) (N := 3) hx hb hts inX3 hown hE.1 hP 0 rfl rfl 1 (by decide) kf19 (fun _ h9 => h9) rfl dX3_burns_26 ?_
      refine cVv (wB := fun (u_5 : Unit) => ((wF cA G a c q2) ++ (wF cA F a c q))) (As := [.ref (F 0)]) (rest := []) (wc := ((wF cA G a2 c2 q2) ++ (wF cA F a c q))) ⟨hx, hb, hml, hown, hts⟩ (K_X1_copy lch D cA G F a2 c2 q2 a c q H.size ) (cwV 1 hts gX3_burns_X1_copy rfl rfl rfl (by decide +kernel) ⟨Nat.le_of_ble_eq_true rfl, Nat.le_of_ble_eq_true rfl⟩) hE hP hD hS hA [31, 32, 33, 34, 35, 36, 37, 38, 39, 40, 41, 42, 43, 44, 45, 46, 47, 48, 49, 50, 51, 52, 53, 8, 9, 10, 11, 12, 13, 14, 15, 16, 17, 18, 19, 20, 21, 22, 23, 24, 25, 26, 27, 28, 29, 30] rfl rfl [G 0, G 1, G 2, G 3, G 4, G 5, G 6, G 7, G 8, G 9, G 10, G 11, G 12, G 13, G 14, G 15, G 16, G 17, G 18, G 19, G 20, G 21, G 22, F 0, F 1, F 2, F 3, F 4, F 5, F 6, F 7, F 8, F 9, F 10, F 11, F 12, F 13, F 14, F 15, F 16, F 17, F 18, F 19, F 20, F 21, F 22] (fun _ => rfl) rfl (fun (u_5 : Unit) => (([(x, .inr (3, [.ref (B 0), .ref (F 0), .ref (G 0)]))] : va_W) ++ ((wB cA B b) ++ ((wF cA F a c q) ++ (wF cA G a c q2))))) (fun u_5 => ((pst_app 23 (ps1 := [31, 32, 33, 34, 35, 36, 37, 38, 39, 40, 41, 42, 43, 44, 45, 46, 47, 48, 49, 50, 51, 52, 53]) (ps2 := [8, 9, 10, 11, 12, 13, 14, 15, 16, 17, 18, 19, 20, 21, 22, 23, 24, 25, 26, 27, 28, 29, 30]) (w1 := (wF cA G a c q2)) (w2 := (wF cA F a c q)) rfl rfl rfl).trans ((congrArg (fun z => pst z [8, 9, 10, 11, 12, 13, 14, 15, 16, 17, 18, 19, 20, 21, 22, 23, 24, 25, 26, 27, 28, 29, 30] (wF cA F a c q)) (pst_blk (([(x, .inr (3, [.ref (B 0), .ref (F 0), .ref (G 0)]))] : va_W) ++ ((wB cA B b) ++ (wF cA F a c q))) [] (wc := (wF cA G a2 c2 q2)) (w1 := (wF cA G a c q2)) (w2 := (([(x, .inr (3, [.ref (B 0), .ref (F 0), .ref (G 0)]))] : va_W) ++ ((wB cA B b) ++ ((wF cA F a c q) ++ (wF cA G a c q2))))) 23 31 rfl rfl rfl rfl rfl rfl)).trans (pst_blk (([(x, .inr (3, [.ref (B 0), .ref (F 0), .ref (G 0)]))] : va_W) ++ (wB cA B b)) (wF cA G a c q2) (wc := (wF cA F a c q)) (w1 := (wF cA F a c q)) (w2 := (([(x, .inr (3, [.ref (B 0), .ref (F 0), .ref (G 0)]))] : va_W) ++ ((wB cA B b) ++ ((wF cA F a c q) ++ (wF cA G a c q2))))) 23 8 rfl rfl rfl rfl rfl rfl)))) X0.blind (fun _ _ _ => trivial) 31 1 rfl rfl rfl hl.1 rfl rfl (Nat.le_of_ble_eq_true rfl) dX3_burns_29 ⟨Nat.zero_le _, Nat.zero_le _⟩ (fun u_5 H locs h_6 hP hD hS => ?_)
      refine lv_iconst (v := 0) hx hb dX3_burns_32 (by decide) ?_
      refine lv_istore_n (lv' := [(2, .int 0), (0, .ref x), (1, .int (nI kn))]) hx hb dX3_burns_33 rfl hl (by decide) rfl (fun ls hl => ?_)
      have L34 : ∀ (fu34 : Nat) (m : Nat) (d : FSt) (cd2 : Nat → Int32) (qd : Nat → Int32), (m ≤ 61) → (burnsF b kn (61 - m) m d = burnsA b a kn) → (WFa d) → (CRa d cd2) → (kn < qN d) → 61 - m < fu34 → ∀ (H : Heap) (locs : List Loc), va_P D vwCl (([(x, .inr (3, [.ref (B 0), .ref (F 0), .ref (G 0)]))] : va_W) ++ ((wB cA B b) ++ ((wF cA F a c q) ++ (wF cA G d cd2 qd)))) H → va_D A (([(x, .inr (3, [.ref (B 0), .ref (F 0), .ref (G 0)]))] : va_W) ++ ((wB cA B b) ++ ((wF cA F a c q) ++ (wF cA G d cd2 qd)))) → va_S A s.heap H locs → ∀ ls : Array Slot, lv_has ls 3 [(2, .int (nI m)), (0, .ref x), (1, .int (nI kn))] → W pg lch ev (headSpec wsX3_burns ({ frames := 6, cells := 1, slots := 6, locals := 119 })).room s mi ([.ref x, .int (nI kn)] : List Value).toArray below meth cd H locs 0 0 QQ (F0 mi 34 ls []) := by
        intro fu34
        induction fu34 with
        | zero => intro m d cd2 qd hm hrr hwd hcd hkd hms; exact absurd hms (Nat.not_lt_zero _)
        | succ fu34 ih34 =>
          intro m d cd2 qd hm hrr hwd hcd hkd hms34 H locs hP hD hS ls hl
          have hnd := hwd.1
          obtain ⟨k1, k2, k3⟩ := min_keep (b := b) hwd
          refine lv_iload_n hx hb dX3_burns_34 rfl (lv_at hl 0 rfl) ?_
          refine lv_bipush (v := 60) hx hb dX3_burns_35 (by decide) ?_
          refine lv_icmp_gt (tgt := 71) hx hb dX3_burns_37 (by decide) (fun c37 => ?_) (fun c37 => ?_)
          · skip
            have c37 := (nI_ltI (a := 60) (b := m) (by omega) (by omega)).mp c37
            refine lv_iconst (v := (-1)) hx hb dX3_burns_71 (by decide) ?_
            refine W.widen (k := 1) (n := 6) (by first | exact Nat.le_of_ble_eq_true rfl | omega) (by first | exact Nat.le_of_ble_eq_true rfl | omega) ?_
            rw [hQQ]
            refine vx_ret ?_
            exact W.iret (v := (-1)) hx hb hr (fun t ht hW => ⟨⟨(-1), (d, cd2, qd), rfl, ⟨by rw [nI_clamp (by omega), ← hrr, show 61 - m = 0 by omega]; rfl, by unfold cdLan; rw [if_neg (by simp [isLan, c8])]⟩, by show va_P _ _ _ t.heap; rw [ht]; exact hP⟩, hS.F ht⟩) hS.2.2 dX3_burns_72
          · skip
            have c37 := (not_congr (nI_ltI (a := 60) (b := m) (by omega) (by omega))).mp c37
            refine lv_aload_n hx hb dX3_burns_40 rfl (lv_at hl 1 rfl) ?_
            refine va_get (D := D) (ci := 3) (v := .ref (G 0)) (C := RX3) (T := TX3) (N := 3) hx hb hts inX3 hown hE.1 hP 0 rfl rfl 2 (by decide) kf23 (fun _ h9 => h9) rfl dX3_burns_41 ?_
            refine lv_iload_n hx hb dX3_burns_44 rfl (lv_at hl 2 rfl) ?_
            refine pVi (As := [.int (nI kn)]) (rest := []) (wc := (wF cA G d cd2 qd)) ⟨hx, hb, hml, hown, hts⟩ (K_X1_isBurning lch D cA G d cd2 qd kn H.size (hkd) (hnd)) (cwV 1 hts gX3_burns_X1_isBurning rfl rfl rfl (by decide +kernel) ⟨Nat.le_of_ble_eq_true rfl, Nat.le_of_ble_eq_true rfl⟩) hE hP hD hS hA [31, 32, 33, 34, 35, 36, 37, 38, 39, 40, 41, 42, 43, 44, 45, 46, 47, 48, 49, 50, 51, 52, 53] rfl rfl X0.blind (fun _ _ _ => trivial) 31 1 rfl rfl rfl hl.1 rfl rfl (Nat.le_of_ble_eq_true rfl) dX3_burns_45 ⟨Nat.zero_le _, Nat.zero_le _⟩ (fun r_7 u_8 H locs h_9 hP hS => ?_)
            subst h_9
            refine lv_if_ne (tgt := 53) hx hb dX3_burns_48 (by decide) (fun c48 => ?_) (fun c48 => ?_)
            · skip
              have c48 := bi_1.mp c48
              refine lv_aload_n hx hb dX3_burns_53 rfl (lv_at hl 1 rfl) ?_
              refine va_get (D := D) (ci := 3) (v := .ref (G 0)) (C := RX3) (T := TX3) (N := 3) hx hb hts inX3 hown hE.1 hP 0 rfl rfl 2 (by decide) kf23 (fun _ h9 => h9) rfl dX3_burns_54 ?_
              refine lv_iconst (v := 1) hx hb dX3_burns_57 (by decide) ?_
              refine lv_aload_n hx hb dX3_burns_58 rfl (lv_at hl 1 rfl) ?_
              refine va_get (D := D) (ci := 3) (v := .ref (B 0)) (C := RX3) (T := TX3) (N := 3) hx hb hts inX3 hown hE.1 hP 0 rfl rfl 0 (by decide) kf10 (fun _ h9 => h9) rfl dX3_burns_59 ?_
              refine cVv (wB := fun (u9 : (Nat → Int32) × (Nat → Int32)) => ((wF cA G (minsA b 1 d) u9.1 u9.2) ++ (wB cA B b))) (As := [.int 1, .ref (B 0)]) (rest := []) (wc := ((wF cA G d cd2 qd) ++ (wB cA B b))) ⟨hx, hb, hml, hown, hts⟩ (K_X1_passMinutes lch D cA G d cd2 qd B b 1 H.size (hwd) (hwb) (hcd) (by decide)) (cwV 2 hts gX3_burns_X1_passMinutes rfl rfl rfl (by decide +kernel) ⟨Nat.le_of_ble_eq_true rfl, Nat.le_of_ble_eq_true rfl⟩) hE hP hD hS hA [31, 32, 33, 34, 35, 36, 37, 38, 39, 40, 41, 42, 43, 44, 45, 46, 47, 48, 49, 50, 51, 52, 53, 1, 2, 3, 4, 5, 6, 7] rfl rfl [G 0, G 1, G 2, G 3, G 4, G 5, G 6, G 7, G 8, G 9, G 10, G 11, G 12, G 13, G 14, G 15, G 16, G 17, G 18, G 19, G 20, G 21, G 22, B 0, B 1, B 2, B 3, B 4, B 5, B 6] (fun _ => rfl) rfl (fun (u9 : (Nat → Int32) × (Nat → Int32)) => (([(x, .inr (3, [.ref (B 0), .ref (F 0), .ref (G 0)]))] : va_W) ++ ((wB cA B b) ++ ((wF cA F a c q) ++ (wF cA G (minsA b 1 d) u9.1 u9.2))))) (fun u9 => ((pst_app 23 (ps1 := [31, 32, 33, 34, 35, 36, 37, 38, 39, 40, 41, 42, 43, 44, 45, 46, 47, 48, 49, 50, 51, 52, 53]) (ps2 := [1, 2, 3, 4, 5, 6, 7]) (w1 := (wF cA G (minsA b 1 d) u9.1 u9.2)) (w2 := (wB cA B b)) rfl rfl rfl).trans ((congrArg (fun z => pst z [1, 2, 3, 4, 5, 6, 7] (wB cA B b)) (pst_blk (([(x, .inr (3, [.ref (B 0), .ref (F 0), .ref (G 0)]))] : va_W) ++ ((wB cA B b) ++ (wF cA F a c q))) [] (wc := (wF cA G d cd2 qd)) (w1 := (wF cA G (minsA b 1 d) u9.1 u9.2)) (w2 := (([(x, .inr (3, [.ref (B 0), .ref (F 0), .ref (G 0)]))] : va_W) ++ ((wB cA B b) ++ ((wF cA F a c q) ++ (wF cA G (minsA b 1 d) u9.1 u9.2))))) 23 31 rfl rfl rfl rfl rfl rfl)).trans (pst_blk ([(x, .inr (3, [.ref (B 0), .ref (F 0), .ref (G 0)]))] : va_W) ((wF cA F a c q) ++ (wF cA G (minsA b 1 d) u9.1 u9.2)) (wc := (wB cA B b)) (w1 := (wB cA B b)) (w2 := (([(x, .inr (3, [.ref (B 0), .ref (F 0), .ref (G 0)]))] : va_W) ++ ((wB cA B b) ++ ((wF cA F a c q) ++ (wF cA G (minsA b 1 d) u9.1 u9.2))))) 7 1 rfl rfl rfl rfl rfl rfl)))) X0.blind (fun _ _ _ => trivial) 31 1 rfl rfl rfl hl.1 rfl rfl (Nat.le_of_ble_eq_true rfl) dX3_burns_62 ⟨Nat.zero_le _, Nat.zero_le _⟩ (fun u9 H locs h9 hP hD hS => ?_)
              refine lv_iinc (v := nI (m + 1)) (lv' := [(2, .int (nI (m + 1))), (0, .ref x), (1, .int (nI kn))]) hx hb dX3_burns_65 hl (k := 0) rfl (nI_add m 1) (by decide) rfl (fun ls hl => ?_)
              refine lv_goto (tgt := 34) hx hb dX3_burns_68 (by decide) ?_
              have hcg := burns_go (b := b) (k := kn) (f := 61 - (m + 1)) (m := m) (a := d) c48
              rw [show 61 - (m + 1) + 1 = 61 - m by omega, hrr] at hcg
              have h9 : CRa (minA b d) u9.1 := h9
              have hP : va_P D vwCl (([(x, .inr (3, [.ref (B 0), .ref (F 0), .ref (G 0)]))] : va_W) ++ ((wB cA B b) ++ ((wF cA F a c q) ++ (wF cA G (minA b d) u9.1 u9.2)))) H := hP
              have hD : va_D A (([(x, .inr (3, [.ref (B 0), .ref (F 0), .ref (G 0)]))] : va_W) ++ ((wB cA B b) ++ ((wF cA F a c q) ++ (wF cA G (minA b d) u9.1 u9.2)))) := hD
              exact ih34 (m + 1) (minA b d) u9.1 u9.2 (by omega) (hcg.symm) (k1) (h9) (by rw [k2]; exact hkd) (by omega) H locs hP hD hS ls (lv_sub hl [0, 1, 2] rfl)
            · skip
              have c48 := bi_0.mp c48
              refine lv_iload_n hx hb dX3_burns_51 rfl (lv_at hl 0 rfl) ?_
              refine W.widen (k := 1) (n := 6) (by first | exact Nat.le_of_ble_eq_true rfl | omega) (by first | exact Nat.le_of_ble_eq_true rfl | omega) ?_
              rw [hQQ]
              refine vx_ret ?_
              exact W.iret (v := nI m) hx hb hr (fun t ht hW => ⟨⟨nI m, (d, cd2, qd), rfl, ⟨by rw [nI_clamp (by omega), ← hrr, show 61 - m = (60 - m) + 1 by omega, burns_at c48], by unfold cdLan; rw [if_neg (by simp [isLan, c8])]⟩, by show va_P _ _ _ t.heap; rw [ht]; exact hP⟩, hS.F ht⟩) hS.2.2 dX3_burns_52
      exact L34 62 0 a c q2 (by decide) (rfl) (hw1) (hcr) (hkn) (by omega) H locs hP hD hS ls (lv_sub hl [0, 1, 2] rfl)
    · skip
      have c8 := bi_0.mp c8
      rw [hQQ]
      exact thrI (sa := sa) (is := 139) (text := "no such lantern") hx hb hlt hown kw4 kw5 (fun w h => hts w (List.mem_cons_of_mem _ (List.mem_append_right _ h))) hXs (by decide +kernel) hS hP (by rw [hml]; exact hl.1) dX3_burns_11 dX3_burns_14 dX3_burns_15 dX3_burns_17 dX3_burns_20 htb (Nat.le_of_ble_eq_true rfl) (Nat.le_of_ble_eq_true rfl) (Nat.le_of_ble_eq_true rfl) (Nat.le_of_ble_eq_true rfl) hlocks (Nat.le_of_ble_eq_true rfl) (Nat.le_of_ble_eq_true rfl) (⟨by unfold cdLan; rw [if_pos (show isLan a k = false from c8)], rfl⟩)
  rw [hg1, hg2] at hgoal
  exact hgoal

set_option maxHeartbeats 4000000 in
set_option maxRecDepth 100000 in
/-- foresee -/
theorem K_X3_foresee (lch : Launch) (hlt : lch.stackTraces = false) (D : va_G) (cA : ClassId) (sa : Nat → Nat) (x : Nat) (B : Nat → Nat) (F : Nat → Nat) (G : Nat → Nat) (b : BSt) (a : FSt) (c : Nat → Int32) (q : Nat → Int32) (a2 : FSt) (c2 : Nat → Int32) (q2 : Nat → Int32) (m : Int32) (w : Int32) (sz : Nat) (hw1 : WFa a) (hwb : WFb b) (hcr : CRa a c) : vx_Met lch yX3_foresee wsX3_foresee ({ frames := 6, cells := 1, slots := 6, locals := 119 }) (Pr D cA [.ref x, .int m, .int w] sz (([(x, .inr (3, [.ref (B 0), .ref (F 0), .ref (G 0)]))] : va_W) ++ ((wB cA B b) ++ ((wF cA F a c q) ++ (wF cA G a2 c2 q2)))) (TX sa (va_A (([(x, .inr (3, [.ref (B 0), .ref (F 0), .ref (G 0)]))] : va_W) ++ ((wB cA B b) ++ ((wF cA F a c q) ++ (wF cA G a2 c2 q2)))) sz))) (va_Qi (fun (r : Int32) (u : FSt × (Nat → Int32) × (Nat → Int32)) => r = tallyA (minsA b (m).toNatClampNeg a) (w).toNatClampNeg ∧ cdForesee m w = 0) (fun (u : FSt × (Nat → Int32) × (Nat → Int32)) t => va_P D vwCl (([(x, .inr (3, [.ref (B 0), .ref (F 0), .ref (G 0)]))] : va_W) ++ ((wB cA B b) ++ ((wF cA F a c q) ++ (wF cA G u.1 u.2.1 u.2.2)))) t.heap) (va_A (([(x, .inr (3, [.ref (B 0), .ref (F 0), .ref (G 0)]))] : va_W) ++ ((wB cA B b) ++ ((wF cA F a c q) ++ (wF cA G a2 c2 q2)))) sz)) (vx_X (S := Unit) (fun _ => True) (fun E _ t => (fun E => (cdForesee m w = 1 ∧ E = "java/lang/IllegalArgumentException") ∨ (cdForesee m w = 2 ∧ E = "java/lang/IndexOutOfBoundsException")) E ∧ va_P D vwCl (([(x, .inr (3, [.ref (B 0), .ref (F 0), .ref (G 0)]))] : va_W) ++ ((wB cA B b) ++ ((wF cA F a c q) ++ (wF cA G a2 c2 q2)))) t.heap) (va_A (([(x, .inr (3, [.ref (B 0), .ref (F 0), .ref (G 0)]))] : va_W) ++ ((wB cA B b) ++ ((wF cA F a c q) ++ (wF cA G a2 c2 q2)))) sz)) 1 6 (va_A (([(x, .inr (3, [.ref (B 0), .ref (F 0), .ref (G 0)]))] : va_W) ++ ((wB cA B b) ++ ((wF cA F a c q) ++ (wF cA G a2 c2 q2)))) sz) := by
  refine vx_ofW (cc := cX3_foresee) (maxL := 3) (ret := (some .int)) (by decide) rfl ?_
  intro pg ev s mi args below meth cd s₁ B hml htb hv
  obtain ⟨hav, hsz, hP, hE, hD, hXs⟩ := hv
  have hx := B.exec
  have hb := B.bytes
  have hr := B.returns
  have hts := atoms_spec (ws := wsX3_foresee) B.pre
  have hown : s.vm.findClass RX3 = some mi.cls := findClass_of_methodNamed B.named
  have hlocks := B.notSynchronized
  clear B
  subst hav
  subst hsz
  have hD := hD.self (sz := s.heap.size)
  generalize hAe : va_A (([(x, .inr (3, [.ref (B 0), .ref (F 0), .ref (G 0)]))] : va_W) ++ ((wB cA B b) ++ ((wF cA F a c q) ++ (wF cA G a2 c2 q2)))) s.heap.size = A at hD hXs ⊢
  have hA : ∀ q : Nat, s.heap.size ≤ q → A q := fun q h => by rw [← hAe]; exact Or.inr h
  have hS : va_S A s.heap s.heap [] := va_S.rf
  obtain ⟨QQ, hQQ⟩ : ∃ qq9, qq9 = vx_MQ below (va_Qi (fun (r : Int32) (u : FSt × (Nat → Int32) × (Nat → Int32)) => r = tallyA (minsA b (m).toNatClampNeg a) (w).toNatClampNeg ∧ cdForesee m w = 0) (fun (u : FSt × (Nat → Int32) × (Nat → Int32)) t => va_P D vwCl (([(x, .inr (3, [.ref (B 0), .ref (F 0), .ref (G 0)]))] : va_W) ++ ((wB cA B b) ++ ((wF cA F a c q) ++ (wF cA G u.1 u.2.1 u.2.2)))) t.heap) A) (vx_X (S := Unit) (fun _ => True) (fun E _ t => (fun E => (cdForesee m w = 1 ∧ E = "java/lang/IllegalArgumentException") ∨ (cdForesee m w = 2 ∧ E = "java/lang/IndexOutOfBoundsException")) E ∧ va_P D vwCl (([(x, .inr (3, [.ref (B 0), .ref (F 0), .ref (G 0)]))] : va_W) ++ ((wB cA B b) ++ ((wF cA F a c q) ++ (wF cA G a2 c2 q2)))) t.heap) A) ([.ref x, .int m, .int w] : List Value).toArray s 1 6 A := ⟨_, rfl⟩
  rw [← hQQ]
  have hl := lv_entry ([.ref x, .int m, .int w]) (n := 3) (Nat.le_of_ble_eq_true rfl)
  rw [lg_entry_eq]
  generalize (lg_sl ([.ref x, .int m, .int w]) ++ List.replicate (3 - (lg_sl ([.ref x, .int m, .int w])).length) Slot.unset).toArray = ls at hl ⊢
  have hl : lv_has ls 3 [(0, .ref x), (1, .int m), (2, .int w)] := hl
  have kf23 := hts (.fieldLink RX3 23 "LanternWeirs" "dream" "LLanternWeirs$Fleet;") (by decide +kernel)
  have inX3 : ∀ w ∈ u_ws RX3 TX3 3, w ∈ wsX3_foresee := by decide +kernel
  have kf19 := hts (.fieldLink RX3 19 "LanternWeirs" "fleet" "LLanternWeirs$Fleet;") (by decide +kernel)
  have kf10 := hts (.fieldLink RX3 10 "LanternWeirs" "bed" "LLanternWeirs$Bed;") (by decide +kernel)
  have kw4 := hts (.classLink RX3 30 "java/lang/IndexOutOfBoundsException") (by decide +kernel)
  have kw5 := hts (.initialized "java/lang/IndexOutOfBoundsException") (by decide +kernel)
  have kw6 := hts (.classLink RX3 41 "java/lang/IllegalArgumentException") (by decide +kernel)
  have kw7 := hts (.initialized "java/lang/IllegalArgumentException") (by decide +kernel)
  obtain ⟨H, locs, hP, hS, hg1, hg2⟩ : ∃ H locs, va_P D vwCl (([(x, .inr (3, [.ref (B 0), .ref (F 0), .ref (G 0)]))] : va_W) ++ ((wB cA B b) ++ ((wF cA F a c q) ++ (wF cA G a2 c2 q2)))) H ∧ va_S A s.heap H locs ∧ H = s.heap ∧ locs = [] := ⟨_, _, hP, hS, rfl, rfl⟩
  have hgoal : W pg lch ev (headSpec wsX3_foresee ({ frames := 6, cells := 1, slots := 6, locals := 119 })).room s mi ([.ref x, .int m, .int w] : List Value).toArray below meth cd H locs 0 0 QQ (F0 mi 0 ls []) := by
    refine lv_iload_n hx hb dX3_foresee_0 rfl (lv_at hl 1 rfl) ?_
    refine lv_iconst (v := 1) hx hb dX3_foresee_1 (by decide) ?_
    refine lv_bipush (v := 90) hx hb dX3_foresee_2 (by decide) ?_
    refine pSi (As := [.int m, .int 1, .int 90]) (rest := []) (wc := ([] : va_W)) ⟨hx, hb, hml, hown, hts⟩ (K_X3_isWithin lch D cA m 1 90 H.size ) (cwS 3 hts gX3_foresee_X3_isWithin rfl rfl rfl (by decide +kernel) ⟨Nat.le_of_ble_eq_true rfl, Nat.le_of_ble_eq_true rfl⟩) hE hP hD hS hA [] rfl rfl X0.blind (fun _ _ _ => trivial) hl.1 rfl rfl (Nat.le_of_ble_eq_true rfl) dX3_foresee_4 ⟨Nat.zero_le _, Nat.zero_le _⟩ (fun r_1 u_2 H locs h_3 hP hS => ?_)
    subst h_3
    refine lv_if_ne (tgt := 20) hx hb dX3_foresee_7 (by decide) (fun c7 => ?_) (fun c7 => ?_)
    · skip
      have c7 := bi_1.mp c7
      refine lv_iload_n hx hb dX3_foresee_20 rfl (lv_at hl 2 rfl) ?_
      refine lv_iconst (v := 2) hx hb dX3_foresee_21 (by decide) ?_
      refine lv_bipush (v := 6) hx hb dX3_foresee_22 (by decide) ?_
      refine pSi (As := [.int w, .int 2, .int 6]) (rest := []) (wc := ([] : va_W)) ⟨hx, hb, hml, hown, hts⟩ (K_X3_isWithin lch D cA w 2 6 H.size ) (cwS 3 hts gX3_foresee_X3_isWithin rfl rfl rfl (by decide +kernel) ⟨Nat.le_of_ble_eq_true rfl, Nat.le_of_ble_eq_true rfl⟩) hE hP hD hS hA [] rfl rfl X0.blind (fun _ _ _ => trivial) hl.1 rfl rfl (Nat.le_of_ble_eq_true rfl) dX3_foresee_24 ⟨Nat.zero_le _, Nat.zero_le _⟩ (fun r_4 u_5 H locs h_6 hP hS => ?_)
      subst h_6
      refine lv_if_ne (tgt := 46) hx hb dX3_foresee_27 (by decide) (fun c27 => ?_) (fun c27 => ?_)
      · skip
        have c27 := bi_1.mp c27
        obtain ⟨mn, hm9, em⟩ := isW_nat (n := 90) (isW_0 c7) (by decide)
        subst em
        obtain ⟨wn, hw9, ew⟩ := isW_nat (n := 6) (isW_02 c27) (by decide)
        subst ew
        have hw26 := isW_2 c27 (by omega)
        have hwx : wn = 2 ∨ wn = 3 ∨ wn = 4 ∨ wn = 5 ∨ wn = 6 ∨ wn = 9 := by omega
        have hok : cdForesee (nI mn) (nI wn) = 0 := by unfold cdForesee; rw [if_neg (by simp [c7]), if_neg (fun q => absurd q.1 (by simp [c27]))]
        refine lv_aload_n hx hb dX3_foresee_46 rfl (lv_at hl 0 rfl) ?_
        refine va_get (D := D) (ci := 3) (v := .ref (G 0)) (C := RX3) (T := TX3) (N := 3) hx hb hts inX3 hown hE.1 hP 0 rfl rfl 2 (by decide) kf23 (fun _ h9 => h9) rfl dX3_foresee_47 ?_
        refine lv_aload_n hx hb dX3_foresee_50 rfl (lv_at hl 0 rfl) ?_
        refine va_get (D := D) (ci := 3) (v := .ref (F 0)) (C := RX3) (T := TX3) (N := 3) hx hb hts inX3 hown hE.1 hP 0 rfl rfl 1 (by decide) kf19 (fun _ h9 => h9) rfl dX3_foresee_51 ?_
        refine cVv (wB := fun (u_8 : Unit) => ((wF cA G a c q2) ++ (wF cA F a c q))) (As := [.ref (F 0)]) (rest := []) (wc := ((wF cA G a2 c2 q2) ++ (wF cA F a c q))) ⟨hx, hb, hml, hown, hts⟩ (K_X1_copy lch D cA G F a2 c2 q2 a c q H.size ) (cwV 1 hts gX3_foresee_X1_copy rfl rfl rfl (by decide +kernel) ⟨Nat.le_of_ble_eq_true rfl, Nat.le_of_ble_eq_true rfl⟩) hE hP hD hS hA [31, 32, 33, 34, 35, 36, 37, 38, 39, 40, 41, 42, 43, 44, 45, 46, 47, 48, 49, 50, 51, 52, 53, 8, 9, 10, 11, 12, 13, 14, 15, 16, 17, 18, 19, 20, 21, 22, 23, 24, 25, 26, 27, 28, 29, 30] rfl rfl [G 0, G 1, G 2, G 3, G 4, G 5, G 6, G 7, G 8, G 9, G 10, G 11, G 12, G 13, G 14, G 15, G 16, G 17, G 18, G 19, G 20, G 21, G 22, F 0, F 1, F 2, F 3, F 4, F 5, F 6, F 7, F 8, F 9, F 10, F 11, F 12, F 13, F 14, F 15, F 16, F 17, F 18, F 19, F 20, F 21, F 22] (fun _ => rfl) rfl (fun (u_8 : Unit) => (([(x, .inr (3, [.ref (B 0), .ref (F 0), .ref (G 0)]))] : va_W) ++ ((wB cA B b) ++ ((wF cA F a c q) ++ (wF cA G a c q2))))) (fun u_8 => ((pst_app 23 (ps1 := [31, 32, 33, 34, 35, 36, 37, 38, 39, 40, 41, 42, 43, 44, 45, 46, 47, 48, 49, 50, 51, 52, 53]) (ps2 := [8, 9, 10, 11, 12, 13, 14, 15, 16, 17, 18, 19, 20, 21, 22, 23, 24, 25, 26, 27, 28, 29, 30]) (w1 := (wF cA G a c q2)) (w2 := (wF cA F a c q)) rfl rfl rfl).trans ((congrArg (fun z => pst z [8, 9, 10, 11, 12, 13, 14, 15, 16, 17, 18, 19, 20, 21, 22, 23, 24, 25, 26, 27, 28, 29, 30] (wF cA F a c q)) (pst_blk (([(x, .inr (3, [.ref (B 0), .ref (F 0), .ref (G 0)]))] : va_W) ++ ((wB cA B b) ++ (wF cA F a c q))) [] (wc := (wF cA G a2 c2 q2)) (w1 := (wF cA G a c q2)) (w2 := (([(x, .inr (3, [.ref (B 0), .ref (F 0), .ref (G 0)]))] : va_W) ++ ((wB cA B b) ++ ((wF cA F a c q) ++ (wF cA G a c q2))))) 23 31 rfl rfl rfl rfl rfl rfl)).trans (pst_blk (([(x, .inr (3, [.ref (B 0), .ref (F 0), .ref (G 0)]))] : va_W) ++ (wB cA B b)) (wF cA G a c q2) (wc := (wF cA F a c q)) (w1 := (wF cA F a c q)) (w2 := (([(x, .inr (3, [.ref (B 0), .ref (F 0), .ref (G 0)]))] : va_W) ++ ((wB cA B b) ++ ((wF cA F a c q) ++ (wF cA G a c q2))))) 23 8 rfl rfl rfl rfl rfl rfl)))) X0.blind (fun _ _ _ => trivial) 31 1 rfl rfl rfl hl.1 rfl rfl (Nat.le_of_ble_eq_true rfl) dX3_foresee_54 ⟨Nat.zero_le _, Nat.zero_le _⟩ (fun u_8 H locs h_9 hP hD hS => ?_)
        refine lv_aload_n hx hb dX3_foresee_57 rfl (lv_at hl 0 rfl) ?_
        refine va_get (D := D) (ci := 3) (v := .ref (G 0)) (C := RX3) (T := TX3) (N := 3) hx hb hts inX3 hown hE.1 hP 0 rfl rfl 2 (by decide) kf23 (fun _ h9 => h9) rfl dX3_foresee_58 ?_
        refine lv_iload_n hx hb dX3_foresee_61 rfl (lv_at hl 1 rfl) ?_
        refine lv_aload_n hx hb dX3_foresee_62 rfl (lv_at hl 0 rfl) ?_
        refine va_get (D := D) (ci := 3) (v := .ref (B 0)) (C := RX3) (T := TX3) (N := 3) hx hb hts inX3 hown hE.1 hP 0 rfl rfl 0 (by decide) kf10 (fun _ h9 => h9) rfl dX3_foresee_63 ?_
        refine cVv (wB := fun (u9 : (Nat → Int32) × (Nat → Int32)) => ((wF cA G (minsA b mn a) u9.1 u9.2) ++ (wB cA B b))) (As := [.int (nI mn), .ref (B 0)]) (rest := []) (wc := ((wF cA G a c q2) ++ (wB cA B b))) ⟨hx, hb, hml, hown, hts⟩ (K_X1_passMinutes lch D cA G a c q2 B b mn H.size (hw1) (hwb) (hcr) (by omega)) (cwV 2 hts gX3_foresee_X1_passMinutes rfl rfl rfl (by decide +kernel) ⟨Nat.le_of_ble_eq_true rfl, Nat.le_of_ble_eq_true rfl⟩) hE hP hD hS hA [31, 32, 33, 34, 35, 36, 37, 38, 39, 40, 41, 42, 43, 44, 45, 46, 47, 48, 49, 50, 51, 52, 53, 1, 2, 3, 4, 5, 6, 7] rfl rfl [G 0, G 1, G 2, G 3, G 4, G 5, G 6, G 7, G 8, G 9, G 10, G 11, G 12, G 13, G 14, G 15, G 16, G 17, G 18, G 19, G 20, G 21, G 22, B 0, B 1, B 2, B 3, B 4, B 5, B 6] (fun _ => rfl) rfl (fun (u9 : (Nat → Int32) × (Nat → Int32)) => (([(x, .inr (3, [.ref (B 0), .ref (F 0), .ref (G 0)]))] : va_W) ++ ((wB cA B b) ++ ((wF cA F a c q) ++ (wF cA G (minsA b mn a) u9.1 u9.2))))) (fun u9 => ((pst_app 23 (ps1 := [31, 32, 33, 34, 35, 36, 37, 38, 39, 40, 41, 42, 43, 44, 45, 46, 47, 48, 49, 50, 51, 52, 53]) (ps2 := [1, 2, 3, 4, 5, 6, 7]) (w1 := (wF cA G (minsA b mn a) u9.1 u9.2)) (w2 := (wB cA B b)) rfl rfl rfl).trans ((congrArg (fun z => pst z [1, 2, 3, 4, 5, 6, 7] (wB cA B b)) (pst_blk (([(x, .inr (3, [.ref (B 0), .ref (F 0), .ref (G 0)]))] : va_W) ++ ((wB cA B b) ++ (wF cA F a c q))) [] (wc := (wF cA G a c q2)) (w1 := (wF cA G (minsA b mn a) u9.1 u9.2)) (w2 := (([(x, .inr (3, [.ref (B 0), .ref (F 0), .ref (G 0)]))] : va_W) ++ ((wB cA B b) ++ ((wF cA F a c q) ++ (wF cA G (minsA b mn a) u9.1 u9.2))))) 23 31 rfl rfl rfl rfl rfl rfl)).trans (pst_blk ([(x, .inr (3, [.ref (B 0), .ref (F 0), .ref (G 0)]))] : va_W) ((wF cA F a c q) ++ (wF cA G (minsA b mn a) u9.1 u9.2)) (wc := (wB cA B b)) (w1 := (wB cA B b)) (w2 := (([(x, .inr (3, [.ref (B 0), .ref (F 0), .ref (G 0)]))] : va_W) ++ ((wB cA B b) ++ ((wF cA F a c q) ++ (wF cA G (minsA b mn a) u9.1 u9.2))))) 7 1 rfl rfl rfl rfl rfl rfl)))) X0.blind (fun _ _ _ => trivial) 31 1 rfl rfl rfl hl.1 rfl rfl (Nat.le_of_ble_eq_true rfl) dX3_foresee_66 ⟨Nat.zero_le _, Nat.zero_le _⟩ (fun u9 H locs h9 hP hD hS => ?_)
        refine lv_aload_n hx hb dX3_foresee_69 rfl (lv_at hl 0 rfl) ?_
        refine va_get (D := D) (ci := 3) (v := .ref (G 0)) (C := RX3) (T := TX3) (N := 3) hx hb hts inX3 hown hE.1 hP 0 rfl rfl 2 (by decide) kf23 (fun _ h9 => h9) rfl dX3_foresee_70 ?_
        refine lv_iload_n hx hb dX3_foresee_73 rfl (lv_at hl 2 rfl) ?_
        refine pVi (As := [.int (nI wn)]) (rest := []) (wc := (wF cA G (minsA b mn a) u9.1 u9.2)) ⟨hx, hb, hml, hown, hts⟩ (K_X1_tally lch D cA G (minsA b mn a) u9.1 u9.2 wn H.size ((mins_keep (b := b) hw1 mn).1) (hwx)) (cwV 1 hts gX3_foresee_X1_tally rfl rfl rfl (by decide +kernel) ⟨Nat.le_of_ble_eq_true rfl, Nat.le_of_ble_eq_true rfl⟩) hE hP hD hS hA [31, 32, 33, 34, 35, 36, 37, 38, 39, 40, 41, 42, 43, 44, 45, 46, 47, 48, 49, 50, 51, 52, 53] rfl rfl X0.blind (fun _ _ _ => trivial) 31 1 rfl rfl rfl hl.1 rfl rfl (Nat.le_of_ble_eq_true rfl) dX3_foresee_74 ⟨Nat.zero_le _, Nat.zero_le _⟩ (fun r_12 u_13 H locs h_14 hP hS => ?_)
        subst h_14
        refine W.widen (k := 1) (n := 6) (by first | exact Nat.le_of_ble_eq_true rfl | omega) (by first | exact Nat.le_of_ble_eq_true rfl | omega) ?_
        rw [hQQ]
        refine vx_ret ?_
        exact W.iret (v := tallyA (minsA b mn a) wn) hx hb hr (fun t ht hW => ⟨⟨tallyA (minsA b mn a) wn, (minsA b mn a, u9.1, u9.2), rfl, ⟨by rw [nI_clamp (by omega), nI_clamp (by omega)], hok⟩, by show va_P _ _ _ t.heap; rw [ht]; exact hP⟩, hS.F ht⟩) hS.2.2 dX3_foresee_77
      · skip
        have c27 := bi_0.mp c27
        refine lv_iload_n hx hb dX3_foresee_30 rfl (lv_at hl 2 rfl) ?_
        refine lv_bipush (v := 9) hx hb dX3_foresee_31 (by decide) ?_
        refine lv_icmp_eq (tgt := 46) hx hb dX3_foresee_33 (by decide) (fun c33 => ?_) (fun c33 => ?_)
        · skip
          obtain ⟨mn, hm9, em⟩ := isW_nat (n := 90) (isW_0 c7) (by decide)
          subst em
          obtain ⟨wn, ewn⟩ : ∃ k : Nat, k = 9 := ⟨9, rfl⟩
          have ew : w = nI wn := by rw [c33, ewn]; rfl
          subst ew
          have hwx : wn = 2 ∨ wn = 3 ∨ wn = 4 ∨ wn = 5 ∨ wn = 6 ∨ wn = 9 := by omega
          have hok : cdForesee (nI mn) (nI wn) = 0 := by unfold cdForesee; rw [if_neg (by simp [c7]), if_neg (fun q => q.2 c33)]
          refine lv_aload_n hx hb dX3_foresee_46 rfl (lv_at hl 0 rfl) ?_
          refine va_get (D := D) (ci := 3) (v := .ref (G 0)) (C := RX3) (T := TX3) (N := 3) hx hb hts inX3 hown hE.1 hP 0 rfl rfl 2 (by decide) kf23 (fun _ h9 => h9) rfl dX3_foresee_47 ?_
          refine lv_aload_n hx hb dX3_foresee_50 rfl (lv_at hl 0 rfl) ?_
          refine va_get (D := D) (ci := 3) (v := .ref (F 0)) (C := RX3) (T := TX3) (N := 3) hx hb hts inX3 hown hE.1 hP 0 rfl rfl 1 (by decide) kf19 (fun _ h9 => h9) rfl dX3_foresee_51 ?_
          refine cVv (wB := fun (u_16 : Unit) => ((wF cA G a c q2) ++ (wF cA F a c q))) (As := [.ref (F 0)]) (rest := []) (wc := ((wF cA G a2 c2 q2) ++ (wF cA F a c q))) ⟨hx, hb, hml, hown, hts⟩ (K_X1_copy lch D cA G F a2 c2 q2 a c q H.size ) (cwV 1 hts gX3_foresee_X1_copy rfl rfl rfl (by decide +kernel) ⟨Nat.le_of_ble_eq_true rfl, Nat.le_of_ble_eq_true rfl⟩) hE hP hD hS hA [31, 32, 33, 34, 35, 36, 37, 38, 39, 40, 41, 42, 43, 44, 45, 46, 47, 48, 49, 50, 51, 52, 53, 8, 9, 10, 11, 12, 13, 14, 15, 16, 17, 18, 19, 20, 21, 22, 23, 24, 25, 26, 27, 28, 29, 30] rfl rfl [G 0, G 1, G 2, G 3, G 4, G 5, G 6, G 7, G 8, G 9, G 10, G 11, G 12, G 13, G 14, G 15, G 16, G 17, G 18, G 19, G 20, G 21, G 22, F 0, F 1, F 2, F 3, F 4, F 5, F 6, F 7, F 8, F 9, F 10, F 11, F 12, F 13, F 14, F 15, F 16, F 17, F 18, F 19, F 20, F 21, F 22] (fun _ => rfl) rfl (fun (u_16 : Unit) => (([(x, .inr (3, [.ref (B 0), .ref (F 0), .ref (G 0)]))] : va_W) ++ ((wB cA B b) ++ ((wF cA F a c q) ++ (wF cA G a c q2))))) (fun u_16 => ((pst_app 23 (ps1 := [31, 32, 33, 34, 35, 36, 37, 38, 39, 40, 41, 42, 43, 44, 45, 46, 47, 48, 49, 50, 51, 52, 53]) (ps2 := [8, 9, 10, 11, 12, 13, 14, 15, 16, 17, 18, 19, 20, 21, 22, 23, 24, 25, 26, 27, 28, 29, 30]) (w1 := (wF cA G a c q2)) (w2 := (wF cA F a c q)) rfl rfl rfl).trans ((congrArg (fun z => pst z [8, 9, 10, 11, 12, 13, 14, 15, 16, 17, 18, 19, 20, 21, 22, 23, 24, 25, 26, 27, 28, 29, 30] (wF cA F a c q)) (pst_blk (([(x, .inr (3, [.ref (B 0), .ref (F 0), .ref (G 0)]))] : va_W) ++ ((wB cA B b) ++ (wF cA F a c q))) [] (wc := (wF cA G a2 c2 q2)) (w1 := (wF cA G a c q2)) (w2 := (([(x, .inr (3, [.ref (B 0), .ref (F 0), .ref (G 0)]))] : va_W) ++ ((wB cA B b) ++ ((wF cA F a c q) ++ (wF cA G a c q2))))) 23 31 rfl rfl rfl rfl rfl rfl)).trans (pst_blk (([(x, .inr (3, [.ref (B 0), .ref (F 0), .ref (G 0)]))] : va_W) ++ (wB cA B b)) (wF cA G a c q2) (wc := (wF cA F a c q)) (w1 := (wF cA F a c q)) (w2 := (([(x, .inr (3, [.ref (B 0), .ref (F 0), .ref (G 0)]))] : va_W) ++ ((wB cA B b) ++ ((wF cA F a c q) ++ (wF cA G a c q2))))) 23 8 rfl rfl rfl rfl rfl rfl)))) X0.blind (fun _ _ _ => trivial) 31 1 rfl rfl rfl hl.1 rfl rfl (Nat.le_of_ble_eq_true rfl) dX3_foresee_54 ⟨Nat.zero_le _, Nat.zero_le _⟩ (fun u_16 H locs h_17 hP hD hS => ?_)
          refine lv_aload_n hx hb dX3_foresee_57 rfl (lv_at hl 0 rfl) ?_
          refine va_get (D := D) (ci := 3) (v := .ref (G 0)) (C := RX3) (T := TX3) (N := 3) hx hb hts inX3 hown hE.1 hP 0 rfl rfl 2 (by decide) kf23 (fun _ h9 => h9) rfl dX3_foresee_58 ?_
          refine lv_iload_n hx hb dX3_foresee_61 rfl (lv_at hl 1 rfl) ?_
          refine lv_aload_n hx hb dX3_foresee_62 rfl (lv_at hl 0 rfl) ?_
          refine va_get (D := D) (ci := 3) (v := .ref (B 0)) (C := RX3) (T := TX3) (N := 3) hx hb hts inX3 hown hE.1 hP 0 rfl rfl 0 (by decide) kf10 (fun _ h9 => h9) rfl dX3_foresee_63 ?_
          refine cVv (wB := fun (u9 : (Nat → Int32) × (Nat → Int32)) => ((wF cA G (minsA b mn a) u9.1 u9.2) ++ (wB cA B b))) (As := [.int (nI mn), .ref (B 0)]) (rest := []) (wc := ((wF cA G a c q2) ++ (wB cA B b))) ⟨hx, hb, hml, hown, hts⟩ (K_X1_passMinutes lch D cA G a c q2 B b mn H.size (hw1) (hwb) (hcr) (by omega)) (cwV 2 hts gX3_foresee_X1_passMinutes rfl rfl rfl (by decide +kernel) ⟨Nat.le_of_ble_eq_true rfl, Nat.le_of_ble_eq_true rfl⟩) hE hP hD hS hA [31, 32, 33, 34, 35, 36, 37, 38, 39, 40, 41, 42, 43, 44, 45, 46, 47, 48, 49, 50, 51, 52, 53, 1, 2, 3, 4, 5, 6, 7] rfl rfl [G 0, G 1, G 2, G 3, G 4, G 5, G 6, G 7, G 8, G 9, G 10, G 11, G 12, G 13, G 14, G 15, G 16, G 17, G 18, G 19, G 20, G 21, G 22, B 0, B 1, B 2, B 3, B 4, B 5, B 6] (fun _ => rfl) rfl (fun (u9 : (Nat → Int32) × (Nat → Int32)) => (([(x, .inr (3, [.ref (B 0), .ref (F 0), .ref (G 0)]))] : va_W) ++ ((wB cA B b) ++ ((wF cA F a c q) ++ (wF cA G (minsA b mn a) u9.1 u9.2))))) (fun u9 => ((pst_app 23 (ps1 := [31, 32, 33, 34, 35, 36, 37, 38, 39, 40, 41, 42, 43, 44, 45, 46, 47, 48, 49, 50, 51, 52, 53]) (ps2 := [1, 2, 3, 4, 5, 6, 7]) (w1 := (wF cA G (minsA b mn a) u9.1 u9.2)) (w2 := (wB cA B b)) rfl rfl rfl).trans ((congrArg (fun z => pst z [1, 2, 3, 4, 5, 6, 7] (wB cA B b)) (pst_blk (([(x, .inr (3, [.ref (B 0), .ref (F 0), .ref (G 0)]))] : va_W) ++ ((wB cA B b) ++ (wF cA F a c q))) [] (wc := (wF cA G a c q2)) (w1 := (wF cA G (minsA b mn a) u9.1 u9.2)) (w2 := (([(x, .inr (3, [.ref (B 0), .ref (F 0), .ref (G 0)]))] : va_W) ++ ((wB cA B b) ++ ((wF cA F a c q) ++ (wF cA G (minsA b mn a) u9.1 u9.2))))) 23 31 rfl rfl rfl rfl rfl rfl)).trans (pst_blk ([(x, .inr (3, [.ref (B 0), .ref (F 0), .ref (G 0)]))] : va_W) ((wF cA F a c q) ++ (wF cA G (minsA b mn a) u9.1 u9.2)) (wc := (wB cA B b)) (w1 := (wB cA B b)) (w2 := (([(x, .inr (3, [.ref (B 0), .ref (F 0), .ref (G 0)]))] : va_W) ++ ((wB cA B b) ++ ((wF cA F a c q) ++ (wF cA G (minsA b mn a) u9.1 u9.2))))) 7 1 rfl rfl rfl rfl rfl rfl)))) X0.blind (fun _ _ _ => trivial) 31 1 rfl rfl rfl hl.1 rfl rfl (Nat.le_of_ble_eq_true rfl) dX3_foresee_66 ⟨Nat.zero_le _, Nat.zero_le _⟩ (fun u9 H locs h9 hP hD hS => ?_)
          refine lv_aload_n hx hb dX3_foresee_69 rfl (lv_at hl 0 rfl) ?_
          refine va_get (D := D) (ci := 3) (v := .ref (G 0)) (C := RX3) (T := TX3) (N := 3) hx hb hts inX3 hown hE.1 hP 0 rfl rfl 2 (by decide) kf23 (fun _ h9 => h9) rfl dX3_foresee_70 ?_
          refine lv_iload_n hx hb dX3_foresee_73 rfl (lv_at hl 2 rfl) ?_
          refine pVi (As := [.int (nI wn)]) (rest := []) (wc := (wF cA G (minsA b mn a) u9.1 u9.2)) ⟨hx, hb, hml, hown, hts⟩ (K_X1_tally lch D cA G (minsA b mn a) u9.1 u9.2 wn H.size ((mins_keep (b := b) hw1 mn).1) (hwx)) (cwV 1 hts gX3_foresee_X1_tally rfl rfl rfl (by decide +kernel) ⟨Nat.le_of_ble_eq_true rfl, Nat.le_of_ble_eq_true rfl⟩) hE hP hD hS hA [31, 32, 33, 34, 35, 36, 37, 38, 39, 40, 41, 42, 43, 44, 45, 46, 47, 48, 49, 50, 51, 52, 53] rfl rfl X0.blind (fun _ _ _ => trivial) 31 1 rfl rfl rfl hl.1 rfl rfl (Nat.le_of_ble_eq_true rfl) dX3_foresee_74 ⟨Nat.zero_le _, Nat.zero_le _⟩ (fun r_20 u_21 H locs h_22 hP hS => ?_)
          subst h_22
          refine W.widen (k := 1) (n := 6) (by first | exact Nat.le_of_ble_eq_true rfl | omega) (by first | exact Nat.le_of_ble_eq_true rfl | omega) ?_
          rw [hQQ]
          refine vx_ret ?_
          exact W.iret (v := tallyA (minsA b mn a) wn) hx hb hr (fun t ht hW => ⟨⟨tallyA (minsA b mn a) wn, (minsA b mn a, u9.1, u9.2), rfl, ⟨by rw [nI_clamp (by omega), nI_clamp (by omega)], hok⟩, by show va_P _ _ _ t.heap; rw [ht]; exact hP⟩, hS.F ht⟩) hS.2.2 dX3_foresee_77
        · skip
          rw [hQQ]
          exact thrI (sa := sa) (is := 183) (text := "nothing is foreseen of this") hx hb hlt hown kw4 kw5 (fun w h => hts w (List.mem_cons_of_mem _ (List.mem_append_right _ h))) hXs (by decide +kernel) hS hP (by rw [hml]; exact hl.1) dX3_foresee_36 dX3_foresee_39 dX3_foresee_40 dX3_foresee_42 dX3_foresee_45 htb (Nat.le_of_ble_eq_true rfl) (Nat.le_of_ble_eq_true rfl) (Nat.le_of_ble_eq_true rfl) (Nat.le_of_ble_eq_true rfl) hlocks (Nat.le_of_ble_eq_true rfl) (Nat.le_of_ble_eq_true rfl) (Or.inr (⟨by unfold cdForesee; rw [if_neg (by simp [c7]), if_pos ⟨c27, c33⟩], rfl⟩))
    · skip
      have c7 := bi_0.mp c7
      rw [hQQ]
      exact thrA (sa := sa) (is := 170) (text := "no such number of minutes") hx hb hlt hown kw6 kw7 (fun w h => hts w (List.mem_cons_of_mem _ (List.mem_append_left _ (List.mem_append_right _ h)))) hXs (by decide +kernel) hS hP (by rw [hml]; exact hl.1) dX3_foresee_10 dX3_foresee_13 dX3_foresee_14 dX3_foresee_16 dX3_foresee_19 htb (Nat.le_of_ble_eq_true rfl) (Nat.le_of_ble_eq_true rfl) (Nat.le_of_ble_eq_true rfl) (Nat.le_of_ble_eq_true rfl) hlocks (Nat.le_of_ble_eq_true rfl) (Nat.le_of_ble_eq_true rfl) (Or.inl ⟨by unfold cdForesee; rw [if_pos c7], rfl⟩)
  rw [hg1, hg2] at hgoal
  exact hgoal

set_option maxHeartbeats 4000000 in
set_option maxRecDepth 100000 in
/-- advise -/
theorem K_X3_advise (lch : Launch) (hlt : lch.stackTraces = false) (D : va_G) (cA : ClassId) (sa : Nat → Nat) (x : Nat) (B : Nat → Nat) (F : Nat → Nat) (G : Nat → Nat) (b : BSt) (a : FSt) (c : Nat → Int32) (q : Nat → Int32) (a2 : FSt) (c2 : Nat → Int32) (q2 : Nat → Int32) (f : Int32) (sz : Nat) (hw1 : WFa a) (hwb : WFb b) (hcr : CRa a c) (hn40 : qN a ≤ 40) : vx_Met lch yX3_advise wsX3_advise ({ frames := 6, cells := 1, slots := 6, locals := 143 }) (Pr D cA [.ref x, .int f] sz (([(x, .inr (3, [.ref (B 0), .ref (F 0), .ref (G 0)]))] : va_W) ++ ((wB cA B b) ++ ((wF cA F a c q) ++ (wF cA G a2 c2 q2)))) (TX sa (va_A (([(x, .inr (3, [.ref (B 0), .ref (F 0), .ref (G 0)]))] : va_W) ++ ((wB cA B b) ++ ((wF cA F a c q) ++ (wF cA G a2 c2 q2)))) sz))) (va_Qi (fun (r : Int32) (u : FSt × (Nat → Int32) × (Nat → Int32)) => r = adviseA b a (f).toNatClampNeg ∧ cdFrame f = 0) (fun (u : FSt × (Nat → Int32) × (Nat → Int32)) t => va_P D vwCl (([(x, .inr (3, [.ref (B 0), .ref (F 0), .ref (G 0)]))] : va_W) ++ ((wB cA B b) ++ ((wF cA F a c q) ++ (wF cA G u.1 u.2.1 u.2.2)))) t.heap) (va_A (([(x, .inr (3, [.ref (B 0), .ref (F 0), .ref (G 0)]))] : va_W) ++ ((wB cA B b) ++ ((wF cA F a c q) ++ (wF cA G a2 c2 q2)))) sz)) (vx_X (S := Unit) (fun _ => True) (fun E _ t => (fun E => (cdFrame f = 1 ∧ E = "java/lang/IndexOutOfBoundsException")) E ∧ va_P D vwCl (([(x, .inr (3, [.ref (B 0), .ref (F 0), .ref (G 0)]))] : va_W) ++ ((wB cA B b) ++ ((wF cA F a c q) ++ (wF cA G a2 c2 q2)))) t.heap) (va_A (([(x, .inr (3, [.ref (B 0), .ref (F 0), .ref (G 0)]))] : va_W) ++ ((wB cA B b) ++ ((wF cA F a c q) ++ (wF cA G a2 c2 q2)))) sz)) 1 6 (va_A (([(x, .inr (3, [.ref (B 0), .ref (F 0), .ref (G 0)]))] : va_W) ++ ((wB cA B b) ++ ((wF cA F a c q) ++ (wF cA G a2 c2 q2)))) sz) := by
  refine vx_ofW (cc := cX3_advise) (maxL := 6) (ret := (some .int)) (by decide) rfl ?_
  intro pg ev s mi args below meth cd s₁ B hml htb hv
  obtain ⟨hav, hsz, hP, hE, hD, hXs⟩ := hv
  have hx := B.exec
  have hb := B.bytes
  have hr := B.returns
  have hts := atoms_spec (ws := wsX3_advise) B.pre
  have hown : s.vm.findClass RX3 = some mi.cls := findClass_of_methodNamed B.named
  have hlocks := B.notSynchronized
  clear B
  subst hav
  subst hsz
  have hD := hD.self (sz := s.heap.size)
  generalize hAe : va_A (([(x, .inr (3, [.ref (B 0), .ref (F 0), .ref (G 0)]))] : va_W) ++ ((wB cA B b) ++ ((wF cA F a c q) ++ (wF cA G a2 c2 q2)))) s.heap.size = A at hD hXs ⊢
  have hA : ∀ q : Nat, s.heap.size ≤ q → A q := fun q h => by rw [← hAe]; exact Or.inr h
  have hS : va_S A s.heap s.heap [] := va_S.rf
  obtain ⟨QQ, hQQ⟩ : ∃ qq9, qq9 = vx_MQ below (va_Qi (fun (r : Int32) (u : FSt × (Nat → Int32) × (Nat → Int32)) => r = adviseA b a (f).toNatClampNeg ∧ cdFrame f = 0) (fun (u : FSt × (Nat → Int32) × (Nat → Int32)) t => va_P D vwCl (([(x, .inr (3, [.ref (B 0), .ref (F 0), .ref (G 0)]))] : va_W) ++ ((wB cA B b) ++ ((wF cA F a c q) ++ (wF cA G u.1 u.2.1 u.2.2)))) t.heap) A) (vx_X (S := Unit) (fun _ => True) (fun E _ t => (fun E => (cdFrame f = 1 ∧ E = "java/lang/IndexOutOfBoundsException")) E ∧ va_P D vwCl (([(x, .inr (3, [.ref (B 0), .ref (F 0), .ref (G 0)]))] : va_W) ++ ((wB cA B b) ++ ((wF cA F a c q) ++ (wF cA G a2 c2 q2)))) t.heap) A) ([.ref x, .int f] : List Value).toArray s 1 6 A := ⟨_, rfl⟩
  rw [← hQQ]
  have hl := lv_entry ([.ref x, .int f]) (n := 6) (Nat.le_of_ble_eq_true rfl)
  rw [lg_entry_eq]
  generalize (lg_sl ([.ref x, .int f]) ++ List.replicate (6 - (lg_sl ([.ref x, .int f])).length) Slot.unset).toArray = ls at hl ⊢
  have hl : lv_has ls 6 [(0, .ref x), (1, .int f)] := hl
  have kw0 := hts (.classLink RX3 30 "java/lang/IndexOutOfBoundsException") (by decide +kernel)
  have kw1 := hts (.initialized "java/lang/IndexOutOfBoundsException") (by decide +kernel)
  obtain ⟨H, locs, hP, hS, hg1, hg2⟩ : ∃ H locs, va_P D vwCl (([(x, .inr (3, [.ref (B 0), .ref (F 0), .ref (G 0)]))] : va_W) ++ ((wB cA B b) ++ ((wF cA F a c q) ++ (wF cA G a2 c2 q2)))) H ∧ va_S A s.heap H locs ∧ H = s.heap ∧ locs = [] := ⟨_, _, hP, hS, rfl, rfl⟩
  have hgoal : W pg lch ev (headSpec wsX3_advise ({ frames := 6, cells := 1, slots := 6, locals := 143 })).room s mi ([.ref x, .int f] : List Value).toArray below meth cd H locs 0 0 QQ (F0 mi 0 ls []) := by
    refine lv_iload_n hx hb dX3_advise_0 rfl (lv_at hl 1 rfl) ?_
    refine pSi (As := [.int f]) (rest := []) (wc := ([] : va_W)) ⟨hx, hb, hml, hown, hts⟩ (K_X3_isFrame lch D cA f H.size ) (cwS 1 hts gX3_advise_X3_isFrame rfl rfl rfl (by decide +kernel) ⟨Nat.le_of_ble_eq_true rfl, Nat.le_of_ble_eq_true rfl⟩) hE hP hD hS hA [] rfl rfl X0.blind (fun _ _ _ => trivial) hl.1 rfl rfl (Nat.le_of_ble_eq_true rfl) dX3_advise_1 ⟨Nat.zero_le _, Nat.zero_le _⟩ (fun r_1 u_2 H locs h_3 hP hS => ?_)
    subst h_3
    refine lv_if_ne (tgt := 17) hx hb dX3_advise_4 (by decide) (fun c4 => ?_) (fun c4 => ?_)
    · skip
      have c4 := bi_1.mp c4
      obtain ⟨fn, hf9, ef⟩ := isW_nat (n := 2) c4 (by decide)
      subst ef
      refine lv_iconst (v := (-1)) hx hb dX3_advise_17 (by decide) ?_
      refine lv_istore_n (lv' := [(2, .int ((-1))), (0, .ref x), (1, .int (nI fn))]) hx hb dX3_advise_18 rfl hl (by decide) rfl (fun ls hl => ?_)
      refine lv_bipush (v := 61) hx hb dX3_advise_19 (by decide) ?_
      refine lv_istore_n (lv' := [(3, .int 61), (2, .int ((-1))), (0, .ref x), (1, .int (nI fn))]) hx hb dX3_advise_21 rfl hl (by decide) rfl (fun ls hl => ?_)
      refine lv_iconst (v := 0) hx hb dX3_advise_22 (by decide) ?_
      refine lv_istore (lv' := [(4, .int 0), (3, .int 61), (2, .int ((-1))), (0, .ref x), (1, .int (nI fn))]) hx hb dX3_advise_23 hl (by decide) rfl (fun ls hl => ?_)
      have L25 : ∀ (fu25 : Nat) (l : Nat) (d : FSt) (cd2 : Nat → Int32) (qd : Nat → Int32), (l ≤ 3) → 3 - l < fu25 → ∀ (H : Heap) (locs : List Loc), va_P D vwCl (([(x, .inr (3, [.ref (B 0), .ref (F 0), .ref (G 0)]))] : va_W) ++ ((wB cA B b) ++ ((wF cA F a c q) ++ (wF cA G d cd2 qd)))) H → va_D A (([(x, .inr (3, [.ref (B 0), .ref (F 0), .ref (G 0)]))] : va_W) ++ ((wB cA B b) ++ ((wF cA F a c q) ++ (wF cA G d cd2 qd)))) → va_S A s.heap H locs → ∀ ls : Array Slot, lv_has ls 6 [(4, .int (nI l)), (2, .int ((bestA (comesA b a fn) l).1)), (3, .int (nI ((bestA (comesA b a fn) l).2))), (0, .ref x), (1, .int (nI fn))] → W pg lch ev (headSpec wsX3_advise ({ frames := 6, cells := 1, slots := 6, locals := 143 })).room s mi ([.ref x, .int (nI fn)] : List Value).toArray below meth cd H locs 0 0 QQ (F0 mi 25 ls []) := by
        intro fu25
        induction fu25 with
        | zero => intro l d cd2 qd hll hms; exact absurd hms (Nat.not_lt_zero _)
        | succ fu25 ih25 =>
          intro l d cd2 qd hll hms25 H locs hP hD hS ls hl
          have hcm := comes_le (b := b) (a := a) (f := fn) (l := l)
          have hbm := best_le (g := comesA b a fn) (fun l => comes_le (b := b) (a := a) (f := fn) (l := l)) l
          refine lv_iload hx hb dX3_advise_25 (lv_at hl 0 rfl) ?_
          refine lv_iconst (v := 3) hx hb dX3_advise_27 (by decide) ?_
          refine lv_icmp_ge (tgt := 58) hx hb dX3_advise_28 (by decide) (fun c28 => ?_) (fun c28 => ?_)
          · skip
            have c28 := (nI_leI (a := 3) (b := l) (by omega) (by omega)).mp c28
            refine lv_iload_n hx hb dX3_advise_58 rfl (lv_at hl 1 rfl) ?_
            refine W.widen (k := 1) (n := 6) (by first | exact Nat.le_of_ble_eq_true rfl | omega) (by first | exact Nat.le_of_ble_eq_true rfl | omega) ?_
            rw [hQQ]
            refine vx_ret ?_
            exact W.iret (v := (bestA (comesA b a fn) l).1) hx hb hr (fun t ht hW => ⟨⟨(bestA (comesA b a fn) l).1, (d, cd2, qd), rfl, ⟨by rw [nI_clamp (by omega)]; unfold adviseA; rw [show l = 3 by omega], by unfold cdFrame; rw [if_neg (by simp [c4])]⟩, by show va_P _ _ _ t.heap; rw [ht]; exact hP⟩, hS.F ht⟩) hS.2.2 dX3_advise_59
          · skip
            have c28 := (not_congr (nI_leI (a := 3) (b := l) (by omega) (by omega))).mp c28
            refine lv_aload_n hx hb dX3_advise_31 rfl (lv_at hl 3 rfl) ?_
            refine lv_iload_n hx hb dX3_advise_32 rfl (lv_at hl 4 rfl) ?_
            refine lv_iload hx hb dX3_advise_33 (lv_at hl 0 rfl) ?_
            refine cVi (wB := fun (u9 : FSt × (Nat → Int32) × (Nat → Int32)) => (([(x, .inr (3, [.ref (B 0), .ref (F 0), .ref (G 0)]))] : va_W) ++ ((wB cA B b) ++ ((wF cA F a c q) ++ (wF cA G u9.1 u9.2.1 u9.2.2))))) (As := [.int (nI fn), .int (nI l)]) (rest := []) (wc := (([(x, .inr (3, [.ref (B 0), .ref (F 0), .ref (G 0)]))] : va_W) ++ ((wB cA B b) ++ ((wF cA F a c q) ++ (wF cA G d cd2 qd))))) ⟨hx, hb, hml, hown, hts⟩ (K_X3_minutesToNet lch D cA x B F G b a c q d cd2 qd fn l H.size (by first | assumption | omega) (by first | assumption | omega) (by first | assumption | omega) (by first | assumption | omega) (by omega) (by omega)) (cwV 2 hts gX3_advise_X3_minutesToNet rfl rfl rfl (by decide +kernel) ⟨Nat.le_of_ble_eq_true rfl, Nat.le_of_ble_eq_true rfl⟩) hE hP hD hS hA [0, 1, 2, 3, 4, 5, 6, 7, 8, 9, 10, 11, 12, 13, 14, 15, 16, 17, 18, 19, 20, 21, 22, 23, 24, 25, 26, 27, 28, 29, 30, 31, 32, 33, 34, 35, 36, 37, 38, 39, 40, 41, 42, 43, 44, 45, 46, 47, 48, 49, 50, 51, 52, 53] rfl rfl [x, B 0, B 1, B 2, B 3, B 4, B 5, B 6, F 0, F 1, F 2, F 3, F 4, F 5, F 6, F 7, F 8, F 9, F 10, F 11, F 12, F 13, F 14, F 15, F 16, F 17, F 18, F 19, F 20, F 21, F 22, G 0, G 1, G 2, G 3, G 4, G 5, G 6, G 7, G 8, G 9, G 10, G 11, G 12, G 13, G 14, G 15, G 16, G 17, G 18, G 19, G 20, G 21, G 22] (fun _ => rfl) rfl (fun (u9 : FSt × (Nat → Int32) × (Nat → Int32)) => (([(x, .inr (3, [.ref (B 0), .ref (F 0), .ref (G 0)]))] : va_W) ++ ((wB cA B b) ++ ((wF cA F a c q) ++ (wF cA G u9.1 u9.2.1 u9.2.2))))) (fun _ => pst_all 54 rfl rfl rfl) X0.blind (fun _ _ _ => trivial) 0 3 rfl rfl rfl hl.1 rfl rfl (Nat.le_of_ble_eq_true rfl) dX3_advise_35 ⟨Nat.zero_le _, Nat.zero_le _⟩ (fun r_4 u9 H locs h9 hP hD hS => ?_)
            subst h9
            refine lv_istore (lv' := [(5, .int (nI (comesA b a fn l))), (4, .int (nI l)), (2, .int ((bestA (comesA b a fn) l).1)), (3, .int (nI ((bestA (comesA b a fn) l).2))), (0, .ref x), (1, .int (nI fn))]) hx hb dX3_advise_38 hl (by decide) rfl (fun ls hl => ?_)
            refine lv_iload hx hb dX3_advise_40 (lv_at hl 0 rfl) ?_
            refine lv_iload_n hx hb dX3_advise_42 rfl (lv_at hl 3 rfl) ?_
            refine lv_icmp_ge (tgt := 52) hx hb dX3_advise_43 (by decide) (fun c43 => ?_) (fun c43 => ?_)
            · skip
              have c43 := (nI_leI (a := (bestA (comesA b a fn) l).2) (b := comesA b a fn l) (by omega) (by omega)).mp c43
              refine lv_iinc (v := nI (l + 1)) (lv' := [(4, .int (nI (l + 1))), (5, .int (nI (comesA b a fn l))), (2, .int ((bestA (comesA b a fn) l).1)), (3, .int (nI ((bestA (comesA b a fn) l).2))), (0, .ref x), (1, .int (nI fn))]) hx hb dX3_advise_52 hl (k := 1) rfl (nI_add l 1) (by decide) rfl (fun ls hl => ?_)
              refine lv_goto (tgt := 25) hx hb dX3_advise_55 (by decide) ?_
              have e9 := best_out (g := comesA b a fn) (l := l) (by omega)
              rw [← e9] at hl
              exact ih25 (l + 1) u9.1 u9.2.1 u9.2.2 (by omega) (by omega) H locs hP hD hS ls (lv_sub hl [0, 2, 3, 4, 5] rfl)
            · skip
              have c43 := (not_congr (nI_leI (a := (bestA (comesA b a fn) l).2) (b := comesA b a fn l) (by omega) (by omega))).mp c43
              refine lv_iload hx hb dX3_advise_46 (lv_at hl 0 rfl) ?_
              refine lv_istore_n (lv' := [(3, .int (nI (comesA b a fn l))), (5, .int (nI (comesA b a fn l))), (4, .int (nI l)), (2, .int ((bestA (comesA b a fn) l).1)), (0, .ref x), (1, .int (nI fn))]) hx hb dX3_advise_48 rfl hl (by decide) rfl (fun ls hl => ?_)
              refine lv_iload hx hb dX3_advise_49 (lv_at hl 2 rfl) ?_
              refine lv_istore_n (lv' := [(2, .int (nI l)), (3, .int (nI (comesA b a fn l))), (5, .int (nI (comesA b a fn l))), (4, .int (nI l)), (0, .ref x), (1, .int (nI fn))]) hx hb dX3_advise_51 rfl hl (by decide) rfl (fun ls hl => ?_)
              refine lv_iinc (v := nI (l + 1)) (lv' := [(4, .int (nI (l + 1))), (2, .int (nI l)), (3, .int (nI (comesA b a fn l))), (5, .int (nI (comesA b a fn l))), (0, .ref x), (1, .int (nI fn))]) hx hb dX3_advise_52 hl (k := 3) rfl (nI_add l 1) (by decide) rfl (fun ls hl => ?_)
              refine lv_goto (tgt := 25) hx hb dX3_advise_55 (by decide) ?_
              have e9 := best_in (g := comesA b a fn) (l := l) (by omega)
              have e8 : nI l = (bestA (comesA b a fn) (l + 1)).1 := by rw [e9]
              have e7 : comesA b a fn l = (bestA (comesA b a fn) (l + 1)).2 := by rw [e9]
              rw [e7] at hl
              have hl : lv_has ls 6 [(4, .int (nI (l + 1))), (2, .int ((bestA (comesA b a fn) (l + 1)).1)), (3, .int (nI ((bestA (comesA b a fn) (l + 1)).2))), (0, .ref x), (1, .int (nI fn))] := by rw [← e8]; exact lv_sub hl [0, 1, 2, 4, 5] rfl
              exact ih25 (l + 1) u9.1 u9.2.1 u9.2.2 (by omega) (by omega) H locs hP hD hS ls (lv_sub hl [0, 1, 2, 3, 4] rfl)
      exact L25 4 0 a2 c2 q2 (Nat.zero_le _) (by omega) H locs hP hD hS ls (lv_sub hl [0, 2, 1, 3, 4] rfl)
    · skip
      have c4 := bi_0.mp c4
      rw [hQQ]
      exact thrI (sa := sa) (is := 185) (text := "no such frame") hx hb hlt hown kw0 kw1 (fun w h => hts w (List.mem_cons_of_mem _ (List.mem_append_right _ h))) hXs (by decide +kernel) hS hP (by rw [hml]; exact hl.1) dX3_advise_7 dX3_advise_10 dX3_advise_11 dX3_advise_13 dX3_advise_16 htb (Nat.le_of_ble_eq_true rfl) (Nat.le_of_ble_eq_true rfl) (Nat.le_of_ble_eq_true rfl) (Nat.le_of_ble_eq_true rfl) hlocks (Nat.le_of_ble_eq_true rfl) (Nat.le_of_ble_eq_true rfl) (⟨by unfold cdFrame; rw [if_pos c4], rfl⟩)
  rw [hg1, hg2] at hgoal
  exact hgoal
