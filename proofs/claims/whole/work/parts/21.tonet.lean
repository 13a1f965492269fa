set_option maxHeartbeats 4000000 in
set_option maxRecDepth 100000 in
/-- minutesToNet -/
theorem K_X3_minutesToNet (lch : Launch) (D : va_G) (cA : ClassId) (x : Nat) (B : Nat → Nat) (F : Nat → Nat) (G : Nat → Nat) (b : BSt) (a : FSt) (c : Nat → Int32) (q : Nat → Int32) (a2 : FSt) (c2 : Nat → Int32) (q2 : Nat → Int32) (f : Nat) (l : Nat) (sz : Nat) (hw1 : WFa a) (hwb : WFb b) (hcr : CRa a c) (hn40 : qN a ≤ 40) (hf : f < 3) (hl3 : l < 3) : Met lch yX3_minutesToNet wsX3_minutesToNet ({ frames := 5, cells := 0, slots := 0, locals := 119 }) (Pr D cA [.ref x, .int (nI f), .int (nI l)] sz (([(x, .inr (3, [.ref (B 0), .ref (F 0), .ref (G 0)]))] : va_W) ++ ((wB cA B b) ++ ((wF cA F a c q) ++ (wF cA G a2 c2 q2)))) X0) (va_Qi (fun (r : Int32) (u : FSt × (Nat → Int32) × (Nat → Int32)) => r = nI (comesA b a f l)) (fun (u : FSt × (Nat → Int32) × (Nat → Int32)) t => va_P D vwCl (([(x, .inr (3, [.ref (B 0), .ref (F 0), .ref (G 0)]))] : va_W) ++ ((wB cA B b) ++ ((wF cA F a c q) ++ (wF cA G u.1 u.2.1 u.2.2)))) t.heap) (va_A (([(x, .inr (3, [.ref (B 0), .ref (F 0), .ref (G 0)]))] : va_W) ++ ((wB cA B b) ++ ((wF cA F a c q) ++ (wF cA G a2 c2 q2)))) sz)) 0 0 (va_A (([(x, .inr (3, [.ref (B 0), .ref (F 0), .ref (G 0)]))] : va_W) ++ ((wB cA B b) ++ ((wF cA F a c q) ++ (wF cA G a2 c2 q2)))) sz) := by
  refine Met.ofW (cc := cX3_minutesToNet) (maxL := 5) (ret := (some .int)) (by decide) rfl ?_
  intro pg ev s mi args below meth cd s₁ B hml hv
  obtain ⟨hav, hsz, hP, hE, hD, hXs⟩ := hv
  have hx := B.exec
  have hb := B.bytes
  have hr := B.returns
  have hts := atoms_spec (ws := wsX3_minutesToNet) B.pre
  have hown : s.vm.findClass RX3 = some mi.cls := findClass_of_methodNamed B.named
  have hlocks := B.notSynchronized
  clear B
  subst hav
  subst hsz
  have hD := hD.self (sz := s.heap.size)
  generalize hAe : va_A (([(x, .inr (3, [.ref (B 0), .ref (F 0), .ref (G 0)]))] : va_W) ++ ((wB cA B b) ++ ((wF cA F a c q) ++ (wF cA G a2 c2 q2)))) s.heap.size = A at hD ⊢
  have hA : ∀ q : Nat, s.heap.size ≤ q → A q := fun q h => by rw [← hAe]; exact Or.inr h
  have hS : va_S A s.heap s.heap [] := va_S.rf
  obtain ⟨QQ, hQQ⟩ : ∃ qq9, qq9 = MQ below (va_Qi (fun (r : Int32) (u : FSt × (Nat → Int32) × (Nat → Int32)) => r = nI (comesA b a f l)) (fun (u : FSt × (Nat → Int32) × (Nat → Int32)) t => va_P D vwCl (([(x, .inr (3, [.ref (B 0), .ref (F 0), .ref (G 0)]))] : va_W) ++ ((wB cA B b) ++ ((wF cA F a c q) ++ (wF cA G u.1 u.2.1 u.2.2)))) t.heap) A) ([.ref x, .int (nI f), .int (nI l)] : List Value).toArray s 0 0 A := ⟨_, rfl⟩
  rw [← hQQ]
  have hl := lv_entry ([.ref x, .int (nI f), .int (nI l)]) (n := 5) (Nat.le_of_ble_eq_true rfl)
  rw [lg_entry_eq]
  generalize (lg_sl ([.ref x, .int (nI f), .int (nI l)]) ++ List.replicate (5 - (lg_sl ([.ref x, .int (nI f), .int (nI l)])).length) Slot.unset).toArray = ls at hl ⊢
  have hl : lv_has ls 5 [(0, .ref x), (1, .int (nI f)), (2, .int (nI l))] := hl
  have kf23 := hts (.fieldLink RX3 23 "LanternWeirs" "dream" "LLanternWeirs$Fleet;") (by decide +kernel)
  have inX3 : ∀ w ∈ u_ws RX3 TX3 3, w ∈ wsX3_minutesToNet := by decide +kernel
  have kf19 := hts (.fieldLink RX3 19 "LanternWeirs" "fleet" "LLanternWeirs$Fleet;") (by decide +kernel)
  have kf10 := hts (.fieldLink RX3 10 "LanternWeirs" "bed" "LLanternWeirs$Bed;") (by decide +kernel)
  have kf203 := hts (.fieldLink RX3 203 "LanternWeirs$Fleet" "states" "LLanternWeirs$Row;") (by decide +kernel)
  have inX1 : ∀ w ∈ u_ws RX1 TX1 13, w ∈ wsX3_minutesToNet := by decide +kernel
  obtain ⟨H, locs, hP, hS, hgo⟩ : ∃ H locs, va_P D vwCl (([(x, .inr (3, [.ref (B 0), .ref (F 0), .ref (G 0)]))] : va_W) ++ ((wB cA B b) ++ ((wF cA F a c q) ++ (wF cA G a2 c2 q2)))) H ∧ va_S A s.heap H locs ∧ (H = s.heap ∧ locs = []) := ⟨_, _, hP, hS, rfl, rfl⟩
  obtain ⟨hg1, hg2⟩ := hgo
  have hgoal : W pg lch ev (headSpec wsX3_minutesToNet ({ frames := 5, cells := 0, slots := 0, locals := 119 })).room s mi ([.ref x, .int (nI f), .int (nI l)] : List Value).toArray below meth cd H locs 0 0 QQ (F0 mi 0 ls []) := by
    have hn := hw1.1
    refine lv_aload_n hx hb dX3_minutesToNet_0 rfl (lv_at hl 0 rfl) ?_
    refine va_get (D := D) (ci := 3) (v := .ref (G 0)) (C := RX3) (T := TX3) (N := 3) hx hb hts inX3 hown hE.1 hP 0 rfl rfl 2 (by decide) kf23 (fun _ h9 => h9) rfl dX3_minutesToNet_1 ?_
    refine lv_aload_n hx hb dX3_minutesToNet_4 rfl (lv_at hl 0 rfl) ?_
    refine va_get (D := D) (ci := 3) (v := .ref (F 0)) (C := RX3) (T := TX3) (N := 3) hx hb hts inX3 hown hE.1 hP 0 rfl rfl 1 (by decide) kf19 (fun _ h9 => h9) rfl dX3_minutesToNet_5 ?_
    refine cVv (wB := fun (u_2 : Unit) => ((wF cA G a c q2) ++ (wF cA F a c q))) (As := [.ref (F 0)]) (rest := []) (wc := ((wF cA G a2 c2 q2) ++ (wF cA F a c q))) ⟨hx, hb, hml, hown, hts⟩ (K_X1_copy lch D cA G F a2 c2 q2 a c q H.size ) (cwV 1 hts gX3_minutesToNet_X1_copy rfl rfl rfl (by decide +kernel) ⟨Nat.le_of_ble_eq_true rfl, Nat.le_of_ble_eq_true rfl⟩) hE hP hD hS hA [31, 32, 33, 34, 35, 36, 37, 38, 39, 40, 41, 42, 43, 44, 45, 46, 47, 48, 49, 50, 51, 52, 53, 8, 9, 10, 11, 12, 13, 14, 15, 16, 17, 18, 19, 20, 21, 22, 23, 24, 25, 26, 27, 28, 29, 30] rfl rfl [G 0, G 1, G 2, G 3, G 4, G 5, G 6, G 7, G 8, G 9, G 10, G 11, G 12, G 13, G 14, G 15, G 16, G 17, G 18, G 19, G 20, G 21, G 22, F 0, F 1, F 2, F 3, F 4, F 5, F 6, F 7, F 8, F 9, F 10, F 11, F 12, F 13, F 14, F 15, F 16, F 17, F 18, F 19, F 20, F 21, F 22] (fun _ => rfl) rfl (fun (u_2 : Unit) => (([(x, .inr (3, [.ref (B 0), .ref (F 0), .ref (G 0)]))] : va_W) ++ ((wB cA B b) ++ ((wF cA F a c q) ++ (wF cA G a c q2))))) (fun u_2 => ((pst_app 23 (ps1 := [31, 32, 33, 34, 35, 36, 37, 38, 39, 40, 41, 42, 43, 44, 45, 46, 47, 48, 49, 50, 51, 52, 53]) (ps2 := [8, 9, 10, 11, 12, 13, 14, 15, 16, 17, 18, 19, 20, 21, 22, 23, 24, 25, 26, 27, 28, 29, 30]) (w1 := (wF cA G a c q2)) (w2 := (wF cA F a c q)) rfl rfl rfl).trans ((congrArg (fun z => pst z [8, 9, 10, 11, 12, 13, 14, 15, 16, 17, 18, 19, 20, 21, 22, 23, 24, 25, 26, 27, 28, 29, 30] (wF cA F a c q)) (pst_blk (([(x, .inr (3, [.ref (B 0), .ref (F 0), .ref (G 0)]))] : va_W) ++ ((wB cA B b) ++ (wF cA F a c q))) [] (wc := (wF cA G a2 c2 q2)) (w1 := (wF cA G a c q2)) (w2 := (([(x, .inr (3, [.ref (B 0), .ref (F 0), .ref (G 0)]))] : va_W) ++ ((wB cA B b) ++ ((wF cA F a c q) ++ (wF cA G a c q2))))) 23 31 rfl rfl rfl rfl rfl rfl)).trans (pst_blk (([(x, .inr (3, [.ref (B 0), .ref (F 0), .ref (G 0)]))] : va_W) ++ (wB cA B b)) (wF cA G a c q2) (wc := (wF cA F a c q)) (w1 := (wF cA F a c q)) (w2 := (([(x, .inr (3, [.ref (B 0), .ref (F 0), .ref (G 0)]))] : va_W) ++ ((wB cA B b) ++ ((wF cA F a c q) ++ (wF cA G a c q2))))) 23 8 rfl rfl rfl rfl rfl rfl)))) X0.blind (fun _ _ _ => trivial) 31 1 rfl rfl rfl hl.1 rfl rfl (Nat.le_of_ble_eq_true rfl) dX3_minutesToNet_8 ⟨Nat.zero_le _, Nat.zero_le _⟩ (fun u_2 H locs h_3 hP hD hS => ?_)
    refine lv_aload_n hx hb dX3_minutesToNet_11 rfl (lv_at hl 0 rfl) ?_
    refine va_get (D := D) (ci := 3) (v := .ref (G 0)) (C := RX3) (T := TX3) (N := 3) hx hb hts inX3 hown hE.1 hP 0 rfl rfl 2 (by decide) kf23 (fun _ h9 => h9) rfl dX3_minutesToNet_12 ?_
    refine lv_iload_n hx hb dX3_minutesToNet_15 rfl (lv_at hl 1 rfl) ?_
    refine lv_iconst (v := 0) hx hb dX3_minutesToNet_16 (by decide) ?_
    refine lv_iload_n hx hb dX3_minutesToNet_17 rfl (lv_at hl 2 rfl) ?_
    refine lv_iconst (v := 0) hx hb dX3_minutesToNet_18 (by decide) ?_
    refine cVi (wB := fun (u_5 : Unit) => (wF cA G (addA a f 0 l 0) (cby (addA a f 0 l 0) c (qN a) 1) q2)) (As := [.int (nI f), .int 0, .int (nI l), .int 0]) (rest := []) (wc := (wF cA G a c q2)) ⟨hx, hb, hml, hown, hts⟩ (K_X1_add lch D cA G a c q2 f 0 l 0 H.size (by first | assumption | omega) (by first | assumption | omega) (by first | assumption | omega)) (cwV 4 hts gX3_minutesToNet_X1_add rfl rfl rfl (by decide +kernel) ⟨Nat.le_of_ble_eq_true rfl, Nat.le_of_ble_eq_true rfl⟩) hE hP hD hS hA [31, 32, 33, 34, 35, 36, 37, 38, 39, 40, 41, 42, 43, 44, 45, 46, 47, 48, 49, 50, 51, 52, 53] rfl rfl [G 0, G 1, G 2, G 3, G 4, G 5, G 6, G 7, G 8, G 9, G 10, G 11, G 12, G 13, G 14, G 15, G 16, G 17, G 18, G 19, G 20, G 21, G 22] (fun _ => rfl) rfl (fun (u_5 : Unit) => (([(x, .inr (3, [.ref (B 0), .ref (F 0), .ref (G 0)]))] : va_W) ++ ((wB cA B b) ++ ((wF cA F a c q) ++ (wF cA G (addA a f 0 l 0) (cby (addA a f 0 l 0) c (qN a) 1) q2))))) (fun _ => pst_blk (([(x, .inr (3, [.ref (B 0), .ref (F 0), .ref (G 0)]))] : va_W) ++ ((wB cA B b) ++ (wF cA F a c q))) [] (wc := (wF cA G a c q2)) 23 31 rfl rfl rfl rfl rfl rfl) X0.blind (fun _ _ _ => trivial) 31 1 rfl rfl rfl hl.1 rfl rfl (Nat.le_of_ble_eq_true rfl) dX3_minutesToNet_19 ⟨Nat.zero_le _, Nat.zero_le _⟩ (fun r_4 u_5 H locs h_6 hP hD hS => ?_)
    subst h_6
    refine lv_istore_n (lv' := [(3, .int (nI (qN a))), (0, .ref x), (1, .int (nI f)), (2, .int (nI l))]) hx hb dX3_minutesToNet_22 rfl hl (by decide) rfl (fun ls hl => ?_)
    refine lv_iconst (v := 1) hx hb dX3_minutesToNet_23 (by decide) ?_
    refine lv_istore (lv' := [(4, .int 1), (3, .int (nI (qN a))), (0, .ref x), (1, .int (nI f)), (2, .int (nI l))]) hx hb dX3_minutesToNet_24 hl (by decide) rfl (fun ls hl => ?_)
    have L26 : ∀ (fu26 : Nat) (m : Nat) (d : FSt) (cd2 : Nat → Int32) (qd : Nat → Int32), (m ≤ 61) → (comesF b (qN a) (61 - m) m d = comesA b a f l) → (WFa d) → (CRa d cd2) → (qN a < qN d) → 61 - m < fu26 → ∀ (H : Heap) (locs : List Loc), va_P D vwCl (([(x, .inr (3, [.ref (B 0), .ref (F 0), .ref (G 0)]))] : va_W) ++ ((wB cA B b) ++ ((wF cA F a c q) ++ (wF cA G d cd2 qd)))) H → va_D A (([(x, .inr (3, [.ref (B 0), .ref (F 0), .ref (G 0)]))] : va_W) ++ ((wB cA B b) ++ ((wF cA F a c q) ++ (wF cA G d cd2 qd)))) → va_S A s.heap H locs → ∀ ls : Array Slot, lv_has ls 5 [(4, .int (nI m)), (3, .int (nI (qN a))), (0, .ref x), (1, .int (nI f)), (2, .int (nI l))] → W pg lch ev (headSpec wsX3_minutesToNet ({ frames := 5, cells := 0, slots := 0, locals := 119 })).room s mi ([.ref x, .int (nI f), .int (nI l)] : List Value).toArray below meth cd H locs 0 0 QQ (F0 mi 26 ls []) := by
      intro fu26
      induction fu26 with
      | zero => intro m d cd2 qd hm hrr hwd hcd hkd hms; exact absurd hms (Nat.not_lt_zero _)
      | succ fu26 ih26 =>
        intro m d cd2 qd hm hrr hwd hcd hkd hms26 H locs hP hD hS ls hl
        have hnd := hwd.1
        obtain ⟨w1, w2, w3, w4, w5, w6, w7, w8⟩ := hwd.2 (qN a) hkd
        obtain ⟨k1, k2, k3⟩ := min_keep (b := b) hwd
        refine lv_iload hx hb dX3_minutesToNet_26 (lv_at hl 0 rfl) ?_
        refine lv_bipush (v := 60) hx hb dX3_minutesToNet_28 (by decide) ?_
        refine lv_icmp_gt (tgt := 91) hx hb dX3_minutesToNet_30 (by decide) (fun c30 => ?_) (fun c30 => ?_)
        · skip
          have c30 := (nI_ltI (a := 60) (b := m) (by omega) (by omega)).mp c30
          refine lv_bipush (v := 61) hx hb dX3_minutesToNet_91 (by decide) ?_
          rw [hQQ]
          exact W.iret (v := 61) hx hb hr (fun t ht hW => ⟨⟨61, (d, cd2, qd), rfl, by rw [← hrr, show 61 - m = 0 by omega]; rfl, by show va_P _ _ _ t.heap; rw [ht]; exact hP⟩, hS.F ht⟩) hS.2.2 dX3_minutesToNet_93
        · skip
          have c30 := (not_congr (nI_ltI (a := 60) (b := m) (by omega) (by omega))).mp c30
          refine lv_aload_n hx hb dX3_minutesToNet_33 rfl (lv_at hl 2 rfl) ?_
          refine va_get (D := D) (ci := 3) (v := .ref (G 0)) (C := RX3) (T := TX3) (N := 3) hx hb hts inX3 hown hE.1 hP 0 rfl rfl 2 (by decide) kf23 (fun _ h9 => h9) rfl dX3_minutesToNet_34 ?_
          refine lv_iload_n hx hb dX3_minutesToNet_37 rfl (lv_at hl 1 rfl) ?_
          refine pVi (As := [.int (nI (qN a))]) (rest := []) (wc := (wF cA G d cd2 qd)) ⟨hx, hb, hml, hown, hts⟩ (K_X1_isBurning lch D cA G d cd2 qd (qN a) H.size (by first | assumption | omega) (by first | assumption | omega)) (cwV 1 hts gX3_minutesToNet_X1_isBurning rfl rfl rfl (by decide +kernel) ⟨Nat.le_of_ble_eq_true rfl, Nat.le_of_ble_eq_true rfl⟩) hE hP hD hS hA [31, 32, 33, 34, 35, 36, 37, 38, 39, 40, 41, 42, 43, 44, 45, 46, 47, 48, 49, 50, 51, 52, 53] rfl rfl X0.blind (fun _ _ _ => trivial) 31 1 rfl rfl rfl hl.1 rfl rfl (Nat.le_of_ble_eq_true rfl) dX3_minutesToNet_38 ⟨Nat.zero_le _, Nat.zero_le _⟩ (fun r_7 u_8 H locs h_9 hP hS => ?_)
          subst h_9
          refine lv_if_eq (tgt := 91) hx hb dX3_minutesToNet_41 (by decide) (fun c41 => ?_) (fun c41 => ?_)
          · skip
            have c41 := bi_0.mp c41
            refine lv_bipush (v := 61) hx hb dX3_minutesToNet_91 (by decide) ?_
            rw [hQQ]
            exact W.iret (v := 61) hx hb hr (fun t ht hW => ⟨⟨61, (d, cd2, qd), rfl, by rw [← hrr, comes_out _ _ _ c41]; rfl, by show va_P _ _ _ t.heap; rw [ht]; exact hP⟩, hS.F ht⟩) hS.2.2 dX3_minutesToNet_93
          · skip
            have c41 := bi_1.mp c41
            refine lv_aload_n hx hb dX3_minutesToNet_44 rfl (lv_at hl 2 rfl) ?_
            refine va_get (D := D) (ci := 3) (v := .ref (G 0)) (C := RX3) (T := TX3) (N := 3) hx hb hts inX3 hown hE.1 hP 0 rfl rfl 2 (by decide) kf23 (fun _ h9 => h9) rfl dX3_minutesToNet_45 ?_
            refine lv_iconst (v := 1) hx hb dX3_minutesToNet_48 (by decide) ?_
            refine lv_aload_n hx hb dX3_minutesToNet_49 rfl (lv_at hl 2 rfl) ?_
            refine va_get (D := D) (ci := 3) (v := .ref (B 0)) (C := RX3) (T := TX3) (N := 3) hx hb hts inX3 hown hE.1 hP 0 rfl rfl 0 (by decide) kf10 (fun _ h9 => h9) rfl dX3_minutesToNet_50 ?_
            refine cVv (wB := fun (u9 : (Nat → Int32) × (Nat → Int32)) => ((wF cA G (minsA b 1 d) u9.1 u9.2) ++ (wB cA B b))) (As := [.int 1, .ref (B 0)]) (rest := []) (wc := ((wF cA G d cd2 qd) ++ (wB cA B b))) ⟨hx, hb, hml, hown, hts⟩ (K_X1_passMinutes lch D cA G d cd2 qd B b 1 H.size (hwd) (hwb) (hcd) (by decide)) (cwV 2 hts gX3_minutesToNet_X1_passMinutes rfl rfl rfl (by decide +kernel) ⟨Nat.le_of_ble_eq_true rfl, Nat.le_of_ble_eq_true rfl⟩) hE hP hD hS hA [31, 32, 33, 34, 35, 36, 37, 38, 39, 40, 41, 42, 43, 44, 45, 46, 47, 48, 49, 50, 51, 52, 53, 1, 2, 3, 4, 5, 6, 7] rfl rfl [G 0, G 1, G 2, G 3, G 4, G 5, G 6, G 7, G 8, G 9, G 10, G 11, G 12, G 13, G 14, G 15, G 16, G 17, G 18, G 19, G 20, G 21, G 22, B 0, B 1, B 2, B 3, B 4, B 5, B 6] (fun _ => rfl) rfl (fun (u9 : (Nat → Int32) × (Nat → Int32)) => (([(x, .inr (3, [.ref (B 0), .ref (F 0), .ref (G 0)]))] : va_W) ++ ((wB cA B b) ++ ((wF cA F a c q) ++ (wF cA G (minsA b 1 d) u9.1 u9.2))))) (fun u9 => ((pst_app 23 (ps1 := [31, 32, 33, 34, 35, 36, 37, 38, 39, 40, 41, 42, 43, 44, 45, 46, 47, 48, 49, 50, 51, 52, 53]) (ps2 := [1, 2, 3, 4, 5, 6, 7]) (w1 := (wF cA G (minsA b 1 d) u9.1 u9.2)) (w2 := (wB cA B b)) rfl rfl rfl).trans ((congrArg (fun z => pst z [1, 2, 3, 4, 5, 6, 7] (wB cA B b)) (pst_blk (([(x, .inr (3, [.ref (B 0), .ref (F 0), .ref (G 0)]))] : va_W) ++ ((wB cA B b) ++ (wF cA F a c q))) [] (wc := (wF cA G d cd2 qd)) (w1 := (wF cA G (minsA b 1 d) u9.1 u9.2)) (w2 := (([(x, .inr (3, [.ref (B 0), .ref (F 0), .ref (G 0)]))] : va_W) ++ ((wB cA B b) ++ ((wF cA F a c q) ++ (wF cA G (minsA b 1 d) u9.1 u9.2))))) 23 31 rfl rfl rfl rfl rfl rfl)).trans (pst_blk ([(x, .inr (3, [.ref (B 0), .ref (F 0), .ref (G 0)]))] : va_W) ((wF cA F a c q) ++ (wF cA G (minsA b 1 d) u9.1 u9.2)) (wc := (wB cA B b)) (w1 := (wB cA B b)) (w2 := (([(x, .inr (3, [.ref (B 0), .ref (F 0), .ref (G 0)]))] : va_W) ++ ((wB cA B b) ++ ((wF cA F a c q) ++ (wF cA G (minsA b 1 d) u9.1 u9.2))))) 7 1 rfl rfl rfl rfl rfl rfl)))) X0.blind (fun _ _ _ => trivial) 31 1 rfl rfl rfl hl.1 rfl rfl (Nat.le_of_ble_eq_true rfl) dX3_minutesToNet_53 ⟨Nat.zero_le _, Nat.zero_le _⟩ (fun u9 H locs h9 hP hD hS => ?_)
            have kd : qN a < qN (minA b d) := by rw [k2]; exact hkd
            have kn := k1.1
            obtain ⟨v1, v2, v3, v4, v5, v6, v7, v8⟩ := k1.2 (qN a) kd
            have h9 : CRa (minA b d) u9.1 := h9
            have hP : va_P D vwCl (([(x, .inr (3, [.ref (B 0), .ref (F 0), .ref (G 0)]))] : va_W) ++ ((wB cA B b) ++ ((wF cA F a c q) ++ (wF cA G (minA b d) u9.1 u9.2)))) H := hP
            have hD : va_D A (([(x, .inr (3, [.ref (B 0), .ref (F 0), .ref (G 0)]))] : va_W) ++ ((wB cA B b) ++ ((wF cA F a c q) ++ (wF cA G (minA b d) u9.1 u9.2)))) := hD
            skip
            refine lv_aload_n hx hb dX3_minutesToNet_56 rfl (lv_at hl 2 rfl) ?_
            refine va_get (D := D) (ci := 3) (v := .ref (G 0)) (C := RX3) (T := TX3) (N := 3) hx hb hts inX3 hown hE.1 hP 0 rfl rfl 2 (by decide) kf23 (fun _ h9 => h9) rfl dX3_minutesToNet_57 ?_
            refine lv_iload_n hx hb dX3_minutesToNet_60 rfl (lv_at hl 1 rfl) ?_
            refine pVi (As := [.int (nI (qN a))]) (rest := []) (wc := (wF cA G (minA b d) u9.1 u9.2)) ⟨hx, hb, hml, hown, hts⟩ (K_X1_isBurning lch D cA G (minA b d) u9.1 u9.2 (qN a) H.size (by first | assumption | omega) (by first | assumption | omega)) (cwV 1 hts gX3_minutesToNet_X1_isBurning rfl rfl rfl (by decide +kernel) ⟨Nat.le_of_ble_eq_true rfl, Nat.le_of_ble_eq_true rfl⟩) hE hP hD hS hA [31, 32, 33, 34, 35, 36, 37, 38, 39, 40, 41, 42, 43, 44, 45, 46, 47, 48, 49, 50, 51, 52, 53] rfl rfl X0.blind (fun _ _ _ => trivial) 31 1 rfl rfl rfl hl.1 rfl rfl (Nat.le_of_ble_eq_true rfl) dX3_minutesToNet_61 ⟨Nat.zero_le _, Nat.zero_le _⟩ (fun r_12 u_13 H locs h_14 hP hS => ?_)
            subst h_14
            refine lv_if_eq (tgt := 85) hx hb dX3_minutesToNet_64 (by decide) (fun c64 => ?_) (fun c64 => ?_)
            · skip
              have c64 := bi_0.mp c64
              refine lv_iinc (v := nI (m + 1)) (lv' := [(4, .int (nI (m + 1))), (3, .int (nI (qN a))), (0, .ref x), (1, .int (nI f)), (2, .int (nI l))]) hx hb dX3_minutesToNet_85 hl (k := 0) rfl (nI_add m 1) (by decide) rfl (fun ls hl => ?_)
              refine lv_goto (tgt := 26) hx hb dX3_minutesToNet_88 (by decide) ?_
              have hcg := comes_go (b := b) (k := qN a) (f := 61 - (m + 1)) (m := m) (a := d) (fun q => absurd q.2 (by rw [c64]; decide))
              rw [show 61 - (m + 1) + 1 = 61 - m by omega, hrr] at hcg
              exact ih26 (m + 1) (minA b d) u9.1 u9.2 (by omega) (hcg.symm) (k1) (h9) (by rw [k2]; exact hkd) (by omega) H locs hP hD hS ls (lv_sub hl [0, 1, 2, 3, 4] rfl)
            · skip
              have c64 := bi_1.mp c64
              refine lv_aload_n hx hb dX3_minutesToNet_67 rfl (lv_at hl 2 rfl) ?_
              refine va_get (D := D) (ci := 3) (v := .ref (G 0)) (C := RX3) (T := TX3) (N := 3) hx hb hts inX3 hown hE.1 hP 0 rfl rfl 2 (by decide) kf23 (fun _ h9 => h9) rfl dX3_minutesToNet_68 ?_
              refine va_get (D := D) (ci := 1) (v := .ref (G 8)) (C := RX1) (T := TX1) (N := 13) hx hb hts inX1 hown hE.1 hP 31 rfl rfl 7 (by decide) kf203 (fun _ h9 => h9) rfl dX3_minutesToNet_71 ?_
              refine lv_iload_n hx hb dX3_minutesToNet_74 rfl (lv_at hl 1 rfl) ?_
              refine pVi (As := [.int (nI (qN a))]) (rest := []) (wc := (wR cA (G 8) (G 19) 41 (fun z9 => nI (qSt (minA b d) z9)))) ⟨hx, hb, hml, hown, hts⟩ (K_X2_getk lch D cA (G 8) (G 19) 41 (fun z9 => nI (qSt (minA b d) z9)) (qN a) (nI (qSt (minA b d) (qN a))) H.size (by omega) (Nat.le_of_ble_eq_true rfl) (rfl)) (cwV 1 hts gX3_minutesToNet_X2_get rfl rfl rfl (by decide +kernel) ⟨Nat.le_of_ble_eq_true rfl, Nat.le_of_ble_eq_true rfl⟩) hE hP hD hS hA [39, 50] rfl rfl X0.blind (fun _ _ _ => trivial) 39 2 rfl rfl rfl hl.1 rfl rfl (Nat.le_of_ble_eq_true rfl) dX3_minutesToNet_75 ⟨Nat.zero_le _, Nat.zero_le _⟩ (fun r_15 u_16 H locs h_17 hP hS => ?_)
              subst h_17
              refine lv_iconst (v := 1) hx hb dX3_minutesToNet_78 (by decide) ?_
              refine lv_icmp_ne (tgt := 85) hx hb dX3_minutesToNet_79 (by decide) (fun c79 => ?_) (fun c79 => ?_)
              · skip
                have c79 := (not_congr (nI_eq (a := qSt (minA b d) (qN a)) (b := 1) (by omega) (by omega))).mp c79
                refine lv_iinc (v := nI (m + 1)) (lv' := [(4, .int (nI (m + 1))), (3, .int (nI (qN a))), (0, .ref x), (1, .int (nI f)), (2, .int (nI l))]) hx hb dX3_minutesToNet_85 hl (k := 0) rfl (nI_add m 1) (by decide) rfl (fun ls hl => ?_)
                refine lv_goto (tgt := 26) hx hb dX3_minutesToNet_88 (by decide) ?_
                have hcg := comes_go (b := b) (k := qN a) (f := 61 - (m + 1)) (m := m) (a := d) (fun q => c79 q.1)
                rw [show 61 - (m + 1) + 1 = 61 - m by omega, hrr] at hcg
                exact ih26 (m + 1) (minA b d) u9.1 u9.2 (by omega) (hcg.symm) (k1) (h9) (by rw [k2]; exact hkd) (by omega) H locs hP hD hS ls (lv_sub hl [0, 1, 2, 3, 4] rfl)
              · skip
                have c79 := (nI_eq (a := qSt (minA b d) (qN a)) (b := 1) (by omega) (by omega)).mp c79
                refine lv_iload hx hb dX3_minutesToNet_82 (lv_at hl 0 rfl) ?_
                rw [hQQ]
                exact W.iret (v := nI m) hx hb hr (fun t ht hW => ⟨⟨nI m, (minA b d, u9.1, u9.2), rfl, by rw [← hrr, show 61 - m = (60 - m) + 1 by omega, comes_at c64 c79], by show va_P _ _ _ t.heap; rw [ht]; exact hP⟩, hS.F ht⟩) hS.2.2 dX3_minutesToNet_84
    exact L26 62 1 (addA a f 0 l 0) (cby (addA a f 0 l 0) c (qN a) 1) q2 (by decide) (rfl) (WFa_add hw1 hn40 hf hl3 (by decide)) (CRa_add hcr hf hl3) (Nat.lt_succ_self _) (by omega) H locs hP hD hS ls (lv_sub hl [0, 1, 2, 3, 4] rfl)
  rw [hg1, hg2] at hgoal
  exact hgoal
