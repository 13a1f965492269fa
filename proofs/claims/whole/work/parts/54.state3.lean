set_option maxHeartbeats 4000000 in
set_option maxRecDepth 100000 in
/-- pass, of a lantern -/
theorem K_X4_pass (lch : Launch) (D : va_G) (cA : ClassId) (S : Nat → Nat) (y : Nat) (a : FSt) (q : Nat → Int32) (E : Nat → Nat) (s1 : Nat) (s2 : Nat) (th : Int32) (b : BSt) (z1 : Nat) (z2 : Nat) (i : Nat) (sz : Nat) (hi : i < qN a) (hw1 : WFa a) (h60 : qPl a i < 60) : Met lch yX4_pass wsX4_pass ({ frames := 1, cells := 0, slots := 0, locals := 25 }) (Pr D cA [.ref (S 0), .int (nI i)] sz ((wM cA y E s1 s2 th b) ++ (wS cA S y a q)) (SX z1 z2 (va_A ((wM cA y E s1 s2 th b) ++ (wS cA S y a q)) sz))) (va_Qv (fun (u : Unit) => True) (fun (u : Unit) t => va_P D vwCl ((wM cA y E s1 s2 th b) ++ (wS cA S y (netA b (weirA b a i) i) q)) t.heap) (va_A ((wM cA y E s1 s2 th b) ++ (wS cA S y a q)) sz)) 0 0 (va_A ((wM cA y E s1 s2 th b) ++ (wS cA S y a q)) sz) := by
  refine Met.ofW (cc := cX4_pass) (maxL := 4) (ret := none) (by decide) rfl ?_
  intro pg ev s mi args below meth cd s₁ B hml hv
  obtain ⟨hav, hsz, hP, hE, hD, hXs⟩ := hv
  have hx := B.exec
  have hb := B.bytes
  have hr := B.returns
  have hts := atoms_spec (ws := wsX4_pass) B.pre
  have hown : s.vm.findClass RX4 = some mi.cls := findClass_of_methodNamed B.named
  have hlocks := B.notSynchronized
  clear B
  subst hav
  subst hsz
  have hD := hD.self (sz := s.heap.size)
  generalize hAe : va_A ((wM cA y E s1 s2 th b) ++ (wS cA S y a q)) s.heap.size = A at hD hXs ⊢
  have hA : ∀ q : Nat, s.heap.size ≤ q → A q := fun q h => by rw [← hAe]; exact Or.inr h
  have hS : va_S A s.heap s.heap [] := va_S.rf
  obtain ⟨QQ, hQQ⟩ : ∃ qq9, qq9 = MQ below (va_Qv (fun (u : Unit) => True) (fun (u : Unit) t => va_P D vwCl ((wM cA y E s1 s2 th b) ++ (wS cA S y (netA b (weirA b a i) i) q)) t.heap) A) ([.ref (S 0), .int (nI i)] : List Value).toArray s 0 0 A := ⟨_, rfl⟩
  rw [← hQQ]
  have hl := lv_entry ([.ref (S 0), .int (nI i)]) (n := 4) (Nat.le_of_ble_eq_true rfl)
  rw [lg_entry_eq]
  generalize (lg_sl ([.ref (S 0), .int (nI i)]) ++ List.replicate (4 - (lg_sl ([.ref (S 0), .int (nI i)])).length) Slot.unset).toArray = ls at hl ⊢
  have hl : lv_has ls 4 [(0, .ref (S 0)), (1, .int (nI i))] := hl
  have kf3 := hts (.fieldLink RX4 3 "LanternWeirsModel$State" "this$0" "LLanternWeirsModel;") (by decide +kernel)
  have inX4 : ∀ w ∈ u_ws RX4 TX4 13, w ∈ wsX4_pass := by decide +kernel
  have kf88 := va_Nw.use (A := ([.ref (S 0), .int (nI i)] : List Value).toArray) rfl (hE.2.2 (.fieldLinkNest "LanternWeirsModel$State" 88 "LanternWeirsModel" "spray" "[I" "LanternWeirsModel") (by decide +kernel))
  have inX5 : ∀ w ∈ u_ws RX5 TX5 8, w ∈ wsX4_pass := by decide +kernel
  have kf25 := hts (.fieldLink RX4 25 "LanternWeirsModel$State" "place" "[I") (by decide +kernel)
  have kf104 := va_Nw.use (A := ([.ref (S 0), .int (nI i)] : List Value).toArray) rfl (hE.2.2 (.fieldLinkNest "LanternWeirsModel$State" 104 "LanternWeirsModel" "net" "[I" "LanternWeirsModel") (by decide +kernel))
  have kf22 := hts (.fieldLink RX4 22 "LanternWeirsModel$State" "lane" "[I") (by decide +kernel)
  have kf31 := hts (.fieldLink RX4 31 "LanternWeirsModel$State" "wet" "[I") (by decide +kernel)
  have kw8 := hts (.methodLink RX4 95 Lib.Math.max.name) (by decide +kernel)
  have kw9 := hts (.static Lib.Math.max.name) (by decide +kernel)
  have kw10 := hts (.initialized "java/lang/Math") (by decide +kernel)
  have kw11 := hts (.code Lib.Math.max.name Lib.Math.max.code 2 (some .int)) (by decide +kernel)
  have kf34 := hts (.fieldLink RX4 34 "LanternWeirsModel$State" "burns" "[I") (by decide +kernel)
  obtain ⟨H, locs, hP, hS, hgo⟩ : ∃ H locs, va_P D vwCl ((wM cA y E s1 s2 th b) ++ (wS cA S y a q)) H ∧ va_S A s.heap H locs ∧ (H = s.heap ∧ locs = []) := ⟨_, _, hP, hS, rfl, rfl⟩
  obtain ⟨hg1, hg2⟩ := hgo
  have hgoal : W pg lch ev (headSpec wsX4_pass ({ frames := 1, cells := 0, slots := 0, locals := 25 })).room s mi ([.ref (S 0), .int (nI i)] : List Value).toArray below meth cd H locs 0 0 QQ (F0 mi 0 ls []) := by
    have hn := hw1.1
    obtain ⟨w1, w2, w3, w4, w5, w6, w7, w8⟩ := hw1.2 i hi
    refine lv_aload_n hx hb dX4_pass_0 rfl (lv_at hl 0 rfl) ?_
    refine va_get (D := D) (ci := 4) (v := .ref y) (C := RX4) (T := TX4) (N := 13) hx hb hts inX4 hown hE.1 hP 4 rfl rfl 12 (by decide) kf3 (fun _ h9 => h9) rfl dX4_pass_1 ?_
    refine va_getN (D := D) (ci := 5) (v := .ref (E 1)) (C := RX5) (T := TX5) (N := 8) hx hb hts inX5 hown hE.1 hP 0 rfl rfl 3 (by decide) kf88 (fun _ h9 => h9) rfl dX4_pass_4 ?_
    refine lv_aload_n hx hb dX4_pass_7 rfl (lv_at hl 0 rfl) ?_
    refine va_get (D := D) (ci := 4) (v := .ref (S 4)) (C := RX4) (T := TX4) (N := 13) hx hb hts inX4 hown hE.1 hP 4 rfl rfl 5 (by decide) kf25 (fun _ h9 => h9) rfl dX4_pass_8 ?_
    refine lv_iload_n hx hb dX4_pass_11 rfl (lv_at hl 1 rfl) ?_
    refine ald hx hb hE hP 8 rfl (k := i) (by omega) (Nat.le_of_ble_eq_true rfl) (v := nI (qPl a i)) rfl dX4_pass_12 ?_
    refine ald hx hb hE hP 2 rfl (k := qPl a i) (by omega) (Nat.le_of_ble_eq_true rfl) (v := bSp b (qPl a i)) rfl dX4_pass_13 ?_
    refine lv_if_le (tgt := 98) hx hb dX4_pass_14 (by decide) (fun c14 => ?_) (fun c14 => ?_)
    · skip
      have e9 : weirA b a i = a := if_neg (nlt0.mp c14)
      have hP : va_P D vwCl ((wM cA y E s1 s2 th b) ++ (wS cA S y (weirA b a i) q)) H := by rw [e9]; exact hP
      have hD : va_D A ((wM cA y E s1 s2 th b) ++ (wS cA S y (weirA b a i) q)) := by rw [e9]; exact hD
      obtain ⟨m1, m2, m3, m4, m5, m6, m7⟩ := met_same (bSp b (qPl a i)) a i
      rw [met_weir] at m1 m2 m3 m4 m5 m6 m7
      have x3 : qLa (weirA b a i) i = qLa a i := by rw [m3]
      have x4 : qPl (weirA b a i) i = qPl a i := by rw [m4]
      refine lv_aload_n hx hb dX4_pass_98 rfl (lv_at hl 0 rfl) ?_
      refine va_get (D := D) (ci := 4) (v := .ref y) (C := RX4) (T := TX4) (N := 13) hx hb hts inX4 hown hE.1 hP 4 rfl rfl 12 (by decide) kf3 (fun _ h9 => h9) rfl dX4_pass_99 ?_
      refine va_getN (D := D) (ci := 5) (v := .ref (E 2)) (C := RX5) (T := TX5) (N := 8) hx hb hts inX5 hown hE.1 hP 0 rfl rfl 5 (by decide) kf104 (fun _ h9 => h9) rfl dX4_pass_102 ?_
      refine lv_bipush (v := 60) hx hb dX4_pass_105 (by decide) ?_
      refine lv_aload_n hx hb dX4_pass_107 rfl (lv_at hl 0 rfl) ?_
      refine va_get (D := D) (ci := 4) (v := .ref (S 3)) (C := RX4) (T := TX4) (N := 13) hx hb hts inX4 hown hE.1 hP 4 rfl rfl 4 (by decide) kf22 (fun _ h9 => h9) rfl dX4_pass_108 ?_
      refine lv_iload_n hx hb dX4_pass_111 rfl (lv_at hl 1 rfl) ?_
      refine ald hx hb hE hP 7 rfl (k := i) (by omega) (Nat.le_of_ble_eq_true rfl) (v := nI (qLa (weirA b a i) i)) rfl dX4_pass_112 ?_
      refine lv_imul hx hb dX4_pass_113 ?_
      refine top_i (y := nI (60 * (qLa (weirA b a i) i))) (pk_mul _ _) ?_
      refine lv_aload_n hx hb dX4_pass_114 rfl (lv_at hl 0 rfl) ?_
      refine va_get (D := D) (ci := 4) (v := .ref (S 4)) (C := RX4) (T := TX4) (N := 13) hx hb hts inX4 hown hE.1 hP 4 rfl rfl 5 (by decide) kf25 (fun _ h9 => h9) rfl dX4_pass_115 ?_
      refine lv_iload_n hx hb dX4_pass_118 rfl (lv_at hl 1 rfl) ?_
      refine ald hx hb hE hP 8 rfl (k := i) (by omega) (Nat.le_of_ble_eq_true rfl) (v := nI (qPl (weirA b a i) i)) rfl dX4_pass_119 ?_
      refine lv_iadd hx hb dX4_pass_120 ?_
      refine top_i (y := nI ((60 * (qLa (weirA b a i) i)) + (qPl (weirA b a i) i))) (nI_add _ _) ?_
      refine ald hx hb hE hP 3 rfl (k := (60 * (qLa (weirA b a i) i)) + (qPl (weirA b a i) i)) (by omega) (Nat.le_of_ble_eq_true rfl) (v := bi (bNe b ((60 * (qLa (weirA b a i) i)) + (qPl (weirA b a i) i)))) rfl dX4_pass_121 ?_
      refine lv_iconst (v := 1) hx hb dX4_pass_122 (by decide) ?_
      refine lv_icmp_ne (tgt := 132) hx hb dX4_pass_123 (by decide) (fun c123 => ?_) (fun c123 => ?_)
      · skip
        have c123 := bi_f.mp c123
        have e9 : netA b (weirA b a i) i = weirA b a i := by unfold netA; rw [Nat.mul_comm, c123]; rfl
        have hP : va_P D vwCl ((wM cA y E s1 s2 th b) ++ (wS cA S y (netA b (weirA b a i) i) q)) H := by rw [e9]; exact hP
        have hD : va_D A ((wM cA y E s1 s2 th b) ++ (wS cA S y (netA b (weirA b a i) i) q)) := by rw [e9]; exact hD
        rw [hQQ]
        exact W.vret hx hb hr (fun t ht hW => ⟨⟨(), rfl, trivial, by show va_P _ _ _ t.heap; rw [ht]; exact hP⟩, hS.F ht⟩) hS.2.2 dX4_pass_132
      · skip
        have c123 := bi_t.mp c123
        refine lv_aload_n hx hb dX4_pass_126 rfl (lv_at hl 0 rfl) ?_
        refine lv_iload_n hx hb dX4_pass_127 rfl (lv_at hl 1 rfl) ?_
        refine lv_iconst (v := 1) hx hb dX4_pass_128 (by decide) ?_
        refine cVv (wB := fun (u_2 : Unit) => (wS cA S y (endA (weirA b a i) i 1) q)) (As := [.int (nI i), .int 1]) (rest := []) (wc := (wS cA S y (weirA b a i) q)) ⟨hx, hb, hml, hown, hts⟩ (K_X4_end lch D cA S y (weirA b a i) q i 1 H.size (by omega)) (cwV 2 hts gX4_pass_X4_end rfl rfl rfl (by decide +kernel) ⟨Nat.le_of_ble_eq_true rfl, Nat.le_of_ble_eq_true rfl⟩) hE hP hD hS hA [4, 5, 6, 7, 8, 9, 10, 11, 12, 13, 14] rfl rfl [S 0, S 1, S 2, S 3, S 4, S 5, S 6, S 7, S 8, S 9, S 10] (fun _ => rfl) rfl (fun (u_2 : Unit) => ((wM cA y E s1 s2 th b) ++ (wS cA S y (endA (weirA b a i) i 1) q))) (fun _ => pst_blk (wM cA y E s1 s2 th b) [] (wc := (wS cA S y (weirA b a i) q)) 11 4 rfl rfl rfl rfl rfl rfl) X0.blind (fun _ _ _ => trivial) 4 4 rfl rfl rfl hl.1 rfl rfl (Nat.le_of_ble_eq_true rfl) dX4_pass_129 ⟨Nat.zero_le _, Nat.zero_le _⟩ (fun u_2 H locs h_3 hP hD hS => ?_)
        have e9 : netA b (weirA b a i) i = endA (weirA b a i) i 1 := by unfold netA; rw [Nat.mul_comm, if_pos c123]
        have hP : va_P D vwCl ((wM cA y E s1 s2 th b) ++ (wS cA S y (netA b (weirA b a i) i) q)) H := by rw [e9]; exact hP
        have hD : va_D A ((wM cA y E s1 s2 th b) ++ (wS cA S y (netA b (weirA b a i) i) q)) := by rw [e9]; exact hD
        rw [hQQ]
        exact W.vret hx hb hr (fun t ht hW => ⟨⟨(), rfl, trivial, by show va_P _ _ _ t.heap; rw [ht]; exact hP⟩, hS.F ht⟩) hS.2.2 dX4_pass_132
    · skip
      have hpos : 0 < bSp b (qPl a i) := (nle_iff _ _).mp c14
      refine lv_iconst (v := 0) hx hb dX4_pass_17 (by decide) ?_
      refine lv_istore_n (lv' := [(2, .int 0), (0, .ref (S 0)), (1, .int (nI i))]) hx hb dX4_pass_18 rfl hl (by decide) rfl (fun ls hl => ?_)
      refine lv_iconst (v := 1) hx hb dX4_pass_19 (by decide) ?_
      refine lv_istore_n (lv' := [(3, .int 1), (2, .int 0), (0, .ref (S 0)), (1, .int (nI i))]) hx hb dX4_pass_20 rfl hl (by decide) rfl (fun ls hl => ?_)
      refine lv_iload_n hx hb dX4_pass_21 rfl (lv_at hl 0 rfl) ?_
      refine lv_iconst (v := 3) hx hb dX4_pass_22 (by decide) ?_
      refine lv_icmp_gt (tgt := 54) hx hb dX4_pass_23 (by decide) (fun c23 => ?_) (fun c23 => ?_)
      · skip
        exfalso; revert c23; decide
      · skip
        have c23 := (not_congr (nI_ltI (a := 3) (b := 1) (by omega) (by omega))).mp c23
        refine lv_iload_n hx hb dX4_pass_26 rfl (lv_at hl 1 rfl) ?_
        refine lv_aload_n hx hb dX4_pass_27 rfl (lv_at hl 2 rfl) ?_
        refine lv_aload_n hx hb dX4_pass_28 rfl (lv_at hl 2 rfl) ?_
        refine va_get (D := D) (ci := 4) (v := .ref (S 3)) (C := RX4) (T := TX4) (N := 13) hx hb hts inX4 hown hE.1 hP 4 rfl rfl 4 (by decide) kf22 (fun _ h9 => h9) rfl dX4_pass_29 ?_
        refine lv_iload_n hx hb dX4_pass_32 rfl (lv_at hl 3 rfl) ?_
        refine ald hx hb hE hP 7 rfl (k := i) (by omega) (Nat.le_of_ble_eq_true rfl) (v := nI (qLa a i)) rfl dX4_pass_33 ?_
        refine lv_aload_n hx hb dX4_pass_34 rfl (lv_at hl 2 rfl) ?_
        refine va_get (D := D) (ci := 4) (v := .ref (S 4)) (C := RX4) (T := TX4) (N := 13) hx hb hts inX4 hown hE.1 hP 4 rfl rfl 5 (by decide) kf25 (fun _ h9 => h9) rfl dX4_pass_35 ?_
        refine lv_iload_n hx hb dX4_pass_38 rfl (lv_at hl 3 rfl) ?_
        refine ald hx hb hE hP 8 rfl (k := i) (by omega) (Nat.le_of_ble_eq_true rfl) (v := nI (qPl a i)) rfl dX4_pass_39 ?_
        refine lv_iload_n hx hb dX4_pass_40 rfl (lv_at hl 0 rfl) ?_
        refine lv_iadd hx hb dX4_pass_41 ?_
        refine top_i (y := nI ((qPl a i) + 1)) (nI_add _ _) ?_
        refine lv_iconst (v := 0) hx hb dX4_pass_42 (by decide) ?_
        refine pVi (As := [.int (nI (qLa a i)), .int (nI ((qPl a i) + 1)), .int 0]) (rest := [.int 0]) (wc := (wS cA S y a q)) ⟨hx, hb, hml, hown, hts⟩ (K_X4_at lch D cA S y a q (qLa a i) ((qPl a i) + 1) 0 H.size (by first | assumption | omega) (w2) (by omega) (by decide)) (cwV 3 hts gX4_pass_X4_at rfl rfl rfl (by decide +kernel) ⟨Nat.le_of_ble_eq_true rfl, Nat.le_of_ble_eq_true rfl⟩) hE hP hD hS hA [4, 5, 6, 7, 8, 9, 10, 11, 12, 13, 14] rfl rfl X0.blind (fun _ _ _ => trivial) 4 4 rfl rfl rfl hl.1 rfl rfl (Nat.le_of_ble_eq_true rfl) dX4_pass_43 ⟨Nat.zero_le _, Nat.zero_le _⟩ (fun r_4 u_5 H locs h_6 hP hS => ?_)
        subst h_6
        refine lv_iadd hx hb dX4_pass_46 ?_
        refine top_i (y := nI (0 + (atA a (qLa a i) ((qPl a i) + 1) 0))) (nI_add _ _) ?_
        refine lv_istore_n (lv' := [(2, .int (nI (0 + (atA a (qLa a i) ((qPl a i) + 1) 0)))), (3, .int 1), (0, .ref (S 0)), (1, .int (nI i))]) hx hb dX4_pass_47 rfl hl (by decide) rfl (fun ls hl => ?_)
        refine lv_iinc (v := 2) (lv' := [(3, .int 2), (2, .int (nI (0 + (atA a (qLa a i) ((qPl a i) + 1) 0)))), (0, .ref (S 0)), (1, .int (nI i))]) hx hb dX4_pass_48 hl (k := 1) rfl (by decide) (by decide) rfl (fun ls hl => ?_)
        refine lv_goto (tgt := 21) hx hb dX4_pass_51 (by decide) ?_
        refine lv_iload_n hx hb dX4_pass_21 rfl (lv_at hl 0 rfl) ?_
        refine lv_iconst (v := 3) hx hb dX4_pass_22 (by decide) ?_
        refine lv_icmp_gt (tgt := 54) hx hb dX4_pass_23 (by decide) (fun c23_1 => ?_) (fun c23_1 => ?_)
        · skip
          exfalso; revert c23_1; decide
        · skip
          have c23_1 := (not_congr (nI_ltI (a := 3) (b := 2) (by omega) (by omega))).mp c23_1
          refine lv_iload_n hx hb dX4_pass_26 rfl (lv_at hl 1 rfl) ?_
          refine lv_aload_n hx hb dX4_pass_27 rfl (lv_at hl 2 rfl) ?_
          refine lv_aload_n hx hb dX4_pass_28 rfl (lv_at hl 2 rfl) ?_
          refine va_get (D := D) (ci := 4) (v := .ref (S 3)) (C := RX4) (T := TX4) (N := 13) hx hb hts inX4 hown hE.1 hP 4 rfl rfl 4 (by decide) kf22 (fun _ h9 => h9) rfl dX4_pass_29 ?_
          refine lv_iload_n hx hb dX4_pass_32 rfl (lv_at hl 3 rfl) ?_
          refine ald hx hb hE hP 7 rfl (k := i) (by omega) (Nat.le_of_ble_eq_true rfl) (v := nI (qLa a i)) rfl dX4_pass_33 ?_
          refine lv_aload_n hx hb dX4_pass_34 rfl (lv_at hl 2 rfl) ?_
          refine va_get (D := D) (ci := 4) (v := .ref (S 4)) (C := RX4) (T := TX4) (N := 13) hx hb hts inX4 hown hE.1 hP 4 rfl rfl 5 (by decide) kf25 (fun _ h9 => h9) rfl dX4_pass_35 ?_
          refine lv_iload_n hx hb dX4_pass_38 rfl (lv_at hl 3 rfl) ?_
          refine ald hx hb hE hP 8 rfl (k := i) (by omega) (Nat.le_of_ble_eq_true rfl) (v := nI (qPl a i)) rfl dX4_pass_39 ?_
          refine lv_iload_n hx hb dX4_pass_40 rfl (lv_at hl 0 rfl) ?_
          refine lv_iadd hx hb dX4_pass_41 ?_
          refine top_i (y := nI ((qPl a i) + 2)) (nI_add _ _) ?_
          refine lv_iconst (v := 0) hx hb dX4_pass_42 (by decide) ?_
          refine pVi (As := [.int (nI (qLa a i)), .int (nI ((qPl a i) + 2)), .int 0]) (rest := [.int (nI (0 + (atA a (qLa a i) ((qPl a i) + 1) 0)))]) (wc := (wS cA S y a q)) ⟨hx, hb, hml, hown, hts⟩ (K_X4_at lch D cA S y a q (qLa a i) ((qPl a i) + 2) 0 H.size (by first | assumption | omega) (w2) (by omega) (by decide)) (cwV 3 hts gX4_pass_X4_at rfl rfl rfl (by decide +kernel) ⟨Nat.le_of_ble_eq_true rfl, Nat.le_of_ble_eq_true rfl⟩) hE hP hD hS hA [4, 5, 6, 7, 8, 9, 10, 11, 12, 13, 14] rfl rfl X0.blind (fun _ _ _ => trivial) 4 4 rfl rfl rfl hl.1 rfl rfl (Nat.le_of_ble_eq_true rfl) dX4_pass_43 ⟨Nat.zero_le _, Nat.zero_le _⟩ (fun r_7 u_8 H locs h_9 hP hS => ?_)
          subst h_9
          refine lv_iadd hx hb dX4_pass_46 ?_
          refine top_i (y := nI ((0 + (atA a (qLa a i) ((qPl a i) + 1) 0)) + (atA a (qLa a i) ((qPl a i) + 2) 0))) (nI_add _ _) ?_
          refine lv_istore_n (lv' := [(2, .int (nI ((0 + (atA a (qLa a i) ((qPl a i) + 1) 0)) + (atA a (qLa a i) ((qPl a i) + 2) 0)))), (3, .int 2), (0, .ref (S 0)), (1, .int (nI i))]) hx hb dX4_pass_47 rfl hl (by decide) rfl (fun ls hl => ?_)
          refine lv_iinc (v := 3) (lv' := [(3, .int 3), (2, .int (nI ((0 + (atA a (qLa a i) ((qPl a i) + 1) 0)) + (atA a (qLa a i) ((qPl a i) + 2) 0)))), (0, .ref (S 0)), (1, .int (nI i))]) hx hb dX4_pass_48 hl (k := 1) rfl (by decide) (by decide) rfl (fun ls hl => ?_)
          refine lv_goto (tgt := 21) hx hb dX4_pass_51 (by decide) ?_
          refine lv_iload_n hx hb dX4_pass_21 rfl (lv_at hl 0 rfl) ?_
          refine lv_iconst (v := 3) hx hb dX4_pass_22 (by decide) ?_
          refine lv_icmp_gt (tgt := 54) hx hb dX4_pass_23 (by decide) (fun c23_2 => ?_) (fun c23_2 => ?_)
          · skip
            exfalso; revert c23_2; decide
          · skip
            have c23_2 := (not_congr (nI_ltI (a := 3) (b := 3) (by omega) (by omega))).mp c23_2
            refine lv_iload_n hx hb dX4_pass_26 rfl (lv_at hl 1 rfl) ?_
            refine lv_aload_n hx hb dX4_pass_27 rfl (lv_at hl 2 rfl) ?_
            refine lv_aload_n hx hb dX4_pass_28 rfl (lv_at hl 2 rfl) ?_
            refine va_get (D := D) (ci := 4) (v := .ref (S 3)) (C := RX4) (T := TX4) (N := 13) hx hb hts inX4 hown hE.1 hP 4 rfl rfl 4 (by decide) kf22 (fun _ h9 => h9) rfl dX4_pass_29 ?_
            refine lv_iload_n hx hb dX4_pass_32 rfl (lv_at hl 3 rfl) ?_
            refine ald hx hb hE hP 7 rfl (k := i) (by omega) (Nat.le_of_ble_eq_true rfl) (v := nI (qLa a i)) rfl dX4_pass_33 ?_
            refine lv_aload_n hx hb dX4_pass_34 rfl (lv_at hl 2 rfl) ?_
            refine va_get (D := D) (ci := 4) (v := .ref (S 4)) (C := RX4) (T := TX4) (N := 13) hx hb hts inX4 hown hE.1 hP 4 rfl rfl 5 (by decide) kf25 (fun _ h9 => h9) rfl dX4_pass_35 ?_
            refine lv_iload_n hx hb dX4_pass_38 rfl (lv_at hl 3 rfl) ?_
            refine ald hx hb hE hP 8 rfl (k := i) (by omega) (Nat.le_of_ble_eq_true rfl) (v := nI (qPl a i)) rfl dX4_pass_39 ?_
            refine lv_iload_n hx hb dX4_pass_40 rfl (lv_at hl 0 rfl) ?_
            refine lv_iadd hx hb dX4_pass_41 ?_
            refine top_i (y := nI ((qPl a i) + 3)) (nI_add _ _) ?_
            refine lv_iconst (v := 0) hx hb dX4_pass_42 (by decide) ?_
            refine pVi (As := [.int (nI (qLa a i)), .int (nI ((qPl a i) + 3)), .int 0]) (rest := [.int (nI ((0 + (atA a (qLa a i) ((qPl a i) + 1) 0)) + (atA a (qLa a i) ((qPl a i) + 2) 0)))]) (wc := (wS cA S y a q)) ⟨hx, hb, hml, hown, hts⟩ (K_X4_at lch D cA S y a q (qLa a i) ((qPl a i) + 3) 0 H.size (by first | assumption | omega) (w2) (by omega) (by decide)) (cwV 3 hts gX4_pass_X4_at rfl rfl rfl (by decide +kernel) ⟨Nat.le_of_ble_eq_true rfl, Nat.le_of_ble_eq_true rfl⟩) hE hP hD hS hA [4, 5, 6, 7, 8, 9, 10, 11, 12, 13, 14] rfl rfl X0.blind (fun _ _ _ => trivial) 4 4 rfl rfl rfl hl.1 rfl rfl (Nat.le_of_ble_eq_true rfl) dX4_pass_43 ⟨Nat.zero_le _, Nat.zero_le _⟩ (fun r_10 u_11 H locs h_12 hP hS => ?_)
            subst h_12
            refine lv_iadd hx hb dX4_pass_46 ?_
            refine top_i (y := nI (((0 + (atA a (qLa a i) ((qPl a i) + 1) 0)) + (atA a (qLa a i) ((qPl a i) + 2) 0)) + (atA a (qLa a i) ((qPl a i) + 3) 0))) (nI_add _ _) ?_
            refine lv_istore_n (lv' := [(2, .int (nI (((0 + (atA a (qLa a i) ((qPl a i) + 1) 0)) + (atA a (qLa a i) ((qPl a i) + 2) 0)) + (atA a (qLa a i) ((qPl a i) + 3) 0)))), (3, .int 3), (0, .ref (S 0)), (1, .int (nI i))]) hx hb dX4_pass_47 rfl hl (by decide) rfl (fun ls hl => ?_)
            refine lv_iinc (v := 4) (lv' := [(3, .int 4), (2, .int (nI (((0 + (atA a (qLa a i) ((qPl a i) + 1) 0)) + (atA a (qLa a i) ((qPl a i) + 2) 0)) + (atA a (qLa a i) ((qPl a i) + 3) 0)))), (0, .ref (S 0)), (1, .int (nI i))]) hx hb dX4_pass_48 hl (k := 1) rfl (by decide) (by decide) rfl (fun ls hl => ?_)
            refine lv_goto (tgt := 21) hx hb dX4_pass_51 (by decide) ?_
            refine lv_iload_n hx hb dX4_pass_21 rfl (lv_at hl 0 rfl) ?_
            refine lv_iconst (v := 3) hx hb dX4_pass_22 (by decide) ?_
            refine lv_icmp_gt (tgt := 54) hx hb dX4_pass_23 (by decide) (fun c23_3 => ?_) (fun c23_3 => ?_)
            · skip
              have c23_3 := (nI_ltI (a := 3) (b := 4) (by omega) (by omega)).mp c23_3
              refine lv_aload_n hx hb dX4_pass_54 rfl (lv_at hl 2 rfl) ?_
              refine va_get (D := D) (ci := 4) (v := .ref (S 6)) (C := RX4) (T := TX4) (N := 13) hx hb hts inX4 hown hE.1 hP 4 rfl rfl 7 (by decide) kf31 (fun _ h9 => h9) rfl dX4_pass_55 ?_
              refine lv_iload_n hx hb dX4_pass_58 rfl (lv_at hl 3 rfl) ?_
              refine lv_dup2_11 hx hb dX4_pass_59 rfl rfl ?_
              refine ald hx hb hE hP 10 rfl (k := i) (by omega) (Nat.le_of_ble_eq_true rfl) (v := qWe a i) rfl dX4_pass_60 ?_
              refine lv_iconst (v := 1) hx hb dX4_pass_61 (by decide) ?_
              refine lv_aload_n hx hb dX4_pass_62 rfl (lv_at hl 2 rfl) ?_
              refine va_get (D := D) (ci := 4) (v := .ref y) (C := RX4) (T := TX4) (N := 13) hx hb hts inX4 hown hE.1 hP 4 rfl rfl 12 (by decide) kf3 (fun _ h9 => h9) rfl dX4_pass_63 ?_
              refine va_getN (D := D) (ci := 5) (v := .ref (E 1)) (C := RX5) (T := TX5) (N := 8) hx hb hts inX5 hown hE.1 hP 0 rfl rfl 3 (by decide) kf88 (fun _ h9 => h9) rfl dX4_pass_66 ?_
              refine lv_aload_n hx hb dX4_pass_69 rfl (lv_at hl 2 rfl) ?_
              refine va_get (D := D) (ci := 4) (v := .ref (S 4)) (C := RX4) (T := TX4) (N := 13) hx hb hts inX4 hown hE.1 hP 4 rfl rfl 5 (by decide) kf25 (fun _ h9 => h9) rfl dX4_pass_70 ?_
              refine lv_iload_n hx hb dX4_pass_73 rfl (lv_at hl 3 rfl) ?_
              refine ald hx hb hE hP 8 rfl (k := i) (by omega) (Nat.le_of_ble_eq_true rfl) (v := nI (qPl a i)) rfl dX4_pass_74 ?_
              refine ald hx hb hE hP 2 rfl (k := qPl a i) (by omega) (Nat.le_of_ble_eq_true rfl) (v := bSp b (qPl a i)) rfl dX4_pass_75 ?_
              refine lv_iload_n hx hb dX4_pass_76 rfl (lv_at hl 1 rfl) ?_
              refine lv_isub hx hb dX4_pass_77 ?_
              refine va_mmax hx hb (by rw [hml]; exact hl.1.symm) hown kw8 kw9 kw10 kw11 (Nat.le_of_ble_eq_true rfl) (Nat.le_of_ble_eq_true rfl) (Nat.zero_le _) (Nat.zero_le _) dX4_pass_78 ?_
              refine top_i (y := imax1 (bSp b (qPl a i) - nI (belowA a i))) (by unfold imax1 belowA; rw [Nat.zero_add]) ?_
              refine lv_iadd hx hb dX4_pass_81 ?_
              refine ast hx hb hE hP hD hS 10 rfl (k := i) (by omega) (Nat.le_of_ble_eq_true rfl) (qWe (wetA b a i)) (fun j _ => upd_I j) dX4_pass_82 (fun H locs hP hD hS => ?_)
              have hP : va_P D vwCl ((wM cA y E s1 s2 th b) ++ (wS cA S y (wetA b a i) q)) H := hP
              have hD : va_D A ((wM cA y E s1 s2 th b) ++ (wS cA S y (wetA b a i) q)) := hD
              refine lv_aload_n hx hb dX4_pass_83 rfl (lv_at hl 2 rfl) ?_
              refine lv_iload_n hx hb dX4_pass_84 rfl (lv_at hl 3 rfl) ?_
              refine pVi (As := [.int (nI i)]) (rest := []) (wc := (wS cA S y (wetA b a i) q)) ⟨hx, hb, hml, hown, hts⟩ (K_X4_isSoaked lch D cA S y (wetA b a i) q z1 z2 i H.size (by omega) (w1)) (cwV 1 hts gX4_pass_X4_isSoaked rfl rfl rfl (by decide +kernel) ⟨Nat.le_of_ble_eq_true rfl, Nat.le_of_ble_eq_true rfl⟩) hE hP hD hS hA [4, 5, 6, 7, 8, 9, 10, 11, 12, 13, 14] rfl rfl (SX.blind z1 z2 _) (fun U hU hW => hXs.at hS (fun q h => hA q (Nat.le_trans hS.1 h)) hU hW) 4 4 rfl rfl rfl hl.1 rfl rfl (Nat.le_of_ble_eq_true rfl) dX4_pass_85 ⟨Nat.zero_le _, Nat.zero_le _⟩ (fun r_13 u_14 H locs h_15 hP hS => ?_)
              subst h_15
              refine lv_if_eq (tgt := 98) hx hb dX4_pass_88 (by decide) (fun c88 => ?_) (fun c88 => ?_)
              · skip
                have c88 := bi_0.mp c88
                have e9 : weirA b a i = wetA b a i := by unfold weirA dryA; rw [if_pos hpos, c88]; rfl
                have hP : va_P D vwCl ((wM cA y E s1 s2 th b) ++ (wS cA S y (weirA b a i) q)) H := by rw [e9]; exact hP
                have hD : va_D A ((wM cA y E s1 s2 th b) ++ (wS cA S y (weirA b a i) q)) := by rw [e9]; exact hD
                obtain ⟨m1, m2, m3, m4, m5, m6, m7⟩ := met_same (bSp b (qPl a i)) a i
                rw [met_weir] at m1 m2 m3 m4 m5 m6 m7
                have x3 : qLa (weirA b a i) i = qLa a i := by rw [m3]
                have x4 : qPl (weirA b a i) i = qPl a i := by rw [m4]
                refine lv_aload_n hx hb dX4_pass_98 rfl (lv_at hl 2 rfl) ?_
                refine va_get (D := D) (ci := 4) (v := .ref y) (C := RX4) (T := TX4) (N := 13) hx hb hts inX4 hown hE.1 hP 4 rfl rfl 12 (by decide) kf3 (fun _ h9 => h9) rfl dX4_pass_99 ?_
                refine va_getN (D := D) (ci := 5) (v := .ref (E 2)) (C := RX5) (T := TX5) (N := 8) hx hb hts inX5 hown hE.1 hP 0 rfl rfl 5 (by decide) kf104 (fun _ h9 => h9) rfl dX4_pass_102 ?_
                refine lv_bipush (v := 60) hx hb dX4_pass_105 (by decide) ?_
                refine lv_aload_n hx hb dX4_pass_107 rfl (lv_at hl 2 rfl) ?_
                refine va_get (D := D) (ci := 4) (v := .ref (S 3)) (C := RX4) (T := TX4) (N := 13) hx hb hts inX4 hown hE.1 hP 4 rfl rfl 4 (by decide) kf22 (fun _ h9 => h9) rfl dX4_pass_108 ?_
                refine lv_iload_n hx hb dX4_pass_111 rfl (lv_at hl 3 rfl) ?_
                refine ald hx hb hE hP 7 rfl (k := i) (by omega) (Nat.le_of_ble_eq_true rfl) (v := nI (qLa (weirA b a i) i)) rfl dX4_pass_112 ?_
                refine lv_imul hx hb dX4_pass_113 ?_
                refine top_i (y := nI (60 * (qLa (weirA b a i) i))) (pk_mul _ _) ?_
                refine lv_aload_n hx hb dX4_pass_114 rfl (lv_at hl 2 rfl) ?_
                refine va_get (D := D) (ci := 4) (v := .ref (S 4)) (C := RX4) (T := TX4) (N := 13) hx hb hts inX4 hown hE.1 hP 4 rfl rfl 5 (by decide) kf25 (fun _ h9 => h9) rfl dX4_pass_115 ?_
                refine lv_iload_n hx hb dX4_pass_118 rfl (lv_at hl 3 rfl) ?_
                refine ald hx hb hE hP 8 rfl (k := i) (by omega) (Nat.le_of_ble_eq_true rfl) (v := nI (qPl (weirA b a i) i)) rfl dX4_pass_119 ?_
                refine lv_iadd hx hb dX4_pass_120 ?_
                refine top_i (y := nI ((60 * (qLa (weirA b a i) i)) + (qPl (weirA b a i) i))) (nI_add _ _) ?_
                refine ald hx hb hE hP 3 rfl (k := (60 * (qLa (weirA b a i) i)) + (qPl (weirA b a i) i)) (by omega) (Nat.le_of_ble_eq_true rfl) (v := bi (bNe b ((60 * (qLa (weirA b a i) i)) + (qPl (weirA b a i) i)))) rfl dX4_pass_121 ?_
                refine lv_iconst (v := 1) hx hb dX4_pass_122 (by decide) ?_
                refine lv_icmp_ne (tgt := 132) hx hb dX4_pass_123 (by decide) (fun c123 => ?_) (fun c123 => ?_)
                · skip
                  have c123 := bi_f.mp c123
                  have e9 : netA b (weirA b a i) i = weirA b a i := by unfold netA; rw [Nat.mul_comm, c123]; rfl
                  have hP : va_P D vwCl ((wM cA y E s1 s2 th b) ++ (wS cA S y (netA b (weirA b a i) i) q)) H := by rw [e9]; exact hP
                  have hD : va_D A ((wM cA y E s1 s2 th b) ++ (wS cA S y (netA b (weirA b a i) i) q)) := by rw [e9]; exact hD
                  rw [hQQ]
                  exact W.vret hx hb hr (fun t ht hW => ⟨⟨(), rfl, trivial, by show va_P _ _ _ t.heap; rw [ht]; exact hP⟩, hS.F ht⟩) hS.2.2 dX4_pass_132
                · skip
                  have c123 := bi_t.mp c123
                  refine lv_aload_n hx hb dX4_pass_126 rfl (lv_at hl 2 rfl) ?_
                  refine lv_iload_n hx hb dX4_pass_127 rfl (lv_at hl 3 rfl) ?_
                  refine lv_iconst (v := 1) hx hb dX4_pass_128 (by decide) ?_
                  refine cVv (wB := fun (u_17 : Unit) => (wS cA S y (endA (weirA b a i) i 1) q)) (As := [.int (nI i), .int 1]) (rest := []) (wc := (wS cA S y (weirA b a i) q)) ⟨hx, hb, hml, hown, hts⟩ (K_X4_end lch D cA S y (weirA b a i) q i 1 H.size (by omega)) (cwV 2 hts gX4_pass_X4_end rfl rfl rfl (by decide +kernel) ⟨Nat.le_of_ble_eq_true rfl, Nat.le_of_ble_eq_true rfl⟩) hE hP hD hS hA [4, 5, 6, 7, 8, 9, 10, 11, 12, 13, 14] rfl rfl [S 0, S 1, S 2, S 3, S 4, S 5, S 6, S 7, S 8, S 9, S 10] (fun _ => rfl) rfl (fun (u_17 : Unit) => ((wM cA y E s1 s2 th b) ++ (wS cA S y (endA (weirA b a i) i 1) q))) (fun _ => pst_blk (wM cA y E s1 s2 th b) [] (wc := (wS cA S y (weirA b a i) q)) 11 4 rfl rfl rfl rfl rfl rfl) X0.blind (fun _ _ _ => trivial) 4 4 rfl rfl rfl hl.1 rfl rfl (Nat.le_of_ble_eq_true rfl) dX4_pass_129 ⟨Nat.zero_le _, Nat.zero_le _⟩ (fun u_17 H locs h_18 hP hD hS => ?_)
                  have e9 : netA b (weirA b a i) i = endA (weirA b a i) i 1 := by unfold netA; rw [Nat.mul_comm, if_pos c123]
                  have hP : va_P D vwCl ((wM cA y E s1 s2 th b) ++ (wS cA S y (netA b (weirA b a i) i) q)) H := by rw [e9]; exact hP
                  have hD : va_D A ((wM cA y E s1 s2 th b) ++ (wS cA S y (netA b (weirA b a i) i) q)) := by rw [e9]; exact hD
                  rw [hQQ]
                  exact W.vret hx hb hr (fun t ht hW => ⟨⟨(), rfl, trivial, by show va_P _ _ _ t.heap; rw [ht]; exact hP⟩, hS.F ht⟩) hS.2.2 dX4_pass_132
              · skip
                have c88 := bi_1.mp c88
                refine lv_aload_n hx hb dX4_pass_91 rfl (lv_at hl 2 rfl) ?_
                refine va_get (D := D) (ci := 4) (v := .ref (S 7)) (C := RX4) (T := TX4) (N := 13) hx hb hts inX4 hown hE.1 hP 4 rfl rfl 8 (by decide) kf34 (fun _ h9 => h9) rfl dX4_pass_92 ?_
                refine lv_iload_n hx hb dX4_pass_95 rfl (lv_at hl 3 rfl) ?_
                refine lv_iconst (v := 0) hx hb dX4_pass_96 (by decide) ?_
                refine ast hx hb hE hP hD hS 11 rfl (k := i) (by omega) (Nat.le_of_ble_eq_true rfl) (fun z9 => bi (qBu (outA (wetA b a i) i) z9)) (fun j _ => upd_B (v := false) j) dX4_pass_97 (fun H locs hP hD hS => ?_)
                have hP : va_P D vwCl ((wM cA y E s1 s2 th b) ++ (wS cA S y (outA (wetA b a i) i) q)) H := hP
                have hD : va_D A ((wM cA y E s1 s2 th b) ++ (wS cA S y (outA (wetA b a i) i) q)) := hD
                have e9 : weirA b a i = outA (wetA b a i) i := by unfold weirA dryA; rw [if_pos hpos, if_pos c88]
                have hP : va_P D vwCl ((wM cA y E s1 s2 th b) ++ (wS cA S y (weirA b a i) q)) H := by rw [e9]; exact hP
                have hD : va_D A ((wM cA y E s1 s2 th b) ++ (wS cA S y (weirA b a i) q)) := by rw [e9]; exact hD
                obtain ⟨m1, m2, m3, m4, m5, m6, m7⟩ := met_same (bSp b (qPl a i)) a i
                rw [met_weir] at m1 m2 m3 m4 m5 m6 m7
                have x3 : qLa (weirA b a i) i = qLa a i := by rw [m3]
                have x4 : qPl (weirA b a i) i = qPl a i := by rw [m4]
                refine lv_aload_n hx hb dX4_pass_98 rfl (lv_at hl 2 rfl) ?_
                refine va_get (D := D) (ci := 4) (v := .ref y) (C := RX4) (T := TX4) (N := 13) hx hb hts inX4 hown hE.1 hP 4 rfl rfl 12 (by decide) kf3 (fun _ h9 => h9) rfl dX4_pass_99 ?_
                refine va_getN (D := D) (ci := 5) (v := .ref (E 2)) (C := RX5) (T := TX5) (N := 8) hx hb hts inX5 hown hE.1 hP 0 rfl rfl 5 (by decide) kf104 (fun _ h9 => h9) rfl dX4_pass_102 ?_
                refine lv_bipush (v := 60) hx hb dX4_pass_105 (by decide) ?_
                refine lv_aload_n hx hb dX4_pass_107 rfl (lv_at hl 2 rfl) ?_
                refine va_get (D := D) (ci := 4) (v := .ref (S 3)) (C := RX4) (T := TX4) (N := 13) hx hb hts inX4 hown hE.1 hP 4 rfl rfl 4 (by decide) kf22 (fun _ h9 => h9) rfl dX4_pass_108 ?_
                refine lv_iload_n hx hb dX4_pass_111 rfl (lv_at hl 3 rfl) ?_
                refine ald hx hb hE hP 7 rfl (k := i) (by omega) (Nat.le_of_ble_eq_true rfl) (v := nI (qLa (weirA b a i) i)) rfl dX4_pass_112 ?_
                refine lv_imul hx hb dX4_pass_113 ?_
                refine top_i (y := nI (60 * (qLa (weirA b a i) i))) (pk_mul _ _) ?_
                refine lv_aload_n hx hb dX4_pass_114 rfl (lv_at hl 2 rfl) ?_
                refine va_get (D := D) (ci := 4) (v := .ref (S 4)) (C := RX4) (T := TX4) (N := 13) hx hb hts inX4 hown hE.1 hP 4 rfl rfl 5 (by decide) kf25 (fun _ h9 => h9) rfl dX4_pass_115 ?_
                refine lv_iload_n hx hb dX4_pass_118 rfl (lv_at hl 3 rfl) ?_
                refine ald hx hb hE hP 8 rfl (k := i) (by omega) (Nat.le_of_ble_eq_true rfl) (v := nI (qPl (weirA b a i) i)) rfl dX4_pass_119 ?_
                refine lv_iadd hx hb dX4_pass_120 ?_
                refine top_i (y := nI ((60 * (qLa (weirA b a i) i)) + (qPl (weirA b a i) i))) (nI_add _ _) ?_
                refine ald hx hb hE hP 3 rfl (k := (60 * (qLa (weirA b a i) i)) + (qPl (weirA b a i) i)) (by omega) (Nat.le_of_ble_eq_true rfl) (v := bi (bNe b ((60 * (qLa (weirA b a i) i)) + (qPl (weirA b a i) i)))) rfl dX4_pass_121 ?_
                refine lv_iconst (v := 1) hx hb dX4_pass_122 (by decide) ?_
                refine lv_icmp_ne (tgt := 132) hx hb dX4_pass_123 (by decide) (fun c123 => ?_) (fun c123 => ?_)
                · skip
                  have c123 := bi_f.mp c123
                  have e9 : netA b (weirA b a i) i = weirA b a i := by unfold netA; rw [Nat.mul_comm, c123]; rfl
                  have hP : va_P D vwCl ((wM cA y E s1 s2 th b) ++ (wS cA S y (netA b (weirA b a i) i) q)) H := by rw [e9]; exact hP
                  have hD : va_D A ((wM cA y E s1 s2 th b) ++ (wS cA S y (netA b (weirA b a i) i) q)) := by rw [e9]; exact hD
                  rw [hQQ]
                  exact W.vret hx hb hr (fun t ht hW => ⟨⟨(), rfl, trivial, by show va_P _ _ _ t.heap; rw [ht]; exact hP⟩, hS.F ht⟩) hS.2.2 dX4_pass_132
                · skip
                  have c123 := bi_t.mp c123
                  refine lv_aload_n hx hb dX4_pass_126 rfl (lv_at hl 2 rfl) ?_
                  refine lv_iload_n hx hb dX4_pass_127 rfl (lv_at hl 3 rfl) ?_
                  refine lv_iconst (v := 1) hx hb dX4_pass_128 (by decide) ?_
                  refine cVv (wB := fun (u_20 : Unit) => (wS cA S y (endA (weirA b a i) i 1) q)) (As := [.int (nI i), .int 1]) (rest := []) (wc := (wS cA S y (weirA b a i) q)) ⟨hx, hb, hml, hown, hts⟩ (K_X4_end lch D cA S y (weirA b a i) q i 1 H.size (by omega)) (cwV 2 hts gX4_pass_X4_end rfl rfl rfl (by decide +kernel) ⟨Nat.le_of_ble_eq_true rfl, Nat.le_of_ble_eq_true rfl⟩) hE hP hD hS hA [4, 5, 6, 7, 8, 9, 10, 11, 12, 13, 14] rfl rfl [S 0, S 1, S 2, S 3, S 4, S 5, S 6, S 7, S 8, S 9, S 10] (fun _ => rfl) rfl (fun (u_20 : Unit) => ((wM cA y E s1 s2 th b) ++ (wS cA S y (endA (weirA b a i) i 1) q))) (fun _ => pst_blk (wM cA y E s1 s2 th b) [] (wc := (wS cA S y (weirA b a i) q)) 11 4 rfl rfl rfl rfl rfl rfl) X0.blind (fun _ _ _ => trivial) 4 4 rfl rfl rfl hl.1 rfl rfl (Nat.le_of_ble_eq_true rfl) dX4_pass_129 ⟨Nat.zero_le _, Nat.zero_le _⟩ (fun u_20 H locs h_21 hP hD hS => ?_)
                  have e9 : netA b (weirA b a i) i = endA (weirA b a i) i 1 := by unfold netA; rw [Nat.mul_comm, if_pos c123]
                  have hP : va_P D vwCl ((wM cA y E s1 s2 th b) ++ (wS cA S y (netA b (weirA b a i) i) q)) H := by rw [e9]; exact hP
                  have hD : va_D A ((wM cA y E s1 s2 th b) ++ (wS cA S y (netA b (weirA b a i) i) q)) := by rw [e9]; exact hD
                  rw [hQQ]
                  exact W.vret hx hb hr (fun t ht hW => ⟨⟨(), rfl, trivial, by show va_P _ _ _ t.heap; rw [ht]; exact hP⟩, hS.F ht⟩) hS.2.2 dX4_pass_132
            · skip
              exfalso; revert c23_3; decide
  rw [hg1, hg2] at hgoal
  exact hgoal

set_option maxHeartbeats 4000000 in
set_option maxRecDepth 100000 in
/-- drift -/
theorem K_X4_drift (lch : Launch) (D : va_G) (cA : ClassId) (S : Nat → Nat) (y : Nat) (a : FSt) (q : Nat → Int32) (E : Nat → Nat) (s1 : Nat) (s2 : Nat) (th : Int32) (b : BSt) (z1 : Nat) (z2 : Nat) (i : Nat) (sz : Nat) (hi : i < qN a) (hw1 : WFa a) (hwb : WFb b) : Met lch yX4_drift wsX4_drift ({ frames := 2, cells := 0, slots := 0, locals := 48 }) (Pr D cA [.ref (S 0), .int (nI i)] sz ((wM cA y E s1 s2 th b) ++ (wS cA S y a q)) (SX z1 z2 (va_A ((wM cA y E s1 s2 th b) ++ (wS cA S y a q)) sz))) (va_Qv (fun (u : Unit) => True) (fun (u : Unit) t => va_P D vwCl ((wM cA y E s1 s2 th b) ++ (wS cA S y (driftA b a i) q)) t.heap) (va_A ((wM cA y E s1 s2 th b) ++ (wS cA S y a q)) sz)) 0 0 (va_A ((wM cA y E s1 s2 th b) ++ (wS cA S y a q)) sz) := by
  refine Met.ofW (cc := cX4_drift) (maxL := 3) (ret := none) (by decide) rfl ?_
  intro pg ev s mi args below meth cd s₁ B hml hv
  obtain ⟨hav, hsz, hP, hE, hD, hXs⟩ := hv
  have hx := B.exec
  have hb := B.bytes
  have hr := B.returns
  have hts := atoms_spec (ws := wsX4_drift) B.pre
  have hown : s.vm.findClass RX4 = some mi.cls := findClass_of_methodNamed B.named
  have hlocks := B.notSynchronized
  clear B
  subst hav
  subst hsz
  have hD := hD.self (sz := s.heap.size)
  generalize hAe : va_A ((wM cA y E s1 s2 th b) ++ (wS cA S y a q)) s.heap.size = A at hD hXs ⊢
  have hA : ∀ q : Nat, s.heap.size ≤ q → A q := fun q h => by rw [← hAe]; exact Or.inr h
  have hS : va_S A s.heap s.heap [] := va_S.rf
  obtain ⟨QQ, hQQ⟩ : ∃ qq9, qq9 = MQ below (va_Qv (fun (u : Unit) => True) (fun (u : Unit) t => va_P D vwCl ((wM cA y E s1 s2 th b) ++ (wS cA S y (driftA b a i) q)) t.heap) A) ([.ref (S 0), .int (nI i)] : List Value).toArray s 0 0 A := ⟨_, rfl⟩
  rw [← hQQ]
  have hl := lv_entry ([.ref (S 0), .int (nI i)]) (n := 3) (Nat.le_of_ble_eq_true rfl)
  rw [lg_entry_eq]
  generalize (lg_sl ([.ref (S 0), .int (nI i)]) ++ List.replicate (3 - (lg_sl ([.ref (S 0), .int (nI i)])).length) Slot.unset).toArray = ls at hl ⊢
  have hl : lv_has ls 3 [(0, .ref (S 0)), (1, .int (nI i))] := hl
  have kf3 := hts (.fieldLink RX4 3 "LanternWeirsModel$State" "this$0" "LLanternWeirsModel;") (by decide +kernel)
  have inX4 : ∀ w ∈ u_ws RX4 TX4 13, w ∈ wsX4_drift := by decide +kernel
  have kf73 := va_Nw.use (A := ([.ref (S 0), .int (nI i)] : List Value).toArray) rfl (hE.2.2 (.fieldLinkNest "LanternWeirsModel$State" 73 "LanternWeirsModel" "current" "[I" "LanternWeirsModel") (by decide +kernel))
  have inX5 : ∀ w ∈ u_ws RX5 TX5 8, w ∈ wsX4_drift := by decide +kernel
  have kf22 := hts (.fieldLink RX4 22 "LanternWeirsModel$State" "lane" "[I") (by decide +kernel)
  have kf37 := hts (.fieldLink RX4 37 "LanternWeirsModel$State" "state" "[I") (by decide +kernel)
  have kf25 := hts (.fieldLink RX4 25 "LanternWeirsModel$State" "place" "[I") (by decide +kernel)
  have kf34 := hts (.fieldLink RX4 34 "LanternWeirsModel$State" "burns" "[I") (by decide +kernel)
  obtain ⟨H, locs, hP, hS, hgo⟩ : ∃ H locs, va_P D vwCl ((wM cA y E s1 s2 th b) ++ (wS cA S y a q)) H ∧ va_S A s.heap H locs ∧ (H = s.heap ∧ locs = []) := ⟨_, _, hP, hS, rfl, rfl⟩
  obtain ⟨hg1, hg2⟩ := hgo
  have hgoal : W pg lch ev (headSpec wsX4_drift ({ frames := 2, cells := 0, slots := 0, locals := 48 })).room s mi ([.ref (S 0), .int (nI i)] : List Value).toArray below meth cd H locs 0 0 QQ (F0 mi 0 ls []) := by
    have hn := hw1.1
    have wl2 := (hw1.2 i hi).2.1
    have hcu := hwb.1 (qLa a i) wl2
    refine lv_aload_n hx hb dX4_drift_0 rfl (lv_at hl 0 rfl) ?_
    refine va_get (D := D) (ci := 4) (v := .ref y) (C := RX4) (T := TX4) (N := 13) hx hb hts inX4 hown hE.1 hP 4 rfl rfl 12 (by decide) kf3 (fun _ h9 => h9) rfl dX4_drift_1 ?_
    refine va_getN (D := D) (ci := 5) (v := .ref (E 0)) (C := RX5) (T := TX5) (N := 8) hx hb hts inX5 hown hE.1 hP 0 rfl rfl 1 (by decide) kf73 (fun _ h9 => h9) rfl dX4_drift_4 ?_
    refine lv_aload_n hx hb dX4_drift_7 rfl (lv_at hl 0 rfl) ?_
    refine va_get (D := D) (ci := 4) (v := .ref (S 3)) (C := RX4) (T := TX4) (N := 13) hx hb hts inX4 hown hE.1 hP 4 rfl rfl 4 (by decide) kf22 (fun _ h9 => h9) rfl dX4_drift_8 ?_
    refine lv_iload_n hx hb dX4_drift_11 rfl (lv_at hl 1 rfl) ?_
    refine ald hx hb hE hP 7 rfl (k := i) (by omega) (Nat.le_of_ble_eq_true rfl) (v := nI (qLa a i)) rfl dX4_drift_12 ?_
    refine ald hx hb hE hP 1 rfl (k := qLa a i) (by omega) (Nat.le_of_ble_eq_true rfl) (v := nI (bCu b (qLa a i))) rfl dX4_drift_13 ?_
    refine lv_istore_n (lv' := [(2, .int (nI (bCu b (qLa a i)))), (0, .ref (S 0)), (1, .int (nI i))]) hx hb dX4_drift_14 rfl hl (by decide) rfl (fun ls hl => ?_)
    have L15 : ∀ (fu15 : Nat) (t : Nat) (a1 : FSt), (driftN b t a1 i = driftA b a i) → (WFa a1) → (qN a1 = qN a) → (t ≤ 5) → t < fu15 → ∀ (H : Heap) (locs : List Loc), va_P D vwCl ((wM cA y E s1 s2 th b) ++ (wS cA S y a1 q)) H → va_D A ((wM cA y E s1 s2 th b) ++ (wS cA S y a1 q)) → va_S A s.heap H locs → ∀ ls : Array Slot, lv_has ls 3 [(2, .int (nI t)), (0, .ref (S 0)), (1, .int (nI i))] → W pg lch ev (headSpec wsX4_drift ({ frames := 2, cells := 0, slots := 0, locals := 48 })).room s mi ([.ref (S 0), .int (nI i)] : List Value).toArray below meth cd H locs 0 0 QQ (F0 mi 15 ls []) := by
      intro fu15
      induction fu15 with
      | zero => intro t a1 hd hw2 hN ht5 hms; exact absurd hms (Nat.not_lt_zero _)
      | succ fu15 ih15 =>
        intro t a1 hd hw2 hN ht5 hms15 H locs hP hD hS ls hl
        have hk1 : i < qN a1 := by rw [hN]; exact hi
        obtain ⟨w1, w2, w3, w4, w5, w6, w7, w8⟩ := hw2.2 i hk1
        have hmv := mov_at a1 i
        refine lv_iload_n hx hb dX4_drift_15 rfl (lv_at hl 0 rfl) ?_
        refine lv_if_le (tgt := 85) hx hb dX4_drift_16 (by decide) (fun c16 => ?_) (fun c16 => ?_)
        · skip
          have c16 := (nI_leI (a := t) (b := 0) (by omega) (by omega)).mp c16
          have ed : driftA b a i = a1 := by rw [← hd, show t = 0 by omega]; rfl
          have hP : va_P D vwCl ((wM cA y E s1 s2 th b) ++ (wS cA S y (driftA b a i) q)) H := by rw [ed]; exact hP
          rw [hQQ]
          exact W.vret hx hb hr (fun t ht hW => ⟨⟨(), rfl, trivial, by show va_P _ _ _ t.heap; rw [ht]; exact hP⟩, hS.F ht⟩) hS.2.2 dX4_drift_85
        · skip
          have c16 := (not_congr (nI_leI (a := t) (b := 0) (by omega) (by omega))).mp c16
          refine lv_aload_n hx hb dX4_drift_19 rfl (lv_at hl 1 rfl) ?_
          refine va_get (D := D) (ci := 4) (v := .ref (S 8)) (C := RX4) (T := TX4) (N := 13) hx hb hts inX4 hown hE.1 hP 4 rfl rfl 9 (by decide) kf37 (fun _ h9 => h9) rfl dX4_drift_20 ?_
          refine lv_iload_n hx hb dX4_drift_23 rfl (lv_at hl 2 rfl) ?_
          refine ald hx hb hE hP 12 rfl (k := i) (by omega) (Nat.le_of_ble_eq_true rfl) (v := nI (qSt a1 i)) rfl dX4_drift_24 ?_
          refine lv_if_ne (tgt := 85) hx hb dX4_drift_25 (by decide) (fun c25 => ?_) (fun c25 => ?_)
          · skip
            have c25 := (not_congr (nI_eq (a := qSt a1 i) (b := 0) (by omega) (by omega))).mp c25
            have ed : driftA b a i = a1 := hd.symm.trans (drift_stop (Or.inl c25) _)
            have hP : va_P D vwCl ((wM cA y E s1 s2 th b) ++ (wS cA S y (driftA b a i) q)) H := by rw [ed]; exact hP
            rw [hQQ]
            exact W.vret hx hb hr (fun t ht hW => ⟨⟨(), rfl, trivial, by show va_P _ _ _ t.heap; rw [ht]; exact hP⟩, hS.F ht⟩) hS.2.2 dX4_drift_85
          · skip
            have c25 := (nI_eq (a := qSt a1 i) (b := 0) (by omega) (by omega)).mp c25
            have h59 := w5 c25
            refine lv_aload_n hx hb dX4_drift_28 rfl (lv_at hl 1 rfl) ?_
            refine lv_iload_n hx hb dX4_drift_29 rfl (lv_at hl 2 rfl) ?_
            refine pVi (As := [.int (nI i)]) (rest := []) (wc := (wS cA S y a1 q)) ⟨hx, hb, hml, hown, hts⟩ (K_X4_isCaught lch D cA S y a1 q i H.size (hk1) (hw2)) (cwV 1 hts gX4_drift_X4_isCaught rfl rfl rfl (by decide +kernel) ⟨Nat.le_of_ble_eq_true rfl, Nat.le_of_ble_eq_true rfl⟩) hE hP hD hS hA [4, 5, 6, 7, 8, 9, 10, 11, 12, 13, 14] rfl rfl X0.blind (fun _ _ _ => trivial) 4 4 rfl rfl rfl hl.1 rfl rfl (Nat.le_of_ble_eq_true rfl) dX4_drift_30 ⟨Nat.zero_le _, Nat.zero_le _⟩ (fun r_1 u_2 H locs h_3 hP hS => ?_)
            subst h_3
            refine lv_if_eq (tgt := 37) hx hb dX4_drift_33 (by decide) (fun c33 => ?_) (fun c33 => ?_)
            · skip
              have c33 := bi_0.mp c33
              refine lv_aload_n hx hb dX4_drift_37 rfl (lv_at hl 1 rfl) ?_
              refine va_get (D := D) (ci := 4) (v := .ref (S 4)) (C := RX4) (T := TX4) (N := 13) hx hb hts inX4 hown hE.1 hP 4 rfl rfl 5 (by decide) kf25 (fun _ h9 => h9) rfl dX4_drift_38 ?_
              refine lv_iload_n hx hb dX4_drift_41 rfl (lv_at hl 2 rfl) ?_
              refine lv_dup2_11 hx hb dX4_drift_42 rfl rfl ?_
              refine ald hx hb hE hP 8 rfl (k := i) (by omega) (Nat.le_of_ble_eq_true rfl) (v := nI (qPl a1 i)) rfl dX4_drift_43 ?_
              refine lv_iconst (v := 1) hx hb dX4_drift_44 (by decide) ?_
              refine lv_iadd hx hb dX4_drift_45 ?_
              refine top_i (y := nI ((qPl a1 i) + 1)) (nI_add _ _) ?_
              refine ast hx hb hE hP hD hS 8 rfl (k := i) (by omega) (Nat.le_of_ble_eq_true rfl) (fun z9 => nI (qPl (movA a1 i) z9)) (fun j _ => upd_N j) dX4_drift_46 (fun H locs hP hD hS => ?_)
              have hP : va_P D vwCl ((wM cA y E s1 s2 th b) ++ (wS cA S y (movA a1 i) q)) H := hP
              have hD : va_D A ((wM cA y E s1 s2 th b) ++ (wS cA S y (movA a1 i) q)) := hD
              refine lv_aload_n hx hb dX4_drift_47 rfl (lv_at hl 1 rfl) ?_
              refine va_get (D := D) (ci := 4) (v := .ref (S 4)) (C := RX4) (T := TX4) (N := 13) hx hb hts inX4 hown hE.1 hP 4 rfl rfl 5 (by decide) kf25 (fun _ h9 => h9) rfl dX4_drift_48 ?_
              refine lv_iload_n hx hb dX4_drift_51 rfl (lv_at hl 2 rfl) ?_
              refine ald hx hb hE hP 8 rfl (k := i) (by omega) (Nat.le_of_ble_eq_true rfl) (v := nI (qPl (movA a1 i) i)) rfl dX4_drift_52 ?_
              refine lv_bipush (v := 60) hx hb dX4_drift_53 (by decide) ?_
              refine lv_icmp_ne (tgt := 74) hx hb dX4_drift_55 (by decide) (fun c55 => ?_) (fun c55 => ?_)
              · skip
                have c55 := (not_congr (nI_eq (a := qPl (movA a1 i) i) (b := 60) (by omega) (by omega))).mp c55
                refine lv_aload_n hx hb dX4_drift_74 rfl (lv_at hl 1 rfl) ?_
                refine lv_iload_n hx hb dX4_drift_75 rfl (lv_at hl 2 rfl) ?_
                refine cVv (wB := fun (u_5 : Unit) => ((wM cA y E s1 s2 th b) ++ (wS cA S y (netA b (weirA b (movA a1 i) i) i) q))) (As := [.int (nI i)]) (rest := []) (wc := ((wM cA y E s1 s2 th b) ++ (wS cA S y (movA a1 i) q))) ⟨hx, hb, hml, hown, hts⟩ (K_X4_pass lch D cA S y (movA a1 i) q E s1 s2 th b z1 z2 i H.size (hk1) (WFa_mov (k := i) hw2 (by omega)) (by omega)) (cwV 1 hts gX4_drift_X4_pass rfl rfl rfl (by decide +kernel) ⟨Nat.le_of_ble_eq_true rfl, Nat.le_of_ble_eq_true rfl⟩) hE hP hD hS hA [0, 1, 2, 3, 4, 5, 6, 7, 8, 9, 10, 11, 12, 13, 14] rfl rfl [y, E 0, E 1, E 2, S 0, S 1, S 2, S 3, S 4, S 5, S 6, S 7, S 8, S 9, S 10] (fun _ => rfl) rfl (fun (u_5 : Unit) => ((wM cA y E s1 s2 th b) ++ (wS cA S y (netA b (weirA b (movA a1 i) i) i) q))) (fun _ => pst_all 15 rfl rfl rfl) (SX.blind z1 z2 _) (fun U hU hW => hXs.at hS (va_free (wc := ((wM cA y E s1 s2 th b) ++ (wS cA S y (movA a1 i) q))) hD hS hA [0, 1, 2, 3, 4, 5, 6, 7, 8, 9, 10, 11, 12, 13, 14] rfl) hU hW) 4 4 rfl rfl rfl hl.1 rfl rfl (Nat.le_of_ble_eq_true rfl) dX4_drift_76 ⟨Nat.zero_le _, Nat.zero_le _⟩ (fun u_5 H locs h_6 hP hD hS => ?_)
                refine lv_iinc (v := nI (t - 1)) (lv' := [(2, .int (nI (t - 1))), (0, .ref (S 0)), (1, .int (nI i))]) hx hb dX4_drift_79 hl (k := 0) rfl (dec_nI t (by omega)) (by decide) rfl (fun ls hl => ?_)
                refine lv_goto (tgt := 15) hx hb dX4_drift_82 (by decide) ?_
                have e9 : stepA b a1 i = netA b (weirA b (movA a1 i) i) i := if_neg (by omega)
                have hP : va_P D vwCl ((wM cA y E s1 s2 th b) ++ (wS cA S y (stepA b a1 i) q)) H := by rw [e9]; exact hP
                have hD : va_D A ((wM cA y E s1 s2 th b) ++ (wS cA S y (stepA b a1 i) q)) := by rw [e9]; exact hD
                obtain ⟨k1, k2, k3, k4, k5⟩ := step_keep (b := b) hw2 hk1 c25
                have hdn := drift_go (b := b) (k := i) (n := t - 1) (a := a1) c25 c33
                rw [show t - 1 + 1 = t by omega, hd] at hdn
                exact ih15 (t - 1) (stepA b a1 i) (hdn.symm) (k1) (k2.trans hN) (by omega) (by omega) H locs hP hD hS ls (lv_sub hl [0, 1, 2] rfl)
              · skip
                have c55 := (nI_eq (a := qPl (movA a1 i) i) (b := 60) (by omega) (by omega)).mp c55
                refine lv_aload_n hx hb dX4_drift_58 rfl (lv_at hl 1 rfl) ?_
                refine lv_iload_n hx hb dX4_drift_59 rfl (lv_at hl 2 rfl) ?_
                refine lv_iconst (v := 2) hx hb dX4_drift_60 (by decide) ?_
                refine cVv (wB := fun (u_8 : Unit) => (wS cA S y (endA (movA a1 i) i 2) q)) (As := [.int (nI i), .int 2]) (rest := []) (wc := (wS cA S y (movA a1 i) q)) ⟨hx, hb, hml, hown, hts⟩ (K_X4_end lch D cA S y (movA a1 i) q i 2 H.size (by omega)) (cwV 2 hts gX4_drift_X4_end rfl rfl rfl (by decide +kernel) ⟨Nat.le_of_ble_eq_true rfl, Nat.le_of_ble_eq_true rfl⟩) hE hP hD hS hA [4, 5, 6, 7, 8, 9, 10, 11, 12, 13, 14] rfl rfl [S 0, S 1, S 2, S 3, S 4, S 5, S 6, S 7, S 8, S 9, S 10] (fun _ => rfl) rfl (fun (u_8 : Unit) => ((wM cA y E s1 s2 th b) ++ (wS cA S y (endA (movA a1 i) i 2) q))) (fun _ => pst_blk (wM cA y E s1 s2 th b) [] (wc := (wS cA S y (movA a1 i) q)) 11 4 rfl rfl rfl rfl rfl rfl) X0.blind (fun _ _ _ => trivial) 4 4 rfl rfl rfl hl.1 rfl rfl (Nat.le_of_ble_eq_true rfl) dX4_drift_61 ⟨Nat.zero_le _, Nat.zero_le _⟩ (fun u_8 H locs h_9 hP hD hS => ?_)
                refine lv_aload_n hx hb dX4_drift_64 rfl (lv_at hl 1 rfl) ?_
                refine va_get (D := D) (ci := 4) (v := .ref (S 7)) (C := RX4) (T := TX4) (N := 13) hx hb hts inX4 hown hE.1 hP 4 rfl rfl 8 (by decide) kf34 (fun _ h9 => h9) rfl dX4_drift_65 ?_
                refine lv_iload_n hx hb dX4_drift_68 rfl (lv_at hl 2 rfl) ?_
                refine lv_iconst (v := 0) hx hb dX4_drift_69 (by decide) ?_
                refine ast hx hb hE hP hD hS 11 rfl (k := i) (by omega) (Nat.le_of_ble_eq_true rfl) (fun z9 => bi (qBu (outA (endA (movA a1 i) i 2) i) z9)) (fun j _ => upd_B (v := false) j) dX4_drift_70 (fun H locs hP hD hS => ?_)
                have hP : va_P D vwCl ((wM cA y E s1 s2 th b) ++ (wS cA S y (outA (endA (movA a1 i) i 2) i) q)) H := hP
                have hD : va_D A ((wM cA y E s1 s2 th b) ++ (wS cA S y (outA (endA (movA a1 i) i 2) i) q)) := hD
                refine lv_goto (tgt := 79) hx hb dX4_drift_71 (by decide) ?_
                refine lv_iinc (v := nI (t - 1)) (lv' := [(2, .int (nI (t - 1))), (0, .ref (S 0)), (1, .int (nI i))]) hx hb dX4_drift_79 hl (k := 0) rfl (dec_nI t (by omega)) (by decide) rfl (fun ls hl => ?_)
                refine lv_goto (tgt := 15) hx hb dX4_drift_82 (by decide) ?_
                have e9 : stepA b a1 i = outA (endA (movA a1 i) i 2) i := step_lost (by omega)
                have hP : va_P D vwCl ((wM cA y E s1 s2 th b) ++ (wS cA S y (stepA b a1 i) q)) H := by rw [e9]; exact hP
                have hD : va_D A ((wM cA y E s1 s2 th b) ++ (wS cA S y (stepA b a1 i) q)) := by rw [e9]; exact hD
                obtain ⟨k1, k2, k3, k4, k5⟩ := step_keep (b := b) hw2 hk1 c25
                have hdn := drift_go (b := b) (k := i) (n := t - 1) (a := a1) c25 c33
                rw [show t - 1 + 1 = t by omega, hd] at hdn
                exact ih15 (t - 1) (stepA b a1 i) (hdn.symm) (k1) (k2.trans hN) (by omega) (by omega) H locs hP hD hS ls (lv_sub hl [0, 1, 2] rfl)
            · skip
              have c33 := bi_1.mp c33
              have ed : driftA b a i = a1 := hd.symm.trans (drift_stop (Or.inr c33) _)
              have hP : va_P D vwCl ((wM cA y E s1 s2 th b) ++ (wS cA S y (driftA b a i) q)) H := by rw [ed]; exact hP
              rw [hQQ]
              exact W.vret hx hb hr (fun t ht hW => ⟨⟨(), rfl, trivial, by show va_P _ _ _ t.heap; rw [ht]; exact hP⟩, hS.F ht⟩) hS.2.2 dX4_drift_36
    exact L15 (bCu b (qLa a i) + 1) (bCu b (qLa a i)) a (rfl) (hw1) (rfl) (hcu.2) (by omega) H locs hP hD hS ls (lv_sub hl [0, 1, 2] rfl)
  rw [hg1, hg2] at hgoal
  exact hgoal

set_option maxHeartbeats 4000000 in
set_option maxRecDepth 100000 in
/-- pass, a minute -/
theorem K_X4_pass_ (lch : Launch) (D : va_G) (cA : ClassId) (S : Nat → Nat) (y : Nat) (a : FSt) (q : Nat → Int32) (E : Nat → Nat) (s1 : Nat) (s2 : Nat) (th : Int32) (b : BSt) (z1 : Nat) (z2 : Nat) (sz : Nat) (hw1 : WFa a) (hwb : WFb b) : Met lch yX4_pass_ wsX4_pass_ ({ frames := 3, cells := 0, slots := 0, locals := 70 }) (Pr D cA [.ref (S 0)] sz ((wM cA y E s1 s2 th b) ++ (wS cA S y a q)) (SX z1 z2 (va_A ((wM cA y E s1 s2 th b) ++ (wS cA S y a q)) sz))) (va_Qv (fun (u : Nat → Int32) => True) (fun (u : Nat → Int32) t => va_P D vwCl ((wM cA y E s1 s2 th b) ++ (wS cA S y (minA b a) u)) t.heap) (va_A ((wM cA y E s1 s2 th b) ++ (wS cA S y a q)) sz)) 0 0 (va_A ((wM cA y E s1 s2 th b) ++ (wS cA S y a q)) sz) := by
  refine Met.ofW (cc := cX4_pass_) (maxL := 3) (ret := none) (by decide) rfl ?_
  intro pg ev s mi args below meth cd s₁ B hml hv
  obtain ⟨hav, hsz, hP, hE, hD, hXs⟩ := hv
  have hx := B.exec
  have hb := B.bytes
  have hr := B.returns
  have hts := atoms_spec (ws := wsX4_pass_) B.pre
  have hown : s.vm.findClass RX4 = some mi.cls := findClass_of_methodNamed B.named
  have hlocks := B.notSynchronized
  clear B
  subst hav
  subst hsz
  have hD := hD.self (sz := s.heap.size)
  generalize hAe : va_A ((wM cA y E s1 s2 th b) ++ (wS cA S y a q)) s.heap.size = A at hD hXs ⊢
  have hA : ∀ q : Nat, s.heap.size ≤ q → A q := fun q h => by rw [← hAe]; exact Or.inr h
  have hS : va_S A s.heap s.heap [] := va_S.rf
  obtain ⟨QQ, hQQ⟩ : ∃ qq9, qq9 = MQ below (va_Qv (fun (u : Nat → Int32) => True) (fun (u : Nat → Int32) t => va_P D vwCl ((wM cA y E s1 s2 th b) ++ (wS cA S y (minA b a) u)) t.heap) A) ([.ref (S 0)] : List Value).toArray s 0 0 A := ⟨_, rfl⟩
  rw [← hQQ]
  have hl := lv_entry ([.ref (S 0)]) (n := 3) (Nat.le_of_ble_eq_true rfl)
  rw [lg_entry_eq]
  generalize (lg_sl ([.ref (S 0)]) ++ List.replicate (3 - (lg_sl ([.ref (S 0)])).length) Slot.unset).toArray = ls at hl ⊢
  have hl : lv_has ls 3 [(0, .ref (S 0))] := hl
  have kf56 := hts (.fieldLink RX4 56 "LanternWeirsModel$State" "lanterns" "I") (by decide +kernel)
  have inX4 : ∀ w ∈ u_ws RX4 TX4 13, w ∈ wsX4_pass_ := by decide +kernel
  have kf52 := hts (.fieldLink RX4 52 "LanternWeirsModel$State" "minute" "I") (by decide +kernel)
  have kf37 := hts (.fieldLink RX4 37 "LanternWeirsModel$State" "state" "[I") (by decide +kernel)
  have kf34 := hts (.fieldLink RX4 34 "LanternWeirsModel$State" "burns" "[I") (by decide +kernel)
  have kf28 := hts (.fieldLink RX4 28 "LanternWeirsModel$State" "wax" "[I") (by decide +kernel)
  have kf43 := hts (.fieldLink RX4 43 "LanternWeirsModel$State" "order" "[I") (by decide +kernel)
  obtain ⟨H, locs, hP, hS, hgo⟩ : ∃ H locs, va_P D vwCl ((wM cA y E s1 s2 th b) ++ (wS cA S y a q)) H ∧ va_S A s.heap H locs ∧ (H = s.heap ∧ locs = []) := ⟨_, _, hP, hS, rfl, rfl⟩
  obtain ⟨hg1, hg2⟩ := hgo
  have hgoal : W pg lch ev (headSpec wsX4_pass_ ({ frames := 3, cells := 0, slots := 0, locals := 70 })).room s mi ([.ref (S 0)] : List Value).toArray below meth cd H locs 0 0 QQ (F0 mi 0 ls []) := by
    have hn := hw1.1
    have hom := (ord_ok a).1
    refine lv_aload_n hx hb dX4_pass__0 rfl (lv_at hl 0 rfl) ?_
    refine cVi (wB := fun (u : Nat → Int32) => (wS cA S y a u)) (As := []) (rest := []) (wc := (wS cA S y a q)) ⟨hx, hb, hml, hown, hts⟩ (K_X4_sort lch D cA S y a q H.size (by first | assumption | omega)) (cwV 0 hts gX4_pass__X4_sort rfl rfl rfl (by decide +kernel) ⟨Nat.le_of_ble_eq_true rfl, Nat.le_of_ble_eq_true rfl⟩) hE hP hD hS hA [4, 5, 6, 7, 8, 9, 10, 11, 12, 13, 14] rfl rfl [S 0, S 1, S 2, S 3, S 4, S 5, S 6, S 7, S 8, S 9, S 10] (fun _ => rfl) rfl (fun (u : Nat → Int32) => ((wM cA y E s1 s2 th b) ++ (wS cA S y a u))) (fun _ => pst_blk (wM cA y E s1 s2 th b) [] (wc := (wS cA S y a q)) 11 4 rfl rfl rfl rfl rfl rfl) X0.blind (fun _ _ _ => trivial) 4 4 rfl rfl rfl hl.1 rfl rfl (Nat.le_of_ble_eq_true rfl) dX4_pass__1 ⟨Nat.zero_le _, Nat.zero_le _⟩ (fun r_1 u H locs hu hP hD hS => ?_)
    obtain ⟨r_1e, hu⟩ := hu
    subst r_1e
    refine lv_istore_n (lv' := [(1, .int (nI (ordM a))), (0, .ref (S 0))]) hx hb dX4_pass__4 rfl hl (by decide) rfl (fun ls hl => ?_)
    refine lv_iconst (v := 0) hx hb dX4_pass__5 (by decide) ?_
    refine lv_istore_n (lv' := [(2, .int 0), (1, .int (nI (ordM a))), (0, .ref (S 0))]) hx hb dX4_pass__6 rfl hl (by decide) rfl (fun ls hl => ?_)
    have L7 : ∀ (fu7 : Nat) (j : Nat), (j ≤ ordM a) → ordM a - j < fu7 → ∀ (H : Heap) (locs : List Loc), va_P D vwCl ((wM cA y E s1 s2 th b) ++ (wS cA S y (floatA b (ordF a) j a) u)) H → va_D A ((wM cA y E s1 s2 th b) ++ (wS cA S y (floatA b (ordF a) j a) u)) → va_S A s.heap H locs → ∀ ls : Array Slot, lv_has ls 3 [(2, .int (nI j)), (1, .int (nI (ordM a))), (0, .ref (S 0))] → W pg lch ev (headSpec wsX4_pass_ ({ frames := 3, cells := 0, slots := 0, locals := 70 })).room s mi ([.ref (S 0)] : List Value).toArray below meth cd H locs 0 0 QQ (F0 mi 7 ls []) := by
      intro fu7
      induction fu7 with
      | zero => intro j hj hms; exact absurd hms (Nat.not_lt_zero _)
      | succ fu7 ih7 =>
        intro j hj hms7 H locs hP hD hS ls hl
        obtain ⟨f1, f2, f3, f4⟩ := float_keep (b := b) (o := ordF a) (a := a) j hw1 (fun k hk => ((ord_ok a).2 k (by omega)).1)
        refine lv_iload_n hx hb dX4_pass__7 rfl (lv_at hl 0 rfl) ?_
        refine lv_iload_n hx hb dX4_pass__8 rfl (lv_at hl 1 rfl) ?_
        refine lv_icmp_ge (tgt := 28) hx hb dX4_pass__9 (by decide) (fun c9 => ?_) (fun c9 => ?_)
        · skip
          have c9 := (nI_leI (a := ordM a) (b := j) (by omega) (by omega)).mp c9
          have ej : j = ordM a := by omega
          rw [ej] at hP hD f1 f2
          refine lv_iconst (v := 0) hx hb dX4_pass__28 (by decide) ?_
          refine lv_istore_n (lv' := [(2, .int 0), (1, .int (nI (ordM a))), (0, .ref (S 0))]) hx hb dX4_pass__29 rfl hl (by decide) rfl (fun ls hl => ?_)
          have L30 : ∀ (fu30 : Nat) (k : Nat), (k ≤ qN a) → qN a - k < fu30 → ∀ (H : Heap) (locs : List Loc), va_P D vwCl ((wM cA y E s1 s2 th b) ++ (wS cA S y (burnA k (floatA b (ordF a) (ordM a) a)) u)) H → va_D A ((wM cA y E s1 s2 th b) ++ (wS cA S y (burnA k (floatA b (ordF a) (ordM a) a)) u)) → va_S A s.heap H locs → ∀ ls : Array Slot, lv_has ls 3 [(2, .int (nI k)), (1, .int (nI (ordM a))), (0, .ref (S 0))] → W pg lch ev (headSpec wsX4_pass_ ({ frames := 3, cells := 0, slots := 0, locals := 70 })).room s mi ([.ref (S 0)] : List Value).toArray below meth cd H locs 0 0 QQ (F0 mi 30 ls []) := by
            intro fu30
            induction fu30 with
            | zero => intro k hk2 hms; exact absurd hms (Nat.not_lt_zero _)
            | succ fu30 ih30 =>
              intro k hk2 hms30 H locs hP hD hS ls hl
              have hwb2 := WFa_burn f1 k
              obtain ⟨b1, b2, b3, b4, b5, b6⟩ := burn_same (floatA b (ordF a) (ordM a) a) k
              rw [f2] at b1
              refine lv_iload_n hx hb dX4_pass__30 rfl (lv_at hl 0 rfl) ?_
              refine lv_aload_n hx hb dX4_pass__31 rfl (lv_at hl 2 rfl) ?_
              refine va_get (D := D) (ci := 4) (v := .int (nI (qN (burnA k (floatA b (ordF a) (ordM a) a))))) (C := RX4) (T := TX4) (N := 13) hx hb hts inX4 hown hE.1 hP 4 rfl rfl 1 (by decide) kf56 (fun _ h9 => h9) rfl dX4_pass__32 ?_
              refine lv_icmp_ge (tgt := 91) hx hb dX4_pass__35 (by decide) (fun c35 => ?_) (fun c35 => ?_)
              · skip
                have c35 := (nI_leI (a := qN (burnA k (floatA b (ordF a) (ordM a) a))) (b := k) (by omega) (by omega)).mp c35
                have ek : k = qN a := by omega
                rw [ek] at hP hD
                refine lv_aload_n hx hb dX4_pass__91 rfl (lv_at hl 2 rfl) ?_
                refine lv_dup hx hb dX4_pass__92 rfl ?_
                refine va_get (D := D) (ci := 4) (v := .int (qM (burnA (qN a) (floatA b (ordF a) (ordM a) a)))) (C := RX4) (T := TX4) (N := 13) hx hb hts inX4 hown hE.1 hP 4 rfl rfl 0 (by decide) kf52 (fun _ h9 => h9) rfl dX4_pass__93 ?_
                refine lv_iconst (v := 1) hx hb dX4_pass__96 (by decide) ?_
                refine lv_iadd hx hb dX4_pass__97 ?_
                refine va_put (D := D) (ci := 4) (v := .int ((qM (burnA (qN a) (floatA b (ordF a) (ordM a) a))) + 1)) (ty := .int) (C := RX4) (T := TX4) (N := 13) hx hb hts inX4 tyX4 tyX4_ok nmX4 hown hE.1 hP hD hS 4 rfl rfl 0 (by decide) kf52 (fun _ h9 => h9) rfl (by decide +kernel) rfl rfl (Nat.le_of_ble_eq_true rfl) dX4_pass__98 (fun H locs hP hD hS => ?_)
                have hP : va_P D vwCl ((wM cA y E s1 s2 th b) ++ (wS cA S y (tickA (burnA (qN a) (floatA b (ordF a) (ordM a) a))) u)) H := hP
                have hD : va_D A ((wM cA y E s1 s2 th b) ++ (wS cA S y (tickA (burnA (qN a) (floatA b (ordF a) (ordM a) a))) u)) := hD
                rw [hQQ]
                exact W.vret hx hb hr (fun t ht hW => ⟨⟨u, rfl, trivial, by show va_P _ _ _ t.heap; rw [ht]; exact hP⟩, hS.F ht⟩) hS.2.2 dX4_pass__101
              · skip
                have c35 := (not_congr (nI_leI (a := qN (burnA k (floatA b (ordF a) (ordM a) a))) (b := k) (by omega) (by omega))).mp c35
                obtain ⟨w1, w2, w3, w4, w5, w6, w7, w8⟩ := hwb2.2 k (by omega)
                refine lv_aload_n hx hb dX4_pass__38 rfl (lv_at hl 2 rfl) ?_
                refine va_get (D := D) (ci := 4) (v := .ref (S 8)) (C := RX4) (T := TX4) (N := 13) hx hb hts inX4 hown hE.1 hP 4 rfl rfl 9 (by decide) kf37 (fun _ h9 => h9) rfl dX4_pass__39 ?_
                refine lv_iload_n hx hb dX4_pass__42 rfl (lv_at hl 0 rfl) ?_
                refine ald hx hb hE hP 12 rfl (k := k) (by omega) (Nat.le_of_ble_eq_true rfl) (v := nI (qSt (burnA k (floatA b (ordF a) (ordM a) a)) k)) rfl dX4_pass__43 ?_
                refine lv_if_ne (tgt := 85) hx hb dX4_pass__44 (by decide) (fun c44 => ?_) (fun c44 => ?_)
                · skip
                  have c44 := (not_congr (nI_eq (a := qSt (burnA k (floatA b (ordF a) (ordM a) a)) k) (b := 0) (by omega) (by omega))).mp c44
                  refine lv_iinc (v := nI (k + 1)) (lv' := [(2, .int (nI (k + 1))), (1, .int (nI (ordM a))), (0, .ref (S 0))]) hx hb dX4_pass__85 hl (k := 0) rfl (nI_add k 1) (by decide) rfl (fun ls hl => ?_)
                  refine lv_goto (tgt := 30) hx hb dX4_pass__88 (by decide) ?_
                  have e9 : waxA (burnA k (floatA b (ordF a) (ordM a) a)) k = burnA k (floatA b (ordF a) (ordM a) a) := if_neg (fun q => c44 q.1)
                  have hP : va_P D vwCl ((wM cA y E s1 s2 th b) ++ (wS cA S y (burnA (k + 1) (floatA b (ordF a) (ordM a) a)) u)) H := by show va_P D vwCl ((wM cA y E s1 s2 th b) ++ (wS cA S y (waxA (burnA k (floatA b (ordF a) (ordM a) a)) k) u)) H; rw [e9]; exact hP
                  have hD : va_D A ((wM cA y E s1 s2 th b) ++ (wS cA S y (burnA (k + 1) (floatA b (ordF a) (ordM a) a)) u)) := by show va_D A ((wM cA y E s1 s2 th b) ++ (wS cA S y (waxA (burnA k (floatA b (ordF a) (ordM a) a)) k) u)); rw [e9]; exact hD
                  exact ih30 (k + 1) (by omega) (by omega) H locs hP hD hS ls (lv_sub hl [0, 1, 2] rfl)
                · skip
                  have c44 := (nI_eq (a := qSt (burnA k (floatA b (ordF a) (ordM a) a)) k) (b := 0) (by omega) (by omega)).mp c44
                  refine lv_aload_n hx hb dX4_pass__47 rfl (lv_at hl 2 rfl) ?_
                  refine va_get (D := D) (ci := 4) (v := .ref (S 7)) (C := RX4) (T := TX4) (N := 13) hx hb hts inX4 hown hE.1 hP 4 rfl rfl 8 (by decide) kf34 (fun _ h9 => h9) rfl dX4_pass__48 ?_
                  refine lv_iload_n hx hb dX4_pass__51 rfl (lv_at hl 0 rfl) ?_
                  refine ald hx hb hE hP 11 rfl (k := k) (by omega) (Nat.le_of_ble_eq_true rfl) (v := bi (qBu (burnA k (floatA b (ordF a) (ordM a) a)) k)) rfl dX4_pass__52 ?_
                  refine lv_if_ne (tgt := 59) hx hb dX4_pass__53 (by decide) (fun c53 => ?_) (fun c53 => ?_)
                  · skip
                    have c53 := bi_1.mp c53
                    have hx0 := w8 c44 c53
                    have hxx : qWx (uWx (burnA k (floatA b (ordF a) (ordM a) a)) (up (qWx (burnA k (floatA b (ordF a) (ordM a) a))) k (qWx (burnA k (floatA b (ordF a) (ordM a) a)) k - 1))) k = qWx (burnA k (floatA b (ordF a) (ordM a) a)) k - 1 := up_s
                    refine lv_aload_n hx hb dX4_pass__59 rfl (lv_at hl 2 rfl) ?_
                    refine va_get (D := D) (ci := 4) (v := .ref (S 5)) (C := RX4) (T := TX4) (N := 13) hx hb hts inX4 hown hE.1 hP 4 rfl rfl 6 (by decide) kf28 (fun _ h9 => h9) rfl dX4_pass__60 ?_
                    refine lv_iload_n hx hb dX4_pass__63 rfl (lv_at hl 0 rfl) ?_
                    refine lv_dup2_11 hx hb dX4_pass__64 rfl rfl ?_
                    refine ald hx hb hE hP 9 rfl (k := k) (by omega) (Nat.le_of_ble_eq_true rfl) (v := nI (qWx (burnA k (floatA b (ordF a) (ordM a) a)) k)) rfl dX4_pass__65 ?_
                    refine lv_iconst (v := 1) hx hb dX4_pass__66 (by decide) ?_
                    refine lv_isub hx hb dX4_pass__67 ?_
                    refine top_i (y := nI ((qWx (burnA k (floatA b (ordF a) (ordM a) a)) k) - 1)) (pk_sub (a := qWx (burnA k (floatA b (ordF a) (ordM a) a)) k) (b := 1) (by omega)) ?_
                    refine ast hx hb hE hP hD hS 9 rfl (k := k) (by omega) (Nat.le_of_ble_eq_true rfl) (fun z9 => nI (qWx (uWx (burnA k (floatA b (ordF a) (ordM a) a)) (up (qWx (burnA k (floatA b (ordF a) (ordM a) a))) k (qWx (burnA k (floatA b (ordF a) (ordM a) a)) k - 1))) z9)) (fun j _ => upd_N j) dX4_pass__68 (fun H locs hP hD hS => ?_)
                    have hP : va_P D vwCl ((wM cA y E s1 s2 th b) ++ (wS cA S y (uWx (burnA k (floatA b (ordF a) (ordM a) a)) (up (qWx (burnA k (floatA b (ordF a) (ordM a) a))) k (qWx (burnA k (floatA b (ordF a) (ordM a) a)) k - 1))) u)) H := hP
                    have hD : va_D A ((wM cA y E s1 s2 th b) ++ (wS cA S y (uWx (burnA k (floatA b (ordF a) (ordM a) a)) (up (qWx (burnA k (floatA b (ordF a) (ordM a) a))) k (qWx (burnA k (floatA b (ordF a) (ordM a) a)) k - 1))) u)) := hD
                    refine lv_aload_n hx hb dX4_pass__69 rfl (lv_at hl 2 rfl) ?_
                    refine va_get (D := D) (ci := 4) (v := .ref (S 5)) (C := RX4) (T := TX4) (N := 13) hx hb hts inX4 hown hE.1 hP 4 rfl rfl 6 (by decide) kf28 (fun _ h9 => h9) rfl dX4_pass__70 ?_
                    refine lv_iload_n hx hb dX4_pass__73 rfl (lv_at hl 0 rfl) ?_
                    refine ald hx hb hE hP 9 rfl (k := k) (by omega) (Nat.le_of_ble_eq_true rfl) (v := nI (qWx (uWx (burnA k (floatA b (ordF a) (ordM a) a)) (up (qWx (burnA k (floatA b (ordF a) (ordM a) a))) k (qWx (burnA k (floatA b (ordF a) (ordM a) a)) k - 1))) k)) rfl dX4_pass__74 ?_
                    refine lv_if_ne (tgt := 85) hx hb dX4_pass__75 (by decide) (fun c75 => ?_) (fun c75 => ?_)
                    · skip
                      have c75 := (not_congr (nI_eq (a := qWx (uWx (burnA k (floatA b (ordF a) (ordM a) a)) (up (qWx (burnA k (floatA b (ordF a) (ordM a) a))) k (qWx (burnA k (floatA b (ordF a) (ordM a) a)) k - 1))) k) (b := 0) (by omega) (by omega))).mp c75
                      refine lv_iinc (v := nI (k + 1)) (lv' := [(2, .int (nI (k + 1))), (1, .int (nI (ordM a))), (0, .ref (S 0))]) hx hb dX4_pass__85 hl (k := 0) rfl (nI_add k 1) (by decide) rfl (fun ls hl => ?_)
                      refine lv_goto (tgt := 30) hx hb dX4_pass__88 (by decide) ?_
                      have e9 : waxA (burnA k (floatA b (ordF a) (ordM a) a)) k = uWx (burnA k (floatA b (ordF a) (ordM a) a)) (up (qWx (burnA k (floatA b (ordF a) (ordM a) a))) k (qWx (burnA k (floatA b (ordF a) (ordM a) a)) k - 1)) := by unfold waxA; rw [if_pos ⟨c44, c53⟩, if_neg (by rw [← hxx]; exact c75)]
                      have hP : va_P D vwCl ((wM cA y E s1 s2 th b) ++ (wS cA S y (burnA (k + 1) (floatA b (ordF a) (ordM a) a)) u)) H := by show va_P D vwCl ((wM cA y E s1 s2 th b) ++ (wS cA S y (waxA (burnA k (floatA b (ordF a) (ordM a) a)) k) u)) H; rw [e9]; exact hP
                      have hD : va_D A ((wM cA y E s1 s2 th b) ++ (wS cA S y (burnA (k + 1) (floatA b (ordF a) (ordM a) a)) u)) := by show va_D A ((wM cA y E s1 s2 th b) ++ (wS cA S y (waxA (burnA k (floatA b (ordF a) (ordM a) a)) k) u)); rw [e9]; exact hD
                      exact ih30 (k + 1) (by omega) (by omega) H locs hP hD hS ls (lv_sub hl [0, 1, 2] rfl)
                    · skip
                      have c75 := (nI_eq (a := qWx (uWx (burnA k (floatA b (ordF a) (ordM a) a)) (up (qWx (burnA k (floatA b (ordF a) (ordM a) a))) k (qWx (burnA k (floatA b (ordF a) (ordM a) a)) k - 1))) k) (b := 0) (by omega) (by omega)).mp c75
                      refine lv_aload_n hx hb dX4_pass__78 rfl (lv_at hl 2 rfl) ?_
                      refine va_get (D := D) (ci := 4) (v := .ref (S 7)) (C := RX4) (T := TX4) (N := 13) hx hb hts inX4 hown hE.1 hP 4 rfl rfl 8 (by decide) kf34 (fun _ h9 => h9) rfl dX4_pass__79 ?_
                      refine lv_iload_n hx hb dX4_pass__82 rfl (lv_at hl 0 rfl) ?_
                      refine lv_iconst (v := 0) hx hb dX4_pass__83 (by decide) ?_
                      refine ast hx hb hE hP hD hS 11 rfl (k := k) (by omega) (Nat.le_of_ble_eq_true rfl) (fun z9 => bi (qBu (outA (uWx (burnA k (floatA b (ordF a) (ordM a) a)) (up (qWx (burnA k (floatA b (ordF a) (ordM a) a))) k (qWx (burnA k (floatA b (ordF a) (ordM a) a)) k - 1))) k) z9)) (fun j _ => upd_B (v := false) j) dX4_pass__84 (fun H locs hP hD hS => ?_)
                      have hP : va_P D vwCl ((wM cA y E s1 s2 th b) ++ (wS cA S y (outA (uWx (burnA k (floatA b (ordF a) (ordM a) a)) (up (qWx (burnA k (floatA b (ordF a) (ordM a) a))) k (qWx (burnA k (floatA b (ordF a) (ordM a) a)) k - 1))) k) u)) H := hP
                      have hD : va_D A ((wM cA y E s1 s2 th b) ++ (wS cA S y (outA (uWx (burnA k (floatA b (ordF a) (ordM a) a)) (up (qWx (burnA k (floatA b (ordF a) (ordM a) a))) k (qWx (burnA k (floatA b (ordF a) (ordM a) a)) k - 1))) k) u)) := hD
                      refine lv_iinc (v := nI (k + 1)) (lv' := [(2, .int (nI (k + 1))), (1, .int (nI (ordM a))), (0, .ref (S 0))]) hx hb dX4_pass__85 hl (k := 0) rfl (nI_add k 1) (by decide) rfl (fun ls hl => ?_)
                      refine lv_goto (tgt := 30) hx hb dX4_pass__88 (by decide) ?_
                      have e9 : waxA (burnA k (floatA b (ordF a) (ordM a) a)) k = outA (uWx (burnA k (floatA b (ordF a) (ordM a) a)) (up (qWx (burnA k (floatA b (ordF a) (ordM a) a))) k (qWx (burnA k (floatA b (ordF a) (ordM a) a)) k - 1))) k := by unfold waxA; rw [if_pos ⟨c44, c53⟩, if_pos (by rw [← hxx]; exact c75)]
                      have hP : va_P D vwCl ((wM cA y E s1 s2 th b) ++ (wS cA S y (burnA (k + 1) (floatA b (ordF a) (ordM a) a)) u)) H := by show va_P D vwCl ((wM cA y E s1 s2 th b) ++ (wS cA S y (waxA (burnA k (floatA b (ordF a) (ordM a) a)) k) u)) H; rw [e9]; exact hP
                      have hD : va_D A ((wM cA y E s1 s2 th b) ++ (wS cA S y (burnA (k + 1) (floatA b (ordF a) (ordM a) a)) u)) := by show va_D A ((wM cA y E s1 s2 th b) ++ (wS cA S y (waxA (burnA k (floatA b (ordF a) (ordM a) a)) k) u)); rw [e9]; exact hD
                      exact ih30 (k + 1) (by omega) (by omega) H locs hP hD hS ls (lv_sub hl [0, 1, 2] rfl)
                  · skip
                    have c53 := bi_0.mp c53
                    refine lv_goto (tgt := 85) hx hb dX4_pass__56 (by decide) ?_
                    refine lv_iinc (v := nI (k + 1)) (lv' := [(2, .int (nI (k + 1))), (1, .int (nI (ordM a))), (0, .ref (S 0))]) hx hb dX4_pass__85 hl (k := 0) rfl (nI_add k 1) (by decide) rfl (fun ls hl => ?_)
                    refine lv_goto (tgt := 30) hx hb dX4_pass__88 (by decide) ?_
                    have e9 : waxA (burnA k (floatA b (ordF a) (ordM a) a)) k = burnA k (floatA b (ordF a) (ordM a) a) := if_neg (fun q => absurd q.2 (by rw [c53]; decide))
                    have hP : va_P D vwCl ((wM cA y E s1 s2 th b) ++ (wS cA S y (burnA (k + 1) (floatA b (ordF a) (ordM a) a)) u)) H := by show va_P D vwCl ((wM cA y E s1 s2 th b) ++ (wS cA S y (waxA (burnA k (floatA b (ordF a) (ordM a) a)) k) u)) H; rw [e9]; exact hP
                    have hD : va_D A ((wM cA y E s1 s2 th b) ++ (wS cA S y (burnA (k + 1) (floatA b (ordF a) (ordM a) a)) u)) := by show va_D A ((wM cA y E s1 s2 th b) ++ (wS cA S y (waxA (burnA k (floatA b (ordF a) (ordM a) a)) k) u)); rw [e9]; exact hD
                    exact ih30 (k + 1) (by omega) (by omega) H locs hP hD hS ls (lv_sub hl [0, 1, 2] rfl)
          exact L30 (qN a + 1) 0 (Nat.zero_le _) (by omega) H locs hP hD hS ls (lv_sub hl [0, 1, 2] rfl)
        · skip
          have c9 := (not_congr (nI_leI (a := ordM a) (b := j) (by omega) (by omega))).mp c9
          refine lv_aload_n hx hb dX4_pass__12 rfl (lv_at hl 2 rfl) ?_
          refine lv_aload_n hx hb dX4_pass__13 rfl (lv_at hl 2 rfl) ?_
          refine va_get (D := D) (ci := 4) (v := .ref (S 10)) (C := RX4) (T := TX4) (N := 13) hx hb hts inX4 hown hE.1 hP 4 rfl rfl 11 (by decide) kf43 (fun _ h9 => h9) rfl dX4_pass__14 ?_
          refine lv_iload_n hx hb dX4_pass__17 rfl (lv_at hl 0 rfl) ?_
          refine ald hx hb hE hP 14 rfl (k := j) (by omega) (Nat.le_of_ble_eq_true rfl) (v := u j) rfl dX4_pass__18 ?_
          have hoj := (ord_ok a).2 j (by omega)
          refine top_i (y := nI (ordF a j)) (hu j (by omega)) ?_
          refine cVv (wB := fun (u_4 : Unit) => ((wM cA y E s1 s2 th b) ++ (wS cA S y (driftA b (floatA b (ordF a) j a) (ordF a j)) u))) (As := [.int (nI (ordF a j))]) (rest := []) (wc := ((wM cA y E s1 s2 th b) ++ (wS cA S y (floatA b (ordF a) j a) u))) ⟨hx, hb, hml, hown, hts⟩ (K_X4_drift lch D cA S y (floatA b (ordF a) j a) u E s1 s2 th b z1 z2 (ordF a j) H.size (by rw [f2]; exact hoj.1) (f1) (by first | assumption | omega)) (cwV 1 hts gX4_pass__X4_drift rfl rfl rfl (by decide +kernel) ⟨Nat.le_of_ble_eq_true rfl, Nat.le_of_ble_eq_true rfl⟩) hE hP hD hS hA [0, 1, 2, 3, 4, 5, 6, 7, 8, 9, 10, 11, 12, 13, 14] rfl rfl [y, E 0, E 1, E 2, S 0, S 1, S 2, S 3, S 4, S 5, S 6, S 7, S 8, S 9, S 10] (fun _ => rfl) rfl (fun (u_4 : Unit) => ((wM cA y E s1 s2 th b) ++ (wS cA S y (driftA b (floatA b (ordF a) j a) (ordF a j)) u))) (fun _ => pst_all 15 rfl rfl rfl) (SX.blind z1 z2 _) (fun U hU hW => hXs.at hS (va_free (wc := ((wM cA y E s1 s2 th b) ++ (wS cA S y (floatA b (ordF a) j a) u))) hD hS hA [0, 1, 2, 3, 4, 5, 6, 7, 8, 9, 10, 11, 12, 13, 14] rfl) hU hW) 4 4 rfl rfl rfl hl.1 rfl rfl (Nat.le_of_ble_eq_true rfl) dX4_pass__19 ⟨Nat.zero_le _, Nat.zero_le _⟩ (fun u_4 H locs h_5 hP hD hS => ?_)
          refine lv_iinc (v := nI (j + 1)) (lv' := [(2, .int (nI (j + 1))), (1, .int (nI (ordM a))), (0, .ref (S 0))]) hx hb dX4_pass__22 hl (k := 0) rfl (nI_add j 1) (by decide) rfl (fun ls hl => ?_)
          refine lv_goto (tgt := 7) hx hb dX4_pass__25 (by decide) ?_
          exact ih7 (j + 1) (by omega) (by omega) H locs hP hD hS ls (lv_sub hl [0, 1, 2] rfl)
    exact L7 (ordM a + 1) 0 (Nat.zero_le _) (by omega) H locs hP hD hS ls (lv_sub hl [0, 1, 2] rfl)
  rw [hg1, hg2] at hgoal
  exact hgoal
