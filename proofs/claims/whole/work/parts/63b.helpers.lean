set_option maxHeartbeats 4000000 in
set_option maxRecDepth 100000 in
theorem KL_push (lch : Launch) (hlt : lch.stackTraces = false) (D : va_G) (cA cL : ClassId) (sa : Nat → Nat) (x : Nat) (B F G : Nat → Nat) (o : Nat) (b : BSt) (a : FSt) (c9 q : Nat → Int32) (a2 : FSt) (c2 q2 : Nat → Int32) (v : Nat → Int64) (p0 p1 : Int32) (sz : Nat) (hI : LI b a c9) : Met lch yL_push wsL_push ({ frames := 7, cells := 1, slots := 6, locals := 105 }) (Pr D cA [.ref x, .int p0, .int p1, .ref o] sz (wX cA x B F G b a c9 q a2 c2 q2 ++ wO cL o v) (LX sa D cL (va_A (wX cA x B F G b a c9 q a2 c2 q2 ++ wO cL o v) sz))) (va_Qi (fun (r : Int32) (u : LU) => HP (cdPush a p0 p1) (nI (qLa a (p0).toNatClampNeg)) (b) (uLa a (up (qLa a) (p0).toNatClampNeg (p1).toNatClampNeg)) b a r u) (fun (u : LU) t => va_P D vwCl (wXU cA x B F G u ++ wO cL o u.2.2.2.2.2.2.2) t.heap) (va_A (wX cA x B F G b a c9 q a2 c2 q2 ++ wO cL o v) sz)) 1 6 (va_A (wX cA x B F G b a c9 q a2 c2 q2 ++ wO cL o v) sz) := by
  refine met_ofWH (cc := cL_push) (maxL := 5) (ret := (some .int)) (by decide) rfl ?_
  intro pg ev s mi args below meth cd s₁ B0 hml hv
  obtain ⟨hav, hsz, hP, hE, hD, hXs⟩ := hv
  have hx := B0.exec
  have hb := B0.bytes
  have hr := B0.returns
  have hts := atoms_spec (ws := wsL_push) B0.pre
  have hown : s.vm.findClass RL = some mi.cls := findClass_of_methodNamed B0.named
  have hlocks := B0.notSynchronized
  have htb := vx_table (x := yL_push) B0 (hts (.codeWith yL_push cL_push 5 (some .int) [(0, 10, 13, 13), (0, 10, 17, 20)]) List.mem_cons_self)
  clear B0
  subst hav
  subst hsz
  have hD := hD.self (sz := s.heap.size)
  generalize hAe : va_A (wX cA x B F G b a c9 q a2 c2 q2 ++ wO cL o v) s.heap.size = A at hD hXs ⊢
  have hA : ∀ q : Nat, s.heap.size ≤ q → A q := fun q h => by rw [← hAe]; exact Or.inr h
  have hS : va_S A s.heap s.heap [] := va_S.rf
  have hl := lv_entry ([.ref x, .int p0, .int p1, .ref o]) (n := 5) (Nat.le_of_ble_eq_true rfl)
  rw [lg_entry_eq]
  generalize (lg_sl ([.ref x, .int p0, .int p1, .ref o]) ++ List.replicate (5 - (lg_sl ([.ref x, .int p0, .int p1, .ref o])).length) Slot.unset).toArray = ls at hl ⊢
  have hl : lv_has ls 5 [(0, .ref x), (1, .int p0), (2, .int p1), (3, .ref o)] := hl
  have hP : va_P D vwCl ([] ++ (wX cA x B F G b a c9 q a2 c2 q2 ++ wO cL o v)) s.heap := hP
  have hD : va_D A ([] ++ (wX cA x B F G b a c9 q a2 c2 q2 ++ wO cL o v)) := hD
  refine lv_aload_n hx hb dL_push_0 rfl (lv_at hl 3 rfl) ?_
  refine lv_iconst (v := 0) hx hb dL_push_1 (by decide) ?_
  refine lv_aload_n hx hb dL_push_2 rfl (lv_at hl 0 rfl) ?_
  refine lv_iload_n hx hb dL_push_3 rfl (lv_at hl 1 rfl) ?_
  refine lv_iload_n hx hb dL_push_4 rfl (lv_at hl 2 rfl) ?_
  refine bXVi (S := Nat → Int32) (EXP := fun E => (cdPush a p0 p1 = 1 ∧ E = "java/lang/IndexOutOfBoundsException") ∨ (cdPush a p0 p1 = 2 ∧ E = "java/lang/IllegalStateException")) (wB := fun (u : Nat → Int32) => wX cA x B F G b (uLa a (up (qLa a) (p0).toNatClampNeg (p1).toNatClampNeg)) u q a2 c2 q2) (As := [.int p0, .int p1]) (rest := [.int 0, .ref o]) (pre := []) (wc := wX cA x B F G b a c9 q a2 c2 q2) (suf := wO cL o v) ⟨hx, hb, hml, hown, hts⟩ (K_X3_push lch hlt D cA sa x B F G b a c9 q a2 c2 q2 p0 p1 s.heap.size hI.1 hI.2.2.2.1) (cwV 2 hts gL_push_X3_push rfl rfl rfl (by decide +kernel) ⟨Nat.le_of_ble_eq_true rfl, Nat.le_of_ble_eq_true rfl⟩) hE hP hD hS hA (fun _ => rfl) (TX.blind sa _) (fun U hU hW => hXs.1.at hS hU hW (blk_free hD hS hA)) 0 3 rfl rfl rfl hl.1 rfl rfl (Nat.le_of_ble_eq_true rfl) dL_push_5 ⟨Nat.le_of_ble_eq_true rfl, Nat.le_of_ble_eq_true rfl⟩ (fun E9 ce q9 H locs hEx hP hS hce hcv hcl => ?_) (fun r u H locs hu hP hD hS => ?_)
  · rw [List.nil_append] at hP
    rcases hEx with ⟨hcd, rfl⟩ | ⟨hcd, rfl⟩
    · skip
      refine vx_catch (own := RL) (name := "java/lang/IndexOutOfBoundsException") hown [] ⟨0, 10, 13, 13⟩ [⟨0, 10, 17, 20⟩] htb (fun z hz => by cases hz) rfl (by decide) (hts (.classLink RL 13 "java/lang/IndexOutOfBoundsException") (by decide +kernel)) (exW_use hXs.1.2.1 (.castable "java/lang/IndexOutOfBoundsException" "java/lang/IndexOutOfBoundsException") (by decide +kernel)) hce hcv hcl ?_
      refine lv_astore (lv' := [(4, .ref q9), (0, .ref x), (1, .int p0), (2, .int p1), (3, .ref o)]) hx hb dL_push_13 hl (by decide) rfl (fun ls hl => ?_)
      refine lv_iconst (v := 1) hx hb dL_push_15 (by decide) ?_
      refine W.widen (k := 1) (n := 6) (Nat.le_of_ble_eq_true rfl) (Nat.le_of_ble_eq_true rfl) ?_
      exact W.iret (v := 1) hx hb hr (fun t ht hW => ⟨⟨1, (b, a, c9, q, a2, c2, q2, v), rfl, ⟨by rw [hcd]; rfl, by rw [hcd]; decide, hI.2.2.2.1, fun h => absurd (hcd.symm.trans h) (by decide), fun _ => ⟨rfl, rfl⟩⟩, by show va_P _ _ _ t.heap; rw [ht]; exact hP⟩, hS.F ht⟩) hS.2.2 dL_push_16
    · skip
      refine vx_catch (own := RL) (name := "java/lang/IllegalStateException") hown [⟨0, 10, 13, 13⟩] ⟨0, 10, 17, 20⟩ [] htb (fun z hz => by rw [List.mem_singleton.mp hz]; exact Or.inr ⟨by decide, "java/lang/IndexOutOfBoundsException", hts (.classLink RL 13 "java/lang/IndexOutOfBoundsException") (by decide +kernel), hXs.2.2.2.1⟩) rfl (by decide) (hts (.classLink RL 20 "java/lang/IllegalStateException") (by decide +kernel)) (exW_use hXs.1.2.1 (.castable "java/lang/IllegalStateException" "java/lang/IllegalStateException") (by decide +kernel)) hce hcv hcl ?_
      refine lv_astore (lv' := [(4, .ref q9), (0, .ref x), (1, .int p0), (2, .int p1), (3, .ref o)]) hx hb dL_push_17 hl (by decide) rfl (fun ls hl => ?_)
      refine lv_iconst (v := 2) hx hb dL_push_19 (by decide) ?_
      refine W.widen (k := 1) (n := 6) (Nat.le_of_ble_eq_true rfl) (Nat.le_of_ble_eq_true rfl) ?_
      exact W.iret (v := 2) hx hb hr (fun t ht hW => ⟨⟨2, (b, a, c9, q, a2, c2, q2, v), rfl, ⟨by rw [hcd]; rfl, by rw [hcd]; decide, hI.2.2.2.1, fun h => absurd (hcd.symm.trans h) (by decide), fun _ => ⟨rfl, rfl⟩⟩, by show va_P _ _ _ t.heap; rw [ht]; exact hP⟩, hS.F ht⟩) hS.2.2 dL_push_20
  · obtain ⟨hr1, hcd, hcr⟩ := hu
    rw [List.nil_append] at hP hD
    refine lv_i2l (v := r.toInt64) hx hb dL_push_8 rfl ?_
    refine lstO hx hb hXs.2.1 hP hD hS dL_push_9 (fun v1 H locs hv1 hP hS => ?_)
    refine lv_goto (tgt := 21) hx hb dL_push_10 (by decide) ?_
    refine lv_iconst (v := 0) hx hb dL_push_21 (by decide) ?_
    refine W.widen (k := 1) (n := 6) (Nat.le_of_ble_eq_true rfl) (Nat.le_of_ble_eq_true rfl) ?_
    exact W.iret (v := 0) hx hb hr (fun t ht hW => ⟨⟨0, (b, uLa a (up (qLa a) (p0).toNatClampNeg (p1).toNatClampNeg), u, q, a2, c2, q2, v1), rfl, ⟨by rw [hcd]; rfl, by rw [hcd]; decide, hcr, fun _ => ⟨hv1.trans (by rw [hr1]), rfl, rfl⟩, fun h => absurd hcd h⟩, by show va_P _ _ _ t.heap; rw [ht]; exact hP⟩, hS.F ht⟩) hS.2.2 dL_push_22

set_option maxHeartbeats 4000000 in
set_option maxRecDepth 100000 in
theorem KL_light (lch : Launch) (hlt : lch.stackTraces = false) (D : va_G) (cA cL : ClassId) (sa : Nat → Nat) (x : Nat) (B F G : Nat → Nat) (o : Nat) (b : BSt) (a : FSt) (c9 q : Nat → Int32) (a2 : FSt) (c2 q2 : Nat → Int32) (v : Nat → Int64) (p0 : Int32) (sz : Nat) (hI : LI b a c9) : Met lch yL_light wsL_light ({ frames := 7, cells := 1, slots := 6, locals := 106 }) (Pr D cA [.ref x, .int p0, .ref o] sz (wX cA x B F G b a c9 q a2 c2 q2 ++ wO cL o v) (LX sa D cL (va_A (wX cA x B F G b a c9 q a2 c2 q2 ++ wO cL o v) sz))) (va_Qi (fun (r : Int32) (u : LU) => HP (cdLight a p0) (nI (qWx a (p0).toNatClampNeg)) (b) (uBu a (up (qBu a) (p0).toNatClampNeg true)) b a r u) (fun (u : LU) t => va_P D vwCl (wXU cA x B F G u ++ wO cL o u.2.2.2.2.2.2.2) t.heap) (va_A (wX cA x B F G b a c9 q a2 c2 q2 ++ wO cL o v) sz)) 1 6 (va_A (wX cA x B F G b a c9 q a2 c2 q2 ++ wO cL o v) sz) := by
  refine met_ofWH (cc := cL_light) (maxL := 4) (ret := (some .int)) (by decide) rfl ?_
  intro pg ev s mi args below meth cd s₁ B0 hml hv
  obtain ⟨hav, hsz, hP, hE, hD, hXs⟩ := hv
  have hx := B0.exec
  have hb := B0.bytes
  have hr := B0.returns
  have hts := atoms_spec (ws := wsL_light) B0.pre
  have hown : s.vm.findClass RL = some mi.cls := findClass_of_methodNamed B0.named
  have hlocks := B0.notSynchronized
  have htb := vx_table (x := yL_light) B0 (hts (.codeWith yL_light cL_light 4 (some .int) [(0, 9, 12, 13), (0, 9, 15, 20)]) List.mem_cons_self)
  clear B0
  subst hav
  subst hsz
  have hD := hD.self (sz := s.heap.size)
  generalize hAe : va_A (wX cA x B F G b a c9 q a2 c2 q2 ++ wO cL o v) s.heap.size = A at hD hXs ⊢
  have hA : ∀ q : Nat, s.heap.size ≤ q → A q := fun q h => by rw [← hAe]; exact Or.inr h
  have hS : va_S A s.heap s.heap [] := va_S.rf
  have hl := lv_entry ([.ref x, .int p0, .ref o]) (n := 4) (Nat.le_of_ble_eq_true rfl)
  rw [lg_entry_eq]
  generalize (lg_sl ([.ref x, .int p0, .ref o]) ++ List.replicate (4 - (lg_sl ([.ref x, .int p0, .ref o])).length) Slot.unset).toArray = ls at hl ⊢
  have hl : lv_has ls 4 [(0, .ref x), (1, .int p0), (2, .ref o)] := hl
  have hP : va_P D vwCl ([] ++ (wX cA x B F G b a c9 q a2 c2 q2 ++ wO cL o v)) s.heap := hP
  have hD : va_D A ([] ++ (wX cA x B F G b a c9 q a2 c2 q2 ++ wO cL o v)) := hD
  refine lv_aload_n hx hb dL_light_0 rfl (lv_at hl 2 rfl) ?_
  refine lv_iconst (v := 0) hx hb dL_light_1 (by decide) ?_
  refine lv_aload_n hx hb dL_light_2 rfl (lv_at hl 0 rfl) ?_
  refine lv_iload_n hx hb dL_light_3 rfl (lv_at hl 1 rfl) ?_
  refine bXVi (S := Unit) (EXP := fun E => (cdLight a p0 = 1 ∧ E = "java/lang/IndexOutOfBoundsException") ∨ (cdLight a p0 = 2 ∧ E = "java/lang/IllegalStateException")) (wB := fun (u : Unit) => wX cA x B F G b (uBu a (up (qBu a) (p0).toNatClampNeg true)) c9 q a2 c2 q2) (As := [.int p0]) (rest := [.int 0, .ref o]) (pre := []) (wc := wX cA x B F G b a c9 q a2 c2 q2) (suf := wO cL o v) ⟨hx, hb, hml, hown, hts⟩ (K_X3_light lch hlt D cA sa x B F G b a c9 q a2 c2 q2 p0 s.heap.size hI.1) (cwV 1 hts gL_light_X3_light rfl rfl rfl (by decide +kernel) ⟨Nat.le_of_ble_eq_true rfl, Nat.le_of_ble_eq_true rfl⟩) hE hP hD hS hA (fun _ => rfl) (TX.blind sa _) (fun U hU hW => hXs.1.at hS hU hW (blk_free hD hS hA)) 0 3 rfl rfl rfl hl.1 rfl rfl (Nat.le_of_ble_eq_true rfl) dL_light_4 ⟨Nat.le_of_ble_eq_true rfl, Nat.le_of_ble_eq_true rfl⟩ (fun E9 ce q9 H locs hEx hP hS hce hcv hcl => ?_) (fun r u H locs hu hP hD hS => ?_)
  · rw [List.nil_append] at hP
    rcases hEx with ⟨hcd, rfl⟩ | ⟨hcd, rfl⟩
    · skip
      refine vx_catch (own := RL) (name := "java/lang/IndexOutOfBoundsException") hown [] ⟨0, 9, 12, 13⟩ [⟨0, 9, 15, 20⟩] htb (fun z hz => by cases hz) rfl (by decide) (hts (.classLink RL 13 "java/lang/IndexOutOfBoundsException") (by decide +kernel)) (exW_use hXs.1.2.1 (.castable "java/lang/IndexOutOfBoundsException" "java/lang/IndexOutOfBoundsException") (by decide +kernel)) hce hcv hcl ?_
      refine lv_astore_n (lv' := [(3, .ref q9), (0, .ref x), (1, .int p0), (2, .ref o)]) hx hb dL_light_12 rfl hl (by decide) rfl (fun ls hl => ?_)
      refine lv_iconst (v := 1) hx hb dL_light_13 (by decide) ?_
      refine W.widen (k := 1) (n := 6) (Nat.le_of_ble_eq_true rfl) (Nat.le_of_ble_eq_true rfl) ?_
      exact W.iret (v := 1) hx hb hr (fun t ht hW => ⟨⟨1, (b, a, c9, q, a2, c2, q2, v), rfl, ⟨by rw [hcd]; rfl, by rw [hcd]; decide, hI.2.2.2.1, fun h => absurd (hcd.symm.trans h) (by decide), fun _ => ⟨rfl, rfl⟩⟩, by show va_P _ _ _ t.heap; rw [ht]; exact hP⟩, hS.F ht⟩) hS.2.2 dL_light_14
    · skip
      refine vx_catch (own := RL) (name := "java/lang/IllegalStateException") hown [⟨0, 9, 12, 13⟩] ⟨0, 9, 15, 20⟩ [] htb (fun z hz => by rw [List.mem_singleton.mp hz]; exact Or.inr ⟨by decide, "java/lang/IndexOutOfBoundsException", hts (.classLink RL 13 "java/lang/IndexOutOfBoundsException") (by decide +kernel), hXs.2.2.2.1⟩) rfl (by decide) (hts (.classLink RL 20 "java/lang/IllegalStateException") (by decide +kernel)) (exW_use hXs.1.2.1 (.castable "java/lang/IllegalStateException" "java/lang/IllegalStateException") (by decide +kernel)) hce hcv hcl ?_
      refine lv_astore_n (lv' := [(3, .ref q9), (0, .ref x), (1, .int p0), (2, .ref o)]) hx hb dL_light_15 rfl hl (by decide) rfl (fun ls hl => ?_)
      refine lv_iconst (v := 2) hx hb dL_light_16 (by decide) ?_
      refine W.widen (k := 1) (n := 6) (Nat.le_of_ble_eq_true rfl) (Nat.le_of_ble_eq_true rfl) ?_
      exact W.iret (v := 2) hx hb hr (fun t ht hW => ⟨⟨2, (b, a, c9, q, a2, c2, q2, v), rfl, ⟨by rw [hcd]; rfl, by rw [hcd]; decide, hI.2.2.2.1, fun h => absurd (hcd.symm.trans h) (by decide), fun _ => ⟨rfl, rfl⟩⟩, by show va_P _ _ _ t.heap; rw [ht]; exact hP⟩, hS.F ht⟩) hS.2.2 dL_light_17
  · obtain ⟨hr1, hcd⟩ := hu
    rw [List.nil_append] at hP hD
    refine lv_i2l (v := r.toInt64) hx hb dL_light_7 rfl ?_
    refine lstO hx hb hXs.2.1 hP hD hS dL_light_8 (fun v1 H locs hv1 hP hS => ?_)
    refine lv_goto (tgt := 18) hx hb dL_light_9 (by decide) ?_
    refine lv_iconst (v := 0) hx hb dL_light_18 (by decide) ?_
    refine W.widen (k := 1) (n := 6) (Nat.le_of_ble_eq_true rfl) (Nat.le_of_ble_eq_true rfl) ?_
    exact W.iret (v := 0) hx hb hr (fun t ht hW => ⟨⟨0, (b, uBu a (up (qBu a) (p0).toNatClampNeg true), c9, q, a2, c2, q2, v1), rfl, ⟨by rw [hcd]; rfl, by rw [hcd]; decide, CRa_bu hI.2.2.2.1, fun _ => ⟨hv1.trans (by rw [hr1]), rfl, rfl⟩, fun h => absurd hcd h⟩, by show va_P _ _ _ t.heap; rw [ht]; exact hP⟩, hS.F ht⟩) hS.2.2 dL_light_19

set_option maxHeartbeats 4000000 in
set_option maxRecDepth 100000 in
theorem KL_blow (lch : Launch) (hlt : lch.stackTraces = false) (D : va_G) (cA cL : ClassId) (sa : Nat → Nat) (x : Nat) (B F G : Nat → Nat) (o : Nat) (b : BSt) (a : FSt) (c9 q : Nat → Int32) (a2 : FSt) (c2 q2 : Nat → Int32) (v : Nat → Int64) (p0 : Int32) (sz : Nat) (hI : LI b a c9) : Met lch yL_blow wsL_blow ({ frames := 7, cells := 1, slots := 6, locals := 103 }) (Pr D cA [.ref x, .int p0, .ref o] sz (wX cA x B F G b a c9 q a2 c2 q2 ++ wO cL o v) (LX sa D cL (va_A (wX cA x B F G b a c9 q a2 c2 q2 ++ wO cL o v) sz))) (va_Qi (fun (r : Int32) (u : LU) => HP (cdBlow a p0) (nI (qWx a (p0).toNatClampNeg)) (b) (outA a (p0).toNatClampNeg) b a r u) (fun (u : LU) t => va_P D vwCl (wXU cA x B F G u ++ wO cL o u.2.2.2.2.2.2.2) t.heap) (va_A (wX cA x B F G b a c9 q a2 c2 q2 ++ wO cL o v) sz)) 1 6 (va_A (wX cA x B F G b a c9 q a2 c2 q2 ++ wO cL o v) sz) := by
  refine met_ofWH (cc := cL_blow) (maxL := 4) (ret := (some .int)) (by decide) rfl ?_
  intro pg ev s mi args below meth cd s₁ B0 hml hv
  obtain ⟨hav, hsz, hP, hE, hD, hXs⟩ := hv
  have hx := B0.exec
  have hb := B0.bytes
  have hr := B0.returns
  have hts := atoms_spec (ws := wsL_blow) B0.pre
  have hown : s.vm.findClass RL = some mi.cls := findClass_of_methodNamed B0.named
  have hlocks := B0.notSynchronized
  have htb := vx_table (x := yL_blow) B0 (hts (.codeWith yL_blow cL_blow 4 (some .int) [(0, 9, 12, 13), (0, 9, 15, 20)]) List.mem_cons_self)
  clear B0
  subst hav
  subst hsz
  have hD := hD.self (sz := s.heap.size)
  generalize hAe : va_A (wX cA x B F G b a c9 q a2 c2 q2 ++ wO cL o v) s.heap.size = A at hD hXs ⊢
  have hA : ∀ q : Nat, s.heap.size ≤ q → A q := fun q h => by rw [← hAe]; exact Or.inr h
  have hS : va_S A s.heap s.heap [] := va_S.rf
  have hl := lv_entry ([.ref x, .int p0, .ref o]) (n := 4) (Nat.le_of_ble_eq_true rfl)
  rw [lg_entry_eq]
  generalize (lg_sl ([.ref x, .int p0, .ref o]) ++ List.replicate (4 - (lg_sl ([.ref x, .int p0, .ref o])).length) Slot.unset).toArray = ls at hl ⊢
  have hl : lv_has ls 4 [(0, .ref x), (1, .int p0), (2, .ref o)] := hl
  have hP : va_P D vwCl ([] ++ (wX cA x B F G b a c9 q a2 c2 q2 ++ wO cL o v)) s.heap := hP
  have hD : va_D A ([] ++ (wX cA x B F G b a c9 q a2 c2 q2 ++ wO cL o v)) := hD
  refine lv_aload_n hx hb dL_blow_0 rfl (lv_at hl 2 rfl) ?_
  refine lv_iconst (v := 0) hx hb dL_blow_1 (by decide) ?_
  refine lv_aload_n hx hb dL_blow_2 rfl (lv_at hl 0 rfl) ?_
  refine lv_iload_n hx hb dL_blow_3 rfl (lv_at hl 1 rfl) ?_
  refine bXVi (S := Unit) (EXP := fun E => (cdBlow a p0 = 1 ∧ E = "java/lang/IndexOutOfBoundsException") ∨ (cdBlow a p0 = 2 ∧ E = "java/lang/IllegalStateException")) (wB := fun (u : Unit) => wX cA x B F G b (outA a (p0).toNatClampNeg) c9 q a2 c2 q2) (As := [.int p0]) (rest := [.int 0, .ref o]) (pre := []) (wc := wX cA x B F G b a c9 q a2 c2 q2) (suf := wO cL o v) ⟨hx, hb, hml, hown, hts⟩ (K_X3_blow lch hlt D cA sa x B F G b a c9 q a2 c2 q2 p0 s.heap.size hI.1) (cwV 1 hts gL_blow_X3_blow rfl rfl rfl (by decide +kernel) ⟨Nat.le_of_ble_eq_true rfl, Nat.le_of_ble_eq_true rfl⟩) hE hP hD hS hA (fun _ => rfl) (TX.blind sa _) (fun U hU hW => hXs.1.at hS hU hW (blk_free hD hS hA)) 0 3 rfl rfl rfl hl.1 rfl rfl (Nat.le_of_ble_eq_true rfl) dL_blow_4 ⟨Nat.le_of_ble_eq_true rfl, Nat.le_of_ble_eq_true rfl⟩ (fun E9 ce q9 H locs hEx hP hS hce hcv hcl => ?_) (fun r u H locs hu hP hD hS => ?_)
  · rw [List.nil_append] at hP
    rcases hEx with ⟨hcd, rfl⟩ | ⟨hcd, rfl⟩
    · skip
      refine vx_catch (own := RL) (name := "java/lang/IndexOutOfBoundsException") hown [] ⟨0, 9, 12, 13⟩ [⟨0, 9, 15, 20⟩] htb (fun z hz => by cases hz) rfl (by decide) (hts (.classLink RL 13 "java/lang/IndexOutOfBoundsException") (by decide +kernel)) (exW_use hXs.1.2.1 (.castable "java/lang/IndexOutOfBoundsException" "java/lang/IndexOutOfBoundsException") (by decide +kernel)) hce hcv hcl ?_
      refine lv_astore_n (lv' := [(3, .ref q9), (0, .ref x), (1, .int p0), (2, .ref o)]) hx hb dL_blow_12 rfl hl (by decide) rfl (fun ls hl => ?_)
      refine lv_iconst (v := 1) hx hb dL_blow_13 (by decide) ?_
      refine W.widen (k := 1) (n := 6) (Nat.le_of_ble_eq_true rfl) (Nat.le_of_ble_eq_true rfl) ?_
      exact W.iret (v := 1) hx hb hr (fun t ht hW => ⟨⟨1, (b, a, c9, q, a2, c2, q2, v), rfl, ⟨by rw [hcd]; rfl, by rw [hcd]; decide, hI.2.2.2.1, fun h => absurd (hcd.symm.trans h) (by decide), fun _ => ⟨rfl, rfl⟩⟩, by show va_P _ _ _ t.heap; rw [ht]; exact hP⟩, hS.F ht⟩) hS.2.2 dL_blow_14
    · skip
      refine vx_catch (own := RL) (name := "java/lang/IllegalStateException") hown [⟨0, 9, 12, 13⟩] ⟨0, 9, 15, 20⟩ [] htb (fun z hz => by rw [List.mem_singleton.mp hz]; exact Or.inr ⟨by decide, "java/lang/IndexOutOfBoundsException", hts (.classLink RL 13 "java/lang/IndexOutOfBoundsException") (by decide +kernel), hXs.2.2.2.1⟩) rfl (by decide) (hts (.classLink RL 20 "java/lang/IllegalStateException") (by decide +kernel)) (exW_use hXs.1.2.1 (.castable "java/lang/IllegalStateException" "java/lang/IllegalStateException") (by decide +kernel)) hce hcv hcl ?_
      refine lv_astore_n (lv' := [(3, .ref q9), (0, .ref x), (1, .int p0), (2, .ref o)]) hx hb dL_blow_15 rfl hl (by decide) rfl (fun ls hl => ?_)
      refine lv_iconst (v := 2) hx hb dL_blow_16 (by decide) ?_
      refine W.widen (k := 1) (n := 6) (Nat.le_of_ble_eq_true rfl) (Nat.le_of_ble_eq_true rfl) ?_
      exact W.iret (v := 2) hx hb hr (fun t ht hW => ⟨⟨2, (b, a, c9, q, a2, c2, q2, v), rfl, ⟨by rw [hcd]; rfl, by rw [hcd]; decide, hI.2.2.2.1, fun h => absurd (hcd.symm.trans h) (by decide), fun _ => ⟨rfl, rfl⟩⟩, by show va_P _ _ _ t.heap; rw [ht]; exact hP⟩, hS.F ht⟩) hS.2.2 dL_blow_17
  · obtain ⟨hr1, hcd⟩ := hu
    rw [List.nil_append] at hP hD
    refine lv_i2l (v := r.toInt64) hx hb dL_blow_7 rfl ?_
    refine lstO hx hb hXs.2.1 hP hD hS dL_blow_8 (fun v1 H locs hv1 hP hS => ?_)
    refine lv_goto (tgt := 18) hx hb dL_blow_9 (by decide) ?_
    refine lv_iconst (v := 0) hx hb dL_blow_18 (by decide) ?_
    refine W.widen (k := 1) (n := 6) (Nat.le_of_ble_eq_true rfl) (Nat.le_of_ble_eq_true rfl) ?_
    exact W.iret (v := 0) hx hb hr (fun t ht hW => ⟨⟨0, (b, outA a (p0).toNatClampNeg, c9, q, a2, c2, q2, v1), rfl, ⟨by rw [hcd]; rfl, by rw [hcd]; decide, CRa_bu hI.2.2.2.1, fun _ => ⟨hv1.trans (by rw [hr1]), rfl, rfl⟩, fun h => absurd hcd h⟩, by show va_P _ _ _ t.heap; rw [ht]; exact hP⟩, hS.F ht⟩) hS.2.2 dL_blow_19

set_option maxHeartbeats 4000000 in
set_option maxRecDepth 100000 in
theorem KL_told (lch : Launch) (hlt : lch.stackTraces = false) (D : va_G) (cA cL : ClassId) (sa : Nat → Nat) (x : Nat) (B F G : Nat → Nat) (o : Nat) (b : BSt) (a : FSt) (c9 q : Nat → Int32) (a2 : FSt) (c2 q2 : Nat → Int32) (v : Nat → Int64) (p0 p1 : Int32) (sz : Nat) (hI : LI b a c9) : Met lch yL_told wsL_told ({ frames := 7, cells := 1, slots := 6, locals := 104 }) (Pr D cA [.ref x, .int p0, .int p1, .ref o] sz (wX cA x B F G b a c9 q a2 c2 q2 ++ wO cL o v) (LX sa D cL (va_A (wX cA x B F G b a c9 q a2 c2 q2 ++ wO cL o v) sz))) (va_Qi (fun (r : Int32) (u : LU) => HP (cdTold a p0 p1) (factA a (p0).toNatClampNeg (p1).toNatClampNeg) (b) (a) b a r u) (fun (u : LU) t => va_P D vwCl (wXU cA x B F G u ++ wO cL o u.2.2.2.2.2.2.2) t.heap) (va_A (wX cA x B F G b a c9 q a2 c2 q2 ++ wO cL o v) sz)) 1 6 (va_A (wX cA x B F G b a c9 q a2 c2 q2 ++ wO cL o v) sz) := by
  refine met_ofWH (cc := cL_told) (maxL := 5) (ret := (some .int)) (by decide) rfl ?_
  intro pg ev s mi args below meth cd s₁ B0 hml hv
  obtain ⟨hav, hsz, hP, hE, hD, hXs⟩ := hv
  have hx := B0.exec
  have hb := B0.bytes
  have hr := B0.returns
  have hts := atoms_spec (ws := wsL_told) B0.pre
  have hown : s.vm.findClass RL = some mi.cls := findClass_of_methodNamed B0.named
  have hlocks := B0.notSynchronized
  have htb := vx_table (x := yL_told) B0 (hts (.codeWith yL_told cL_told 5 (some .int) [(0, 10, 13, 13)]) List.mem_cons_self)
  clear B0
  subst hav
  subst hsz
  have hD := hD.self (sz := s.heap.size)
  generalize hAe : va_A (wX cA x B F G b a c9 q a2 c2 q2 ++ wO cL o v) s.heap.size = A at hD hXs ⊢
  have hA : ∀ q : Nat, s.heap.size ≤ q → A q := fun q h => by rw [← hAe]; exact Or.inr h
  have hS : va_S A s.heap s.heap [] := va_S.rf
  have hl := lv_entry ([.ref x, .int p0, .int p1, .ref o]) (n := 5) (Nat.le_of_ble_eq_true rfl)
  rw [lg_entry_eq]
  generalize (lg_sl ([.ref x, .int p0, .int p1, .ref o]) ++ List.replicate (5 - (lg_sl ([.ref x, .int p0, .int p1, .ref o])).length) Slot.unset).toArray = ls at hl ⊢
  have hl : lv_has ls 5 [(0, .ref x), (1, .int p0), (2, .int p1), (3, .ref o)] := hl
  have hP : va_P D vwCl ([] ++ (wX cA x B F G b a c9 q a2 c2 q2 ++ wO cL o v)) s.heap := hP
  have hD : va_D A ([] ++ (wX cA x B F G b a c9 q a2 c2 q2 ++ wO cL o v)) := hD
  refine lv_aload_n hx hb dL_told_0 rfl (lv_at hl 3 rfl) ?_
  refine lv_iconst (v := 0) hx hb dL_told_1 (by decide) ?_
  refine lv_aload_n hx hb dL_told_2 rfl (lv_at hl 0 rfl) ?_
  refine lv_iload_n hx hb dL_told_3 rfl (lv_at hl 1 rfl) ?_
  refine lv_iload_n hx hb dL_told_4 rfl (lv_at hl 2 rfl) ?_
  refine bXVi (S := Unit) (EXP := fun E => (cdTold a p0 p1 = 1 ∧ E = "java/lang/IndexOutOfBoundsException")) (wB := fun (u : Unit) => wX cA x B F G b a c9 q a2 c2 q2) (As := [.int p0, .int p1]) (rest := [.int 0, .ref o]) (pre := []) (wc := wX cA x B F G b a c9 q a2 c2 q2) (suf := wO cL o v) ⟨hx, hb, hml, hown, hts⟩ (K_X3_told lch hlt D cA sa x B F G b a c9 q a2 c2 q2 p0 p1 s.heap.size hI.1) (cwV 2 hts gL_told_X3_told rfl rfl rfl (by decide +kernel) ⟨Nat.le_of_ble_eq_true rfl, Nat.le_of_ble_eq_true rfl⟩) hE hP hD hS hA (fun _ => rfl) (TX.blind sa _) (fun U hU hW => hXs.1.at hS hU hW (blk_free hD hS hA)) 0 3 rfl rfl rfl hl.1 rfl rfl (Nat.le_of_ble_eq_true rfl) dL_told_5 ⟨Nat.le_of_ble_eq_true rfl, Nat.le_of_ble_eq_true rfl⟩ (fun E9 ce q9 H locs hEx hP hS hce hcv hcl => ?_) (fun r u H locs hu hP hD hS => ?_)
  · rw [List.nil_append] at hP
    obtain ⟨hcd, rfl⟩ := hEx
    · skip
      refine vx_catch (own := RL) (name := "java/lang/IndexOutOfBoundsException") hown [] ⟨0, 10, 13, 13⟩ [] htb (fun z hz => by cases hz) rfl (by decide) (hts (.classLink RL 13 "java/lang/IndexOutOfBoundsException") (by decide +kernel)) (exW_use hXs.1.2.1 (.castable "java/lang/IndexOutOfBoundsException" "java/lang/IndexOutOfBoundsException") (by decide +kernel)) hce hcv hcl ?_
      refine lv_astore (lv' := [(4, .ref q9), (0, .ref x), (1, .int p0), (2, .int p1), (3, .ref o)]) hx hb dL_told_13 hl (by decide) rfl (fun ls hl => ?_)
      refine lv_iconst (v := 1) hx hb dL_told_15 (by decide) ?_
      refine W.widen (k := 1) (n := 6) (Nat.le_of_ble_eq_true rfl) (Nat.le_of_ble_eq_true rfl) ?_
      exact W.iret (v := 1) hx hb hr (fun t ht hW => ⟨⟨1, (b, a, c9, q, a2, c2, q2, v), rfl, ⟨by rw [hcd]; rfl, by rw [hcd]; decide, hI.2.2.2.1, fun h => absurd (hcd.symm.trans h) (by decide), fun _ => ⟨rfl, rfl⟩⟩, by show va_P _ _ _ t.heap; rw [ht]; exact hP⟩, hS.F ht⟩) hS.2.2 dL_told_16
  · obtain ⟨hr1, hcd⟩ := hu
    rw [List.nil_append] at hP hD
    refine lv_i2l (v := r.toInt64) hx hb dL_told_8 rfl ?_
    refine lstO hx hb hXs.2.1 hP hD hS dL_told_9 (fun v1 H locs hv1 hP hS => ?_)
    refine lv_goto (tgt := 17) hx hb dL_told_10 (by decide) ?_
    refine lv_iconst (v := 0) hx hb dL_told_17 (by decide) ?_
    refine W.widen (k := 1) (n := 6) (Nat.le_of_ble_eq_true rfl) (Nat.le_of_ble_eq_true rfl) ?_
    exact W.iret (v := 0) hx hb hr (fun t ht hW => ⟨⟨0, (b, a, c9, q, a2, c2, q2, v1), rfl, ⟨by rw [hcd]; rfl, by rw [hcd]; decide, hI.2.2.2.1, fun _ => ⟨hv1.trans (by rw [hr1]), rfl, rfl⟩, fun h => absurd hcd h⟩, by show va_P _ _ _ t.heap; rw [ht]; exact hP⟩, hS.F ht⟩) hS.2.2 dL_told_18

set_option maxHeartbeats 4000000 in
set_option maxRecDepth 100000 in
theorem KL_next (lch : Launch) (hlt : lch.stackTraces = false) (D : va_G) (cA cL : ClassId) (sa : Nat → Nat) (x : Nat) (B F G : Nat → Nat) (o : Nat) (b : BSt) (a : FSt) (c9 q : Nat → Int32) (a2 : FSt) (c2 q2 : Nat → Int32) (v : Nat → Int64) (p0 : Int32) (sz : Nat) (hI : LI b a c9) : Met lch yL_next wsL_next ({ frames := 7, cells := 1, slots := 6, locals := 107 }) (Pr D cA [.ref x, .int p0, .ref o] sz (wX cA x B F G b a c9 q a2 c2 q2 ++ wO cL o v) (LX sa D cL (va_A (wX cA x B F G b a c9 q a2 c2 q2 ++ wO cL o v) sz))) (va_Qi (fun (r : Int32) (u : LU) => HP (cdLan a p0) (nextA a b (p0).toNatClampNeg) (b) (a) b a r u) (fun (u : LU) t => va_P D vwCl (wXU cA x B F G u ++ wO cL o u.2.2.2.2.2.2.2) t.heap) (va_A (wX cA x B F G b a c9 q a2 c2 q2 ++ wO cL o v) sz)) 1 6 (va_A (wX cA x B F G b a c9 q a2 c2 q2 ++ wO cL o v) sz) := by
  refine met_ofWH (cc := cL_next) (maxL := 4) (ret := (some .int)) (by decide) rfl ?_
  intro pg ev s mi args below meth cd s₁ B0 hml hv
  obtain ⟨hav, hsz, hP, hE, hD, hXs⟩ := hv
  have hx := B0.exec
  have hb := B0.bytes
  have hr := B0.returns
  have hts := atoms_spec (ws := wsL_next) B0.pre
  have hown : s.vm.findClass RL = some mi.cls := findClass_of_methodNamed B0.named
  have hlocks := B0.notSynchronized
  have htb := vx_table (x := yL_next) B0 (hts (.codeWith yL_next cL_next 4 (some .int) [(0, 9, 12, 13)]) List.mem_cons_self)
  clear B0
  subst hav
  subst hsz
  have hD := hD.self (sz := s.heap.size)
  generalize hAe : va_A (wX cA x B F G b a c9 q a2 c2 q2 ++ wO cL o v) s.heap.size = A at hD hXs ⊢
  have hA : ∀ q : Nat, s.heap.size ≤ q → A q := fun q h => by rw [← hAe]; exact Or.inr h
  have hS : va_S A s.heap s.heap [] := va_S.rf
  have hl := lv_entry ([.ref x, .int p0, .ref o]) (n := 4) (Nat.le_of_ble_eq_true rfl)
  rw [lg_entry_eq]
  generalize (lg_sl ([.ref x, .int p0, .ref o]) ++ List.replicate (4 - (lg_sl ([.ref x, .int p0, .ref o])).length) Slot.unset).toArray = ls at hl ⊢
  have hl : lv_has ls 4 [(0, .ref x), (1, .int p0), (2, .ref o)] := hl
  have hP : va_P D vwCl ([] ++ (wX cA x B F G b a c9 q a2 c2 q2 ++ wO cL o v)) s.heap := hP
  have hD : va_D A ([] ++ (wX cA x B F G b a c9 q a2 c2 q2 ++ wO cL o v)) := hD
  refine lv_aload_n hx hb dL_next_0 rfl (lv_at hl 2 rfl) ?_
  refine lv_iconst (v := 0) hx hb dL_next_1 (by decide) ?_
  refine lv_aload_n hx hb dL_next_2 rfl (lv_at hl 0 rfl) ?_
  refine lv_iload_n hx hb dL_next_3 rfl (lv_at hl 1 rfl) ?_
  refine bXVi (S := Unit) (EXP := fun E => (cdLan a p0 = 1 ∧ E = "java/lang/IndexOutOfBoundsException")) (wB := fun (u : Unit) => wX cA x B F G b a c9 q a2 c2 q2) (As := [.int p0]) (rest := [.int 0, .ref o]) (pre := []) (wc := wX cA x B F G b a c9 q a2 c2 q2) (suf := wO cL o v) ⟨hx, hb, hml, hown, hts⟩ (K_X3_next lch hlt D cA sa x B F G b a c9 q a2 c2 q2 p0 s.heap.size hI.1) (cwV 1 hts gL_next_X3_next rfl rfl rfl (by decide +kernel) ⟨Nat.le_of_ble_eq_true rfl, Nat.le_of_ble_eq_true rfl⟩) hE hP hD hS hA (fun _ => rfl) (TX.blind sa _) (fun U hU hW => hXs.1.at hS hU hW (blk_free hD hS hA)) 0 3 rfl rfl rfl hl.1 rfl rfl (Nat.le_of_ble_eq_true rfl) dL_next_4 ⟨Nat.le_of_ble_eq_true rfl, Nat.le_of_ble_eq_true rfl⟩ (fun E9 ce q9 H locs hEx hP hS hce hcv hcl => ?_) (fun r u H locs hu hP hD hS => ?_)
  · rw [List.nil_append] at hP
    obtain ⟨hcd, rfl⟩ := hEx
    · skip
      refine vx_catch (own := RL) (name := "java/lang/IndexOutOfBoundsException") hown [] ⟨0, 9, 12, 13⟩ [] htb (fun z hz => by cases hz) rfl (by decide) (hts (.classLink RL 13 "java/lang/IndexOutOfBoundsException") (by decide +kernel)) (exW_use hXs.1.2.1 (.castable "java/lang/IndexOutOfBoundsException" "java/lang/IndexOutOfBoundsException") (by decide +kernel)) hce hcv hcl ?_
      refine lv_astore_n (lv' := [(3, .ref q9), (0, .ref x), (1, .int p0), (2, .ref o)]) hx hb dL_next_12 rfl hl (by decide) rfl (fun ls hl => ?_)
      refine lv_iconst (v := 1) hx hb dL_next_13 (by decide) ?_
      refine W.widen (k := 1) (n := 6) (Nat.le_of_ble_eq_true rfl) (Nat.le_of_ble_eq_true rfl) ?_
      exact W.iret (v := 1) hx hb hr (fun t ht hW => ⟨⟨1, (b, a, c9, q, a2, c2, q2, v), rfl, ⟨by rw [hcd]; rfl, by rw [hcd]; decide, hI.2.2.2.1, fun h => absurd (hcd.symm.trans h) (by decide), fun _ => ⟨rfl, rfl⟩⟩, by show va_P _ _ _ t.heap; rw [ht]; exact hP⟩, hS.F ht⟩) hS.2.2 dL_next_14
  · obtain ⟨hr1, hcd⟩ := hu
    rw [List.nil_append] at hP hD
    refine lv_i2l (v := r.toInt64) hx hb dL_next_7 rfl ?_
    refine lstO hx hb hXs.2.1 hP hD hS dL_next_8 (fun v1 H locs hv1 hP hS => ?_)
    refine lv_goto (tgt := 15) hx hb dL_next_9 (by decide) ?_
    refine lv_iconst (v := 0) hx hb dL_next_15 (by decide) ?_
    refine W.widen (k := 1) (n := 6) (Nat.le_of_ble_eq_true rfl) (Nat.le_of_ble_eq_true rfl) ?_
    exact W.iret (v := 0) hx hb hr (fun t ht hW => ⟨⟨0, (b, a, c9, q, a2, c2, q2, v1), rfl, ⟨by rw [hcd]; rfl, by rw [hcd]; decide, hI.2.2.2.1, fun _ => ⟨hv1.trans (by rw [hr1]), rfl, rfl⟩, fun h => absurd hcd h⟩, by show va_P _ _ _ t.heap; rw [ht]; exact hP⟩, hS.F ht⟩) hS.2.2 dL_next_16
