set_option maxHeartbeats 4000000 in
set_option maxRecDepth 100000 in
theorem KL_setCurrent (lch : Launch) (hlt : lch.stackTraces = false) (D : va_G) (cA cL : ClassId) (sa : Nat → Nat) (x : Nat) (B F G : Nat → Nat) (o : Nat) (b : BSt) (a : FSt) (c9 q : Nat → Int32) (a2 : FSt) (c2 q2 : Nat → Int32) (v : Nat → Int64) (p0 p1 : Int32) (sz : Nat) (hI : LI b a c9) : Met lch yL_setCurrent wsL_setCurrent ({ frames := 7, cells := 1, slots := 6, locals := 105 }) (Pr D cA [.ref x, .int p0, .int p1, .ref o] sz (wX cA x B F G b a c9 q a2 c2 q2 ++ wO cL o v) (LX sa D cL (va_A (wX cA x B F G b a c9 q a2 c2 q2 ++ wO cL o v) sz))) (va_Qi (fun (r : Int32) (u : LU) => HP (cdCurrent p0 p1) (nI (bCu b (p0.toNatClampNeg))) (vCu b (up (bCu b) (p0.toNatClampNeg) (p1.toNatClampNeg))) (a) b a r u) (fun (u : LU) t => va_P D vwCl (wXU cA x B F G u ++ wO cL o u.2.2.2.2.2.2.2) t.heap) (va_A (wX cA x B F G b a c9 q a2 c2 q2 ++ wO cL o v) sz)) 1 6 (va_A (wX cA x B F G b a c9 q a2 c2 q2 ++ wO cL o v) sz) := by
  refine met_ofWH (cc := cL_setCurrent) (maxL := 5) (ret := (some .int)) (by decide) rfl ?_
  intro pg ev s mi args below meth cd s₁ B0 hml hv
  obtain ⟨hav, hsz, hP, hE, hD, hXs⟩ := hv
  have hx := B0.exec
  have hb := B0.bytes
  have hr := B0.returns
  have hts := atoms_spec (ws := wsL_setCurrent) B0.pre
  have hown : s.vm.findClass RL = some mi.cls := findClass_of_methodNamed B0.named
  have hlocks := B0.notSynchronized
  have htb := vx_table (x := yL_setCurrent) B0 (hts (.codeWith yL_setCurrent cL_setCurrent 5 (some .int) [(0, 10, 13, 13), (0, 10, 17, 15)]) List.mem_cons_self)
  clear B0
  subst hav
  subst hsz
  have hD := hD.self (sz := s.heap.size)
  generalize hAe : va_A (wX cA x B F G b a c9 q a2 c2 q2 ++ wO cL o v) s.heap.size = A at hD hXs ⊢
  have hA : ∀ q : Nat, s.heap.size ≤ q → A q := fun q h => by rw [← hAe]; exact Or.inr h
  have hS : va_S A s.heap s.heap [] := va_S.rf
  have hl := lv_entry ([.ref x, .int p0, .int p1, .ref o]) (n := 5) (Nat.le_of_ble_eq_true rfl)
  rw [lg_entry_eq]
  generalize (lg_sl ([.ref x, .int p0, .int p1, .ref o]) ++ List.replicate (5 - (lg_sl ([.ref x, .int p0, .int p1, .ref o])).length) Slot.unset).toArray = ls at hl ⊢
  have hl : lv_has ls 5 [(0, .ref x), (1, .int p0), (2, .int p1), (3, .ref o)] := hl
  have hP : va_P D vwCl ([] ++ (wX cA x B F G b a c9 q a2 c2 q2 ++ wO cL o v)) s.heap := hP
  have hD : va_D A ([] ++ (wX cA x B F G b a c9 q a2 c2 q2 ++ wO cL o v)) := hD
  refine lv_aload_n hx hb dL_setCurrent_0 rfl (lv_at hl 3 rfl) ?_
  refine lv_iconst (v := 0) hx hb dL_setCurrent_1 (by decide) ?_
  refine lv_aload_n hx hb dL_setCurrent_2 rfl (lv_at hl 0 rfl) ?_
  refine lv_iload_n hx hb dL_setCurrent_3 rfl (lv_at hl 1 rfl) ?_
  refine lv_iload_n hx hb dL_setCurrent_4 rfl (lv_at hl 2 rfl) ?_
  refine bXVi (S := Unit) (EXP := fun E => (cdCurrent p0 p1 = 1 ∧ E = "java/lang/IndexOutOfBoundsException") ∨ (cdCurrent p0 p1 = 2 ∧ E = "java/lang/IllegalArgumentException")) (wB := fun (u : Unit) => wX cA x B F G (vCu b (up (bCu b) (p0.toNatClampNeg) (p1.toNatClampNeg))) a c9 q a2 c2 q2) (As := [.int p0, .int p1]) (rest := [.int 0, .ref o]) (pre := []) (wc := wX cA x B F G b a c9 q a2 c2 q2) (suf := wO cL o v) ⟨hx, hb, hml, hown, hts⟩ (K_X3_setCurrent lch hlt D cA sa x B F G b a c9 q a2 c2 q2 p0 p1 s.heap.size ) (cwV 2 hts gL_setCurrent_X3_setCurrent rfl rfl rfl (by decide +kernel) ⟨Nat.le_of_ble_eq_true rfl, Nat.le_of_ble_eq_true rfl⟩) hE hP hD hS hA (fun _ => rfl) (TX.blind sa _) (fun U hU hW => hXs.1.at hS hU hW (blk_free hD hS hA)) 0 3 rfl rfl rfl hl.1 rfl rfl (Nat.le_of_ble_eq_true rfl) dL_setCurrent_5 ⟨Nat.le_of_ble_eq_true rfl, Nat.le_of_ble_eq_true rfl⟩ (fun E9 ce q9 H locs hEx hP hS hce hcv hcl => ?_) (fun r u H locs hu hP hD hS => ?_)
  · rw [List.nil_append] at hP
    rcases hEx with ⟨hcd, rfl⟩ | ⟨hcd, rfl⟩
    · skip
      refine vx_catch (own := RL) (name := "java/lang/IndexOutOfBoundsException") hown [] ⟨0, 10, 13, 13⟩ [⟨0, 10, 17, 15⟩] htb (fun z hz => by cases hz) rfl (by decide) (hts (.classLink RL 13 "java/lang/IndexOutOfBoundsException") (by decide +kernel)) (exW_use hXs.1.2.1 (.castable "java/lang/IndexOutOfBoundsException" "java/lang/IndexOutOfBoundsException") (by decide +kernel)) hce hcv hcl ?_
      refine lv_astore (lv' := [(4, .ref q9), (0, .ref x), (1, .int p0), (2, .int p1), (3, .ref o)]) hx hb dL_setCurrent_13 hl (by decide) rfl (fun ls hl => ?_)
      refine lv_iconst (v := 1) hx hb dL_setCurrent_15 (by decide) ?_
      refine W.widen (k := 1) (n := 6) (Nat.le_of_ble_eq_true rfl) (Nat.le_of_ble_eq_true rfl) ?_
      exact W.iret (v := 1) hx hb hr (fun t ht hW => ⟨⟨1, (b, a, c9, q, a2, c2, q2, v), rfl, ⟨by rw [hcd]; rfl, by rw [hcd]; decide, hI.2.2.2.1, fun h => absurd (hcd.symm.trans h) (by decide), fun _ => ⟨rfl, rfl⟩⟩, by show va_P _ _ _ t.heap; rw [ht]; exact hP⟩, hS.F ht⟩) hS.2.2 dL_setCurrent_16
    · skip
      refine vx_catch (own := RL) (name := "java/lang/IllegalArgumentException") hown [⟨0, 10, 13, 13⟩] ⟨0, 10, 17, 15⟩ [] htb (fun z hz => by rw [List.mem_singleton.mp hz]; exact Or.inr ⟨by decide, "java/lang/IndexOutOfBoundsException", hts (.classLink RL 13 "java/lang/IndexOutOfBoundsException") (by decide +kernel), hXs.2.2.1⟩) rfl (by decide) (hts (.classLink RL 15 "java/lang/IllegalArgumentException") (by decide +kernel)) (exW_use hXs.1.2.1 (.castable "java/lang/IllegalArgumentException" "java/lang/IllegalArgumentException") (by decide +kernel)) hce hcv hcl ?_
      refine lv_astore (lv' := [(4, .ref q9), (0, .ref x), (1, .int p0), (2, .int p1), (3, .ref o)]) hx hb dL_setCurrent_17 hl (by decide) rfl (fun ls hl => ?_)
      refine lv_iconst (v := 2) hx hb dL_setCurrent_19 (by decide) ?_
      refine W.widen (k := 1) (n := 6) (Nat.le_of_ble_eq_true rfl) (Nat.le_of_ble_eq_true rfl) ?_
      exact W.iret (v := 2) hx hb hr (fun t ht hW => ⟨⟨2, (b, a, c9, q, a2, c2, q2, v), rfl, ⟨by rw [hcd]; rfl, by rw [hcd]; decide, hI.2.2.2.1, fun h => absurd (hcd.symm.trans h) (by decide), fun _ => ⟨rfl, rfl⟩⟩, by show va_P _ _ _ t.heap; rw [ht]; exact hP⟩, hS.F ht⟩) hS.2.2 dL_setCurrent_20
  · obtain ⟨hr1, hcd⟩ := hu
    rw [List.nil_append] at hP hD
    refine lv_i2l (v := r.toInt64) hx hb dL_setCurrent_8 rfl ?_
    refine lstO hx hb hXs.2.1 hP hD hS dL_setCurrent_9 (fun v1 H locs hv1 hP hS => ?_)
    refine lv_goto (tgt := 21) hx hb dL_setCurrent_10 (by decide) ?_
    refine lv_iconst (v := 0) hx hb dL_setCurrent_21 (by decide) ?_
    refine W.widen (k := 1) (n := 6) (Nat.le_of_ble_eq_true rfl) (Nat.le_of_ble_eq_true rfl) ?_
    exact W.iret (v := 0) hx hb hr (fun t ht hW => ⟨⟨0, (vCu b (up (bCu b) (p0.toNatClampNeg) (p1.toNatClampNeg)), a, c9, q, a2, c2, q2, v1), rfl, ⟨by rw [hcd]; rfl, by rw [hcd]; decide, hI.2.2.2.1, fun _ => ⟨hv1.trans (by rw [hr1]), rfl, rfl⟩, fun h => absurd hcd h⟩, by show va_P _ _ _ t.heap; rw [ht]; exact hP⟩, hS.F ht⟩) hS.2.2 dL_setCurrent_22

set_option maxHeartbeats 4000000 in
set_option maxRecDepth 100000 in
theorem KL_weir (lch : Launch) (hlt : lch.stackTraces = false) (D : va_G) (cA cL : ClassId) (sa : Nat → Nat) (x : Nat) (B F G : Nat → Nat) (o : Nat) (b : BSt) (a : FSt) (c9 q : Nat → Int32) (a2 : FSt) (c2 q2 : Nat → Int32) (v : Nat → Int64) (p0 p1 : Int32) (sz : Nat) (hI : LI b a c9) : Met lch yL_weir wsL_weir ({ frames := 7, cells := 1, slots := 6, locals := 104 }) (Pr D cA [.ref x, .int p0, .int p1, .ref o] sz (wX cA x B F G b a c9 q a2 c2 q2 ++ wO cL o v) (LX sa D cL (va_A (wX cA x B F G b a c9 q a2 c2 q2 ++ wO cL o v) sz))) (va_Qi (fun (r : Int32) (u : LU) => HP (cdWeir b p0 p1) (nI (bW b + 1)) (vW (vSp b (up (bSp b) (p0).toNatClampNeg p1)) (bW b + 1)) (a) b a r u) (fun (u : LU) t => va_P D vwCl (wXU cA x B F G u ++ wO cL o u.2.2.2.2.2.2.2) t.heap) (va_A (wX cA x B F G b a c9 q a2 c2 q2 ++ wO cL o v) sz)) 1 6 (va_A (wX cA x B F G b a c9 q a2 c2 q2 ++ wO cL o v) sz) := by
  refine met_ofWH (cc := cL_weir) (maxL := 5) (ret := (some .int)) (by decide) rfl ?_
  intro pg ev s mi args below meth cd s₁ B0 hml hv
  obtain ⟨hav, hsz, hP, hE, hD, hXs⟩ := hv
  have hx := B0.exec
  have hb := B0.bytes
  have hr := B0.returns
  have hts := atoms_spec (ws := wsL_weir) B0.pre
  have hown : s.vm.findClass RL = some mi.cls := findClass_of_methodNamed B0.named
  have hlocks := B0.notSynchronized
  have htb := vx_table (x := yL_weir) B0 (hts (.codeWith yL_weir cL_weir 5 (some .int) [(0, 10, 13, 13), (0, 10, 17, 15), (0, 10, 21, 20)]) List.mem_cons_self)
  clear B0
  subst hav
  subst hsz
  have hD := hD.self (sz := s.heap.size)
  generalize hAe : va_A (wX cA x B F G b a c9 q a2 c2 q2 ++ wO cL o v) s.heap.size = A at hD hXs ⊢
  have hA : ∀ q : Nat, s.heap.size ≤ q → A q := fun q h => by rw [← hAe]; exact Or.inr h
  have hS : va_S A s.heap s.heap [] := va_S.rf
  have hl := lv_entry ([.ref x, .int p0, .int p1, .ref o]) (n := 5) (Nat.le_of_ble_eq_true rfl)
  rw [lg_entry_eq]
  generalize (lg_sl ([.ref x, .int p0, .int p1, .ref o]) ++ List.replicate (5 - (lg_sl ([.ref x, .int p0, .int p1, .ref o])).length) Slot.unset).toArray = ls at hl ⊢
  have hl : lv_has ls 5 [(0, .ref x), (1, .int p0), (2, .int p1), (3, .ref o)] := hl
  have hP : va_P D vwCl ([] ++ (wX cA x B F G b a c9 q a2 c2 q2 ++ wO cL o v)) s.heap := hP
  have hD : va_D A ([] ++ (wX cA x B F G b a c9 q a2 c2 q2 ++ wO cL o v)) := hD
  refine lv_aload_n hx hb dL_weir_0 rfl (lv_at hl 3 rfl) ?_
  refine lv_iconst (v := 0) hx hb dL_weir_1 (by decide) ?_
  refine lv_aload_n hx hb dL_weir_2 rfl (lv_at hl 0 rfl) ?_
  refine lv_iload_n hx hb dL_weir_3 rfl (lv_at hl 1 rfl) ?_
  refine lv_iload_n hx hb dL_weir_4 rfl (lv_at hl 2 rfl) ?_
  refine bXVi (S := Unit) (EXP := fun E => (cdWeir b p0 p1 = 1 ∧ E = "java/lang/IndexOutOfBoundsException") ∨ (cdWeir b p0 p1 = 2 ∧ E = "java/lang/IllegalArgumentException") ∨ (cdWeir b p0 p1 = 3 ∧ E = "java/lang/IllegalStateException")) (wB := fun (u : Unit) => wX cA x B F G (vW (vSp b (up (bSp b) (p0).toNatClampNeg p1)) (bW b + 1)) a c9 q a2 c2 q2) (As := [.int p0, .int p1]) (rest := [.int 0, .ref o]) (pre := []) (wc := wX cA x B F G b a c9 q a2 c2 q2) (suf := wO cL o v) ⟨hx, hb, hml, hown, hts⟩ (K_X3_weir lch hlt D cA sa x B F G b a c9 q a2 c2 q2 p0 p1 s.heap.size hI.2.1) (cwV 2 hts gL_weir_X3_weir rfl rfl rfl (by decide +kernel) ⟨Nat.le_of_ble_eq_true rfl, Nat.le_of_ble_eq_true rfl⟩) hE hP hD hS hA (fun _ => rfl) (TX.blind sa _) (fun U hU hW => hXs.1.at hS hU hW (blk_free hD hS hA)) 0 3 rfl rfl rfl hl.1 rfl rfl (Nat.le_of_ble_eq_true rfl) dL_weir_5 ⟨Nat.le_of_ble_eq_true rfl, Nat.le_of_ble_eq_true rfl⟩ (fun E9 ce q9 H locs hEx hP hS hce hcv hcl => ?_) (fun r u H locs hu hP hD hS => ?_)
  · rw [List.nil_append] at hP
    rcases hEx with ⟨hcd, rfl⟩ | ⟨hcd, rfl⟩ | ⟨hcd, rfl⟩
    · skip
      refine vx_catch (own := RL) (name := "java/lang/IndexOutOfBoundsException") hown [] ⟨0, 10, 13, 13⟩ [⟨0, 10, 17, 15⟩, ⟨0, 10, 21, 20⟩] htb (fun z hz => by cases hz) rfl (by decide) (hts (.classLink RL 13 "java/lang/IndexOutOfBoundsException") (by decide +kernel)) (exW_use hXs.1.2.1 (.castable "java/lang/IndexOutOfBoundsException" "java/lang/IndexOutOfBoundsException") (by decide +kernel)) hce hcv hcl ?_
      refine lv_astore (lv' := [(4, .ref q9), (0, .ref x), (1, .int p0), (2, .int p1), (3, .ref o)]) hx hb dL_weir_13 hl (by decide) rfl (fun ls hl => ?_)
      refine lv_iconst (v := 1) hx hb dL_weir_15 (by decide) ?_
      refine W.widen (k := 1) (n := 6) (Nat.le_of_ble_eq_true rfl) (Nat.le_of_ble_eq_true rfl) ?_
      exact W.iret (v := 1) hx hb hr (fun t ht hW => ⟨⟨1, (b, a, c9, q, a2, c2, q2, v), rfl, ⟨by rw [hcd]; rfl, by rw [hcd]; decide, hI.2.2.2.1, fun h => absurd (hcd.symm.trans h) (by decide), fun _ => ⟨rfl, rfl⟩⟩, by show va_P _ _ _ t.heap; rw [ht]; exact hP⟩, hS.F ht⟩) hS.2.2 dL_weir_16
    · skip
      refine vx_catch (own := RL) (name := "java/lang/IllegalArgumentException") hown [⟨0, 10, 13, 13⟩] ⟨0, 10, 17, 15⟩ [⟨0, 10, 21, 20⟩] htb (fun z hz => by rw [List.mem_singleton.mp hz]; exact Or.inr ⟨by decide, "java/lang/IndexOutOfBoundsException", hts (.classLink RL 13 "java/lang/IndexOutOfBoundsException") (by decide +kernel), hXs.2.2.1⟩) rfl (by decide) (hts (.classLink RL 15 "java/lang/IllegalArgumentException") (by decide +kernel)) (exW_use hXs.1.2.1 (.castable "java/lang/IllegalArgumentException" "java/lang/IllegalArgumentException") (by decide +kernel)) hce hcv hcl ?_
      refine lv_astore (lv' := [(4, .ref q9), (0, .ref x), (1, .int p0), (2, .int p1), (3, .ref o)]) hx hb dL_weir_17 hl (by decide) rfl (fun ls hl => ?_)
      refine lv_iconst (v := 2) hx hb dL_weir_19 (by decide) ?_
      refine W.widen (k := 1) (n := 6) (Nat.le_of_ble_eq_true rfl) (Nat.le_of_ble_eq_true rfl) ?_
      exact W.iret (v := 2) hx hb hr (fun t ht hW => ⟨⟨2, (b, a, c9, q, a2, c2, q2, v), rfl, ⟨by rw [hcd]; rfl, by rw [hcd]; decide, hI.2.2.2.1, fun h => absurd (hcd.symm.trans h) (by decide), fun _ => ⟨rfl, rfl⟩⟩, by show va_P _ _ _ t.heap; rw [ht]; exact hP⟩, hS.F ht⟩) hS.2.2 dL_weir_20
    · skip
      refine vx_catch (own := RL) (name := "java/lang/IllegalStateException") hown [⟨0, 10, 13, 13⟩, ⟨0, 10, 17, 15⟩] ⟨0, 10, 21, 20⟩ [] htb (fun z hz => (List.mem_cons.mp hz).elim (fun e => by rw [e]; exact Or.inr ⟨by decide, "java/lang/IndexOutOfBoundsException", hts (.classLink RL 13 "java/lang/IndexOutOfBoundsException") (by decide +kernel), hXs.2.2.2.1⟩) (fun hz => by rw [List.mem_singleton.mp hz]; exact Or.inr ⟨by decide, "java/lang/IllegalArgumentException", hts (.classLink RL 15 "java/lang/IllegalArgumentException") (by decide +kernel), hXs.2.2.2.2.1⟩)) rfl (by decide) (hts (.classLink RL 20 "java/lang/IllegalStateException") (by decide +kernel)) (exW_use hXs.1.2.1 (.castable "java/lang/IllegalStateException" "java/lang/IllegalStateException") (by decide +kernel)) hce hcv hcl ?_
      refine lv_astore (lv' := [(4, .ref q9), (0, .ref x), (1, .int p0), (2, .int p1), (3, .ref o)]) hx hb dL_weir_21 hl (by decide) rfl (fun ls hl => ?_)
      refine lv_iconst (v := 3) hx hb dL_weir_23 (by decide) ?_
      refine W.widen (k := 1) (n := 6) (Nat.le_of_ble_eq_true rfl) (Nat.le_of_ble_eq_true rfl) ?_
      exact W.iret (v := 3) hx hb hr (fun t ht hW => ⟨⟨3, (b, a, c9, q, a2, c2, q2, v), rfl, ⟨by rw [hcd]; rfl, by rw [hcd]; decide, hI.2.2.2.1, fun h => absurd (hcd.symm.trans h) (by decide), fun _ => ⟨rfl, rfl⟩⟩, by show va_P _ _ _ t.heap; rw [ht]; exact hP⟩, hS.F ht⟩) hS.2.2 dL_weir_24
  · obtain ⟨hr1, hcd⟩ := hu
    rw [List.nil_append] at hP hD
    refine lv_i2l (v := r.toInt64) hx hb dL_weir_8 rfl ?_
    refine lstO hx hb hXs.2.1 hP hD hS dL_weir_9 (fun v1 H locs hv1 hP hS => ?_)
    refine lv_goto (tgt := 25) hx hb dL_weir_10 (by decide) ?_
    refine lv_iconst (v := 0) hx hb dL_weir_25 (by decide) ?_
    refine W.widen (k := 1) (n := 6) (Nat.le_of_ble_eq_true rfl) (Nat.le_of_ble_eq_true rfl) ?_
    exact W.iret (v := 0) hx hb hr (fun t ht hW => ⟨⟨0, (vW (vSp b (up (bSp b) (p0).toNatClampNeg p1)) (bW b + 1), a, c9, q, a2, c2, q2, v1), rfl, ⟨by rw [hcd]; rfl, by rw [hcd]; decide, hI.2.2.2.1, fun _ => ⟨hv1.trans (by rw [hr1]), rfl, rfl⟩, fun h => absurd hcd h⟩, by show va_P _ _ _ t.heap; rw [ht]; exact hP⟩, hS.F ht⟩) hS.2.2 dL_weir_26

set_option maxHeartbeats 4000000 in
set_option maxRecDepth 100000 in
theorem KL_net (lch : Launch) (hlt : lch.stackTraces = false) (D : va_G) (cA cL : ClassId) (sa : Nat → Nat) (x : Nat) (B F G : Nat → Nat) (o : Nat) (b : BSt) (a : FSt) (c9 q : Nat → Int32) (a2 : FSt) (c2 q2 : Nat → Int32) (v : Nat → Int64) (p0 p1 : Int32) (sz : Nat) (hI : LI b a c9) : Met lch yL_net wsL_net ({ frames := 7, cells := 1, slots := 6, locals := 104 }) (Pr D cA [.ref x, .int p0, .int p1, .ref o] sz (wX cA x B F G b a c9 q a2 c2 q2 ++ wO cL o v) (LX sa D cL (va_A (wX cA x B F G b a c9 q a2 c2 q2 ++ wO cL o v) sz))) (va_Qi (fun (r : Int32) (u : LU) => HP (cdNet b p0 p1) (nI (bK b + 1)) (vK (vNe b (up (bNe b) ((p0).toNatClampNeg * 60 + (p1).toNatClampNeg) true)) (bK b + 1)) (a) b a r u) (fun (u : LU) t => va_P D vwCl (wXU cA x B F G u ++ wO cL o u.2.2.2.2.2.2.2) t.heap) (va_A (wX cA x B F G b a c9 q a2 c2 q2 ++ wO cL o v) sz)) 1 6 (va_A (wX cA x B F G b a c9 q a2 c2 q2 ++ wO cL o v) sz) := by
  refine met_ofWH (cc := cL_net) (maxL := 5) (ret := (some .int)) (by decide) rfl ?_
  intro pg ev s mi args below meth cd s₁ B0 hml hv
  obtain ⟨hav, hsz, hP, hE, hD, hXs⟩ := hv
  have hx := B0.exec
  have hb := B0.bytes
  have hr := B0.returns
  have hts := atoms_spec (ws := wsL_net) B0.pre
  have hown : s.vm.findClass RL = some mi.cls := findClass_of_methodNamed B0.named
  have hlocks := B0.notSynchronized
  have htb := vx_table (x := yL_net) B0 (hts (.codeWith yL_net cL_net 5 (some .int) [(0, 10, 13, 13), (0, 10, 17, 20)]) List.mem_cons_self)
  clear B0
  subst hav
  subst hsz
  have hD := hD.self (sz := s.heap.size)
  generalize hAe : va_A (wX cA x B F G b a c9 q a2 c2 q2 ++ wO cL o v) s.heap.size = A at hD hXs ⊢
  have hA : ∀ q : Nat, s.heap.size ≤ q → A q := fun q h => by rw [← hAe]; exact Or.inr h
  have hS : va_S A s.heap s.heap [] := va_S.rf
  have hl := lv_entry ([.ref x, .int p0, .int p1, .ref o]) (n := 5) (Nat.le_of_ble_eq_true rfl)
  rw [lg_entry_eq]
  generalize (lg_sl ([.ref x, .int p0, .int p1, .ref o]) ++ List.replicate (5 - (lg_sl ([.ref x, .int p0, .int p1, .ref o])).length) Slot.unset).toArray = ls at hl ⊢
  have hl : lv_has ls 5 [(0, .ref x), (1, .int p0), (2, .int p1), (3, .ref o)] := hl
  have hP : va_P D vwCl ([] ++ (wX cA x B F G b a c9 q a2 c2 q2 ++ wO cL o v)) s.heap := hP
  have hD : va_D A ([] ++ (wX cA x B F G b a c9 q a2 c2 q2 ++ wO cL o v)) := hD
  refine lv_aload_n hx hb dL_net_0 rfl (lv_at hl 3 rfl) ?_
  refine lv_iconst (v := 0) hx hb dL_net_1 (by decide) ?_
  refine lv_aload_n hx hb dL_net_2 rfl (lv_at hl 0 rfl) ?_
  refine lv_iload_n hx hb dL_net_3 rfl (lv_at hl 1 rfl) ?_
  refine lv_iload_n hx hb dL_net_4 rfl (lv_at hl 2 rfl) ?_
  refine bXVi (S := Unit) (EXP := fun E => (cdNet b p0 p1 = 1 ∧ E = "java/lang/IndexOutOfBoundsException") ∨ (cdNet b p0 p1 = 2 ∧ E = "java/lang/IllegalStateException")) (wB := fun (u : Unit) => wX cA x B F G (vK (vNe b (up (bNe b) ((p0).toNatClampNeg * 60 + (p1).toNatClampNeg) true)) (bK b + 1)) a c9 q a2 c2 q2) (As := [.int p0, .int p1]) (rest := [.int 0, .ref o]) (pre := []) (wc := wX cA x B F G b a c9 q a2 c2 q2) (suf := wO cL o v) ⟨hx, hb, hml, hown, hts⟩ (K_X3_net lch hlt D cA sa x B F G b a c9 q a2 c2 q2 p0 p1 s.heap.size hI.2.1) (cwV 2 hts gL_net_X3_net rfl rfl rfl (by decide +kernel) ⟨Nat.le_of_ble_eq_true rfl, Nat.le_of_ble_eq_true rfl⟩) hE hP hD hS hA (fun _ => rfl) (TX.blind sa _) (fun U hU hW => hXs.1.at hS hU hW (blk_free hD hS hA)) 0 3 rfl rfl rfl hl.1 rfl rfl (Nat.le_of_ble_eq_true rfl) dL_net_5 ⟨Nat.le_of_ble_eq_true rfl, Nat.le_of_ble_eq_true rfl⟩ (fun E9 ce q9 H locs hEx hP hS hce hcv hcl => ?_) (fun r u H locs hu hP hD hS => ?_)
  · rw [List.nil_append] at hP
    rcases hEx with ⟨hcd, rfl⟩ | ⟨hcd, rfl⟩
    · skip
      refine vx_catch (own := RL) (name := "java/lang/IndexOutOfBoundsException") hown [] ⟨0, 10, 13, 13⟩ [⟨0, 10, 17, 20⟩] htb (fun z hz => by cases hz) rfl (by decide) (hts (.classLink RL 13 "java/lang/IndexOutOfBoundsException") (by decide +kernel)) (exW_use hXs.1.2.1 (.castable "java/lang/IndexOutOfBoundsException" "java/lang/IndexOutOfBoundsException") (by decide +kernel)) hce hcv hcl ?_
      refine lv_astore (lv' := [(4, .ref q9), (0, .ref x), (1, .int p0), (2, .int p1), (3, .ref o)]) hx hb dL_net_13 hl (by decide) rfl (fun ls hl => ?_)
      refine lv_iconst (v := 1) hx hb dL_net_15 (by decide) ?_
      refine W.widen (k := 1) (n := 6) (Nat.le_of_ble_eq_true rfl) (Nat.le_of_ble_eq_true rfl) ?_
      exact W.iret (v := 1) hx hb hr (fun t ht hW => ⟨⟨1, (b, a, c9, q, a2, c2, q2, v), rfl, ⟨by rw [hcd]; rfl, by rw [hcd]; decide, hI.2.2.2.1, fun h => absurd (hcd.symm.trans h) (by decide), fun _ => ⟨rfl, rfl⟩⟩, by show va_P _ _ _ t.heap; rw [ht]; exact hP⟩, hS.F ht⟩) hS.2.2 dL_net_16
    · skip
      refine vx_catch (own := RL) (name := "java/lang/IllegalStateException") hown [⟨0, 10, 13, 13⟩] ⟨0, 10, 17, 20⟩ [] htb (fun z hz => by rw [List.mem_singleton.mp hz]; exact Or.inr ⟨by decide, "java/lang/IndexOutOfBoundsException", hts (.classLink RL 13 "java/lang/IndexOutOfBoundsException") (by decide +kernel), hXs.2.2.2.1⟩) rfl (by decide) (hts (.classLink RL 20 "java/lang/IllegalStateException") (by decide +kernel)) (exW_use hXs.1.2.1 (.castable "java/lang/IllegalStateException" "java/lang/IllegalStateException") (by decide +kernel)) hce hcv hcl ?_
      refine lv_astore (lv' := [(4, .ref q9), (0, .ref x), (1, .int p0), (2, .int p1), (3, .ref o)]) hx hb dL_net_17 hl (by decide) rfl (fun ls hl => ?_)
      refine lv_iconst (v := 2) hx hb dL_net_19 (by decide) ?_
      refine W.widen (k := 1) (n := 6) (Nat.le_of_ble_eq_true rfl) (Nat.le_of_ble_eq_true rfl) ?_
      exact W.iret (v := 2) hx hb hr (fun t ht hW => ⟨⟨2, (b, a, c9, q, a2, c2, q2, v), rfl, ⟨by rw [hcd]; rfl, by rw [hcd]; decide, hI.2.2.2.1, fun h => absurd (hcd.symm.trans h) (by decide), fun _ => ⟨rfl, rfl⟩⟩, by show va_P _ _ _ t.heap; rw [ht]; exact hP⟩, hS.F ht⟩) hS.2.2 dL_net_20
  · obtain ⟨hr1, hcd⟩ := hu
    rw [List.nil_append] at hP hD
    refine lv_i2l (v := r.toInt64) hx hb dL_net_8 rfl ?_
    refine lstO hx hb hXs.2.1 hP hD hS dL_net_9 (fun v1 H locs hv1 hP hS => ?_)
    refine lv_goto (tgt := 21) hx hb dL_net_10 (by decide) ?_
    refine lv_iconst (v := 0) hx hb dL_net_21 (by decide) ?_
    refine W.widen (k := 1) (n := 6) (Nat.le_of_ble_eq_true rfl) (Nat.le_of_ble_eq_true rfl) ?_
    exact W.iret (v := 0) hx hb hr (fun t ht hW => ⟨⟨0, (vK (vNe b (up (bNe b) ((p0).toNatClampNeg * 60 + (p1).toNatClampNeg) true)) (bK b + 1), a, c9, q, a2, c2, q2, v1), rfl, ⟨by rw [hcd]; rfl, by rw [hcd]; decide, hI.2.2.2.1, fun _ => ⟨hv1.trans (by rw [hr1]), rfl, rfl⟩, fun h => absurd hcd h⟩, by show va_P _ _ _ t.heap; rw [ht]; exact hP⟩, hS.F ht⟩) hS.2.2 dL_net_22

set_option maxHeartbeats 4000000 in
set_option maxRecDepth 100000 in
theorem KL_river (lch : Launch) (hlt : lch.stackTraces = false) (D : va_G) (cA cL : ClassId) (sa : Nat → Nat) (x : Nat) (B F G : Nat → Nat) (o : Nat) (b : BSt) (a : FSt) (c9 q : Nat → Int32) (a2 : FSt) (c2 q2 : Nat → Int32) (v : Nat → Int64) (p0 p1 p2 : Int32) (sz : Nat) (hI : LI b a c9) : Met lch yL_river wsL_river ({ frames := 7, cells := 1, slots := 6, locals := 105 }) (Pr D cA [.ref x, .int p0, .int p1, .int p2, .ref o] sz (wX cA x B F G b a c9 q a2 c2 q2 ++ wO cL o v) (LX sa D cL (va_A (wX cA x B F G b a c9 q a2 c2 q2 ++ wO cL o v) sz))) (va_Qi (fun (r : Int32) (u : LU) => HP (cdRiver p0 p1 p2) (riverA a b (p0).toNatClampNeg (p1).toNatClampNeg (p2).toNatClampNeg) (b) (a) b a r u) (fun (u : LU) t => va_P D vwCl (wXU cA x B F G u ++ wO cL o u.2.2.2.2.2.2.2) t.heap) (va_A (wX cA x B F G b a c9 q a2 c2 q2 ++ wO cL o v) sz)) 1 6 (va_A (wX cA x B F G b a c9 q a2 c2 q2 ++ wO cL o v) sz) := by
  refine met_ofWH (cc := cL_river) (maxL := 6) (ret := (some .int)) (by decide) rfl ?_
  intro pg ev s mi args below meth cd s₁ B0 hml hv
  obtain ⟨hav, hsz, hP, hE, hD, hXs⟩ := hv
  have hx := B0.exec
  have hb := B0.bytes
  have hr := B0.returns
  have hts := atoms_spec (ws := wsL_river) B0.pre
  have hown : s.vm.findClass RL = some mi.cls := findClass_of_methodNamed B0.named
  have hlocks := B0.notSynchronized
  have htb := vx_table (x := yL_river) B0 (hts (.codeWith yL_river cL_river 6 (some .int) [(0, 12, 15, 13)]) List.mem_cons_self)
  clear B0
  subst hav
  subst hsz
  have hD := hD.self (sz := s.heap.size)
  generalize hAe : va_A (wX cA x B F G b a c9 q a2 c2 q2 ++ wO cL o v) s.heap.size = A at hD hXs ⊢
  have hA : ∀ q : Nat, s.heap.size ≤ q → A q := fun q h => by rw [← hAe]; exact Or.inr h
  have hS : va_S A s.heap s.heap [] := va_S.rf
  have hl := lv_entry ([.ref x, .int p0, .int p1, .int p2, .ref o]) (n := 6) (Nat.le_of_ble_eq_true rfl)
  rw [lg_entry_eq]
  generalize (lg_sl ([.ref x, .int p0, .int p1, .int p2, .ref o]) ++ List.replicate (6 - (lg_sl ([.ref x, .int p0, .int p1, .int p2, .ref o])).length) Slot.unset).toArray = ls at hl ⊢
  have hl : lv_has ls 6 [(0, .ref x), (1, .int p0), (2, .int p1), (3, .int p2), (4, .ref o)] := hl
  have hP : va_P D vwCl ([] ++ (wX cA x B F G b a c9 q a2 c2 q2 ++ wO cL o v)) s.heap := hP
  have hD : va_D A ([] ++ (wX cA x B F G b a c9 q a2 c2 q2 ++ wO cL o v)) := hD
  refine lv_aload hx hb dL_river_0 (lv_at hl 4 rfl) ?_
  refine lv_iconst (v := 0) hx hb dL_river_2 (by decide) ?_
  refine lv_aload_n hx hb dL_river_3 rfl (lv_at hl 0 rfl) ?_
  refine lv_iload_n hx hb dL_river_4 rfl (lv_at hl 1 rfl) ?_
  refine lv_iload_n hx hb dL_river_5 rfl (lv_at hl 2 rfl) ?_
  refine lv_iload_n hx hb dL_river_6 rfl (lv_at hl 3 rfl) ?_
  refine bXVi (S := Unit) (EXP := fun E => (cdRiver p0 p1 p2 = 1 ∧ E = "java/lang/IndexOutOfBoundsException")) (wB := fun (u : Unit) => wX cA x B F G b a c9 q a2 c2 q2) (As := [.int p0, .int p1, .int p2]) (rest := [.int 0, .ref o]) (pre := []) (wc := wX cA x B F G b a c9 q a2 c2 q2) (suf := wO cL o v) ⟨hx, hb, hml, hown, hts⟩ (K_X3_river lch hlt D cA sa x B F G b a c9 q a2 c2 q2 p0 p1 p2 s.heap.size hI.1 hI.2.2.2.1 hI.2.2.1) (cwV 3 hts gL_river_X3_river rfl rfl rfl (by decide +kernel) ⟨Nat.le_of_ble_eq_true rfl, Nat.le_of_ble_eq_true rfl⟩) hE hP hD hS hA (fun _ => rfl) (TX.blind sa _) (fun U hU hW => hXs.1.at hS hU hW (blk_free hD hS hA)) 0 3 rfl rfl rfl hl.1 rfl rfl (Nat.le_of_ble_eq_true rfl) dL_river_7 ⟨Nat.le_of_ble_eq_true rfl, Nat.le_of_ble_eq_true rfl⟩ (fun E9 ce q9 H locs hEx hP hS hce hcv hcl => ?_) (fun r u H locs hu hP hD hS => ?_)
  · rw [List.nil_append] at hP
    obtain ⟨hcd, rfl⟩ := hEx
    · skip
      refine vx_catch (own := RL) (name := "java/lang/IndexOutOfBoundsException") hown [] ⟨0, 12, 15, 13⟩ [] htb (fun z hz => by cases hz) rfl (by decide) (hts (.classLink RL 13 "java/lang/IndexOutOfBoundsException") (by decide +kernel)) (exW_use hXs.1.2.1 (.castable "java/lang/IndexOutOfBoundsException" "java/lang/IndexOutOfBoundsException") (by decide +kernel)) hce hcv hcl ?_
      refine lv_astore (lv' := [(5, .ref q9), (0, .ref x), (1, .int p0), (2, .int p1), (3, .int p2), (4, .ref o)]) hx hb dL_river_15 hl (by decide) rfl (fun ls hl => ?_)
      refine lv_iconst (v := 1) hx hb dL_river_17 (by decide) ?_
      refine W.widen (k := 1) (n := 6) (Nat.le_of_ble_eq_true rfl) (Nat.le_of_ble_eq_true rfl) ?_
      exact W.iret (v := 1) hx hb hr (fun t ht hW => ⟨⟨1, (b, a, c9, q, a2, c2, q2, v), rfl, ⟨by rw [hcd]; rfl, by rw [hcd]; decide, hI.2.2.2.1, fun h => absurd (hcd.symm.trans h) (by decide), fun _ => ⟨rfl, rfl⟩⟩, by show va_P _ _ _ t.heap; rw [ht]; exact hP⟩, hS.F ht⟩) hS.2.2 dL_river_18
  · obtain ⟨hr1, hcd⟩ := hu
    rw [List.nil_append] at hP hD
    refine lv_i2l (v := r.toInt64) hx hb dL_river_10 rfl ?_
    refine lstO hx hb hXs.2.1 hP hD hS dL_river_11 (fun v1 H locs hv1 hP hS => ?_)
    refine lv_goto (tgt := 19) hx hb dL_river_12 (by decide) ?_
    refine lv_iconst (v := 0) hx hb dL_river_19 (by decide) ?_
    refine W.widen (k := 1) (n := 6) (Nat.le_of_ble_eq_true rfl) (Nat.le_of_ble_eq_true rfl) ?_
    exact W.iret (v := 0) hx hb hr (fun t ht hW => ⟨⟨0, (b, a, c9, q, a2, c2, q2, v1), rfl, ⟨by rw [hcd]; rfl, by rw [hcd]; decide, hI.2.2.2.1, fun _ => ⟨hv1.trans (by rw [hr1]), rfl, rfl⟩, fun h => absurd hcd h⟩, by show va_P _ _ _ t.heap; rw [ht]; exact hP⟩, hS.F ht⟩) hS.2.2 dL_river_20

set_option maxHeartbeats 4000000 in
set_option maxRecDepth 100000 in
theorem KL_launch (lch : Launch) (hlt : lch.stackTraces = false) (D : va_G) (cA cL : ClassId) (sa : Nat → Nat) (x : Nat) (B F G : Nat → Nat) (o : Nat) (b : BSt) (a : FSt) (c9 q : Nat → Int32) (a2 : FSt) (c2 q2 : Nat → Int32) (v : Nat → Int64) (p0 p1 p2 p3 : Int32) (sz : Nat) (hI : LI b a c9) : Met lch yL_launch wsL_launch ({ frames := 7, cells := 1, slots := 6, locals := 106 }) (Pr D cA [.ref x, .int p0, .int p1, .int p2, .int p3, .ref o] sz (wX cA x B F G b a c9 q a2 c2 q2 ++ wO cL o v) (LX sa D cL (va_A (wX cA x B F G b a c9 q a2 c2 q2 ++ wO cL o v) sz))) (va_Qi (fun (r : Int32) (u : LU) => HP (cdLaunch a p0 p1 p2 p3) (nI (qN a)) (b) (addA a (p0).toNatClampNeg p1 (p2).toNatClampNeg (p3).toNatClampNeg) b a r u) (fun (u : LU) t => va_P D vwCl (wXU cA x B F G u ++ wO cL o u.2.2.2.2.2.2.2) t.heap) (va_A (wX cA x B F G b a c9 q a2 c2 q2 ++ wO cL o v) sz)) 1 6 (va_A (wX cA x B F G b a c9 q a2 c2 q2 ++ wO cL o v) sz) := by
  refine met_ofWH (cc := cL_launch) (maxL := 7) (ret := (some .int)) (by decide) rfl ?_
  intro pg ev s mi args below meth cd s₁ B0 hml hv
  obtain ⟨hav, hsz, hP, hE, hD, hXs⟩ := hv
  have hx := B0.exec
  have hb := B0.bytes
  have hr := B0.returns
  have hts := atoms_spec (ws := wsL_launch) B0.pre
  have hown : s.vm.findClass RL = some mi.cls := findClass_of_methodNamed B0.named
  have hlocks := B0.notSynchronized
  have htb := vx_table (x := yL_launch) B0 (hts (.codeWith yL_launch cL_launch 7 (some .int) [(0, 14, 17, 13), (0, 14, 21, 15), (0, 14, 25, 20)]) List.mem_cons_self)
  clear B0
  subst hav
  subst hsz
  have hD := hD.self (sz := s.heap.size)
  generalize hAe : va_A (wX cA x B F G b a c9 q a2 c2 q2 ++ wO cL o v) s.heap.size = A at hD hXs ⊢
  have hA : ∀ q : Nat, s.heap.size ≤ q → A q := fun q h => by rw [← hAe]; exact Or.inr h
  have hS : va_S A s.heap s.heap [] := va_S.rf
  have hl := lv_entry ([.ref x, .int p0, .int p1, .int p2, .int p3, .ref o]) (n := 7) (Nat.le_of_ble_eq_true rfl)
  rw [lg_entry_eq]
  generalize (lg_sl ([.ref x, .int p0, .int p1, .int p2, .int p3, .ref o]) ++ List.replicate (7 - (lg_sl ([.ref x, .int p0, .int p1, .int p2, .int p3, .ref o])).length) Slot.unset).toArray = ls at hl ⊢
  have hl : lv_has ls 7 [(0, .ref x), (1, .int p0), (2, .int p1), (3, .int p2), (4, .int p3), (5, .ref o)] := hl
  have hP : va_P D vwCl ([] ++ (wX cA x B F G b a c9 q a2 c2 q2 ++ wO cL o v)) s.heap := hP
  have hD : va_D A ([] ++ (wX cA x B F G b a c9 q a2 c2 q2 ++ wO cL o v)) := hD
  refine lv_aload hx hb dL_launch_0 (lv_at hl 5 rfl) ?_
  refine lv_iconst (v := 0) hx hb dL_launch_2 (by decide) ?_
  refine lv_aload_n hx hb dL_launch_3 rfl (lv_at hl 0 rfl) ?_
  refine lv_iload_n hx hb dL_launch_4 rfl (lv_at hl 1 rfl) ?_
  refine lv_iload_n hx hb dL_launch_5 rfl (lv_at hl 2 rfl) ?_
  refine lv_iload_n hx hb dL_launch_6 rfl (lv_at hl 3 rfl) ?_
  refine lv_iload hx hb dL_launch_7 (lv_at hl 4 rfl) ?_
  refine bXVi (S := Nat → Int32) (EXP := fun E => (cdLaunch a p0 p1 p2 p3 = 1 ∧ E = "java/lang/IndexOutOfBoundsException") ∨ (cdLaunch a p0 p1 p2 p3 = 2 ∧ E = "java/lang/IllegalArgumentException") ∨ (cdLaunch a p0 p1 p2 p3 = 3 ∧ E = "java/lang/IllegalStateException")) (wB := fun (u : Nat → Int32) => wX cA x B F G b (addA a (p0).toNatClampNeg p1 (p2).toNatClampNeg (p3).toNatClampNeg) u q a2 c2 q2) (As := [.int p0, .int p1, .int p2, .int p3]) (rest := [.int 0, .ref o]) (pre := []) (wc := wX cA x B F G b a c9 q a2 c2 q2) (suf := wO cL o v) ⟨hx, hb, hml, hown, hts⟩ (K_X3_launch lch hlt D cA sa x B F G b a c9 q a2 c2 q2 p0 p1 p2 p3 s.heap.size hI.2.2.2.2 hI.2.2.2.1) (cwV 4 hts gL_launch_X3_launch rfl rfl rfl (by decide +kernel) ⟨Nat.le_of_ble_eq_true rfl, Nat.le_of_ble_eq_true rfl⟩) hE hP hD hS hA (fun _ => rfl) (TX.blind sa _) (fun U hU hW => hXs.1.at hS hU hW (blk_free hD hS hA)) 0 3 rfl rfl rfl hl.1 rfl rfl (Nat.le_of_ble_eq_true rfl) dL_launch_9 ⟨Nat.le_of_ble_eq_true rfl, Nat.le_of_ble_eq_true rfl⟩ (fun E9 ce q9 H locs hEx hP hS hce hcv hcl => ?_) (fun r u H locs hu hP hD hS => ?_)
  · rw [List.nil_append] at hP
    rcases hEx with ⟨hcd, rfl⟩ | ⟨hcd, rfl⟩ | ⟨hcd, rfl⟩
    · skip
      refine vx_catch (own := RL) (name := "java/lang/IndexOutOfBoundsException") hown [] ⟨0, 14, 17, 13⟩ [⟨0, 14, 21, 15⟩, ⟨0, 14, 25, 20⟩] htb (fun z hz => by cases hz) rfl (by decide) (hts (.classLink RL 13 "java/lang/IndexOutOfBoundsException") (by decide +kernel)) (exW_use hXs.1.2.1 (.castable "java/lang/IndexOutOfBoundsException" "java/lang/IndexOutOfBoundsException") (by decide +kernel)) hce hcv hcl ?_
      refine lv_astore (lv' := [(6, .ref q9), (0, .ref x), (1, .int p0), (2, .int p1), (3, .int p2), (4, .int p3), (5, .ref o)]) hx hb dL_launch_17 hl (by decide) rfl (fun ls hl => ?_)
      refine lv_iconst (v := 1) hx hb dL_launch_19 (by decide) ?_
      refine W.widen (k := 1) (n := 6) (Nat.le_of_ble_eq_true rfl) (Nat.le_of_ble_eq_true rfl) ?_
      exact W.iret (v := 1) hx hb hr (fun t ht hW => ⟨⟨1, (b, a, c9, q, a2, c2, q2, v), rfl, ⟨by rw [hcd]; rfl, by rw [hcd]; decide, hI.2.2.2.1, fun h => absurd (hcd.symm.trans h) (by decide), fun _ => ⟨rfl, rfl⟩⟩, by show va_P _ _ _ t.heap; rw [ht]; exact hP⟩, hS.F ht⟩) hS.2.2 dL_launch_20
    · skip
      refine vx_catch (own := RL) (name := "java/lang/IllegalArgumentException") hown [⟨0, 14, 17, 13⟩] ⟨0, 14, 21, 15⟩ [⟨0, 14, 25, 20⟩] htb (fun z hz => by rw [List.mem_singleton.mp hz]; exact Or.inr ⟨by decide, "java/lang/IndexOutOfBoundsException", hts (.classLink RL 13 "java/lang/IndexOutOfBoundsException") (by decide +kernel), hXs.2.2.1⟩) rfl (by decide) (hts (.classLink RL 15 "java/lang/IllegalArgumentException") (by decide +kernel)) (exW_use hXs.1.2.1 (.castable "java/lang/IllegalArgumentException" "java/lang/IllegalArgumentException") (by decide +kernel)) hce hcv hcl ?_
      refine lv_astore (lv' := [(6, .ref q9), (0, .ref x), (1, .int p0), (2, .int p1), (3, .int p2), (4, .int p3), (5, .ref o)]) hx hb dL_launch_21 hl (by decide) rfl (fun ls hl => ?_)
      refine lv_iconst (v := 2) hx hb dL_launch_23 (by decide) ?_
      refine W.widen (k := 1) (n := 6) (Nat.le_of_ble_eq_true rfl) (Nat.le_of_ble_eq_true rfl) ?_
      exact W.iret (v := 2) hx hb hr (fun t ht hW => ⟨⟨2, (b, a, c9, q, a2, c2, q2, v), rfl, ⟨by rw [hcd]; rfl, by rw [hcd]; decide, hI.2.2.2.1, fun h => absurd (hcd.symm.trans h) (by decide), fun _ => ⟨rfl, rfl⟩⟩, by show va_P _ _ _ t.heap; rw [ht]; exact hP⟩, hS.F ht⟩) hS.2.2 dL_launch_24
    · skip
      refine vx_catch (own := RL) (name := "java/lang/IllegalStateException") hown [⟨0, 14, 17, 13⟩, ⟨0, 14, 21, 15⟩] ⟨0, 14, 25, 20⟩ [] htb (fun z hz => (List.mem_cons.mp hz).elim (fun e => by rw [e]; exact Or.inr ⟨by decide, "java/lang/IndexOutOfBoundsException", hts (.classLink RL 13 "java/lang/IndexOutOfBoundsException") (by decide +kernel), hXs.2.2.2.1⟩) (fun hz => by rw [List.mem_singleton.mp hz]; exact Or.inr ⟨by decide, "java/lang/IllegalArgumentException", hts (.classLink RL 15 "java/lang/IllegalArgumentException") (by decide +kernel), hXs.2.2.2.2.1⟩)) rfl (by decide) (hts (.classLink RL 20 "java/lang/IllegalStateException") (by decide +kernel)) (exW_use hXs.1.2.1 (.castable "java/lang/IllegalStateException" "java/lang/IllegalStateException") (by decide +kernel)) hce hcv hcl ?_
      refine lv_astore (lv' := [(6, .ref q9), (0, .ref x), (1, .int p0), (2, .int p1), (3, .int p2), (4, .int p3), (5, .ref o)]) hx hb dL_launch_25 hl (by decide) rfl (fun ls hl => ?_)
      refine lv_iconst (v := 3) hx hb dL_launch_27 (by decide) ?_
      refine W.widen (k := 1) (n := 6) (Nat.le_of_ble_eq_true rfl) (Nat.le_of_ble_eq_true rfl) ?_
      exact W.iret (v := 3) hx hb hr (fun t ht hW => ⟨⟨3, (b, a, c9, q, a2, c2, q2, v), rfl, ⟨by rw [hcd]; rfl, by rw [hcd]; decide, hI.2.2.2.1, fun h => absurd (hcd.symm.trans h) (by decide), fun _ => ⟨rfl, rfl⟩⟩, by show va_P _ _ _ t.heap; rw [ht]; exact hP⟩, hS.F ht⟩) hS.2.2 dL_launch_28
  · obtain ⟨hr1, hcd, hcr⟩ := hu
    rw [List.nil_append] at hP hD
    refine lv_i2l (v := r.toInt64) hx hb dL_launch_12 rfl ?_
    refine lstO hx hb hXs.2.1 hP hD hS dL_launch_13 (fun v1 H locs hv1 hP hS => ?_)
    refine lv_goto (tgt := 29) hx hb dL_launch_14 (by decide) ?_
    refine lv_iconst (v := 0) hx hb dL_launch_29 (by decide) ?_
    refine W.widen (k := 1) (n := 6) (Nat.le_of_ble_eq_true rfl) (Nat.le_of_ble_eq_true rfl) ?_
    exact W.iret (v := 0) hx hb hr (fun t ht hW => ⟨⟨0, (b, addA a (p0).toNatClampNeg p1 (p2).toNatClampNeg (p3).toNatClampNeg, u, q, a2, c2, q2, v1), rfl, ⟨by rw [hcd]; rfl, by rw [hcd]; decide, hcr, fun _ => ⟨hv1.trans (by rw [hr1]), rfl, rfl⟩, fun h => absurd hcd h⟩, by show va_P _ _ _ t.heap; rw [ht]; exact hP⟩, hS.F ht⟩) hS.2.2 dL_launch_30
