set_option maxHeartbeats 4000000 in
set_option maxRecDepth 100000 in
theorem KL_count (lch : Launch) (hlt : lch.stackTraces = false) (D : va_G) (cA cL : ClassId) (sa : Nat → Nat) (x : Nat) (B F G : Nat → Nat) (o : Nat) (b : BSt) (a : FSt) (c9 q : Nat → Int32) (a2 : FSt) (c2 q2 : Nat → Int32) (v : Nat → Int64) (p0 : Int32) (sz : Nat) (hI : LI b a c9) : Met lch yL_count wsL_count ({ frames := 7, cells := 1, slots := 6, locals := 110 }) (Pr D cA [.ref x, .int p0, .ref o] sz (wX cA x B F G b a c9 q a2 c2 q2 ++ wO cL o v) (LX sa D cL (va_A (wX cA x B F G b a c9 q a2 c2 q2 ++ wO cL o v) sz))) (va_Qi (fun (r : Int32) (u : LU) => HP (cdCount p0) (countA a b (p0).toNatClampNeg) (b) (a) b a r u) (fun (u : LU) t => va_P D vwCl (wXU cA x B F G u ++ wO cL o u.2.2.2.2.2.2.2) t.heap) (va_A (wX cA x B F G b a c9 q a2 c2 q2 ++ wO cL o v) sz)) 1 6 (va_A (wX cA x B F G b a c9 q a2 c2 q2 ++ wO cL o v) sz) := by
  refine met_ofWH (cc := cL_count) (maxL := 4) (ret := (some .int)) (by decide) rfl ?_
  intro pg ev s mi args below meth cd s₁ B0 hml hv
  obtain ⟨hav, hsz, hP, hE, hD, hXs⟩ := hv
  have hx := B0.exec
  have hb := B0.bytes
  have hr := B0.returns
  have hts := atoms_spec (ws := wsL_count) B0.pre
  have hown : s.vm.findClass RL = some mi.cls := findClass_of_methodNamed B0.named
  have hlocks := B0.notSynchronized
  have htb := vx_table (x := yL_count) B0 (hts (.codeWith yL_count cL_count 4 (some .int) [(0, 9, 12, 13)]) List.mem_cons_self)
  clear B0
  subst hav
  subst hsz
  have hD := hD.self (sz := s.heap.size)
  generalize hAe : va_A (wX cA x B F G b a c9 q a2 c2 q2 ++ wO cL o v) s.heap.size = A at hD hXs ⊢
  have hA : ∀ q : Nat, s.heap.size ≤ q → A q := fun q h => by rw [← hAe]; exact Or.inr h
  have hS : va_S A s.heap s.heap [] := va_S.rf
  have hl := lv_entry ([.ref x, .int p0, .ref o]) (n := 4) (Nat.le_of_ble_eq_true rfl)
  rw [lg_entry_eq]
  generalize (lg_sl ([.ref x, .int p0, .ref o]) ++ List.replicate (4 - (lg_sl ([.ref x, .int p0, .ref o])).length) Slot.unset).toArray = ls at hl ⊢
  have hl : lv_has ls 4 [(0, .ref x), (1, .int p0), (2, .ref o)] := hl
  have hP : va_P D vwCl ([] ++ (wX cA x B F G b a c9 q a2 c2 q2 ++ wO cL o v)) s.heap := hP
  have hD : va_D A ([] ++ (wX cA x B F G b a c9 q a2 c2 q2 ++ wO cL o v)) := hD
  refine lv_aload_n hx hb dL_count_0 rfl (lv_at hl 2 rfl) ?_
  refine lv_iconst (v := 0) hx hb dL_count_1 (by decide) ?_
  refine lv_aload_n hx hb dL_count_2 rfl (lv_at hl 0 rfl) ?_
  refine lv_iload_n hx hb dL_count_3 rfl (lv_at hl 1 rfl) ?_
  refine bXVi (S := Unit) (EXP := fun E => (cdCount p0 = 1 ∧ E = "java/lang/IndexOutOfBoundsException")) (wB := fun (u : Unit) => wX cA x B F G b a c9 q a2 c2 q2) (As := [.int p0]) (rest := [.int 0, .ref o]) (pre := []) (wc := wX cA x B F G b a c9 q a2 c2 q2) (suf := wO cL o v) ⟨hx, hb, hml, hown, hts⟩ (K_X3_count lch hlt D cA sa x B F G b a c9 q a2 c2 q2 p0 s.heap.size hI.1) (cwV 1 hts gL_count_X3_count rfl rfl rfl (by decide +kernel) ⟨Nat.le_of_ble_eq_true rfl, Nat.le_of_ble_eq_true rfl⟩) hE hP hD hS hA (fun _ => rfl) (TX.blind sa _) (fun U hU hW => hXs.1.at hS hU hW (blk_free hD hS hA)) 0 3 rfl rfl rfl hl.1 rfl rfl (Nat.le_of_ble_eq_true rfl) dL_count_4 ⟨Nat.le_of_ble_eq_true rfl, Nat.le_of_ble_eq_true rfl⟩ (fun E9 ce q9 H locs hEx hP hS hce hcv hcl => ?_) (fun r u H locs hu hP hD hS => ?_)
  · rw [List.nil_append] at hP
    obtain ⟨hcd, rfl⟩ := hEx
    · skip
      refine vx_catch (own := RL) (name := "java/lang/IndexOutOfBoundsException") hown [] ⟨0, 9, 12, 13⟩ [] htb (fun z hz => by cases hz) rfl (by decide) (hts (.classLink RL 13 "java/lang/IndexOutOfBoundsException") (by decide +kernel)) (exW_use hXs.1.2.1 (.castable "java/lang/IndexOutOfBoundsException" "java/lang/IndexOutOfBoundsException") (by decide +kernel)) hce hcv hcl ?_
      refine lv_astore_n (lv' := [(3, .ref q9), (0, .ref x), (1, .int p0), (2, .ref o)]) hx hb dL_count_12 rfl hl (by decide) rfl (fun ls hl => ?_)
      refine lv_iconst (v := 1) hx hb dL_count_13 (by decide) ?_
      refine W.widen (k := 1) (n := 6) (Nat.le_of_ble_eq_true rfl) (Nat.le_of_ble_eq_true rfl) ?_
      exact W.iret (v := 1) hx hb hr (fun t ht hW => ⟨⟨1, (b, a, c9, q, a2, c2, q2, v), rfl, ⟨by rw [hcd]; rfl, by rw [hcd]; decide, hI.2.2.2.1, fun h => absurd (hcd.symm.trans h) (by decide), fun _ => ⟨rfl, rfl⟩⟩, by show va_P _ _ _ t.heap; rw [ht]; exact hP⟩, hS.F ht⟩) hS.2.2 dL_count_14
  · obtain ⟨hr1, hcd⟩ := hu
    rw [List.nil_append] at hP hD
    refine lv_i2l (v := r.toInt64) hx hb dL_count_7 rfl ?_
    refine lstO hx hb hXs.2.1 hP hD hS dL_count_8 (fun v1 H locs hv1 hP hS => ?_)
    refine lv_goto (tgt := 15) hx hb dL_count_9 (by decide) ?_
    refine lv_iconst (v := 0) hx hb dL_count_15 (by decide) ?_
    refine W.widen (k := 1) (n := 6) (Nat.le_of_ble_eq_true rfl) (Nat.le_of_ble_eq_true rfl) ?_
    exact W.iret (v := 0) hx hb hr (fun t ht hW => ⟨⟨0, (b, a, c9, q, a2, c2, q2, v1), rfl, ⟨by rw [hcd]; rfl, by rw [hcd]; decide, hI.2.2.2.1, fun _ => ⟨hv1.trans (by rw [hr1]), rfl, rfl⟩, fun h => absurd hcd h⟩, by show va_P _ _ _ t.heap; rw [ht]; exact hP⟩, hS.F ht⟩) hS.2.2 dL_count_16

set_option maxHeartbeats 4000000 in
set_option maxRecDepth 100000 in
theorem KL_pass (lch : Launch) (hlt : lch.stackTraces = false) (D : va_G) (cA cL : ClassId) (sa : Nat → Nat) (x : Nat) (B F G : Nat → Nat) (o : Nat) (b : BSt) (a : FSt) (c9 q : Nat → Int32) (a2 : FSt) (c2 q2 : Nat → Int32) (v : Nat → Int64) (p0 : Int32) (sz : Nat) (hI : LI b a c9) : Met lch yL_pass wsL_pass ({ frames := 7, cells := 1, slots := 6, locals := 141 }) (Pr D cA [.ref x, .int p0, .ref o] sz (wX cA x B F G b a c9 q a2 c2 q2 ++ wO cL o v) (LX sa D cL (va_A (wX cA x B F G b a c9 q a2 c2 q2 ++ wO cL o v) sz))) (va_Qi (fun (r : Int32) (u : LU) => HP (cdPass p0) (tallyA (minsA b (p0).toNatClampNeg a) 3 - tallyA a 3) (b) (minsA b (p0).toNatClampNeg a) b a r u) (fun (u : LU) t => va_P D vwCl (wXU cA x B F G u ++ wO cL o u.2.2.2.2.2.2.2) t.heap) (va_A (wX cA x B F G b a c9 q a2 c2 q2 ++ wO cL o v) sz)) 1 6 (va_A (wX cA x B F G b a c9 q a2 c2 q2 ++ wO cL o v) sz) := by
  refine met_ofWH (cc := cL_pass) (maxL := 4) (ret := (some .int)) (by decide) rfl ?_
  intro pg ev s mi args below meth cd s₁ B0 hml hv
  obtain ⟨hav, hsz, hP, hE, hD, hXs⟩ := hv
  have hx := B0.exec
  have hb := B0.bytes
  have hr := B0.returns
  have hts := atoms_spec (ws := wsL_pass) B0.pre
  have hown : s.vm.findClass RL = some mi.cls := findClass_of_methodNamed B0.named
  have hlocks := B0.notSynchronized
  have htb := vx_table (x := yL_pass) B0 (hts (.codeWith yL_pass cL_pass 4 (some .int) [(0, 9, 12, 15)]) List.mem_cons_self)
  clear B0
  subst hav
  subst hsz
  have hD := hD.self (sz := s.heap.size)
  generalize hAe : va_A (wX cA x B F G b a c9 q a2 c2 q2 ++ wO cL o v) s.heap.size = A at hD hXs ⊢
  have hA : ∀ q : Nat, s.heap.size ≤ q → A q := fun q h => by rw [← hAe]; exact Or.inr h
  have hS : va_S A s.heap s.heap [] := va_S.rf
  have hl := lv_entry ([.ref x, .int p0, .ref o]) (n := 4) (Nat.le_of_ble_eq_true rfl)
  rw [lg_entry_eq]
  generalize (lg_sl ([.ref x, .int p0, .ref o]) ++ List.replicate (4 - (lg_sl ([.ref x, .int p0, .ref o])).length) Slot.unset).toArray = ls at hl ⊢
  have hl : lv_has ls 4 [(0, .ref x), (1, .int p0), (2, .ref o)] := hl
  have hP : va_P D vwCl ([] ++ (wX cA x B F G b a c9 q a2 c2 q2 ++ wO cL o v)) s.heap := hP
  have hD : va_D A ([] ++ (wX cA x B F G b a c9 q a2 c2 q2 ++ wO cL o v)) := hD
  refine lv_aload_n hx hb dL_pass_0 rfl (lv_at hl 2 rfl) ?_
  refine lv_iconst (v := 0) hx hb dL_pass_1 (by decide) ?_
  refine lv_aload_n hx hb dL_pass_2 rfl (lv_at hl 0 rfl) ?_
  refine lv_iload_n hx hb dL_pass_3 rfl (lv_at hl 1 rfl) ?_
  refine bXVi (S := (Nat → Int32) × (Nat → Int32)) (EXP := fun E => (cdPass p0 = 1 ∧ E = "java/lang/IllegalArgumentException")) (wB := fun (u : (Nat → Int32) × (Nat → Int32)) => wX cA x B F G b (minsA b (p0).toNatClampNeg a) u.1 u.2 a2 c2 q2) (As := [.int p0]) (rest := [.int 0, .ref o]) (pre := []) (wc := wX cA x B F G b a c9 q a2 c2 q2) (suf := wO cL o v) ⟨hx, hb, hml, hown, hts⟩ (K_X3_pass lch hlt D cA sa x B F G b a c9 q a2 c2 q2 p0 s.heap.size hI.1 hI.2.1 hI.2.2.2.1) (cwV 1 hts gL_pass_X3_pass rfl rfl rfl (by decide +kernel) ⟨Nat.le_of_ble_eq_true rfl, Nat.le_of_ble_eq_true rfl⟩) hE hP hD hS hA (fun _ => rfl) (TX.blind sa _) (fun U hU hW => hXs.1.at hS hU hW (blk_free hD hS hA)) 0 3 rfl rfl rfl hl.1 rfl rfl (Nat.le_of_ble_eq_true rfl) dL_pass_4 ⟨Nat.le_of_ble_eq_true rfl, Nat.le_of_ble_eq_true rfl⟩ (fun E9 ce q9 H locs hEx hP hS hce hcv hcl => ?_) (fun r u H locs hu hP hD hS => ?_)
  · rw [List.nil_append] at hP
    obtain ⟨hcd, rfl⟩ := hEx
    · skip
      refine vx_catch (own := RL) (name := "java/lang/IllegalArgumentException") hown [] ⟨0, 9, 12, 15⟩ [] htb (fun z hz => by cases hz) rfl (by decide) (hts (.classLink RL 15 "java/lang/IllegalArgumentException") (by decide +kernel)) (exW_use hXs.1.2.1 (.castable "java/lang/IllegalArgumentException" "java/lang/IllegalArgumentException") (by decide +kernel)) hce hcv hcl ?_
      refine lv_astore_n (lv' := [(3, .ref q9), (0, .ref x), (1, .int p0), (2, .ref o)]) hx hb dL_pass_12 rfl hl (by decide) rfl (fun ls hl => ?_)
      refine lv_iconst (v := 1) hx hb dL_pass_13 (by decide) ?_
      refine W.widen (k := 1) (n := 6) (Nat.le_of_ble_eq_true rfl) (Nat.le_of_ble_eq_true rfl) ?_
      exact W.iret (v := 1) hx hb hr (fun t ht hW => ⟨⟨1, (b, a, c9, q, a2, c2, q2, v), rfl, ⟨by rw [hcd]; rfl, by rw [hcd]; decide, hI.2.2.2.1, fun h => absurd (hcd.symm.trans h) (by decide), fun _ => ⟨rfl, rfl⟩⟩, by show va_P _ _ _ t.heap; rw [ht]; exact hP⟩, hS.F ht⟩) hS.2.2 dL_pass_14
  · obtain ⟨hr1, hcd, hcr⟩ := hu
    rw [List.nil_append] at hP hD
    refine lv_i2l (v := r.toInt64) hx hb dL_pass_7 rfl ?_
    refine lstO hx hb hXs.2.1 hP hD hS dL_pass_8 (fun v1 H locs hv1 hP hS => ?_)
    refine lv_goto (tgt := 15) hx hb dL_pass_9 (by decide) ?_
    refine lv_iconst (v := 0) hx hb dL_pass_15 (by decide) ?_
    refine W.widen (k := 1) (n := 6) (Nat.le_of_ble_eq_true rfl) (Nat.le_of_ble_eq_true rfl) ?_
    exact W.iret (v := 0) hx hb hr (fun t ht hW => ⟨⟨0, (b, minsA b (p0).toNatClampNeg a, u.1, u.2, a2, c2, q2, v1), rfl, ⟨by rw [hcd]; rfl, by rw [hcd]; decide, hcr, fun _ => ⟨hv1.trans (by rw [hr1]), rfl, rfl⟩, fun h => absurd hcd h⟩, by show va_P _ _ _ t.heap; rw [ht]; exact hP⟩, hS.F ht⟩) hS.2.2 dL_pass_16

set_option maxHeartbeats 4000000 in
set_option maxRecDepth 100000 in
theorem KL_burns (lch : Launch) (hlt : lch.stackTraces = false) (D : va_G) (cA cL : ClassId) (sa : Nat → Nat) (x : Nat) (B F G : Nat → Nat) (o : Nat) (b : BSt) (a : FSt) (c9 q : Nat → Int32) (a2 : FSt) (c2 q2 : Nat → Int32) (v : Nat → Int64) (p0 : Int32) (sz : Nat) (hI : LI b a c9) : Met lch yL_burns wsL_burns ({ frames := 7, cells := 1, slots := 6, locals := 141 }) (Pr D cA [.ref x, .int p0, .ref o] sz (wX cA x B F G b a c9 q a2 c2 q2 ++ wO cL o v) (LX sa D cL (va_A (wX cA x B F G b a c9 q a2 c2 q2 ++ wO cL o v) sz))) (va_Qi (fun (r : Int32) (u : LU) => HP (cdLan a p0) (burnsA b a (p0).toNatClampNeg) (b) (a) b a r u) (fun (u : LU) t => va_P D vwCl (wXU cA x B F G u ++ wO cL o u.2.2.2.2.2.2.2) t.heap) (va_A (wX cA x B F G b a c9 q a2 c2 q2 ++ wO cL o v) sz)) 1 6 (va_A (wX cA x B F G b a c9 q a2 c2 q2 ++ wO cL o v) sz) := by
  refine met_ofWH (cc := cL_burns) (maxL := 4) (ret := (some .int)) (by decide) rfl ?_
  intro pg ev s mi args below meth cd s₁ B0 hml hv
  obtain ⟨hav, hsz, hP, hE, hD, hXs⟩ := hv
  have hx := B0.exec
  have hb := B0.bytes
  have hr := B0.returns
  have hts := atoms_spec (ws := wsL_burns) B0.pre
  have hown : s.vm.findClass RL = some mi.cls := findClass_of_methodNamed B0.named
  have hlocks := B0.notSynchronized
  have htb := vx_table (x := yL_burns) B0 (hts (.codeWith yL_burns cL_burns 4 (some .int) [(0, 9, 12, 13)]) List.mem_cons_self)
  clear B0
  subst hav
  subst hsz
  have hD := hD.self (sz := s.heap.size)
  generalize hAe : va_A (wX cA x B F G b a c9 q a2 c2 q2 ++ wO cL o v) s.heap.size = A at hD hXs ⊢
  have hA : ∀ q : Nat, s.heap.size ≤ q → A q := fun q h => by rw [← hAe]; exact Or.inr h
  have hS : va_S A s.heap s.heap [] := va_S.rf
  have hl := lv_entry ([.ref x, .int p0, .ref o]) (n := 4) (Nat.le_of_ble_eq_true rfl)
  rw [lg_entry_eq]
  generalize (lg_sl ([.ref x, .int p0, .ref o]) ++ List.replicate (4 - (lg_sl ([.ref x, .int p0, .ref o])).length) Slot.unset).toArray = ls at hl ⊢
  have hl : lv_has ls 4 [(0, .ref x), (1, .int p0), (2, .ref o)] := hl
  have hP : va_P D vwCl ([] ++ (wX cA x B F G b a c9 q a2 c2 q2 ++ wO cL o v)) s.heap := hP
  have hD : va_D A ([] ++ (wX cA x B F G b a c9 q a2 c2 q2 ++ wO cL o v)) := hD
  refine lv_aload_n hx hb dL_burns_0 rfl (lv_at hl 2 rfl) ?_
  refine lv_iconst (v := 0) hx hb dL_burns_1 (by decide) ?_
  refine lv_aload_n hx hb dL_burns_2 rfl (lv_at hl 0 rfl) ?_
  refine lv_iload_n hx hb dL_burns_3 rfl (lv_at hl 1 rfl) ?_
  refine bXVi (S := FSt × (Nat → Int32) × (Nat → Int32)) (EXP := fun E => (cdLan a p0 = 1 ∧ E = "java/lang/IndexOutOfBoundsException")) (wB := fun (u : FSt × (Nat → Int32) × (Nat → Int32)) => wX cA x B F G b a c9 q u.1 u.2.1 u.2.2) (As := [.int p0]) (rest := [.int 0, .ref o]) (pre := []) (wc := wX cA x B F G b a c9 q a2 c2 q2) (suf := wO cL o v) ⟨hx, hb, hml, hown, hts⟩ (K_X3_burns lch hlt D cA sa x B F G b a c9 q a2 c2 q2 p0 s.heap.size hI.1 hI.2.1 hI.2.2.2.1) (cwV 1 hts gL_burns_X3_burns rfl rfl rfl (by decide +kernel) ⟨Nat.le_of_ble_eq_true rfl, Nat.le_of_ble_eq_true rfl⟩) hE hP hD hS hA (fun _ => rfl) (TX.blind sa _) (fun U hU hW => hXs.1.at hS hU hW (blk_free hD hS hA)) 0 3 rfl rfl rfl hl.1 rfl rfl (Nat.le_of_ble_eq_true rfl) dL_burns_4 ⟨Nat.le_of_ble_eq_true rfl, Nat.le_of_ble_eq_true rfl⟩ (fun E9 ce q9 H locs hEx hP hS hce hcv hcl => ?_) (fun r u H locs hu hP hD hS => ?_)
  · rw [List.nil_append] at hP
    obtain ⟨hcd, rfl⟩ := hEx
    · skip
      refine vx_catch (own := RL) (name := "java/lang/IndexOutOfBoundsException") hown [] ⟨0, 9, 12, 13⟩ [] htb (fun z hz => by cases hz) rfl (by decide) (hts (.classLink RL 13 "java/lang/IndexOutOfBoundsException") (by decide +kernel)) (exW_use hXs.1.2.1 (.castable "java/lang/IndexOutOfBoundsException" "java/lang/IndexOutOfBoundsException") (by decide +kernel)) hce hcv hcl ?_
      refine lv_astore_n (lv' := [(3, .ref q9), (0, .ref x), (1, .int p0), (2, .ref o)]) hx hb dL_burns_12 rfl hl (by decide) rfl (fun ls hl => ?_)
      refine lv_iconst (v := 1) hx hb dL_burns_13 (by decide) ?_
      refine W.widen (k := 1) (n := 6) (Nat.le_of_ble_eq_true rfl) (Nat.le_of_ble_eq_true rfl) ?_
      exact W.iret (v := 1) hx hb hr (fun t ht hW => ⟨⟨1, (b, a, c9, q, a2, c2, q2, v), rfl, ⟨by rw [hcd]; rfl, by rw [hcd]; decide, hI.2.2.2.1, fun h => absurd (hcd.symm.trans h) (by decide), fun _ => ⟨rfl, rfl⟩⟩, by show va_P _ _ _ t.heap; rw [ht]; exact hP⟩, hS.F ht⟩) hS.2.2 dL_burns_14
  · obtain ⟨hr1, hcd⟩ := hu
    rw [List.nil_append] at hP hD
    refine lv_i2l (v := r.toInt64) hx hb dL_burns_7 rfl ?_
    refine lstO hx hb hXs.2.1 hP hD hS dL_burns_8 (fun v1 H locs hv1 hP hS => ?_)
    refine lv_goto (tgt := 15) hx hb dL_burns_9 (by decide) ?_
    refine lv_iconst (v := 0) hx hb dL_burns_15 (by decide) ?_
    refine W.widen (k := 1) (n := 6) (Nat.le_of_ble_eq_true rfl) (Nat.le_of_ble_eq_true rfl) ?_
    exact W.iret (v := 0) hx hb hr (fun t ht hW => ⟨⟨0, (b, a, c9, q, u.1, u.2.1, u.2.2, v1), rfl, ⟨by rw [hcd]; rfl, by rw [hcd]; decide, hI.2.2.2.1, fun _ => ⟨hv1.trans (by rw [hr1]), rfl, rfl⟩, fun h => absurd hcd h⟩, by show va_P _ _ _ t.heap; rw [ht]; exact hP⟩, hS.F ht⟩) hS.2.2 dL_burns_16

set_option maxHeartbeats 4000000 in
set_option maxRecDepth 100000 in
theorem KL_foresee (lch : Launch) (hlt : lch.stackTraces = false) (D : va_G) (cA cL : ClassId) (sa : Nat → Nat) (x : Nat) (B F G : Nat → Nat) (o : Nat) (b : BSt) (a : FSt) (c9 q : Nat → Int32) (a2 : FSt) (c2 q2 : Nat → Int32) (v : Nat → Int64) (p0 p1 : Int32) (sz : Nat) (hI : LI b a c9) : Met lch yL_foresee wsL_foresee ({ frames := 7, cells := 1, slots := 6, locals := 141 }) (Pr D cA [.ref x, .int p0, .int p1, .ref o] sz (wX cA x B F G b a c9 q a2 c2 q2 ++ wO cL o v) (LX sa D cL (va_A (wX cA x B F G b a c9 q a2 c2 q2 ++ wO cL o v) sz))) (va_Qi (fun (r : Int32) (u : LU) => HP (cdForesee p0 p1) (tallyA (minsA b (p0).toNatClampNeg a) (p1).toNatClampNeg) (b) (a) b a r u) (fun (u : LU) t => va_P D vwCl (wXU cA x B F G u ++ wO cL o u.2.2.2.2.2.2.2) t.heap) (va_A (wX cA x B F G b a c9 q a2 c2 q2 ++ wO cL o v) sz)) 1 6 (va_A (wX cA x B F G b a c9 q a2 c2 q2 ++ wO cL o v) sz) := by
  refine met_ofWH (cc := cL_foresee) (maxL := 5) (ret := (some .int)) (by decide) rfl ?_
  intro pg ev s mi args below meth cd s₁ B0 hml hv
  obtain ⟨hav, hsz, hP, hE, hD, hXs⟩ := hv
  have hx := B0.exec
  have hb := B0.bytes
  have hr := B0.returns
  have hts := atoms_spec (ws := wsL_foresee) B0.pre
  have hown : s.vm.findClass RL = some mi.cls := findClass_of_methodNamed B0.named
  have hlocks := B0.notSynchronized
  have htb := vx_table (x := yL_foresee) B0 (hts (.codeWith yL_foresee cL_foresee 5 (some .int) [(0, 10, 13, 15), (0, 10, 17, 13)]) List.mem_cons_self)
  clear B0
  subst hav
  subst hsz
  have hD := hD.self (sz := s.heap.size)
  generalize hAe : va_A (wX cA x B F G b a c9 q a2 c2 q2 ++ wO cL o v) s.heap.size = A at hD hXs ⊢
  have hA : ∀ q : Nat, s.heap.size ≤ q → A q := fun q h => by rw [← hAe]; exact Or.inr h
  have hS : va_S A s.heap s.heap [] := va_S.rf
  have hl := lv_entry ([.ref x, .int p0, .int p1, .ref o]) (n := 5) (Nat.le_of_ble_eq_true rfl)
  rw [lg_entry_eq]
  generalize (lg_sl ([.ref x, .int p0, .int p1, .ref o]) ++ List.replicate (5 - (lg_sl ([.ref x, .int p0, .int p1, .ref o])).length) Slot.unset).toArray = ls at hl ⊢
  have hl : lv_has ls 5 [(0, .ref x), (1, .int p0), (2, .int p1), (3, .ref o)] := hl
  have hP : va_P D vwCl ([] ++ (wX cA x B F G b a c9 q a2 c2 q2 ++ wO cL o v)) s.heap := hP
  have hD : va_D A ([] ++ (wX cA x B F G b a c9 q a2 c2 q2 ++ wO cL o v)) := hD
  refine lv_aload_n hx hb dL_foresee_0 rfl (lv_at hl 3 rfl) ?_
  refine lv_iconst (v := 0) hx hb dL_foresee_1 (by decide) ?_
  refine lv_aload_n hx hb dL_foresee_2 rfl (lv_at hl 0 rfl) ?_
  refine lv_iload_n hx hb dL_foresee_3 rfl (lv_at hl 1 rfl) ?_
  refine lv_iload_n hx hb dL_foresee_4 rfl (lv_at hl 2 rfl) ?_
  refine bXVi (S := FSt × (Nat → Int32) × (Nat → Int32)) (EXP := fun E => (cdForesee p0 p1 = 1 ∧ E = "java/lang/IllegalArgumentException") ∨ (cdForesee p0 p1 = 2 ∧ E = "java/lang/IndexOutOfBoundsException")) (wB := fun (u : FSt × (Nat → Int32) × (Nat → Int32)) => wX cA x B F G b a c9 q u.1 u.2.1 u.2.2) (As := [.int p0, .int p1]) (rest := [.int 0, .ref o]) (pre := []) (wc := wX cA x B F G b a c9 q a2 c2 q2) (suf := wO cL o v) ⟨hx, hb, hml, hown, hts⟩ (K_X3_foresee lch hlt D cA sa x B F G b a c9 q a2 c2 q2 p0 p1 s.heap.size hI.1 hI.2.1 hI.2.2.2.1) (cwV 2 hts gL_foresee_X3_foresee rfl rfl rfl (by decide +kernel) ⟨Nat.le_of_ble_eq_true rfl, Nat.le_of_ble_eq_true rfl⟩) hE hP hD hS hA (fun _ => rfl) (TX.blind sa _) (fun U hU hW => hXs.1.at hS hU hW (blk_free hD hS hA)) 0 3 rfl rfl rfl hl.1 rfl rfl (Nat.le_of_ble_eq_true rfl) dL_foresee_5 ⟨Nat.le_of_ble_eq_true rfl, Nat.le_of_ble_eq_true rfl⟩ (fun E9 ce q9 H locs hEx hP hS hce hcv hcl => ?_) (fun r u H locs hu hP hD hS => ?_)
  · rw [List.nil_append] at hP
    rcases hEx with ⟨hcd, rfl⟩ | ⟨hcd, rfl⟩
    · skip
      refine vx_catch (own := RL) (name := "java/lang/IllegalArgumentException") hown [] ⟨0, 10, 13, 15⟩ [⟨0, 10, 17, 13⟩] htb (fun z hz => by cases hz) rfl (by decide) (hts (.classLink RL 15 "java/lang/IllegalArgumentException") (by decide +kernel)) (exW_use hXs.1.2.1 (.castable "java/lang/IllegalArgumentException" "java/lang/IllegalArgumentException") (by decide +kernel)) hce hcv hcl ?_
      refine lv_astore (lv' := [(4, .ref q9), (0, .ref x), (1, .int p0), (2, .int p1), (3, .ref o)]) hx hb dL_foresee_13 hl (by decide) rfl (fun ls hl => ?_)
      refine lv_iconst (v := 1) hx hb dL_foresee_15 (by decide) ?_
      refine W.widen (k := 1) (n := 6) (Nat.le_of_ble_eq_true rfl) (Nat.le_of_ble_eq_true rfl) ?_
      exact W.iret (v := 1) hx hb hr (fun t ht hW => ⟨⟨1, (b, a, c9, q, a2, c2, q2, v), rfl, ⟨by rw [hcd]; rfl, by rw [hcd]; decide, hI.2.2.2.1, fun h => absurd (hcd.symm.trans h) (by decide), fun _ => ⟨rfl, rfl⟩⟩, by show va_P _ _ _ t.heap; rw [ht]; exact hP⟩, hS.F ht⟩) hS.2.2 dL_foresee_16
    · skip
      refine vx_catch (own := RL) (name := "java/lang/IndexOutOfBoundsException") hown [⟨0, 10, 13, 15⟩] ⟨0, 10, 17, 13⟩ [] htb (fun z hz => by rw [List.mem_singleton.mp hz]; exact Or.inr ⟨by decide, "java/lang/IllegalArgumentException", hts (.classLink RL 15 "java/lang/IllegalArgumentException") (by decide +kernel), hXs.2.2.2.2.2⟩) rfl (by decide) (hts (.classLink RL 13 "java/lang/IndexOutOfBoundsException") (by decide +kernel)) (exW_use hXs.1.2.1 (.castable "java/lang/IndexOutOfBoundsException" "java/lang/IndexOutOfBoundsException") (by decide +kernel)) hce hcv hcl ?_
      refine lv_astore (lv' := [(4, .ref q9), (0, .ref x), (1, .int p0), (2, .int p1), (3, .ref o)]) hx hb dL_foresee_17 hl (by decide) rfl (fun ls hl => ?_)
      refine lv_iconst (v := 2) hx hb dL_foresee_19 (by decide) ?_
      refine W.widen (k := 1) (n := 6) (Nat.le_of_ble_eq_true rfl) (Nat.le_of_ble_eq_true rfl) ?_
      exact W.iret (v := 2) hx hb hr (fun t ht hW => ⟨⟨2, (b, a, c9, q, a2, c2, q2, v), rfl, ⟨by rw [hcd]; rfl, by rw [hcd]; decide, hI.2.2.2.1, fun h => absurd (hcd.symm.trans h) (by decide), fun _ => ⟨rfl, rfl⟩⟩, by show va_P _ _ _ t.heap; rw [ht]; exact hP⟩, hS.F ht⟩) hS.2.2 dL_foresee_20
  · obtain ⟨hr1, hcd⟩ := hu
    rw [List.nil_append] at hP hD
    refine lv_i2l (v := r.toInt64) hx hb dL_foresee_8 rfl ?_
    refine lstO hx hb hXs.2.1 hP hD hS dL_foresee_9 (fun v1 H locs hv1 hP hS => ?_)
    refine lv_goto (tgt := 21) hx hb dL_foresee_10 (by decide) ?_
    refine lv_iconst (v := 0) hx hb dL_foresee_21 (by decide) ?_
    refine W.widen (k := 1) (n := 6) (Nat.le_of_ble_eq_true rfl) (Nat.le_of_ble_eq_true rfl) ?_
    exact W.iret (v := 0) hx hb hr (fun t ht hW => ⟨⟨0, (b, a, c9, q, u.1, u.2.1, u.2.2, v1), rfl, ⟨by rw [hcd]; rfl, by rw [hcd]; decide, hI.2.2.2.1, fun _ => ⟨hv1.trans (by rw [hr1]), rfl, rfl⟩, fun h => absurd hcd h⟩, by show va_P _ _ _ t.heap; rw [ht]; exact hP⟩, hS.F ht⟩) hS.2.2 dL_foresee_22

set_option maxHeartbeats 4000000 in
set_option maxRecDepth 100000 in
theorem KL_advise (lch : Launch) (hlt : lch.stackTraces = false) (D : va_G) (cA cL : ClassId) (sa : Nat → Nat) (x : Nat) (B F G : Nat → Nat) (o : Nat) (b : BSt) (a : FSt) (c9 q : Nat → Int32) (a2 : FSt) (c2 q2 : Nat → Int32) (v : Nat → Int64) (p0 : Int32) (sz : Nat) (hI : LI b a c9) : Met lch yL_advise wsL_advise ({ frames := 7, cells := 1, slots := 6, locals := 168 }) (Pr D cA [.ref x, .int p0, .ref o] sz (wX cA x B F G b a c9 q a2 c2 q2 ++ wO cL o v) (LX sa D cL (va_A (wX cA x B F G b a c9 q a2 c2 q2 ++ wO cL o v) sz))) (va_Qi (fun (r : Int32) (u : LU) => HP (cdFrame p0) (adviseA b a (p0).toNatClampNeg) (b) (a) b a r u) (fun (u : LU) t => va_P D vwCl (wXU cA x B F G u ++ wO cL o u.2.2.2.2.2.2.2) t.heap) (va_A (wX cA x B F G b a c9 q a2 c2 q2 ++ wO cL o v) sz)) 1 6 (va_A (wX cA x B F G b a c9 q a2 c2 q2 ++ wO cL o v) sz) := by
  refine met_ofWH (cc := cL_advise) (maxL := 4) (ret := (some .int)) (by decide) rfl ?_
  intro pg ev s mi args below meth cd s₁ B0 hml hv
  obtain ⟨hav, hsz, hP, hE, hD, hXs⟩ := hv
  have hx := B0.exec
  have hb := B0.bytes
  have hr := B0.returns
  have hts := atoms_spec (ws := wsL_advise) B0.pre
  have hown : s.vm.findClass RL = some mi.cls := findClass_of_methodNamed B0.named
  have hlocks := B0.notSynchronized
  have htb := vx_table (x := yL_advise) B0 (hts (.codeWith yL_advise cL_advise 4 (some .int) [(0, 9, 12, 13)]) List.mem_cons_self)
  clear B0
  subst hav
  subst hsz
  have hD := hD.self (sz := s.heap.size)
  generalize hAe : va_A (wX cA x B F G b a c9 q a2 c2 q2 ++ wO cL o v) s.heap.size = A at hD hXs ⊢
  have hA : ∀ q : Nat, s.heap.size ≤ q → A q := fun q h => by rw [← hAe]; exact Or.inr h
  have hS : va_S A s.heap s.heap [] := va_S.rf
  have hl := lv_entry ([.ref x, .int p0, .ref o]) (n := 4) (Nat.le_of_ble_eq_true rfl)
  rw [lg_entry_eq]
  generalize (lg_sl ([.ref x, .int p0, .ref o]) ++ List.replicate (4 - (lg_sl ([.ref x, .int p0, .ref o])).length) Slot.unset).toArray = ls at hl ⊢
  have hl : lv_has ls 4 [(0, .ref x), (1, .int p0), (2, .ref o)] := hl
  have hP : va_P D vwCl ([] ++ (wX cA x B F G b a c9 q a2 c2 q2 ++ wO cL o v)) s.heap := hP
  have hD : va_D A ([] ++ (wX cA x B F G b a c9 q a2 c2 q2 ++ wO cL o v)) := hD
  refine lv_aload_n hx hb dL_advise_0 rfl (lv_at hl 2 rfl) ?_
  refine lv_iconst (v := 0) hx hb dL_advise_1 (by decide) ?_
  refine lv_aload_n hx hb dL_advise_2 rfl (lv_at hl 0 rfl) ?_
  refine lv_iload_n hx hb dL_advise_3 rfl (lv_at hl 1 rfl) ?_
  refine bXVi (S := FSt × (Nat → Int32) × (Nat → Int32)) (EXP := fun E => (cdFrame p0 = 1 ∧ E = "java/lang/IndexOutOfBoundsException")) (wB := fun (u : FSt × (Nat → Int32) × (Nat → Int32)) => wX cA x B F G b a c9 q u.1 u.2.1 u.2.2) (As := [.int p0]) (rest := [.int 0, .ref o]) (pre := []) (wc := wX cA x B F G b a c9 q a2 c2 q2) (suf := wO cL o v) ⟨hx, hb, hml, hown, hts⟩ (K_X3_advise lch hlt D cA sa x B F G b a c9 q a2 c2 q2 p0 s.heap.size hI.1 hI.2.1 hI.2.2.2.1 hI.2.2.2.2) (cwV 1 hts gL_advise_X3_advise rfl rfl rfl (by decide +kernel) ⟨Nat.le_of_ble_eq_true rfl, Nat.le_of_ble_eq_true rfl⟩) hE hP hD hS hA (fun _ => rfl) (TX.blind sa _) (fun U hU hW => hXs.1.at hS hU hW (blk_free hD hS hA)) 0 3 rfl rfl rfl hl.1 rfl rfl (Nat.le_of_ble_eq_true rfl) dL_advise_4 ⟨Nat.le_of_ble_eq_true rfl, Nat.le_of_ble_eq_true rfl⟩ (fun E9 ce q9 H locs hEx hP hS hce hcv hcl => ?_) (fun r u H locs hu hP hD hS => ?_)
  · rw [List.nil_append] at hP
    obtain ⟨hcd, rfl⟩ := hEx
    · skip
      refine vx_catch (own := RL) (name := "java/lang/IndexOutOfBoundsException") hown [] ⟨0, 9, 12, 13⟩ [] htb (fun z hz => by cases hz) rfl (by decide) (hts (.classLink RL 13 "java/lang/IndexOutOfBoundsException") (by decide +kernel)) (exW_use hXs.1.2.1 (.castable "java/lang/IndexOutOfBoundsException" "java/lang/IndexOutOfBoundsException") (by decide +kernel)) hce hcv hcl ?_
      refine lv_astore_n (lv' := [(3, .ref q9), (0, .ref x), (1, .int p0), (2, .ref o)]) hx hb dL_advise_12 rfl hl (by decide) rfl (fun ls hl => ?_)
      refine lv_iconst (v := 1) hx hb dL_advise_13 (by decide) ?_
      refine W.widen (k := 1) (n := 6) (Nat.le_of_ble_eq_true rfl) (Nat.le_of_ble_eq_true rfl) ?_
      exact W.iret (v := 1) hx hb hr (fun t ht hW => ⟨⟨1, (b, a, c9, q, a2, c2, q2, v), rfl, ⟨by rw [hcd]; rfl, by rw [hcd]; decide, hI.2.2.2.1, fun h => absurd (hcd.symm.trans h) (by decide), fun _ => ⟨rfl, rfl⟩⟩, by show va_P _ _ _ t.heap; rw [ht]; exact hP⟩, hS.F ht⟩) hS.2.2 dL_advise_14
  · obtain ⟨hr1, hcd⟩ := hu
    rw [List.nil_append] at hP hD
    refine lv_i2l (v := r.toInt64) hx hb dL_advise_7 rfl ?_
    refine lstO hx hb hXs.2.1 hP hD hS dL_advise_8 (fun v1 H locs hv1 hP hS => ?_)
    refine lv_goto (tgt := 15) hx hb dL_advise_9 (by decide) ?_
    refine lv_iconst (v := 0) hx hb dL_advise_15 (by decide) ?_
    refine W.widen (k := 1) (n := 6) (Nat.le_of_ble_eq_true rfl) (Nat.le_of_ble_eq_true rfl) ?_
    exact W.iret (v := 0) hx hb hr (fun t ht hW => ⟨⟨0, (b, a, c9, q, u.1, u.2.1, u.2.2, v1), rfl, ⟨by rw [hcd]; rfl, by rw [hcd]; decide, hI.2.2.2.1, fun _ => ⟨hv1.trans (by rw [hr1]), rfl, rfl⟩, fun h => absurd hcd h⟩, by show va_P _ _ _ t.heap; rw [ht]; exact hP⟩, hS.F ht⟩) hS.2.2 dL_advise_16
