set_option maxHeartbeats 4000000 in
set_option maxRecDepth 100000 in
theorem LC_push {p : Program} {l : Launch} {e : Env} {s : State} {m : MethodId} {below : List Frame} {meth : Method} {c : Code} {sb L : Nat} {xs : Nat → Int32} {D : va_G} {cA cL : ClassId} {sa : Nat → Nat} {z1 z2 : Nat} (C0 : LEnv p l s m c sb L xs D cA cL sa z1 z2) {Q : State → Prop} {x : Nat} {B F G : Nat → Nat} {o y : Nat} {E S T : Nat → Nat} {j : Nat} (hj : 5 * j + 5 ≤ L) (kk : LHead p l e s m below meth c sb D cA cL x B F G o y E S T Q (j + 1)) (b : BSt) (a : FSt) (c9 q : Nat → Int32) (a2 : FSt) (c2 q2 : Nat → Int32) (v : Nat → Int64) (th : Int32) (qm : Nat → Int32) (a3 : FSt) (q3 : Nat → Int32) (H : Heap) (locs : List Loc) (ls : Array Slot) (hI : LI b a c9) (hP : va_P D vwCl (wAll cA cL x B F G o y E S T b a c9 q a2 c2 q2 v th qm a3 q3) H) (hD : va_D (fun q : Nat => s.heap.size ≤ q) (wAll cA cL x B F G o y E S T b a c9 q a2 c2 q2 v th qm a3 q3)) (hS : va_S (fun q : Nat => s.heap.size ≤ q) s.heap H locs) (hl : lv_has ls 9 [(4, .int (nI (5 * j))), (0, .ref sb), (1, .ref x), (2, .ref y), (3, .ref o)]) : W p l e room_1 s m #[Value.ref sb] below meth c H locs (100 + 371 * j) (4000 + 3346 * j) Q (F0 m 496 ls []) := by
  obtain ⟨hx, hb, hml, hown, hts, hE, hXL, hXS, hX, hbl, hlt, hL⟩ := id C0
  have hA : ∀ q : Nat, s.heap.size ≤ q → (fun q : Nat => s.heap.size ≤ q) q := fun _ h => h
  have hbA : ¬ (fun q : Nat => s.heap.size ≤ q) sb := Nat.not_le.mpr hbl
  have hL31 : L < 2 ^ 31 := by omega
  obtain ⟨p0, hp0⟩ : ∃ z, xs (5 * j + 1) = z := ⟨_, rfl⟩
  obtain ⟨p1, hp1⟩ : ∃ z, xs (5 * j + 2) = z := ⟨_, rfl⟩
  have hP : va_P D vwCl ([] ++ ((wX cA x B F G b a c9 q a2 c2 q2 ++ wO cL o v) ++ wY cA y E S T th b a qm a3 q3)) H := hP
  have hD : va_D (fun q : Nat => s.heap.size ≤ q) ([] ++ ((wX cA x B F G b a c9 q a2 c2 q2 ++ wO cL o v) ++ wY cA y E S T th b a qm a3 q3)) := hD
  refine lv_aload_n hx hb dL_law_496 rfl (lv_at hl 2 rfl) ?_
  refine lv_aload_n hx hb dL_law_497 rfl (lv_at hl 1 rfl) ?_
  refine lv_iload hx hb dL_law_498 (lv_at hl 0 rfl) ?_
  refine lv_iconst (v := 1) hx hb dL_law_500 (by decide) ?_
  refine lv_iadd hx hb dL_law_501 ?_
  refine top_i (y := nI (5 * j + 1)) (nI_add (5 * j) 1) ?_
  refine sld hx hb hX hbl hbA hS (k := 5 * j + 1) (by omega) hL31 (v := p0) hp0 dL_law_502 ?_
  refine lv_aload_n hx hb dL_law_503 rfl (lv_at hl 1 rfl) ?_
  refine lv_iload hx hb dL_law_504 (lv_at hl 0 rfl) ?_
  refine lv_iconst (v := 2) hx hb dL_law_506 (by decide) ?_
  refine lv_iadd hx hb dL_law_507 ?_
  refine top_i (y := nI (5 * j + 2)) (nI_add (5 * j) 2) ?_
  refine sld hx hb hX hbl hbA hS (k := 5 * j + 2) (by omega) hL31 (v := p1) hp1 dL_law_508 ?_
  refine lv_aload_n hx hb dL_law_509 rfl (lv_at hl 4 rfl) ?_
  refine bSi (S := LU) (wB := fun (u : LU) => wXU cA x B F G u ++ wO cL o u.2.2.2.2.2.2.2) (As := [.ref x, .int p0, .int p1, .ref o]) (rest := []) (pre := []) (wc := (wX cA x B F G b a c9 q a2 c2 q2 ++ wO cL o v)) (suf := wY cA y E S T th b a qm a3 q3) ⟨hx, hb, hml, hown, hts⟩ (KL_push l hlt D cA cL sa x B F G o b a c9 q a2 c2 q2 v p0 p1 H.size hI) (vx_cwSW 4 hts gL_law_L_push rfl rfl rfl (by decide +kernel) ⟨Nat.le_of_ble_eq_true rfl, Nat.le_of_ble_eq_true rfl⟩) hE hP hD hS hA (fun _ => rfl) (LX.blind sa D cL _) (fun U hU hW => hXL.at hS hU hW (blk_free hD hS hA)) hl.1 rfl rfl (Nat.le_of_ble_eq_true rfl) dL_law_510 ⟨by show _ ≤ 601024; omega, by show _ ≤ 7293034; omega⟩ (fun r u H locs hu hP hD hS => ?_)
  obtain ⟨b1, a1, c1, q1, a21, c21, q21, v1⟩ := u
  obtain ⟨hr, hn4, hcr, hu0, hu1⟩ := hu
  have hcr : CRa a1 c1 := hcr
  have hu0 : cdPush a p0 p1 = 0 → v1 0 = (nI (qLa a (p0).toNatClampNeg) : Int32).toInt64 ∧ b1 = b ∧ a1 = uLa a (up (qLa a) (p0).toNatClampNeg (p1).toNatClampNeg) := hu0
  have hu1 : ¬ cdPush a p0 p1 = 0 → b1 = b ∧ a1 = a := hu1
  subst hr
  rw [List.nil_append] at hP hD
  have hP : va_P D vwCl ((wX cA x B F G b1 a1 c1 q1 a21 c21 q21 ++ wO cL o v1) ++ (wY cA y E S T th b a qm a3 q3 ++ [])) H := by rw [List.append_nil]; exact hP
  have hD : va_D (fun q : Nat => s.heap.size ≤ q) ((wX cA x B F G b1 a1 c1 q1 a21 c21 q21 ++ wO cL o v1) ++ (wY cA y E S T th b a qm a3 q3 ++ [])) := by rw [List.append_nil]; exact hD
  refine lv_istore (lv' := [(5, .int (nI (cdPush a p0 p1))), (4, .int (nI (5 * j))), (0, .ref sb), (1, .ref x), (2, .ref y), (3, .ref o)]) hx hb dL_law_513 hl (by decide) rfl (fun ls hl => ?_)
  refine lv_aload_n hx hb dL_law_515 rfl (lv_at hl 4 rfl) ?_
  refine lv_aload_n hx hb dL_law_516 rfl (lv_at hl 2 rfl) ?_
  refine lv_iload hx hb dL_law_517 (lv_at hl 1 rfl) ?_
  refine lv_iconst (v := 1) hx hb dL_law_519 (by decide) ?_
  refine lv_iadd hx hb dL_law_520 ?_
  refine top_i (y := nI (5 * j + 1)) (nI_add (5 * j) 1) ?_
  refine sld hx hb hX hbl hbA hS (k := 5 * j + 1) (by omega) hL31 (v := p0) hp0 dL_law_521 ?_
  refine lv_aload_n hx hb dL_law_522 rfl (lv_at hl 2 rfl) ?_
  refine lv_iload hx hb dL_law_523 (lv_at hl 1 rfl) ?_
  refine lv_iconst (v := 2) hx hb dL_law_525 (by decide) ?_
  refine lv_iadd hx hb dL_law_526 ?_
  refine top_i (y := nI (5 * j + 2)) (nI_add (5 * j) 2) ?_
  refine sld hx hb hX hbl hbA hS (k := 5 * j + 2) (by omega) hL31 (v := p1) hp1 dL_law_527 ?_
  refine bVi (S := FSt) (wB := fun (u : FSt) => wY cA y E S T (nI (cdPush a p0 p1)) b u qm a3 q3) (As := [.int p0, .int p1]) (rest := []) (pre := (wX cA x B F G b1 a1 c1 q1 a21 c21 q21 ++ wO cL o v1)) (wc := wY cA y E S T th b a qm a3 q3) (suf := []) ⟨hx, hb, hml, hown, hts⟩ (K_X5_push l D cA y E S T th b a qm a3 q3 p0 p1 H.size hI.1) (cwV 2 hts gL_law_X5_push rfl rfl rfl (by decide +kernel) ⟨Nat.le_of_ble_eq_true rfl, Nat.le_of_ble_eq_true rfl⟩) hE hP hD hS hA (fun _ => rfl) X0.blind (fun _ _ _ => trivial) 0 5 rfl rfl rfl hl.1 rfl rfl (Nat.le_of_ble_eq_true rfl) dL_law_528 ⟨by show _ ≤ 601024; omega, by show _ ≤ 7293034; omega⟩ (fun r2 u H locs hm hP hD hS => ?_)
  have hm0 : cdPush a p0 p1 = 0 → r2 = nI (qLa a (p0).toNatClampNeg) ∧ u = uLa a (up (qLa a) (p0).toNatClampNeg (p1).toNatClampNeg) := hm.1
  have hm1 : ¬ cdPush a p0 p1 = 0 → u = a := fun h => (hm.2 h).2
  have hP : va_P D vwCl ((wX cA x B F G b1 a1 c1 q1 a21 c21 q21 ++ wO cL o v1) ++ (wY cA y E S T (nI (cdPush a p0 p1)) b u qm a3 q3 ++ [])) H := hP
  have hD : va_D (fun q : Nat => s.heap.size ≤ q) ((wX cA x B F G b1 a1 c1 q1 a21 c21 q21 ++ wO cL o v1) ++ (wY cA y E S T (nI (cdPush a p0 p1)) b u qm a3 q3 ++ [])) := hD
  refine lv_istore (lv' := [(6, .int r2), (5, .int (nI (cdPush a p0 p1))), (4, .int (nI (5 * j))), (0, .ref sb), (1, .ref x), (2, .ref y), (3, .ref o)]) hx hb dL_law_531 hl (by decide) rfl (fun ls hl => ?_)
  refine lv_aload_n hx hb dL_law_533 rfl (lv_at hl 5 rfl) ?_
  refine qVi (S := Unit) (As := []) (rest := []) (pre := (wX cA x B F G b1 a1 c1 q1 a21 c21 q21 ++ wO cL o v1)) (wc := wY cA y E S T (nI (cdPush a p0 p1)) b u qm a3 q3) (suf := []) ⟨hx, hb, hml, hown, hts⟩ (K_X5_thrown l D cA y E S T (nI (cdPush a p0 p1)) b u qm a3 q3 H.size) (cwV 0 hts gL_law_X5_thrown rfl rfl rfl (by decide +kernel) ⟨Nat.le_of_ble_eq_true rfl, Nat.le_of_ble_eq_true rfl⟩) hE hP hD hS hA X0.blind (fun _ _ _ => trivial) 0 5 rfl rfl rfl hl.1 rfl rfl (Nat.le_of_ble_eq_true rfl) dL_law_534 ⟨by show _ ≤ 601024; omega, by show _ ≤ 7293034; omega⟩ (fun r3 _ H locs ht3 hP hS => ?_)
  subst ht3
  rw [List.append_nil] at hP hD
  refine lv_iload hx hb dL_law_537 (lv_at hl 1 rfl) ?_
  refine lv_icmp_eq (tgt := 544) hx hb dL_law_539 (by decide) (fun _ => ?_) (fun cf => absurd rfl cf)
  refine lv_iload hx hb dL_law_544 (lv_at hl 1 rfl) ?_
  refine lv_if_ne (tgt := 561) hx hb dL_law_546 (by decide) (fun ck => ?_) (fun ck => ?_)
  · skip
    have hn : ¬ cdPush a p0 p1 = 0 := fun h => ck (by rw [h]; rfl)
    obtain ⟨e1, e2⟩ := hu1 hn
    have ey : wY cA y E S T (nI (cdPush a p0 p1)) b u qm a3 q3 = wY cA y E S T (nI (cdPush a p0 p1)) b1 a1 qm a3 q3 := by rw [e1, e2, hm1 hn]
    rw [ey] at hP hD
    refine lv_goto (tgt := 1147) hx hb dL_law_561 (by decide) ?_
    refine lv_iinc (v := nI (5 * j + 5)) (lv' := [(4, .int (nI (5 * j + 5))), (6, .int r2), (5, .int (nI (cdPush a p0 p1))), (0, .ref sb), (1, .ref x), (2, .ref y), (3, .ref o)]) hx hb dL_law_1147 hl (k := 2) rfl (nI_add (5 * j) 5) (by decide) rfl (fun ls hl => ?_)
    refine lv_goto (tgt := 23) hx hb dL_law_1150 (by decide) ?_
    refine W.widen (k := 100 + 371 * (j + 1)) (n := 4000 + 3346 * (j + 1)) (by omega) (by omega) ?_
    exact kk b1 a1 c1 q1 a21 c21 q21 v1 (nI (cdPush a p0 p1)) qm a3 q3 H locs ls (by rw [e1, e2]; rw [e2] at hcr; exact hI.crowd hcr) hP hD hS (lv_sub hl [0, 3, 4, 5, 6] rfl)
  · skip
    have h0 : cdPush a p0 p1 = 0 := (nI_eq (a := cdPush a p0 p1) (b := 0) (by omega) (by decide)).mp ck
    obtain ⟨hv, e1, e2⟩ := hu0 h0
    obtain ⟨e3, e4⟩ := hm0 h0
    have ey : wY cA y E S T (nI (cdPush a p0 p1)) b u qm a3 q3 = wY cA y E S T (nI (cdPush a p0 p1)) b1 a1 qm a3 q3 := by rw [e1, e2, e4]
    rw [ey] at hP hD
    refine lv_aload_n hx hb dL_law_549 rfl (lv_at hl 6 rfl) ?_
    refine lv_iconst (v := 0) hx hb dL_law_550 (by decide) ?_
    refine lldO hx hb hXL.2.1 hP dL_law_551 ?_
    refine lv_iload hx hb dL_law_552 (lv_at hl 0 rfl) ?_
    refine lv_i2l (v := r2.toInt64) hx hb dL_law_554 rfl ?_
    refine W.lcmp hx hb dL_law_555 ?_
    refine lv_if_eq (tgt := 561) hx hb dL_law_556 (by decide) (fun _ => ?_) (fun cf => absurd ((lg_cmp_eq _ _).mpr (by rw [hv, e3])) cf)
    refine lv_goto (tgt := 1147) hx hb dL_law_561 (by decide) ?_
    refine lv_iinc (v := nI (5 * j + 5)) (lv' := [(4, .int (nI (5 * j + 5))), (6, .int r2), (5, .int (nI (cdPush a p0 p1))), (0, .ref sb), (1, .ref x), (2, .ref y), (3, .ref o)]) hx hb dL_law_1147 hl (k := 2) rfl (nI_add (5 * j) 5) (by decide) rfl (fun ls hl => ?_)
    refine lv_goto (tgt := 23) hx hb dL_law_1150 (by decide) ?_
    refine W.widen (k := 100 + 371 * (j + 1)) (n := 4000 + 3346 * (j + 1)) (by omega) (by omega) ?_
    exact kk b1 a1 c1 q1 a21 c21 q21 v1 (nI (cdPush a p0 p1)) qm a3 q3 H locs ls (by rw [e2] at hcr; rw [e1, e2]; exact inv_push hI h0 hcr) hP hD hS (lv_sub hl [0, 3, 4, 5, 6] rfl)

set_option maxHeartbeats 4000000 in
set_option maxRecDepth 100000 in
theorem LC_light {p : Program} {l : Launch} {e : Env} {s : State} {m : MethodId} {below : List Frame} {meth : Method} {c : Code} {sb L : Nat} {xs : Nat → Int32} {D : va_G} {cA cL : ClassId} {sa : Nat → Nat} {z1 z2 : Nat} (C0 : LEnv p l s m c sb L xs D cA cL sa z1 z2) {Q : State → Prop} {x : Nat} {B F G : Nat → Nat} {o y : Nat} {E S T : Nat → Nat} {j : Nat} (hj : 5 * j + 5 ≤ L) (kk : LHead p l e s m below meth c sb D cA cL x B F G o y E S T Q (j + 1)) (b : BSt) (a : FSt) (c9 q : Nat → Int32) (a2 : FSt) (c2 q2 : Nat → Int32) (v : Nat → Int64) (th : Int32) (qm : Nat → Int32) (a3 : FSt) (q3 : Nat → Int32) (H : Heap) (locs : List Loc) (ls : Array Slot) (hI : LI b a c9) (hP : va_P D vwCl (wAll cA cL x B F G o y E S T b a c9 q a2 c2 q2 v th qm a3 q3) H) (hD : va_D (fun q : Nat => s.heap.size ≤ q) (wAll cA cL x B F G o y E S T b a c9 q a2 c2 q2 v th qm a3 q3)) (hS : va_S (fun q : Nat => s.heap.size ≤ q) s.heap H locs) (hl : lv_has ls 9 [(4, .int (nI (5 * j))), (0, .ref sb), (1, .ref x), (2, .ref y), (3, .ref o)]) : W p l e room_1 s m #[Value.ref sb] below meth c H locs (100 + 371 * j) (4000 + 3346 * j) Q (F0 m 564 ls []) := by
  obtain ⟨hx, hb, hml, hown, hts, hE, hXL, hXS, hX, hbl, hlt, hL⟩ := id C0
  have hA : ∀ q : Nat, s.heap.size ≤ q → (fun q : Nat => s.heap.size ≤ q) q := fun _ h => h
  have hbA : ¬ (fun q : Nat => s.heap.size ≤ q) sb := Nat.not_le.mpr hbl
  have hL31 : L < 2 ^ 31 := by omega
  obtain ⟨p0, hp0⟩ : ∃ z, xs (5 * j + 1) = z := ⟨_, rfl⟩
  have hP : va_P D vwCl ([] ++ ((wX cA x B F G b a c9 q a2 c2 q2 ++ wO cL o v) ++ wY cA y E S T th b a qm a3 q3)) H := hP
  have hD : va_D (fun q : Nat => s.heap.size ≤ q) ([] ++ ((wX cA x B F G b a c9 q a2 c2 q2 ++ wO cL o v) ++ wY cA y E S T th b a qm a3 q3)) := hD
  refine lv_aload_n hx hb dL_law_564 rfl (lv_at hl 2 rfl) ?_
  refine lv_aload_n hx hb dL_law_565 rfl (lv_at hl 1 rfl) ?_
  refine lv_iload hx hb dL_law_566 (lv_at hl 0 rfl) ?_
  refine lv_iconst (v := 1) hx hb dL_law_568 (by decide) ?_
  refine lv_iadd hx hb dL_law_569 ?_
  refine top_i (y := nI (5 * j + 1)) (nI_add (5 * j) 1) ?_
  refine sld hx hb hX hbl hbA hS (k := 5 * j + 1) (by omega) hL31 (v := p0) hp0 dL_law_570 ?_
  refine lv_aload_n hx hb dL_law_571 rfl (lv_at hl 4 rfl) ?_
  refine bSi (S := LU) (wB := fun (u : LU) => wXU cA x B F G u ++ wO cL o u.2.2.2.2.2.2.2) (As := [.ref x, .int p0, .ref o]) (rest := []) (pre := []) (wc := (wX cA x B F G b a c9 q a2 c2 q2 ++ wO cL o v)) (suf := wY cA y E S T th b a qm a3 q3) ⟨hx, hb, hml, hown, hts⟩ (KL_light l hlt D cA cL sa x B F G o b a c9 q a2 c2 q2 v p0 H.size hI) (vx_cwSW 3 hts gL_law_L_light rfl rfl rfl (by decide +kernel) ⟨Nat.le_of_ble_eq_true rfl, Nat.le_of_ble_eq_true rfl⟩) hE hP hD hS hA (fun _ => rfl) (LX.blind sa D cL _) (fun U hU hW => hXL.at hS hU hW (blk_free hD hS hA)) hl.1 rfl rfl (Nat.le_of_ble_eq_true rfl) dL_law_572 ⟨by show _ ≤ 601024; omega, by show _ ≤ 7293034; omega⟩ (fun r u H locs hu hP hD hS => ?_)
  obtain ⟨b1, a1, c1, q1, a21, c21, q21, v1⟩ := u
  obtain ⟨hr, hn4, hcr, hu0, hu1⟩ := hu
  have hcr : CRa a1 c1 := hcr
  have hu0 : cdLight a p0 = 0 → v1 0 = (nI (qWx a (p0).toNatClampNeg) : Int32).toInt64 ∧ b1 = b ∧ a1 = uBu a (up (qBu a) (p0).toNatClampNeg true) := hu0
  have hu1 : ¬ cdLight a p0 = 0 → b1 = b ∧ a1 = a := hu1
  subst hr
  rw [List.nil_append] at hP hD
  have hP : va_P D vwCl ((wX cA x B F G b1 a1 c1 q1 a21 c21 q21 ++ wO cL o v1) ++ (wY cA y E S T th b a qm a3 q3 ++ [])) H := by rw [List.append_nil]; exact hP
  have hD : va_D (fun q : Nat => s.heap.size ≤ q) ((wX cA x B F G b1 a1 c1 q1 a21 c21 q21 ++ wO cL o v1) ++ (wY cA y E S T th b a qm a3 q3 ++ [])) := by rw [List.append_nil]; exact hD
  refine lv_istore (lv' := [(5, .int (nI (cdLight a p0))), (4, .int (nI (5 * j))), (0, .ref sb), (1, .ref x), (2, .ref y), (3, .ref o)]) hx hb dL_law_575 hl (by decide) rfl (fun ls hl => ?_)
  refine lv_aload_n hx hb dL_law_577 rfl (lv_at hl 4 rfl) ?_
  refine lv_aload_n hx hb dL_law_578 rfl (lv_at hl 2 rfl) ?_
  refine lv_iload hx hb dL_law_579 (lv_at hl 1 rfl) ?_
  refine lv_iconst (v := 1) hx hb dL_law_581 (by decide) ?_
  refine lv_iadd hx hb dL_law_582 ?_
  refine top_i (y := nI (5 * j + 1)) (nI_add (5 * j) 1) ?_
  refine sld hx hb hX hbl hbA hS (k := 5 * j + 1) (by omega) hL31 (v := p0) hp0 dL_law_583 ?_
  refine bVi (S := FSt) (wB := fun (u : FSt) => wY cA y E S T (nI (cdLight a p0)) b u qm a3 q3) (As := [.int p0]) (rest := []) (pre := (wX cA x B F G b1 a1 c1 q1 a21 c21 q21 ++ wO cL o v1)) (wc := wY cA y E S T th b a qm a3 q3) (suf := []) ⟨hx, hb, hml, hown, hts⟩ (K_X5_light l D cA y E S T th b a qm a3 q3 z1 z2 p0 H.size hI.1) (cwV 1 hts gL_law_X5_light rfl rfl rfl (by decide +kernel) ⟨Nat.le_of_ble_eq_true rfl, Nat.le_of_ble_eq_true rfl⟩) hE hP hD hS hA (fun _ => rfl) (SX.blind z1 z2 _) (fun U hU hW => hXS.at hS (blk_free hD hS hA) hU hW) 0 5 rfl rfl rfl hl.1 rfl rfl (Nat.le_of_ble_eq_true rfl) dL_law_584 ⟨by show _ ≤ 601024; omega, by show _ ≤ 7293034; omega⟩ (fun r2 u H locs hm hP hD hS => ?_)
  have hm0 : cdLight a p0 = 0 → r2 = nI (qWx a (p0).toNatClampNeg) ∧ u = uBu a (up (qBu a) (p0).toNatClampNeg true) := hm.1
  have hm1 : ¬ cdLight a p0 = 0 → u = a := fun h => (hm.2 h).2
  have hP : va_P D vwCl ((wX cA x B F G b1 a1 c1 q1 a21 c21 q21 ++ wO cL o v1) ++ (wY cA y E S T (nI (cdLight a p0)) b u qm a3 q3 ++ [])) H := hP
  have hD : va_D (fun q : Nat => s.heap.size ≤ q) ((wX cA x B F G b1 a1 c1 q1 a21 c21 q21 ++ wO cL o v1) ++ (wY cA y E S T (nI (cdLight a p0)) b u qm a3 q3 ++ [])) := hD
  refine lv_istore (lv' := [(6, .int r2), (5, .int (nI (cdLight a p0))), (4, .int (nI (5 * j))), (0, .ref sb), (1, .ref x), (2, .ref y), (3, .ref o)]) hx hb dL_law_587 hl (by decide) rfl (fun ls hl => ?_)
  refine lv_aload_n hx hb dL_law_589 rfl (lv_at hl 5 rfl) ?_
  refine qVi (S := Unit) (As := []) (rest := []) (pre := (wX cA x B F G b1 a1 c1 q1 a21 c21 q21 ++ wO cL o v1)) (wc := wY cA y E S T (nI (cdLight a p0)) b u qm a3 q3) (suf := []) ⟨hx, hb, hml, hown, hts⟩ (K_X5_thrown l D cA y E S T (nI (cdLight a p0)) b u qm a3 q3 H.size) (cwV 0 hts gL_law_X5_thrown rfl rfl rfl (by decide +kernel) ⟨Nat.le_of_ble_eq_true rfl, Nat.le_of_ble_eq_true rfl⟩) hE hP hD hS hA X0.blind (fun _ _ _ => trivial) 0 5 rfl rfl rfl hl.1 rfl rfl (Nat.le_of_ble_eq_true rfl) dL_law_590 ⟨by show _ ≤ 601024; omega, by show _ ≤ 7293034; omega⟩ (fun r3 _ H locs ht3 hP hS => ?_)
  subst ht3
  rw [List.append_nil] at hP hD
  refine lv_iload hx hb dL_law_593 (lv_at hl 1 rfl) ?_
  refine lv_icmp_eq (tgt := 600) hx hb dL_law_595 (by decide) (fun _ => ?_) (fun cf => absurd rfl cf)
  refine lv_iload hx hb dL_law_600 (lv_at hl 1 rfl) ?_
  refine lv_if_ne (tgt := 617) hx hb dL_law_602 (by decide) (fun ck => ?_) (fun ck => ?_)
  · skip
    have hn : ¬ cdLight a p0 = 0 := fun h => ck (by rw [h]; rfl)
    obtain ⟨e1, e2⟩ := hu1 hn
    have ey : wY cA y E S T (nI (cdLight a p0)) b u qm a3 q3 = wY cA y E S T (nI (cdLight a p0)) b1 a1 qm a3 q3 := by rw [e1, e2, hm1 hn]
    rw [ey] at hP hD
    refine lv_goto (tgt := 1147) hx hb dL_law_617 (by decide) ?_
    refine lv_iinc (v := nI (5 * j + 5)) (lv' := [(4, .int (nI (5 * j + 5))), (6, .int r2), (5, .int (nI (cdLight a p0))), (0, .ref sb), (1, .ref x), (2, .ref y), (3, .ref o)]) hx hb dL_law_1147 hl (k := 2) rfl (nI_add (5 * j) 5) (by decide) rfl (fun ls hl => ?_)
    refine lv_goto (tgt := 23) hx hb dL_law_1150 (by decide) ?_
    refine W.widen (k := 100 + 371 * (j + 1)) (n := 4000 + 3346 * (j + 1)) (by omega) (by omega) ?_
    exact kk b1 a1 c1 q1 a21 c21 q21 v1 (nI (cdLight a p0)) qm a3 q3 H locs ls (by rw [e1, e2]; rw [e2] at hcr; exact hI.crowd hcr) hP hD hS (lv_sub hl [0, 3, 4, 5, 6] rfl)
  · skip
    have h0 : cdLight a p0 = 0 := (nI_eq (a := cdLight a p0) (b := 0) (by omega) (by decide)).mp ck
    obtain ⟨hv, e1, e2⟩ := hu0 h0
    obtain ⟨e3, e4⟩ := hm0 h0
    have ey : wY cA y E S T (nI (cdLight a p0)) b u qm a3 q3 = wY cA y E S T (nI (cdLight a p0)) b1 a1 qm a3 q3 := by rw [e1, e2, e4]
    rw [ey] at hP hD
    refine lv_aload_n hx hb dL_law_605 rfl (lv_at hl 6 rfl) ?_
    refine lv_iconst (v := 0) hx hb dL_law_606 (by decide) ?_
    refine lldO hx hb hXL.2.1 hP dL_law_607 ?_
    refine lv_iload hx hb dL_law_608 (lv_at hl 0 rfl) ?_
    refine lv_i2l (v := r2.toInt64) hx hb dL_law_610 rfl ?_
    refine W.lcmp hx hb dL_law_611 ?_
    refine lv_if_eq (tgt := 617) hx hb dL_law_612 (by decide) (fun _ => ?_) (fun cf => absurd ((lg_cmp_eq _ _).mpr (by rw [hv, e3])) cf)
    refine lv_goto (tgt := 1147) hx hb dL_law_617 (by decide) ?_
    refine lv_iinc (v := nI (5 * j + 5)) (lv' := [(4, .int (nI (5 * j + 5))), (6, .int r2), (5, .int (nI (cdLight a p0))), (0, .ref sb), (1, .ref x), (2, .ref y), (3, .ref o)]) hx hb dL_law_1147 hl (k := 2) rfl (nI_add (5 * j) 5) (by decide) rfl (fun ls hl => ?_)
    refine lv_goto (tgt := 23) hx hb dL_law_1150 (by decide) ?_
    refine W.widen (k := 100 + 371 * (j + 1)) (n := 4000 + 3346 * (j + 1)) (by omega) (by omega) ?_
    exact kk b1 a1 c1 q1 a21 c21 q21 v1 (nI (cdLight a p0)) qm a3 q3 H locs ls (by rw [e2] at hcr; rw [e1, e2]; exact inv_light hI h0 hcr) hP hD hS (lv_sub hl [0, 3, 4, 5, 6] rfl)

set_option maxHeartbeats 4000000 in
set_option maxRecDepth 100000 in
theorem LC_blow {p : Program} {l : Launch} {e : Env} {s : State} {m : MethodId} {below : List Frame} {meth : Method} {c : Code} {sb L : Nat} {xs : Nat → Int32} {D : va_G} {cA cL : ClassId} {sa : Nat → Nat} {z1 z2 : Nat} (C0 : LEnv p l s m c sb L xs D cA cL sa z1 z2) {Q : State → Prop} {x : Nat} {B F G : Nat → Nat} {o y : Nat} {E S T : Nat → Nat} {j : Nat} (hj : 5 * j + 5 ≤ L) (kk : LHead p l e s m below meth c sb D cA cL x B F G o y E S T Q (j + 1)) (b : BSt) (a : FSt) (c9 q : Nat → Int32) (a2 : FSt) (c2 q2 : Nat → Int32) (v : Nat → Int64) (th : Int32) (qm : Nat → Int32) (a3 : FSt) (q3 : Nat → Int32) (H : Heap) (locs : List Loc) (ls : Array Slot) (hI : LI b a c9) (hP : va_P D vwCl (wAll cA cL x B F G o y E S T b a c9 q a2 c2 q2 v th qm a3 q3) H) (hD : va_D (fun q : Nat => s.heap.size ≤ q) (wAll cA cL x B F G o y E S T b a c9 q a2 c2 q2 v th qm a3 q3)) (hS : va_S (fun q : Nat => s.heap.size ≤ q) s.heap H locs) (hl : lv_has ls 9 [(4, .int (nI (5 * j))), (0, .ref sb), (1, .ref x), (2, .ref y), (3, .ref o)]) : W p l e room_1 s m #[Value.ref sb] below meth c H locs (100 + 371 * j) (4000 + 3346 * j) Q (F0 m 620 ls []) := by
  obtain ⟨hx, hb, hml, hown, hts, hE, hXL, hXS, hX, hbl, hlt, hL⟩ := id C0
  have hA : ∀ q : Nat, s.heap.size ≤ q → (fun q : Nat => s.heap.size ≤ q) q := fun _ h => h
  have hbA : ¬ (fun q : Nat => s.heap.size ≤ q) sb := Nat.not_le.mpr hbl
  have hL31 : L < 2 ^ 31 := by omega
  obtain ⟨p0, hp0⟩ : ∃ z, xs (5 * j + 1) = z := ⟨_, rfl⟩
  have hP : va_P D vwCl ([] ++ ((wX cA x B F G b a c9 q a2 c2 q2 ++ wO cL o v) ++ wY cA y E S T th b a qm a3 q3)) H := hP
  have hD : va_D (fun q : Nat => s.heap.size ≤ q) ([] ++ ((wX cA x B F G b a c9 q a2 c2 q2 ++ wO cL o v) ++ wY cA y E S T th b a qm a3 q3)) := hD
  refine lv_aload_n hx hb dL_law_620 rfl (lv_at hl 2 rfl) ?_
  refine lv_aload_n hx hb dL_law_621 rfl (lv_at hl 1 rfl) ?_
  refine lv_iload hx hb dL_law_622 (lv_at hl 0 rfl) ?_
  refine lv_iconst (v := 1) hx hb dL_law_624 (by decide) ?_
  refine lv_iadd hx hb dL_law_625 ?_
  refine top_i (y := nI (5 * j + 1)) (nI_add (5 * j) 1) ?_
  refine sld hx hb hX hbl hbA hS (k := 5 * j + 1) (by omega) hL31 (v := p0) hp0 dL_law_626 ?_
  refine lv_aload_n hx hb dL_law_627 rfl (lv_at hl 4 rfl) ?_
  refine bSi (S := LU) (wB := fun (u : LU) => wXU cA x B F G u ++ wO cL o u.2.2.2.2.2.2.2) (As := [.ref x, .int p0, .ref o]) (rest := []) (pre := []) (wc := (wX cA x B F G b a c9 q a2 c2 q2 ++ wO cL o v)) (suf := wY cA y E S T th b a qm a3 q3) ⟨hx, hb, hml, hown, hts⟩ (KL_blow l hlt D cA cL sa x B F G o b a c9 q a2 c2 q2 v p0 H.size hI) (vx_cwSW 3 hts gL_law_L_blow rfl rfl rfl (by decide +kernel) ⟨Nat.le_of_ble_eq_true rfl, Nat.le_of_ble_eq_true rfl⟩) hE hP hD hS hA (fun _ => rfl) (LX.blind sa D cL _) (fun U hU hW => hXL.at hS hU hW (blk_free hD hS hA)) hl.1 rfl rfl (Nat.le_of_ble_eq_true rfl) dL_law_628 ⟨by show _ ≤ 601024; omega, by show _ ≤ 7293034; omega⟩ (fun r u H locs hu hP hD hS => ?_)
  obtain ⟨b1, a1, c1, q1, a21, c21, q21, v1⟩ := u
  obtain ⟨hr, hn4, hcr, hu0, hu1⟩ := hu
  have hcr : CRa a1 c1 := hcr
  have hu0 : cdBlow a p0 = 0 → v1 0 = (nI (qWx a (p0).toNatClampNeg) : Int32).toInt64 ∧ b1 = b ∧ a1 = outA a (p0).toNatClampNeg := hu0
  have hu1 : ¬ cdBlow a p0 = 0 → b1 = b ∧ a1 = a := hu1
  subst hr
  rw [List.nil_append] at hP hD
  have hP : va_P D vwCl ((wX cA x B F G b1 a1 c1 q1 a21 c21 q21 ++ wO cL o v1) ++ (wY cA y E S T th b a qm a3 q3 ++ [])) H := by rw [List.append_nil]; exact hP
  have hD : va_D (fun q : Nat => s.heap.size ≤ q) ((wX cA x B F G b1 a1 c1 q1 a21 c21 q21 ++ wO cL o v1) ++ (wY cA y E S T th b a qm a3 q3 ++ [])) := by rw [List.append_nil]; exact hD
  refine lv_istore (lv' := [(5, .int (nI (cdBlow a p0))), (4, .int (nI (5 * j))), (0, .ref sb), (1, .ref x), (2, .ref y), (3, .ref o)]) hx hb dL_law_631 hl (by decide) rfl (fun ls hl => ?_)
  refine lv_aload_n hx hb dL_law_633 rfl (lv_at hl 4 rfl) ?_
  refine lv_aload_n hx hb dL_law_634 rfl (lv_at hl 2 rfl) ?_
  refine lv_iload hx hb dL_law_635 (lv_at hl 1 rfl) ?_
  refine lv_iconst (v := 1) hx hb dL_law_637 (by decide) ?_
  refine lv_iadd hx hb dL_law_638 ?_
  refine top_i (y := nI (5 * j + 1)) (nI_add (5 * j) 1) ?_
  refine sld hx hb hX hbl hbA hS (k := 5 * j + 1) (by omega) hL31 (v := p0) hp0 dL_law_639 ?_
  refine bVi (S := FSt) (wB := fun (u : FSt) => wY cA y E S T (nI (cdBlow a p0)) b u qm a3 q3) (As := [.int p0]) (rest := []) (pre := (wX cA x B F G b1 a1 c1 q1 a21 c21 q21 ++ wO cL o v1)) (wc := wY cA y E S T th b a qm a3 q3) (suf := []) ⟨hx, hb, hml, hown, hts⟩ (K_X5_blow l D cA y E S T th b a qm a3 q3 p0 H.size hI.1) (cwV 1 hts gL_law_X5_blow rfl rfl rfl (by decide +kernel) ⟨Nat.le_of_ble_eq_true rfl, Nat.le_of_ble_eq_true rfl⟩) hE hP hD hS hA (fun _ => rfl) X0.blind (fun _ _ _ => trivial) 0 5 rfl rfl rfl hl.1 rfl rfl (Nat.le_of_ble_eq_true rfl) dL_law_640 ⟨by show _ ≤ 601024; omega, by show _ ≤ 7293034; omega⟩ (fun r2 u H locs hm hP hD hS => ?_)
  have hm0 : cdBlow a p0 = 0 → r2 = nI (qWx a (p0).toNatClampNeg) ∧ u = outA a (p0).toNatClampNeg := hm.1
  have hm1 : ¬ cdBlow a p0 = 0 → u = a := fun h => (hm.2 h).2
  have hP : va_P D vwCl ((wX cA x B F G b1 a1 c1 q1 a21 c21 q21 ++ wO cL o v1) ++ (wY cA y E S T (nI (cdBlow a p0)) b u qm a3 q3 ++ [])) H := hP
  have hD : va_D (fun q : Nat => s.heap.size ≤ q) ((wX cA x B F G b1 a1 c1 q1 a21 c21 q21 ++ wO cL o v1) ++ (wY cA y E S T (nI (cdBlow a p0)) b u qm a3 q3 ++ [])) := hD
  refine lv_istore (lv' := [(6, .int r2), (5, .int (nI (cdBlow a p0))), (4, .int (nI (5 * j))), (0, .ref sb), (1, .ref x), (2, .ref y), (3, .ref o)]) hx hb dL_law_643 hl (by decide) rfl (fun ls hl => ?_)
  refine lv_aload_n hx hb dL_law_645 rfl (lv_at hl 5 rfl) ?_
  refine qVi (S := Unit) (As := []) (rest := []) (pre := (wX cA x B F G b1 a1 c1 q1 a21 c21 q21 ++ wO cL o v1)) (wc := wY cA y E S T (nI (cdBlow a p0)) b u qm a3 q3) (suf := []) ⟨hx, hb, hml, hown, hts⟩ (K_X5_thrown l D cA y E S T (nI (cdBlow a p0)) b u qm a3 q3 H.size) (cwV 0 hts gL_law_X5_thrown rfl rfl rfl (by decide +kernel) ⟨Nat.le_of_ble_eq_true rfl, Nat.le_of_ble_eq_true rfl⟩) hE hP hD hS hA X0.blind (fun _ _ _ => trivial) 0 5 rfl rfl rfl hl.1 rfl rfl (Nat.le_of_ble_eq_true rfl) dL_law_646 ⟨by show _ ≤ 601024; omega, by show _ ≤ 7293034; omega⟩ (fun r3 _ H locs ht3 hP hS => ?_)
  subst ht3
  rw [List.append_nil] at hP hD
  refine lv_iload hx hb dL_law_649 (lv_at hl 1 rfl) ?_
  refine lv_icmp_eq (tgt := 656) hx hb dL_law_651 (by decide) (fun _ => ?_) (fun cf => absurd rfl cf)
  refine lv_iload hx hb dL_law_656 (lv_at hl 1 rfl) ?_
  refine lv_if_ne (tgt := 673) hx hb dL_law_658 (by decide) (fun ck => ?_) (fun ck => ?_)
  · skip
    have hn : ¬ cdBlow a p0 = 0 := fun h => ck (by rw [h]; rfl)
    obtain ⟨e1, e2⟩ := hu1 hn
    have ey : wY cA y E S T (nI (cdBlow a p0)) b u qm a3 q3 = wY cA y E S T (nI (cdBlow a p0)) b1 a1 qm a3 q3 := by rw [e1, e2, hm1 hn]
    rw [ey] at hP hD
    refine lv_goto (tgt := 1147) hx hb dL_law_673 (by decide) ?_
    refine lv_iinc (v := nI (5 * j + 5)) (lv' := [(4, .int (nI (5 * j + 5))), (6, .int r2), (5, .int (nI (cdBlow a p0))), (0, .ref sb), (1, .ref x), (2, .ref y), (3, .ref o)]) hx hb dL_law_1147 hl (k := 2) rfl (nI_add (5 * j) 5) (by decide) rfl (fun ls hl => ?_)
    refine lv_goto (tgt := 23) hx hb dL_law_1150 (by decide) ?_
    refine W.widen (k := 100 + 371 * (j + 1)) (n := 4000 + 3346 * (j + 1)) (by omega) (by omega) ?_
    exact kk b1 a1 c1 q1 a21 c21 q21 v1 (nI (cdBlow a p0)) qm a3 q3 H locs ls (by rw [e1, e2]; rw [e2] at hcr; exact hI.crowd hcr) hP hD hS (lv_sub hl [0, 3, 4, 5, 6] rfl)
  · skip
    have h0 : cdBlow a p0 = 0 := (nI_eq (a := cdBlow a p0) (b := 0) (by omega) (by decide)).mp ck
    obtain ⟨hv, e1, e2⟩ := hu0 h0
    obtain ⟨e3, e4⟩ := hm0 h0
    have ey : wY cA y E S T (nI (cdBlow a p0)) b u qm a3 q3 = wY cA y E S T (nI (cdBlow a p0)) b1 a1 qm a3 q3 := by rw [e1, e2, e4]
    rw [ey] at hP hD
    refine lv_aload_n hx hb dL_law_661 rfl (lv_at hl 6 rfl) ?_
    refine lv_iconst (v := 0) hx hb dL_law_662 (by decide) ?_
    refine lldO hx hb hXL.2.1 hP dL_law_663 ?_
    refine lv_iload hx hb dL_law_664 (lv_at hl 0 rfl) ?_
    refine lv_i2l (v := r2.toInt64) hx hb dL_law_666 rfl ?_
    refine W.lcmp hx hb dL_law_667 ?_
    refine lv_if_eq (tgt := 673) hx hb dL_law_668 (by decide) (fun _ => ?_) (fun cf => absurd ((lg_cmp_eq _ _).mpr (by rw [hv, e3])) cf)
    refine lv_goto (tgt := 1147) hx hb dL_law_673 (by decide) ?_
    refine lv_iinc (v := nI (5 * j + 5)) (lv' := [(4, .int (nI (5 * j + 5))), (6, .int r2), (5, .int (nI (cdBlow a p0))), (0, .ref sb), (1, .ref x), (2, .ref y), (3, .ref o)]) hx hb dL_law_1147 hl (k := 2) rfl (nI_add (5 * j) 5) (by decide) rfl (fun ls hl => ?_)
    refine lv_goto (tgt := 23) hx hb dL_law_1150 (by decide) ?_
    refine W.widen (k := 100 + 371 * (j + 1)) (n := 4000 + 3346 * (j + 1)) (by omega) (by omega) ?_
    exact kk b1 a1 c1 q1 a21 c21 q21 v1 (nI (cdBlow a p0)) qm a3 q3 H locs ls (by rw [e2] at hcr; rw [e1, e2]; exact inv_blow hI h0 hcr) hP hD hS (lv_sub hl [0, 3, 4, 5, 6] rfl)

set_option maxHeartbeats 4000000 in
set_option maxRecDepth 100000 in
theorem LC_told {p : Program} {l : Launch} {e : Env} {s : State} {m : MethodId} {below : List Frame} {meth : Method} {c : Code} {sb L : Nat} {xs : Nat → Int32} {D : va_G} {cA cL : ClassId} {sa : Nat → Nat} {z1 z2 : Nat} (C0 : LEnv p l s m c sb L xs D cA cL sa z1 z2) {Q : State → Prop} {x : Nat} {B F G : Nat → Nat} {o y : Nat} {E S T : Nat → Nat} {j : Nat} (hj : 5 * j + 5 ≤ L) (kk : LHead p l e s m below meth c sb D cA cL x B F G o y E S T Q (j + 1)) (b : BSt) (a : FSt) (c9 q : Nat → Int32) (a2 : FSt) (c2 q2 : Nat → Int32) (v : Nat → Int64) (th : Int32) (qm : Nat → Int32) (a3 : FSt) (q3 : Nat → Int32) (H : Heap) (locs : List Loc) (ls : Array Slot) (hI : LI b a c9) (hP : va_P D vwCl (wAll cA cL x B F G o y E S T b a c9 q a2 c2 q2 v th qm a3 q3) H) (hD : va_D (fun q : Nat => s.heap.size ≤ q) (wAll cA cL x B F G o y E S T b a c9 q a2 c2 q2 v th qm a3 q3)) (hS : va_S (fun q : Nat => s.heap.size ≤ q) s.heap H locs) (hl : lv_has ls 9 [(4, .int (nI (5 * j))), (0, .ref sb), (1, .ref x), (2, .ref y), (3, .ref o)]) : W p l e room_1 s m #[Value.ref sb] below meth c H locs (100 + 371 * j) (4000 + 3346 * j) Q (F0 m 676 ls []) := by
  obtain ⟨hx, hb, hml, hown, hts, hE, hXL, hXS, hX, hbl, hlt, hL⟩ := id C0
  have hA : ∀ q : Nat, s.heap.size ≤ q → (fun q : Nat => s.heap.size ≤ q) q := fun _ h => h
  have hbA : ¬ (fun q : Nat => s.heap.size ≤ q) sb := Nat.not_le.mpr hbl
  have hL31 : L < 2 ^ 31 := by omega
  obtain ⟨p0, hp0⟩ : ∃ z, xs (5 * j + 1) = z := ⟨_, rfl⟩
  obtain ⟨p1, hp1⟩ : ∃ z, xs (5 * j + 2) = z := ⟨_, rfl⟩
  have hP : va_P D vwCl ([] ++ ((wX cA x B F G b a c9 q a2 c2 q2 ++ wO cL o v) ++ wY cA y E S T th b a qm a3 q3)) H := hP
  have hD : va_D (fun q : Nat => s.heap.size ≤ q) ([] ++ ((wX cA x B F G b a c9 q a2 c2 q2 ++ wO cL o v) ++ wY cA y E S T th b a qm a3 q3)) := hD
  refine lv_aload_n hx hb dL_law_676 rfl (lv_at hl 2 rfl) ?_
  refine lv_aload_n hx hb dL_law_677 rfl (lv_at hl 1 rfl) ?_
  refine lv_iload hx hb dL_law_678 (lv_at hl 0 rfl) ?_
  refine lv_iconst (v := 1) hx hb dL_law_680 (by decide) ?_
  refine lv_iadd hx hb dL_law_681 ?_
  refine top_i (y := nI (5 * j + 1)) (nI_add (5 * j) 1) ?_
  refine sld hx hb hX hbl hbA hS (k := 5 * j + 1) (by omega) hL31 (v := p0) hp0 dL_law_682 ?_
  refine lv_aload_n hx hb dL_law_683 rfl (lv_at hl 1 rfl) ?_
  refine lv_iload hx hb dL_law_684 (lv_at hl 0 rfl) ?_
  refine lv_iconst (v := 2) hx hb dL_law_686 (by decide) ?_
  refine lv_iadd hx hb dL_law_687 ?_
  refine top_i (y := nI (5 * j + 2)) (nI_add (5 * j) 2) ?_
  refine sld hx hb hX hbl hbA hS (k := 5 * j + 2) (by omega) hL31 (v := p1) hp1 dL_law_688 ?_
  refine lv_aload_n hx hb dL_law_689 rfl (lv_at hl 4 rfl) ?_
  refine bSi (S := LU) (wB := fun (u : LU) => wXU cA x B F G u ++ wO cL o u.2.2.2.2.2.2.2) (As := [.ref x, .int p0, .int p1, .ref o]) (rest := []) (pre := []) (wc := (wX cA x B F G b a c9 q a2 c2 q2 ++ wO cL o v)) (suf := wY cA y E S T th b a qm a3 q3) ⟨hx, hb, hml, hown, hts⟩ (KL_told l hlt D cA cL sa x B F G o b a c9 q a2 c2 q2 v p0 p1 H.size hI) (vx_cwSW 4 hts gL_law_L_told rfl rfl rfl (by decide +kernel) ⟨Nat.le_of_ble_eq_true rfl, Nat.le_of_ble_eq_true rfl⟩) hE hP hD hS hA (fun _ => rfl) (LX.blind sa D cL _) (fun U hU hW => hXL.at hS hU hW (blk_free hD hS hA)) hl.1 rfl rfl (Nat.le_of_ble_eq_true rfl) dL_law_690 ⟨by show _ ≤ 601024; omega, by show _ ≤ 7293034; omega⟩ (fun r u H locs hu hP hD hS => ?_)
  obtain ⟨b1, a1, c1, q1, a21, c21, q21, v1⟩ := u
  obtain ⟨hr, hn4, hcr, hu0, hu1⟩ := hu
  have hcr : CRa a1 c1 := hcr
  have hu0 : cdTold a p0 p1 = 0 → v1 0 = (factA a (p0).toNatClampNeg (p1).toNatClampNeg : Int32).toInt64 ∧ b1 = b ∧ a1 = a := hu0
  have hu1 : ¬ cdTold a p0 p1 = 0 → b1 = b ∧ a1 = a := hu1
  subst hr
  rw [List.nil_append] at hP hD
  have hP : va_P D vwCl ((wX cA x B F G b1 a1 c1 q1 a21 c21 q21 ++ wO cL o v1) ++ (wY cA y E S T th b a qm a3 q3 ++ [])) H := by rw [List.append_nil]; exact hP
  have hD : va_D (fun q : Nat => s.heap.size ≤ q) ((wX cA x B F G b1 a1 c1 q1 a21 c21 q21 ++ wO cL o v1) ++ (wY cA y E S T th b a qm a3 q3 ++ [])) := by rw [List.append_nil]; exact hD
  refine lv_istore (lv' := [(5, .int (nI (cdTold a p0 p1))), (4, .int (nI (5 * j))), (0, .ref sb), (1, .ref x), (2, .ref y), (3, .ref o)]) hx hb dL_law_693 hl (by decide) rfl (fun ls hl => ?_)
  refine lv_aload_n hx hb dL_law_695 rfl (lv_at hl 4 rfl) ?_
  refine lv_aload_n hx hb dL_law_696 rfl (lv_at hl 2 rfl) ?_
  refine lv_iload hx hb dL_law_697 (lv_at hl 1 rfl) ?_
  refine lv_iconst (v := 1) hx hb dL_law_699 (by decide) ?_
  refine lv_iadd hx hb dL_law_700 ?_
  refine top_i (y := nI (5 * j + 1)) (nI_add (5 * j) 1) ?_
  refine sld hx hb hX hbl hbA hS (k := 5 * j + 1) (by omega) hL31 (v := p0) hp0 dL_law_701 ?_
  refine lv_aload_n hx hb dL_law_702 rfl (lv_at hl 2 rfl) ?_
  refine lv_iload hx hb dL_law_703 (lv_at hl 1 rfl) ?_
  refine lv_iconst (v := 2) hx hb dL_law_705 (by decide) ?_
  refine lv_iadd hx hb dL_law_706 ?_
  refine top_i (y := nI (5 * j + 2)) (nI_add (5 * j) 2) ?_
  refine sld hx hb hX hbl hbA hS (k := 5 * j + 2) (by omega) hL31 (v := p1) hp1 dL_law_707 ?_
  refine bVi (S := Unit) (wB := fun (u : Unit) => wY cA y E S T (nI (cdTold a p0 p1)) b a qm a3 q3) (As := [.int p0, .int p1]) (rest := []) (pre := (wX cA x B F G b1 a1 c1 q1 a21 c21 q21 ++ wO cL o v1)) (wc := wY cA y E S T th b a qm a3 q3) (suf := []) ⟨hx, hb, hml, hown, hts⟩ (K_X5_told l D cA y E S T th b a qm a3 q3 p0 p1 H.size hI.1) (cwV 2 hts gL_law_X5_told rfl rfl rfl (by decide +kernel) ⟨Nat.le_of_ble_eq_true rfl, Nat.le_of_ble_eq_true rfl⟩) hE hP hD hS hA (fun _ => rfl) X0.blind (fun _ _ _ => trivial) 0 5 rfl rfl rfl hl.1 rfl rfl (Nat.le_of_ble_eq_true rfl) dL_law_708 ⟨by show _ ≤ 601024; omega, by show _ ≤ 7293034; omega⟩ (fun r2 u H locs hm hP hD hS => ?_)
  have hm0 : cdTold a p0 p1 = 0 → r2 = factA a (p0).toNatClampNeg (p1).toNatClampNeg := fun h => (hm.1 h).1
  have hP : va_P D vwCl ((wX cA x B F G b1 a1 c1 q1 a21 c21 q21 ++ wO cL o v1) ++ (wY cA y E S T (nI (cdTold a p0 p1)) b a qm a3 q3 ++ [])) H := hP
  have hD : va_D (fun q : Nat => s.heap.size ≤ q) ((wX cA x B F G b1 a1 c1 q1 a21 c21 q21 ++ wO cL o v1) ++ (wY cA y E S T (nI (cdTold a p0 p1)) b a qm a3 q3 ++ [])) := hD
  refine lv_istore (lv' := [(6, .int r2), (5, .int (nI (cdTold a p0 p1))), (4, .int (nI (5 * j))), (0, .ref sb), (1, .ref x), (2, .ref y), (3, .ref o)]) hx hb dL_law_711 hl (by decide) rfl (fun ls hl => ?_)
  refine lv_aload_n hx hb dL_law_713 rfl (lv_at hl 5 rfl) ?_
  refine qVi (S := Unit) (As := []) (rest := []) (pre := (wX cA x B F G b1 a1 c1 q1 a21 c21 q21 ++ wO cL o v1)) (wc := wY cA y E S T (nI (cdTold a p0 p1)) b a qm a3 q3) (suf := []) ⟨hx, hb, hml, hown, hts⟩ (K_X5_thrown l D cA y E S T (nI (cdTold a p0 p1)) b a qm a3 q3 H.size) (cwV 0 hts gL_law_X5_thrown rfl rfl rfl (by decide +kernel) ⟨Nat.le_of_ble_eq_true rfl, Nat.le_of_ble_eq_true rfl⟩) hE hP hD hS hA X0.blind (fun _ _ _ => trivial) 0 5 rfl rfl rfl hl.1 rfl rfl (Nat.le_of_ble_eq_true rfl) dL_law_714 ⟨by show _ ≤ 601024; omega, by show _ ≤ 7293034; omega⟩ (fun r3 _ H locs ht3 hP hS => ?_)
  subst ht3
  rw [List.append_nil] at hP hD
  refine lv_iload hx hb dL_law_717 (lv_at hl 1 rfl) ?_
  refine lv_icmp_eq (tgt := 724) hx hb dL_law_719 (by decide) (fun _ => ?_) (fun cf => absurd rfl cf)
  refine lv_iload hx hb dL_law_724 (lv_at hl 1 rfl) ?_
  refine lv_if_ne (tgt := 741) hx hb dL_law_726 (by decide) (fun ck => ?_) (fun ck => ?_)
  · skip
    have hn : ¬ cdTold a p0 p1 = 0 := fun h => ck (by rw [h]; rfl)
    obtain ⟨e1, e2⟩ := hu1 hn
    have ey : wY cA y E S T (nI (cdTold a p0 p1)) b a qm a3 q3 = wY cA y E S T (nI (cdTold a p0 p1)) b1 a1 qm a3 q3 := by rw [e1, e2]
    rw [ey] at hP hD
    refine lv_goto (tgt := 1147) hx hb dL_law_741 (by decide) ?_
    refine lv_iinc (v := nI (5 * j + 5)) (lv' := [(4, .int (nI (5 * j + 5))), (6, .int r2), (5, .int (nI (cdTold a p0 p1))), (0, .ref sb), (1, .ref x), (2, .ref y), (3, .ref o)]) hx hb dL_law_1147 hl (k := 2) rfl (nI_add (5 * j) 5) (by decide) rfl (fun ls hl => ?_)
    refine lv_goto (tgt := 23) hx hb dL_law_1150 (by decide) ?_
    refine W.widen (k := 100 + 371 * (j + 1)) (n := 4000 + 3346 * (j + 1)) (by omega) (by omega) ?_
    exact kk b1 a1 c1 q1 a21 c21 q21 v1 (nI (cdTold a p0 p1)) qm a3 q3 H locs ls (by rw [e1, e2]; rw [e2] at hcr; exact hI.crowd hcr) hP hD hS (lv_sub hl [0, 3, 4, 5, 6] rfl)
  · skip
    have h0 : cdTold a p0 p1 = 0 := (nI_eq (a := cdTold a p0 p1) (b := 0) (by omega) (by decide)).mp ck
    obtain ⟨hv, e1, e2⟩ := hu0 h0
    have e3 := hm0 h0
    have ey : wY cA y E S T (nI (cdTold a p0 p1)) b a qm a3 q3 = wY cA y E S T (nI (cdTold a p0 p1)) b1 a1 qm a3 q3 := by rw [e1, e2]
    rw [ey] at hP hD
    refine lv_aload_n hx hb dL_law_729 rfl (lv_at hl 6 rfl) ?_
    refine lv_iconst (v := 0) hx hb dL_law_730 (by decide) ?_
    refine lldO hx hb hXL.2.1 hP dL_law_731 ?_
    refine lv_iload hx hb dL_law_732 (lv_at hl 0 rfl) ?_
    refine lv_i2l (v := r2.toInt64) hx hb dL_law_734 rfl ?_
    refine W.lcmp hx hb dL_law_735 ?_
    refine lv_if_eq (tgt := 741) hx hb dL_law_736 (by decide) (fun _ => ?_) (fun cf => absurd ((lg_cmp_eq _ _).mpr (by rw [hv, e3])) cf)
    refine lv_goto (tgt := 1147) hx hb dL_law_741 (by decide) ?_
    refine lv_iinc (v := nI (5 * j + 5)) (lv' := [(4, .int (nI (5 * j + 5))), (6, .int r2), (5, .int (nI (cdTold a p0 p1))), (0, .ref sb), (1, .ref x), (2, .ref y), (3, .ref o)]) hx hb dL_law_1147 hl (k := 2) rfl (nI_add (5 * j) 5) (by decide) rfl (fun ls hl => ?_)
    refine lv_goto (tgt := 23) hx hb dL_law_1150 (by decide) ?_
    refine W.widen (k := 100 + 371 * (j + 1)) (n := 4000 + 3346 * (j + 1)) (by omega) (by omega) ?_
    exact kk b1 a1 c1 q1 a21 c21 q21 v1 (nI (cdTold a p0 p1)) qm a3 q3 H locs ls (by rw [e2] at hcr; rw [e1, e2]; exact hI.crowd hcr) hP hD hS (lv_sub hl [0, 3, 4, 5, 6] rfl)

set_option maxHeartbeats 4000000 in
set_option maxRecDepth 100000 in
theorem LC_next {p : Program} {l : Launch} {e : Env} {s : State} {m : MethodId} {below : List Frame} {meth : Method} {c : Code} {sb L : Nat} {xs : Nat → Int32} {D : va_G} {cA cL : ClassId} {sa : Nat → Nat} {z1 z2 : Nat} (C0 : LEnv p l s m c sb L xs D cA cL sa z1 z2) {Q : State → Prop} {x : Nat} {B F G : Nat → Nat} {o y : Nat} {E S T : Nat → Nat} {j : Nat} (hj : 5 * j + 5 ≤ L) (kk : LHead p l e s m below meth c sb D cA cL x B F G o y E S T Q (j + 1)) (b : BSt) (a : FSt) (c9 q : Nat → Int32) (a2 : FSt) (c2 q2 : Nat → Int32) (v : Nat → Int64) (th : Int32) (qm : Nat → Int32) (a3 : FSt) (q3 : Nat → Int32) (H : Heap) (locs : List Loc) (ls : Array Slot) (hI : LI b a c9) (hP : va_P D vwCl (wAll cA cL x B F G o y E S T b a c9 q a2 c2 q2 v th qm a3 q3) H) (hD : va_D (fun q : Nat => s.heap.size ≤ q) (wAll cA cL x B F G o y E S T b a c9 q a2 c2 q2 v th qm a3 q3)) (hS : va_S (fun q : Nat => s.heap.size ≤ q) s.heap H locs) (hl : lv_has ls 9 [(4, .int (nI (5 * j))), (0, .ref sb), (1, .ref x), (2, .ref y), (3, .ref o)]) : W p l e room_1 s m #[Value.ref sb] below meth c H locs (100 + 371 * j) (4000 + 3346 * j) Q (F0 m 744 ls []) := by
  obtain ⟨hx, hb, hml, hown, hts, hE, hXL, hXS, hX, hbl, hlt, hL⟩ := id C0
  have hA : ∀ q : Nat, s.heap.size ≤ q → (fun q : Nat => s.heap.size ≤ q) q := fun _ h => h
  have hbA : ¬ (fun q : Nat => s.heap.size ≤ q) sb := Nat.not_le.mpr hbl
  have hL31 : L < 2 ^ 31 := by omega
  obtain ⟨p0, hp0⟩ : ∃ z, xs (5 * j + 1) = z := ⟨_, rfl⟩
  have hP : va_P D vwCl ([] ++ ((wX cA x B F G b a c9 q a2 c2 q2 ++ wO cL o v) ++ wY cA y E S T th b a qm a3 q3)) H := hP
  have hD : va_D (fun q : Nat => s.heap.size ≤ q) ([] ++ ((wX cA x B F G b a c9 q a2 c2 q2 ++ wO cL o v) ++ wY cA y E S T th b a qm a3 q3)) := hD
  refine lv_aload_n hx hb dL_law_744 rfl (lv_at hl 2 rfl) ?_
  refine lv_aload_n hx hb dL_law_745 rfl (lv_at hl 1 rfl) ?_
  refine lv_iload hx hb dL_law_746 (lv_at hl 0 rfl) ?_
  refine lv_iconst (v := 1) hx hb dL_law_748 (by decide) ?_
  refine lv_iadd hx hb dL_law_749 ?_
  refine top_i (y := nI (5 * j + 1)) (nI_add (5 * j) 1) ?_
  refine sld hx hb hX hbl hbA hS (k := 5 * j + 1) (by omega) hL31 (v := p0) hp0 dL_law_750 ?_
  refine lv_aload_n hx hb dL_law_751 rfl (lv_at hl 4 rfl) ?_
  refine bSi (S := LU) (wB := fun (u : LU) => wXU cA x B F G u ++ wO cL o u.2.2.2.2.2.2.2) (As := [.ref x, .int p0, .ref o]) (rest := []) (pre := []) (wc := (wX cA x B F G b a c9 q a2 c2 q2 ++ wO cL o v)) (suf := wY cA y E S T th b a qm a3 q3) ⟨hx, hb, hml, hown, hts⟩ (KL_next l hlt D cA cL sa x B F G o b a c9 q a2 c2 q2 v p0 H.size hI) (vx_cwSW 3 hts gL_law_L_next rfl rfl rfl (by decide +kernel) ⟨Nat.le_of_ble_eq_true rfl, Nat.le_of_ble_eq_true rfl⟩) hE hP hD hS hA (fun _ => rfl) (LX.blind sa D cL _) (fun U hU hW => hXL.at hS hU hW (blk_free hD hS hA)) hl.1 rfl rfl (Nat.le_of_ble_eq_true rfl) dL_law_752 ⟨by show _ ≤ 601024; omega, by show _ ≤ 7293034; omega⟩ (fun r u H locs hu hP hD hS => ?_)
  obtain ⟨b1, a1, c1, q1, a21, c21, q21, v1⟩ := u
  obtain ⟨hr, hn4, hcr, hu0, hu1⟩ := hu
  have hcr : CRa a1 c1 := hcr
  have hu0 : cdLan a p0 = 0 → v1 0 = (nextA a b (p0).toNatClampNeg : Int32).toInt64 ∧ b1 = b ∧ a1 = a := hu0
  have hu1 : ¬ cdLan a p0 = 0 → b1 = b ∧ a1 = a := hu1
  subst hr
  rw [List.nil_append] at hP hD
  have hP : va_P D vwCl ((wX cA x B F G b1 a1 c1 q1 a21 c21 q21 ++ wO cL o v1) ++ (wY cA y E S T th b a qm a3 q3 ++ [])) H := by rw [List.append_nil]; exact hP
  have hD : va_D (fun q : Nat => s.heap.size ≤ q) ((wX cA x B F G b1 a1 c1 q1 a21 c21 q21 ++ wO cL o v1) ++ (wY cA y E S T th b a qm a3 q3 ++ [])) := by rw [List.append_nil]; exact hD
  refine lv_istore (lv' := [(5, .int (nI (cdLan a p0))), (4, .int (nI (5 * j))), (0, .ref sb), (1, .ref x), (2, .ref y), (3, .ref o)]) hx hb dL_law_755 hl (by decide) rfl (fun ls hl => ?_)
  refine lv_aload_n hx hb dL_law_757 rfl (lv_at hl 4 rfl) ?_
  refine lv_aload_n hx hb dL_law_758 rfl (lv_at hl 2 rfl) ?_
  refine lv_iload hx hb dL_law_759 (lv_at hl 1 rfl) ?_
  refine lv_iconst (v := 1) hx hb dL_law_761 (by decide) ?_
  refine lv_iadd hx hb dL_law_762 ?_
  refine top_i (y := nI (5 * j + 1)) (nI_add (5 * j) 1) ?_
  refine sld hx hb hX hbl hbA hS (k := 5 * j + 1) (by omega) hL31 (v := p0) hp0 dL_law_763 ?_
  refine bVi (S := Unit) (wB := fun (u : Unit) => wY cA y E S T (nI (cdLan a p0)) b a qm a3 q3) (As := [.int p0]) (rest := []) (pre := (wX cA x B F G b1 a1 c1 q1 a21 c21 q21 ++ wO cL o v1)) (wc := wY cA y E S T th b a qm a3 q3) (suf := []) ⟨hx, hb, hml, hown, hts⟩ (K_X5_next l D cA y E S T th b a qm a3 q3 p0 H.size hI.1) (cwV 1 hts gL_law_X5_next rfl rfl rfl (by decide +kernel) ⟨Nat.le_of_ble_eq_true rfl, Nat.le_of_ble_eq_true rfl⟩) hE hP hD hS hA (fun _ => rfl) X0.blind (fun _ _ _ => trivial) 0 5 rfl rfl rfl hl.1 rfl rfl (Nat.le_of_ble_eq_true rfl) dL_law_764 ⟨by show _ ≤ 601024; omega, by show _ ≤ 7293034; omega⟩ (fun r2 u H locs hm hP hD hS => ?_)
  have hm0 : cdLan a p0 = 0 → r2 = nextA a b (p0).toNatClampNeg := fun h => (hm.1 h).1
  have hP : va_P D vwCl ((wX cA x B F G b1 a1 c1 q1 a21 c21 q21 ++ wO cL o v1) ++ (wY cA y E S T (nI (cdLan a p0)) b a qm a3 q3 ++ [])) H := hP
  have hD : va_D (fun q : Nat => s.heap.size ≤ q) ((wX cA x B F G b1 a1 c1 q1 a21 c21 q21 ++ wO cL o v1) ++ (wY cA y E S T (nI (cdLan a p0)) b a qm a3 q3 ++ [])) := hD
  refine lv_istore (lv' := [(6, .int r2), (5, .int (nI (cdLan a p0))), (4, .int (nI (5 * j))), (0, .ref sb), (1, .ref x), (2, .ref y), (3, .ref o)]) hx hb dL_law_767 hl (by decide) rfl (fun ls hl => ?_)
  refine lv_aload_n hx hb dL_law_769 rfl (lv_at hl 5 rfl) ?_
  refine qVi (S := Unit) (As := []) (rest := []) (pre := (wX cA x B F G b1 a1 c1 q1 a21 c21 q21 ++ wO cL o v1)) (wc := wY cA y E S T (nI (cdLan a p0)) b a qm a3 q3) (suf := []) ⟨hx, hb, hml, hown, hts⟩ (K_X5_thrown l D cA y E S T (nI (cdLan a p0)) b a qm a3 q3 H.size) (cwV 0 hts gL_law_X5_thrown rfl rfl rfl (by decide +kernel) ⟨Nat.le_of_ble_eq_true rfl, Nat.le_of_ble_eq_true rfl⟩) hE hP hD hS hA X0.blind (fun _ _ _ => trivial) 0 5 rfl rfl rfl hl.1 rfl rfl (Nat.le_of_ble_eq_true rfl) dL_law_770 ⟨by show _ ≤ 601024; omega, by show _ ≤ 7293034; omega⟩ (fun r3 _ H locs ht3 hP hS => ?_)
  subst ht3
  rw [List.append_nil] at hP hD
  refine lv_iload hx hb dL_law_773 (lv_at hl 1 rfl) ?_
  refine lv_icmp_eq (tgt := 780) hx hb dL_law_775 (by decide) (fun _ => ?_) (fun cf => absurd rfl cf)
  refine lv_iload hx hb dL_law_780 (lv_at hl 1 rfl) ?_
  refine lv_if_ne (tgt := 797) hx hb dL_law_782 (by decide) (fun ck => ?_) (fun ck => ?_)
  · skip
    have hn : ¬ cdLan a p0 = 0 := fun h => ck (by rw [h]; rfl)
    obtain ⟨e1, e2⟩ := hu1 hn
    have ey : wY cA y E S T (nI (cdLan a p0)) b a qm a3 q3 = wY cA y E S T (nI (cdLan a p0)) b1 a1 qm a3 q3 := by rw [e1, e2]
    rw [ey] at hP hD
    refine lv_goto (tgt := 1147) hx hb dL_law_797 (by decide) ?_
    refine lv_iinc (v := nI (5 * j + 5)) (lv' := [(4, .int (nI (5 * j + 5))), (6, .int r2), (5, .int (nI (cdLan a p0))), (0, .ref sb), (1, .ref x), (2, .ref y), (3, .ref o)]) hx hb dL_law_1147 hl (k := 2) rfl (nI_add (5 * j) 5) (by decide) rfl (fun ls hl => ?_)
    refine lv_goto (tgt := 23) hx hb dL_law_1150 (by decide) ?_
    refine W.widen (k := 100 + 371 * (j + 1)) (n := 4000 + 3346 * (j + 1)) (by omega) (by omega) ?_
    exact kk b1 a1 c1 q1 a21 c21 q21 v1 (nI (cdLan a p0)) qm a3 q3 H locs ls (by rw [e1, e2]; rw [e2] at hcr; exact hI.crowd hcr) hP hD hS (lv_sub hl [0, 3, 4, 5, 6] rfl)
  · skip
    have h0 : cdLan a p0 = 0 := (nI_eq (a := cdLan a p0) (b := 0) (by omega) (by decide)).mp ck
    obtain ⟨hv, e1, e2⟩ := hu0 h0
    have e3 := hm0 h0
    have ey : wY cA y E S T (nI (cdLan a p0)) b a qm a3 q3 = wY cA y E S T (nI (cdLan a p0)) b1 a1 qm a3 q3 := by rw [e1, e2]
    rw [ey] at hP hD
    refine lv_aload_n hx hb dL_law_785 rfl (lv_at hl 6 rfl) ?_
    refine lv_iconst (v := 0) hx hb dL_law_786 (by decide) ?_
    refine lldO hx hb hXL.2.1 hP dL_law_787 ?_
    refine lv_iload hx hb dL_law_788 (lv_at hl 0 rfl) ?_
    refine lv_i2l (v := r2.toInt64) hx hb dL_law_790 rfl ?_
    refine W.lcmp hx hb dL_law_791 ?_
    refine lv_if_eq (tgt := 797) hx hb dL_law_792 (by decide) (fun _ => ?_) (fun cf => absurd ((lg_cmp_eq _ _).mpr (by rw [hv, e3])) cf)
    refine lv_goto (tgt := 1147) hx hb dL_law_797 (by decide) ?_
    refine lv_iinc (v := nI (5 * j + 5)) (lv' := [(4, .int (nI (5 * j + 5))), (6, .int r2), (5, .int (nI (cdLan a p0))), (0, .ref sb), (1, .ref x), (2, .ref y), (3, .ref o)]) hx hb dL_law_1147 hl (k := 2) rfl (nI_add (5 * j) 5) (by decide) rfl (fun ls hl => ?_)
    refine lv_goto (tgt := 23) hx hb dL_law_1150 (by decide) ?_
    refine W.widen (k := 100 + 371 * (j + 1)) (n := 4000 + 3346 * (j + 1)) (by omega) (by omega) ?_
    exact kk b1 a1 c1 q1 a21 c21 q21 v1 (nI (cdLan a p0)) qm a3 q3 H locs ls (by rw [e2] at hcr; rw [e1, e2]; exact hI.crowd hcr) hP hD hS (lv_sub hl [0, 3, 4, 5, 6] rfl)
