set_option maxHeartbeats 4000000 in
set_option maxRecDepth 100000 in
theorem LC_count {p : Program} {l : Launch} {e : Env} {s : State} {m : MethodId} {below : List Frame} {meth : Method} {c : Code} {sb L : Nat} {xs : Nat → Int32} {D : va_G} {cA cL : ClassId} {sa : Nat → Nat} {z1 z2 : Nat} (C0 : LEnv p l s m c sb L xs D cA cL sa z1 z2) {Q : State → Prop} {x : Nat} {B F G : Nat → Nat} {o y : Nat} {E S T : Nat → Nat} {j : Nat} (hj : 5 * j + 5 ≤ L) (kk : LHead p l e s m below meth c sb D cA cL x B F G o y E S T Q (j + 1)) (b : BSt) (a : FSt) (c9 q : Nat → Int32) (a2 : FSt) (c2 q2 : Nat → Int32) (v : Nat → Int64) (th : Int32) (qm : Nat → Int32) (a3 : FSt) (q3 : Nat → Int32) (H : Heap) (locs : List Loc) (ls : Array Slot) (hI : LI b a c9) (hP : va_P D vwCl (wAll cA cL x B F G o y E S T b a c9 q a2 c2 q2 v th qm a3 q3) H) (hD : va_D (fun q : Nat => s.heap.size ≤ q) (wAll cA cL x B F G o y E S T b a c9 q a2 c2 q2 v th qm a3 q3)) (hS : va_S (fun q : Nat => s.heap.size ≤ q) s.heap H locs) (hl : lv_has ls 9 [(4, .int (nI (5 * j))), (0, .ref sb), (1, .ref x), (2, .ref y), (3, .ref o)]) : W p l e room_1 s m #[Value.ref sb] below meth c H locs (100 + 371 * j) (4000 + 3346 * j) Q (F0 m 800 ls []) := by
  obtain ⟨hx, hb, hml, hown, hts, hE, hXL, hXS, hX, hbl, hlt, hL⟩ := id C0
  have hA : ∀ q : Nat, s.heap.size ≤ q → (fun q : Nat => s.heap.size ≤ q) q := fun _ h => h
  have hbA : ¬ (fun q : Nat => s.heap.size ≤ q) sb := Nat.not_le.mpr hbl
  have hL31 : L < 2 ^ 31 := by omega
  obtain ⟨p0, hp0⟩ : ∃ z, xs (5 * j + 1) = z := ⟨_, rfl⟩
  have hP : va_P D vwCl ([] ++ ((wX cA x B F G b a c9 q a2 c2 q2 ++ wO cL o v) ++ wY cA y E S T th b a qm a3 q3)) H := hP
  have hD : va_D (fun q : Nat => s.heap.size ≤ q) ([] ++ ((wX cA x B F G b a c9 q a2 c2 q2 ++ wO cL o v) ++ wY cA y E S T th b a qm a3 q3)) := hD
  refine lv_aload_n hx hb dL_law_800 rfl (lv_at hl 2 rfl) ?_
  refine lv_aload_n hx hb dL_law_801 rfl (lv_at hl 1 rfl) ?_
  refine lv_iload hx hb dL_law_802 (lv_at hl 0 rfl) ?_
  refine lv_iconst (v := 1) hx hb dL_law_804 (by decide) ?_
  refine lv_iadd hx hb dL_law_805 ?_
  refine top_i (y := nI (5 * j + 1)) (nI_add (5 * j) 1) ?_
  refine sld hx hb hX hbl hbA hS (k := 5 * j + 1) (by omega) hL31 (v := p0) hp0 dL_law_806 ?_
  refine lv_aload_n hx hb dL_law_807 rfl (lv_at hl 4 rfl) ?_
  refine bSi (S := LU) (wB := fun (u : LU) => wXU cA x B F G u ++ wO cL o u.2.2.2.2.2.2.2) (As := [.ref x, .int p0, .ref o]) (rest := []) (pre := []) (wc := (wX cA x B F G b a c9 q a2 c2 q2 ++ wO cL o v)) (suf := wY cA y E S T th b a qm a3 q3) ⟨hx, hb, hml, hown, hts⟩ (KL_count l hlt D cA cL sa x B F G o b a c9 q a2 c2 q2 v p0 H.size hI) (vx_cwSW 3 hts gL_law_L_count rfl rfl rfl (by decide +kernel) ⟨Nat.le_of_ble_eq_true rfl, Nat.le_of_ble_eq_true rfl⟩) hE hP hD hS hA (fun _ => rfl) (LX.blind sa D cL _) (fun U hU hW => hXL.at hS hU hW (blk_free hD hS hA)) hl.1 rfl rfl (Nat.le_of_ble_eq_true rfl) dL_law_808 ⟨by show _ ≤ 601024; omega, by show _ ≤ 7293034; omega⟩ (fun r u H locs hu hP hD hS => ?_)
  obtain ⟨b1, a1, c1, q1, a21, c21, q21, v1⟩ := u
  obtain ⟨hr, hn4, hcr, hu0, hu1⟩ := hu
  have hcr : CRa a1 c1 := hcr
  have hu0 : cdCount p0 = 0 → v1 0 = (countA a b (p0).toNatClampNeg : Int32).toInt64 ∧ b1 = b ∧ a1 = a := hu0
  have hu1 : ¬ cdCount p0 = 0 → b1 = b ∧ a1 = a := hu1
  subst hr
  rw [List.nil_append] at hP hD
  have hP : va_P D vwCl ((wX cA x B F G b1 a1 c1 q1 a21 c21 q21 ++ wO cL o v1) ++ (wY cA y E S T th b a qm a3 q3 ++ [])) H := by rw [List.append_nil]; exact hP
  have hD : va_D (fun q : Nat => s.heap.size ≤ q) ((wX cA x B F G b1 a1 c1 q1 a21 c21 q21 ++ wO cL o v1) ++ (wY cA y E S T th b a qm a3 q3 ++ [])) := by rw [List.append_nil]; exact hD
  refine lv_istore (lv' := [(5, .int (nI (cdCount p0))), (4, .int (nI (5 * j))), (0, .ref sb), (1, .ref x), (2, .ref y), (3, .ref o)]) hx hb dL_law_811 hl (by decide) rfl (fun ls hl => ?_)
  refine lv_aload_n hx hb dL_law_813 rfl (lv_at hl 4 rfl) ?_
  refine lv_aload_n hx hb dL_law_814 rfl (lv_at hl 2 rfl) ?_
  refine lv_iload hx hb dL_law_815 (lv_at hl 1 rfl) ?_
  refine lv_iconst (v := 1) hx hb dL_law_817 (by decide) ?_
  refine lv_iadd hx hb dL_law_818 ?_
  refine top_i (y := nI (5 * j + 1)) (nI_add (5 * j) 1) ?_
  refine sld hx hb hX hbl hbA hS (k := 5 * j + 1) (by omega) hL31 (v := p0) hp0 dL_law_819 ?_
  refine bVi (S := Unit) (wB := fun (u : Unit) => wY cA y E S T (nI (cdCount p0)) b a qm a3 q3) (As := [.int p0]) (rest := []) (pre := (wX cA x B F G b1 a1 c1 q1 a21 c21 q21 ++ wO cL o v1)) (wc := wY cA y E S T th b a qm a3 q3) (suf := []) ⟨hx, hb, hml, hown, hts⟩ (K_X5_count l D cA y E S T th b a qm a3 q3 p0 H.size hI.1) (cwV 1 hts gL_law_X5_count rfl rfl rfl (by decide +kernel) ⟨Nat.le_of_ble_eq_true rfl, Nat.le_of_ble_eq_true rfl⟩) hE hP hD hS hA (fun _ => rfl) X0.blind (fun _ _ _ => trivial) 0 5 rfl rfl rfl hl.1 rfl rfl (Nat.le_of_ble_eq_true rfl) dL_law_820 ⟨by show _ ≤ 601024; omega, by show _ ≤ 7293034; omega⟩ (fun r2 u H locs hm hP hD hS => ?_)
  have hm0 : cdCount p0 = 0 → r2 = countA a b (p0).toNatClampNeg := fun h => (hm.1 h).1
  have hP : va_P D vwCl ((wX cA x B F G b1 a1 c1 q1 a21 c21 q21 ++ wO cL o v1) ++ (wY cA y E S T (nI (cdCount p0)) b a qm a3 q3 ++ [])) H := hP
  have hD : va_D (fun q : Nat => s.heap.size ≤ q) ((wX cA x B F G b1 a1 c1 q1 a21 c21 q21 ++ wO cL o v1) ++ (wY cA y E S T (nI (cdCount p0)) b a qm a3 q3 ++ [])) := hD
  refine lv_istore (lv' := [(6, .int r2), (5, .int (nI (cdCount p0))), (4, .int (nI (5 * j))), (0, .ref sb), (1, .ref x), (2, .ref y), (3, .ref o)]) hx hb dL_law_823 hl (by decide) rfl (fun ls hl => ?_)
  refine lv_aload_n hx hb dL_law_825 rfl (lv_at hl 5 rfl) ?_
  refine qVi (S := Unit) (As := []) (rest := []) (pre := (wX cA x B F G b1 a1 c1 q1 a21 c21 q21 ++ wO cL o v1)) (wc := wY cA y E S T (nI (cdCount p0)) b a qm a3 q3) (suf := []) ⟨hx, hb, hml, hown, hts⟩ (K_X5_thrown l D cA y E S T (nI (cdCount p0)) b a qm a3 q3 H.size) (cwV 0 hts gL_law_X5_thrown rfl rfl rfl (by decide +kernel) ⟨Nat.le_of_ble_eq_true rfl, Nat.le_of_ble_eq_true rfl⟩) hE hP hD hS hA X0.blind (fun _ _ _ => trivial) 0 5 rfl rfl rfl hl.1 rfl rfl (Nat.le_of_ble_eq_true rfl) dL_law_826 ⟨by show _ ≤ 601024; omega, by show _ ≤ 7293034; omega⟩ (fun r3 _ H locs ht3 hP hS => ?_)
  subst ht3
  rw [List.append_nil] at hP hD
  refine lv_iload hx hb dL_law_829 (lv_at hl 1 rfl) ?_
  refine lv_icmp_eq (tgt := 836) hx hb dL_law_831 (by decide) (fun _ => ?_) (fun cf => absurd rfl cf)
  refine lv_iload hx hb dL_law_836 (lv_at hl 1 rfl) ?_
  refine lv_if_ne (tgt := 853) hx hb dL_law_838 (by decide) (fun ck => ?_) (fun ck => ?_)
  · skip
    have hn : ¬ cdCount p0 = 0 := fun h => ck (by rw [h]; rfl)
    obtain ⟨e1, e2⟩ := hu1 hn
    have ey : wY cA y E S T (nI (cdCount p0)) b a qm a3 q3 = wY cA y E S T (nI (cdCount p0)) b1 a1 qm a3 q3 := by rw [e1, e2]
    rw [ey] at hP hD
    refine lv_goto (tgt := 1147) hx hb dL_law_853 (by decide) ?_
    refine lv_iinc (v := nI (5 * j + 5)) (lv' := [(4, .int (nI (5 * j + 5))), (6, .int r2), (5, .int (nI (cdCount p0))), (0, .ref sb), (1, .ref x), (2, .ref y), (3, .ref o)]) hx hb dL_law_1147 hl (k := 2) rfl (nI_add (5 * j) 5) (by decide) rfl (fun ls hl => ?_)
    refine lv_goto (tgt := 23) hx hb dL_law_1150 (by decide) ?_
    refine W.widen (k := 100 + 371 * (j + 1)) (n := 4000 + 3346 * (j + 1)) (by omega) (by omega) ?_
    exact kk b1 a1 c1 q1 a21 c21 q21 v1 (nI (cdCount p0)) qm a3 q3 H locs ls (by rw [e1, e2]; rw [e2] at hcr; exact hI.crowd hcr) hP hD hS (lv_sub hl [0, 3, 4, 5, 6] rfl)
  · skip
    have h0 : cdCount p0 = 0 := (nI_eq (a := cdCount p0) (b := 0) (by omega) (by decide)).mp ck
    obtain ⟨hv, e1, e2⟩ := hu0 h0
    have e3 := hm0 h0
    have ey : wY cA y E S T (nI (cdCount p0)) b a qm a3 q3 = wY cA y E S T (nI (cdCount p0)) b1 a1 qm a3 q3 := by rw [e1, e2]
    rw [ey] at hP hD
    refine lv_aload_n hx hb dL_law_841 rfl (lv_at hl 6 rfl) ?_
    refine lv_iconst (v := 0) hx hb dL_law_842 (by decide) ?_
    refine lldO hx hb hXL.2.1 hP dL_law_843 ?_
    refine lv_iload hx hb dL_law_844 (lv_at hl 0 rfl) ?_
    refine lv_i2l (v := r2.toInt64) hx hb dL_law_846 rfl ?_
    refine W.lcmp hx hb dL_law_847 ?_
    refine lv_if_eq (tgt := 853) hx hb dL_law_848 (by decide) (fun _ => ?_) (fun cf => absurd ((lg_cmp_eq _ _).mpr (by rw [hv, e3])) cf)
    refine lv_goto (tgt := 1147) hx hb dL_law_853 (by decide) ?_
    refine lv_iinc (v := nI (5 * j + 5)) (lv' := [(4, .int (nI (5 * j + 5))), (6, .int r2), (5, .int (nI (cdCount p0))), (0, .ref sb), (1, .ref x), (2, .ref y), (3, .ref o)]) hx hb dL_law_1147 hl (k := 2) rfl (nI_add (5 * j) 5) (by decide) rfl (fun ls hl => ?_)
    refine lv_goto (tgt := 23) hx hb dL_law_1150 (by decide) ?_
    refine W.widen (k := 100 + 371 * (j + 1)) (n := 4000 + 3346 * (j + 1)) (by omega) (by omega) ?_
    exact kk b1 a1 c1 q1 a21 c21 q21 v1 (nI (cdCount p0)) qm a3 q3 H locs ls (by rw [e2] at hcr; rw [e1, e2]; exact hI.crowd hcr) hP hD hS (lv_sub hl [0, 3, 4, 5, 6] rfl)

set_option maxHeartbeats 4000000 in
set_option maxRecDepth 100000 in
theorem LC_pass {p : Program} {l : Launch} {e : Env} {s : State} {m : MethodId} {below : List Frame} {meth : Method} {c : Code} {sb L : Nat} {xs : Nat → Int32} {D : va_G} {cA cL : ClassId} {sa : Nat → Nat} {z1 z2 : Nat} (C0 : LEnv p l s m c sb L xs D cA cL sa z1 z2) {Q : State → Prop} {x : Nat} {B F G : Nat → Nat} {o y : Nat} {E S T : Nat → Nat} {j : Nat} (hj : 5 * j + 5 ≤ L) (kk : LHead p l e s m below meth c sb D cA cL x B F G o y E S T Q (j + 1)) (b : BSt) (a : FSt) (c9 q : Nat → Int32) (a2 : FSt) (c2 q2 : Nat → Int32) (v : Nat → Int64) (th : Int32) (qm : Nat → Int32) (a3 : FSt) (q3 : Nat → Int32) (H : Heap) (locs : List Loc) (ls : Array Slot) (hI : LI b a c9) (hP : va_P D vwCl (wAll cA cL x B F G o y E S T b a c9 q a2 c2 q2 v th qm a3 q3) H) (hD : va_D (fun q : Nat => s.heap.size ≤ q) (wAll cA cL x B F G o y E S T b a c9 q a2 c2 q2 v th qm a3 q3)) (hS : va_S (fun q : Nat => s.heap.size ≤ q) s.heap H locs) (hl : lv_has ls 9 [(4, .int (nI (5 * j))), (0, .ref sb), (1, .ref x), (2, .ref y), (3, .ref o)]) : W p l e room_1 s m #[Value.ref sb] below meth c H locs (100 + 371 * j) (4000 + 3346 * j) Q (F0 m 856 ls []) := by
  obtain ⟨hx, hb, hml, hown, hts, hE, hXL, hXS, hX, hbl, hlt, hL⟩ := id C0
  have hA : ∀ q : Nat, s.heap.size ≤ q → (fun q : Nat => s.heap.size ≤ q) q := fun _ h => h
  have hbA : ¬ (fun q : Nat => s.heap.size ≤ q) sb := Nat.not_le.mpr hbl
  have hL31 : L < 2 ^ 31 := by omega
  obtain ⟨p0, hp0⟩ : ∃ z, xs (5 * j + 1) = z := ⟨_, rfl⟩
  have hP : va_P D vwCl ([] ++ ((wX cA x B F G b a c9 q a2 c2 q2 ++ wO cL o v) ++ wY cA y E S T th b a qm a3 q3)) H := hP
  have hD : va_D (fun q : Nat => s.heap.size ≤ q) ([] ++ ((wX cA x B F G b a c9 q a2 c2 q2 ++ wO cL o v) ++ wY cA y E S T th b a qm a3 q3)) := hD
  refine lv_aload_n hx hb dL_law_856 rfl (lv_at hl 2 rfl) ?_
  refine lv_aload_n hx hb dL_law_857 rfl (lv_at hl 1 rfl) ?_
  refine lv_iload hx hb dL_law_858 (lv_at hl 0 rfl) ?_
  refine lv_iconst (v := 1) hx hb dL_law_860 (by decide) ?_
  refine lv_iadd hx hb dL_law_861 ?_
  refine top_i (y := nI (5 * j + 1)) (nI_add (5 * j) 1) ?_
  refine sld hx hb hX hbl hbA hS (k := 5 * j + 1) (by omega) hL31 (v := p0) hp0 dL_law_862 ?_
  refine lv_aload_n hx hb dL_law_863 rfl (lv_at hl 4 rfl) ?_
  refine bSi (S := LU) (wB := fun (u : LU) => wXU cA x B F G u ++ wO cL o u.2.2.2.2.2.2.2) (As := [.ref x, .int p0, .ref o]) (rest := []) (pre := []) (wc := (wX cA x B F G b a c9 q a2 c2 q2 ++ wO cL o v)) (suf := wY cA y E S T th b a qm a3 q3) ⟨hx, hb, hml, hown, hts⟩ (KL_pass l hlt D cA cL sa x B F G o b a c9 q a2 c2 q2 v p0 H.size hI) (vx_cwSW 3 hts gL_law_L_pass rfl rfl rfl (by decide +kernel) ⟨Nat.le_of_ble_eq_true rfl, Nat.le_of_ble_eq_true rfl⟩) hE hP hD hS hA (fun _ => rfl) (LX.blind sa D cL _) (fun U hU hW => hXL.at hS hU hW (blk_free hD hS hA)) hl.1 rfl rfl (Nat.le_of_ble_eq_true rfl) dL_law_864 ⟨by show _ ≤ 601024; omega, by show _ ≤ 7293034; omega⟩ (fun r u H locs hu hP hD hS => ?_)
  obtain ⟨b1, a1, c1, q1, a21, c21, q21, v1⟩ := u
  obtain ⟨hr, hn4, hcr, hu0, hu1⟩ := hu
  have hcr : CRa a1 c1 := hcr
  have hu0 : cdPass p0 = 0 → v1 0 = (tallyA (minsA b (p0).toNatClampNeg a) 3 - tallyA a 3 : Int32).toInt64 ∧ b1 = b ∧ a1 = minsA b (p0).toNatClampNeg a := hu0
  have hu1 : ¬ cdPass p0 = 0 → b1 = b ∧ a1 = a := hu1
  subst hr
  rw [List.nil_append] at hP hD
  have hP : va_P D vwCl ((wX cA x B F G b1 a1 c1 q1 a21 c21 q21 ++ wO cL o v1) ++ (wY cA y E S T th b a qm a3 q3 ++ [])) H := by rw [List.append_nil]; exact hP
  have hD : va_D (fun q : Nat => s.heap.size ≤ q) ((wX cA x B F G b1 a1 c1 q1 a21 c21 q21 ++ wO cL o v1) ++ (wY cA y E S T th b a qm a3 q3 ++ [])) := by rw [List.append_nil]; exact hD
  refine lv_istore (lv' := [(5, .int (nI (cdPass p0))), (4, .int (nI (5 * j))), (0, .ref sb), (1, .ref x), (2, .ref y), (3, .ref o)]) hx hb dL_law_867 hl (by decide) rfl (fun ls hl => ?_)
  refine lv_aload_n hx hb dL_law_869 rfl (lv_at hl 4 rfl) ?_
  refine lv_aload_n hx hb dL_law_870 rfl (lv_at hl 2 rfl) ?_
  refine lv_iload hx hb dL_law_871 (lv_at hl 1 rfl) ?_
  refine lv_iconst (v := 1) hx hb dL_law_873 (by decide) ?_
  refine lv_iadd hx hb dL_law_874 ?_
  refine top_i (y := nI (5 * j + 1)) (nI_add (5 * j) 1) ?_
  refine sld hx hb hX hbl hbA hS (k := 5 * j + 1) (by omega) hL31 (v := p0) hp0 dL_law_875 ?_
  refine bVi (S := FSt × (Nat → Int32)) (wB := fun (u : FSt × (Nat → Int32)) => wY cA y E S T (nI (cdPass p0)) b u.1 u.2 a3 q3) (As := [.int p0]) (rest := []) (pre := (wX cA x B F G b1 a1 c1 q1 a21 c21 q21 ++ wO cL o v1)) (wc := wY cA y E S T th b a qm a3 q3) (suf := []) ⟨hx, hb, hml, hown, hts⟩ (K_X5_pass l D cA y E S T th b a qm a3 q3 z1 z2 p0 H.size hI.1 hI.2.1) (cwV 1 hts gL_law_X5_pass rfl rfl rfl (by decide +kernel) ⟨Nat.le_of_ble_eq_true rfl, Nat.le_of_ble_eq_true rfl⟩) hE hP hD hS hA (fun _ => rfl) (SX.blind z1 z2 _) (fun U hU hW => hXS.at hS (blk_free hD hS hA) hU hW) 0 5 rfl rfl rfl hl.1 rfl rfl (Nat.le_of_ble_eq_true rfl) dL_law_876 ⟨by show _ ≤ 601024; omega, by show _ ≤ 7293034; omega⟩ (fun r2 u H locs hm hP hD hS => ?_)
  obtain ⟨u1, u2⟩ := u
  have hm0 : cdPass p0 = 0 → r2 = tallyA (minsA b (p0).toNatClampNeg a) 3 - tallyA a 3 ∧ u1 = minsA b (p0).toNatClampNeg a := hm.1
  have hm1 : ¬ cdPass p0 = 0 → u1 = a := fun h => (hm.2 h).2
  have hP : va_P D vwCl ((wX cA x B F G b1 a1 c1 q1 a21 c21 q21 ++ wO cL o v1) ++ (wY cA y E S T (nI (cdPass p0)) b u1 u2 a3 q3 ++ [])) H := hP
  have hD : va_D (fun q : Nat => s.heap.size ≤ q) ((wX cA x B F G b1 a1 c1 q1 a21 c21 q21 ++ wO cL o v1) ++ (wY cA y E S T (nI (cdPass p0)) b u1 u2 a3 q3 ++ [])) := hD
  refine lv_istore (lv' := [(6, .int r2), (5, .int (nI (cdPass p0))), (4, .int (nI (5 * j))), (0, .ref sb), (1, .ref x), (2, .ref y), (3, .ref o)]) hx hb dL_law_879 hl (by decide) rfl (fun ls hl => ?_)
  refine lv_aload_n hx hb dL_law_881 rfl (lv_at hl 5 rfl) ?_
  refine qVi (S := Unit) (As := []) (rest := []) (pre := (wX cA x B F G b1 a1 c1 q1 a21 c21 q21 ++ wO cL o v1)) (wc := wY cA y E S T (nI (cdPass p0)) b u1 u2 a3 q3) (suf := []) ⟨hx, hb, hml, hown, hts⟩ (K_X5_thrown l D cA y E S T (nI (cdPass p0)) b u1 u2 a3 q3 H.size) (cwV 0 hts gL_law_X5_thrown rfl rfl rfl (by decide +kernel) ⟨Nat.le_of_ble_eq_true rfl, Nat.le_of_ble_eq_true rfl⟩) hE hP hD hS hA X0.blind (fun _ _ _ => trivial) 0 5 rfl rfl rfl hl.1 rfl rfl (Nat.le_of_ble_eq_true rfl) dL_law_882 ⟨by show _ ≤ 601024; omega, by show _ ≤ 7293034; omega⟩ (fun r3 _ H locs ht3 hP hS => ?_)
  subst ht3
  rw [List.append_nil] at hP hD
  refine lv_iload hx hb dL_law_885 (lv_at hl 1 rfl) ?_
  refine lv_icmp_eq (tgt := 892) hx hb dL_law_887 (by decide) (fun _ => ?_) (fun cf => absurd rfl cf)
  refine lv_iload hx hb dL_law_892 (lv_at hl 1 rfl) ?_
  refine lv_if_ne (tgt := 909) hx hb dL_law_894 (by decide) (fun ck => ?_) (fun ck => ?_)
  · skip
    have hn : ¬ cdPass p0 = 0 := fun h => ck (by rw [h]; rfl)
    obtain ⟨e1, e2⟩ := hu1 hn
    have ey : wY cA y E S T (nI (cdPass p0)) b u1 u2 a3 q3 = wY cA y E S T (nI (cdPass p0)) b1 a1 u2 a3 q3 := by rw [e1, e2, hm1 hn]
    rw [ey] at hP hD
    refine lv_goto (tgt := 1147) hx hb dL_law_909 (by decide) ?_
    refine lv_iinc (v := nI (5 * j + 5)) (lv' := [(4, .int (nI (5 * j + 5))), (6, .int r2), (5, .int (nI (cdPass p0))), (0, .ref sb), (1, .ref x), (2, .ref y), (3, .ref o)]) hx hb dL_law_1147 hl (k := 2) rfl (nI_add (5 * j) 5) (by decide) rfl (fun ls hl => ?_)
    refine lv_goto (tgt := 23) hx hb dL_law_1150 (by decide) ?_
    refine W.widen (k := 100 + 371 * (j + 1)) (n := 4000 + 3346 * (j + 1)) (by omega) (by omega) ?_
    exact kk b1 a1 c1 q1 a21 c21 q21 v1 (nI (cdPass p0)) u2 a3 q3 H locs ls (by rw [e1, e2]; rw [e2] at hcr; exact hI.crowd hcr) hP hD hS (lv_sub hl [0, 3, 4, 5, 6] rfl)
  · skip
    have h0 : cdPass p0 = 0 := (nI_eq (a := cdPass p0) (b := 0) (by omega) (by decide)).mp ck
    obtain ⟨hv, e1, e2⟩ := hu0 h0
    obtain ⟨e3, e4⟩ := hm0 h0
    have ey : wY cA y E S T (nI (cdPass p0)) b u1 u2 a3 q3 = wY cA y E S T (nI (cdPass p0)) b1 a1 u2 a3 q3 := by rw [e1, e2, e4]
    rw [ey] at hP hD
    refine lv_aload_n hx hb dL_law_897 rfl (lv_at hl 6 rfl) ?_
    refine lv_iconst (v := 0) hx hb dL_law_898 (by decide) ?_
    refine lldO hx hb hXL.2.1 hP dL_law_899 ?_
    refine lv_iload hx hb dL_law_900 (lv_at hl 0 rfl) ?_
    refine lv_i2l (v := r2.toInt64) hx hb dL_law_902 rfl ?_
    refine W.lcmp hx hb dL_law_903 ?_
    refine lv_if_eq (tgt := 909) hx hb dL_law_904 (by decide) (fun _ => ?_) (fun cf => absurd ((lg_cmp_eq _ _).mpr (by rw [hv, e3])) cf)
    refine lv_goto (tgt := 1147) hx hb dL_law_909 (by decide) ?_
    refine lv_iinc (v := nI (5 * j + 5)) (lv' := [(4, .int (nI (5 * j + 5))), (6, .int r2), (5, .int (nI (cdPass p0))), (0, .ref sb), (1, .ref x), (2, .ref y), (3, .ref o)]) hx hb dL_law_1147 hl (k := 2) rfl (nI_add (5 * j) 5) (by decide) rfl (fun ls hl => ?_)
    refine lv_goto (tgt := 23) hx hb dL_law_1150 (by decide) ?_
    refine W.widen (k := 100 + 371 * (j + 1)) (n := 4000 + 3346 * (j + 1)) (by omega) (by omega) ?_
    exact kk b1 a1 c1 q1 a21 c21 q21 v1 (nI (cdPass p0)) u2 a3 q3 H locs ls (by rw [e2] at hcr; rw [e1, e2]; exact inv_pass hI h0 hcr) hP hD hS (lv_sub hl [0, 3, 4, 5, 6] rfl)

set_option maxHeartbeats 4000000 in
set_option maxRecDepth 100000 in
theorem LC_burns {p : Program} {l : Launch} {e : Env} {s : State} {m : MethodId} {below : List Frame} {meth : Method} {c : Code} {sb L : Nat} {xs : Nat → Int32} {D : va_G} {cA cL : ClassId} {sa : Nat → Nat} {z1 z2 : Nat} (C0 : LEnv p l s m c sb L xs D cA cL sa z1 z2) {Q : State → Prop} {x : Nat} {B F G : Nat → Nat} {o y : Nat} {E S T : Nat → Nat} {j : Nat} (hj : 5 * j + 5 ≤ L) (kk : LHead p l e s m below meth c sb D cA cL x B F G o y E S T Q (j + 1)) (b : BSt) (a : FSt) (c9 q : Nat → Int32) (a2 : FSt) (c2 q2 : Nat → Int32) (v : Nat → Int64) (th : Int32) (qm : Nat → Int32) (a3 : FSt) (q3 : Nat → Int32) (H : Heap) (locs : List Loc) (ls : Array Slot) (hI : LI b a c9) (hP : va_P D vwCl (wAll cA cL x B F G o y E S T b a c9 q a2 c2 q2 v th qm a3 q3) H) (hD : va_D (fun q : Nat => s.heap.size ≤ q) (wAll cA cL x B F G o y E S T b a c9 q a2 c2 q2 v th qm a3 q3)) (hS : va_S (fun q : Nat => s.heap.size ≤ q) s.heap H locs) (hl : lv_has ls 9 [(4, .int (nI (5 * j))), (0, .ref sb), (1, .ref x), (2, .ref y), (3, .ref o)]) : W p l e room_1 s m #[Value.ref sb] below meth c H locs (100 + 371 * j) (4000 + 3346 * j) Q (F0 m 912 ls []) := by
  obtain ⟨hx, hb, hml, hown, hts, hE, hXL, hXS, hX, hbl, hlt, hL⟩ := id C0
  have hA : ∀ q : Nat, s.heap.size ≤ q → (fun q : Nat => s.heap.size ≤ q) q := fun _ h => h
  have hbA : ¬ (fun q : Nat => s.heap.size ≤ q) sb := Nat.not_le.mpr hbl
  have hL31 : L < 2 ^ 31 := by omega
  obtain ⟨p0, hp0⟩ : ∃ z, xs (5 * j + 1) = z := ⟨_, rfl⟩
  have hP : va_P D vwCl ([] ++ ((wX cA x B F G b a c9 q a2 c2 q2 ++ wO cL o v) ++ wY cA y E S T th b a qm a3 q3)) H := hP
  have hD : va_D (fun q : Nat => s.heap.size ≤ q) ([] ++ ((wX cA x B F G b a c9 q a2 c2 q2 ++ wO cL o v) ++ wY cA y E S T th b a qm a3 q3)) := hD
  refine lv_aload_n hx hb dL_law_912 rfl (lv_at hl 2 rfl) ?_
  refine lv_aload_n hx hb dL_law_913 rfl (lv_at hl 1 rfl) ?_
  refine lv_iload hx hb dL_law_914 (lv_at hl 0 rfl) ?_
  refine lv_iconst (v := 1) hx hb dL_law_916 (by decide) ?_
  refine lv_iadd hx hb dL_law_917 ?_
  refine top_i (y := nI (5 * j + 1)) (nI_add (5 * j) 1) ?_
  refine sld hx hb hX hbl hbA hS (k := 5 * j + 1) (by omega) hL31 (v := p0) hp0 dL_law_918 ?_
  refine lv_aload_n hx hb dL_law_919 rfl (lv_at hl 4 rfl) ?_
  refine bSi (S := LU) (wB := fun (u : LU) => wXU cA x B F G u ++ wO cL o u.2.2.2.2.2.2.2) (As := [.ref x, .int p0, .ref o]) (rest := []) (pre := []) (wc := (wX cA x B F G b a c9 q a2 c2 q2 ++ wO cL o v)) (suf := wY cA y E S T th b a qm a3 q3) ⟨hx, hb, hml, hown, hts⟩ (KL_burns l hlt D cA cL sa x B F G o b a c9 q a2 c2 q2 v p0 H.size hI) (vx_cwSW 3 hts gL_law_L_burns rfl rfl rfl (by decide +kernel) ⟨Nat.le_of_ble_eq_true rfl, Nat.le_of_ble_eq_true rfl⟩) hE hP hD hS hA (fun _ => rfl) (LX.blind sa D cL _) (fun U hU hW => hXL.at hS hU hW (blk_free hD hS hA)) hl.1 rfl rfl (Nat.le_of_ble_eq_true rfl) dL_law_920 ⟨by show _ ≤ 601024; omega, by show _ ≤ 7293034; omega⟩ (fun r u H locs hu hP hD hS => ?_)
  obtain ⟨b1, a1, c1, q1, a21, c21, q21, v1⟩ := u
  obtain ⟨hr, hn4, hcr, hu0, hu1⟩ := hu
  have hcr : CRa a1 c1 := hcr
  have hu0 : cdLan a p0 = 0 → v1 0 = (burnsA b a (p0).toNatClampNeg : Int32).toInt64 ∧ b1 = b ∧ a1 = a := hu0
  have hu1 : ¬ cdLan a p0 = 0 → b1 = b ∧ a1 = a := hu1
  subst hr
  rw [List.nil_append] at hP hD
  have hP : va_P D vwCl ((wX cA x B F G b1 a1 c1 q1 a21 c21 q21 ++ wO cL o v1) ++ (wY cA y E S T th b a qm a3 q3 ++ [])) H := by rw [List.append_nil]; exact hP
  have hD : va_D (fun q : Nat => s.heap.size ≤ q) ((wX cA x B F G b1 a1 c1 q1 a21 c21 q21 ++ wO cL o v1) ++ (wY cA y E S T th b a qm a3 q3 ++ [])) := by rw [List.append_nil]; exact hD
  refine lv_istore (lv' := [(5, .int (nI (cdLan a p0))), (4, .int (nI (5 * j))), (0, .ref sb), (1, .ref x), (2, .ref y), (3, .ref o)]) hx hb dL_law_923 hl (by decide) rfl (fun ls hl => ?_)
  refine lv_aload_n hx hb dL_law_925 rfl (lv_at hl 4 rfl) ?_
  refine lv_aload_n hx hb dL_law_926 rfl (lv_at hl 2 rfl) ?_
  refine lv_iload hx hb dL_law_927 (lv_at hl 1 rfl) ?_
  refine lv_iconst (v := 1) hx hb dL_law_929 (by decide) ?_
  refine lv_iadd hx hb dL_law_930 ?_
  refine top_i (y := nI (5 * j + 1)) (nI_add (5 * j) 1) ?_
  refine sld hx hb hX hbl hbA hS (k := 5 * j + 1) (by omega) hL31 (v := p0) hp0 dL_law_931 ?_
  refine bVi (S := FSt × (Nat → Int32)) (wB := fun (u : FSt × (Nat → Int32)) => wY cA y E S T (nI (cdLan a p0)) b a qm u.1 u.2) (As := [.int p0]) (rest := []) (pre := (wX cA x B F G b1 a1 c1 q1 a21 c21 q21 ++ wO cL o v1)) (wc := wY cA y E S T th b a qm a3 q3) (suf := []) ⟨hx, hb, hml, hown, hts⟩ (K_X5_burns l D cA y E S T th b a qm a3 q3 z1 z2 p0 H.size hI.1 hI.2.1) (cwV 1 hts gL_law_X5_burns rfl rfl rfl (by decide +kernel) ⟨Nat.le_of_ble_eq_true rfl, Nat.le_of_ble_eq_true rfl⟩) hE hP hD hS hA (fun _ => rfl) (SX.blind z1 z2 _) (fun U hU hW => hXS.at hS (blk_free hD hS hA) hU hW) 0 5 rfl rfl rfl hl.1 rfl rfl (Nat.le_of_ble_eq_true rfl) dL_law_932 ⟨by show _ ≤ 601024; omega, by show _ ≤ 7293034; omega⟩ (fun r2 u H locs hm hP hD hS => ?_)
  obtain ⟨u1, u2⟩ := u
  have hm0 : cdLan a p0 = 0 → r2 = burnsA b a (p0).toNatClampNeg := hm.1
  have hP : va_P D vwCl ((wX cA x B F G b1 a1 c1 q1 a21 c21 q21 ++ wO cL o v1) ++ (wY cA y E S T (nI (cdLan a p0)) b a qm u1 u2 ++ [])) H := hP
  have hD : va_D (fun q : Nat => s.heap.size ≤ q) ((wX cA x B F G b1 a1 c1 q1 a21 c21 q21 ++ wO cL o v1) ++ (wY cA y E S T (nI (cdLan a p0)) b a qm u1 u2 ++ [])) := hD
  refine lv_istore (lv' := [(6, .int r2), (5, .int (nI (cdLan a p0))), (4, .int (nI (5 * j))), (0, .ref sb), (1, .ref x), (2, .ref y), (3, .ref o)]) hx hb dL_law_935 hl (by decide) rfl (fun ls hl => ?_)
  refine lv_aload_n hx hb dL_law_937 rfl (lv_at hl 5 rfl) ?_
  refine qVi (S := Unit) (As := []) (rest := []) (pre := (wX cA x B F G b1 a1 c1 q1 a21 c21 q21 ++ wO cL o v1)) (wc := wY cA y E S T (nI (cdLan a p0)) b a qm u1 u2) (suf := []) ⟨hx, hb, hml, hown, hts⟩ (K_X5_thrown l D cA y E S T (nI (cdLan a p0)) b a qm u1 u2 H.size) (cwV 0 hts gL_law_X5_thrown rfl rfl rfl (by decide +kernel) ⟨Nat.le_of_ble_eq_true rfl, Nat.le_of_ble_eq_true rfl⟩) hE hP hD hS hA X0.blind (fun _ _ _ => trivial) 0 5 rfl rfl rfl hl.1 rfl rfl (Nat.le_of_ble_eq_true rfl) dL_law_938 ⟨by show _ ≤ 601024; omega, by show _ ≤ 7293034; omega⟩ (fun r3 _ H locs ht3 hP hS => ?_)
  subst ht3
  rw [List.append_nil] at hP hD
  refine lv_iload hx hb dL_law_941 (lv_at hl 1 rfl) ?_
  refine lv_icmp_eq (tgt := 948) hx hb dL_law_943 (by decide) (fun _ => ?_) (fun cf => absurd rfl cf)
  refine lv_iload hx hb dL_law_948 (lv_at hl 1 rfl) ?_
  refine lv_if_ne (tgt := 965) hx hb dL_law_950 (by decide) (fun ck => ?_) (fun ck => ?_)
  · skip
    have hn : ¬ cdLan a p0 = 0 := fun h => ck (by rw [h]; rfl)
    obtain ⟨e1, e2⟩ := hu1 hn
    have ey : wY cA y E S T (nI (cdLan a p0)) b a qm u1 u2 = wY cA y E S T (nI (cdLan a p0)) b1 a1 qm u1 u2 := by rw [e1, e2]
    rw [ey] at hP hD
    refine lv_goto (tgt := 1147) hx hb dL_law_965 (by decide) ?_
    refine lv_iinc (v := nI (5 * j + 5)) (lv' := [(4, .int (nI (5 * j + 5))), (6, .int r2), (5, .int (nI (cdLan a p0))), (0, .ref sb), (1, .ref x), (2, .ref y), (3, .ref o)]) hx hb dL_law_1147 hl (k := 2) rfl (nI_add (5 * j) 5) (by decide) rfl (fun ls hl => ?_)
    refine lv_goto (tgt := 23) hx hb dL_law_1150 (by decide) ?_
    refine W.widen (k := 100 + 371 * (j + 1)) (n := 4000 + 3346 * (j + 1)) (by omega) (by omega) ?_
    exact kk b1 a1 c1 q1 a21 c21 q21 v1 (nI (cdLan a p0)) qm u1 u2 H locs ls (by rw [e1, e2]; rw [e2] at hcr; exact hI.crowd hcr) hP hD hS (lv_sub hl [0, 3, 4, 5, 6] rfl)
  · skip
    have h0 : cdLan a p0 = 0 := (nI_eq (a := cdLan a p0) (b := 0) (by omega) (by decide)).mp ck
    obtain ⟨hv, e1, e2⟩ := hu0 h0
    have e3 := hm0 h0
    have ey : wY cA y E S T (nI (cdLan a p0)) b a qm u1 u2 = wY cA y E S T (nI (cdLan a p0)) b1 a1 qm u1 u2 := by rw [e1, e2]
    rw [ey] at hP hD
    refine lv_aload_n hx hb dL_law_953 rfl (lv_at hl 6 rfl) ?_
    refine lv_iconst (v := 0) hx hb dL_law_954 (by decide) ?_
    refine lldO hx hb hXL.2.1 hP dL_law_955 ?_
    refine lv_iload hx hb dL_law_956 (lv_at hl 0 rfl) ?_
    refine lv_i2l (v := r2.toInt64) hx hb dL_law_958 rfl ?_
    refine W.lcmp hx hb dL_law_959 ?_
    refine lv_if_eq (tgt := 965) hx hb dL_law_960 (by decide) (fun _ => ?_) (fun cf => absurd ((lg_cmp_eq _ _).mpr (by rw [hv, e3])) cf)
    refine lv_goto (tgt := 1147) hx hb dL_law_965 (by decide) ?_
    refine lv_iinc (v := nI (5 * j + 5)) (lv' := [(4, .int (nI (5 * j + 5))), (6, .int r2), (5, .int (nI (cdLan a p0))), (0, .ref sb), (1, .ref x), (2, .ref y), (3, .ref o)]) hx hb dL_law_1147 hl (k := 2) rfl (nI_add (5 * j) 5) (by decide) rfl (fun ls hl => ?_)
    refine lv_goto (tgt := 23) hx hb dL_law_1150 (by decide) ?_
    refine W.widen (k := 100 + 371 * (j + 1)) (n := 4000 + 3346 * (j + 1)) (by omega) (by omega) ?_
    exact kk b1 a1 c1 q1 a21 c21 q21 v1 (nI (cdLan a p0)) qm u1 u2 H locs ls (by rw [e2] at hcr; rw [e1, e2]; exact hI.crowd hcr) hP hD hS (lv_sub hl [0, 3, 4, 5, 6] rfl)

set_option maxHeartbeats 4000000 in
set_option maxRecDepth 100000 in
theorem LC_foresee {p : Program} {l : Launch} {e : Env} {s : State} {m : MethodId} {below : List Frame} {meth : Method} {c : Code} {sb L : Nat} {xs : Nat → Int32} {D : va_G} {cA cL : ClassId} {sa : Nat → Nat} {z1 z2 : Nat} (C0 : LEnv p l s m c sb L xs D cA cL sa z1 z2) {Q : State → Prop} {x : Nat} {B F G : Nat → Nat} {o y : Nat} {E S T : Nat → Nat} {j : Nat} (hj : 5 * j + 5 ≤ L) (kk : LHead p l e s m below meth c sb D cA cL x B F G o y E S T Q (j + 1)) (b : BSt) (a : FSt) (c9 q : Nat → Int32) (a2 : FSt) (c2 q2 : Nat → Int32) (v : Nat → Int64) (th : Int32) (qm : Nat → Int32) (a3 : FSt) (q3 : Nat → Int32) (H : Heap) (locs : List Loc) (ls : Array Slot) (hI : LI b a c9) (hP : va_P D vwCl (wAll cA cL x B F G o y E S T b a c9 q a2 c2 q2 v th qm a3 q3) H) (hD : va_D (fun q : Nat => s.heap.size ≤ q) (wAll cA cL x B F G o y E S T b a c9 q a2 c2 q2 v th qm a3 q3)) (hS : va_S (fun q : Nat => s.heap.size ≤ q) s.heap H locs) (hl : lv_has ls 9 [(4, .int (nI (5 * j))), (0, .ref sb), (1, .ref x), (2, .ref y), (3, .ref o)]) : W p l e room_1 s m #[Value.ref sb] below meth c H locs (100 + 371 * j) (4000 + 3346 * j) Q (F0 m 968 ls []) := by
  obtain ⟨hx, hb, hml, hown, hts, hE, hXL, hXS, hX, hbl, hlt, hL⟩ := id C0
  have hA : ∀ q : Nat, s.heap.size ≤ q → (fun q : Nat => s.heap.size ≤ q) q := fun _ h => h
  have hbA : ¬ (fun q : Nat => s.heap.size ≤ q) sb := Nat.not_le.mpr hbl
  have hL31 : L < 2 ^ 31 := by omega
  obtain ⟨p0, hp0⟩ : ∃ z, xs (5 * j + 1) = z := ⟨_, rfl⟩
  obtain ⟨p1, hp1⟩ : ∃ z, xs (5 * j + 2) = z := ⟨_, rfl⟩
  have hP : va_P D vwCl ([] ++ ((wX cA x B F G b a c9 q a2 c2 q2 ++ wO cL o v) ++ wY cA y E S T th b a qm a3 q3)) H := hP
  have hD : va_D (fun q : Nat => s.heap.size ≤ q) ([] ++ ((wX cA x B F G b a c9 q a2 c2 q2 ++ wO cL o v) ++ wY cA y E S T th b a qm a3 q3)) := hD
  refine lv_aload_n hx hb dL_law_968 rfl (lv_at hl 2 rfl) ?_
  refine lv_aload_n hx hb dL_law_969 rfl (lv_at hl 1 rfl) ?_
  refine lv_iload hx hb dL_law_970 (lv_at hl 0 rfl) ?_
  refine lv_iconst (v := 1) hx hb dL_law_972 (by decide) ?_
  refine lv_iadd hx hb dL_law_973 ?_
  refine top_i (y := nI (5 * j + 1)) (nI_add (5 * j) 1) ?_
  refine sld hx hb hX hbl hbA hS (k := 5 * j + 1) (by omega) hL31 (v := p0) hp0 dL_law_974 ?_
  refine lv_aload_n hx hb dL_law_975 rfl (lv_at hl 1 rfl) ?_
  refine lv_iload hx hb dL_law_976 (lv_at hl 0 rfl) ?_
  refine lv_iconst (v := 2) hx hb dL_law_978 (by decide) ?_
  refine lv_iadd hx hb dL_law_979 ?_
  refine top_i (y := nI (5 * j + 2)) (nI_add (5 * j) 2) ?_
  refine sld hx hb hX hbl hbA hS (k := 5 * j + 2) (by omega) hL31 (v := p1) hp1 dL_law_980 ?_
  refine lv_aload_n hx hb dL_law_981 rfl (lv_at hl 4 rfl) ?_
  refine bSi (S := LU) (wB := fun (u : LU) => wXU cA x B F G u ++ wO cL o u.2.2.2.2.2.2.2) (As := [.ref x, .int p0, .int p1, .ref o]) (rest := []) (pre := []) (wc := (wX cA x B F G b a c9 q a2 c2 q2 ++ wO cL o v)) (suf := wY cA y E S T th b a qm a3 q3) ⟨hx, hb, hml, hown, hts⟩ (KL_foresee l hlt D cA cL sa x B F G o b a c9 q a2 c2 q2 v p0 p1 H.size hI) (vx_cwSW 4 hts gL_law_L_foresee rfl rfl rfl (by decide +kernel) ⟨Nat.le_of_ble_eq_true rfl, Nat.le_of_ble_eq_true rfl⟩) hE hP hD hS hA (fun _ => rfl) (LX.blind sa D cL _) (fun U hU hW => hXL.at hS hU hW (blk_free hD hS hA)) hl.1 rfl rfl (Nat.le_of_ble_eq_true rfl) dL_law_982 ⟨by show _ ≤ 601024; omega, by show _ ≤ 7293034; omega⟩ (fun r u H locs hu hP hD hS => ?_)
  obtain ⟨b1, a1, c1, q1, a21, c21, q21, v1⟩ := u
  obtain ⟨hr, hn4, hcr, hu0, hu1⟩ := hu
  have hcr : CRa a1 c1 := hcr
  have hu0 : cdForesee p0 p1 = 0 → v1 0 = (tallyA (minsA b (p0).toNatClampNeg a) (p1).toNatClampNeg : Int32).toInt64 ∧ b1 = b ∧ a1 = a := hu0
  have hu1 : ¬ cdForesee p0 p1 = 0 → b1 = b ∧ a1 = a := hu1
  subst hr
  rw [List.nil_append] at hP hD
  have hP : va_P D vwCl ((wX cA x B F G b1 a1 c1 q1 a21 c21 q21 ++ wO cL o v1) ++ (wY cA y E S T th b a qm a3 q3 ++ [])) H := by rw [List.append_nil]; exact hP
  have hD : va_D (fun q : Nat => s.heap.size ≤ q) ((wX cA x B F G b1 a1 c1 q1 a21 c21 q21 ++ wO cL o v1) ++ (wY cA y E S T th b a qm a3 q3 ++ [])) := by rw [List.append_nil]; exact hD
  refine lv_istore (lv' := [(5, .int (nI (cdForesee p0 p1))), (4, .int (nI (5 * j))), (0, .ref sb), (1, .ref x), (2, .ref y), (3, .ref o)]) hx hb dL_law_985 hl (by decide) rfl (fun ls hl => ?_)
  refine lv_aload_n hx hb dL_law_987 rfl (lv_at hl 4 rfl) ?_
  refine lv_aload_n hx hb dL_law_988 rfl (lv_at hl 2 rfl) ?_
  refine lv_iload hx hb dL_law_989 (lv_at hl 1 rfl) ?_
  refine lv_iconst (v := 1) hx hb dL_law_991 (by decide) ?_
  refine lv_iadd hx hb dL_law_992 ?_
  refine top_i (y := nI (5 * j + 1)) (nI_add (5 * j) 1) ?_
  refine sld hx hb hX hbl hbA hS (k := 5 * j + 1) (by omega) hL31 (v := p0) hp0 dL_law_993 ?_
  refine lv_aload_n hx hb dL_law_994 rfl (lv_at hl 2 rfl) ?_
  refine lv_iload hx hb dL_law_995 (lv_at hl 1 rfl) ?_
  refine lv_iconst (v := 2) hx hb dL_law_997 (by decide) ?_
  refine lv_iadd hx hb dL_law_998 ?_
  refine top_i (y := nI (5 * j + 2)) (nI_add (5 * j) 2) ?_
  refine sld hx hb hX hbl hbA hS (k := 5 * j + 2) (by omega) hL31 (v := p1) hp1 dL_law_999 ?_
  refine bVi (S := FSt × (Nat → Int32)) (wB := fun (u : FSt × (Nat → Int32)) => wY cA y E S T (nI (cdForesee p0 p1)) b a qm u.1 u.2) (As := [.int p0, .int p1]) (rest := []) (pre := (wX cA x B F G b1 a1 c1 q1 a21 c21 q21 ++ wO cL o v1)) (wc := wY cA y E S T th b a qm a3 q3) (suf := []) ⟨hx, hb, hml, hown, hts⟩ (K_X5_foresee l D cA y E S T th b a qm a3 q3 z1 z2 p0 p1 H.size hI.1 hI.2.1) (cwV 2 hts gL_law_X5_foresee rfl rfl rfl (by decide +kernel) ⟨Nat.le_of_ble_eq_true rfl, Nat.le_of_ble_eq_true rfl⟩) hE hP hD hS hA (fun _ => rfl) (SX.blind z1 z2 _) (fun U hU hW => hXS.at hS (blk_free hD hS hA) hU hW) 0 5 rfl rfl rfl hl.1 rfl rfl (Nat.le_of_ble_eq_true rfl) dL_law_1000 ⟨by show _ ≤ 601024; omega, by show _ ≤ 7293034; omega⟩ (fun r2 u H locs hm hP hD hS => ?_)
  obtain ⟨u1, u2⟩ := u
  have hm0 : cdForesee p0 p1 = 0 → r2 = tallyA (minsA b (p0).toNatClampNeg a) (p1).toNatClampNeg := hm.1
  have hP : va_P D vwCl ((wX cA x B F G b1 a1 c1 q1 a21 c21 q21 ++ wO cL o v1) ++ (wY cA y E S T (nI (cdForesee p0 p1)) b a qm u1 u2 ++ [])) H := hP
  have hD : va_D (fun q : Nat => s.heap.size ≤ q) ((wX cA x B F G b1 a1 c1 q1 a21 c21 q21 ++ wO cL o v1) ++ (wY cA y E S T (nI (cdForesee p0 p1)) b a qm u1 u2 ++ [])) := hD
  refine lv_istore (lv' := [(6, .int r2), (5, .int (nI (cdForesee p0 p1))), (4, .int (nI (5 * j))), (0, .ref sb), (1, .ref x), (2, .ref y), (3, .ref o)]) hx hb dL_law_1003 hl (by decide) rfl (fun ls hl => ?_)
  refine lv_aload_n hx hb dL_law_1005 rfl (lv_at hl 5 rfl) ?_
  refine qVi (S := Unit) (As := []) (rest := []) (pre := (wX cA x B F G b1 a1 c1 q1 a21 c21 q21 ++ wO cL o v1)) (wc := wY cA y E S T (nI (cdForesee p0 p1)) b a qm u1 u2) (suf := []) ⟨hx, hb, hml, hown, hts⟩ (K_X5_thrown l D cA y E S T (nI (cdForesee p0 p1)) b a qm u1 u2 H.size) (cwV 0 hts gL_law_X5_thrown rfl rfl rfl (by decide +kernel) ⟨Nat.le_of_ble_eq_true rfl, Nat.le_of_ble_eq_true rfl⟩) hE hP hD hS hA X0.blind (fun _ _ _ => trivial) 0 5 rfl rfl rfl hl.1 rfl rfl (Nat.le_of_ble_eq_true rfl) dL_law_1006 ⟨by show _ ≤ 601024; omega, by show _ ≤ 7293034; omega⟩ (fun r3 _ H locs ht3 hP hS => ?_)
  subst ht3
  rw [List.append_nil] at hP hD
  refine lv_iload hx hb dL_law_1009 (lv_at hl 1 rfl) ?_
  refine lv_icmp_eq (tgt := 1016) hx hb dL_law_1011 (by decide) (fun _ => ?_) (fun cf => absurd rfl cf)
  refine lv_iload hx hb dL_law_1016 (lv_at hl 1 rfl) ?_
  refine lv_if_ne (tgt := 1033) hx hb dL_law_1018 (by decide) (fun ck => ?_) (fun ck => ?_)
  · skip
    have hn : ¬ cdForesee p0 p1 = 0 := fun h => ck (by rw [h]; rfl)
    obtain ⟨e1, e2⟩ := hu1 hn
    have ey : wY cA y E S T (nI (cdForesee p0 p1)) b a qm u1 u2 = wY cA y E S T (nI (cdForesee p0 p1)) b1 a1 qm u1 u2 := by rw [e1, e2]
    rw [ey] at hP hD
    refine lv_goto (tgt := 1147) hx hb dL_law_1033 (by decide) ?_
    refine lv_iinc (v := nI (5 * j + 5)) (lv' := [(4, .int (nI (5 * j + 5))), (6, .int r2), (5, .int (nI (cdForesee p0 p1))), (0, .ref sb), (1, .ref x), (2, .ref y), (3, .ref o)]) hx hb dL_law_1147 hl (k := 2) rfl (nI_add (5 * j) 5) (by decide) rfl (fun ls hl => ?_)
    refine lv_goto (tgt := 23) hx hb dL_law_1150 (by decide) ?_
    refine W.widen (k := 100 + 371 * (j + 1)) (n := 4000 + 3346 * (j + 1)) (by omega) (by omega) ?_
    exact kk b1 a1 c1 q1 a21 c21 q21 v1 (nI (cdForesee p0 p1)) qm u1 u2 H locs ls (by rw [e1, e2]; rw [e2] at hcr; exact hI.crowd hcr) hP hD hS (lv_sub hl [0, 3, 4, 5, 6] rfl)
  · skip
    have h0 : cdForesee p0 p1 = 0 := (nI_eq (a := cdForesee p0 p1) (b := 0) (by omega) (by decide)).mp ck
    obtain ⟨hv, e1, e2⟩ := hu0 h0
    have e3 := hm0 h0
    have ey : wY cA y E S T (nI (cdForesee p0 p1)) b a qm u1 u2 = wY cA y E S T (nI (cdForesee p0 p1)) b1 a1 qm u1 u2 := by rw [e1, e2]
    rw [ey] at hP hD
    refine lv_aload_n hx hb dL_law_1021 rfl (lv_at hl 6 rfl) ?_
    refine lv_iconst (v := 0) hx hb dL_law_1022 (by decide) ?_
    refine lldO hx hb hXL.2.1 hP dL_law_1023 ?_
    refine lv_iload hx hb dL_law_1024 (lv_at hl 0 rfl) ?_
    refine lv_i2l (v := r2.toInt64) hx hb dL_law_1026 rfl ?_
    refine W.lcmp hx hb dL_law_1027 ?_
    refine lv_if_eq (tgt := 1033) hx hb dL_law_1028 (by decide) (fun _ => ?_) (fun cf => absurd ((lg_cmp_eq _ _).mpr (by rw [hv, e3])) cf)
    refine lv_goto (tgt := 1147) hx hb dL_law_1033 (by decide) ?_
    refine lv_iinc (v := nI (5 * j + 5)) (lv' := [(4, .int (nI (5 * j + 5))), (6, .int r2), (5, .int (nI (cdForesee p0 p1))), (0, .ref sb), (1, .ref x), (2, .ref y), (3, .ref o)]) hx hb dL_law_1147 hl (k := 2) rfl (nI_add (5 * j) 5) (by decide) rfl (fun ls hl => ?_)
    refine lv_goto (tgt := 23) hx hb dL_law_1150 (by decide) ?_
    refine W.widen (k := 100 + 371 * (j + 1)) (n := 4000 + 3346 * (j + 1)) (by omega) (by omega) ?_
    exact kk b1 a1 c1 q1 a21 c21 q21 v1 (nI (cdForesee p0 p1)) qm u1 u2 H locs ls (by rw [e2] at hcr; rw [e1, e2]; exact hI.crowd hcr) hP hD hS (lv_sub hl [0, 3, 4, 5, 6] rfl)

set_option maxHeartbeats 4000000 in
set_option maxRecDepth 100000 in
theorem LC_advise {p : Program} {l : Launch} {e : Env} {s : State} {m : MethodId} {below : List Frame} {meth : Method} {c : Code} {sb L : Nat} {xs : Nat → Int32} {D : va_G} {cA cL : ClassId} {sa : Nat → Nat} {z1 z2 : Nat} (C0 : LEnv p l s m c sb L xs D cA cL sa z1 z2) {Q : State → Prop} {x : Nat} {B F G : Nat → Nat} {o y : Nat} {E S T : Nat → Nat} {j : Nat} (hj : 5 * j + 5 ≤ L) (kk : LHead p l e s m below meth c sb D cA cL x B F G o y E S T Q (j + 1)) (b : BSt) (a : FSt) (c9 q : Nat → Int32) (a2 : FSt) (c2 q2 : Nat → Int32) (v : Nat → Int64) (th : Int32) (qm : Nat → Int32) (a3 : FSt) (q3 : Nat → Int32) (H : Heap) (locs : List Loc) (ls : Array Slot) (hI : LI b a c9) (hP : va_P D vwCl (wAll cA cL x B F G o y E S T b a c9 q a2 c2 q2 v th qm a3 q3) H) (hD : va_D (fun q : Nat => s.heap.size ≤ q) (wAll cA cL x B F G o y E S T b a c9 q a2 c2 q2 v th qm a3 q3)) (hS : va_S (fun q : Nat => s.heap.size ≤ q) s.heap H locs) (hl : lv_has ls 9 [(4, .int (nI (5 * j))), (0, .ref sb), (1, .ref x), (2, .ref y), (3, .ref o)]) : W p l e room_1 s m #[Value.ref sb] below meth c H locs (100 + 371 * j) (4000 + 3346 * j) Q (F0 m 1036 ls []) := by
  obtain ⟨hx, hb, hml, hown, hts, hE, hXL, hXS, hX, hbl, hlt, hL⟩ := id C0
  have hA : ∀ q : Nat, s.heap.size ≤ q → (fun q : Nat => s.heap.size ≤ q) q := fun _ h => h
  have hbA : ¬ (fun q : Nat => s.heap.size ≤ q) sb := Nat.not_le.mpr hbl
  have hL31 : L < 2 ^ 31 := by omega
  obtain ⟨p0, hp0⟩ : ∃ z, xs (5 * j + 1) = z := ⟨_, rfl⟩
  have hP : va_P D vwCl ([] ++ ((wX cA x B F G b a c9 q a2 c2 q2 ++ wO cL o v) ++ wY cA y E S T th b a qm a3 q3)) H := hP
  have hD : va_D (fun q : Nat => s.heap.size ≤ q) ([] ++ ((wX cA x B F G b a c9 q a2 c2 q2 ++ wO cL o v) ++ wY cA y E S T th b a qm a3 q3)) := hD
  refine lv_aload_n hx hb dL_law_1036 rfl (lv_at hl 2 rfl) ?_
  refine lv_aload_n hx hb dL_law_1037 rfl (lv_at hl 1 rfl) ?_
  refine lv_iload hx hb dL_law_1038 (lv_at hl 0 rfl) ?_
  refine lv_iconst (v := 1) hx hb dL_law_1040 (by decide) ?_
  refine lv_iadd hx hb dL_law_1041 ?_
  refine top_i (y := nI (5 * j + 1)) (nI_add (5 * j) 1) ?_
  refine sld hx hb hX hbl hbA hS (k := 5 * j + 1) (by omega) hL31 (v := p0) hp0 dL_law_1042 ?_
  refine lv_aload_n hx hb dL_law_1043 rfl (lv_at hl 4 rfl) ?_
  refine bSi (S := LU) (wB := fun (u : LU) => wXU cA x B F G u ++ wO cL o u.2.2.2.2.2.2.2) (As := [.ref x, .int p0, .ref o]) (rest := []) (pre := []) (wc := (wX cA x B F G b a c9 q a2 c2 q2 ++ wO cL o v)) (suf := wY cA y E S T th b a qm a3 q3) ⟨hx, hb, hml, hown, hts⟩ (KL_advise l hlt D cA cL sa x B F G o b a c9 q a2 c2 q2 v p0 H.size hI) (vx_cwSW 3 hts gL_law_L_advise rfl rfl rfl (by decide +kernel) ⟨Nat.le_of_ble_eq_true rfl, Nat.le_of_ble_eq_true rfl⟩) hE hP hD hS hA (fun _ => rfl) (LX.blind sa D cL _) (fun U hU hW => hXL.at hS hU hW (blk_free hD hS hA)) hl.1 rfl rfl (Nat.le_of_ble_eq_true rfl) dL_law_1044 ⟨by show _ ≤ 601024; omega, by show _ ≤ 7293034; omega⟩ (fun r u H locs hu hP hD hS => ?_)
  obtain ⟨b1, a1, c1, q1, a21, c21, q21, v1⟩ := u
  obtain ⟨hr, hn4, hcr, hu0, hu1⟩ := hu
  have hcr : CRa a1 c1 := hcr
  have hu0 : cdFrame p0 = 0 → v1 0 = (adviseA b a (p0).toNatClampNeg : Int32).toInt64 ∧ b1 = b ∧ a1 = a := hu0
  have hu1 : ¬ cdFrame p0 = 0 → b1 = b ∧ a1 = a := hu1
  subst hr
  rw [List.nil_append] at hP hD
  have hP : va_P D vwCl ((wX cA x B F G b1 a1 c1 q1 a21 c21 q21 ++ wO cL o v1) ++ (wY cA y E S T th b a qm a3 q3 ++ [])) H := by rw [List.append_nil]; exact hP
  have hD : va_D (fun q : Nat => s.heap.size ≤ q) ((wX cA x B F G b1 a1 c1 q1 a21 c21 q21 ++ wO cL o v1) ++ (wY cA y E S T th b a qm a3 q3 ++ [])) := by rw [List.append_nil]; exact hD
  refine lv_istore (lv' := [(5, .int (nI (cdFrame p0))), (4, .int (nI (5 * j))), (0, .ref sb), (1, .ref x), (2, .ref y), (3, .ref o)]) hx hb dL_law_1047 hl (by decide) rfl (fun ls hl => ?_)
  refine lv_aload_n hx hb dL_law_1049 rfl (lv_at hl 4 rfl) ?_
  refine lv_aload_n hx hb dL_law_1050 rfl (lv_at hl 2 rfl) ?_
  refine lv_iload hx hb dL_law_1051 (lv_at hl 1 rfl) ?_
  refine lv_iconst (v := 1) hx hb dL_law_1053 (by decide) ?_
  refine lv_iadd hx hb dL_law_1054 ?_
  refine top_i (y := nI (5 * j + 1)) (nI_add (5 * j) 1) ?_
  refine sld hx hb hX hbl hbA hS (k := 5 * j + 1) (by omega) hL31 (v := p0) hp0 dL_law_1055 ?_
  refine bVi (S := FSt × (Nat → Int32)) (wB := fun (u : FSt × (Nat → Int32)) => wY cA y E S T (nI (cdFrame p0)) b a qm u.1 u.2) (As := [.int p0]) (rest := []) (pre := (wX cA x B F G b1 a1 c1 q1 a21 c21 q21 ++ wO cL o v1)) (wc := wY cA y E S T th b a qm a3 q3) (suf := []) ⟨hx, hb, hml, hown, hts⟩ (K_X5_advise l D cA y E S T th b a qm a3 q3 z1 z2 p0 H.size hI.1 hI.2.1 hI.2.2.2.2) (cwV 1 hts gL_law_X5_advise rfl rfl rfl (by decide +kernel) ⟨Nat.le_of_ble_eq_true rfl, Nat.le_of_ble_eq_true rfl⟩) hE hP hD hS hA (fun _ => rfl) (SX.blind z1 z2 _) (fun U hU hW => hXS.at hS (blk_free hD hS hA) hU hW) 0 5 rfl rfl rfl hl.1 rfl rfl (Nat.le_of_ble_eq_true rfl) dL_law_1056 ⟨by show _ ≤ 601024; omega, by show _ ≤ 7293034; omega⟩ (fun r2 u H locs hm hP hD hS => ?_)
  obtain ⟨u1, u2⟩ := u
  have hm0 : cdFrame p0 = 0 → r2 = adviseA b a (p0).toNatClampNeg := hm.1
  have hP : va_P D vwCl ((wX cA x B F G b1 a1 c1 q1 a21 c21 q21 ++ wO cL o v1) ++ (wY cA y E S T (nI (cdFrame p0)) b a qm u1 u2 ++ [])) H := hP
  have hD : va_D (fun q : Nat => s.heap.size ≤ q) ((wX cA x B F G b1 a1 c1 q1 a21 c21 q21 ++ wO cL o v1) ++ (wY cA y E S T (nI (cdFrame p0)) b a qm u1 u2 ++ [])) := hD
  refine lv_istore (lv' := [(6, .int r2), (5, .int (nI (cdFrame p0))), (4, .int (nI (5 * j))), (0, .ref sb), (1, .ref x), (2, .ref y), (3, .ref o)]) hx hb dL_law_1059 hl (by decide) rfl (fun ls hl => ?_)
  refine lv_aload_n hx hb dL_law_1061 rfl (lv_at hl 5 rfl) ?_
  refine qVi (S := Unit) (As := []) (rest := []) (pre := (wX cA x B F G b1 a1 c1 q1 a21 c21 q21 ++ wO cL o v1)) (wc := wY cA y E S T (nI (cdFrame p0)) b a qm u1 u2) (suf := []) ⟨hx, hb, hml, hown, hts⟩ (K_X5_thrown l D cA y E S T (nI (cdFrame p0)) b a qm u1 u2 H.size) (cwV 0 hts gL_law_X5_thrown rfl rfl rfl (by decide +kernel) ⟨Nat.le_of_ble_eq_true rfl, Nat.le_of_ble_eq_true rfl⟩) hE hP hD hS hA X0.blind (fun _ _ _ => trivial) 0 5 rfl rfl rfl hl.1 rfl rfl (Nat.le_of_ble_eq_true rfl) dL_law_1062 ⟨by show _ ≤ 601024; omega, by show _ ≤ 7293034; omega⟩ (fun r3 _ H locs ht3 hP hS => ?_)
  subst ht3
  rw [List.append_nil] at hP hD
  refine lv_iload hx hb dL_law_1065 (lv_at hl 1 rfl) ?_
  refine lv_icmp_eq (tgt := 1072) hx hb dL_law_1067 (by decide) (fun _ => ?_) (fun cf => absurd rfl cf)
  refine lv_iload hx hb dL_law_1072 (lv_at hl 1 rfl) ?_
  refine lv_if_ne (tgt := 1089) hx hb dL_law_1074 (by decide) (fun ck => ?_) (fun ck => ?_)
  · skip
    have hn : ¬ cdFrame p0 = 0 := fun h => ck (by rw [h]; rfl)
    obtain ⟨e1, e2⟩ := hu1 hn
    have ey : wY cA y E S T (nI (cdFrame p0)) b a qm u1 u2 = wY cA y E S T (nI (cdFrame p0)) b1 a1 qm u1 u2 := by rw [e1, e2]
    rw [ey] at hP hD
    refine lv_goto (tgt := 1147) hx hb dL_law_1089 (by decide) ?_
    refine lv_iinc (v := nI (5 * j + 5)) (lv' := [(4, .int (nI (5 * j + 5))), (6, .int r2), (5, .int (nI (cdFrame p0))), (0, .ref sb), (1, .ref x), (2, .ref y), (3, .ref o)]) hx hb dL_law_1147 hl (k := 2) rfl (nI_add (5 * j) 5) (by decide) rfl (fun ls hl => ?_)
    refine lv_goto (tgt := 23) hx hb dL_law_1150 (by decide) ?_
    refine W.widen (k := 100 + 371 * (j + 1)) (n := 4000 + 3346 * (j + 1)) (by omega) (by omega) ?_
    exact kk b1 a1 c1 q1 a21 c21 q21 v1 (nI (cdFrame p0)) qm u1 u2 H locs ls (by rw [e1, e2]; rw [e2] at hcr; exact hI.crowd hcr) hP hD hS (lv_sub hl [0, 3, 4, 5, 6] rfl)
  · skip
    have h0 : cdFrame p0 = 0 := (nI_eq (a := cdFrame p0) (b := 0) (by omega) (by decide)).mp ck
    obtain ⟨hv, e1, e2⟩ := hu0 h0
    have e3 := hm0 h0
    have ey : wY cA y E S T (nI (cdFrame p0)) b a qm u1 u2 = wY cA y E S T (nI (cdFrame p0)) b1 a1 qm u1 u2 := by rw [e1, e2]
    rw [ey] at hP hD
    refine lv_aload_n hx hb dL_law_1077 rfl (lv_at hl 6 rfl) ?_
    refine lv_iconst (v := 0) hx hb dL_law_1078 (by decide) ?_
    refine lldO hx hb hXL.2.1 hP dL_law_1079 ?_
    refine lv_iload hx hb dL_law_1080 (lv_at hl 0 rfl) ?_
    refine lv_i2l (v := r2.toInt64) hx hb dL_law_1082 rfl ?_
    refine W.lcmp hx hb dL_law_1083 ?_
    refine lv_if_eq (tgt := 1089) hx hb dL_law_1084 (by decide) (fun _ => ?_) (fun cf => absurd ((lg_cmp_eq _ _).mpr (by rw [hv, e3])) cf)
    refine lv_goto (tgt := 1147) hx hb dL_law_1089 (by decide) ?_
    refine lv_iinc (v := nI (5 * j + 5)) (lv' := [(4, .int (nI (5 * j + 5))), (6, .int r2), (5, .int (nI (cdFrame p0))), (0, .ref sb), (1, .ref x), (2, .ref y), (3, .ref o)]) hx hb dL_law_1147 hl (k := 2) rfl (nI_add (5 * j) 5) (by decide) rfl (fun ls hl => ?_)
    refine lv_goto (tgt := 23) hx hb dL_law_1150 (by decide) ?_
    refine W.widen (k := 100 + 371 * (j + 1)) (n := 4000 + 3346 * (j + 1)) (by omega) (by omega) ?_
    exact kk b1 a1 c1 q1 a21 c21 q21 v1 (nI (cdFrame p0)) qm u1 u2 H locs ls (by rw [e2] at hcr; rw [e1, e2]; exact hI.crowd hcr) hP hD hS (lv_sub hl [0, 3, 4, 5, 6] rfl)

set_option maxHeartbeats 4000000 in
set_option maxRecDepth 100000 in
theorem LC_mean {p : Program} {l : Launch} {e : Env} {s : State} {m : MethodId} {below : List Frame} {meth : Method} {c : Code} {sb L : Nat} {xs : Nat → Int32} {D : va_G} {cA cL : ClassId} {sa : Nat → Nat} {z1 z2 : Nat} (C0 : LEnv p l s m c sb L xs D cA cL sa z1 z2) {Q : State → Prop} {x : Nat} {B F G : Nat → Nat} {o y : Nat} {E S T : Nat → Nat} {j : Nat} (hj : 5 * j + 5 ≤ L) (kk : LHead p l e s m below meth c sb D cA cL x B F G o y E S T Q (j + 1)) (b : BSt) (a : FSt) (c9 q : Nat → Int32) (a2 : FSt) (c2 q2 : Nat → Int32) (v : Nat → Int64) (th : Int32) (qm : Nat → Int32) (a3 : FSt) (q3 : Nat → Int32) (H : Heap) (locs : List Loc) (ls : Array Slot) (hI : LI b a c9) (hP : va_P D vwCl (wAll cA cL x B F G o y E S T b a c9 q a2 c2 q2 v th qm a3 q3) H) (hD : va_D (fun q : Nat => s.heap.size ≤ q) (wAll cA cL x B F G o y E S T b a c9 q a2 c2 q2 v th qm a3 q3)) (hS : va_S (fun q : Nat => s.heap.size ≤ q) s.heap H locs) (hl : lv_has ls 9 [(4, .int (nI (5 * j))), (0, .ref sb), (1, .ref x), (2, .ref y), (3, .ref o)]) : W p l e room_1 s m #[Value.ref sb] below meth c H locs (100 + 371 * j) (4000 + 3346 * j) Q (F0 m 1092 ls []) := by
  obtain ⟨hx, hb, hml, hown, hts, hE, hXL, hXS, hX, hbl, hlt, hL⟩ := id C0
  have hA : ∀ q : Nat, s.heap.size ≤ q → (fun q : Nat => s.heap.size ≤ q) q := fun _ h => h
  have hbA : ¬ (fun q : Nat => s.heap.size ≤ q) sb := Nat.not_le.mpr hbl
  have hL31 : L < 2 ^ 31 := by omega
  have hP : va_P D vwCl ([] ++ (wX cA x B F G b a c9 q a2 c2 q2 ++ (wO cL o v ++ wY cA y E S T th b a qm a3 q3))) H := by rw [List.nil_append, ← List.append_assoc]; exact hP
  have hD : va_D (fun q : Nat => s.heap.size ≤ q) ([] ++ (wX cA x B F G b a c9 q a2 c2 q2 ++ (wO cL o v ++ wY cA y E S T th b a qm a3 q3))) := by rw [List.nil_append, ← List.append_assoc]; exact hD
  refine lv_aload_n hx hb dL_law_1092 rfl (lv_at hl 2 rfl) ?_
  refine qVd (S := Unit) (As := []) (rest := []) (pre := []) (wc := wX cA x B F G b a c9 q a2 c2 q2) (suf := wO cL o v ++ wY cA y E S T th b a qm a3 q3) ⟨hx, hb, hml, hown, hts⟩ (K_X3_mean l D cA x B F G b a c9 q a2 c2 q2 H.size hI.1) (cwV 0 hts gL_law_X3_mean rfl rfl rfl (by decide +kernel) ⟨Nat.le_of_ble_eq_true rfl, Nat.le_of_ble_eq_true rfl⟩) hE hP hD hS hA X0.blind (fun _ _ _ => trivial) 0 3 rfl rfl rfl hl.1 rfl rfl (Nat.le_of_ble_eq_true rfl) dL_law_1093 ⟨by show _ ≤ 601024; omega, by show _ ≤ 7293034; omega⟩ (fun r1 _ H locs h1 hP hS => ?_)
  subst h1
  refine lv_dstore (lv' := [(5, .double (meanA a)), (4, .int (nI (5 * j))), (0, .ref sb), (1, .ref x), (2, .ref y), (3, .ref o)]) hx hb dL_law_1096 hl (by decide) rfl (fun ls hl => ?_)
  refine lv_aload_n hx hb dL_law_1098 rfl (lv_at hl 4 rfl) ?_
  rw [List.nil_append, ← List.append_assoc] at hP hD
  have hP : va_P D vwCl ((wX cA x B F G b a c9 q a2 c2 q2 ++ wO cL o v) ++ (wY cA y E S T th b a qm a3 q3 ++ [])) H := by rw [List.append_nil]; exact hP
  have hD : va_D (fun q : Nat => s.heap.size ≤ q) ((wX cA x B F G b a c9 q a2 c2 q2 ++ wO cL o v) ++ (wY cA y E S T th b a qm a3 q3 ++ [])) := by rw [List.append_nil]; exact hD
  refine bVd (S := Unit) (wB := fun (_ : Unit) => wY cA y E S T 0 b a qm a3 q3) (As := []) (rest := []) (pre := (wX cA x B F G b a c9 q a2 c2 q2 ++ wO cL o v)) (wc := wY cA y E S T th b a qm a3 q3) (suf := []) ⟨hx, hb, hml, hown, hts⟩ (K_X5_mean l D cA y E S T th b a qm a3 q3 H.size hI.1) (cwV 0 hts gL_law_X5_mean rfl rfl rfl (by decide +kernel) ⟨Nat.le_of_ble_eq_true rfl, Nat.le_of_ble_eq_true rfl⟩) hE hP hD hS hA (fun _ => rfl) X0.blind (fun _ _ _ => trivial) 0 5 rfl rfl rfl hl.1 rfl rfl (Nat.le_of_ble_eq_true rfl) dL_law_1099 ⟨by show _ ≤ 601024; omega, by show _ ≤ 7293034; omega⟩ (fun r2 _ H locs h2 hP hD hS => ?_)
  subst h2
  rw [List.append_nil] at hP hD
  refine lv_dstore (lv' := [(7, .double (meanA a)), (5, .double (meanA a)), (4, .int (nI (5 * j))), (0, .ref sb), (1, .ref x), (2, .ref y), (3, .ref o)]) hx hb dL_law_1102 hl (by decide) rfl (fun ls hl => ?_)
  refine lv_dload hx hb dL_law_1104 (lv_at hl 1 rfl) ?_
  refine lv_dload hx hb dL_law_1106 (lv_at hl 0 rfl) ?_
  refine lv_dcmp hx hb dL_law_1108 ?_
  obtain ⟨z9, hz9⟩ : ∃ z, z = Op.cmpValue (FP.dcmp (meanA a) (meanA a)) .l := ⟨_, rfl⟩
  rw [← hz9]
  refine lv_if_eq (tgt := 1130) hx hb dL_law_1109 (by decide) (fun _ => ?_) (fun cf => ?_)
  · skip
    refine lv_goto (tgt := 1147) hx hb dL_law_1130 (by decide) ?_
    refine lv_iinc (v := nI (5 * j + 5)) (lv' := [(4, .int (nI (5 * j + 5))), (7, .double (meanA a)), (5, .double (meanA a)), (0, .ref sb), (1, .ref x), (2, .ref y), (3, .ref o)]) hx hb dL_law_1147 hl (k := 2) rfl (nI_add (5 * j) 5) (by decide) rfl (fun ls hl => ?_)
    refine lv_goto (tgt := 23) hx hb dL_law_1150 (by decide) ?_
    refine W.widen (k := 100 + 371 * (j + 1)) (n := 4000 + 3346 * (j + 1)) (by omega) (by omega) ?_
    exact kk b a c9 q a2 c2 q2 v 0 qm a3 q3 H locs ls (hI) hP hD hS (lv_sub hl [0, 3, 4, 5, 6] rfl)
  · skip
    refine lv_dload hx hb dL_law_1112 (lv_at hl 1 rfl) ?_
    refine lv_dload hx hb dL_law_1114 (lv_at hl 1 rfl) ?_
    refine lv_dcmp hx hb dL_law_1116 ?_
    rw [← hz9]
    refine lv_if_eq (tgt := 1128) hx hb dL_law_1117 (by decide) (fun cg => absurd cg cf) (fun _ => ?_)
    refine lv_dload hx hb dL_law_1120 (lv_at hl 0 rfl) ?_
    refine lv_dload hx hb dL_law_1122 (lv_at hl 0 rfl) ?_
    refine lv_dcmp hx hb dL_law_1124 ?_
    rw [← hz9]
    refine lv_if_ne (tgt := 1130) hx hb dL_law_1125 (by decide) (fun _ => ?_) (fun cg => absurd cg cf)
    refine lv_goto (tgt := 1147) hx hb dL_law_1130 (by decide) ?_
    refine lv_iinc (v := nI (5 * j + 5)) (lv' := [(4, .int (nI (5 * j + 5))), (7, .double (meanA a)), (5, .double (meanA a)), (0, .ref sb), (1, .ref x), (2, .ref y), (3, .ref o)]) hx hb dL_law_1147 hl (k := 2) rfl (nI_add (5 * j) 5) (by decide) rfl (fun ls hl => ?_)
    refine lv_goto (tgt := 23) hx hb dL_law_1150 (by decide) ?_
    refine W.widen (k := 100 + 371 * (j + 1)) (n := 4000 + 3346 * (j + 1)) (by omega) (by omega) ?_
    exact kk b a c9 q a2 c2 q2 v 0 qm a3 q3 H locs ls (hI) hP hD hS (lv_sub hl [0, 3, 4, 5, 6] rfl)

set_option maxHeartbeats 4000000 in
set_option maxRecDepth 100000 in
theorem LC_digest {p : Program} {l : Launch} {e : Env} {s : State} {m : MethodId} {below : List Frame} {meth : Method} {c : Code} {sb L : Nat} {xs : Nat → Int32} {D : va_G} {cA cL : ClassId} {sa : Nat → Nat} {z1 z2 : Nat} (C0 : LEnv p l s m c sb L xs D cA cL sa z1 z2) {Q : State → Prop} {x : Nat} {B F G : Nat → Nat} {o y : Nat} {E S T : Nat → Nat} {j : Nat} (hj : 5 * j + 5 ≤ L) (kk : LHead p l e s m below meth c sb D cA cL x B F G o y E S T Q (j + 1)) (b : BSt) (a : FSt) (c9 q : Nat → Int32) (a2 : FSt) (c2 q2 : Nat → Int32) (v : Nat → Int64) (th : Int32) (qm : Nat → Int32) (a3 : FSt) (q3 : Nat → Int32) (H : Heap) (locs : List Loc) (ls : Array Slot) (hI : LI b a c9) (hP : va_P D vwCl (wAll cA cL x B F G o y E S T b a c9 q a2 c2 q2 v th qm a3 q3) H) (hD : va_D (fun q : Nat => s.heap.size ≤ q) (wAll cA cL x B F G o y E S T b a c9 q a2 c2 q2 v th qm a3 q3)) (hS : va_S (fun q : Nat => s.heap.size ≤ q) s.heap H locs) (hl : lv_has ls 9 [(4, .int (nI (5 * j))), (0, .ref sb), (1, .ref x), (2, .ref y), (3, .ref o)]) : W p l e room_1 s m #[Value.ref sb] below meth c H locs (100 + 371 * j) (4000 + 3346 * j) Q (F0 m 1133 ls []) := by
  obtain ⟨hx, hb, hml, hown, hts, hE, hXL, hXS, hX, hbl, hlt, hL⟩ := id C0
  have hA : ∀ q : Nat, s.heap.size ≤ q → (fun q : Nat => s.heap.size ≤ q) q := fun _ h => h
  have hbA : ¬ (fun q : Nat => s.heap.size ≤ q) sb := Nat.not_le.mpr hbl
  have hL31 : L < 2 ^ 31 := by omega
  have hP : va_P D vwCl ([] ++ (wX cA x B F G b a c9 q a2 c2 q2 ++ (wO cL o v ++ wY cA y E S T th b a qm a3 q3))) H := by rw [List.nil_append, ← List.append_assoc]; exact hP
  have hD : va_D (fun q : Nat => s.heap.size ≤ q) ([] ++ (wX cA x B F G b a c9 q a2 c2 q2 ++ (wO cL o v ++ wY cA y E S T th b a qm a3 q3))) := by rw [List.nil_append, ← List.append_assoc]; exact hD
  refine lv_aload_n hx hb dL_law_1133 rfl (lv_at hl 2 rfl) ?_
  refine qVl (S := Unit) (As := []) (rest := []) (pre := []) (wc := wX cA x B F G b a c9 q a2 c2 q2) (suf := wO cL o v ++ wY cA y E S T th b a qm a3 q3) ⟨hx, hb, hml, hown, hts⟩ (K_X3_digest l D cA x B F G b a c9 q a2 c2 q2 H.size hI.1 hI.2.2.2.1 hI.2.2.1) (cwV 0 hts gL_law_X3_digest rfl rfl rfl (by decide +kernel) ⟨Nat.le_of_ble_eq_true rfl, Nat.le_of_ble_eq_true rfl⟩) hE hP hD hS hA X0.blind (fun _ _ _ => trivial) 0 3 rfl rfl rfl hl.1 rfl rfl (Nat.le_of_ble_eq_true rfl) dL_law_1134 ⟨by show _ ≤ 601024; omega, by show _ ≤ 7293034; omega⟩ (fun r1 _ H locs h1 hP hS => ?_)
  subst h1
  refine lv_aload_n hx hb dL_law_1137 rfl (lv_at hl 3 rfl) ?_
  rw [List.nil_append, ← List.append_assoc] at hP hD
  have hP : va_P D vwCl ((wX cA x B F G b a c9 q a2 c2 q2 ++ wO cL o v) ++ (wY cA y E S T th b a qm a3 q3 ++ [])) H := by rw [List.append_nil]; exact hP
  have hD : va_D (fun q : Nat => s.heap.size ≤ q) ((wX cA x B F G b a c9 q a2 c2 q2 ++ wO cL o v) ++ (wY cA y E S T th b a qm a3 q3 ++ [])) := by rw [List.append_nil]; exact hD
  refine bVl (S := Unit) (wB := fun (_ : Unit) => wY cA y E S T 0 b a qm a3 q3) (As := []) (rest := [.long (digA a b)]) (pre := (wX cA x B F G b a c9 q a2 c2 q2 ++ wO cL o v)) (wc := wY cA y E S T th b a qm a3 q3) (suf := []) ⟨hx, hb, hml, hown, hts⟩ (K_X5_digest l D cA y E S T th b a qm a3 q3 H.size hI.1 hI.2.2.2.2) (cwV 0 hts gL_law_X5_digest rfl rfl rfl (by decide +kernel) ⟨Nat.le_of_ble_eq_true rfl, Nat.le_of_ble_eq_true rfl⟩) hE hP hD hS hA (fun _ => rfl) X0.blind (fun _ _ _ => trivial) 0 5 rfl rfl rfl hl.1 rfl rfl (Nat.le_of_ble_eq_true rfl) dL_law_1138 ⟨by show _ ≤ 601024; omega, by show _ ≤ 7293034; omega⟩ (fun r2 _ H locs h2 hP hD hS => ?_)
  subst h2
  rw [List.append_nil] at hP hD
  refine W.lcmp hx hb dL_law_1141 ?_
  refine lv_if_eq (tgt := 1147) hx hb dL_law_1142 (by decide) (fun _ => ?_) (fun cf => absurd ((lg_cmp_eq _ _).mpr rfl) cf)
  refine lv_iinc (v := nI (5 * j + 5)) (lv' := [(4, .int (nI (5 * j + 5))), (0, .ref sb), (1, .ref x), (2, .ref y), (3, .ref o)]) hx hb dL_law_1147 hl (k := 0) rfl (nI_add (5 * j) 5) (by decide) rfl (fun ls hl => ?_)
  refine lv_goto (tgt := 23) hx hb dL_law_1150 (by decide) ?_
  refine W.widen (k := 100 + 371 * (j + 1)) (n := 4000 + 3346 * (j + 1)) (by omega) (by omega) ?_
  exact kk b a c9 q a2 c2 q2 v 0 qm a3 q3 H locs ls (hI) hP hD hS (lv_sub hl [0, 1, 2, 3, 4] rfl)
