set_option maxHeartbeats 4000000 in
set_option maxRecDepth 100000 in
theorem LC_setCurrent {p : Program} {l : Launch} {e : Env} {s : State} {m : MethodId} {below : List Frame} {meth : Method} {c : Code} {sb L : Nat} {xs : Nat → Int32} {D : va_G} {cA cL : ClassId} {sa : Nat → Nat} {z1 z2 : Nat} (C0 : LEnv p l s m c sb L xs D cA cL sa z1 z2) {Q : State → Prop} {x : Nat} {B F G : Nat → Nat} {o y : Nat} {E S T : Nat → Nat} {j : Nat} (hj : 5 * j + 5 ≤ L) (kk : LHead p l e s m below meth c sb D cA cL x B F G o y E S T Q (j + 1)) (b : BSt) (a : FSt) (c9 q : Nat → Int32) (a2 : FSt) (c2 q2 : Nat → Int32) (v : Nat → Int64) (th : Int32) (qm : Nat → Int32) (a3 : FSt) (q3 : Nat → Int32) (H : Heap) (locs : List Loc) (ls : Array Slot) (hI : LI b a c9) (hP : va_P D vwCl (wAll cA cL x B F G o y E S T b a c9 q a2 c2 q2 v th qm a3 q3) H) (hD : va_D (fun q : Nat => s.heap.size ≤ q) (wAll cA cL x B F G o y E S T b a c9 q a2 c2 q2 v th qm a3 q3)) (hS : va_S (fun q : Nat => s.heap.size ≤ q) s.heap H locs) (hl : lv_has ls 9 [(4, .int (nI (5 * j))), (0, .ref sb), (1, .ref x), (2, .ref y), (3, .ref o)]) : W p l e room_1 s m #[Value.ref sb] below meth c H locs (100 + 371 * j) (4000 + 3346 * j) Q (F0 m 120 ls []) := by
  obtain ⟨hx, hb, hml, hown, hts, hE, hXL, hXS, hX, hbl, hlt, hL⟩ := id C0
  have hA : ∀ q : Nat, s.heap.size ≤ q → (fun q : Nat => s.heap.size ≤ q) q := fun _ h => h
  have hbA : ¬ (fun q : Nat => s.heap.size ≤ q) sb := Nat.not_le.mpr hbl
  have hL31 : L < 2 ^ 31 := by omega
  obtain ⟨p0, hp0⟩ : ∃ z, xs (5 * j + 1) = z := ⟨_, rfl⟩
  obtain ⟨p1, hp1⟩ : ∃ z, xs (5 * j + 2) = z := ⟨_, rfl⟩
  have hP : va_P D vwCl ([] ++ ((wX cA x B F G b a c9 q a2 c2 q2 ++ wO cL o v) ++ wY cA y E S T th b a qm a3 q3)) H := hP
  have hD : va_D (fun q : Nat => s.heap.size ≤ q) ([] ++ ((wX cA x B F G b a c9 q a2 c2 q2 ++ wO cL o v) ++ wY cA y E S T th b a qm a3 q3)) := hD
  refine lv_aload_n hx hb dL_law_120 rfl (lv_at hl 2 rfl) ?_
  refine lv_aload_n hx hb dL_law_121 rfl (lv_at hl 1 rfl) ?_
  refine lv_iload hx hb dL_law_122 (lv_at hl 0 rfl) ?_
  refine lv_iconst (v := 1) hx hb dL_law_124 (by decide) ?_
  refine lv_iadd hx hb dL_law_125 ?_
  refine top_i (y := nI (5 * j + 1)) (nI_add (5 * j) 1) ?_
  refine sld hx hb hX hbl hbA hS (k := 5 * j + 1) (by omega) hL31 (v := p0) hp0 dL_law_126 ?_
  refine lv_aload_n hx hb dL_law_127 rfl (lv_at hl 1 rfl) ?_
  refine lv_iload hx hb dL_law_128 (lv_at hl 0 rfl) ?_
  refine lv_iconst (v := 2) hx hb dL_law_130 (by decide) ?_
  refine lv_iadd hx hb dL_law_131 ?_
  refine top_i (y := nI (5 * j + 2)) (nI_add (5 * j) 2) ?_
  refine sld hx hb hX hbl hbA hS (k := 5 * j + 2) (by omega) hL31 (v := p1) hp1 dL_law_132 ?_
  refine lv_aload_n hx hb dL_law_133 rfl (lv_at hl 4 rfl) ?_
  refine bSi (S := LU) (wB := fun (u : LU) => wXU cA x B F G u ++ wO cL o u.2.2.2.2.2.2.2) (As := [.ref x, .int p0, .int p1, .ref o]) (rest := []) (pre := []) (wc := (wX cA x B F G b a c9 q a2 c2 q2 ++ wO cL o v)) (suf := wY cA y E S T th b a qm a3 q3) ⟨hx, hb, hml, hown, hts⟩ (KL_setCurrent l hlt D cA cL sa x B F G o b a c9 q a2 c2 q2 v p0 p1 H.size hI) (vx_cwSW 4 hts gL_law_L_setCurrent rfl rfl rfl (by decide +kernel) ⟨Nat.le_of_ble_eq_true rfl, Nat.le_of_ble_eq_true rfl⟩) hE hP hD hS hA (fun _ => rfl) (LX.blind sa D cL _) (fun U hU hW => hXL.at hS hU hW (blk_free hD hS hA)) hl.1 rfl rfl (Nat.le_of_ble_eq_true rfl) dL_law_134 ⟨by show _ ≤ 601024; omega, by show _ ≤ 7293034; omega⟩ (fun r u H locs hu hP hD hS => ?_)
  obtain ⟨b1, a1, c1, q1, a21, c21, q21, v1⟩ := u
  obtain ⟨hr, hn4, hcr, hu0, hu1⟩ := hu
  have hcr : CRa a1 c1 := hcr
  have hu0 : cdCurrent p0 p1 = 0 → v1 0 = (nI (bCu b (p0.toNatClampNeg)) : Int32).toInt64 ∧ b1 = vCu b (up (bCu b) (p0.toNatClampNeg) (p1.toNatClampNeg)) ∧ a1 = a := hu0
  have hu1 : ¬ cdCurrent p0 p1 = 0 → b1 = b ∧ a1 = a := hu1
  subst hr
  rw [List.nil_append] at hP hD
  have hP : va_P D vwCl ((wX cA x B F G b1 a1 c1 q1 a21 c21 q21 ++ wO cL o v1) ++ (wY cA y E S T th b a qm a3 q3 ++ [])) H := by rw [List.append_nil]; exact hP
  have hD : va_D (fun q : Nat => s.heap.size ≤ q) ((wX cA x B F G b1 a1 c1 q1 a21 c21 q21 ++ wO cL o v1) ++ (wY cA y E S T th b a qm a3 q3 ++ [])) := by rw [List.append_nil]; exact hD
  refine lv_istore (lv' := [(5, .int (nI (cdCurrent p0 p1))), (4, .int (nI (5 * j))), (0, .ref sb), (1, .ref x), (2, .ref y), (3, .ref o)]) hx hb dL_law_137 hl (by decide) rfl (fun ls hl => ?_)
  refine lv_aload_n hx hb dL_law_139 rfl (lv_at hl 4 rfl) ?_
  refine lv_aload_n hx hb dL_law_140 rfl (lv_at hl 2 rfl) ?_
  refine lv_iload hx hb dL_law_141 (lv_at hl 1 rfl) ?_
  refine lv_iconst (v := 1) hx hb dL_law_143 (by decide) ?_
  refine lv_iadd hx hb dL_law_144 ?_
  refine top_i (y := nI (5 * j + 1)) (nI_add (5 * j) 1) ?_
  refine sld hx hb hX hbl hbA hS (k := 5 * j + 1) (by omega) hL31 (v := p0) hp0 dL_law_145 ?_
  refine lv_aload_n hx hb dL_law_146 rfl (lv_at hl 2 rfl) ?_
  refine lv_iload hx hb dL_law_147 (lv_at hl 1 rfl) ?_
  refine lv_iconst (v := 2) hx hb dL_law_149 (by decide) ?_
  refine lv_iadd hx hb dL_law_150 ?_
  refine top_i (y := nI (5 * j + 2)) (nI_add (5 * j) 2) ?_
  refine sld hx hb hX hbl hbA hS (k := 5 * j + 2) (by omega) hL31 (v := p1) hp1 dL_law_151 ?_
  refine bVi (S := BSt) (wB := fun (u : BSt) => wY cA y E S T (nI (cdCurrent p0 p1)) u a qm a3 q3) (As := [.int p0, .int p1]) (rest := []) (pre := (wX cA x B F G b1 a1 c1 q1 a21 c21 q21 ++ wO cL o v1)) (wc := wY cA y E S T th b a qm a3 q3) (suf := []) ⟨hx, hb, hml, hown, hts⟩ (K_X5_setCurrent l D cA y E S T th b a qm a3 q3 p0 p1 H.size ) (cwV 2 hts gL_law_X5_setCurrent rfl rfl rfl (by decide +kernel) ⟨Nat.le_of_ble_eq_true rfl, Nat.le_of_ble_eq_true rfl⟩) hE hP hD hS hA (fun _ => rfl) X0.blind (fun _ _ _ => trivial) 0 5 rfl rfl rfl hl.1 rfl rfl (Nat.le_of_ble_eq_true rfl) dL_law_152 ⟨by show _ ≤ 601024; omega, by show _ ≤ 7293034; omega⟩ (fun r2 u H locs hm hP hD hS => ?_)
  have hm0 : cdCurrent p0 p1 = 0 → r2 = nI (bCu b (p0.toNatClampNeg)) ∧ u = vCu b (up (bCu b) (p0.toNatClampNeg) (p1.toNatClampNeg)) := hm.1
  have hm1 : ¬ cdCurrent p0 p1 = 0 → u = b := fun h => (hm.2 h).2
  have hP : va_P D vwCl ((wX cA x B F G b1 a1 c1 q1 a21 c21 q21 ++ wO cL o v1) ++ (wY cA y E S T (nI (cdCurrent p0 p1)) u a qm a3 q3 ++ [])) H := hP
  have hD : va_D (fun q : Nat => s.heap.size ≤ q) ((wX cA x B F G b1 a1 c1 q1 a21 c21 q21 ++ wO cL o v1) ++ (wY cA y E S T (nI (cdCurrent p0 p1)) u a qm a3 q3 ++ [])) := hD
  refine lv_istore (lv' := [(6, .int r2), (5, .int (nI (cdCurrent p0 p1))), (4, .int (nI (5 * j))), (0, .ref sb), (1, .ref x), (2, .ref y), (3, .ref o)]) hx hb dL_law_155 hl (by decide) rfl (fun ls hl => ?_)
  refine lv_aload_n hx hb dL_law_157 rfl (lv_at hl 5 rfl) ?_
  refine qVi (S := Unit) (As := []) (rest := []) (pre := (wX cA x B F G b1 a1 c1 q1 a21 c21 q21 ++ wO cL o v1)) (wc := wY cA y E S T (nI (cdCurrent p0 p1)) u a qm a3 q3) (suf := []) ⟨hx, hb, hml, hown, hts⟩ (K_X5_thrown l D cA y E S T (nI (cdCurrent p0 p1)) u a qm a3 q3 H.size) (cwV 0 hts gL_law_X5_thrown rfl rfl rfl (by decide +kernel) ⟨Nat.le_of_ble_eq_true rfl, Nat.le_of_ble_eq_true rfl⟩) hE hP hD hS hA X0.blind (fun _ _ _ => trivial) 0 5 rfl rfl rfl hl.1 rfl rfl (Nat.le_of_ble_eq_true rfl) dL_law_158 ⟨by show _ ≤ 601024; omega, by show _ ≤ 7293034; omega⟩ (fun r3 _ H locs ht3 hP hS => ?_)
  subst ht3
  rw [List.append_nil] at hP hD
  refine lv_iload hx hb dL_law_161 (lv_at hl 1 rfl) ?_
  refine lv_icmp_eq (tgt := 168) hx hb dL_law_163 (by decide) (fun _ => ?_) (fun cf => absurd rfl cf)
  refine lv_iload hx hb dL_law_168 (lv_at hl 1 rfl) ?_
  refine lv_if_ne (tgt := 185) hx hb dL_law_170 (by decide) (fun ck => ?_) (fun ck => ?_)
  · skip
    have hn : ¬ cdCurrent p0 p1 = 0 := fun h => ck (by rw [h]; rfl)
    obtain ⟨e1, e2⟩ := hu1 hn
    have ey : wY cA y E S T (nI (cdCurrent p0 p1)) u a qm a3 q3 = wY cA y E S T (nI (cdCurrent p0 p1)) b1 a1 qm a3 q3 := by rw [e1, e2, hm1 hn]
    rw [ey] at hP hD
    refine lv_goto (tgt := 1147) hx hb dL_law_185 (by decide) ?_
    refine lv_iinc (v := nI (5 * j + 5)) (lv' := [(4, .int (nI (5 * j + 5))), (6, .int r2), (5, .int (nI (cdCurrent p0 p1))), (0, .ref sb), (1, .ref x), (2, .ref y), (3, .ref o)]) hx hb dL_law_1147 hl (k := 2) rfl (nI_add (5 * j) 5) (by decide) rfl (fun ls hl => ?_)
    refine lv_goto (tgt := 23) hx hb dL_law_1150 (by decide) ?_
    refine W.widen (k := 100 + 371 * (j + 1)) (n := 4000 + 3346 * (j + 1)) (by omega) (by omega) ?_
    exact kk b1 a1 c1 q1 a21 c21 q21 v1 (nI (cdCurrent p0 p1)) qm a3 q3 H locs ls (by rw [e1, e2]; rw [e2] at hcr; exact hI.crowd hcr) hP hD hS (lv_sub hl [0, 3, 4, 5, 6] rfl)
  · skip
    have h0 : cdCurrent p0 p1 = 0 := (nI_eq (a := cdCurrent p0 p1) (b := 0) (by omega) (by decide)).mp ck
    obtain ⟨hv, e1, e2⟩ := hu0 h0
    obtain ⟨e3, e4⟩ := hm0 h0
    have ey : wY cA y E S T (nI (cdCurrent p0 p1)) u a qm a3 q3 = wY cA y E S T (nI (cdCurrent p0 p1)) b1 a1 qm a3 q3 := by rw [e1, e2, e4]
    rw [ey] at hP hD
    refine lv_aload_n hx hb dL_law_173 rfl (lv_at hl 6 rfl) ?_
    refine lv_iconst (v := 0) hx hb dL_law_174 (by decide) ?_
    refine lldO hx hb hXL.2.1 hP dL_law_175 ?_
    refine lv_iload hx hb dL_law_176 (lv_at hl 0 rfl) ?_
    refine lv_i2l (v := r2.toInt64) hx hb dL_law_178 rfl ?_
    refine W.lcmp hx hb dL_law_179 ?_
    refine lv_if_eq (tgt := 185) hx hb dL_law_180 (by decide) (fun _ => ?_) (fun cf => absurd ((lg_cmp_eq _ _).mpr (by rw [hv, e3])) cf)
    refine lv_goto (tgt := 1147) hx hb dL_law_185 (by decide) ?_
    refine lv_iinc (v := nI (5 * j + 5)) (lv' := [(4, .int (nI (5 * j + 5))), (6, .int r2), (5, .int (nI (cdCurrent p0 p1))), (0, .ref sb), (1, .ref x), (2, .ref y), (3, .ref o)]) hx hb dL_law_1147 hl (k := 2) rfl (nI_add (5 * j) 5) (by decide) rfl (fun ls hl => ?_)
    refine lv_goto (tgt := 23) hx hb dL_law_1150 (by decide) ?_
    refine W.widen (k := 100 + 371 * (j + 1)) (n := 4000 + 3346 * (j + 1)) (by omega) (by omega) ?_
    exact kk b1 a1 c1 q1 a21 c21 q21 v1 (nI (cdCurrent p0 p1)) qm a3 q3 H locs ls (by rw [e2] at hcr; rw [e1, e2]; exact inv_setCurrent hI h0 hcr) hP hD hS (lv_sub hl [0, 3, 4, 5, 6] rfl)

set_option maxHeartbeats 4000000 in
set_option maxRecDepth 100000 in
theorem LC_weir {p : Program} {l : Launch} {e : Env} {s : State} {m : MethodId} {below : List Frame} {meth : Method} {c : Code} {sb L : Nat} {xs : Nat → Int32} {D : va_G} {cA cL : ClassId} {sa : Nat → Nat} {z1 z2 : Nat} (C0 : LEnv p l s m c sb L xs D cA cL sa z1 z2) {Q : State → Prop} {x : Nat} {B F G : Nat → Nat} {o y : Nat} {E S T : Nat → Nat} {j : Nat} (hj : 5 * j + 5 ≤ L) (kk : LHead p l e s m below meth c sb D cA cL x B F G o y E S T Q (j + 1)) (b : BSt) (a : FSt) (c9 q : Nat → Int32) (a2 : FSt) (c2 q2 : Nat → Int32) (v : Nat → Int64) (th : Int32) (qm : Nat → Int32) (a3 : FSt) (q3 : Nat → Int32) (H : Heap) (locs : List Loc) (ls : Array Slot) (hI : LI b a c9) (hP : va_P D vwCl (wAll cA cL x B F G o y E S T b a c9 q a2 c2 q2 v th qm a3 q3) H) (hD : va_D (fun q : Nat => s.heap.size ≤ q) (wAll cA cL x B F G o y E S T b a c9 q a2 c2 q2 v th qm a3 q3)) (hS : va_S (fun q : Nat => s.heap.size ≤ q) s.heap H locs) (hl : lv_has ls 9 [(4, .int (nI (5 * j))), (0, .ref sb), (1, .ref x), (2, .ref y), (3, .ref o)]) : W p l e room_1 s m #[Value.ref sb] below meth c H locs (100 + 371 * j) (4000 + 3346 * j) Q (F0 m 188 ls []) := by
  obtain ⟨hx, hb, hml, hown, hts, hE, hXL, hXS, hX, hbl, hlt, hL⟩ := id C0
  have hA : ∀ q : Nat, s.heap.size ≤ q → (fun q : Nat => s.heap.size ≤ q) q := fun _ h => h
  have hbA : ¬ (fun q : Nat => s.heap.size ≤ q) sb := Nat.not_le.mpr hbl
  have hL31 : L < 2 ^ 31 := by omega
  obtain ⟨p0, hp0⟩ : ∃ z, xs (5 * j + 1) = z := ⟨_, rfl⟩
  obtain ⟨p1, hp1⟩ : ∃ z, xs (5 * j + 2) = z := ⟨_, rfl⟩
  have hP : va_P D vwCl ([] ++ ((wX cA x B F G b a c9 q a2 c2 q2 ++ wO cL o v) ++ wY cA y E S T th b a qm a3 q3)) H := hP
  have hD : va_D (fun q : Nat => s.heap.size ≤ q) ([] ++ ((wX cA x B F G b a c9 q a2 c2 q2 ++ wO cL o v) ++ wY cA y E S T th b a qm a3 q3)) := hD
  refine lv_aload_n hx hb dL_law_188 rfl (lv_at hl 2 rfl) ?_
  refine lv_aload_n hx hb dL_law_189 rfl (lv_at hl 1 rfl) ?_
  refine lv_iload hx hb dL_law_190 (lv_at hl 0 rfl) ?_
  refine lv_iconst (v := 1) hx hb dL_law_192 (by decide) ?_
  refine lv_iadd hx hb dL_law_193 ?_
  refine top_i (y := nI (5 * j + 1)) (nI_add (5 * j) 1) ?_
  refine sld hx hb hX hbl hbA hS (k := 5 * j + 1) (by omega) hL31 (v := p0) hp0 dL_law_194 ?_
  refine lv_aload_n hx hb dL_law_195 rfl (lv_at hl 1 rfl) ?_
  refine lv_iload hx hb dL_law_196 (lv_at hl 0 rfl) ?_
  refine lv_iconst (v := 2) hx hb dL_law_198 (by decide) ?_
  refine lv_iadd hx hb dL_law_199 ?_
  refine top_i (y := nI (5 * j + 2)) (nI_add (5 * j) 2) ?_
  refine sld hx hb hX hbl hbA hS (k := 5 * j + 2) (by omega) hL31 (v := p1) hp1 dL_law_200 ?_
  refine lv_aload_n hx hb dL_law_201 rfl (lv_at hl 4 rfl) ?_
  refine bSi (S := LU) (wB := fun (u : LU) => wXU cA x B F G u ++ wO cL o u.2.2.2.2.2.2.2) (As := [.ref x, .int p0, .int p1, .ref o]) (rest := []) (pre := []) (wc := (wX cA x B F G b a c9 q a2 c2 q2 ++ wO cL o v)) (suf := wY cA y E S T th b a qm a3 q3) ⟨hx, hb, hml, hown, hts⟩ (KL_weir l hlt D cA cL sa x B F G o b a c9 q a2 c2 q2 v p0 p1 H.size hI) (vx_cwSW 4 hts gL_law_L_weir rfl rfl rfl (by decide +kernel) ⟨Nat.le_of_ble_eq_true rfl, Nat.le_of_ble_eq_true rfl⟩) hE hP hD hS hA (fun _ => rfl) (LX.blind sa D cL _) (fun U hU hW => hXL.at hS hU hW (blk_free hD hS hA)) hl.1 rfl rfl (Nat.le_of_ble_eq_true rfl) dL_law_202 ⟨by show _ ≤ 601024; omega, by show _ ≤ 7293034; omega⟩ (fun r u H locs hu hP hD hS => ?_)
  obtain ⟨b1, a1, c1, q1, a21, c21, q21, v1⟩ := u
  obtain ⟨hr, hn4, hcr, hu0, hu1⟩ := hu
  have hcr : CRa a1 c1 := hcr
  have hu0 : cdWeir b p0 p1 = 0 → v1 0 = (nI (bW b + 1) : Int32).toInt64 ∧ b1 = vW (vSp b (up (bSp b) (p0).toNatClampNeg p1)) (bW b + 1) ∧ a1 = a := hu0
  have hu1 : ¬ cdWeir b p0 p1 = 0 → b1 = b ∧ a1 = a := hu1
  subst hr
  rw [List.nil_append] at hP hD
  have hP : va_P D vwCl ((wX cA x B F G b1 a1 c1 q1 a21 c21 q21 ++ wO cL o v1) ++ (wY cA y E S T th b a qm a3 q3 ++ [])) H := by rw [List.append_nil]; exact hP
  have hD : va_D (fun q : Nat => s.heap.size ≤ q) ((wX cA x B F G b1 a1 c1 q1 a21 c21 q21 ++ wO cL o v1) ++ (wY cA y E S T th b a qm a3 q3 ++ [])) := by rw [List.append_nil]; exact hD
  refine lv_istore (lv' := [(5, .int (nI (cdWeir b p0 p1))), (4, .int (nI (5 * j))), (0, .ref sb), (1, .ref x), (2, .ref y), (3, .ref o)]) hx hb dL_law_205 hl (by decide) rfl (fun ls hl => ?_)
  refine lv_aload_n hx hb dL_law_207 rfl (lv_at hl 4 rfl) ?_
  refine lv_aload_n hx hb dL_law_208 rfl (lv_at hl 2 rfl) ?_
  refine lv_iload hx hb dL_law_209 (lv_at hl 1 rfl) ?_
  refine lv_iconst (v := 1) hx hb dL_law_211 (by decide) ?_
  refine lv_iadd hx hb dL_law_212 ?_
  refine top_i (y := nI (5 * j + 1)) (nI_add (5 * j) 1) ?_
  refine sld hx hb hX hbl hbA hS (k := 5 * j + 1) (by omega) hL31 (v := p0) hp0 dL_law_213 ?_
  refine lv_aload_n hx hb dL_law_214 rfl (lv_at hl 2 rfl) ?_
  refine lv_iload hx hb dL_law_215 (lv_at hl 1 rfl) ?_
  refine lv_iconst (v := 2) hx hb dL_law_217 (by decide) ?_
  refine lv_iadd hx hb dL_law_218 ?_
  refine top_i (y := nI (5 * j + 2)) (nI_add (5 * j) 2) ?_
  refine sld hx hb hX hbl hbA hS (k := 5 * j + 2) (by omega) hL31 (v := p1) hp1 dL_law_219 ?_
  refine bVi (S := BSt) (wB := fun (u : BSt) => wY cA y E S T (nI (cdWeir b p0 p1)) u a qm a3 q3) (As := [.int p0, .int p1]) (rest := []) (pre := (wX cA x B F G b1 a1 c1 q1 a21 c21 q21 ++ wO cL o v1)) (wc := wY cA y E S T th b a qm a3 q3) (suf := []) ⟨hx, hb, hml, hown, hts⟩ (K_X5_weir l D cA y E S T th b a qm a3 q3 p0 p1 H.size hI.2.1) (cwV 2 hts gL_law_X5_weir rfl rfl rfl (by decide +kernel) ⟨Nat.le_of_ble_eq_true rfl, Nat.le_of_ble_eq_true rfl⟩) hE hP hD hS hA (fun _ => rfl) X0.blind (fun _ _ _ => trivial) 0 5 rfl rfl rfl hl.1 rfl rfl (Nat.le_of_ble_eq_true rfl) dL_law_220 ⟨by show _ ≤ 601024; omega, by show _ ≤ 7293034; omega⟩ (fun r2 u H locs hm hP hD hS => ?_)
  have hm0 : cdWeir b p0 p1 = 0 → r2 = nI (bW b + 1) ∧ u = vW (vSp b (up (bSp b) (p0).toNatClampNeg p1)) (bW b + 1) := hm.1
  have hm1 : ¬ cdWeir b p0 p1 = 0 → u = b := fun h => (hm.2 h).2
  have hP : va_P D vwCl ((wX cA x B F G b1 a1 c1 q1 a21 c21 q21 ++ wO cL o v1) ++ (wY cA y E S T (nI (cdWeir b p0 p1)) u a qm a3 q3 ++ [])) H := hP
  have hD : va_D (fun q : Nat => s.heap.size ≤ q) ((wX cA x B F G b1 a1 c1 q1 a21 c21 q21 ++ wO cL o v1) ++ (wY cA y E S T (nI (cdWeir b p0 p1)) u a qm a3 q3 ++ [])) := hD
  refine lv_istore (lv' := [(6, .int r2), (5, .int (nI (cdWeir b p0 p1))), (4, .int (nI (5 * j))), (0, .ref sb), (1, .ref x), (2, .ref y), (3, .ref o)]) hx hb dL_law_223 hl (by decide) rfl (fun ls hl => ?_)
  refine lv_aload_n hx hb dL_law_225 rfl (lv_at hl 5 rfl) ?_
  refine qVi (S := Unit) (As := []) (rest := []) (pre := (wX cA x B F G b1 a1 c1 q1 a21 c21 q21 ++ wO cL o v1)) (wc := wY cA y E S T (nI (cdWeir b p0 p1)) u a qm a3 q3) (suf := []) ⟨hx, hb, hml, hown, hts⟩ (K_X5_thrown l D cA y E S T (nI (cdWeir b p0 p1)) u a qm a3 q3 H.size) (cwV 0 hts gL_law_X5_thrown rfl rfl rfl (by decide +kernel) ⟨Nat.le_of_ble_eq_true rfl, Nat.le_of_ble_eq_true rfl⟩) hE hP hD hS hA X0.blind (fun _ _ _ => trivial) 0 5 rfl rfl rfl hl.1 rfl rfl (Nat.le_of_ble_eq_true rfl) dL_law_226 ⟨by show _ ≤ 601024; omega, by show _ ≤ 7293034; omega⟩ (fun r3 _ H locs ht3 hP hS => ?_)
  subst ht3
  rw [List.append_nil] at hP hD
  refine lv_iload hx hb dL_law_229 (lv_at hl 1 rfl) ?_
  refine lv_icmp_eq (tgt := 236) hx hb dL_law_231 (by decide) (fun _ => ?_) (fun cf => absurd rfl cf)
  refine lv_iload hx hb dL_law_236 (lv_at hl 1 rfl) ?_
  refine lv_if_ne (tgt := 253) hx hb dL_law_238 (by decide) (fun ck => ?_) (fun ck => ?_)
  · skip
    have hn : ¬ cdWeir b p0 p1 = 0 := fun h => ck (by rw [h]; rfl)
    obtain ⟨e1, e2⟩ := hu1 hn
    have ey : wY cA y E S T (nI (cdWeir b p0 p1)) u a qm a3 q3 = wY cA y E S T (nI (cdWeir b p0 p1)) b1 a1 qm a3 q3 := by rw [e1, e2, hm1 hn]
    rw [ey] at hP hD
    refine lv_goto (tgt := 1147) hx hb dL_law_253 (by decide) ?_
    refine lv_iinc (v := nI (5 * j + 5)) (lv' := [(4, .int (nI (5 * j + 5))), (6, .int r2), (5, .int (nI (cdWeir b p0 p1))), (0, .ref sb), (1, .ref x), (2, .ref y), (3, .ref o)]) hx hb dL_law_1147 hl (k := 2) rfl (nI_add (5 * j) 5) (by decide) rfl (fun ls hl => ?_)
    refine lv_goto (tgt := 23) hx hb dL_law_1150 (by decide) ?_
    refine W.widen (k := 100 + 371 * (j + 1)) (n := 4000 + 3346 * (j + 1)) (by omega) (by omega) ?_
    exact kk b1 a1 c1 q1 a21 c21 q21 v1 (nI (cdWeir b p0 p1)) qm a3 q3 H locs ls (by rw [e1, e2]; rw [e2] at hcr; exact hI.crowd hcr) hP hD hS (lv_sub hl [0, 3, 4, 5, 6] rfl)
  · skip
    have h0 : cdWeir b p0 p1 = 0 := (nI_eq (a := cdWeir b p0 p1) (b := 0) (by omega) (by decide)).mp ck
    obtain ⟨hv, e1, e2⟩ := hu0 h0
    obtain ⟨e3, e4⟩ := hm0 h0
    have ey : wY cA y E S T (nI (cdWeir b p0 p1)) u a qm a3 q3 = wY cA y E S T (nI (cdWeir b p0 p1)) b1 a1 qm a3 q3 := by rw [e1, e2, e4]
    rw [ey] at hP hD
    refine lv_aload_n hx hb dL_law_241 rfl (lv_at hl 6 rfl) ?_
    refine lv_iconst (v := 0) hx hb dL_law_242 (by decide) ?_
    refine lldO hx hb hXL.2.1 hP dL_law_243 ?_
    refine lv_iload hx hb dL_law_244 (lv_at hl 0 rfl) ?_
    refine lv_i2l (v := r2.toInt64) hx hb dL_law_246 rfl ?_
    refine W.lcmp hx hb dL_law_247 ?_
    refine lv_if_eq (tgt := 253) hx hb dL_law_248 (by decide) (fun _ => ?_) (fun cf => absurd ((lg_cmp_eq _ _).mpr (by rw [hv, e3])) cf)
    refine lv_goto (tgt := 1147) hx hb dL_law_253 (by decide) ?_
    refine lv_iinc (v := nI (5 * j + 5)) (lv' := [(4, .int (nI (5 * j + 5))), (6, .int r2), (5, .int (nI (cdWeir b p0 p1))), (0, .ref sb), (1, .ref x), (2, .ref y), (3, .ref o)]) hx hb dL_law_1147 hl (k := 2) rfl (nI_add (5 * j) 5) (by decide) rfl (fun ls hl => ?_)
    refine lv_goto (tgt := 23) hx hb dL_law_1150 (by decide) ?_
    refine W.widen (k := 100 + 371 * (j + 1)) (n := 4000 + 3346 * (j + 1)) (by omega) (by omega) ?_
    exact kk b1 a1 c1 q1 a21 c21 q21 v1 (nI (cdWeir b p0 p1)) qm a3 q3 H locs ls (by rw [e2] at hcr; rw [e1, e2]; exact inv_weir hI h0 hcr) hP hD hS (lv_sub hl [0, 3, 4, 5, 6] rfl)

set_option maxHeartbeats 4000000 in
set_option maxRecDepth 100000 in
theorem LC_net {p : Program} {l : Launch} {e : Env} {s : State} {m : MethodId} {below : List Frame} {meth : Method} {c : Code} {sb L : Nat} {xs : Nat → Int32} {D : va_G} {cA cL : ClassId} {sa : Nat → Nat} {z1 z2 : Nat} (C0 : LEnv p l s m c sb L xs D cA cL sa z1 z2) {Q : State → Prop} {x : Nat} {B F G : Nat → Nat} {o y : Nat} {E S T : Nat → Nat} {j : Nat} (hj : 5 * j + 5 ≤ L) (kk : LHead p l e s m below meth c sb D cA cL x B F G o y E S T Q (j + 1)) (b : BSt) (a : FSt) (c9 q : Nat → Int32) (a2 : FSt) (c2 q2 : Nat → Int32) (v : Nat → Int64) (th : Int32) (qm : Nat → Int32) (a3 : FSt) (q3 : Nat → Int32) (H : Heap) (locs : List Loc) (ls : Array Slot) (hI : LI b a c9) (hP : va_P D vwCl (wAll cA cL x B F G o y E S T b a c9 q a2 c2 q2 v th qm a3 q3) H) (hD : va_D (fun q : Nat => s.heap.size ≤ q) (wAll cA cL x B F G o y E S T b a c9 q a2 c2 q2 v th qm a3 q3)) (hS : va_S (fun q : Nat => s.heap.size ≤ q) s.heap H locs) (hl : lv_has ls 9 [(4, .int (nI (5 * j))), (0, .ref sb), (1, .ref x), (2, .ref y), (3, .ref o)]) : W p l e room_1 s m #[Value.ref sb] below meth c H locs (100 + 371 * j) (4000 + 3346 * j) Q (F0 m 256 ls []) := by
  obtain ⟨hx, hb, hml, hown, hts, hE, hXL, hXS, hX, hbl, hlt, hL⟩ := id C0
  have hA : ∀ q : Nat, s.heap.size ≤ q → (fun q : Nat => s.heap.size ≤ q) q := fun _ h => h
  have hbA : ¬ (fun q : Nat => s.heap.size ≤ q) sb := Nat.not_le.mpr hbl
  have hL31 : L < 2 ^ 31 := by omega
  obtain ⟨p0, hp0⟩ : ∃ z, xs (5 * j + 1) = z := ⟨_, rfl⟩
  obtain ⟨p1, hp1⟩ : ∃ z, xs (5 * j + 2) = z := ⟨_, rfl⟩
  have hP : va_P D vwCl ([] ++ ((wX cA x B F G b a c9 q a2 c2 q2 ++ wO cL o v) ++ wY cA y E S T th b a qm a3 q3)) H := hP
  have hD : va_D (fun q : Nat => s.heap.size ≤ q) ([] ++ ((wX cA x B F G b a c9 q a2 c2 q2 ++ wO cL o v) ++ wY cA y E S T th b a qm a3 q3)) := hD
  refine lv_aload_n hx hb dL_law_256 rfl (lv_at hl 2 rfl) ?_
  refine lv_aload_n hx hb dL_law_257 rfl (lv_at hl 1 rfl) ?_
  refine lv_iload hx hb dL_law_258 (lv_at hl 0 rfl) ?_
  refine lv_iconst (v := 1) hx hb dL_law_260 (by decide) ?_
  refine lv_iadd hx hb dL_law_261 ?_
  refine top_i (y := nI (5 * j + 1)) (nI_add (5 * j) 1) ?_
  refine sld hx hb hX hbl hbA hS (k := 5 * j + 1) (by omega) hL31 (v := p0) hp0 dL_law_262 ?_
  refine lv_aload_n hx hb dL_law_263 rfl (lv_at hl 1 rfl) ?_
  refine lv_iload hx hb dL_law_264 (lv_at hl 0 rfl) ?_
  refine lv_iconst (v := 2) hx hb dL_law_266 (by decide) ?_
  refine lv_iadd hx hb dL_law_267 ?_
  refine top_i (y := nI (5 * j + 2)) (nI_add (5 * j) 2) ?_
  refine sld hx hb hX hbl hbA hS (k := 5 * j + 2) (by omega) hL31 (v := p1) hp1 dL_law_268 ?_
  refine lv_aload_n hx hb dL_law_269 rfl (lv_at hl 4 rfl) ?_
  refine bSi (S := LU) (wB := fun (u : LU) => wXU cA x B F G u ++ wO cL o u.2.2.2.2.2.2.2) (As := [.ref x, .int p0, .int p1, .ref o]) (rest := []) (pre := []) (wc := (wX cA x B F G b a c9 q a2 c2 q2 ++ wO cL o v)) (suf := wY cA y E S T th b a qm a3 q3) ⟨hx, hb, hml, hown, hts⟩ (KL_net l hlt D cA cL sa x B F G o b a c9 q a2 c2 q2 v p0 p1 H.size hI) (vx_cwSW 4 hts gL_law_L_net rfl rfl rfl (by decide +kernel) ⟨Nat.le_of_ble_eq_true rfl, Nat.le_of_ble_eq_true rfl⟩) hE hP hD hS hA (fun _ => rfl) (LX.blind sa D cL _) (fun U hU hW => hXL.at hS hU hW (blk_free hD hS hA)) hl.1 rfl rfl (Nat.le_of_ble_eq_true rfl) dL_law_270 ⟨by show _ ≤ 601024; omega, by show _ ≤ 7293034; omega⟩ (fun r u H locs hu hP hD hS => ?_)
  obtain ⟨b1, a1, c1, q1, a21, c21, q21, v1⟩ := u
  obtain ⟨hr, hn4, hcr, hu0, hu1⟩ := hu
  have hcr : CRa a1 c1 := hcr
  have hu0 : cdNet b p0 p1 = 0 → v1 0 = (nI (bK b + 1) : Int32).toInt64 ∧ b1 = vK (vNe b (up (bNe b) ((p0).toNatClampNeg * 60 + (p1).toNatClampNeg) true)) (bK b + 1) ∧ a1 = a := hu0
  have hu1 : ¬ cdNet b p0 p1 = 0 → b1 = b ∧ a1 = a := hu1
  subst hr
  rw [List.nil_append] at hP hD
  have hP : va_P D vwCl ((wX cA x B F G b1 a1 c1 q1 a21 c21 q21 ++ wO cL o v1) ++ (wY cA y E S T th b a qm a3 q3 ++ [])) H := by rw [List.append_nil]; exact hP
  have hD : va_D (fun q : Nat => s.heap.size ≤ q) ((wX cA x B F G b1 a1 c1 q1 a21 c21 q21 ++ wO cL o v1) ++ (wY cA y E S T th b a qm a3 q3 ++ [])) := by rw [List.append_nil]; exact hD
  refine lv_istore (lv' := [(5, .int (nI (cdNet b p0 p1))), (4, .int (nI (5 * j))), (0, .ref sb), (1, .ref x), (2, .ref y), (3, .ref o)]) hx hb dL_law_273 hl (by decide) rfl (fun ls hl => ?_)
  refine lv_aload_n hx hb dL_law_275 rfl (lv_at hl 4 rfl) ?_
  refine lv_aload_n hx hb dL_law_276 rfl (lv_at hl 2 rfl) ?_
  refine lv_iload hx hb dL_law_277 (lv_at hl 1 rfl) ?_
  refine lv_iconst (v := 1) hx hb dL_law_279 (by decide) ?_
  refine lv_iadd hx hb dL_law_280 ?_
  refine top_i (y := nI (5 * j + 1)) (nI_add (5 * j) 1) ?_
  refine sld hx hb hX hbl hbA hS (k := 5 * j + 1) (by omega) hL31 (v := p0) hp0 dL_law_281 ?_
  refine lv_aload_n hx hb dL_law_282 rfl (lv_at hl 2 rfl) ?_
  refine lv_iload hx hb dL_law_283 (lv_at hl 1 rfl) ?_
  refine lv_iconst (v := 2) hx hb dL_law_285 (by decide) ?_
  refine lv_iadd hx hb dL_law_286 ?_
  refine top_i (y := nI (5 * j + 2)) (nI_add (5 * j) 2) ?_
  refine sld hx hb hX hbl hbA hS (k := 5 * j + 2) (by omega) hL31 (v := p1) hp1 dL_law_287 ?_
  refine bVi (S := BSt) (wB := fun (u : BSt) => wY cA y E S T (nI (cdNet b p0 p1)) u a qm a3 q3) (As := [.int p0, .int p1]) (rest := []) (pre := (wX cA x B F G b1 a1 c1 q1 a21 c21 q21 ++ wO cL o v1)) (wc := wY cA y E S T th b a qm a3 q3) (suf := []) ⟨hx, hb, hml, hown, hts⟩ (K_X5_net l D cA y E S T th b a qm a3 q3 p0 p1 H.size hI.2.1) (cwV 2 hts gL_law_X5_net rfl rfl rfl (by decide +kernel) ⟨Nat.le_of_ble_eq_true rfl, Nat.le_of_ble_eq_true rfl⟩) hE hP hD hS hA (fun _ => rfl) X0.blind (fun _ _ _ => trivial) 0 5 rfl rfl rfl hl.1 rfl rfl (Nat.le_of_ble_eq_true rfl) dL_law_288 ⟨by show _ ≤ 601024; omega, by show _ ≤ 7293034; omega⟩ (fun r2 u H locs hm hP hD hS => ?_)
  have hm0 : cdNet b p0 p1 = 0 → r2 = nI (bK b + 1) ∧ u = vK (vNe b (up (bNe b) ((p0).toNatClampNeg * 60 + (p1).toNatClampNeg) true)) (bK b + 1) := hm.1
  have hm1 : ¬ cdNet b p0 p1 = 0 → u = b := fun h => (hm.2 h).2
  have hP : va_P D vwCl ((wX cA x B F G b1 a1 c1 q1 a21 c21 q21 ++ wO cL o v1) ++ (wY cA y E S T (nI (cdNet b p0 p1)) u a qm a3 q3 ++ [])) H := hP
  have hD : va_D (fun q : Nat => s.heap.size ≤ q) ((wX cA x B F G b1 a1 c1 q1 a21 c21 q21 ++ wO cL o v1) ++ (wY cA y E S T (nI (cdNet b p0 p1)) u a qm a3 q3 ++ [])) := hD
  refine lv_istore (lv' := [(6, .int r2), (5, .int (nI (cdNet b p0 p1))), (4, .int (nI (5 * j))), (0, .ref sb), (1, .ref x), (2, .ref y), (3, .ref o)]) hx hb dL_law_291 hl (by decide) rfl (fun ls hl => ?_)
  refine lv_aload_n hx hb dL_law_293 rfl (lv_at hl 5 rfl) ?_
  refine qVi (S := Unit) (As := []) (rest := []) (pre := (wX cA x B F G b1 a1 c1 q1 a21 c21 q21 ++ wO cL o v1)) (wc := wY cA y E S T (nI (cdNet b p0 p1)) u a qm a3 q3) (suf := []) ⟨hx, hb, hml, hown, hts⟩ (K_X5_thrown l D cA y E S T (nI (cdNet b p0 p1)) u a qm a3 q3 H.size) (cwV 0 hts gL_law_X5_thrown rfl rfl rfl (by decide +kernel) ⟨Nat.le_of_ble_eq_true rfl, Nat.le_of_ble_eq_true rfl⟩) hE hP hD hS hA X0.blind (fun _ _ _ => trivial) 0 5 rfl rfl rfl hl.1 rfl rfl (Nat.le_of_ble_eq_true rfl) dL_law_294 ⟨by show _ ≤ 601024; omega, by show _ ≤ 7293034; omega⟩ (fun r3 _ H locs ht3 hP hS => ?_)
  subst ht3
  rw [List.append_nil] at hP hD
  refine lv_iload hx hb dL_law_297 (lv_at hl 1 rfl) ?_
  refine lv_icmp_eq (tgt := 304) hx hb dL_law_299 (by decide) (fun _ => ?_) (fun cf => absurd rfl cf)
  refine lv_iload hx hb dL_law_304 (lv_at hl 1 rfl) ?_
  refine lv_if_ne (tgt := 321) hx hb dL_law_306 (by decide) (fun ck => ?_) (fun ck => ?_)
  · skip
    have hn : ¬ cdNet b p0 p1 = 0 := fun h => ck (by rw [h]; rfl)
    obtain ⟨e1, e2⟩ := hu1 hn
    have ey : wY cA y E S T (nI (cdNet b p0 p1)) u a qm a3 q3 = wY cA y E S T (nI (cdNet b p0 p1)) b1 a1 qm a3 q3 := by rw [e1, e2, hm1 hn]
    rw [ey] at hP hD
    refine lv_goto (tgt := 1147) hx hb dL_law_321 (by decide) ?_
    refine lv_iinc (v := nI (5 * j + 5)) (lv' := [(4, .int (nI (5 * j + 5))), (6, .int r2), (5, .int (nI (cdNet b p0 p1))), (0, .ref sb), (1, .ref x), (2, .ref y), (3, .ref o)]) hx hb dL_law_1147 hl (k := 2) rfl (nI_add (5 * j) 5) (by decide) rfl (fun ls hl => ?_)
    refine lv_goto (tgt := 23) hx hb dL_law_1150 (by decide) ?_
    refine W.widen (k := 100 + 371 * (j + 1)) (n := 4000 + 3346 * (j + 1)) (by omega) (by omega) ?_
    exact kk b1 a1 c1 q1 a21 c21 q21 v1 (nI (cdNet b p0 p1)) qm a3 q3 H locs ls (by rw [e1, e2]; rw [e2] at hcr; exact hI.crowd hcr) hP hD hS (lv_sub hl [0, 3, 4, 5, 6] rfl)
  · skip
    have h0 : cdNet b p0 p1 = 0 := (nI_eq (a := cdNet b p0 p1) (b := 0) (by omega) (by decide)).mp ck
    obtain ⟨hv, e1, e2⟩ := hu0 h0
    obtain ⟨e3, e4⟩ := hm0 h0
    have ey : wY cA y E S T (nI (cdNet b p0 p1)) u a qm a3 q3 = wY cA y E S T (nI (cdNet b p0 p1)) b1 a1 qm a3 q3 := by rw [e1, e2, e4]
    rw [ey] at hP hD
    refine lv_aload_n hx hb dL_law_309 rfl (lv_at hl 6 rfl) ?_
    refine lv_iconst (v := 0) hx hb dL_law_310 (by decide) ?_
    refine lldO hx hb hXL.2.1 hP dL_law_311 ?_
    refine lv_iload hx hb dL_law_312 (lv_at hl 0 rfl) ?_
    refine lv_i2l (v := r2.toInt64) hx hb dL_law_314 rfl ?_
    refine W.lcmp hx hb dL_law_315 ?_
    refine lv_if_eq (tgt := 321) hx hb dL_law_316 (by decide) (fun _ => ?_) (fun cf => absurd ((lg_cmp_eq _ _).mpr (by rw [hv, e3])) cf)
    refine lv_goto (tgt := 1147) hx hb dL_law_321 (by decide) ?_
    refine lv_iinc (v := nI (5 * j + 5)) (lv' := [(4, .int (nI (5 * j + 5))), (6, .int r2), (5, .int (nI (cdNet b p0 p1))), (0, .ref sb), (1, .ref x), (2, .ref y), (3, .ref o)]) hx hb dL_law_1147 hl (k := 2) rfl (nI_add (5 * j) 5) (by decide) rfl (fun ls hl => ?_)
    refine lv_goto (tgt := 23) hx hb dL_law_1150 (by decide) ?_
    refine W.widen (k := 100 + 371 * (j + 1)) (n := 4000 + 3346 * (j + 1)) (by omega) (by omega) ?_
    exact kk b1 a1 c1 q1 a21 c21 q21 v1 (nI (cdNet b p0 p1)) qm a3 q3 H locs ls (by rw [e2] at hcr; rw [e1, e2]; exact inv_net hI h0 hcr) hP hD hS (lv_sub hl [0, 3, 4, 5, 6] rfl)

set_option maxHeartbeats 4000000 in
set_option maxRecDepth 100000 in
theorem LC_river {p : Program} {l : Launch} {e : Env} {s : State} {m : MethodId} {below : List Frame} {meth : Method} {c : Code} {sb L : Nat} {xs : Nat → Int32} {D : va_G} {cA cL : ClassId} {sa : Nat → Nat} {z1 z2 : Nat} (C0 : LEnv p l s m c sb L xs D cA cL sa z1 z2) {Q : State → Prop} {x : Nat} {B F G : Nat → Nat} {o y : Nat} {E S T : Nat → Nat} {j : Nat} (hj : 5 * j + 5 ≤ L) (kk : LHead p l e s m below meth c sb D cA cL x B F G o y E S T Q (j + 1)) (b : BSt) (a : FSt) (c9 q : Nat → Int32) (a2 : FSt) (c2 q2 : Nat → Int32) (v : Nat → Int64) (th : Int32) (qm : Nat → Int32) (a3 : FSt) (q3 : Nat → Int32) (H : Heap) (locs : List Loc) (ls : Array Slot) (hI : LI b a c9) (hP : va_P D vwCl (wAll cA cL x B F G o y E S T b a c9 q a2 c2 q2 v th qm a3 q3) H) (hD : va_D (fun q : Nat => s.heap.size ≤ q) (wAll cA cL x B F G o y E S T b a c9 q a2 c2 q2 v th qm a3 q3)) (hS : va_S (fun q : Nat => s.heap.size ≤ q) s.heap H locs) (hl : lv_has ls 9 [(4, .int (nI (5 * j))), (0, .ref sb), (1, .ref x), (2, .ref y), (3, .ref o)]) : W p l e room_1 s m #[Value.ref sb] below meth c H locs (100 + 371 * j) (4000 + 3346 * j) Q (F0 m 324 ls []) := by
  obtain ⟨hx, hb, hml, hown, hts, hE, hXL, hXS, hX, hbl, hlt, hL⟩ := id C0
  have hA : ∀ q : Nat, s.heap.size ≤ q → (fun q : Nat => s.heap.size ≤ q) q := fun _ h => h
  have hbA : ¬ (fun q : Nat => s.heap.size ≤ q) sb := Nat.not_le.mpr hbl
  have hL31 : L < 2 ^ 31 := by omega
  obtain ⟨p0, hp0⟩ : ∃ z, xs (5 * j + 1) = z := ⟨_, rfl⟩
  obtain ⟨p1, hp1⟩ : ∃ z, xs (5 * j + 2) = z := ⟨_, rfl⟩
  obtain ⟨p2, hp2⟩ : ∃ z, xs (5 * j + 3) = z := ⟨_, rfl⟩
  have hP : va_P D vwCl ([] ++ ((wX cA x B F G b a c9 q a2 c2 q2 ++ wO cL o v) ++ wY cA y E S T th b a qm a3 q3)) H := hP
  have hD : va_D (fun q : Nat => s.heap.size ≤ q) ([] ++ ((wX cA x B F G b a c9 q a2 c2 q2 ++ wO cL o v) ++ wY cA y E S T th b a qm a3 q3)) := hD
  refine lv_aload_n hx hb dL_law_324 rfl (lv_at hl 2 rfl) ?_
  refine lv_aload_n hx hb dL_law_325 rfl (lv_at hl 1 rfl) ?_
  refine lv_iload hx hb dL_law_326 (lv_at hl 0 rfl) ?_
  refine lv_iconst (v := 1) hx hb dL_law_328 (by decide) ?_
  refine lv_iadd hx hb dL_law_329 ?_
  refine top_i (y := nI (5 * j + 1)) (nI_add (5 * j) 1) ?_
  refine sld hx hb hX hbl hbA hS (k := 5 * j + 1) (by omega) hL31 (v := p0) hp0 dL_law_330 ?_
  refine lv_aload_n hx hb dL_law_331 rfl (lv_at hl 1 rfl) ?_
  refine lv_iload hx hb dL_law_332 (lv_at hl 0 rfl) ?_
  refine lv_iconst (v := 2) hx hb dL_law_334 (by decide) ?_
  refine lv_iadd hx hb dL_law_335 ?_
  refine top_i (y := nI (5 * j + 2)) (nI_add (5 * j) 2) ?_
  refine sld hx hb hX hbl hbA hS (k := 5 * j + 2) (by omega) hL31 (v := p1) hp1 dL_law_336 ?_
  refine lv_aload_n hx hb dL_law_337 rfl (lv_at hl 1 rfl) ?_
  refine lv_iload hx hb dL_law_338 (lv_at hl 0 rfl) ?_
  refine lv_iconst (v := 3) hx hb dL_law_340 (by decide) ?_
  refine lv_iadd hx hb dL_law_341 ?_
  refine top_i (y := nI (5 * j + 3)) (nI_add (5 * j) 3) ?_
  refine sld hx hb hX hbl hbA hS (k := 5 * j + 3) (by omega) hL31 (v := p2) hp2 dL_law_342 ?_
  refine lv_aload_n hx hb dL_law_343 rfl (lv_at hl 4 rfl) ?_
  refine bSi (S := LU) (wB := fun (u : LU) => wXU cA x B F G u ++ wO cL o u.2.2.2.2.2.2.2) (As := [.ref x, .int p0, .int p1, .int p2, .ref o]) (rest := []) (pre := []) (wc := (wX cA x B F G b a c9 q a2 c2 q2 ++ wO cL o v)) (suf := wY cA y E S T th b a qm a3 q3) ⟨hx, hb, hml, hown, hts⟩ (KL_river l hlt D cA cL sa x B F G o b a c9 q a2 c2 q2 v p0 p1 p2 H.size hI) (vx_cwSW 5 hts gL_law_L_river rfl rfl rfl (by decide +kernel) ⟨Nat.le_of_ble_eq_true rfl, Nat.le_of_ble_eq_true rfl⟩) hE hP hD hS hA (fun _ => rfl) (LX.blind sa D cL _) (fun U hU hW => hXL.at hS hU hW (blk_free hD hS hA)) hl.1 rfl rfl (Nat.le_of_ble_eq_true rfl) dL_law_344 ⟨by show _ ≤ 601024; omega, by show _ ≤ 7293034; omega⟩ (fun r u H locs hu hP hD hS => ?_)
  obtain ⟨b1, a1, c1, q1, a21, c21, q21, v1⟩ := u
  obtain ⟨hr, hn4, hcr, hu0, hu1⟩ := hu
  have hcr : CRa a1 c1 := hcr
  have hu0 : cdRiver p0 p1 p2 = 0 → v1 0 = (riverA a b (p0).toNatClampNeg (p1).toNatClampNeg (p2).toNatClampNeg : Int32).toInt64 ∧ b1 = b ∧ a1 = a := hu0
  have hu1 : ¬ cdRiver p0 p1 p2 = 0 → b1 = b ∧ a1 = a := hu1
  subst hr
  rw [List.nil_append] at hP hD
  have hP : va_P D vwCl ((wX cA x B F G b1 a1 c1 q1 a21 c21 q21 ++ wO cL o v1) ++ (wY cA y E S T th b a qm a3 q3 ++ [])) H := by rw [List.append_nil]; exact hP
  have hD : va_D (fun q : Nat => s.heap.size ≤ q) ((wX cA x B F G b1 a1 c1 q1 a21 c21 q21 ++ wO cL o v1) ++ (wY cA y E S T th b a qm a3 q3 ++ [])) := by rw [List.append_nil]; exact hD
  refine lv_istore (lv' := [(5, .int (nI (cdRiver p0 p1 p2))), (4, .int (nI (5 * j))), (0, .ref sb), (1, .ref x), (2, .ref y), (3, .ref o)]) hx hb dL_law_347 hl (by decide) rfl (fun ls hl => ?_)
  refine lv_aload_n hx hb dL_law_349 rfl (lv_at hl 4 rfl) ?_
  refine lv_aload_n hx hb dL_law_350 rfl (lv_at hl 2 rfl) ?_
  refine lv_iload hx hb dL_law_351 (lv_at hl 1 rfl) ?_
  refine lv_iconst (v := 1) hx hb dL_law_353 (by decide) ?_
  refine lv_iadd hx hb dL_law_354 ?_
  refine top_i (y := nI (5 * j + 1)) (nI_add (5 * j) 1) ?_
  refine sld hx hb hX hbl hbA hS (k := 5 * j + 1) (by omega) hL31 (v := p0) hp0 dL_law_355 ?_
  refine lv_aload_n hx hb dL_law_356 rfl (lv_at hl 2 rfl) ?_
  refine lv_iload hx hb dL_law_357 (lv_at hl 1 rfl) ?_
  refine lv_iconst (v := 2) hx hb dL_law_359 (by decide) ?_
  refine lv_iadd hx hb dL_law_360 ?_
  refine top_i (y := nI (5 * j + 2)) (nI_add (5 * j) 2) ?_
  refine sld hx hb hX hbl hbA hS (k := 5 * j + 2) (by omega) hL31 (v := p1) hp1 dL_law_361 ?_
  refine lv_aload_n hx hb dL_law_362 rfl (lv_at hl 2 rfl) ?_
  refine lv_iload hx hb dL_law_363 (lv_at hl 1 rfl) ?_
  refine lv_iconst (v := 3) hx hb dL_law_365 (by decide) ?_
  refine lv_iadd hx hb dL_law_366 ?_
  refine top_i (y := nI (5 * j + 3)) (nI_add (5 * j) 3) ?_
  refine sld hx hb hX hbl hbA hS (k := 5 * j + 3) (by omega) hL31 (v := p2) hp2 dL_law_367 ?_
  refine bVi (S := Unit) (wB := fun (u : Unit) => wY cA y E S T (nI (cdRiver p0 p1 p2)) b a qm a3 q3) (As := [.int p0, .int p1, .int p2]) (rest := []) (pre := (wX cA x B F G b1 a1 c1 q1 a21 c21 q21 ++ wO cL o v1)) (wc := wY cA y E S T th b a qm a3 q3) (suf := []) ⟨hx, hb, hml, hown, hts⟩ (K_X5_river l D cA y E S T th b a qm a3 q3 p0 p1 p2 H.size hI.1) (cwV 3 hts gL_law_X5_river rfl rfl rfl (by decide +kernel) ⟨Nat.le_of_ble_eq_true rfl, Nat.le_of_ble_eq_true rfl⟩) hE hP hD hS hA (fun _ => rfl) X0.blind (fun _ _ _ => trivial) 0 5 rfl rfl rfl hl.1 rfl rfl (Nat.le_of_ble_eq_true rfl) dL_law_368 ⟨by show _ ≤ 601024; omega, by show _ ≤ 7293034; omega⟩ (fun r2 u H locs hm hP hD hS => ?_)
  have hm0 : cdRiver p0 p1 p2 = 0 → r2 = riverA a b (p0).toNatClampNeg (p1).toNatClampNeg (p2).toNatClampNeg := fun h => (hm.1 h).1
  have hP : va_P D vwCl ((wX cA x B F G b1 a1 c1 q1 a21 c21 q21 ++ wO cL o v1) ++ (wY cA y E S T (nI (cdRiver p0 p1 p2)) b a qm a3 q3 ++ [])) H := hP
  have hD : va_D (fun q : Nat => s.heap.size ≤ q) ((wX cA x B F G b1 a1 c1 q1 a21 c21 q21 ++ wO cL o v1) ++ (wY cA y E S T (nI (cdRiver p0 p1 p2)) b a qm a3 q3 ++ [])) := hD
  refine lv_istore (lv' := [(6, .int r2), (5, .int (nI (cdRiver p0 p1 p2))), (4, .int (nI (5 * j))), (0, .ref sb), (1, .ref x), (2, .ref y), (3, .ref o)]) hx hb dL_law_371 hl (by decide) rfl (fun ls hl => ?_)
  refine lv_aload_n hx hb dL_law_373 rfl (lv_at hl 5 rfl) ?_
  refine qVi (S := Unit) (As := []) (rest := []) (pre := (wX cA x B F G b1 a1 c1 q1 a21 c21 q21 ++ wO cL o v1)) (wc := wY cA y E S T (nI (cdRiver p0 p1 p2)) b a qm a3 q3) (suf := []) ⟨hx, hb, hml, hown, hts⟩ (K_X5_thrown l D cA y E S T (nI (cdRiver p0 p1 p2)) b a qm a3 q3 H.size) (cwV 0 hts gL_law_X5_thrown rfl rfl rfl (by decide +kernel) ⟨Nat.le_of_ble_eq_true rfl, Nat.le_of_ble_eq_true rfl⟩) hE hP hD hS hA X0.blind (fun _ _ _ => trivial) 0 5 rfl rfl rfl hl.1 rfl rfl (Nat.le_of_ble_eq_true rfl) dL_law_374 ⟨by show _ ≤ 601024; omega, by show _ ≤ 7293034; omega⟩ (fun r3 _ H locs ht3 hP hS => ?_)
  subst ht3
  rw [List.append_nil] at hP hD
  refine lv_iload hx hb dL_law_377 (lv_at hl 1 rfl) ?_
  refine lv_icmp_eq (tgt := 384) hx hb dL_law_379 (by decide) (fun _ => ?_) (fun cf => absurd rfl cf)
  refine lv_iload hx hb dL_law_384 (lv_at hl 1 rfl) ?_
  refine lv_if_ne (tgt := 401) hx hb dL_law_386 (by decide) (fun ck => ?_) (fun ck => ?_)
  · skip
    have hn : ¬ cdRiver p0 p1 p2 = 0 := fun h => ck (by rw [h]; rfl)
    obtain ⟨e1, e2⟩ := hu1 hn
    have ey : wY cA y E S T (nI (cdRiver p0 p1 p2)) b a qm a3 q3 = wY cA y E S T (nI (cdRiver p0 p1 p2)) b1 a1 qm a3 q3 := by rw [e1, e2]
    rw [ey] at hP hD
    refine lv_goto (tgt := 1147) hx hb dL_law_401 (by decide) ?_
    refine lv_iinc (v := nI (5 * j + 5)) (lv' := [(4, .int (nI (5 * j + 5))), (6, .int r2), (5, .int (nI (cdRiver p0 p1 p2))), (0, .ref sb), (1, .ref x), (2, .ref y), (3, .ref o)]) hx hb dL_law_1147 hl (k := 2) rfl (nI_add (5 * j) 5) (by decide) rfl (fun ls hl => ?_)
    refine lv_goto (tgt := 23) hx hb dL_law_1150 (by decide) ?_
    refine W.widen (k := 100 + 371 * (j + 1)) (n := 4000 + 3346 * (j + 1)) (by omega) (by omega) ?_
    exact kk b1 a1 c1 q1 a21 c21 q21 v1 (nI (cdRiver p0 p1 p2)) qm a3 q3 H locs ls (by rw [e1, e2]; rw [e2] at hcr; exact hI.crowd hcr) hP hD hS (lv_sub hl [0, 3, 4, 5, 6] rfl)
  · skip
    have h0 : cdRiver p0 p1 p2 = 0 := (nI_eq (a := cdRiver p0 p1 p2) (b := 0) (by omega) (by decide)).mp ck
    obtain ⟨hv, e1, e2⟩ := hu0 h0
    have e3 := hm0 h0
    have ey : wY cA y E S T (nI (cdRiver p0 p1 p2)) b a qm a3 q3 = wY cA y E S T (nI (cdRiver p0 p1 p2)) b1 a1 qm a3 q3 := by rw [e1, e2]
    rw [ey] at hP hD
    refine lv_aload_n hx hb dL_law_389 rfl (lv_at hl 6 rfl) ?_
    refine lv_iconst (v := 0) hx hb dL_law_390 (by decide) ?_
    refine lldO hx hb hXL.2.1 hP dL_law_391 ?_
    refine lv_iload hx hb dL_law_392 (lv_at hl 0 rfl) ?_
    refine lv_i2l (v := r2.toInt64) hx hb dL_law_394 rfl ?_
    refine W.lcmp hx hb dL_law_395 ?_
    refine lv_if_eq (tgt := 401) hx hb dL_law_396 (by decide) (fun _ => ?_) (fun cf => absurd ((lg_cmp_eq _ _).mpr (by rw [hv, e3])) cf)
    refine lv_goto (tgt := 1147) hx hb dL_law_401 (by decide) ?_
    refine lv_iinc (v := nI (5 * j + 5)) (lv' := [(4, .int (nI (5 * j + 5))), (6, .int r2), (5, .int (nI (cdRiver p0 p1 p2))), (0, .ref sb), (1, .ref x), (2, .ref y), (3, .ref o)]) hx hb dL_law_1147 hl (k := 2) rfl (nI_add (5 * j) 5) (by decide) rfl (fun ls hl => ?_)
    refine lv_goto (tgt := 23) hx hb dL_law_1150 (by decide) ?_
    refine W.widen (k := 100 + 371 * (j + 1)) (n := 4000 + 3346 * (j + 1)) (by omega) (by omega) ?_
    exact kk b1 a1 c1 q1 a21 c21 q21 v1 (nI (cdRiver p0 p1 p2)) qm a3 q3 H locs ls (by rw [e2] at hcr; rw [e1, e2]; exact hI.crowd hcr) hP hD hS (lv_sub hl [0, 3, 4, 5, 6] rfl)

set_option maxHeartbeats 4000000 in
set_option maxRecDepth 100000 in
theorem LC_launch {p : Program} {l : Launch} {e : Env} {s : State} {m : MethodId} {below : List Frame} {meth : Method} {c : Code} {sb L : Nat} {xs : Nat → Int32} {D : va_G} {cA cL : ClassId} {sa : Nat → Nat} {z1 z2 : Nat} (C0 : LEnv p l s m c sb L xs D cA cL sa z1 z2) {Q : State → Prop} {x : Nat} {B F G : Nat → Nat} {o y : Nat} {E S T : Nat → Nat} {j : Nat} (hj : 5 * j + 5 ≤ L) (kk : LHead p l e s m below meth c sb D cA cL x B F G o y E S T Q (j + 1)) (b : BSt) (a : FSt) (c9 q : Nat → Int32) (a2 : FSt) (c2 q2 : Nat → Int32) (v : Nat → Int64) (th : Int32) (qm : Nat → Int32) (a3 : FSt) (q3 : Nat → Int32) (H : Heap) (locs : List Loc) (ls : Array Slot) (hI : LI b a c9) (hP : va_P D vwCl (wAll cA cL x B F G o y E S T b a c9 q a2 c2 q2 v th qm a3 q3) H) (hD : va_D (fun q : Nat => s.heap.size ≤ q) (wAll cA cL x B F G o y E S T b a c9 q a2 c2 q2 v th qm a3 q3)) (hS : va_S (fun q : Nat => s.heap.size ≤ q) s.heap H locs) (hl : lv_has ls 9 [(4, .int (nI (5 * j))), (0, .ref sb), (1, .ref x), (2, .ref y), (3, .ref o)]) : W p l e room_1 s m #[Value.ref sb] below meth c H locs (100 + 371 * j) (4000 + 3346 * j) Q (F0 m 404 ls []) := by
  obtain ⟨hx, hb, hml, hown, hts, hE, hXL, hXS, hX, hbl, hlt, hL⟩ := id C0
  have hA : ∀ q : Nat, s.heap.size ≤ q → (fun q : Nat => s.heap.size ≤ q) q := fun _ h => h
  have hbA : ¬ (fun q : Nat => s.heap.size ≤ q) sb := Nat.not_le.mpr hbl
  have hL31 : L < 2 ^ 31 := by omega
  obtain ⟨p0, hp0⟩ : ∃ z, xs (5 * j + 1) = z := ⟨_, rfl⟩
  obtain ⟨p1, hp1⟩ : ∃ z, xs (5 * j + 2) = z := ⟨_, rfl⟩
  obtain ⟨p2, hp2⟩ : ∃ z, xs (5 * j + 3) = z := ⟨_, rfl⟩
  obtain ⟨p3, hp3⟩ : ∃ z, xs (5 * j + 4) = z := ⟨_, rfl⟩
  have hP : va_P D vwCl ([] ++ ((wX cA x B F G b a c9 q a2 c2 q2 ++ wO cL o v) ++ wY cA y E S T th b a qm a3 q3)) H := hP
  have hD : va_D (fun q : Nat => s.heap.size ≤ q) ([] ++ ((wX cA x B F G b a c9 q a2 c2 q2 ++ wO cL o v) ++ wY cA y E S T th b a qm a3 q3)) := hD
  refine lv_aload_n hx hb dL_law_404 rfl (lv_at hl 2 rfl) ?_
  refine lv_aload_n hx hb dL_law_405 rfl (lv_at hl 1 rfl) ?_
  refine lv_iload hx hb dL_law_406 (lv_at hl 0 rfl) ?_
  refine lv_iconst (v := 1) hx hb dL_law_408 (by decide) ?_
  refine lv_iadd hx hb dL_law_409 ?_
  refine top_i (y := nI (5 * j + 1)) (nI_add (5 * j) 1) ?_
  refine sld hx hb hX hbl hbA hS (k := 5 * j + 1) (by omega) hL31 (v := p0) hp0 dL_law_410 ?_
  refine lv_aload_n hx hb dL_law_411 rfl (lv_at hl 1 rfl) ?_
  refine lv_iload hx hb dL_law_412 (lv_at hl 0 rfl) ?_
  refine lv_iconst (v := 2) hx hb dL_law_414 (by decide) ?_
  refine lv_iadd hx hb dL_law_415 ?_
  refine top_i (y := nI (5 * j + 2)) (nI_add (5 * j) 2) ?_
  refine sld hx hb hX hbl hbA hS (k := 5 * j + 2) (by omega) hL31 (v := p1) hp1 dL_law_416 ?_
  refine lv_aload_n hx hb dL_law_417 rfl (lv_at hl 1 rfl) ?_
  refine lv_iload hx hb dL_law_418 (lv_at hl 0 rfl) ?_
  refine lv_iconst (v := 3) hx hb dL_law_420 (by decide) ?_
  refine lv_iadd hx hb dL_law_421 ?_
  refine top_i (y := nI (5 * j + 3)) (nI_add (5 * j) 3) ?_
  refine sld hx hb hX hbl hbA hS (k := 5 * j + 3) (by omega) hL31 (v := p2) hp2 dL_law_422 ?_
  refine lv_aload_n hx hb dL_law_423 rfl (lv_at hl 1 rfl) ?_
  refine lv_iload hx hb dL_law_424 (lv_at hl 0 rfl) ?_
  refine lv_iconst (v := 4) hx hb dL_law_426 (by decide) ?_
  refine lv_iadd hx hb dL_law_427 ?_
  refine top_i (y := nI (5 * j + 4)) (nI_add (5 * j) 4) ?_
  refine sld hx hb hX hbl hbA hS (k := 5 * j + 4) (by omega) hL31 (v := p3) hp3 dL_law_428 ?_
  refine lv_aload_n hx hb dL_law_429 rfl (lv_at hl 4 rfl) ?_
  refine bSi (S := LU) (wB := fun (u : LU) => wXU cA x B F G u ++ wO cL o u.2.2.2.2.2.2.2) (As := [.ref x, .int p0, .int p1, .int p2, .int p3, .ref o]) (rest := []) (pre := []) (wc := (wX cA x B F G b a c9 q a2 c2 q2 ++ wO cL o v)) (suf := wY cA y E S T th b a qm a3 q3) ⟨hx, hb, hml, hown, hts⟩ (KL_launch l hlt D cA cL sa x B F G o b a c9 q a2 c2 q2 v p0 p1 p2 p3 H.size hI) (vx_cwSW 6 hts gL_law_L_launch rfl rfl rfl (by decide +kernel) ⟨Nat.le_of_ble_eq_true rfl, Nat.le_of_ble_eq_true rfl⟩) hE hP hD hS hA (fun _ => rfl) (LX.blind sa D cL _) (fun U hU hW => hXL.at hS hU hW (blk_free hD hS hA)) hl.1 rfl rfl (Nat.le_of_ble_eq_true rfl) dL_law_430 ⟨by show _ ≤ 601024; omega, by show _ ≤ 7293034; omega⟩ (fun r u H locs hu hP hD hS => ?_)
  obtain ⟨b1, a1, c1, q1, a21, c21, q21, v1⟩ := u
  obtain ⟨hr, hn4, hcr, hu0, hu1⟩ := hu
  have hcr : CRa a1 c1 := hcr
  have hu0 : cdLaunch a p0 p1 p2 p3 = 0 → v1 0 = (nI (qN a) : Int32).toInt64 ∧ b1 = b ∧ a1 = addA a (p0).toNatClampNeg p1 (p2).toNatClampNeg (p3).toNatClampNeg := hu0
  have hu1 : ¬ cdLaunch a p0 p1 p2 p3 = 0 → b1 = b ∧ a1 = a := hu1
  subst hr
  rw [List.nil_append] at hP hD
  have hP : va_P D vwCl ((wX cA x B F G b1 a1 c1 q1 a21 c21 q21 ++ wO cL o v1) ++ (wY cA y E S T th b a qm a3 q3 ++ [])) H := by rw [List.append_nil]; exact hP
  have hD : va_D (fun q : Nat => s.heap.size ≤ q) ((wX cA x B F G b1 a1 c1 q1 a21 c21 q21 ++ wO cL o v1) ++ (wY cA y E S T th b a qm a3 q3 ++ [])) := by rw [List.append_nil]; exact hD
  refine lv_istore (lv' := [(5, .int (nI (cdLaunch a p0 p1 p2 p3))), (4, .int (nI (5 * j))), (0, .ref sb), (1, .ref x), (2, .ref y), (3, .ref o)]) hx hb dL_law_433 hl (by decide) rfl (fun ls hl => ?_)
  refine lv_aload_n hx hb dL_law_435 rfl (lv_at hl 4 rfl) ?_
  refine lv_aload_n hx hb dL_law_436 rfl (lv_at hl 2 rfl) ?_
  refine lv_iload hx hb dL_law_437 (lv_at hl 1 rfl) ?_
  refine lv_iconst (v := 1) hx hb dL_law_439 (by decide) ?_
  refine lv_iadd hx hb dL_law_440 ?_
  refine top_i (y := nI (5 * j + 1)) (nI_add (5 * j) 1) ?_
  refine sld hx hb hX hbl hbA hS (k := 5 * j + 1) (by omega) hL31 (v := p0) hp0 dL_law_441 ?_
  refine lv_aload_n hx hb dL_law_442 rfl (lv_at hl 2 rfl) ?_
  refine lv_iload hx hb dL_law_443 (lv_at hl 1 rfl) ?_
  refine lv_iconst (v := 2) hx hb dL_law_445 (by decide) ?_
  refine lv_iadd hx hb dL_law_446 ?_
  refine top_i (y := nI (5 * j + 2)) (nI_add (5 * j) 2) ?_
  refine sld hx hb hX hbl hbA hS (k := 5 * j + 2) (by omega) hL31 (v := p1) hp1 dL_law_447 ?_
  refine lv_aload_n hx hb dL_law_448 rfl (lv_at hl 2 rfl) ?_
  refine lv_iload hx hb dL_law_449 (lv_at hl 1 rfl) ?_
  refine lv_iconst (v := 3) hx hb dL_law_451 (by decide) ?_
  refine lv_iadd hx hb dL_law_452 ?_
  refine top_i (y := nI (5 * j + 3)) (nI_add (5 * j) 3) ?_
  refine sld hx hb hX hbl hbA hS (k := 5 * j + 3) (by omega) hL31 (v := p2) hp2 dL_law_453 ?_
  refine lv_aload_n hx hb dL_law_454 rfl (lv_at hl 2 rfl) ?_
  refine lv_iload hx hb dL_law_455 (lv_at hl 1 rfl) ?_
  refine lv_iconst (v := 4) hx hb dL_law_457 (by decide) ?_
  refine lv_iadd hx hb dL_law_458 ?_
  refine top_i (y := nI (5 * j + 4)) (nI_add (5 * j) 4) ?_
  refine sld hx hb hX hbl hbA hS (k := 5 * j + 4) (by omega) hL31 (v := p3) hp3 dL_law_459 ?_
  refine bVi (S := FSt) (wB := fun (u : FSt) => wY cA y E S T (nI (cdLaunch a p0 p1 p2 p3)) b u qm a3 q3) (As := [.int p0, .int p1, .int p2, .int p3]) (rest := []) (pre := (wX cA x B F G b1 a1 c1 q1 a21 c21 q21 ++ wO cL o v1)) (wc := wY cA y E S T th b a qm a3 q3) (suf := []) ⟨hx, hb, hml, hown, hts⟩ (K_X5_launch l D cA y E S T th b a qm a3 q3 z1 z2 p0 p1 p2 p3 H.size hI.2.2.2.2) (cwV 4 hts gL_law_X5_launch rfl rfl rfl (by decide +kernel) ⟨Nat.le_of_ble_eq_true rfl, Nat.le_of_ble_eq_true rfl⟩) hE hP hD hS hA (fun _ => rfl) (SX.blind z1 z2 _) (fun U hU hW => hXS.at hS (blk_free hD hS hA) hU hW) 0 5 rfl rfl rfl hl.1 rfl rfl (Nat.le_of_ble_eq_true rfl) dL_law_460 ⟨by show _ ≤ 601024; omega, by show _ ≤ 7293034; omega⟩ (fun r2 u H locs hm hP hD hS => ?_)
  have hm0 : cdLaunch a p0 p1 p2 p3 = 0 → r2 = nI (qN a) ∧ u = addA a (p0).toNatClampNeg p1 (p2).toNatClampNeg (p3).toNatClampNeg := hm.1
  have hm1 : ¬ cdLaunch a p0 p1 p2 p3 = 0 → u = a := fun h => (hm.2 h).2
  have hP : va_P D vwCl ((wX cA x B F G b1 a1 c1 q1 a21 c21 q21 ++ wO cL o v1) ++ (wY cA y E S T (nI (cdLaunch a p0 p1 p2 p3)) b u qm a3 q3 ++ [])) H := hP
  have hD : va_D (fun q : Nat => s.heap.size ≤ q) ((wX cA x B F G b1 a1 c1 q1 a21 c21 q21 ++ wO cL o v1) ++ (wY cA y E S T (nI (cdLaunch a p0 p1 p2 p3)) b u qm a3 q3 ++ [])) := hD
  refine lv_istore (lv' := [(6, .int r2), (5, .int (nI (cdLaunch a p0 p1 p2 p3))), (4, .int (nI (5 * j))), (0, .ref sb), (1, .ref x), (2, .ref y), (3, .ref o)]) hx hb dL_law_463 hl (by decide) rfl (fun ls hl => ?_)
  refine lv_aload_n hx hb dL_law_465 rfl (lv_at hl 5 rfl) ?_
  refine qVi (S := Unit) (As := []) (rest := []) (pre := (wX cA x B F G b1 a1 c1 q1 a21 c21 q21 ++ wO cL o v1)) (wc := wY cA y E S T (nI (cdLaunch a p0 p1 p2 p3)) b u qm a3 q3) (suf := []) ⟨hx, hb, hml, hown, hts⟩ (K_X5_thrown l D cA y E S T (nI (cdLaunch a p0 p1 p2 p3)) b u qm a3 q3 H.size) (cwV 0 hts gL_law_X5_thrown rfl rfl rfl (by decide +kernel) ⟨Nat.le_of_ble_eq_true rfl, Nat.le_of_ble_eq_true rfl⟩) hE hP hD hS hA X0.blind (fun _ _ _ => trivial) 0 5 rfl rfl rfl hl.1 rfl rfl (Nat.le_of_ble_eq_true rfl) dL_law_466 ⟨by show _ ≤ 601024; omega, by show _ ≤ 7293034; omega⟩ (fun r3 _ H locs ht3 hP hS => ?_)
  subst ht3
  rw [List.append_nil] at hP hD
  refine lv_iload hx hb dL_law_469 (lv_at hl 1 rfl) ?_
  refine lv_icmp_eq (tgt := 476) hx hb dL_law_471 (by decide) (fun _ => ?_) (fun cf => absurd rfl cf)
  refine lv_iload hx hb dL_law_476 (lv_at hl 1 rfl) ?_
  refine lv_if_ne (tgt := 493) hx hb dL_law_478 (by decide) (fun ck => ?_) (fun ck => ?_)
  · skip
    have hn : ¬ cdLaunch a p0 p1 p2 p3 = 0 := fun h => ck (by rw [h]; rfl)
    obtain ⟨e1, e2⟩ := hu1 hn
    have ey : wY cA y E S T (nI (cdLaunch a p0 p1 p2 p3)) b u qm a3 q3 = wY cA y E S T (nI (cdLaunch a p0 p1 p2 p3)) b1 a1 qm a3 q3 := by rw [e1, e2, hm1 hn]
    rw [ey] at hP hD
    refine lv_goto (tgt := 1147) hx hb dL_law_493 (by decide) ?_
    refine lv_iinc (v := nI (5 * j + 5)) (lv' := [(4, .int (nI (5 * j + 5))), (6, .int r2), (5, .int (nI (cdLaunch a p0 p1 p2 p3))), (0, .ref sb), (1, .ref x), (2, .ref y), (3, .ref o)]) hx hb dL_law_1147 hl (k := 2) rfl (nI_add (5 * j) 5) (by decide) rfl (fun ls hl => ?_)
    refine lv_goto (tgt := 23) hx hb dL_law_1150 (by decide) ?_
    refine W.widen (k := 100 + 371 * (j + 1)) (n := 4000 + 3346 * (j + 1)) (by omega) (by omega) ?_
    exact kk b1 a1 c1 q1 a21 c21 q21 v1 (nI (cdLaunch a p0 p1 p2 p3)) qm a3 q3 H locs ls (by rw [e1, e2]; rw [e2] at hcr; exact hI.crowd hcr) hP hD hS (lv_sub hl [0, 3, 4, 5, 6] rfl)
  · skip
    have h0 : cdLaunch a p0 p1 p2 p3 = 0 := (nI_eq (a := cdLaunch a p0 p1 p2 p3) (b := 0) (by omega) (by decide)).mp ck
    obtain ⟨hv, e1, e2⟩ := hu0 h0
    obtain ⟨e3, e4⟩ := hm0 h0
    have ey : wY cA y E S T (nI (cdLaunch a p0 p1 p2 p3)) b u qm a3 q3 = wY cA y E S T (nI (cdLaunch a p0 p1 p2 p3)) b1 a1 qm a3 q3 := by rw [e1, e2, e4]
    rw [ey] at hP hD
    refine lv_aload_n hx hb dL_law_481 rfl (lv_at hl 6 rfl) ?_
    refine lv_iconst (v := 0) hx hb dL_law_482 (by decide) ?_
    refine lldO hx hb hXL.2.1 hP dL_law_483 ?_
    refine lv_iload hx hb dL_law_484 (lv_at hl 0 rfl) ?_
    refine lv_i2l (v := r2.toInt64) hx hb dL_law_486 rfl ?_
    refine W.lcmp hx hb dL_law_487 ?_
    refine lv_if_eq (tgt := 493) hx hb dL_law_488 (by decide) (fun _ => ?_) (fun cf => absurd ((lg_cmp_eq _ _).mpr (by rw [hv, e3])) cf)
    refine lv_goto (tgt := 1147) hx hb dL_law_493 (by decide) ?_
    refine lv_iinc (v := nI (5 * j + 5)) (lv' := [(4, .int (nI (5 * j + 5))), (6, .int r2), (5, .int (nI (cdLaunch a p0 p1 p2 p3))), (0, .ref sb), (1, .ref x), (2, .ref y), (3, .ref o)]) hx hb dL_law_1147 hl (k := 2) rfl (nI_add (5 * j) 5) (by decide) rfl (fun ls hl => ?_)
    refine lv_goto (tgt := 23) hx hb dL_law_1150 (by decide) ?_
    refine W.widen (k := 100 + 371 * (j + 1)) (n := 4000 + 3346 * (j + 1)) (by omega) (by omega) ?_
    exact kk b1 a1 c1 q1 a21 c21 q21 v1 (nI (cdLaunch a p0 p1 p2 p3)) qm a3 q3 H locs ls (by rw [e2] at hcr; rw [e1, e2]; exact inv_launch hI h0 hcr) hP hD hS (lv_sub hl [0, 3, 4, 5, 6] rfl)
