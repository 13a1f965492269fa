set_option maxHeartbeats 4000000 in
set_option maxRecDepth 100000 in
theorem law_step {p : Program} {l : Launch} {e : Env} {s : State} {m : MethodId} {below : List Frame} {meth : Method} {c : Code} {sb L : Nat} {xs : Nat → Int32} {D : va_G} {cA cL : ClassId} {sa : Nat → Nat} {z1 z2 : Nat} (C0 : LEnv p l s m c sb L xs D cA cL sa z1 z2) {Q : State → Prop} {x : Nat} {B F G : Nat → Nat} {o y : Nat} {E S T : Nat → Nat} (hend : ∀ (H : Heap) (locs : List Loc) (cells slots : Nat) (ls : Array Slot), va_S (fun q : Nat => s.heap.size ≤ q) s.heap H locs → cells ≤ 601024 → slots ≤ 7293034 → W p l e room_1 s m #[Value.ref sb] below meth c H locs cells slots Q (F0 m 1153 ls [])) (j : Nat) (hj : j ≤ 512) (kk : 5 * j + 5 ≤ L → LHead p l e s m below meth c sb D cA cL x B F G o y E S T Q (j + 1)) : LHead p l e s m below meth c sb D cA cL x B F G o y E S T Q j := by
  intro b a c9 q a2 c2 q2 v th qm a3 q3 H locs ls hI hP hD hS hl
  obtain ⟨hx, hb, hml, hown, hts, hE, hXL, hXS, hX, hbl, hlt, hL⟩ := id C0
  have hbA : ¬ (fun q : Nat => s.heap.size ≤ q) sb := Nat.not_le.mpr hbl
  have hL31 : L < 2 ^ 31 := by omega
  refine lv_iload hx hb dL_law_23 (lv_at hl 0 rfl) ?_
  refine lv_aload_n hx hb dL_law_25 rfl (lv_at hl 1 rfl) ?_
  refine va_slen hx hb hX hbl hbA hS dL_law_26 ?_
  refine lv_iconst (v := 5) hx hb dL_law_27 (by decide) ?_
  refine lv_isub hx hb dL_law_28 ?_
  have hsub : (Int32.ofNat L - 5).toInt = (L : Int) - 5 := pk_sub_toInt (a := L) (b := 5) (by omega) (by decide)
  have hji : (nI (5 * j)).toInt = ((5 * j : Nat) : Int) := nI_toInt (by omega)
  refine lv_icmp_gt (tgt := 1153) hx hb dL_law_29 (by decide) (fun _ => ?_) (fun hc => ?_)
  · exact hend H locs _ _ ls hS (by omega) (by omega)
  · rw [Int32.lt_iff_toInt_lt, hsub, hji] at hc
    have h5 : 5 * j + 5 ≤ L := by omega
    refine lv_aload_n hx hb dL_law_32 rfl (lv_at hl 1 rfl) ?_
    refine lv_iload hx hb dL_law_33 (lv_at hl 0 rfl) ?_
    refine sld hx hb hX hbl hbA hS (k := 5 * j) (by omega) hL31 (v := xs (5 * j)) rfl dL_law_35 ?_
    refine lv_bipush (v := 31) hx hb dL_law_36 (by decide) ?_
    refine lv_iand hx hb dL_law_38 ?_
    obtain ⟨z, hz⟩ : ∃ z, z = xs (5 * j) &&& 31 := ⟨_, rfl⟩
    rw [← hz]
    by_cases hw : isW z 0 16 = true
    · obtain ⟨k, hk, ek⟩ := isW_nat (n := 16) hw (by decide)
      rw [ek]
      rcases (show k = 0 ∨ k = 1 ∨ k = 2 ∨ k = 3 ∨ k = 4 ∨ k = 5 ∨ k = 6 ∨ k = 7 ∨ k = 8 ∨ k = 9 ∨ k = 10 ∨ k = 11 ∨ k = 12 ∨ k = 13 ∨ k = 14 ∨ k = 15 ∨ k = 16 by omega) with rfl | rfl | rfl | rfl | rfl | rfl | rfl | rfl | rfl | rfl | rfl | rfl | rfl | rfl | rfl | rfl | rfl
      · refine lv_tableIn (tgt := 120) (off := 81) hx hb dL_law_39 (by decide) (by decide) (by decide) (by decide) ?_
        exact LC_setCurrent C0 h5 (kk h5) b a c9 q a2 c2 q2 v th qm a3 q3 H locs ls hI hP hD hS hl
      · refine lv_tableIn (tgt := 188) (off := 149) hx hb dL_law_39 (by decide) (by decide) (by decide) (by decide) ?_
        exact LC_weir C0 h5 (kk h5) b a c9 q a2 c2 q2 v th qm a3 q3 H locs ls hI hP hD hS hl
      · refine lv_tableIn (tgt := 256) (off := 217) hx hb dL_law_39 (by decide) (by decide) (by decide) (by decide) ?_
        exact LC_net C0 h5 (kk h5) b a c9 q a2 c2 q2 v th qm a3 q3 H locs ls hI hP hD hS hl
      · refine lv_tableIn (tgt := 324) (off := 285) hx hb dL_law_39 (by decide) (by decide) (by decide) (by decide) ?_
        exact LC_river C0 h5 (kk h5) b a c9 q a2 c2 q2 v th qm a3 q3 H locs ls hI hP hD hS hl
      · refine lv_tableIn (tgt := 404) (off := 365) hx hb dL_law_39 (by decide) (by decide) (by decide) (by decide) ?_
        exact LC_launch C0 h5 (kk h5) b a c9 q a2 c2 q2 v th qm a3 q3 H locs ls hI hP hD hS hl
      · refine lv_tableIn (tgt := 496) (off := 457) hx hb dL_law_39 (by decide) (by decide) (by decide) (by decide) ?_
        exact LC_push C0 h5 (kk h5) b a c9 q a2 c2 q2 v th qm a3 q3 H locs ls hI hP hD hS hl
      · refine lv_tableIn (tgt := 564) (off := 525) hx hb dL_law_39 (by decide) (by decide) (by decide) (by decide) ?_
        exact LC_light C0 h5 (kk h5) b a c9 q a2 c2 q2 v th qm a3 q3 H locs ls hI hP hD hS hl
      · refine lv_tableIn (tgt := 620) (off := 581) hx hb dL_law_39 (by decide) (by decide) (by decide) (by decide) ?_
        exact LC_blow C0 h5 (kk h5) b a c9 q a2 c2 q2 v th qm a3 q3 H locs ls hI hP hD hS hl
      · refine lv_tableIn (tgt := 676) (off := 637) hx hb dL_law_39 (by decide) (by decide) (by decide) (by decide) ?_
        exact LC_told C0 h5 (kk h5) b a c9 q a2 c2 q2 v th qm a3 q3 H locs ls hI hP hD hS hl
      · refine lv_tableIn (tgt := 744) (off := 705) hx hb dL_law_39 (by decide) (by decide) (by decide) (by decide) ?_
        exact LC_next C0 h5 (kk h5) b a c9 q a2 c2 q2 v th qm a3 q3 H locs ls hI hP hD hS hl
      · refine lv_tableIn (tgt := 800) (off := 761) hx hb dL_law_39 (by decide) (by decide) (by decide) (by decide) ?_
        exact LC_count C0 h5 (kk h5) b a c9 q a2 c2 q2 v th qm a3 q3 H locs ls hI hP hD hS hl
      · refine lv_tableIn (tgt := 856) (off := 817) hx hb dL_law_39 (by decide) (by decide) (by decide) (by decide) ?_
        exact LC_pass C0 h5 (kk h5) b a c9 q a2 c2 q2 v th qm a3 q3 H locs ls hI hP hD hS hl
      · refine lv_tableIn (tgt := 912) (off := 873) hx hb dL_law_39 (by decide) (by decide) (by decide) (by decide) ?_
        exact LC_burns C0 h5 (kk h5) b a c9 q a2 c2 q2 v th qm a3 q3 H locs ls hI hP hD hS hl
      · refine lv_tableIn (tgt := 968) (off := 929) hx hb dL_law_39 (by decide) (by decide) (by decide) (by decide) ?_
        exact LC_foresee C0 h5 (kk h5) b a c9 q a2 c2 q2 v th qm a3 q3 H locs ls hI hP hD hS hl
      · refine lv_tableIn (tgt := 1036) (off := 997) hx hb dL_law_39 (by decide) (by decide) (by decide) (by decide) ?_
        exact LC_advise C0 h5 (kk h5) b a c9 q a2 c2 q2 v th qm a3 q3 H locs ls hI hP hD hS hl
      · refine lv_tableIn (tgt := 1092) (off := 1053) hx hb dL_law_39 (by decide) (by decide) (by decide) (by decide) ?_
        exact LC_mean C0 h5 (kk h5) b a c9 q a2 c2 q2 v th qm a3 q3 H locs ls hI hP hD hS hl
      · refine lv_tableIn (tgt := 1133) (off := 1094) hx hb dL_law_39 (by decide) (by decide) (by decide) (by decide) ?_
        exact LC_digest C0 h5 (kk h5) b a c9 q a2 c2 q2 v th qm a3 q3 H locs ls hI hP hD hS hl
    · refine lv_tableOut (tgt := 1147) hx hb dL_law_39 ?_ (by decide) ?_
      · have hw2 := hw
        rw [isW_iff, Int32.le_iff_toInt_le, Int32.le_iff_toInt_le, show (0 : Int32).toInt = 0 from rfl, show (16 : Int32).toInt = 16 from rfl] at hw2
        show z.toInt < 0 ∨ 16 < z.toInt
        omega
      · refine lv_iinc (v := nI (5 * j + 5)) (lv' := [(4, .int (nI (5 * j + 5))), (0, .ref sb), (1, .ref x), (2, .ref y), (3, .ref o)]) hx hb dL_law_1147 hl (k := 0) rfl (nI_add (5 * j) 5) (by decide) rfl (fun ls hl => ?_)
        refine lv_goto (tgt := 23) hx hb dL_law_1150 (by decide) ?_
        refine W.widen (k := 100 + 371 * (j + 1)) (n := 4000 + 3346 * (j + 1)) (by omega) (by omega) ?_
        exact kk h5 b a c9 q a2 c2 q2 v th qm a3 q3 H locs ls hI hP hD hS (lv_sub hl [0, 1, 2, 3, 4] rfl)
theorem law_loop {p : Program} {l : Launch} {e : Env} {s : State} {m : MethodId} {below : List Frame} {meth : Method} {c : Code} {sb L : Nat} {xs : Nat → Int32} {D : va_G} {cA cL : ClassId} {sa : Nat → Nat} {z1 z2 : Nat} (C0 : LEnv p l s m c sb L xs D cA cL sa z1 z2) {Q : State → Prop} {x : Nat} {B F G : Nat → Nat} {o y : Nat} {E S T : Nat → Nat} (hend : ∀ (H : Heap) (locs : List Loc) (cells slots : Nat) (ls : Array Slot), va_S (fun q : Nat => s.heap.size ≤ q) s.heap H locs → cells ≤ 601024 → slots ≤ 7293034 → W p l e room_1 s m #[Value.ref sb] below meth c H locs cells slots Q (F0 m 1153 ls [])) : ∀ (n j : Nat), j ≤ 512 → L < 5 * (j + n) + 5 → LHead p l e s m below meth c sb D cA cL x B F G o y E S T Q j
  | 0, j, hj, hn => law_step C0 hend j hj (fun h => absurd h (by omega))
  | n + 1, j, hj, hn => law_step C0 hend j hj (fun h => law_loop C0 hend n (j + 1) (by have := C0.2.2.2.2.2.2.2.2.2.2.2; omega) (by omega))
