set_option maxHeartbeats 4000000 in
set_option maxRecDepth 100000 in
/-- Model() -/
theorem K_X5_init (lch : Launch) (D : va_G) (cA : ClassId) (h : Nat) (sz : Nat)  : Met lch yX5_init wsX5_init ({ frames := 2, cells := 25, slots := 1089, locals := 33 }) (Pr D cA [.ref h] sz ([(h, .inr (5, [.int 0, .null, .int 0, .null, .int 0, .null, .null, .null]))] : va_W) X0) (va_Qv (fun (u : (Nat → Nat) × (Nat → Nat) × (Nat → Nat)) => True) (fun (u : (Nat → Nat) × (Nat → Nat) × (Nat → Nat)) t => va_P D vwCl ((wM cA h u.1 (u.2.1 0) (u.2.2 0) 0 zB) ++ ((wS cA u.2.1 h zF (fun _ => 0)) ++ (wS cA u.2.2 h zF (fun _ => 0)))) t.heap ∧ va_D (va_A ([(h, .inr (5, [.int 0, .null, .int 0, .null, .int 0, .null, .null, .null]))] : va_W) sz) ((wM cA h u.1 (u.2.1 0) (u.2.2 0) 0 zB) ++ ((wS cA u.2.1 h zF (fun _ => 0)) ++ (wS cA u.2.2 h zF (fun _ => 0))))) (va_A ([(h, .inr (5, [.int 0, .null, .int 0, .null, .int 0, .null, .null, .null]))] : va_W) sz)) 25 1089 (va_A ([(h, .inr (5, [.int 0, .null, .int 0, .null, .int 0, .null, .null, .null]))] : va_W) sz) := by
  refine Met.ofW (cc := cX5_init) (maxL := 1) (ret := none) (by decide) rfl ?_
  intro pg ev s mi args below meth cd s₁ B hml hv
  obtain ⟨hav, hsz, hP, hE, hD, hXs⟩ := hv
  have hx := B.exec
  have hb := B.bytes
  have hr := B.returns
  have hts := atoms_spec (ws := wsX5_init) B.pre
  have hown : s.vm.findClass RX5 = some mi.cls := findClass_of_methodNamed B.named
  have hlocks := B.notSynchronized
  have hin : meth.name = "<init>" := (name_of_methodNamed B.named B.method).1
  clear B
  subst hav
  subst hsz
  have hD := hD.self (sz := s.heap.size)
  generalize hAe : va_A ([(h, .inr (5, [.int 0, .null, .int 0, .null, .int 0, .null, .null, .null]))] : va_W) s.heap.size = A at hD ⊢
  have hA : ∀ q : Nat, s.heap.size ≤ q → A q := fun q h => by rw [← hAe]; exact Or.inr h
  have hS : va_S A s.heap s.heap [] := va_S.rf
  obtain ⟨QQ, hQQ⟩ : ∃ qq9, qq9 = MQ below (va_Qv (fun (u : (Nat → Nat) × (Nat → Nat) × (Nat → Nat)) => True) (fun (u : (Nat → Nat) × (Nat → Nat) × (Nat → Nat)) t => va_P D vwCl ((wM cA h u.1 (u.2.1 0) (u.2.2 0) 0 zB) ++ ((wS cA u.2.1 h zF (fun _ => 0)) ++ (wS cA u.2.2 h zF (fun _ => 0)))) t.heap ∧ va_D A ((wM cA h u.1 (u.2.1 0) (u.2.2 0) 0 zB) ++ ((wS cA u.2.1 h zF (fun _ => 0)) ++ (wS cA u.2.2 h zF (fun _ => 0))))) A) ([.ref h] : List Value).toArray s 25 1089 A := ⟨_, rfl⟩
  rw [← hQQ]
  have hl := lv_entry ([.ref h]) (n := 1) (Nat.le_of_ble_eq_true rfl)
  rw [lg_entry_eq]
  generalize (lg_sl ([.ref h]) ++ List.replicate (1 - (lg_sl ([.ref h])).length) Slot.unset).toArray = ls at hl ⊢
  have hl : lv_has ls 1 [(0, .ref h)] := hl
  have kw0 := hts (.methodLink RX5 1 objectInit) (by decide +kernel)
  have kw1 := hts (.instanceMethod objectInit) (by decide +kernel)
  have kw2 := hts (.code objectInit ⟨#[0xb1]⟩ 1 none) (by decide +kernel)
  have kw3 := hts (.arrayClass .int) (by decide +kernel)
  have kf7 := hts (.fieldLink RX5 7 "LanternWeirsModel" "current" "[I") (by decide +kernel)
  have inX5 : ∀ w ∈ u_ws RX5 TX5 8, w ∈ wsX5_init := by decide +kernel
  have kf13 := hts (.fieldLink RX5 13 "LanternWeirsModel" "spray" "[I") (by decide +kernel)
  have kf16 := hts (.fieldLink RX5 16 "LanternWeirsModel" "net" "[I") (by decide +kernel)
  have kw8 := hts (.classLink RX5 19 RX4) (by decide +kernel)
  have kw9 := hts (.instantiable RX4 13) (by decide +kernel)
  have kw10 := hts (.initialized RX4) (by decide +kernel)
  have inX4 : ∀ w ∈ u_ws RX4 TX4 13, w ∈ wsX5_init := by decide +kernel
  have kw12 := hts (.instanceMethod yX4_init) (by decide +kernel)
  have kf24 := hts (.fieldLink RX5 24 "LanternWeirsModel" "s" "LLanternWeirsModel$State;") (by decide +kernel)
  have kf28 := hts (.fieldLink RX5 28 "LanternWeirsModel" "ahead" "LLanternWeirsModel$State;") (by decide +kernel)
  obtain ⟨H, locs, hP, hS, hgo⟩ : ∃ H locs, va_P D vwCl ([(h, .inr (5, [.int 0, .null, .int 0, .null, .int 0, .null, .null, .null]))] : va_W) H ∧ va_S A s.heap H locs ∧ (H = s.heap ∧ locs = []) := ⟨_, _, hP, hS, rfl, rfl⟩
  obtain ⟨hg1, hg2⟩ := hgo
  have hgoal : W pg lch ev (headSpec wsX5_init ({ frames := 2, cells := 25, slots := 1089, locals := 33 })).room s mi ([.ref h] : List Value).toArray below meth cd H locs 0 0 QQ (F0 mi 0 ls []) := by
    refine lv_aload_n hx hb dX5_init_0 rfl (lv_at hl 0 rfl) ?_
    refine W.objInit hx hb hown kw0 kw1 kw2 rfl (by rw [hml]; exact hl.1) rfl dX5_init_1 (Nat.le_of_ble_eq_true rfl) (Nat.le_of_ble_eq_true rfl) ?_
    refine W.eq (g2 := F0 mi 4 ls []) rfl ?_
    refine lv_aload_n hx hb dX5_init_4 rfl (lv_at hl 0 rfl) ?_
    refine lv_iconst (v := 3) hx hb dX5_init_5 (by decide) ?_
    refine na_i hx hb kw3 hE hP hD hS hA (N := 3) (Nat.le_of_ble_eq_true rfl) (Nat.le_of_ble_eq_true rfl) (Nat.le_of_ble_eq_true rfl) dX5_init_6 (fun q6 H hP hD hS => ?_)
    refine W.widen (k := 1) (n := 3) (by omega) (by omega) ?_
    have hP : va_P D vwCl ([(h, .inr (5, [.int 0, .null, .int 0, .null, .int 0, .null, .null, .null])), (q6, .inl (cA, 3, .inl (fun _ => 0)))] : va_W) H := hP
    have hD : va_D A ([(h, .inr (5, [.int 0, .null, .int 0, .null, .int 0, .null, .null, .null])), (q6, .inl (cA, 3, .inl (fun _ => 0)))] : va_W) := hD
    refine lv_dup hx hb dX5_init_8 rfl ?_
    refine lv_iconst (v := 0) hx hb dX5_init_9 (by decide) ?_
    refine lv_iconst (v := 2) hx hb dX5_init_10 (by decide) ?_
    refine ast hx hb hE hP hD hS 1 rfl (k := 0) (by omega) (Nat.le_of_ble_eq_true rfl) (upd (fun _ => 0) 0 2) (fun j _ => rfl) dX5_init_11 (fun H locs hP hD hS => ?_)
    have hP : va_P D vwCl ([(h, .inr (5, [.int 0, .null, .int 0, .null, .int 0, .null, .null, .null])), (q6, .inl (cA, 3, .inl (upd (fun _ => 0) 0 2)))] : va_W) H := hP
    have hD : va_D A ([(h, .inr (5, [.int 0, .null, .int 0, .null, .int 0, .null, .null, .null])), (q6, .inl (cA, 3, .inl (upd (fun _ => 0) 0 2)))] : va_W) := hD
    refine lv_dup hx hb dX5_init_12 rfl ?_
    refine lv_iconst (v := 1) hx hb dX5_init_13 (by decide) ?_
    refine lv_iconst (v := 3) hx hb dX5_init_14 (by decide) ?_
    refine ast hx hb hE hP hD hS 1 rfl (k := 1) (by omega) (Nat.le_of_ble_eq_true rfl) (upd (upd (fun _ => 0) 0 2) 1 3) (fun j _ => rfl) dX5_init_15 (fun H locs hP hD hS => ?_)
    have hP : va_P D vwCl ([(h, .inr (5, [.int 0, .null, .int 0, .null, .int 0, .null, .null, .null])), (q6, .inl (cA, 3, .inl (upd (upd (fun _ => 0) 0 2) 1 3)))] : va_W) H := hP
    have hD : va_D A ([(h, .inr (5, [.int 0, .null, .int 0, .null, .int 0, .null, .null, .null])), (q6, .inl (cA, 3, .inl (upd (upd (fun _ => 0) 0 2) 1 3)))] : va_W) := hD
    refine lv_dup hx hb dX5_init_16 rfl ?_
    refine lv_iconst (v := 2) hx hb dX5_init_17 (by decide) ?_
    refine lv_iconst (v := 2) hx hb dX5_init_18 (by decide) ?_
    refine ast hx hb hE hP hD hS 1 rfl (k := 2) (by omega) (Nat.le_of_ble_eq_true rfl) (upd (upd (upd (fun _ => 0) 0 2) 1 3) 2 2) (fun j _ => rfl) dX5_init_19 (fun H locs hP hD hS => ?_)
    have hP : va_P D vwCl ([(h, .inr (5, [.int 0, .null, .int 0, .null, .int 0, .null, .null, .null])), (q6, .inl (cA, 3, .inl (upd (upd (upd (fun _ => 0) 0 2) 1 3) 2 2)))] : va_W) H := hP
    have hD : va_D A ([(h, .inr (5, [.int 0, .null, .int 0, .null, .int 0, .null, .null, .null])), (q6, .inl (cA, 3, .inl (upd (upd (upd (fun _ => 0) 0 2) 1 3) 2 2)))] : va_W) := hD
    refine va_putF (D := D) (ci := 5) (v := .ref q6) (ty := .array .int) (C := RX5) (T := TX5) (N := 8) hx hb hts inX5 tyX5 tyX5_ok nmX5 hown hE.1 hP hD hS 0 rfl rfl 1 (by decide) kf7 (fun _ h9 => h9) rfl hin rfl (by decide +kernel) rfl rfl (Nat.le_of_ble_eq_true rfl) dX5_init_20 (fun H locs hP hD hS => ?_)
    have hP : va_P D vwCl ([(h, .inr (5, [.int 0, .ref q6, .int 0, .null, .int 0, .null, .null, .null])), (q6, .inl (cA, 3, .inl (upd (upd (upd (fun _ => 0) 0 2) 1 3) 2 2)))] : va_W) H := hP
    have hD : va_D A ([(h, .inr (5, [.int 0, .ref q6, .int 0, .null, .int 0, .null, .null, .null])), (q6, .inl (cA, 3, .inl (upd (upd (upd (fun _ => 0) 0 2) 1 3) 2 2)))] : va_W) := hD
    refine lv_aload_n hx hb dX5_init_23 rfl (lv_at hl 0 rfl) ?_
    refine lv_bipush (v := 60) hx hb dX5_init_24 (by decide) ?_
    refine na_i hx hb kw3 hE hP hD hS hA (N := 60) (Nat.le_of_ble_eq_true rfl) (Nat.le_of_ble_eq_true rfl) (Nat.le_of_ble_eq_true rfl) dX5_init_26 (fun q26 H hP hD hS => ?_)
    refine W.widen (k := 2) (n := 63) (by omega) (by omega) ?_
    have hP : va_P D vwCl ([(h, .inr (5, [.int 0, .ref q6, .int 0, .null, .int 0, .null, .null, .null])), (q6, .inl (cA, 3, .inl (upd (upd (upd (fun _ => 0) 0 2) 1 3) 2 2))), (q26, .inl (cA, 60, .inl (fun _ => 0)))] : va_W) H := hP
    have hD : va_D A ([(h, .inr (5, [.int 0, .ref q6, .int 0, .null, .int 0, .null, .null, .null])), (q6, .inl (cA, 3, .inl (upd (upd (upd (fun _ => 0) 0 2) 1 3) 2 2))), (q26, .inl (cA, 60, .inl (fun _ => 0)))] : va_W) := hD
    refine va_putF (D := D) (ci := 5) (v := .ref q26) (ty := .array .int) (C := RX5) (T := TX5) (N := 8) hx hb hts inX5 tyX5 tyX5_ok nmX5 hown hE.1 hP hD hS 0 rfl rfl 3 (by decide) kf13 (fun _ h9 => h9) rfl hin rfl (by decide +kernel) rfl rfl (Nat.le_of_ble_eq_true rfl) dX5_init_28 (fun H locs hP hD hS => ?_)
    have hP : va_P D vwCl ([(h, .inr (5, [.int 0, .ref q6, .int 0, .ref q26, .int 0, .null, .null, .null])), (q6, .inl (cA, 3, .inl (upd (upd (upd (fun _ => 0) 0 2) 1 3) 2 2))), (q26, .inl (cA, 60, .inl (fun _ => 0)))] : va_W) H := hP
    have hD : va_D A ([(h, .inr (5, [.int 0, .ref q6, .int 0, .ref q26, .int 0, .null, .null, .null])), (q6, .inl (cA, 3, .inl (upd (upd (upd (fun _ => 0) 0 2) 1 3) 2 2))), (q26, .inl (cA, 60, .inl (fun _ => 0)))] : va_W) := hD
    refine lv_aload_n hx hb dX5_init_31 rfl (lv_at hl 0 rfl) ?_
    refine lv_sipush (v := 180) hx hb dX5_init_32 (by decide) ?_
    refine na_i hx hb kw3 hE hP hD hS hA (N := 180) (Nat.le_of_ble_eq_true rfl) (Nat.le_of_ble_eq_true rfl) (Nat.le_of_ble_eq_true rfl) dX5_init_35 (fun q35 H hP hD hS => ?_)
    refine W.widen (k := 3) (n := 243) (by omega) (by omega) ?_
    have hP : va_P D vwCl ([(h, .inr (5, [.int 0, .ref q6, .int 0, .ref q26, .int 0, .null, .null, .null])), (q6, .inl (cA, 3, .inl (upd (upd (upd (fun _ => 0) 0 2) 1 3) 2 2))), (q26, .inl (cA, 60, .inl (fun _ => 0))), (q35, .inl (cA, 180, .inl (fun _ => 0)))] : va_W) H := hP
    have hD : va_D A ([(h, .inr (5, [.int 0, .ref q6, .int 0, .ref q26, .int 0, .null, .null, .null])), (q6, .inl (cA, 3, .inl (upd (upd (upd (fun _ => 0) 0 2) 1 3) 2 2))), (q26, .inl (cA, 60, .inl (fun _ => 0))), (q35, .inl (cA, 180, .inl (fun _ => 0)))] : va_W) := hD
    refine va_putF (D := D) (ci := 5) (v := .ref q35) (ty := .array .int) (C := RX5) (T := TX5) (N := 8) hx hb hts inX5 tyX5 tyX5_ok nmX5 hown hE.1 hP hD hS 0 rfl rfl 5 (by decide) kf16 (fun _ h9 => h9) rfl hin rfl (by decide +kernel) rfl rfl (Nat.le_of_ble_eq_true rfl) dX5_init_37 (fun H locs hP hD hS => ?_)
    have hP : va_P D vwCl ([(h, .inr (5, [.int 0, .ref q6, .int 0, .ref q26, .int 0, .ref q35, .null, .null])), (q6, .inl (cA, 3, .inl (upd (upd (upd (fun _ => 0) 0 2) 1 3) 2 2))), (q26, .inl (cA, 60, .inl (fun _ => 0))), (q35, .inl (cA, 180, .inl (fun _ => 0)))] : va_W) H := hP
    have hD : va_D A ([(h, .inr (5, [.int 0, .ref q6, .int 0, .ref q26, .int 0, .ref q35, .null, .null])), (q6, .inl (cA, 3, .inl (upd (upd (upd (fun _ => 0) 0 2) 1 3) 2 2))), (q26, .inl (cA, 60, .inl (fun _ => 0))), (q35, .inl (cA, 180, .inl (fun _ => 0)))] : va_W) := hD
    refine lv_aload_n hx hb dX5_init_40 rfl (lv_at hl 0 rfl) ?_
    refine va_new (ci := 4) (fs := [.int 0, .int 0, .null, .null, .null, .null, .null, .null, .null, .null, .null, .null, .null]) (C := RX4) (T := TX4) (N := 13) hx hb hts inX4 tyX4 tyX4_ok hown kw8 kw9 kw10 hE.1 hP hD hS hA rfl (fun j hj => by rcases (show j = 0 ∨ j = 1 ∨ j = 2 ∨ j = 3 ∨ j = 4 ∨ j = 5 ∨ j = 6 ∨ j = 7 ∨ j = 8 ∨ j = 9 ∨ j = 10 ∨ j = 11 ∨ j = 12 by omega) with rfl | rfl | rfl | rfl | rfl | rfl | rfl | rfl | rfl | rfl | rfl | rfl | rfl <;> rfl) (Nat.le_of_ble_eq_true rfl) (Nat.le_of_ble_eq_true rfl) dX5_init_41 (fun q41 H hP hD hS => ?_)
    refine W.widen (k := 4) (n := 256) (by omega) (by omega) ?_
    have hP : va_P D vwCl ([(h, .inr (5, [.int 0, .ref q6, .int 0, .ref q26, .int 0, .ref q35, .null, .null])), (q6, .inl (cA, 3, .inl (upd (upd (upd (fun _ => 0) 0 2) 1 3) 2 2))), (q26, .inl (cA, 60, .inl (fun _ => 0))), (q35, .inl (cA, 180, .inl (fun _ => 0))), (q41, .inr (4, [.int 0, .int 0, .null, .null, .null, .null, .null, .null, .null, .null, .null, .null, .null]))] : va_W) H := hP
    have hD : va_D A ([(h, .inr (5, [.int 0, .ref q6, .int 0, .ref q26, .int 0, .ref q35, .null, .null])), (q6, .inl (cA, 3, .inl (upd (upd (upd (fun _ => 0) 0 2) 1 3) 2 2))), (q26, .inl (cA, 60, .inl (fun _ => 0))), (q35, .inl (cA, 180, .inl (fun _ => 0))), (q41, .inr (4, [.int 0, .int 0, .null, .null, .null, .null, .null, .null, .null, .null, .null, .null, .null]))] : va_W) := hD
    refine lv_dup hx hb dX5_init_44 rfl ?_
    refine lv_aload_n hx hb dX5_init_45 rfl (lv_at hl 0 rfl) ?_
    refine cIN (wr := ([(h, .inr (5, [.int 0, .ref q6, .int 0, .ref q26, .int 0, .ref q35, .null, .null])), (q6, .inl (cA, 3, .inl (upd (upd (upd (fun _ => 0) 0 2) 1 3) 2 2))), (q26, .inl (cA, 60, .inl (fun _ => 0))), (q35, .inl (cA, 180, .inl (fun _ => 0)))] : va_W)) (wB := fun (U41 : Nat → Nat) => (wS cA U41 h zF (fun _ => 0))) (As := [.ref h]) (rest := [.ref q41, .ref h]) (wc := ([(q41, .inr (4, [.int 0, .int 0, .null, .null, .null, .null, .null, .null, .null, .null, .null, .null, .null]))] : va_W)) ⟨hx, hb, hml, hown, hts⟩ (K_X4_init lch D cA q41 h H.size ) ⟨va_cnB 1 hts gX5_init_X4_init_n21 rfl rfl rfl (hE.2.2 (.methodLinkNest "LanternWeirsModel" 21 ⟨"LanternWeirsModel$State", "<init>", "(LLanternWeirsModel;)V"⟩ "LanternWeirsModel") (by decide +kernel)) kw10 (by decide +kernel) ⟨Nat.le_of_ble_eq_true rfl, Nat.le_of_ble_eq_true rfl⟩, rfl, kw12⟩ hE hP hD hS hA [4] [0, 1, 2, 3] rfl rfl rfl rfl (by decide) X0.blind (fun _ _ _ => trivial) hl.1 rfl rfl (Nat.le_of_ble_eq_true rfl) dX5_init_46 ⟨Nat.le_of_ble_eq_true rfl, Nat.le_of_ble_eq_true rfl⟩ (fun U41 H locs hu41 hP9 hD9 hS9 => ?_)
    clear hP hD hS
    subst hu41
    have hP := hP9
    have hD := hD9
    have hS := hS9
    clear hP9 hD9 hS9
    refine W.widen (k := 14) (n := 666) (by omega) (by omega) ?_
    have hP : va_P D vwCl (([(h, .inr (5, [.int 0, .ref q6, .int 0, .ref q26, .int 0, .ref q35, .null, .null])), (q6, .inl (cA, 3, .inl (upd (upd (upd (fun _ => 0) 0 2) 1 3) 2 2))), (q26, .inl (cA, 60, .inl (fun _ => 0))), (q35, .inl (cA, 180, .inl (fun _ => 0)))] : va_W) ++ (wS cA U41 h zF (fun _ => 0))) H := hP
    have hD : va_D A (([(h, .inr (5, [.int 0, .ref q6, .int 0, .ref q26, .int 0, .ref q35, .null, .null])), (q6, .inl (cA, 3, .inl (upd (upd (upd (fun _ => 0) 0 2) 1 3) 2 2))), (q26, .inl (cA, 60, .inl (fun _ => 0))), (q35, .inl (cA, 180, .inl (fun _ => 0)))] : va_W) ++ (wS cA U41 h zF (fun _ => 0))) := hD
    refine va_putF (D := D) (ci := 5) (v := .ref (U41 0)) (ty := .object "LanternWeirsModel$State") (C := RX5) (T := TX5) (N := 8) hx hb hts inX5 tyX5 tyX5_ok nmX5 hown hE.1 hP hD hS 0 rfl rfl 6 (by decide) kf24 (fun _ h9 => h9) rfl hin rfl (by decide +kernel) rfl rfl (Nat.le_of_ble_eq_true rfl) dX5_init_49 (fun H locs hP hD hS => ?_)
    have hP : va_P D vwCl (([(h, .inr (5, [.int 0, .ref q6, .int 0, .ref q26, .int 0, .ref q35, .ref (U41 0), .null])), (q6, .inl (cA, 3, .inl (upd (upd (upd (fun _ => 0) 0 2) 1 3) 2 2))), (q26, .inl (cA, 60, .inl (fun _ => 0))), (q35, .inl (cA, 180, .inl (fun _ => 0)))] : va_W) ++ (wS cA U41 h zF (fun _ => 0))) H := hP
    have hD : va_D A (([(h, .inr (5, [.int 0, .ref q6, .int 0, .ref q26, .int 0, .ref q35, .ref (U41 0), .null])), (q6, .inl (cA, 3, .inl (upd (upd (upd (fun _ => 0) 0 2) 1 3) 2 2))), (q26, .inl (cA, 60, .inl (fun _ => 0))), (q35, .inl (cA, 180, .inl (fun _ => 0)))] : va_W) ++ (wS cA U41 h zF (fun _ => 0))) := hD
    refine lv_aload_n hx hb dX5_init_52 rfl (lv_at hl 0 rfl) ?_
    refine va_new (ci := 4) (fs := [.int 0, .int 0, .null, .null, .null, .null, .null, .null, .null, .null, .null, .null, .null]) (C := RX4) (T := TX4) (N := 13) hx hb hts inX4 tyX4 tyX4_ok hown kw8 kw9 kw10 hE.1 hP hD hS hA rfl (fun j hj => by rcases (show j = 0 ∨ j = 1 ∨ j = 2 ∨ j = 3 ∨ j = 4 ∨ j = 5 ∨ j = 6 ∨ j = 7 ∨ j = 8 ∨ j = 9 ∨ j = 10 ∨ j = 11 ∨ j = 12 by omega) with rfl | rfl | rfl | rfl | rfl | rfl | rfl | rfl | rfl | rfl | rfl | rfl | rfl <;> rfl) (Nat.le_of_ble_eq_true rfl) (Nat.le_of_ble_eq_true rfl) dX5_init_53 (fun q53 H hP hD hS => ?_)
    refine W.widen (k := 15) (n := 679) (by omega) (by omega) ?_
    have hP : va_P D vwCl ([(h, .inr (5, [.int 0, .ref q6, .int 0, .ref q26, .int 0, .ref q35, .ref (U41 0), .null])), (q6, .inl (cA, 3, .inl (upd (upd (upd (fun _ => 0) 0 2) 1 3) 2 2))), (q26, .inl (cA, 60, .inl (fun _ => 0))), (q35, .inl (cA, 180, .inl (fun _ => 0))), (U41 0, .inr (4, [.int (qM zF), .int (nI (qN zF)), .ref (U41 1), .ref (U41 2), .ref (U41 3), .ref (U41 4), .ref (U41 5), .ref (U41 6), .ref (U41 7), .ref (U41 8), .ref (U41 9), .ref (U41 10), .ref h])), (U41 1, .inl (cA, 41, .inl (fun z9 => nI (qFr zF z9)))), (U41 2, .inl (cA, 41, .inl (qWi zF))), (U41 3, .inl (cA, 41, .inl (fun z9 => nI (qLa zF z9)))), (U41 4, .inl (cA, 41, .inl (fun z9 => nI (qPl zF z9)))), (U41 5, .inl (cA, 41, .inl (fun z9 => nI (qWx zF z9)))), (U41 6, .inl (cA, 41, .inl (qWe zF))), (U41 7, .inl (cA, 41, .inl (fun z9 => bi (qBu zF z9)))), (U41 8, .inl (cA, 41, .inl (fun z9 => nI (qSt zF z9)))), (U41 9, .inl (cA, 41, .inl (qEn zF))), (U41 10, .inl (cA, 41, .inl (fun _ => 0))), (q53, .inr (4, [.int 0, .int 0, .null, .null, .null, .null, .null, .null, .null, .null, .null, .null, .null]))] : va_W) H := hP
    have hD : va_D A ([(h, .inr (5, [.int 0, .ref q6, .int 0, .ref q26, .int 0, .ref q35, .ref (U41 0), .null])), (q6, .inl (cA, 3, .inl (upd (upd (upd (fun _ => 0) 0 2) 1 3) 2 2))), (q26, .inl (cA, 60, .inl (fun _ => 0))), (q35, .inl (cA, 180, .inl (fun _ => 0))), (U41 0, .inr (4, [.int (qM zF), .int (nI (qN zF)), .ref (U41 1), .ref (U41 2), .ref (U41 3), .ref (U41 4), .ref (U41 5), .ref (U41 6), .ref (U41 7), .ref (U41 8), .ref (U41 9), .ref (U41 10), .ref h])), (U41 1, .inl (cA, 41, .inl (fun z9 => nI (qFr zF z9)))), (U41 2, .inl (cA, 41, .inl (qWi zF))), (U41 3, .inl (cA, 41, .inl (fun z9 => nI (qLa zF z9)))), (U41 4, .inl (cA, 41, .inl (fun z9 => nI (qPl zF z9)))), (U41 5, .inl (cA, 41, .inl (fun z9 => nI (qWx zF z9)))), (U41 6, .inl (cA, 41, .inl (qWe zF))), (U41 7, .inl (cA, 41, .inl (fun z9 => bi (qBu zF z9)))), (U41 8, .inl (cA, 41, .inl (fun z9 => nI (qSt zF z9)))), (U41 9, .inl (cA, 41, .inl (qEn zF))), (U41 10, .inl (cA, 41, .inl (fun _ => 0))), (q53, .inr (4, [.int 0, .int 0, .null, .null, .null, .null, .null, .null, .null, .null, .null, .null, .null]))] : va_W) := hD
    refine lv_dup hx hb dX5_init_56 rfl ?_
    refine lv_aload_n hx hb dX5_init_57 rfl (lv_at hl 0 rfl) ?_
    refine cIN (wr := ([(h, .inr (5, [.int 0, .ref q6, .int 0, .ref q26, .int 0, .ref q35, .ref (U41 0), .null])), (q6, .inl (cA, 3, .inl (upd (upd (upd (fun _ => 0) 0 2) 1 3) 2 2))), (q26, .inl (cA, 60, .inl (fun _ => 0))), (q35, .inl (cA, 180, .inl (fun _ => 0))), (U41 0, .inr (4, [.int (qM zF), .int (nI (qN zF)), .ref (U41 1), .ref (U41 2), .ref (U41 3), .ref (U41 4), .ref (U41 5), .ref (U41 6), .ref (U41 7), .ref (U41 8), .ref (U41 9), .ref (U41 10), .ref h])), (U41 1, .inl (cA, 41, .inl (fun z9 => nI (qFr zF z9)))), (U41 2, .inl (cA, 41, .inl (qWi zF))), (U41 3, .inl (cA, 41, .inl (fun z9 => nI (qLa zF z9)))), (U41 4, .inl (cA, 41, .inl (fun z9 => nI (qPl zF z9)))), (U41 5, .inl (cA, 41, .inl (fun z9 => nI (qWx zF z9)))), (U41 6, .inl (cA, 41, .inl (qWe zF))), (U41 7, .inl (cA, 41, .inl (fun z9 => bi (qBu zF z9)))), (U41 8, .inl (cA, 41, .inl (fun z9 => nI (qSt zF z9)))), (U41 9, .inl (cA, 41, .inl (qEn zF))), (U41 10, .inl (cA, 41, .inl (fun _ => 0)))] : va_W)) (wB := fun (U53 : Nat → Nat) => (wS cA U53 h zF (fun _ => 0))) (As := [.ref h]) (rest := [.ref q53, .ref h]) (wc := ([(q53, .inr (4, [.int 0, .int 0, .null, .null, .null, .null, .null, .null, .null, .null, .null, .null, .null]))] : va_W)) ⟨hx, hb, hml, hown, hts⟩ (K_X4_init lch D cA q53 h H.size ) ⟨va_cnB 1 hts gX5_init_X4_init_n21 rfl rfl rfl (hE.2.2 (.methodLinkNest "LanternWeirsModel" 21 ⟨"LanternWeirsModel$State", "<init>", "(LLanternWeirsModel;)V"⟩ "LanternWeirsModel") (by decide +kernel)) kw10 (by decide +kernel) ⟨Nat.le_of_ble_eq_true rfl, Nat.le_of_ble_eq_true rfl⟩, rfl, kw12⟩ hE hP hD hS hA [15] [0, 1, 2, 3, 4, 5, 6, 7, 8, 9, 10, 11, 12, 13, 14] rfl rfl rfl rfl (by decide) X0.blind (fun _ _ _ => trivial) hl.1 rfl rfl (Nat.le_of_ble_eq_true rfl) dX5_init_58 ⟨Nat.le_of_ble_eq_true rfl, Nat.le_of_ble_eq_true rfl⟩ (fun U53 H locs hu53 hP9 hD9 hS9 => ?_)
    clear hP hD hS
    subst hu53
    have hP := hP9
    have hD := hD9
    have hS := hS9
    clear hP9 hD9 hS9
    refine W.widen (k := 25) (n := 1089) (by omega) (by omega) ?_
    have hP : va_P D vwCl (([(h, .inr (5, [.int 0, .ref q6, .int 0, .ref q26, .int 0, .ref q35, .ref (U41 0), .null])), (q6, .inl (cA, 3, .inl (upd (upd (upd (fun _ => 0) 0 2) 1 3) 2 2))), (q26, .inl (cA, 60, .inl (fun _ => 0))), (q35, .inl (cA, 180, .inl (fun _ => 0)))] : va_W) ++ ((wS cA U41 h zF (fun _ => 0)) ++ (wS cA U53 h zF (fun _ => 0)))) H := hP
    have hD : va_D A (([(h, .inr (5, [.int 0, .ref q6, .int 0, .ref q26, .int 0, .ref q35, .ref (U41 0), .null])), (q6, .inl (cA, 3, .inl (upd (upd (upd (fun _ => 0) 0 2) 1 3) 2 2))), (q26, .inl (cA, 60, .inl (fun _ => 0))), (q35, .inl (cA, 180, .inl (fun _ => 0)))] : va_W) ++ ((wS cA U41 h zF (fun _ => 0)) ++ (wS cA U53 h zF (fun _ => 0)))) := hD
    refine va_putF (D := D) (ci := 5) (v := .ref (U53 0)) (ty := .object "LanternWeirsModel$State") (C := RX5) (T := TX5) (N := 8) hx hb hts inX5 tyX5 tyX5_ok nmX5 hown hE.1 hP hD hS 0 rfl rfl 7 (by decide) kf28 (fun _ h9 => h9) rfl hin rfl (by decide +kernel) rfl rfl (Nat.le_of_ble_eq_true rfl) dX5_init_61 (fun H locs hP hD hS => ?_)
    have hP : va_P D vwCl (([(h, .inr (5, [.int 0, .ref q6, .int 0, .ref q26, .int 0, .ref q35, .ref (U41 0), .ref (U53 0)])), (q6, .inl (cA, 3, .inl (upd (upd (upd (fun _ => 0) 0 2) 1 3) 2 2))), (q26, .inl (cA, 60, .inl (fun _ => 0))), (q35, .inl (cA, 180, .inl (fun _ => 0)))] : va_W) ++ ((wS cA U41 h zF (fun _ => 0)) ++ (wS cA U53 h zF (fun _ => 0)))) H := hP
    have hD : va_D A (([(h, .inr (5, [.int 0, .ref q6, .int 0, .ref q26, .int 0, .ref q35, .ref (U41 0), .ref (U53 0)])), (q6, .inl (cA, 3, .inl (upd (upd (upd (fun _ => 0) 0 2) 1 3) 2 2))), (q26, .inl (cA, 60, .inl (fun _ => 0))), (q35, .inl (cA, 180, .inl (fun _ => 0)))] : va_W) ++ ((wS cA U41 h zF (fun _ => 0)) ++ (wS cA U53 h zF (fun _ => 0)))) := hD
    have hP := hP.arr 1 (fun i => nI (bCu zB i)) rfl (fun j hj => by rcases (show j = 0 ∨ j = 1 ∨ j = 2 by omega) with rfl | rfl | rfl <;> rfl)
    have hD := hD.set (p := 1) (e := .inl (cA, 3, .inl (fun i => nI (bCu zB i)))) rfl
    have hP : va_P D vwCl ((wM cA h ((fun k : Nat => List.getD [q6, q26, q35] k 0)) (U41 0) (U53 0) 0 zB) ++ ((wS cA U41 h zF (fun _ => 0)) ++ (wS cA U53 h zF (fun _ => 0)))) H := hP
    have hD : va_D A ((wM cA h ((fun k : Nat => List.getD [q6, q26, q35] k 0)) (U41 0) (U53 0) 0 zB) ++ ((wS cA U41 h zF (fun _ => 0)) ++ (wS cA U53 h zF (fun _ => 0)))) := hD
    rw [hQQ]
    exact W.vret hx hb hr (fun t ht hW => ⟨⟨((fun k : Nat => List.getD [q6, q26, q35] k 0), U41, U53), rfl, trivial, ⟨by rw [ht]; exact hP, hD⟩⟩, hS.F ht⟩) hS.2.2 dX5_init_64
  rw [hg1, hg2] at hgoal
  exact hgoal
