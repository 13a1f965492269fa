set_option maxHeartbeats 4000000 in
set_option maxRecDepth 100000 in
/-- LanternWeirs() -/
theorem K_X3_init (lch : Launch) (D : va_G) (cA : ClassId) (h : Nat) (sz : Nat)  : Met lch yX3_init wsX3_init ({ frames := 3, cells := 53, slots := 2199, locals := 53 }) (Pr D cA [.ref h] sz ([(h, .inr (3, [.null, .null, .null]))] : va_W) X0) (va_Qv (fun (u : (Nat → Nat) × (Nat → Nat) × (Nat → Nat)) => True) (fun (u : (Nat → Nat) × (Nat → Nat) × (Nat → Nat)) t => va_P D vwCl (([(h, .inr (3, [.ref (u.1 0), .ref (u.2.1 0), .ref (u.2.2 0)]))] : va_W) ++ ((wB cA u.1 zB) ++ ((wF cA u.2.1 zF (fun _ => 0) (fun _ => 0)) ++ (wF cA u.2.2 zF (fun _ => 0) (fun _ => 0))))) t.heap ∧ va_D (va_A ([(h, .inr (3, [.null, .null, .null]))] : va_W) sz) (([(h, .inr (3, [.ref (u.1 0), .ref (u.2.1 0), .ref (u.2.2 0)]))] : va_W) ++ ((wB cA u.1 zB) ++ ((wF cA u.2.1 zF (fun _ => 0) (fun _ => 0)) ++ (wF cA u.2.2 zF (fun _ => 0) (fun _ => 0)))))) (va_A ([(h, .inr (3, [.null, .null, .null]))] : va_W) sz)) 53 2199 (va_A ([(h, .inr (3, [.null, .null, .null]))] : va_W) sz) := by
  refine Met.ofW (cc := cX3_init) (maxL := 1) (ret := none) (by decide) rfl ?_
  intro pg ev s mi args below meth cd s₁ B hml hv
  obtain ⟨hav, hsz, hP, hE, hD, hXs⟩ := hv
  have hx := B.exec
  have hb := B.bytes
  have hr := B.returns
  have hts := atoms_spec (ws := wsX3_init) B.pre
  have hown : s.vm.findClass RX3 = some mi.cls := findClass_of_methodNamed B.named
  have hlocks := B.notSynchronized
  have hin : meth.name = "<init>" := (name_of_methodNamed B.named B.method).1
  clear B
  subst hav
  subst hsz
  have hD := hD.self (sz := s.heap.size)
  generalize hAe : va_A ([(h, .inr (3, [.null, .null, .null]))] : va_W) s.heap.size = A at hD ⊢
  have hA : ∀ q : Nat, s.heap.size ≤ q → A q := fun q h => by rw [← hAe]; exact Or.inr h
  have hS : va_S A s.heap s.heap [] := va_S.rf
  obtain ⟨QQ, hQQ⟩ : ∃ qq9, qq9 = MQ below (va_Qv (fun (u : (Nat → Nat) × (Nat → Nat) × (Nat → Nat)) => True) (fun (u : (Nat → Nat) × (Nat → Nat) × (Nat → Nat)) t => va_P D vwCl (([(h, .inr (3, [.ref (u.1 0), .ref (u.2.1 0), .ref (u.2.2 0)]))] : va_W) ++ ((wB cA u.1 zB) ++ ((wF cA u.2.1 zF (fun _ => 0) (fun _ => 0)) ++ (wF cA u.2.2 zF (fun _ => 0) (fun _ => 0))))) t.heap ∧ va_D A (([(h, .inr (3, [.ref (u.1 0), .ref (u.2.1 0), .ref (u.2.2 0)]))] : va_W) ++ ((wB cA u.1 zB) ++ ((wF cA u.2.1 zF (fun _ => 0) (fun _ => 0)) ++ (wF cA u.2.2 zF (fun _ => 0) (fun _ => 0)))))) A) ([.ref h] : List Value).toArray s 53 2199 A := ⟨_, rfl⟩
  rw [← hQQ]
  have hl := lv_entry ([.ref h]) (n := 1) (Nat.le_of_ble_eq_true rfl)
  rw [lg_entry_eq]
  generalize (lg_sl ([.ref h]) ++ List.replicate (1 - (lg_sl ([.ref h])).length) Slot.unset).toArray = ls at hl ⊢
  have hl : lv_has ls 1 [(0, .ref h)] := hl
  have kw0 := hts (.methodLink RX3 1 objectInit) (by decide +kernel)
  have kw1 := hts (.instanceMethod objectInit) (by decide +kernel)
  have kw2 := hts (.code objectInit ⟨#[0xb1]⟩ 1 none) (by decide +kernel)
  have kw3 := hts (.classLink RX3 7 RX0) (by decide +kernel)
  have kw4 := hts (.instantiable RX0 5) (by decide +kernel)
  have kw5 := hts (.initialized RX0) (by decide +kernel)
  have inX0 : ∀ w ∈ u_ws RX0 TX0 5, w ∈ wsX3_init := by decide +kernel
  have kw7 := hts (.instanceMethod yX0_init) (by decide +kernel)
  have kw8 := hts (.methodLink RX3 9 yX0_init) (by decide +kernel)
  have kf10 := hts (.fieldLink RX3 10 "LanternWeirs" "bed" "LLanternWeirs$Bed;") (by decide +kernel)
  have inX3 : ∀ w ∈ u_ws RX3 TX3 3, w ∈ wsX3_init := by decide +kernel
  have kw11 := hts (.classLink RX3 16 RX1) (by decide +kernel)
  have kw12 := hts (.instantiable RX1 13) (by decide +kernel)
  have kw13 := hts (.initialized RX1) (by decide +kernel)
  have inX1 : ∀ w ∈ u_ws RX1 TX1 13, w ∈ wsX3_init := by decide +kernel
  have kw15 := hts (.instanceMethod yX1_init) (by decide +kernel)
  have kf19 := hts (.fieldLink RX3 19 "LanternWeirs" "fleet" "LLanternWeirs$Fleet;") (by decide +kernel)
  have kf23 := hts (.fieldLink RX3 23 "LanternWeirs" "dream" "LLanternWeirs$Fleet;") (by decide +kernel)
  obtain ⟨H, locs, hP, hS, hgo⟩ : ∃ H locs, va_P D vwCl ([(h, .inr (3, [.null, .null, .null]))] : va_W) H ∧ va_S A s.heap H locs ∧ (H = s.heap ∧ locs = []) := ⟨_, _, hP, hS, rfl, rfl⟩
  obtain ⟨hg1, hg2⟩ := hgo
  have hgoal : W pg lch ev (headSpec wsX3_init ({ frames := 3, cells := 53, slots := 2199, locals := 53 })).room s mi ([.ref h] : List Value).toArray below meth cd H locs 0 0 QQ (F0 mi 0 ls []) := by
    refine lv_aload_n hx hb dX3_init_0 rfl (lv_at hl 0 rfl) ?_
    refine W.objInit hx hb hown kw0 kw1 kw2 rfl (by rw [hml]; exact hl.1) rfl dX3_init_1 (Nat.le_of_ble_eq_true rfl) (Nat.le_of_ble_eq_true rfl) ?_
    refine W.eq (g2 := F0 mi 4 ls []) rfl ?_
    refine lv_aload_n hx hb dX3_init_4 rfl (lv_at hl 0 rfl) ?_
    refine va_new (ci := 0) (fs := [.null, .null, .null, .int 0, .int 0]) (C := RX0) (T := TX0) (N := 5) hx hb hts inX0 tyX0 tyX0_ok hown kw3 kw4 kw5 hE.1 hP hD hS hA rfl (fun j hj => by rcases (show j = 0 ∨ j = 1 ∨ j = 2 ∨ j = 3 ∨ j = 4 by omega) with rfl | rfl | rfl | rfl | rfl <;> rfl) (Nat.le_of_ble_eq_true rfl) (Nat.le_of_ble_eq_true rfl) dX3_init_5 (fun q5 H hP hD hS => ?_)
    refine W.widen (k := 1) (n := 5) (by omega) (by omega) ?_
    have hP : va_P D vwCl ([(h, .inr (3, [.null, .null, .null])), (q5, .inr (0, [.null, .null, .null, .int 0, .int 0]))] : va_W) H := hP
    have hD : va_D A ([(h, .inr (3, [.null, .null, .null])), (q5, .inr (0, [.null, .null, .null, .int 0, .int 0]))] : va_W) := hD
    refine lv_dup hx hb dX3_init_8 rfl ?_
    refine cI (wr := ([(h, .inr (3, [.null, .null, .null]))] : va_W)) (wB := fun (U5 : Nat → Nat) => (wB cA U5 zB)) (As := []) (rest := [.ref q5, .ref h]) (wc := ([(q5, .inr (0, [.null, .null, .null, .int 0, .int 0]))] : va_W)) ⟨hx, hb, hml, hown, hts⟩ (K_X0_init lch D cA q5 H.size ) (cwI 0 hts gX3_init_X0_init rfl rfl rfl kw5 kw8 kw7 rfl (by decide +kernel) ⟨Nat.le_of_ble_eq_true rfl, Nat.le_of_ble_eq_true rfl⟩) hE hP hD hS hA [1] [0] rfl rfl rfl rfl (by decide) X0.blind (fun _ _ _ => trivial) hl.1 rfl rfl (Nat.le_of_ble_eq_true rfl) dX3_init_9 ⟨Nat.le_of_ble_eq_true rfl, Nat.le_of_ble_eq_true rfl⟩ (fun U5 H locs hu5 hP9 hD9 hS9 => ?_)
    clear hP hD hS
    subst hu5
    have hP := hP9
    have hD := hD9
    have hS := hS9
    clear hP9 hD9 hS9
    refine W.widen (k := 7) (n := 251) (by omega) (by omega) ?_
    have hP : va_P D vwCl (([(h, .inr (3, [.null, .null, .null]))] : va_W) ++ (wB cA U5 zB)) H := hP
    have hD : va_D A (([(h, .inr (3, [.null, .null, .null]))] : va_W) ++ (wB cA U5 zB)) := hD
    refine va_putF (D := D) (ci := 3) (v := .ref (U5 0)) (ty := .object "LanternWeirs$Bed") (C := RX3) (T := TX3) (N := 3) hx hb hts inX3 tyX3 tyX3_ok nmX3 hown hE.1 hP hD hS 0 rfl rfl 0 (by decide) kf10 (fun _ h9 => h9) rfl hin rfl (by decide +kernel) rfl rfl (Nat.le_of_ble_eq_true rfl) dX3_init_12 (fun H locs hP hD hS => ?_)
    have hP : va_P D vwCl (([(h, .inr (3, [.ref (U5 0), .null, .null]))] : va_W) ++ (wB cA U5 zB)) H := hP
    have hD : va_D A (([(h, .inr (3, [.ref (U5 0), .null, .null]))] : va_W) ++ (wB cA U5 zB)) := hD
    refine lv_aload_n hx hb dX3_init_15 rfl (lv_at hl 0 rfl) ?_
    refine va_new (ci := 1) (fs := [.null, .null, .null, .null, .null, .null, .null, .null, .null, .null, .null, .int 0, .int 0]) (C := RX1) (T := TX1) (N := 13) hx hb hts inX1 tyX1 tyX1_ok hown kw11 kw12 kw13 hE.1 hP hD hS hA rfl (fun j hj => by rcases (show j = 0 ∨ j = 1 ∨ j = 2 ∨ j = 3 ∨ j = 4 ∨ j = 5 ∨ j = 6 ∨ j = 7 ∨ j = 8 ∨ j = 9 ∨ j = 10 ∨ j = 11 ∨ j = 12 by omega) with rfl | rfl | rfl | rfl | rfl | rfl | rfl | rfl | rfl | rfl | rfl | rfl | rfl <;> rfl) (Nat.le_of_ble_eq_true rfl) (Nat.le_of_ble_eq_true rfl) dX3_init_16 (fun q16 H hP hD hS => ?_)
    refine W.widen (k := 8) (n := 264) (by omega) (by omega) ?_
    have hP : va_P D vwCl ([(h, .inr (3, [.ref (U5 0), .null, .null])), (U5 0, .inr (0, [.ref (U5 1), .ref (U5 2), .ref (U5 3), .int (nI (bW zB)), .int (nI (bK zB))])), (U5 1, .inr (2, [.ref (U5 4)])), (U5 2, .inr (2, [.ref (U5 5)])), (U5 3, .inr (2, [.ref (U5 6)])), (U5 4, .inl (cA, 3, .inl (fun z9 => nI (bCu zB z9)))), (U5 5, .inl (cA, 60, .inl (bSp zB))), (U5 6, .inl (cA, 180, .inl (fun z9 => bi (bNe zB z9)))), (q16, .inr (1, [.null, .null, .null, .null, .null, .null, .null, .null, .null, .null, .null, .int 0, .int 0]))] : va_W) H := hP
    have hD : va_D A ([(h, .inr (3, [.ref (U5 0), .null, .null])), (U5 0, .inr (0, [.ref (U5 1), .ref (U5 2), .ref (U5 3), .int (nI (bW zB)), .int (nI (bK zB))])), (U5 1, .inr (2, [.ref (U5 4)])), (U5 2, .inr (2, [.ref (U5 5)])), (U5 3, .inr (2, [.ref (U5 6)])), (U5 4, .inl (cA, 3, .inl (fun z9 => nI (bCu zB z9)))), (U5 5, .inl (cA, 60, .inl (bSp zB))), (U5 6, .inl (cA, 180, .inl (fun z9 => bi (bNe zB z9)))), (q16, .inr (1, [.null, .null, .null, .null, .null, .null, .null, .null, .null, .null, .null, .int 0, .int 0]))] : va_W) := hD
    refine lv_dup hx hb dX3_init_19 rfl ?_
    refine cIN (wr := ([(h, .inr (3, [.ref (U5 0), .null, .null])), (U5 0, .inr (0, [.ref (U5 1), .ref (U5 2), .ref (U5 3), .int (nI (bW zB)), .int (nI (bK zB))])), (U5 1, .inr (2, [.ref (U5 4)])), (U5 2, .inr (2, [.ref (U5 5)])), (U5 3, .inr (2, [.ref (U5 6)])), (U5 4, .inl (cA, 3, .inl (fun z9 => nI (bCu zB z9)))), (U5 5, .inl (cA, 60, .inl (bSp zB))), (U5 6, .inl (cA, 180, .inl (fun z9 => bi (bNe zB z9))))] : va_W)) (wB := fun (U16 : Nat → Nat) => (wF cA U16 zF (fun _ => 0) (fun _ => 0))) (As := []) (rest := [.ref q16, .ref h]) (wc := ([(q16, .inr (1, [.null, .null, .null, .null, .null, .null, .null, .null, .null, .null, .null, .int 0, .int 0]))] : va_W)) ⟨hx, hb, hml, hown, hts⟩ (K_X1_init lch D cA q16 H.size ) ⟨va_cnB 0 hts gX3_init_X1_init_n18 rfl rfl rfl (hE.2.2 (.methodLinkNest "LanternWeirs" 18 ⟨"LanternWeirs$Fleet", "<init>", "()V"⟩ "LanternWeirs") (by decide +kernel)) kw13 (by decide +kernel) ⟨Nat.le_of_ble_eq_true rfl, Nat.le_of_ble_eq_true rfl⟩, rfl, kw15⟩ hE hP hD hS hA [8] [0, 1, 2, 3, 4, 5, 6, 7] rfl rfl rfl rfl (by decide) X0.blind (fun _ _ _ => trivial) hl.1 rfl rfl (Nat.le_of_ble_eq_true rfl) dX3_init_20 ⟨Nat.le_of_ble_eq_true rfl, Nat.le_of_ble_eq_true rfl⟩ (fun U16 H locs hu16 hP9 hD9 hS9 => ?_)
    clear hP hD hS
    subst hu16
    have hP := hP9
    have hD := hD9
    have hS := hS9
    clear hP9 hD9 hS9
    refine W.widen (k := 30) (n := 1225) (by omega) (by omega) ?_
    have hP : va_P D vwCl (([(h, .inr (3, [.ref (U5 0), .null, .null]))] : va_W) ++ ((wB cA U5 zB) ++ (wF cA U16 zF (fun _ => 0) (fun _ => 0)))) H := hP
    have hD : va_D A (([(h, .inr (3, [.ref (U5 0), .null, .null]))] : va_W) ++ ((wB cA U5 zB) ++ (wF cA U16 zF (fun _ => 0) (fun _ => 0)))) := hD
    refine va_putF (D := D) (ci := 3) (v := .ref (U16 0)) (ty := .object "LanternWeirs$Fleet") (C := RX3) (T := TX3) (N := 3) hx hb hts inX3 tyX3 tyX3_ok nmX3 hown hE.1 hP hD hS 0 rfl rfl 1 (by decide) kf19 (fun _ h9 => h9) rfl hin rfl (by decide +kernel) rfl rfl (Nat.le_of_ble_eq_true rfl) dX3_init_23 (fun H locs hP hD hS => ?_)
    have hP : va_P D vwCl (([(h, .inr (3, [.ref (U5 0), .ref (U16 0), .null]))] : va_W) ++ ((wB cA U5 zB) ++ (wF cA U16 zF (fun _ => 0) (fun _ => 0)))) H := hP
    have hD : va_D A (([(h, .inr (3, [.ref (U5 0), .ref (U16 0), .null]))] : va_W) ++ ((wB cA U5 zB) ++ (wF cA U16 zF (fun _ => 0) (fun _ => 0)))) := hD
    refine lv_aload_n hx hb dX3_init_26 rfl (lv_at hl 0 rfl) ?_
    refine va_new (ci := 1) (fs := [.null, .null, .null, .null, .null, .null, .null, .null, .null, .null, .null, .int 0, .int 0]) (C := RX1) (T := TX1) (N := 13) hx hb hts inX1 tyX1 tyX1_ok hown kw11 kw12 kw13 hE.1 hP hD hS hA rfl (fun j hj => by rcases (show j = 0 ∨ j = 1 ∨ j = 2 ∨ j = 3 ∨ j = 4 ∨ j = 5 ∨ j = 6 ∨ j = 7 ∨ j = 8 ∨ j = 9 ∨ j = 10 ∨ j = 11 ∨ j = 12 by omega) with rfl | rfl | rfl | rfl | rfl | rfl | rfl | rfl | rfl | rfl | rfl | rfl | rfl <;> rfl) (Nat.le_of_ble_eq_true rfl) (Nat.le_of_ble_eq_true rfl) dX3_init_27 (fun q27 H hP hD hS => ?_)
    refine W.widen (k := 31) (n := 1238) (by omega) (by omega) ?_
    have hP : va_P D vwCl ([(h, .inr (3, [.ref (U5 0), .ref (U16 0), .null])), (U5 0, .inr (0, [.ref (U5 1), .ref (U5 2), .ref (U5 3), .int (nI (bW zB)), .int (nI (bK zB))])), (U5 1, .inr (2, [.ref (U5 4)])), (U5 2, .inr (2, [.ref (U5 5)])), (U5 3, .inr (2, [.ref (U5 6)])), (U5 4, .inl (cA, 3, .inl (fun z9 => nI (bCu zB z9)))), (U5 5, .inl (cA, 60, .inl (bSp zB))), (U5 6, .inl (cA, 180, .inl (fun z9 => bi (bNe zB z9)))), (U16 0, .inr (1, [.ref (U16 1), .ref (U16 2), .ref (U16 3), .ref (U16 4), .ref (U16 5), .ref (U16 6), .ref (U16 7), .ref (U16 8), .ref (U16 9), .ref (U16 10), .ref (U16 11), .int (nI (qN zF)), .int (qM zF)])), (U16 1, .inr (2, [.ref (U16 12)])), (U16 2, .inr (2, [.ref (U16 13)])), (U16 3, .inr (2, [.ref (U16 14)])), (U16 4, .inr (2, [.ref (U16 15)])), (U16 5, .inr (2, [.ref (U16 16)])), (U16 6, .inr (2, [.ref (U16 17)])), (U16 7, .inr (2, [.ref (U16 18)])), (U16 8, .inr (2, [.ref (U16 19)])), (U16 9, .inr (2, [.ref (U16 20)])), (U16 10, .inr (2, [.ref (U16 21)])), (U16 11, .inr (2, [.ref (U16 22)])), (U16 12, .inl (cA, 41, .inl (fun z9 => nI (qFr zF z9)))), (U16 13, .inl (cA, 41, .inl (qWi zF))), (U16 14, .inl (cA, 41, .inl (fun z9 => nI (qLa zF z9)))), (U16 15, .inl (cA, 41, .inl (fun z9 => nI (qPl zF z9)))), (U16 16, .inl (cA, 41, .inl (fun z9 => nI (qWx zF z9)))), (U16 17, .inl (cA, 41, .inl (qWe zF))), (U16 18, .inl (cA, 41, .inl (fun z9 => bi (qBu zF z9)))), (U16 19, .inl (cA, 41, .inl (fun z9 => nI (qSt zF z9)))), (U16 20, .inl (cA, 41, .inl (qEn zF))), (U16 21, .inl (cA, 540, .inl (fun _ => 0))), (U16 22, .inl (cA, 41, .inl (fun _ => 0))), (q27, .inr (1, [.null, .null, .null, .null, .null, .null, .null, .null, .null, .null, .null, .int 0, .int 0]))] : va_W) H := hP
    have hD : va_D A ([(h, .inr (3, [.ref (U5 0), .ref (U16 0), .null])), (U5 0, .inr (0, [.ref (U5 1), .ref (U5 2), .ref (U5 3), .int (nI (bW zB)), .int (nI (bK zB))])), (U5 1, .inr (2, [.ref (U5 4)])), (U5 2, .inr (2, [.ref (U5 5)])), (U5 3, .inr (2, [.ref (U5 6)])), (U5 4, .inl (cA, 3, .inl (fun z9 => nI (bCu zB z9)))), (U5 5, .inl (cA, 60, .inl (bSp zB))), (U5 6, .inl (cA, 180, .inl (fun z9 => bi (bNe zB z9)))), (U16 0, .inr (1, [.ref (U16 1), .ref (U16 2), .ref (U16 3), .ref (U16 4), .ref (U16 5), .ref (U16 6), .ref (U16 7), .ref (U16 8), .ref (U16 9), .ref (U16 10), .ref (U16 11), .int (nI (qN zF)), .int (qM zF)])), (U16 1, .inr (2, [.ref (U16 12)])), (U16 2, .inr (2, [.ref (U16 13)])), (U16 3, .inr (2, [.ref (U16 14)])), (U16 4, .inr (2, [.ref (U16 15)])), (U16 5, .inr (2, [.ref (U16 16)])), (U16 6, .inr (2, [.ref (U16 17)])), (U16 7, .inr (2, [.ref (U16 18)])), (U16 8, .inr (2, [.ref (U16 19)])), (U16 9, .inr (2, [.ref (U16 20)])), (U16 10, .inr (2, [.ref (U16 21)])), (U16 11, .inr (2, [.ref (U16 22)])), (U16 12, .inl (cA, 41, .inl (fun z9 => nI (qFr zF z9)))), (U16 13, .inl (cA, 41, .inl (qWi zF))), (U16 14, .inl (cA, 41, .inl (fun z9 => nI (qLa zF z9)))), (U16 15, .inl (cA, 41, .inl (fun z9 => nI (qPl zF z9)))), (U16 16, .inl (cA, 41, .inl (fun z9 => nI (qWx zF z9)))), (U16 17, .inl (cA, 41, .inl (qWe zF))), (U16 18, .inl (cA, 41, .inl (fun z9 => bi (qBu zF z9)))), (U16 19, .inl (cA, 41, .inl (fun z9 => nI (qSt zF z9)))), (U16 20, .inl (cA, 41, .inl (qEn zF))), (U16 21, .inl (cA, 540, .inl (fun _ => 0))), (U16 22, .inl (cA, 41, .inl (fun _ => 0))), (q27, .inr (1, [.null, .null, .null, .null, .null, .null, .null, .null, .null, .null, .null, .int 0, .int 0]))] : va_W) := hD
    refine lv_dup hx hb dX3_init_30 rfl ?_
    refine cIN (wr := ([(h, .inr (3, [.ref (U5 0), .ref (U16 0), .null])), (U5 0, .inr (0, [.ref (U5 1), .ref (U5 2), .ref (U5 3), .int (nI (bW zB)), .int (nI (bK zB))])), (U5 1, .inr (2, [.ref (U5 4)])), (U5 2, .inr (2, [.ref (U5 5)])), (U5 3, .inr (2, [.ref (U5 6)])), (U5 4, .inl (cA, 3, .inl (fun z9 => nI (bCu zB z9)))), (U5 5, .inl (cA, 60, .inl (bSp zB))), (U5 6, .inl (cA, 180, .inl (fun z9 => bi (bNe zB z9)))), (U16 0, .inr (1, [.ref (U16 1), .ref (U16 2), .ref (U16 3), .ref (U16 4), .ref (U16 5), .ref (U16 6), .ref (U16 7), .ref (U16 8), .ref (U16 9), .ref (U16 10), .ref (U16 11), .int (nI (qN zF)), .int (qM zF)])), (U16 1, .inr (2, [.ref (U16 12)])), (U16 2, .inr (2, [.ref (U16 13)])), (U16 3, .inr (2, [.ref (U16 14)])), (U16 4, .inr (2, [.ref (U16 15)])), (U16 5, .inr (2, [.ref (U16 16)])), (U16 6, .inr (2, [.ref (U16 17)])), (U16 7, .inr (2, [.ref (U16 18)])), (U16 8, .inr (2, [.ref (U16 19)])), (U16 9, .inr (2, [.ref (U16 20)])), (U16 10, .inr (2, [.ref (U16 21)])), (U16 11, .inr (2, [.ref (U16 22)])), (U16 12, .inl (cA, 41, .inl (fun z9 => nI (qFr zF z9)))), (U16 13, .inl (cA, 41, .inl (qWi zF))), (U16 14, .inl (cA, 41, .inl (fun z9 => nI (qLa zF z9)))), (U16 15, .inl (cA, 41, .inl (fun z9 => nI (qPl zF z9)))), (U16 16, .inl (cA, 41, .inl (fun z9 => nI (qWx zF z9)))), (U16 17, .inl (cA, 41, .inl (qWe zF))), (U16 18, .inl (cA, 41, .inl (fun z9 => bi (qBu zF z9)))), (U16 19, .inl (cA, 41, .inl (fun z9 => nI (qSt zF z9)))), (U16 20, .inl (cA, 41, .inl (qEn zF))), (U16 21, .inl (cA, 540, .inl (fun _ => 0))), (U16 22, .inl (cA, 41, .inl (fun _ => 0)))] : va_W)) (wB := fun (U27 : Nat → Nat) => (wF cA U27 zF (fun _ => 0) (fun _ => 0))) (As := []) (rest := [.ref q27, .ref h]) (wc := ([(q27, .inr (1, [.null, .null, .null, .null, .null, .null, .null, .null, .null, .null, .null, .int 0, .int 0]))] : va_W)) ⟨hx, hb, hml, hown, hts⟩ (K_X1_init lch D cA q27 H.size ) ⟨va_cnB 0 hts gX3_init_X1_init_n18 rfl rfl rfl (hE.2.2 (.methodLinkNest "LanternWeirs" 18 ⟨"LanternWeirs$Fleet", "<init>", "()V"⟩ "LanternWeirs") (by decide +kernel)) kw13 (by decide +kernel) ⟨Nat.le_of_ble_eq_true rfl, Nat.le_of_ble_eq_true rfl⟩, rfl, kw15⟩ hE hP hD hS hA [31] [0, 1, 2, 3, 4, 5, 6, 7, 8, 9, 10, 11, 12, 13, 14, 15, 16, 17, 18, 19, 20, 21, 22, 23, 24, 25, 26, 27, 28, 29, 30] rfl rfl rfl rfl (by decide) X0.blind (fun _ _ _ => trivial) hl.1 rfl rfl (Nat.le_of_ble_eq_true rfl) dX3_init_31 ⟨Nat.le_of_ble_eq_true rfl, Nat.le_of_ble_eq_true rfl⟩ (fun U27 H locs hu27 hP9 hD9 hS9 => ?_)
    clear hP hD hS
    subst hu27
    have hP := hP9
    have hD := hD9
    have hS := hS9
    clear hP9 hD9 hS9
    refine W.widen (k := 53) (n := 2199) (by omega) (by omega) ?_
    have hP : va_P D vwCl (([(h, .inr (3, [.ref (U5 0), .ref (U16 0), .null]))] : va_W) ++ ((wB cA U5 zB) ++ ((wF cA U16 zF (fun _ => 0) (fun _ => 0)) ++ (wF cA U27 zF (fun _ => 0) (fun _ => 0))))) H := hP
    have hD : va_D A (([(h, .inr (3, [.ref (U5 0), .ref (U16 0), .null]))] : va_W) ++ ((wB cA U5 zB) ++ ((wF cA U16 zF (fun _ => 0) (fun _ => 0)) ++ (wF cA U27 zF (fun _ => 0) (fun _ => 0))))) := hD
    refine va_putF (D := D) (ci := 3) (v := .ref (U27 0)) (ty := .object "LanternWeirs$Fleet") (C := RX3) (T := TX3) (N := 3) hx hb hts inX3 tyX3 tyX3_ok nmX3 hown hE.1 hP hD hS 0 rfl rfl 2 (by decide) kf23 (fun _ h9 => h9) rfl hin rfl (by decide +kernel) rfl rfl (Nat.le_of_ble_eq_true rfl) dX3_init_34 (fun H locs hP hD hS => ?_)
    have hP : va_P D vwCl (([(h, .inr (3, [.ref (U5 0), .ref (U16 0), .ref (U27 0)]))] : va_W) ++ ((wB cA U5 zB) ++ ((wF cA U16 zF (fun _ => 0) (fun _ => 0)) ++ (wF cA U27 zF (fun _ => 0) (fun _ => 0))))) H := hP
    have hD : va_D A (([(h, .inr (3, [.ref (U5 0), .ref (U16 0), .ref (U27 0)]))] : va_W) ++ ((wB cA U5 zB) ++ ((wF cA U16 zF (fun _ => 0) (fun _ => 0)) ++ (wF cA U27 zF (fun _ => 0) (fun _ => 0))))) := hD
    rw [hQQ]
    exact W.vret hx hb hr (fun t ht hW => ⟨⟨(U5, U16, U27), rfl, trivial, ⟨by rw [ht]; exact hP, hD⟩⟩, hS.F ht⟩) hS.2.2 dX3_init_37
  rw [hg1, hg2] at hgoal
  exact hgoal
