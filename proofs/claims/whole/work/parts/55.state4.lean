set_option maxHeartbeats 4000000 in
set_option maxRecDepth 100000 in
/-- counted -/
theorem K_X4_counted (lch : Launch) (D : va_G) (cA : ClassId) (S : Nat → Nat) (y : Nat) (a : FSt) (q : Nat → Int32) (E : Nat → Nat) (s1 : Nat) (s2 : Nat) (th : Int32) (b : BSt) (z1 : Nat) (z2 : Nat) (w : Nat) (sz : Nat) (hw1 : WFa a) (hw : w ≤ 9) : Met lch yX4_counted wsX4_counted ({ frames := 0, cells := 1, slots := 10, locals := 0 }) (Pr D cA [.ref (S 0), .int (nI w)] sz ((wM cA y E s1 s2 th b) ++ (wS cA S y a q)) X0) (va_Qi (fun (r : Int32) (u : Unit) => r = countA a b w) (fun (u : Unit) t => va_P D vwCl ((wM cA y E s1 s2 th b) ++ (wS cA S y a q)) t.heap) (va_A ((wM cA y E s1 s2 th b) ++ (wS cA S y a q)) sz)) 1 10 (va_A ((wM cA y E s1 s2 th b) ++ (wS cA S y a q)) sz) := by
  refine Met.ofW (cc := cX4_counted) (maxL := 4) (ret := (some .int)) (by decide) rfl ?_
  intro pg ev s mi args below meth cd s₁ B hml hv
  obtain ⟨hav, hsz, hP, hE, hD, hXs⟩ := hv
  have hx := B.exec
  have hb := B.bytes
  have hr := B.returns
  have hts := atoms_spec (ws := wsX4_counted) B.pre
  have hown : s.vm.findClass RX4 = some mi.cls := findClass_of_methodNamed B.named
  have hlocks := B.notSynchronized
  clear B
  subst hav
  subst hsz
  have hD := hD.self (sz := s.heap.size)
  generalize hAe : va_A ((wM cA y E s1 s2 th b) ++ (wS cA S y a q)) s.heap.size = A at hD ⊢
  have hA : ∀ q : Nat, s.heap.size ≤ q → A q := fun q h => by rw [← hAe]; exact Or.inr h
  have hS : va_S A s.heap s.heap [] := va_S.rf
  obtain ⟨QQ, hQQ⟩ : ∃ qq9, qq9 = MQ below (va_Qi (fun (r : Int32) (u : Unit) => r = countA a b w) (fun (u : Unit) t => va_P D vwCl ((wM cA y E s1 s2 th b) ++ (wS cA S y a q)) t.heap) A) ([.ref (S 0), .int (nI w)] : List Value).toArray s 1 10 A := ⟨_, rfl⟩
  rw [← hQQ]
  have hl := lv_entry ([.ref (S 0), .int (nI w)]) (n := 4) (Nat.le_of_ble_eq_true rfl)
  rw [lg_entry_eq]
  generalize (lg_sl ([.ref (S 0), .int (nI w)]) ++ List.replicate (4 - (lg_sl ([.ref (S 0), .int (nI w)])).length) Slot.unset).toArray = ls at hl ⊢
  have hl : lv_has ls 4 [(0, .ref (S 0)), (1, .int (nI w))] := hl
  have kw0 := hts (.arrayClass .int) (by decide +kernel)
  have kf52 := hts (.fieldLink RX4 52 "LanternWeirsModel$State" "minute" "I") (by decide +kernel)
  have inX4 : ∀ w ∈ u_ws RX4 TX4 13, w ∈ wsX4_counted := by decide +kernel
  have kf56 := hts (.fieldLink RX4 56 "LanternWeirsModel$State" "lanterns" "I") (by decide +kernel)
  have kf3 := hts (.fieldLink RX4 3 "LanternWeirsModel$State" "this$0" "LLanternWeirsModel;") (by decide +kernel)
  have kf114 := va_Nw.use (A := ([.ref (S 0), .int (nI w)] : List Value).toArray) rfl (hE.2.2 (.fieldLinkNest "LanternWeirsModel$State" 114 "LanternWeirsModel" "weirs" "I" "LanternWeirsModel") (by decide +kernel))
  have inX5 : ∀ w ∈ u_ws RX5 TX5 8, w ∈ wsX4_counted := by decide +kernel
  have kf117 := va_Nw.use (A := ([.ref (S 0), .int (nI w)] : List Value).toArray) rfl (hE.2.2 (.fieldLinkNest "LanternWeirsModel$State" 117 "LanternWeirsModel" "nets" "I" "LanternWeirsModel") (by decide +kernel))
  have kf37 := hts (.fieldLink RX4 37 "LanternWeirsModel$State" "state" "[I") (by decide +kernel)
  have kf34 := hts (.fieldLink RX4 34 "LanternWeirsModel$State" "burns" "[I") (by decide +kernel)
  have kf19 := hts (.fieldLink RX4 19 "LanternWeirsModel$State" "wish" "[I") (by decide +kernel)
  obtain ⟨H, locs, hP, hS, hgo⟩ : ∃ H locs, va_P D vwCl ((wM cA y E s1 s2 th b) ++ (wS cA S y a q)) H ∧ va_S A s.heap H locs ∧ (H = s.heap ∧ locs = []) := ⟨_, _, hP, hS, rfl, rfl⟩
  obtain ⟨hg1, hg2⟩ := hgo
  have hgoal : W pg lch ev (headSpec wsX4_counted ({ frames := 0, cells := 1, slots := 10, locals := 0 })).room s mi ([.ref (S 0), .int (nI w)] : List Value).toArray below meth cd H locs 0 0 QQ (F0 mi 0 ls []) := by
    have hn := hw1.1
    refine lv_bipush (v := 10) hx hb dX4_counted_0 (by decide) ?_
    refine na_i hx hb kw0 hE hP hD hS hA (N := 10) (Nat.le_of_ble_eq_true rfl) (Nat.le_of_ble_eq_true rfl) (Nat.le_of_ble_eq_true rfl) dX4_counted_2 (fun q2 H hP hD hS => ?_)
    refine W.widen (k := 1) (n := 10) (by omega) (by omega) ?_
    have hP : va_P D vwCl ((wM cA y E s1 s2 th b) ++ ((wS cA S y a q) ++ ([(q2, .inl (cA, 10, .inl (fun _ => 0)))] : va_W))) H := hP
    have hD : va_D A ((wM cA y E s1 s2 th b) ++ ((wS cA S y a q) ++ ([(q2, .inl (cA, 10, .inl (fun _ => 0)))] : va_W))) := hD
    refine lv_dup hx hb dX4_counted_4 rfl ?_
    refine lv_iconst (v := 0) hx hb dX4_counted_5 (by decide) ?_
    refine lv_aload_n hx hb dX4_counted_6 rfl (lv_at hl 0 rfl) ?_
    refine va_get (D := D) (ci := 4) (v := .int (qM a)) (C := RX4) (T := TX4) (N := 13) hx hb hts inX4 hown hE.1 hP 4 rfl rfl 0 (by decide) kf52 (fun _ h9 => h9) rfl dX4_counted_7 ?_
    refine ast hx hb hE hP hD hS 15 rfl (k := 0) (by omega) (Nat.le_of_ble_eq_true rfl) (upd (fun _ => 0) 0 (qM a)) (fun j _ => rfl) dX4_counted_10 (fun H locs hP hD hS => ?_)
    have hP : va_P D vwCl ((wM cA y E s1 s2 th b) ++ ((wS cA S y a q) ++ ([(q2, .inl (cA, 10, .inl (upd (fun _ => 0) 0 (qM a))))] : va_W))) H := hP
    have hD : va_D A ((wM cA y E s1 s2 th b) ++ ((wS cA S y a q) ++ ([(q2, .inl (cA, 10, .inl (upd (fun _ => 0) 0 (qM a))))] : va_W))) := hD
    refine lv_dup hx hb dX4_counted_11 rfl ?_
    refine lv_iconst (v := 1) hx hb dX4_counted_12 (by decide) ?_
    refine lv_aload_n hx hb dX4_counted_13 rfl (lv_at hl 0 rfl) ?_
    refine va_get (D := D) (ci := 4) (v := .int (nI (qN a))) (C := RX4) (T := TX4) (N := 13) hx hb hts inX4 hown hE.1 hP 4 rfl rfl 1 (by decide) kf56 (fun _ h9 => h9) rfl dX4_counted_14 ?_
    refine ast hx hb hE hP hD hS 15 rfl (k := 1) (by omega) (Nat.le_of_ble_eq_true rfl) (upd (upd (fun _ => 0) 0 (qM a)) 1 (nI (qN a))) (fun j _ => rfl) dX4_counted_17 (fun H locs hP hD hS => ?_)
    have hP : va_P D vwCl ((wM cA y E s1 s2 th b) ++ ((wS cA S y a q) ++ ([(q2, .inl (cA, 10, .inl (upd (upd (fun _ => 0) 0 (qM a)) 1 (nI (qN a)))))] : va_W))) H := hP
    have hD : va_D A ((wM cA y E s1 s2 th b) ++ ((wS cA S y a q) ++ ([(q2, .inl (cA, 10, .inl (upd (upd (fun _ => 0) 0 (qM a)) 1 (nI (qN a)))))] : va_W))) := hD
    refine lv_dup hx hb dX4_counted_18 rfl ?_
    refine lv_iconst (v := 2) hx hb dX4_counted_19 (by decide) ?_
    refine lv_iconst (v := 0) hx hb dX4_counted_20 (by decide) ?_
    refine ast hx hb hE hP hD hS 15 rfl (k := 2) (by omega) (Nat.le_of_ble_eq_true rfl) (upd (upd (upd (fun _ => 0) 0 (qM a)) 1 (nI (qN a))) 2 0) (fun j _ => rfl) dX4_counted_21 (fun H locs hP hD hS => ?_)
    have hP : va_P D vwCl ((wM cA y E s1 s2 th b) ++ ((wS cA S y a q) ++ ([(q2, .inl (cA, 10, .inl (upd (upd (upd (fun _ => 0) 0 (qM a)) 1 (nI (qN a))) 2 0)))] : va_W))) H := hP
    have hD : va_D A ((wM cA y E s1 s2 th b) ++ ((wS cA S y a q) ++ ([(q2, .inl (cA, 10, .inl (upd (upd (upd (fun _ => 0) 0 (qM a)) 1 (nI (qN a))) 2 0)))] : va_W))) := hD
    refine lv_dup hx hb dX4_counted_22 rfl ?_
    refine lv_iconst (v := 3) hx hb dX4_counted_23 (by decide) ?_
    refine lv_iconst (v := 0) hx hb dX4_counted_24 (by decide) ?_
    refine ast hx hb hE hP hD hS 15 rfl (k := 3) (by omega) (Nat.le_of_ble_eq_true rfl) (upd (upd (upd (upd (fun _ => 0) 0 (qM a)) 1 (nI (qN a))) 2 0) 3 0) (fun j _ => rfl) dX4_counted_25 (fun H locs hP hD hS => ?_)
    have hP : va_P D vwCl ((wM cA y E s1 s2 th b) ++ ((wS cA S y a q) ++ ([(q2, .inl (cA, 10, .inl (upd (upd (upd (upd (fun _ => 0) 0 (qM a)) 1 (nI (qN a))) 2 0) 3 0)))] : va_W))) H := hP
    have hD : va_D A ((wM cA y E s1 s2 th b) ++ ((wS cA S y a q) ++ ([(q2, .inl (cA, 10, .inl (upd (upd (upd (upd (fun _ => 0) 0 (qM a)) 1 (nI (qN a))) 2 0) 3 0)))] : va_W))) := hD
    refine lv_dup hx hb dX4_counted_26 rfl ?_
    refine lv_iconst (v := 4) hx hb dX4_counted_27 (by decide) ?_
    refine lv_iconst (v := 0) hx hb dX4_counted_28 (by decide) ?_
    refine ast hx hb hE hP hD hS 15 rfl (k := 4) (by omega) (Nat.le_of_ble_eq_true rfl) (upd (upd (upd (upd (upd (fun _ => 0) 0 (qM a)) 1 (nI (qN a))) 2 0) 3 0) 4 0) (fun j _ => rfl) dX4_counted_29 (fun H locs hP hD hS => ?_)
    have hP : va_P D vwCl ((wM cA y E s1 s2 th b) ++ ((wS cA S y a q) ++ ([(q2, .inl (cA, 10, .inl (upd (upd (upd (upd (upd (fun _ => 0) 0 (qM a)) 1 (nI (qN a))) 2 0) 3 0) 4 0)))] : va_W))) H := hP
    have hD : va_D A ((wM cA y E s1 s2 th b) ++ ((wS cA S y a q) ++ ([(q2, .inl (cA, 10, .inl (upd (upd (upd (upd (upd (fun _ => 0) 0 (qM a)) 1 (nI (qN a))) 2 0) 3 0) 4 0)))] : va_W))) := hD
    refine lv_dup hx hb dX4_counted_30 rfl ?_
    refine lv_iconst (v := 5) hx hb dX4_counted_31 (by decide) ?_
    refine lv_iconst (v := 0) hx hb dX4_counted_32 (by decide) ?_
    refine ast hx hb hE hP hD hS 15 rfl (k := 5) (by omega) (Nat.le_of_ble_eq_true rfl) (upd (upd (upd (upd (upd (upd (fun _ => 0) 0 (qM a)) 1 (nI (qN a))) 2 0) 3 0) 4 0) 5 0) (fun j _ => rfl) dX4_counted_33 (fun H locs hP hD hS => ?_)
    have hP : va_P D vwCl ((wM cA y E s1 s2 th b) ++ ((wS cA S y a q) ++ ([(q2, .inl (cA, 10, .inl (upd (upd (upd (upd (upd (upd (fun _ => 0) 0 (qM a)) 1 (nI (qN a))) 2 0) 3 0) 4 0) 5 0)))] : va_W))) H := hP
    have hD : va_D A ((wM cA y E s1 s2 th b) ++ ((wS cA S y a q) ++ ([(q2, .inl (cA, 10, .inl (upd (upd (upd (upd (upd (upd (fun _ => 0) 0 (qM a)) 1 (nI (qN a))) 2 0) 3 0) 4 0) 5 0)))] : va_W))) := hD
    refine lv_dup hx hb dX4_counted_34 rfl ?_
    refine lv_bipush (v := 6) hx hb dX4_counted_35 (by decide) ?_
    refine lv_iconst (v := 0) hx hb dX4_counted_37 (by decide) ?_
    refine ast hx hb hE hP hD hS 15 rfl (k := 6) (by omega) (Nat.le_of_ble_eq_true rfl) (upd (upd (upd (upd (upd (upd (upd (fun _ => 0) 0 (qM a)) 1 (nI (qN a))) 2 0) 3 0) 4 0) 5 0) 6 0) (fun j _ => rfl) dX4_counted_38 (fun H locs hP hD hS => ?_)
    have hP : va_P D vwCl ((wM cA y E s1 s2 th b) ++ ((wS cA S y a q) ++ ([(q2, .inl (cA, 10, .inl (upd (upd (upd (upd (upd (upd (upd (fun _ => 0) 0 (qM a)) 1 (nI (qN a))) 2 0) 3 0) 4 0) 5 0) 6 0)))] : va_W))) H := hP
    have hD : va_D A ((wM cA y E s1 s2 th b) ++ ((wS cA S y a q) ++ ([(q2, .inl (cA, 10, .inl (upd (upd (upd (upd (upd (upd (upd (fun _ => 0) 0 (qM a)) 1 (nI (qN a))) 2 0) 3 0) 4 0) 5 0) 6 0)))] : va_W))) := hD
    refine lv_dup hx hb dX4_counted_39 rfl ?_
    refine lv_bipush (v := 7) hx hb dX4_counted_40 (by decide) ?_
    refine lv_aload_n hx hb dX4_counted_42 rfl (lv_at hl 0 rfl) ?_
    refine va_get (D := D) (ci := 4) (v := .ref y) (C := RX4) (T := TX4) (N := 13) hx hb hts inX4 hown hE.1 hP 4 rfl rfl 12 (by decide) kf3 (fun _ h9 => h9) rfl dX4_counted_43 ?_
    refine va_getN (D := D) (ci := 5) (v := .int (nI (bW b))) (C := RX5) (T := TX5) (N := 8) hx hb hts inX5 hown hE.1 hP 0 rfl rfl 2 (by decide) kf114 (fun _ h9 => h9) rfl dX4_counted_46 ?_
    refine ast hx hb hE hP hD hS 15 rfl (k := 7) (by omega) (Nat.le_of_ble_eq_true rfl) (upd (upd (upd (upd (upd (upd (upd (upd (fun _ => 0) 0 (qM a)) 1 (nI (qN a))) 2 0) 3 0) 4 0) 5 0) 6 0) 7 (nI (bW b))) (fun j _ => rfl) dX4_counted_49 (fun H locs hP hD hS => ?_)
    have hP : va_P D vwCl ((wM cA y E s1 s2 th b) ++ ((wS cA S y a q) ++ ([(q2, .inl (cA, 10, .inl (upd (upd (upd (upd (upd (upd (upd (upd (fun _ => 0) 0 (qM a)) 1 (nI (qN a))) 2 0) 3 0) 4 0) 5 0) 6 0) 7 (nI (bW b)))))] : va_W))) H := hP
    have hD : va_D A ((wM cA y E s1 s2 th b) ++ ((wS cA S y a q) ++ ([(q2, .inl (cA, 10, .inl (upd (upd (upd (upd (upd (upd (upd (upd (fun _ => 0) 0 (qM a)) 1 (nI (qN a))) 2 0) 3 0) 4 0) 5 0) 6 0) 7 (nI (bW b)))))] : va_W))) := hD
    refine lv_dup hx hb dX4_counted_50 rfl ?_
    refine lv_bipush (v := 8) hx hb dX4_counted_51 (by decide) ?_
    refine lv_aload_n hx hb dX4_counted_53 rfl (lv_at hl 0 rfl) ?_
    refine va_get (D := D) (ci := 4) (v := .ref y) (C := RX4) (T := TX4) (N := 13) hx hb hts inX4 hown hE.1 hP 4 rfl rfl 12 (by decide) kf3 (fun _ h9 => h9) rfl dX4_counted_54 ?_
    refine va_getN (D := D) (ci := 5) (v := .int (nI (bK b))) (C := RX5) (T := TX5) (N := 8) hx hb hts inX5 hown hE.1 hP 0 rfl rfl 4 (by decide) kf117 (fun _ h9 => h9) rfl dX4_counted_57 ?_
    refine ast hx hb hE hP hD hS 15 rfl (k := 8) (by omega) (Nat.le_of_ble_eq_true rfl) (upd (upd (upd (upd (upd (upd (upd (upd (upd (fun _ => 0) 0 (qM a)) 1 (nI (qN a))) 2 0) 3 0) 4 0) 5 0) 6 0) 7 (nI (bW b))) 8 (nI (bK b))) (fun j _ => rfl) dX4_counted_60 (fun H locs hP hD hS => ?_)
    have hP : va_P D vwCl ((wM cA y E s1 s2 th b) ++ ((wS cA S y a q) ++ ([(q2, .inl (cA, 10, .inl (upd (upd (upd (upd (upd (upd (upd (upd (upd (fun _ => 0) 0 (qM a)) 1 (nI (qN a))) 2 0) 3 0) 4 0) 5 0) 6 0) 7 (nI (bW b))) 8 (nI (bK b)))))] : va_W))) H := hP
    have hD : va_D A ((wM cA y E s1 s2 th b) ++ ((wS cA S y a q) ++ ([(q2, .inl (cA, 10, .inl (upd (upd (upd (upd (upd (upd (upd (upd (upd (fun _ => 0) 0 (qM a)) 1 (nI (qN a))) 2 0) 3 0) 4 0) 5 0) 6 0) 7 (nI (bW b))) 8 (nI (bK b)))))] : va_W))) := hD
    refine lv_dup hx hb dX4_counted_61 rfl ?_
    refine lv_bipush (v := 9) hx hb dX4_counted_62 (by decide) ?_
    refine lv_iconst (v := 0) hx hb dX4_counted_64 (by decide) ?_
    refine ast hx hb hE hP hD hS 15 rfl (k := 9) (by omega) (Nat.le_of_ble_eq_true rfl) (upd (upd (upd (upd (upd (upd (upd (upd (upd (upd (fun _ => 0) 0 (qM a)) 1 (nI (qN a))) 2 0) 3 0) 4 0) 5 0) 6 0) 7 (nI (bW b))) 8 (nI (bK b))) 9 0) (fun j _ => rfl) dX4_counted_65 (fun H locs hP hD hS => ?_)
    have hP : va_P D vwCl ((wM cA y E s1 s2 th b) ++ ((wS cA S y a q) ++ ([(q2, .inl (cA, 10, .inl (upd (upd (upd (upd (upd (upd (upd (upd (upd (upd (fun _ => 0) 0 (qM a)) 1 (nI (qN a))) 2 0) 3 0) 4 0) 5 0) 6 0) 7 (nI (bW b))) 8 (nI (bK b))) 9 0)))] : va_W))) H := hP
    have hD : va_D A ((wM cA y E s1 s2 th b) ++ ((wS cA S y a q) ++ ([(q2, .inl (cA, 10, .inl (upd (upd (upd (upd (upd (upd (upd (upd (upd (upd (fun _ => 0) 0 (qM a)) 1 (nI (qN a))) 2 0) 3 0) 4 0) 5 0) 6 0) 7 (nI (bW b))) 8 (nI (bK b))) 9 0)))] : va_W))) := hD
    refine lv_astore_n (lv' := [(2, .ref q2), (0, .ref (S 0)), (1, .int (nI w))]) hx hb dX4_counted_66 rfl hl (by decide) rfl (fun ls hl => ?_)
    have hP : va_P D vwCl ((wM cA y E s1 s2 th b) ++ ((wS cA S y a q) ++ ([(q2, .inl (cA, 10, .inl (cnt0 a b)))] : va_W))) H := hP.arr 15 (cnt0 a b) rfl (cnt0_base a b)
    have hD : va_D A ((wM cA y E s1 s2 th b) ++ ((wS cA S y a q) ++ ([(q2, .inl (cA, 10, .inl (cnt0 a b)))] : va_W))) := hD.set (p := 15) rfl
    have hP : va_P D vwCl ((wM cA y E s1 s2 th b) ++ ((wS cA S y a q) ++ ([(q2, .inl (cA, 10, .inl (cntR a b 0)))] : va_W))) H := hP
    have hD : va_D A ((wM cA y E s1 s2 th b) ++ ((wS cA S y a q) ++ ([(q2, .inl (cA, 10, .inl (cntR a b 0)))] : va_W))) := hD
    refine lv_iconst (v := 0) hx hb dX4_counted_67 (by decide) ?_
    refine lv_istore_n (lv' := [(3, .int 0), (2, .ref q2), (0, .ref (S 0)), (1, .int (nI w))]) hx hb dX4_counted_68 rfl hl (by decide) rfl (fun ls hl => ?_)
    have L69 : ∀ (fu69 : Nat) (k : Nat), (k ≤ qN a) → qN a - k < fu69 → ∀ (H : Heap) (locs : List Loc), va_P D vwCl ((wM cA y E s1 s2 th b) ++ ((wS cA S y a q) ++ ([(q2, .inl (cA, 10, .inl (cntR a b k)))] : va_W))) H → va_D A ((wM cA y E s1 s2 th b) ++ ((wS cA S y a q) ++ ([(q2, .inl (cA, 10, .inl (cntR a b k)))] : va_W))) → va_S A s.heap H locs → ∀ ls : Array Slot, lv_has ls 4 [(3, .int (nI k)), (2, .ref q2), (0, .ref (S 0)), (1, .int (nI w))] → W pg lch ev (headSpec wsX4_counted ({ frames := 0, cells := 1, slots := 10, locals := 0 })).room s mi ([.ref (S 0), .int (nI w)] : List Value).toArray below meth cd H locs 1 10 QQ (F0 mi 69 ls []) := by
      intro fu69
      induction fu69 with
      | zero => intro k hk2 hms; exact absurd hms (Nat.not_lt_zero _)
      | succ fu69 ih69 =>
        intro k hk2 hms69 H locs hP hD hS ls hl
        refine lv_iload_n hx hb dX4_counted_69 rfl (lv_at hl 0 rfl) ?_
        refine lv_aload_n hx hb dX4_counted_70 rfl (lv_at hl 2 rfl) ?_
        refine va_get (D := D) (ci := 4) (v := .int (nI (qN a))) (C := RX4) (T := TX4) (N := 13) hx hb hts inX4 hown hE.1 hP 4 rfl rfl 1 (by decide) kf56 (fun _ h9 => h9) rfl dX4_counted_71 ?_
        refine lv_icmp_ge (tgt := 150) hx hb dX4_counted_74 (by decide) (fun c74 => ?_) (fun c74 => ?_)
        · skip
          have c74 := (nI_leI (a := qN a) (b := k) (by omega) (by omega)).mp c74
          refine lv_aload_n hx hb dX4_counted_150 rfl (lv_at hl 1 rfl) ?_
          refine lv_iload_n hx hb dX4_counted_151 rfl (lv_at hl 3 rfl) ?_
          refine ald hx hb hE hP 15 rfl (k := w) (by omega) (Nat.le_of_ble_eq_true rfl) (v := (cntR a b k) w) rfl dX4_counted_152 ?_
          have hP : va_P D vwCl ((wM cA y E s1 s2 th b) ++ (wS cA S y a q)) H := hP.sub [0, 1, 2, 3, 4, 5, 6, 7, 8, 9, 10, 11, 12, 13, 14] rfl
          rw [hQQ]
          exact W.iret (v := (cntR a b k) w) hx hb hr (fun t ht hW => ⟨⟨(cntR a b k) w, (), rfl, by rw [show k = qN a by omega]; exact cntR_count hw1 hw, by show va_P _ _ _ t.heap; rw [ht]; exact hP⟩, hS.F ht⟩) hS.2.2 dX4_counted_153
        · skip
          have c74 := (not_congr (nI_leI (a := qN a) (b := k) (by omega) (by omega))).mp c74
          obtain ⟨w1, w2, w3, w4, w5, w6, w7, w8⟩ := hw1.2 k (by omega)
          refine lv_aload_n hx hb dX4_counted_77 rfl (lv_at hl 1 rfl) ?_
          refine lv_iconst (v := 2) hx hb dX4_counted_78 (by decide) ?_
          refine lv_aload_n hx hb dX4_counted_79 rfl (lv_at hl 2 rfl) ?_
          refine va_get (D := D) (ci := 4) (v := .ref (S 8)) (C := RX4) (T := TX4) (N := 13) hx hb hts inX4 hown hE.1 hP 4 rfl rfl 9 (by decide) kf37 (fun _ h9 => h9) rfl dX4_counted_80 ?_
          refine lv_iload_n hx hb dX4_counted_83 rfl (lv_at hl 0 rfl) ?_
          refine ald hx hb hE hP 12 rfl (k := k) (by omega) (Nat.le_of_ble_eq_true rfl) (v := nI (qSt a k)) rfl dX4_counted_84 ?_
          refine lv_iadd hx hb dX4_counted_85 ?_
          refine top_i (y := nI (2 + (qSt a k))) (nI_add _ _) ?_
          refine lv_dup2_11 hx hb dX4_counted_86 rfl rfl ?_
          refine ald hx hb hE hP 15 rfl (k := 2 + (qSt a k)) (by omega) (Nat.le_of_ble_eq_true rfl) (v := (cntR a b k) (2 + (qSt a k))) rfl dX4_counted_87 ?_
          refine lv_iconst (v := 1) hx hb dX4_counted_88 (by decide) ?_
          refine lv_iadd hx hb dX4_counted_89 ?_
          refine ast hx hb hE hP hD hS 15 rfl (k := 2 + (qSt a k)) (by omega) (Nat.le_of_ble_eq_true rfl) (upd (cntR a b k) (2 + qSt a k) (cntR a b k (2 + qSt a k) + 1)) (fun j _ => rfl) dX4_counted_90 (fun H locs hP hD hS => ?_)
          have hP : va_P D vwCl ((wM cA y E s1 s2 th b) ++ ((wS cA S y a q) ++ ([(q2, .inl (cA, 10, .inl (upd (cntR a b k) (2 + qSt a k) (cntR a b k (2 + qSt a k) + 1))))] : va_W))) H := hP
          have hD : va_D A ((wM cA y E s1 s2 th b) ++ ((wS cA S y a q) ++ ([(q2, .inl (cA, 10, .inl (upd (cntR a b k) (2 + qSt a k) (cntR a b k (2 + qSt a k) + 1))))] : va_W))) := hD
          refine lv_aload_n hx hb dX4_counted_91 rfl (lv_at hl 2 rfl) ?_
          refine va_get (D := D) (ci := 4) (v := .ref (S 7)) (C := RX4) (T := TX4) (N := 13) hx hb hts inX4 hown hE.1 hP 4 rfl rfl 8 (by decide) kf34 (fun _ h9 => h9) rfl dX4_counted_92 ?_
          refine lv_iload_n hx hb dX4_counted_95 rfl (lv_at hl 0 rfl) ?_
          refine ald hx hb hE hP 11 rfl (k := k) (by omega) (Nat.le_of_ble_eq_true rfl) (v := bi (qBu a k)) rfl dX4_counted_96 ?_
          refine lv_if_ne (tgt := 103) hx hb dX4_counted_97 (by decide) (fun c97 => ?_) (fun c97 => ?_)
          · skip
            have c97 := bi_1.mp c97
            refine lv_aload_n hx hb dX4_counted_103 rfl (lv_at hl 1 rfl) ?_
            refine lv_iconst (v := 5) hx hb dX4_counted_104 (by decide) ?_
            refine lv_aload_n hx hb dX4_counted_105 rfl (lv_at hl 2 rfl) ?_
            refine va_get (D := D) (ci := 4) (v := .ref (S 8)) (C := RX4) (T := TX4) (N := 13) hx hb hts inX4 hown hE.1 hP 4 rfl rfl 9 (by decide) kf37 (fun _ h9 => h9) rfl dX4_counted_106 ?_
            refine lv_iload_n hx hb dX4_counted_109 rfl (lv_at hl 0 rfl) ?_
            refine ald hx hb hE hP 12 rfl (k := k) (by omega) (Nat.le_of_ble_eq_true rfl) (v := nI (qSt a k)) rfl dX4_counted_110 ?_
            refine lv_iadd hx hb dX4_counted_111 ?_
            refine top_i (y := nI (5 + (qSt a k))) (nI_add _ _) ?_
            refine lv_dup2_11 hx hb dX4_counted_112 rfl rfl ?_
            refine ald hx hb hE hP 15 rfl (k := 5 + (qSt a k)) (by omega) (Nat.le_of_ble_eq_true rfl) (v := (upd (cntR a b k) (2 + qSt a k) (cntR a b k (2 + qSt a k) + 1)) (5 + (qSt a k))) rfl dX4_counted_113 ?_
            refine lv_iconst (v := 1) hx hb dX4_counted_114 (by decide) ?_
            refine lv_iadd hx hb dX4_counted_115 ?_
            refine ast hx hb hE hP hD hS 15 rfl (k := 5 + (qSt a k)) (by omega) (Nat.le_of_ble_eq_true rfl) (upd (upd (cntR a b k) (2 + qSt a k) (cntR a b k (2 + qSt a k) + 1)) (5 + qSt a k) ((upd (cntR a b k) (2 + qSt a k) (cntR a b k (2 + qSt a k) + 1)) (5 + qSt a k) + 1)) (fun j _ => rfl) dX4_counted_116 (fun H locs hP hD hS => ?_)
            have hP : va_P D vwCl ((wM cA y E s1 s2 th b) ++ ((wS cA S y a q) ++ ([(q2, .inl (cA, 10, .inl (upd (upd (cntR a b k) (2 + qSt a k) (cntR a b k (2 + qSt a k) + 1)) (5 + qSt a k) ((upd (cntR a b k) (2 + qSt a k) (cntR a b k (2 + qSt a k) + 1)) (5 + qSt a k) + 1))))] : va_W))) H := hP
            have hD : va_D A ((wM cA y E s1 s2 th b) ++ ((wS cA S y a q) ++ ([(q2, .inl (cA, 10, .inl (upd (upd (cntR a b k) (2 + qSt a k) (cntR a b k (2 + qSt a k) + 1)) (5 + qSt a k) ((upd (cntR a b k) (2 + qSt a k) (cntR a b k (2 + qSt a k) + 1)) (5 + qSt a k) + 1))))] : va_W))) := hD
            refine lv_aload_n hx hb dX4_counted_117 rfl (lv_at hl 1 rfl) ?_
            refine lv_bipush (v := 9) hx hb dX4_counted_118 (by decide) ?_
            refine lv_dup2_11 hx hb dX4_counted_120 rfl rfl ?_
            refine ald hx hb hE hP 15 rfl (k := 9) (by omega) (Nat.le_of_ble_eq_true rfl) (v := (upd (upd (cntR a b k) (2 + qSt a k) (cntR a b k (2 + qSt a k) + 1)) (5 + qSt a k) ((upd (cntR a b k) (2 + qSt a k) (cntR a b k (2 + qSt a k) + 1)) (5 + qSt a k) + 1)) 9) rfl dX4_counted_121 ?_
            refine lv_aload_n hx hb dX4_counted_122 rfl (lv_at hl 2 rfl) ?_
            refine va_get (D := D) (ci := 4) (v := .ref (S 8)) (C := RX4) (T := TX4) (N := 13) hx hb hts inX4 hown hE.1 hP 4 rfl rfl 9 (by decide) kf37 (fun _ h9 => h9) rfl dX4_counted_123 ?_
            refine lv_iload_n hx hb dX4_counted_126 rfl (lv_at hl 0 rfl) ?_
            refine ald hx hb hE hP 12 rfl (k := k) (by omega) (Nat.le_of_ble_eq_true rfl) (v := nI (qSt a k)) rfl dX4_counted_127 ?_
            refine lv_iconst (v := 1) hx hb dX4_counted_128 (by decide) ?_
            refine lv_icmp_ne (tgt := 141) hx hb dX4_counted_129 (by decide) (fun c129 => ?_) (fun c129 => ?_)
            · skip
              have c129 := (not_congr (nI_eq (a := qSt a k) (b := 1) (by omega) (by omega))).mp c129
              refine lv_iconst (v := 0) hx hb dX4_counted_141 (by decide) ?_
              refine lv_iadd hx hb dX4_counted_142 ?_
              refine top_i (y := (upd (upd (cntR a b k) (2 + qSt a k) (cntR a b k (2 + qSt a k) + 1)) (5 + qSt a k) ((upd (cntR a b k) (2 + qSt a k) (cntR a b k (2 + qSt a k) + 1)) (5 + qSt a k) + 1)) 9 + 0) (rfl) ?_
              refine ast hx hb hE hP hD hS 15 rfl (k := 9) (by omega) (Nat.le_of_ble_eq_true rfl) (upd (upd (upd (cntR a b k) (2 + qSt a k) (cntR a b k (2 + qSt a k) + 1)) (5 + qSt a k) ((upd (cntR a b k) (2 + qSt a k) (cntR a b k (2 + qSt a k) + 1)) (5 + qSt a k) + 1)) 9 ((upd (upd (cntR a b k) (2 + qSt a k) (cntR a b k (2 + qSt a k) + 1)) (5 + qSt a k) ((upd (cntR a b k) (2 + qSt a k) (cntR a b k (2 + qSt a k) + 1)) (5 + qSt a k) + 1)) 9 + 0)) (fun j _ => rfl) dX4_counted_143 (fun H locs hP hD hS => ?_)
              have hP : va_P D vwCl ((wM cA y E s1 s2 th b) ++ ((wS cA S y a q) ++ ([(q2, .inl (cA, 10, .inl (upd (upd (upd (cntR a b k) (2 + qSt a k) (cntR a b k (2 + qSt a k) + 1)) (5 + qSt a k) ((upd (cntR a b k) (2 + qSt a k) (cntR a b k (2 + qSt a k) + 1)) (5 + qSt a k) + 1)) 9 ((upd (upd (cntR a b k) (2 + qSt a k) (cntR a b k (2 + qSt a k) + 1)) (5 + qSt a k) ((upd (cntR a b k) (2 + qSt a k) (cntR a b k (2 + qSt a k) + 1)) (5 + qSt a k) + 1)) 9 + 0))))] : va_W))) H := hP
              have hD : va_D A ((wM cA y E s1 s2 th b) ++ ((wS cA S y a q) ++ ([(q2, .inl (cA, 10, .inl (upd (upd (upd (cntR a b k) (2 + qSt a k) (cntR a b k (2 + qSt a k) + 1)) (5 + qSt a k) ((upd (cntR a b k) (2 + qSt a k) (cntR a b k (2 + qSt a k) + 1)) (5 + qSt a k) + 1)) 9 ((upd (upd (cntR a b k) (2 + qSt a k) (cntR a b k (2 + qSt a k) + 1)) (5 + qSt a k) ((upd (cntR a b k) (2 + qSt a k) (cntR a b k (2 + qSt a k) + 1)) (5 + qSt a k) + 1)) 9 + 0))))] : va_W))) := hD
              refine lv_iinc (v := nI (k + 1)) (lv' := [(3, .int (nI (k + 1))), (2, .ref q2), (0, .ref (S 0)), (1, .int (nI w))]) hx hb dX4_counted_144 hl (k := 0) rfl (nI_add k 1) (by decide) rfl (fun ls hl => ?_)
              refine lv_goto (tgt := 69) hx hb dX4_counted_147 (by decide) ?_
              have e9 : cntR a b (k + 1) = upd (upd (upd (cntR a b k) (2 + qSt a k) (cntR a b k (2 + qSt a k) + 1)) (5 + qSt a k) ((upd (cntR a b k) (2 + qSt a k) (cntR a b k (2 + qSt a k) + 1)) (5 + qSt a k) + 1)) 9 ((upd (upd (cntR a b k) (2 + qSt a k) (cntR a b k (2 + qSt a k) + 1)) (5 + qSt a k) ((upd (cntR a b k) (2 + qSt a k) (cntR a b k (2 + qSt a k) + 1)) (5 + qSt a k) + 1)) 9 + 0) := by show cntS a k (cntR a b k) = _; unfold cntS; rw [if_pos c97, if_neg c129]
              have hP : va_P D vwCl ((wM cA y E s1 s2 th b) ++ ((wS cA S y a q) ++ ([(q2, .inl (cA, 10, .inl (cntR a b (k + 1))))] : va_W))) H := by rw [e9]; exact hP
              have hD : va_D A ((wM cA y E s1 s2 th b) ++ ((wS cA S y a q) ++ ([(q2, .inl (cA, 10, .inl (cntR a b (k + 1))))] : va_W))) := by rw [e9]; exact hD
              exact ih69 (k + 1) (by omega) (by omega) H locs hP hD hS ls (lv_sub hl [0, 1, 2, 3] rfl)
            · skip
              have c129 := (nI_eq (a := qSt a k) (b := 1) (by omega) (by omega)).mp c129
              refine lv_aload_n hx hb dX4_counted_132 rfl (lv_at hl 2 rfl) ?_
              refine va_get (D := D) (ci := 4) (v := .ref (S 2)) (C := RX4) (T := TX4) (N := 13) hx hb hts inX4 hown hE.1 hP 4 rfl rfl 3 (by decide) kf19 (fun _ h9 => h9) rfl dX4_counted_133 ?_
              refine lv_iload_n hx hb dX4_counted_136 rfl (lv_at hl 0 rfl) ?_
              refine ald hx hb hE hP 6 rfl (k := k) (by omega) (Nat.le_of_ble_eq_true rfl) (v := qWi a k) rfl dX4_counted_137 ?_
              refine lv_goto (tgt := 142) hx hb dX4_counted_138 (by decide) ?_
              refine lv_iadd hx hb dX4_counted_142 ?_
              refine top_i (y := (upd (upd (cntR a b k) (2 + qSt a k) (cntR a b k (2 + qSt a k) + 1)) (5 + qSt a k) ((upd (cntR a b k) (2 + qSt a k) (cntR a b k (2 + qSt a k) + 1)) (5 + qSt a k) + 1)) 9 + qWi a k) (rfl) ?_
              refine ast hx hb hE hP hD hS 15 rfl (k := 9) (by omega) (Nat.le_of_ble_eq_true rfl) (upd (upd (upd (cntR a b k) (2 + qSt a k) (cntR a b k (2 + qSt a k) + 1)) (5 + qSt a k) ((upd (cntR a b k) (2 + qSt a k) (cntR a b k (2 + qSt a k) + 1)) (5 + qSt a k) + 1)) 9 ((upd (upd (cntR a b k) (2 + qSt a k) (cntR a b k (2 + qSt a k) + 1)) (5 + qSt a k) ((upd (cntR a b k) (2 + qSt a k) (cntR a b k (2 + qSt a k) + 1)) (5 + qSt a k) + 1)) 9 + (qWi a k))) (fun j _ => rfl) dX4_counted_143 (fun H locs hP hD hS => ?_)
              have hP : va_P D vwCl ((wM cA y E s1 s2 th b) ++ ((wS cA S y a q) ++ ([(q2, .inl (cA, 10, .inl (upd (upd (upd (cntR a b k) (2 + qSt a k) (cntR a b k (2 + qSt a k) + 1)) (5 + qSt a k) ((upd (cntR a b k) (2 + qSt a k) (cntR a b k (2 + qSt a k) + 1)) (5 + qSt a k) + 1)) 9 ((upd (upd (cntR a b k) (2 + qSt a k) (cntR a b k (2 + qSt a k) + 1)) (5 + qSt a k) ((upd (cntR a b k) (2 + qSt a k) (cntR a b k (2 + qSt a k) + 1)) (5 + qSt a k) + 1)) 9 + (qWi a k)))))] : va_W))) H := hP
              have hD : va_D A ((wM cA y E s1 s2 th b) ++ ((wS cA S y a q) ++ ([(q2, .inl (cA, 10, .inl (upd (upd (upd (cntR a b k) (2 + qSt a k) (cntR a b k (2 + qSt a k) + 1)) (5 + qSt a k) ((upd (cntR a b k) (2 + qSt a k) (cntR a b k (2 + qSt a k) + 1)) (5 + qSt a k) + 1)) 9 ((upd (upd (cntR a b k) (2 + qSt a k) (cntR a b k (2 + qSt a k) + 1)) (5 + qSt a k) ((upd (cntR a b k) (2 + qSt a k) (cntR a b k (2 + qSt a k) + 1)) (5 + qSt a k) + 1)) 9 + (qWi a k)))))] : va_W))) := hD
              refine lv_iinc (v := nI (k + 1)) (lv' := [(3, .int (nI (k + 1))), (2, .ref q2), (0, .ref (S 0)), (1, .int (nI w))]) hx hb dX4_counted_144 hl (k := 0) rfl (nI_add k 1) (by decide) rfl (fun ls hl => ?_)
              refine lv_goto (tgt := 69) hx hb dX4_counted_147 (by decide) ?_
              have e9 : cntR a b (k + 1) = upd (upd (upd (cntR a b k) (2 + qSt a k) (cntR a b k (2 + qSt a k) + 1)) (5 + qSt a k) ((upd (cntR a b k) (2 + qSt a k) (cntR a b k (2 + qSt a k) + 1)) (5 + qSt a k) + 1)) 9 ((upd (upd (cntR a b k) (2 + qSt a k) (cntR a b k (2 + qSt a k) + 1)) (5 + qSt a k) ((upd (cntR a b k) (2 + qSt a k) (cntR a b k (2 + qSt a k) + 1)) (5 + qSt a k) + 1)) 9 + (qWi a k)) := by show cntS a k (cntR a b k) = _; unfold cntS; rw [if_pos c97, if_pos c129]
              have hP : va_P D vwCl ((wM cA y E s1 s2 th b) ++ ((wS cA S y a q) ++ ([(q2, .inl (cA, 10, .inl (cntR a b (k + 1))))] : va_W))) H := by rw [e9]; exact hP
              have hD : va_D A ((wM cA y E s1 s2 th b) ++ ((wS cA S y a q) ++ ([(q2, .inl (cA, 10, .inl (cntR a b (k + 1))))] : va_W))) := by rw [e9]; exact hD
              exact ih69 (k + 1) (by omega) (by omega) H locs hP hD hS ls (lv_sub hl [0, 1, 2, 3] rfl)
          · skip
            have c97 := bi_0.mp c97
            refine lv_goto (tgt := 144) hx hb dX4_counted_100 (by decide) ?_
            refine lv_iinc (v := nI (k + 1)) (lv' := [(3, .int (nI (k + 1))), (2, .ref q2), (0, .ref (S 0)), (1, .int (nI w))]) hx hb dX4_counted_144 hl (k := 0) rfl (nI_add k 1) (by decide) rfl (fun ls hl => ?_)
            refine lv_goto (tgt := 69) hx hb dX4_counted_147 (by decide) ?_
            have e9 : cntR a b (k + 1) = upd (cntR a b k) (2 + qSt a k) (cntR a b k (2 + qSt a k) + 1) := by show cntS a k (cntR a b k) = _; unfold cntS; rw [c97]; rfl
            have hP : va_P D vwCl ((wM cA y E s1 s2 th b) ++ ((wS cA S y a q) ++ ([(q2, .inl (cA, 10, .inl (cntR a b (k + 1))))] : va_W))) H := by rw [e9]; exact hP
            have hD : va_D A ((wM cA y E s1 s2 th b) ++ ((wS cA S y a q) ++ ([(q2, .inl (cA, 10, .inl (cntR a b (k + 1))))] : va_W))) := by rw [e9]; exact hD
            exact ih69 (k + 1) (by omega) (by omega) H locs hP hD hS ls (lv_sub hl [0, 1, 2, 3] rfl)
    exact L69 (qN a + 1) 0 (Nat.zero_le _) (by omega) H locs hP hD hS ls (lv_sub hl [0, 1, 2, 3] rfl)
  rw [hg1, hg2] at hgoal
  exact hgoal

set_option maxHeartbeats 4000000 in
set_option maxRecDepth 100000 in
/-- State() -/
theorem K_X4_init (lch : Launch) (D : va_G) (cA : ClassId) (h : Nat) (y : Nat) (sz : Nat)  : Met lch yX4_init wsX4_init ({ frames := 1, cells := 10, slots := 410, locals := 12 }) (Pr D cA [.ref h, .ref y] sz ([(h, .inr (4, [.int 0, .int 0, .null, .null, .null, .null, .null, .null, .null, .null, .null, .null, .null]))] : va_W) X0) (va_Qv (fun (u : Nat → Nat) => u 0 = h) (fun (u : Nat → Nat) t => va_P D vwCl (wS cA u y zF (fun _ => 0)) t.heap ∧ va_D (va_A ([(h, .inr (4, [.int 0, .int 0, .null, .null, .null, .null, .null, .null, .null, .null, .null, .null, .null]))] : va_W) sz) (wS cA u y zF (fun _ => 0))) (va_A ([(h, .inr (4, [.int 0, .int 0, .null, .null, .null, .null, .null, .null, .null, .null, .null, .null, .null]))] : va_W) sz)) 10 410 (va_A ([(h, .inr (4, [.int 0, .int 0, .null, .null, .null, .null, .null, .null, .null, .null, .null, .null, .null]))] : va_W) sz) := by
  refine Met.ofW (cc := cX4_init) (maxL := 2) (ret := none) (by decide) rfl ?_
  intro pg ev s mi args below meth cd s₁ B hml hv
  obtain ⟨hav, hsz, hP, hE, hD, hXs⟩ := hv
  have hx := B.exec
  have hb := B.bytes
  have hr := B.returns
  have hts := atoms_spec (ws := wsX4_init) B.pre
  have hown : s.vm.findClass RX4 = some mi.cls := findClass_of_methodNamed B.named
  have hlocks := B.notSynchronized
  have hin : meth.name = "<init>" := (name_of_methodNamed B.named B.method).1
  clear B
  subst hav
  subst hsz
  have hD := hD.self (sz := s.heap.size)
  generalize hAe : va_A ([(h, .inr (4, [.int 0, .int 0, .null, .null, .null, .null, .null, .null, .null, .null, .null, .null, .null]))] : va_W) s.heap.size = A at hD ⊢
  have hA : ∀ q : Nat, s.heap.size ≤ q → A q := fun q h => by rw [← hAe]; exact Or.inr h
  have hS : va_S A s.heap s.heap [] := va_S.rf
  obtain ⟨QQ, hQQ⟩ : ∃ qq9, qq9 = MQ below (va_Qv (fun (u : Nat → Nat) => u 0 = h) (fun (u : Nat → Nat) t => va_P D vwCl (wS cA u y zF (fun _ => 0)) t.heap ∧ va_D A (wS cA u y zF (fun _ => 0))) A) ([.ref h, .ref y] : List Value).toArray s 10 410 A := ⟨_, rfl⟩
  rw [← hQQ]
  have hl := lv_entry ([.ref h, .ref y]) (n := 2) (Nat.le_of_ble_eq_true rfl)
  rw [lg_entry_eq]
  generalize (lg_sl ([.ref h, .ref y]) ++ List.replicate (2 - (lg_sl ([.ref h, .ref y])).length) Slot.unset).toArray = ls at hl ⊢
  have hl : lv_has ls 2 [(0, .ref h), (1, .ref y)] := hl
  have kf3 := hts (.fieldLink RX4 3 "LanternWeirsModel$State" "this$0" "LLanternWeirsModel;") (by decide +kernel)
  have inX4 : ∀ w ∈ u_ws RX4 TX4 13, w ∈ wsX4_init := by decide +kernel
  have kw2 := hts (.methodLink RX4 9 objectInit) (by decide +kernel)
  have kw3 := hts (.instanceMethod objectInit) (by decide +kernel)
  have kw4 := hts (.code objectInit ⟨#[0xb1]⟩ 1 none) (by decide +kernel)
  have kw5 := hts (.arrayClass .int) (by decide +kernel)
  have kf15 := hts (.fieldLink RX4 15 "LanternWeirsModel$State" "frame" "[I") (by decide +kernel)
  have kf19 := hts (.fieldLink RX4 19 "LanternWeirsModel$State" "wish" "[I") (by decide +kernel)
  have kf22 := hts (.fieldLink RX4 22 "LanternWeirsModel$State" "lane" "[I") (by decide +kernel)
  have kf25 := hts (.fieldLink RX4 25 "LanternWeirsModel$State" "place" "[I") (by decide +kernel)
  have kf28 := hts (.fieldLink RX4 28 "LanternWeirsModel$State" "wax" "[I") (by decide +kernel)
  have kf31 := hts (.fieldLink RX4 31 "LanternWeirsModel$State" "wet" "[I") (by decide +kernel)
  have kf34 := hts (.fieldLink RX4 34 "LanternWeirsModel$State" "burns" "[I") (by decide +kernel)
  have kf37 := hts (.fieldLink RX4 37 "LanternWeirsModel$State" "state" "[I") (by decide +kernel)
  have kf40 := hts (.fieldLink RX4 40 "LanternWeirsModel$State" "ended" "[I") (by decide +kernel)
  have kf43 := hts (.fieldLink RX4 43 "LanternWeirsModel$State" "order" "[I") (by decide +kernel)
  obtain ⟨H, locs, hP, hS, hgo⟩ : ∃ H locs, va_P D vwCl ([(h, .inr (4, [.int 0, .int 0, .null, .null, .null, .null, .null, .null, .null, .null, .null, .null, .null]))] : va_W) H ∧ va_S A s.heap H locs ∧ (H = s.heap ∧ locs = []) := ⟨_, _, hP, hS, rfl, rfl⟩
  obtain ⟨hg1, hg2⟩ := hgo
  have hgoal : W pg lch ev (headSpec wsX4_init ({ frames := 1, cells := 10, slots := 410, locals := 12 })).room s mi ([.ref h, .ref y] : List Value).toArray below meth cd H locs 0 0 QQ (F0 mi 0 ls []) := by
    refine lv_aload_n hx hb dX4_init_0 rfl (lv_at hl 0 rfl) ?_
    refine lv_aload_n hx hb dX4_init_1 rfl (lv_at hl 1 rfl) ?_
    refine va_putF (D := D) (ci := 4) (v := .ref y) (ty := .object "LanternWeirsModel") (C := RX4) (T := TX4) (N := 13) hx hb hts inX4 tyX4 tyX4_ok nmX4 hown hE.1 hP hD hS 0 rfl rfl 12 (by decide) kf3 (fun _ h9 => h9) rfl hin rfl (by decide +kernel) rfl rfl (Nat.le_of_ble_eq_true rfl) dX4_init_2 (fun H locs hP hD hS => ?_)
    have hP : va_P D vwCl ([(h, .inr (4, [.int 0, .int 0, .null, .null, .null, .null, .null, .null, .null, .null, .null, .null, .ref y]))] : va_W) H := hP
    have hD : va_D A ([(h, .inr (4, [.int 0, .int 0, .null, .null, .null, .null, .null, .null, .null, .null, .null, .null, .ref y]))] : va_W) := hD
    refine lv_aload_n hx hb dX4_init_5 rfl (lv_at hl 0 rfl) ?_
    refine W.objInit hx hb hown kw2 kw3 kw4 rfl (by rw [hml]; exact hl.1) rfl dX4_init_6 (Nat.le_of_ble_eq_true rfl) (Nat.le_of_ble_eq_true rfl) ?_
    refine W.eq (g2 := F0 mi 9 ls []) rfl ?_
    refine lv_aload_n hx hb dX4_init_9 rfl (lv_at hl 0 rfl) ?_
    refine lv_bipush (v := 41) hx hb dX4_init_10 (by decide) ?_
    refine na_i hx hb kw5 hE hP hD hS hA (N := 41) (Nat.le_of_ble_eq_true rfl) (Nat.le_of_ble_eq_true rfl) (Nat.le_of_ble_eq_true rfl) dX4_init_12 (fun q12 H hP hD hS => ?_)
    refine W.widen (k := 1) (n := 41) (by omega) (by omega) ?_
    have hP : va_P D vwCl ([(h, .inr (4, [.int 0, .int 0, .null, .null, .null, .null, .null, .null, .null, .null, .null, .null, .ref y])), (q12, .inl (cA, 41, .inl (fun _ => 0)))] : va_W) H := hP
    have hD : va_D A ([(h, .inr (4, [.int 0, .int 0, .null, .null, .null, .null, .null, .null, .null, .null, .null, .null, .ref y])), (q12, .inl (cA, 41, .inl (fun _ => 0)))] : va_W) := hD
    refine va_putF (D := D) (ci := 4) (v := .ref q12) (ty := .array .int) (C := RX4) (T := TX4) (N := 13) hx hb hts inX4 tyX4 tyX4_ok nmX4 hown hE.1 hP hD hS 0 rfl rfl 2 (by decide) kf15 (fun _ h9 => h9) rfl hin rfl (by decide +kernel) rfl rfl (Nat.le_of_ble_eq_true rfl) dX4_init_14 (fun H locs hP hD hS => ?_)
    have hP : va_P D vwCl ([(h, .inr (4, [.int 0, .int 0, .ref q12, .null, .null, .null, .null, .null, .null, .null, .null, .null, .ref y])), (q12, .inl (cA, 41, .inl (fun _ => 0)))] : va_W) H := hP
    have hD : va_D A ([(h, .inr (4, [.int 0, .int 0, .ref q12, .null, .null, .null, .null, .null, .null, .null, .null, .null, .ref y])), (q12, .inl (cA, 41, .inl (fun _ => 0)))] : va_W) := hD
    refine lv_aload_n hx hb dX4_init_17 rfl (lv_at hl 0 rfl) ?_
    refine lv_bipush (v := 41) hx hb dX4_init_18 (by decide) ?_
    refine na_i hx hb kw5 hE hP hD hS hA (N := 41) (Nat.le_of_ble_eq_true rfl) (Nat.le_of_ble_eq_true rfl) (Nat.le_of_ble_eq_true rfl) dX4_init_20 (fun q20 H hP hD hS => ?_)
    refine W.widen (k := 2) (n := 82) (by omega) (by omega) ?_
    have hP : va_P D vwCl ([(h, .inr (4, [.int 0, .int 0, .ref q12, .null, .null, .null, .null, .null, .null, .null, .null, .null, .ref y])), (q12, .inl (cA, 41, .inl (fun _ => 0))), (q20, .inl (cA, 41, .inl (fun _ => 0)))] : va_W) H := hP
    have hD : va_D A ([(h, .inr (4, [.int 0, .int 0, .ref q12, .null, .null, .null, .null, .null, .null, .null, .null, .null, .ref y])), (q12, .inl (cA, 41, .inl (fun _ => 0))), (q20, .inl (cA, 41, .inl (fun _ => 0)))] : va_W) := hD
    refine va_putF (D := D) (ci := 4) (v := .ref q20) (ty := .array .int) (C := RX4) (T := TX4) (N := 13) hx hb hts inX4 tyX4 tyX4_ok nmX4 hown hE.1 hP hD hS 0 rfl rfl 3 (by decide) kf19 (fun _ h9 => h9) rfl hin rfl (by decide +kernel) rfl rfl (Nat.le_of_ble_eq_true rfl) dX4_init_22 (fun H locs hP hD hS => ?_)
    have hP : va_P D vwCl ([(h, .inr (4, [.int 0, .int 0, .ref q12, .ref q20, .null, .null, .null, .null, .null, .null, .null, .null, .ref y])), (q12, .inl (cA, 41, .inl (fun _ => 0))), (q20, .inl (cA, 41, .inl (fun _ => 0)))] : va_W) H := hP
    have hD : va_D A ([(h, .inr (4, [.int 0, .int 0, .ref q12, .ref q20, .null, .null, .null, .null, .null, .null, .null, .null, .ref y])), (q12, .inl (cA, 41, .inl (fun _ => 0))), (q20, .inl (cA, 41, .inl (fun _ => 0)))] : va_W) := hD
    refine lv_aload_n hx hb dX4_init_25 rfl (lv_at hl 0 rfl) ?_
    refine lv_bipush (v := 41) hx hb dX4_init_26 (by decide) ?_
    refine na_i hx hb kw5 hE hP hD hS hA (N := 41) (Nat.le_of_ble_eq_true rfl) (Nat.le_of_ble_eq_true rfl) (Nat.le_of_ble_eq_true rfl) dX4_init_28 (fun q28 H hP hD hS => ?_)
    refine W.widen (k := 3) (n := 123) (by omega) (by omega) ?_
    have hP : va_P D vwCl ([(h, .inr (4, [.int 0, .int 0, .ref q12, .ref q20, .null, .null, .null, .null, .null, .null, .null, .null, .ref y])), (q12, .inl (cA, 41, .inl (fun _ => 0))), (q20, .inl (cA, 41, .inl (fun _ => 0))), (q28, .inl (cA, 41, .inl (fun _ => 0)))] : va_W) H := hP
    have hD : va_D A ([(h, .inr (4, [.int 0, .int 0, .ref q12, .ref q20, .null, .null, .null, .null, .null, .null, .null, .null, .ref y])), (q12, .inl (cA, 41, .inl (fun _ => 0))), (q20, .inl (cA, 41, .inl (fun _ => 0))), (q28, .inl (cA, 41, .inl (fun _ => 0)))] : va_W) := hD
    refine va_putF (D := D) (ci := 4) (v := .ref q28) (ty := .array .int) (C := RX4) (T := TX4) (N := 13) hx hb hts inX4 tyX4 tyX4_ok nmX4 hown hE.1 hP hD hS 0 rfl rfl 4 (by decide) kf22 (fun _ h9 => h9) rfl hin rfl (by decide +kernel) rfl rfl (Nat.le_of_ble_eq_true rfl) dX4_init_30 (fun H locs hP hD hS => ?_)
    have hP : va_P D vwCl ([(h, .inr (4, [.int 0, .int 0, .ref q12, .ref q20, .ref q28, .null, .null, .null, .null, .null, .null, .null, .ref y])), (q12, .inl (cA, 41, .inl (fun _ => 0))), (q20, .inl (cA, 41, .inl (fun _ => 0))), (q28, .inl (cA, 41, .inl (fun _ => 0)))] : va_W) H := hP
    have hD : va_D A ([(h, .inr (4, [.int 0, .int 0, .ref q12, .ref q20, .ref q28, .null, .null, .null, .null, .null, .null, .null, .ref y])), (q12, .inl (cA, 41, .inl (fun _ => 0))), (q20, .inl (cA, 41, .inl (fun _ => 0))), (q28, .inl (cA, 41, .inl (fun _ => 0)))] : va_W) := hD
    refine lv_aload_n hx hb dX4_init_33 rfl (lv_at hl 0 rfl) ?_
    refine lv_bipush (v := 41) hx hb dX4_init_34 (by decide) ?_
    refine na_i hx hb kw5 hE hP hD hS hA (N := 41) (Nat.le_of_ble_eq_true rfl) (Nat.le_of_ble_eq_true rfl) (Nat.le_of_ble_eq_true rfl) dX4_init_36 (fun q36 H hP hD hS => ?_)
    refine W.widen (k := 4) (n := 164) (by omega) (by omega) ?_
    have hP : va_P D vwCl ([(h, .inr (4, [.int 0, .int 0, .ref q12, .ref q20, .ref q28, .null, .null, .null, .null, .null, .null, .null, .ref y])), (q12, .inl (cA, 41, .inl (fun _ => 0))), (q20, .inl (cA, 41, .inl (fun _ => 0))), (q28, .inl (cA, 41, .inl (fun _ => 0))), (q36, .inl (cA, 41, .inl (fun _ => 0)))] : va_W) H := hP
    have hD : va_D A ([(h, .inr (4, [.int 0, .int 0, .ref q12, .ref q20, .ref q28, .null, .null, .null, .null, .null, .null, .null, .ref y])), (q12, .inl (cA, 41, .inl (fun _ => 0))), (q20, .inl (cA, 41, .inl (fun _ => 0))), (q28, .inl (cA, 41, .inl (fun _ => 0))), (q36, .inl (cA, 41, .inl (fun _ => 0)))] : va_W) := hD
    refine va_putF (D := D) (ci := 4) (v := .ref q36) (ty := .array .int) (C := RX4) (T := TX4) (N := 13) hx hb hts inX4 tyX4 tyX4_ok nmX4 hown hE.1 hP hD hS 0 rfl rfl 5 (by decide) kf25 (fun _ h9 => h9) rfl hin rfl (by decide +kernel) rfl rfl (Nat.le_of_ble_eq_true rfl) dX4_init_38 (fun H locs hP hD hS => ?_)
    have hP : va_P D vwCl ([(h, .inr (4, [.int 0, .int 0, .ref q12, .ref q20, .ref q28, .ref q36, .null, .null, .null, .null, .null, .null, .ref y])), (q12, .inl (cA, 41, .inl (fun _ => 0))), (q20, .inl (cA, 41, .inl (fun _ => 0))), (q28, .inl (cA, 41, .inl (fun _ => 0))), (q36, .inl (cA, 41, .inl (fun _ => 0)))] : va_W) H := hP
    have hD : va_D A ([(h, .inr (4, [.int 0, .int 0, .ref q12, .ref q20, .ref q28, .ref q36, .null, .null, .null, .null, .null, .null, .ref y])), (q12, .inl (cA, 41, .inl (fun _ => 0))), (q20, .inl (cA, 41, .inl (fun _ => 0))), (q28, .inl (cA, 41, .inl (fun _ => 0))), (q36, .inl (cA, 41, .inl (fun _ => 0)))] : va_W) := hD
    refine lv_aload_n hx hb dX4_init_41 rfl (lv_at hl 0 rfl) ?_
    refine lv_bipush (v := 41) hx hb dX4_init_42 (by decide) ?_
    refine na_i hx hb kw5 hE hP hD hS hA (N := 41) (Nat.le_of_ble_eq_true rfl) (Nat.le_of_ble_eq_true rfl) (Nat.le_of_ble_eq_true rfl) dX4_init_44 (fun q44 H hP hD hS => ?_)
    refine W.widen (k := 5) (n := 205) (by omega) (by omega) ?_
    have hP : va_P D vwCl ([(h, .inr (4, [.int 0, .int 0, .ref q12, .ref q20, .ref q28, .ref q36, .null, .null, .null, .null, .null, .null, .ref y])), (q12, .inl (cA, 41, .inl (fun _ => 0))), (q20, .inl (cA, 41, .inl (fun _ => 0))), (q28, .inl (cA, 41, .inl (fun _ => 0))), (q36, .inl (cA, 41, .inl (fun _ => 0))), (q44, .inl (cA, 41, .inl (fun _ => 0)))] : va_W) H := hP
    have hD : va_D A ([(h, .inr (4, [.int 0, .int 0, .ref q12, .ref q20, .ref q28, .ref q36, .null, .null, .null, .null, .null, .null, .ref y])), (q12, .inl (cA, 41, .inl (fun _ => 0))), (q20, .inl (cA, 41, .inl (fun _ => 0))), (q28, .inl (cA, 41, .inl (fun _ => 0))), (q36, .inl (cA, 41, .inl (fun _ => 0))), (q44, .inl (cA, 41, .inl (fun _ => 0)))] : va_W) := hD
    refine va_putF (D := D) (ci := 4) (v := .ref q44) (ty := .array .int) (C := RX4) (T := TX4) (N := 13) hx hb hts inX4 tyX4 tyX4_ok nmX4 hown hE.1 hP hD hS 0 rfl rfl 6 (by decide) kf28 (fun _ h9 => h9) rfl hin rfl (by decide +kernel) rfl rfl (Nat.le_of_ble_eq_true rfl) dX4_init_46 (fun H locs hP hD hS => ?_)
    have hP : va_P D vwCl ([(h, .inr (4, [.int 0, .int 0, .ref q12, .ref q20, .ref q28, .ref q36, .ref q44, .null, .null, .null, .null, .null, .ref y])), (q12, .inl (cA, 41, .inl (fun _ => 0))), (q20, .inl (cA, 41, .inl (fun _ => 0))), (q28, .inl (cA, 41, .inl (fun _ => 0))), (q36, .inl (cA, 41, .inl (fun _ => 0))), (q44, .inl (cA, 41, .inl (fun _ => 0)))] : va_W) H := hP
    have hD : va_D A ([(h, .inr (4, [.int 0, .int 0, .ref q12, .ref q20, .ref q28, .ref q36, .ref q44, .null, .null, .null, .null, .null, .ref y])), (q12, .inl (cA, 41, .inl (fun _ => 0))), (q20, .inl (cA, 41, .inl (fun _ => 0))), (q28, .inl (cA, 41, .inl (fun _ => 0))), (q36, .inl (cA, 41, .inl (fun _ => 0))), (q44, .inl (cA, 41, .inl (fun _ => 0)))] : va_W) := hD
    refine lv_aload_n hx hb dX4_init_49 rfl (lv_at hl 0 rfl) ?_
    refine lv_bipush (v := 41) hx hb dX4_init_50 (by decide) ?_
    refine na_i hx hb kw5 hE hP hD hS hA (N := 41) (Nat.le_of_ble_eq_true rfl) (Nat.le_of_ble_eq_true rfl) (Nat.le_of_ble_eq_true rfl) dX4_init_52 (fun q52 H hP hD hS => ?_)
    refine W.widen (k := 6) (n := 246) (by omega) (by omega) ?_
    have hP : va_P D vwCl ([(h, .inr (4, [.int 0, .int 0, .ref q12, .ref q20, .ref q28, .ref q36, .ref q44, .null, .null, .null, .null, .null, .ref y])), (q12, .inl (cA, 41, .inl (fun _ => 0))), (q20, .inl (cA, 41, .inl (fun _ => 0))), (q28, .inl (cA, 41, .inl (fun _ => 0))), (q36, .inl (cA, 41, .inl (fun _ => 0))), (q44, .inl (cA, 41, .inl (fun _ => 0))), (q52, .inl (cA, 41, .inl (fun _ => 0)))] : va_W) H := hP
    have hD : va_D A ([(h, .inr (4, [.int 0, .int 0, .ref q12, .ref q20, .ref q28, .ref q36, .ref q44, .null, .null, .null, .null, .null, .ref y])), (q12, .inl (cA, 41, .inl (fun _ => 0))), (q20, .inl (cA, 41, .inl (fun _ => 0))), (q28, .inl (cA, 41, .inl (fun _ => 0))), (q36, .inl (cA, 41, .inl (fun _ => 0))), (q44, .inl (cA, 41, .inl (fun _ => 0))), (q52, .inl (cA, 41, .inl (fun _ => 0)))] : va_W) := hD
    refine va_putF (D := D) (ci := 4) (v := .ref q52) (ty := .array .int) (C := RX4) (T := TX4) (N := 13) hx hb hts inX4 tyX4 tyX4_ok nmX4 hown hE.1 hP hD hS 0 rfl rfl 7 (by decide) kf31 (fun _ h9 => h9) rfl hin rfl (by decide +kernel) rfl rfl (Nat.le_of_ble_eq_true rfl) dX4_init_54 (fun H locs hP hD hS => ?_)
    have hP : va_P D vwCl ([(h, .inr (4, [.int 0, .int 0, .ref q12, .ref q20, .ref q28, .ref q36, .ref q44, .ref q52, .null, .null, .null, .null, .ref y])), (q12, .inl (cA, 41, .inl (fun _ => 0))), (q20, .inl (cA, 41, .inl (fun _ => 0))), (q28, .inl (cA, 41, .inl (fun _ => 0))), (q36, .inl (cA, 41, .inl (fun _ => 0))), (q44, .inl (cA, 41, .inl (fun _ => 0))), (q52, .inl (cA, 41, .inl (fun _ => 0)))] : va_W) H := hP
    have hD : va_D A ([(h, .inr (4, [.int 0, .int 0, .ref q12, .ref q20, .ref q28, .ref q36, .ref q44, .ref q52, .null, .null, .null, .null, .ref y])), (q12, .inl (cA, 41, .inl (fun _ => 0))), (q20, .inl (cA, 41, .inl (fun _ => 0))), (q28, .inl (cA, 41, .inl (fun _ => 0))), (q36, .inl (cA, 41, .inl (fun _ => 0))), (q44, .inl (cA, 41, .inl (fun _ => 0))), (q52, .inl (cA, 41, .inl (fun _ => 0)))] : va_W) := hD
    refine lv_aload_n hx hb dX4_init_57 rfl (lv_at hl 0 rfl) ?_
    refine lv_bipush (v := 41) hx hb dX4_init_58 (by decide) ?_
    refine na_i hx hb kw5 hE hP hD hS hA (N := 41) (Nat.le_of_ble_eq_true rfl) (Nat.le_of_ble_eq_true rfl) (Nat.le_of_ble_eq_true rfl) dX4_init_60 (fun q60 H hP hD hS => ?_)
    refine W.widen (k := 7) (n := 287) (by omega) (by omega) ?_
    have hP : va_P D vwCl ([(h, .inr (4, [.int 0, .int 0, .ref q12, .ref q20, .ref q28, .ref q36, .ref q44, .ref q52, .null, .null, .null, .null, .ref y])), (q12, .inl (cA, 41, .inl (fun _ => 0))), (q20, .inl (cA, 41, .inl (fun _ => 0))), (q28, .inl (cA, 41, .inl (fun _ => 0))), (q36, .inl (cA, 41, .inl (fun _ => 0))), (q44, .inl (cA, 41, .inl (fun _ => 0))), (q52, .inl (cA, 41, .inl (fun _ => 0))), (q60, .inl (cA, 41, .inl (fun _ => 0)))] : va_W) H := hP
    have hD : va_D A ([(h, .inr (4, [.int 0, .int 0, .ref q12, .ref q20, .ref q28, .ref q36, .ref q44, .ref q52, .null, .null, .null, .null, .ref y])), (q12, .inl (cA, 41, .inl (fun _ => 0))), (q20, .inl (cA, 41, .inl (fun _ => 0))), (q28, .inl (cA, 41, .inl (fun _ => 0))), (q36, .inl (cA, 41, .inl (fun _ => 0))), (q44, .inl (cA, 41, .inl (fun _ => 0))), (q52, .inl (cA, 41, .inl (fun _ => 0))), (q60, .inl (cA, 41, .inl (fun _ => 0)))] : va_W) := hD
    refine va_putF (D := D) (ci := 4) (v := .ref q60) (ty := .array .int) (C := RX4) (T := TX4) (N := 13) hx hb hts inX4 tyX4 tyX4_ok nmX4 hown hE.1 hP hD hS 0 rfl rfl 8 (by decide) kf34 (fun _ h9 => h9) rfl hin rfl (by decide +kernel) rfl rfl (Nat.le_of_ble_eq_true rfl) dX4_init_62 (fun H locs hP hD hS => ?_)
    have hP : va_P D vwCl ([(h, .inr (4, [.int 0, .int 0, .ref q12, .ref q20, .ref q28, .ref q36, .ref q44, .ref q52, .ref q60, .null, .null, .null, .ref y])), (q12, .inl (cA, 41, .inl (fun _ => 0))), (q20, .inl (cA, 41, .inl (fun _ => 0))), (q28, .inl (cA, 41, .inl (fun _ => 0))), (q36, .inl (cA, 41, .inl (fun _ => 0))), (q44, .inl (cA, 41, .inl (fun _ => 0))), (q52, .inl (cA, 41, .inl (fun _ => 0))), (q60, .inl (cA, 41, .inl (fun _ => 0)))] : va_W) H := hP
    have hD : va_D A ([(h, .inr (4, [.int 0, .int 0, .ref q12, .ref q20, .ref q28, .ref q36, .ref q44, .ref q52, .ref q60, .null, .null, .null, .ref y])), (q12, .inl (cA, 41, .inl (fun _ => 0))), (q20, .inl (cA, 41, .inl (fun _ => 0))), (q28, .inl (cA, 41, .inl (fun _ => 0))), (q36, .inl (cA, 41, .inl (fun _ => 0))), (q44, .inl (cA, 41, .inl (fun _ => 0))), (q52, .inl (cA, 41, .inl (fun _ => 0))), (q60, .inl (cA, 41, .inl (fun _ => 0)))] : va_W) := hD
    refine lv_aload_n hx hb dX4_init_65 rfl (lv_at hl 0 rfl) ?_
    refine lv_bipush (v := 41) hx hb dX4_init_66 (by decide) ?_
    refine na_i hx hb kw5 hE hP hD hS hA (N := 41) (Nat.le_of_ble_eq_true rfl) (Nat.le_of_ble_eq_true rfl) (Nat.le_of_ble_eq_true rfl) dX4_init_68 (fun q68 H hP hD hS => ?_)
    refine W.widen (k := 8) (n := 328) (by omega) (by omega) ?_
    have hP : va_P D vwCl ([(h, .inr (4, [.int 0, .int 0, .ref q12, .ref q20, .ref q28, .ref q36, .ref q44, .ref q52, .ref q60, .null, .null, .null, .ref y])), (q12, .inl (cA, 41, .inl (fun _ => 0))), (q20, .inl (cA, 41, .inl (fun _ => 0))), (q28, .inl (cA, 41, .inl (fun _ => 0))), (q36, .inl (cA, 41, .inl (fun _ => 0))), (q44, .inl (cA, 41, .inl (fun _ => 0))), (q52, .inl (cA, 41, .inl (fun _ => 0))), (q60, .inl (cA, 41, .inl (fun _ => 0))), (q68, .inl (cA, 41, .inl (fun _ => 0)))] : va_W) H := hP
    have hD : va_D A ([(h, .inr (4, [.int 0, .int 0, .ref q12, .ref q20, .ref q28, .ref q36, .ref q44, .ref q52, .ref q60, .null, .null, .null, .ref y])), (q12, .inl (cA, 41, .inl (fun _ => 0))), (q20, .inl (cA, 41, .inl (fun _ => 0))), (q28, .inl (cA, 41, .inl (fun _ => 0))), (q36, .inl (cA, 41, .inl (fun _ => 0))), (q44, .inl (cA, 41, .inl (fun _ => 0))), (q52, .inl (cA, 41, .inl (fun _ => 0))), (q60, .inl (cA, 41, .inl (fun _ => 0))), (q68, .inl (cA, 41, .inl (fun _ => 0)))] : va_W) := hD
    refine va_putF (D := D) (ci := 4) (v := .ref q68) (ty := .array .int) (C := RX4) (T := TX4) (N := 13) hx hb hts inX4 tyX4 tyX4_ok nmX4 hown hE.1 hP hD hS 0 rfl rfl 9 (by decide) kf37 (fun _ h9 => h9) rfl hin rfl (by decide +kernel) rfl rfl (Nat.le_of_ble_eq_true rfl) dX4_init_70 (fun H locs hP hD hS => ?_)
    have hP : va_P D vwCl ([(h, .inr (4, [.int 0, .int 0, .ref q12, .ref q20, .ref q28, .ref q36, .ref q44, .ref q52, .ref q60, .ref q68, .null, .null, .ref y])), (q12, .inl (cA, 41, .inl (fun _ => 0))), (q20, .inl (cA, 41, .inl (fun _ => 0))), (q28, .inl (cA, 41, .inl (fun _ => 0))), (q36, .inl (cA, 41, .inl (fun _ => 0))), (q44, .inl (cA, 41, .inl (fun _ => 0))), (q52, .inl (cA, 41, .inl (fun _ => 0))), (q60, .inl (cA, 41, .inl (fun _ => 0))), (q68, .inl (cA, 41, .inl (fun _ => 0)))] : va_W) H := hP
    have hD : va_D A ([(h, .inr (4, [.int 0, .int 0, .ref q12, .ref q20, .ref q28, .ref q36, .ref q44, .ref q52, .ref q60, .ref q68, .null, .null, .ref y])), (q12, .inl (cA, 41, .inl (fun _ => 0))), (q20, .inl (cA, 41, .inl (fun _ => 0))), (q28, .inl (cA, 41, .inl (fun _ => 0))), (q36, .inl (cA, 41, .inl (fun _ => 0))), (q44, .inl (cA, 41, .inl (fun _ => 0))), (q52, .inl (cA, 41, .inl (fun _ => 0))), (q60, .inl (cA, 41, .inl (fun _ => 0))), (q68, .inl (cA, 41, .inl (fun _ => 0)))] : va_W) := hD
    refine lv_aload_n hx hb dX4_init_73 rfl (lv_at hl 0 rfl) ?_
    refine lv_bipush (v := 41) hx hb dX4_init_74 (by decide) ?_
    refine na_i hx hb kw5 hE hP hD hS hA (N := 41) (Nat.le_of_ble_eq_true rfl) (Nat.le_of_ble_eq_true rfl) (Nat.le_of_ble_eq_true rfl) dX4_init_76 (fun q76 H hP hD hS => ?_)
    refine W.widen (k := 9) (n := 369) (by omega) (by omega) ?_
    have hP : va_P D vwCl ([(h, .inr (4, [.int 0, .int 0, .ref q12, .ref q20, .ref q28, .ref q36, .ref q44, .ref q52, .ref q60, .ref q68, .null, .null, .ref y])), (q12, .inl (cA, 41, .inl (fun _ => 0))), (q20, .inl (cA, 41, .inl (fun _ => 0))), (q28, .inl (cA, 41, .inl (fun _ => 0))), (q36, .inl (cA, 41, .inl (fun _ => 0))), (q44, .inl (cA, 41, .inl (fun _ => 0))), (q52, .inl (cA, 41, .inl (fun _ => 0))), (q60, .inl (cA, 41, .inl (fun _ => 0))), (q68, .inl (cA, 41, .inl (fun _ => 0))), (q76, .inl (cA, 41, .inl (fun _ => 0)))] : va_W) H := hP
    have hD : va_D A ([(h, .inr (4, [.int 0, .int 0, .ref q12, .ref q20, .ref q28, .ref q36, .ref q44, .ref q52, .ref q60, .ref q68, .null, .null, .ref y])), (q12, .inl (cA, 41, .inl (fun _ => 0))), (q20, .inl (cA, 41, .inl (fun _ => 0))), (q28, .inl (cA, 41, .inl (fun _ => 0))), (q36, .inl (cA, 41, .inl (fun _ => 0))), (q44, .inl (cA, 41, .inl (fun _ => 0))), (q52, .inl (cA, 41, .inl (fun _ => 0))), (q60, .inl (cA, 41, .inl (fun _ => 0))), (q68, .inl (cA, 41, .inl (fun _ => 0))), (q76, .inl (cA, 41, .inl (fun _ => 0)))] : va_W) := hD
    refine va_putF (D := D) (ci := 4) (v := .ref q76) (ty := .array .int) (C := RX4) (T := TX4) (N := 13) hx hb hts inX4 tyX4 tyX4_ok nmX4 hown hE.1 hP hD hS 0 rfl rfl 10 (by decide) kf40 (fun _ h9 => h9) rfl hin rfl (by decide +kernel) rfl rfl (Nat.le_of_ble_eq_true rfl) dX4_init_78 (fun H locs hP hD hS => ?_)
    have hP : va_P D vwCl ([(h, .inr (4, [.int 0, .int 0, .ref q12, .ref q20, .ref q28, .ref q36, .ref q44, .ref q52, .ref q60, .ref q68, .ref q76, .null, .ref y])), (q12, .inl (cA, 41, .inl (fun _ => 0))), (q20, .inl (cA, 41, .inl (fun _ => 0))), (q28, .inl (cA, 41, .inl (fun _ => 0))), (q36, .inl (cA, 41, .inl (fun _ => 0))), (q44, .inl (cA, 41, .inl (fun _ => 0))), (q52, .inl (cA, 41, .inl (fun _ => 0))), (q60, .inl (cA, 41, .inl (fun _ => 0))), (q68, .inl (cA, 41, .inl (fun _ => 0))), (q76, .inl (cA, 41, .inl (fun _ => 0)))] : va_W) H := hP
    have hD : va_D A ([(h, .inr (4, [.int 0, .int 0, .ref q12, .ref q20, .ref q28, .ref q36, .ref q44, .ref q52, .ref q60, .ref q68, .ref q76, .null, .ref y])), (q12, .inl (cA, 41, .inl (fun _ => 0))), (q20, .inl (cA, 41, .inl (fun _ => 0))), (q28, .inl (cA, 41, .inl (fun _ => 0))), (q36, .inl (cA, 41, .inl (fun _ => 0))), (q44, .inl (cA, 41, .inl (fun _ => 0))), (q52, .inl (cA, 41, .inl (fun _ => 0))), (q60, .inl (cA, 41, .inl (fun _ => 0))), (q68, .inl (cA, 41, .inl (fun _ => 0))), (q76, .inl (cA, 41, .inl (fun _ => 0)))] : va_W) := hD
    refine lv_aload_n hx hb dX4_init_81 rfl (lv_at hl 0 rfl) ?_
    refine lv_bipush (v := 41) hx hb dX4_init_82 (by decide) ?_
    refine na_i hx hb kw5 hE hP hD hS hA (N := 41) (Nat.le_of_ble_eq_true rfl) (Nat.le_of_ble_eq_true rfl) (Nat.le_of_ble_eq_true rfl) dX4_init_84 (fun q84 H hP hD hS => ?_)
    refine W.widen (k := 10) (n := 410) (by omega) (by omega) ?_
    have hP : va_P D vwCl ([(h, .inr (4, [.int 0, .int 0, .ref q12, .ref q20, .ref q28, .ref q36, .ref q44, .ref q52, .ref q60, .ref q68, .ref q76, .null, .ref y])), (q12, .inl (cA, 41, .inl (fun _ => 0))), (q20, .inl (cA, 41, .inl (fun _ => 0))), (q28, .inl (cA, 41, .inl (fun _ => 0))), (q36, .inl (cA, 41, .inl (fun _ => 0))), (q44, .inl (cA, 41, .inl (fun _ => 0))), (q52, .inl (cA, 41, .inl (fun _ => 0))), (q60, .inl (cA, 41, .inl (fun _ => 0))), (q68, .inl (cA, 41, .inl (fun _ => 0))), (q76, .inl (cA, 41, .inl (fun _ => 0))), (q84, .inl (cA, 41, .inl (fun _ => 0)))] : va_W) H := hP
    have hD : va_D A ([(h, .inr (4, [.int 0, .int 0, .ref q12, .ref q20, .ref q28, .ref q36, .ref q44, .ref q52, .ref q60, .ref q68, .ref q76, .null, .ref y])), (q12, .inl (cA, 41, .inl (fun _ => 0))), (q20, .inl (cA, 41, .inl (fun _ => 0))), (q28, .inl (cA, 41, .inl (fun _ => 0))), (q36, .inl (cA, 41, .inl (fun _ => 0))), (q44, .inl (cA, 41, .inl (fun _ => 0))), (q52, .inl (cA, 41, .inl (fun _ => 0))), (q60, .inl (cA, 41, .inl (fun _ => 0))), (q68, .inl (cA, 41, .inl (fun _ => 0))), (q76, .inl (cA, 41, .inl (fun _ => 0))), (q84, .inl (cA, 41, .inl (fun _ => 0)))] : va_W) := hD
    refine va_putF (D := D) (ci := 4) (v := .ref q84) (ty := .array .int) (C := RX4) (T := TX4) (N := 13) hx hb hts inX4 tyX4 tyX4_ok nmX4 hown hE.1 hP hD hS 0 rfl rfl 11 (by decide) kf43 (fun _ h9 => h9) rfl hin rfl (by decide +kernel) rfl rfl (Nat.le_of_ble_eq_true rfl) dX4_init_86 (fun H locs hP hD hS => ?_)
    have hP : va_P D vwCl ([(h, .inr (4, [.int 0, .int 0, .ref q12, .ref q20, .ref q28, .ref q36, .ref q44, .ref q52, .ref q60, .ref q68, .ref q76, .ref q84, .ref y])), (q12, .inl (cA, 41, .inl (fun _ => 0))), (q20, .inl (cA, 41, .inl (fun _ => 0))), (q28, .inl (cA, 41, .inl (fun _ => 0))), (q36, .inl (cA, 41, .inl (fun _ => 0))), (q44, .inl (cA, 41, .inl (fun _ => 0))), (q52, .inl (cA, 41, .inl (fun _ => 0))), (q60, .inl (cA, 41, .inl (fun _ => 0))), (q68, .inl (cA, 41, .inl (fun _ => 0))), (q76, .inl (cA, 41, .inl (fun _ => 0))), (q84, .inl (cA, 41, .inl (fun _ => 0)))] : va_W) H := hP
    have hD : va_D A ([(h, .inr (4, [.int 0, .int 0, .ref q12, .ref q20, .ref q28, .ref q36, .ref q44, .ref q52, .ref q60, .ref q68, .ref q76, .ref q84, .ref y])), (q12, .inl (cA, 41, .inl (fun _ => 0))), (q20, .inl (cA, 41, .inl (fun _ => 0))), (q28, .inl (cA, 41, .inl (fun _ => 0))), (q36, .inl (cA, 41, .inl (fun _ => 0))), (q44, .inl (cA, 41, .inl (fun _ => 0))), (q52, .inl (cA, 41, .inl (fun _ => 0))), (q60, .inl (cA, 41, .inl (fun _ => 0))), (q68, .inl (cA, 41, .inl (fun _ => 0))), (q76, .inl (cA, 41, .inl (fun _ => 0))), (q84, .inl (cA, 41, .inl (fun _ => 0)))] : va_W) := hD
    have hP : va_P D vwCl (wS cA (fun k : Nat => List.getD [h, q12, q20, q28, q36, q44, q52, q60, q68, q76, q84] k 0) y zF (fun _ => 0)) H := hP
    have hD : va_D A (wS cA (fun k : Nat => List.getD [h, q12, q20, q28, q36, q44, q52, q60, q68, q76, q84] k 0) y zF (fun _ => 0)) := hD
    rw [hQQ]
    exact W.vret hx hb hr (fun t ht hW => ⟨⟨(fun k : Nat => List.getD [h, q12, q20, q28, q36, q44, q52, q60, q68, q76, q84] k 0), rfl, rfl, ⟨by rw [ht]; exact hP, hD⟩⟩, hS.F ht⟩) hS.2.2 dX4_init_89
  rw [hg1, hg2] at hgoal
  exact hgoal
