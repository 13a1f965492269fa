set_option maxHeartbeats 4000000 in
set_option maxRecDepth 100000 in
/-- THE LAW, from its entry -/
theorem whole_start {p : Program} {e : Env} {s : State} {m : MethodId} {below : List Frame} {meth : Method} {c : Code} (l : Launch) (hflags : l.flags = flags0) {b L : Nat} {xs : Nat → Int32} (hL : L ≤ 2560) (C0 : lw_At p s m meth c b L xs) : W p l e room_1 s m #[Value.ref b] below meth c s.heap [] 0 0 (lw_Z below #[Value.ref b] s) (entryFrame m ([Value.ref b] : List Value).toArray 9) := by
  obtain ⟨hx, hb, hr, hml, hown, htt, hX, hbl, hlocks, hgv⟩ := id C0
  have hown : s.vm.findClass RL = some m.cls := hown
  have hA : ∀ q : Nat, s.heap.size ≤ q → (fun q : Nat => s.heap.size ≤ q) q := fun _ h => h
  have hlt : l.stackTraces = false := by
    show (!l.flags.contains noTraceFlag) = false
    rw [hflags]
    decide +kernel
  have hf := flat_of_before _ hgv
  have hts : ∀ w ∈ wsL_law, w.before #[Value.ref b] s = true := fun w h => htt w (wsL_law_in w h)
  obtain ⟨D, hKc⟩ := law_D htt
  obtain ⟨cA, hfA, hAo, hAr⟩ := arr_of (htt (.arrayClass .int) (by decide +kernel))
  have hE : EK D cA s := ⟨⟨hKc, fun k q hq => by
    match k, hq with
    | 0, hq => cases hq; exact ⟨hAo, hAr⟩⟩, hfA, nest_of htt⟩
  obtain ⟨sa, hT⟩ := tx_of htt hf
  obtain ⟨z1, z2, hXS⟩ := sx_of htt hf
  have hNC := nc_of hf
  have hend : ∀ (H : Heap) (locs : List Loc) (cells slots : Nat) (ls : Array Slot), va_S (fun q : Nat => s.heap.size ≤ q) s.heap H locs → cells ≤ 601024 → slots ≤ 7293034 → W p l e room_1 s m #[Value.ref b] below meth c H locs cells slots (lw_Z below #[Value.ref b] s) (F0 m 1153 ls []) := by
    intro H locs cells slots ls hS hc hs
    refine lv_iconst (v := 1) hx hb dL_law_1153 (by decide) ?_
    refine va_forget hS.2.2 ?_
    refine W.widen (k := 601024) (n := 7293034) hc hs ?_
    refine W.base ?_
    exact lw_ret (d0 := s.drawn) (Drawn.sameBut.refl s.drawn lw_cs) hx hb hr hlocks dL_law_1154
  have hS : va_S (fun q : Nat => s.heap.size ≤ q) s.heap s.heap [] := va_S.rf
  have hP : va_P D vwCl [] s.heap := fun k q h => by simp at h
  have hD : va_D (fun q : Nat => s.heap.size ≤ q) [] := ⟨fun i j p q h => by simp at h, fun k q h => by simp at h⟩
  have hl := lv_entry ([.ref b]) (n := 9) (Nat.le_of_ble_eq_true rfl)
  rw [lg_entry_eq]
  generalize (lg_sl ([.ref b]) ++ List.replicate (9 - (lg_sl ([.ref b])).length) Slot.unset).toArray = ls at hl ⊢
  have hl : lv_has ls 9 [(0, .ref b)] := hl
  refine va_new (ci := 3) (fs := [.null, .null, .null]) (C := RX3) (T := TX3) (N := 3) hx hb hts inlX3 tyX3 tyX3_ok hown (hts (.classLink RL 8 RX3) (by decide +kernel)) (hts (.instantiable RX3 3) (by decide +kernel)) (hts (.initialized RX3) (by decide +kernel)) hE.1 hP hD hS hA rfl (fun j hj => by rcases (show j = 0 ∨ j = 1 ∨ j = 2 by omega) with rfl | rfl | rfl <;> rfl) (Nat.le_of_ble_eq_true rfl) (Nat.le_of_ble_eq_true rfl) dL_law_0 (fun q0 H hP hD hS => ?_)
  refine W.widen (k := 1) (n := 3) (by omega) (by omega) ?_
  refine lv_dup hx hb dL_law_3 rfl ?_
  have hP : va_P D vwCl ([(q0, .inr (3, [.null, .null, .null]))] : va_W) H := hP
  have hD : va_D (fun q : Nat => s.heap.size ≤ q) ([(q0, .inr (3, [.null, .null, .null]))] : va_W) := hD
  refine cI (S := (Nat → Nat) × (Nat → Nat) × (Nat → Nat)) (wr := ([] : va_W)) (wB := fun (u : (Nat → Nat) × (Nat → Nat) × (Nat → Nat)) => wX cA q0 u.1 u.2.1 u.2.2 zB zF (fun _ => 0) (fun _ => 0) zF (fun _ => 0) (fun _ => 0)) (As := []) (rest := [.ref q0]) (wc := ([(q0, .inr (3, [.null, .null, .null]))] : va_W)) ⟨hx, hb, hml, hown, hts⟩ (K_X3_init l D cA q0 H.size) (cwI 0 hts gL_law_X3_init rfl rfl rfl (hts (.initialized RX3) (by decide +kernel)) (hts (.methodLink RL 64 yX3_init) (by decide +kernel)) (hts (.instanceMethod yX3_init) (by decide +kernel)) rfl (by decide +kernel) ⟨Nat.le_of_ble_eq_true rfl, Nat.le_of_ble_eq_true rfl⟩) hE hP hD hS hA [0] [] rfl rfl rfl rfl (by decide) X0.blind (fun _ _ _ => trivial) hl.1 rfl rfl (Nat.le_of_ble_eq_true rfl) dL_law_4 ⟨Nat.le_of_ble_eq_true rfl, Nat.le_of_ble_eq_true rfl⟩ (fun u H locs _ hP hD hS => ?_)
  refine W.widen (k := 54) (n := 2202) (by omega) (by omega) ?_
  have hP : va_P D vwCl (wX cA q0 u.1 u.2.1 u.2.2 zB zF (fun _ => 0) (fun _ => 0) zF (fun _ => 0) (fun _ => 0)) H := hP
  have hD : va_D (fun q : Nat => s.heap.size ≤ q) (wX cA q0 u.1 u.2.1 u.2.2 zB zF (fun _ => 0) (fun _ => 0) zF (fun _ => 0) (fun _ => 0)) := hD
  refine lv_astore_n (lv' := [(1, .ref q0), (0, .ref b)]) hx hb dL_law_7 rfl hl (by decide) rfl (fun ls hl => ?_)
  refine va_new (ci := 5) (fs := [.int 0, .null, .int 0, .null, .int 0, .null, .null, .null]) (C := RX5) (T := TX5) (N := 8) hx hb hts inlX5 tyX5 tyX5_ok hown (hts (.classLink RL 65 RX5) (by decide +kernel)) (hts (.instantiable RX5 8) (by decide +kernel)) (hts (.initialized RX5) (by decide +kernel)) hE.1 hP hD hS hA rfl (fun j hj => by rcases (show j = 0 ∨ j = 1 ∨ j = 2 ∨ j = 3 ∨ j = 4 ∨ j = 5 ∨ j = 6 ∨ j = 7 by omega) with rfl | rfl | rfl | rfl | rfl | rfl | rfl | rfl <;> rfl) (Nat.le_of_ble_eq_true rfl) (Nat.le_of_ble_eq_true rfl) dL_law_8 (fun q1 H hP hD hS => ?_)
  refine W.widen (k := 55) (n := 2210) (by omega) (by omega) ?_
  refine lv_dup hx hb dL_law_11 rfl ?_
  have hP : va_P D vwCl (wX cA q0 u.1 u.2.1 u.2.2 zB zF (fun _ => 0) (fun _ => 0) zF (fun _ => 0) (fun _ => 0) ++ [(q1, .inr (5, [.int 0, .null, .int 0, .null, .int 0, .null, .null, .null]))]) H := hP
  have hD : va_D (fun q : Nat => s.heap.size ≤ q) (wX cA q0 u.1 u.2.1 u.2.2 zB zF (fun _ => 0) (fun _ => 0) zF (fun _ => 0) (fun _ => 0) ++ [(q1, .inr (5, [.int 0, .null, .int 0, .null, .int 0, .null, .null, .null]))]) := hD
  refine cI (S := (Nat → Nat) × (Nat → Nat) × (Nat → Nat)) (wr := (wX cA q0 u.1 u.2.1 u.2.2 zB zF (fun _ => 0) (fun _ => 0) zF (fun _ => 0) (fun _ => 0))) (wB := fun (w : (Nat → Nat) × (Nat → Nat) × (Nat → Nat)) => wY cA q1 w.1 w.2.1 w.2.2 0 zB zF (fun _ => 0) zF (fun _ => 0)) (As := []) (rest := [.ref q1]) (wc := ([(q1, .inr (5, [.int 0, .null, .int 0, .null, .int 0, .null, .null, .null]))] : va_W)) ⟨hx, hb, hml, hown, hts⟩ (K_X5_init l D cA q1 H.size) (cwI 0 hts gL_law_X5_init rfl rfl rfl (hts (.initialized RX5) (by decide +kernel)) (hts (.methodLink RL 67 yX5_init) (by decide +kernel)) (hts (.instanceMethod yX5_init) (by decide +kernel)) rfl (by decide +kernel) ⟨Nat.le_of_ble_eq_true rfl, Nat.le_of_ble_eq_true rfl⟩) hE hP hD hS hA [54] [0, 1, 2, 3, 4, 5, 6, 7, 8, 9, 10, 11, 12, 13, 14, 15, 16, 17, 18, 19, 20, 21, 22, 23, 24, 25, 26, 27, 28, 29, 30, 31, 32, 33, 34, 35, 36, 37, 38, 39, 40, 41, 42, 43, 44, 45, 46, 47, 48, 49, 50, 51, 52, 53] rfl rfl rfl rfl (by decide) X0.blind (fun _ _ _ => trivial) hl.1 rfl rfl (Nat.le_of_ble_eq_true rfl) dL_law_12 ⟨Nat.le_of_ble_eq_true rfl, Nat.le_of_ble_eq_true rfl⟩ (fun w H locs _ hP hD hS => ?_)
  refine W.widen (k := 80) (n := 3299) (by omega) (by omega) ?_
  have hP : va_P D vwCl (wX cA q0 u.1 u.2.1 u.2.2 zB zF (fun _ => 0) (fun _ => 0) zF (fun _ => 0) (fun _ => 0) ++ wY cA q1 w.1 w.2.1 w.2.2 0 zB zF (fun _ => 0) zF (fun _ => 0)) H := hP
  have hD : va_D (fun q : Nat => s.heap.size ≤ q) (wX cA q0 u.1 u.2.1 u.2.2 zB zF (fun _ => 0) (fun _ => 0) zF (fun _ => 0) (fun _ => 0) ++ wY cA q1 w.1 w.2.1 w.2.2 0 zB zF (fun _ => 0) zF (fun _ => 0)) := hD
  refine lv_astore_n (lv' := [(2, .ref q1), (1, .ref q0), (0, .ref b)]) hx hb dL_law_15 rfl hl (by decide) rfl (fun ls hl => ?_)
  refine lv_iconst (v := 1) hx hb dL_law_16 (by decide) ?_
  refine va_newa (atype := .long) (ty := .long) (a0 := (1, .inr (.inl (fun _ => 0)))) (N' := 1) hx hb (hts (.arrayClass .long) (by decide +kernel)) rfl hE.1 hP hD hS hA (fun _ => rfl) (by decide) (by decide) (by decide) (Nat.le_of_ble_eq_true rfl) (Nat.le_of_ble_eq_true rfl) dL_law_17 (fun q2 cL H hK2 hP hD hS => ?_)
  have hKL : va_K D vwCl [(cL, .long)] s := hK2.sub [1] rfl
  refine lv_astore_n (lv' := [(3, .ref q2), (2, .ref q1), (1, .ref q0), (0, .ref b)]) hx hb dL_law_19 rfl hl (by decide) rfl (fun ls hl => ?_)
  refine lv_iconst (v := 0) hx hb dL_law_20 (by decide) ?_
  refine lv_istore (lv' := [(4, .int 0), (3, .ref q2), (2, .ref q1), (1, .ref q0), (0, .ref b)]) hx hb dL_law_21 hl (by decide) rfl (fun ls hl => ?_)
  refine W.widen (k := 100 + 371 * 0) (n := 4000 + 3346 * 0) (by omega) (by omega) ?_
  have hP : va_P D vwCl ((wX cA q0 u.1 u.2.1 u.2.2 zB zF (fun _ => 0) (fun _ => 0) zF (fun _ => 0) (fun _ => 0) ++ wO cL q2 (fun _ => 0)) ++ wY cA q1 w.1 w.2.1 w.2.2 0 zB zF (fun _ => 0) zF (fun _ => 0)) H := hP.sub [0, 1, 2, 3, 4, 5, 6, 7, 8, 9, 10, 11, 12, 13, 14, 15, 16, 17, 18, 19, 20, 21, 22, 23, 24, 25, 26, 27, 28, 29, 30, 31, 32, 33, 34, 35, 36, 37, 38, 39, 40, 41, 42, 43, 44, 45, 46, 47, 48, 49, 50, 51, 52, 53, 80, 54, 55, 56, 57, 58, 59, 60, 61, 62, 63, 64, 65, 66, 67, 68, 69, 70, 71, 72, 73, 74, 75, 76, 77, 78, 79] rfl
  have hD : va_D (fun q : Nat => s.heap.size ≤ q) ((wX cA q0 u.1 u.2.1 u.2.2 zB zF (fun _ => 0) (fun _ => 0) zF (fun _ => 0) (fun _ => 0) ++ wO cL q2 (fun _ => 0)) ++ wY cA q1 w.1 w.2.1 w.2.2 0 zB zF (fun _ => 0) zF (fun _ => 0)) := hD.sub [0, 1, 2, 3, 4, 5, 6, 7, 8, 9, 10, 11, 12, 13, 14, 15, 16, 17, 18, 19, 20, 21, 22, 23, 24, 25, 26, 27, 28, 29, 30, 31, 32, 33, 34, 35, 36, 37, 38, 39, 40, 41, 42, 43, 44, 45, 46, 47, 48, 49, 50, 51, 52, 53, 80, 54, 55, 56, 57, 58, 59, 60, 61, 62, 63, 64, 65, 66, 67, 68, 69, 70, 71, 72, 73, 74, 75, 76, 77, 78, 79] (by decide) rfl
  exact law_loop (x := q0) (B := u.1) (F := u.2.1) (G := u.2.2) (o := q2) (y := q1) (E := w.1) (S := w.2.1) (T := w.2.2) (C0 := ⟨hx, hb, hml, hown, hts, hE, ⟨hT, hKL, hNC⟩, hXS, hX, hbl, hlt, hL⟩) hend 513 0 (Nat.zero_le _) (by omega) zB zF (fun _ => 0) (fun _ => 0) zF (fun _ => 0) (fun _ => 0) (fun _ => 0) 0 (fun _ => 0) zF (fun _ => 0) H _ ls ⟨WFa_zero, WFb_zero, WFn_zero, CRa_zero, by decide⟩ hP hD hS (lv_sub hl [0, 4, 3, 2, 1] rfl)
