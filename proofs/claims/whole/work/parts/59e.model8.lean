set_option maxHeartbeats 4000000 in
set_option maxRecDepth 100000 in
/-- digest -/
theorem K_X5_digest (lch : Launch) (D : va_G) (cA : ClassId) (y : Nat) (E : Nat → Nat) (S : Nat → Nat) (T : Nat → Nat) (th : Int32) (b : BSt) (a : FSt) (q : Nat → Int32) (a2 : FSt) (q2 : Nat → Int32) (sz : Nat) (hw1 : WFa a) (hn40 : qN a ≤ 40) : Met lch yX5_digest wsX5_digest ({ frames := 2, cells := 370, slots := 3340, locals := 48 }) (Pr D cA [.ref y] sz ((wM cA y E (S 0) (T 0) th b) ++ ((wS cA S y a q) ++ (wS cA T y a2 q2))) X0) (va_Ql (fun (r : Int64) (u : Unit) => r = digA a b) (fun (u : Unit) t => va_P D vwCl ((wM cA y E (S 0) (T 0) 0 b) ++ ((wS cA S y a q) ++ (wS cA T y a2 q2))) t.heap) (va_A ((wM cA y E (S 0) (T 0) th b) ++ ((wS cA S y a q) ++ (wS cA T y a2 q2))) sz)) 370 3340 (va_A ((wM cA y E (S 0) (T 0) th b) ++ ((wS cA S y a q) ++ (wS cA T y a2 q2))) sz) := by
  refine Met.ofW (cc := cX5_digest) (maxL := 7) (ret := (some .long)) (by decide) rfl ?_
  intro pg ev s mi args below meth cd s₁ B hml hv
  obtain ⟨hav, hsz, hP, hE, hD, hXs⟩ := hv
  have hx := B.exec
  have hb := B.bytes
  have hr := B.returns
  have hts := atoms_spec (ws := wsX5_digest) B.pre
  have hown : s.vm.findClass RX5 = some mi.cls := findClass_of_methodNamed B.named
  have hlocks := B.notSynchronized
  clear B
  subst hav
  subst hsz
  have hD := hD.self (sz := s.heap.size)
  generalize hAe : va_A ((wM cA y E (S 0) (T 0) th b) ++ ((wS cA S y a q) ++ (wS cA T y a2 q2))) s.heap.size = A at hD ⊢
  have hA : ∀ q : Nat, s.heap.size ≤ q → A q := fun q h => by rw [← hAe]; exact Or.inr h
  have hS : va_S A s.heap s.heap [] := va_S.rf
  obtain ⟨QQ, hQQ⟩ : ∃ qq9, qq9 = MQ below (va_Ql (fun (r : Int64) (u : Unit) => r = digA a b) (fun (u : Unit) t => va_P D vwCl ((wM cA y E (S 0) (T 0) 0 b) ++ ((wS cA S y a q) ++ (wS cA T y a2 q2))) t.heap) A) ([.ref y] : List Value).toArray s 370 3340 A := ⟨_, rfl⟩
  rw [← hQQ]
  have hl := lv_entry ([.ref y]) (n := 7) (Nat.le_of_ble_eq_true rfl)
  rw [lg_entry_eq]
  generalize (lg_sl ([.ref y]) ++ List.replicate (7 - (lg_sl ([.ref y])).length) Slot.unset).toArray = ls at hl ⊢
  have hl : lv_has ls 7 [(0, .ref y)] := hl
  have kf31 := hts (.fieldLink RX5 31 "LanternWeirsModel" "thrown" "I") (by decide +kernel)
  have inX5 : ∀ w ∈ u_ws RX5 TX5 8, w ∈ wsX5_digest := by decide +kernel
  have kw2 := hts (.constantLong RX5 123 1297) (by decide +kernel)
  have kf7 := hts (.fieldLink RX5 7 "LanternWeirsModel" "current" "[I") (by decide +kernel)
  have kf24 := hts (.fieldLink RX5 24 "LanternWeirsModel" "s" "LLanternWeirsModel$State;") (by decide +kernel)
  have kf39 := va_Nw.use (A := ([.ref y] : List Value).toArray) rfl (hE.2.2 (.fieldLinkNest "LanternWeirsModel" 39 "LanternWeirsModel$State" "lanterns" "I" "LanternWeirsModel") (by decide +kernel))
  have inX4 : ∀ w ∈ u_ws RX4 TX4 13, w ∈ wsX5_digest := by decide +kernel
  have kw7 := hts (.constantLong RX5 125 31) (by decide +kernel)
  obtain ⟨H, locs, hP, hS, hgo⟩ : ∃ H locs, va_P D vwCl ((wM cA y E (S 0) (T 0) th b) ++ ((wS cA S y a q) ++ (wS cA T y a2 q2))) H ∧ va_S A s.heap H locs ∧ (H = s.heap ∧ locs = []) := ⟨_, _, hP, hS, rfl, rfl⟩
  obtain ⟨hg1, hg2⟩ := hgo
  have hgoal : W pg lch ev (headSpec wsX5_digest ({ frames := 2, cells := 370, slots := 3340, locals := 48 })).room s mi ([.ref y] : List Value).toArray below meth cd H locs 0 0 QQ (F0 mi 0 ls []) := by
    have hn := hw1.1
    refine lv_aload_n hx hb dX5_digest_0 rfl (lv_at hl 0 rfl) ?_
    refine lv_iconst (v := 0) hx hb dX5_digest_1 (by decide) ?_
    refine va_put (D := D) (ci := 5) (v := .int 0) (ty := .int) (C := RX5) (T := TX5) (N := 8) hx hb hts inX5 tyX5 tyX5_ok nmX5 hown hE.1 hP hD hS 0 rfl rfl 0 (by decide) kf31 (fun _ h9 => h9) rfl (by decide +kernel) rfl rfl (Nat.le_of_ble_eq_true rfl) dX5_digest_2 (fun H locs hP hD hS => ?_)
    have hP : va_P D vwCl ((wM cA y E (S 0) (T 0) 0 b) ++ ((wS cA S y a q) ++ (wS cA T y a2 q2))) H := hP
    have hD : va_D A ((wM cA y E (S 0) (T 0) 0 b) ++ ((wS cA S y a q) ++ (wS cA T y a2 q2))) := hD
    refine lv_ldc2 (v := 1297) hx hb hown kw2 dX5_digest_5 ?_
    refine lv_lstore_n (lv' := [(1, .long 1297), (0, .ref y)]) hx hb dX5_digest_8 rfl hl (by decide) rfl (fun ls hl => ?_)
    refine lv_iconst (v := 0) hx hb dX5_digest_9 (by decide) ?_
    refine lv_istore_n (lv' := [(3, .int 0), (1, .long 1297), (0, .ref y)]) hx hb dX5_digest_10 rfl hl (by decide) rfl (fun ls hl => ?_)
    have L11 : ∀ (fu11 : Nat) (n : Nat), (n ≤ 10) → 10 - n < fu11 → ∀ (H : Heap) (locs : List Loc), va_P D vwCl ((wM cA y E (S 0) (T 0) 0 b) ++ ((wS cA S y a q) ++ (wS cA T y a2 q2))) H → va_D A ((wM cA y E (S 0) (T 0) 0 b) ++ ((wS cA S y a q) ++ (wS cA T y a2 q2))) → va_S A s.heap H locs → ∀ ls : Array Slot, lv_has ls 7 [(1, .long (dgC a b n 1297)), (3, .int (nI n)), (0, .ref y)] → W pg lch ev (headSpec wsX5_digest ({ frames := 2, cells := 370, slots := 3340, locals := 48 })).room s mi ([.ref y] : List Value).toArray below meth cd H locs n (10 * n) QQ (F0 mi 11 ls []) := by
      intro fu11
      induction fu11 with
      | zero => intro n hn hms; exact absurd hms (Nat.not_lt_zero _)
      | succ fu11 ih11 =>
        intro n hn hms11 H locs hP hD hS ls hl
        refine lv_iload_n hx hb dX5_digest_11 rfl (lv_at hl 1 rfl) ?_
        refine lv_bipush (v := 9) hx hb dX5_digest_12 (by decide) ?_
        refine lv_icmp_gt (tgt := 39) hx hb dX5_digest_14 (by decide) (fun c14 => ?_) (fun c14 => ?_)
        · skip
          have c14 := (nI_ltI (a := 9) (b := n) (by omega) (by omega)).mp c14
          have e9 : n = 10 := by omega
          rw [e9] at hl
          refine W.widen (k := 10) (n := 100) (by omega) (by omega) ?_
          refine lv_aload_n hx hb dX5_digest_39 rfl (lv_at hl 2 rfl) ?_
          refine va_get (D := D) (ci := 5) (v := .ref (E 0)) (C := RX5) (T := TX5) (N := 8) hx hb hts inX5 hown hE.1 hP 0 rfl rfl 1 (by decide) kf7 (fun _ h9 => h9) rfl dX5_digest_40 ?_
          refine lv_astore_n (lv' := [(3, .ref (E 0)), (1, .long (dgC a b 10 1297)), (0, .ref y)]) hx hb dX5_digest_43 rfl hl (by decide) rfl (fun ls hl => ?_)
          refine lv_aload_n hx hb dX5_digest_44 rfl (lv_at hl 0 rfl) ?_
          refine va_alen hx hb hE.1 hP 1 0 rfl rfl (v := nI 3) rfl dX5_digest_45 ?_
          refine lv_istore (lv' := [(4, .int (nI 3)), (3, .ref (E 0)), (1, .long (dgC a b 10 1297)), (0, .ref y)]) hx hb dX5_digest_46 hl (by decide) rfl (fun ls hl => ?_)
          refine lv_iconst (v := 0) hx hb dX5_digest_48 (by decide) ?_
          refine lv_istore (lv' := [(5, .int 0), (4, .int (nI 3)), (3, .ref (E 0)), (1, .long (dgC a b 10 1297)), (0, .ref y)]) hx hb dX5_digest_49 hl (by decide) rfl (fun ls hl => ?_)
          have L51 : ∀ (fu51 : Nat) (n : Nat), (n ≤ 3) → 3 - n < fu51 → ∀ (H : Heap) (locs : List Loc), va_P D vwCl ((wM cA y E (S 0) (T 0) 0 b) ++ ((wS cA S y a q) ++ (wS cA T y a2 q2))) H → va_D A ((wM cA y E (S 0) (T 0) 0 b) ++ ((wS cA S y a q) ++ (wS cA T y a2 q2))) → va_S A s.heap H locs → ∀ ls : Array Slot, lv_has ls 7 [(1, .long (dgU b n (dgC a b 10 1297))), (5, .int (nI n)), (4, .int (nI 3)), (3, .ref (E 0)), (0, .ref y)] → W pg lch ev (headSpec wsX5_digest ({ frames := 2, cells := 370, slots := 3340, locals := 48 })).room s mi ([.ref y] : List Value).toArray below meth cd H locs 10 100 QQ (F0 mi 51 ls []) := by
            intro fu51
            induction fu51 with
            | zero => intro n hn hms; exact absurd hms (Nat.not_lt_zero _)
            | succ fu51 ih51 =>
              intro n hn hms51 H locs hP hD hS ls hl
              refine lv_iload hx hb dX5_digest_51 (lv_at hl 1 rfl) ?_
              refine lv_iload hx hb dX5_digest_53 (lv_at hl 2 rfl) ?_
              refine lv_icmp_ge (tgt := 80) hx hb dX5_digest_55 (by decide) (fun c55 => ?_) (fun c55 => ?_)
              · skip
                have c55 := (nI_leI (a := 3) (b := n) (by omega) (by omega)).mp c55
                have e9 : n = 3 := by omega
                rw [e9] at hl
                refine lv_iconst (v := 0) hx hb dX5_digest_80 (by decide) ?_
                refine lv_istore_n (lv' := [(3, .int 0), (1, .long (dgU b 3 (dgC a b 10 1297))), (5, .int (nI 3)), (4, .int (nI 3)), (0, .ref y)]) hx hb dX5_digest_81 rfl hl (by decide) rfl (fun ls hl => ?_)
                have L82 : ∀ (fu82 : Nat) (pp : Nat), (pp ≤ 60) → 60 - pp < fu82 → ∀ (H : Heap) (locs : List Loc), va_P D vwCl ((wM cA y E (S 0) (T 0) 0 b) ++ ((wS cA S y a q) ++ (wS cA T y a2 q2))) H → va_D A ((wM cA y E (S 0) (T 0) 0 b) ++ ((wS cA S y a q) ++ (wS cA T y a2 q2))) → va_S A s.heap H locs → ∀ ls : Array Slot, lv_has ls 7 [(1, .long (dgR a b pp (dgU b 3 (dgC a b 10 1297)))), (3, .int (nI pp)), (0, .ref y)] → W pg lch ev (headSpec wsX5_digest ({ frames := 2, cells := 370, slots := 3340, locals := 48 })).room s mi ([.ref y] : List Value).toArray below meth cd H locs 10 100 QQ (F0 mi 82 ls []) := by
                  intro fu82
                  induction fu82 with
                  | zero => intro pp hpp hms; exact absurd hms (Nat.not_lt_zero _)
                  | succ fu82 ih82 =>
                    intro pp hpp hms82 H locs hP hD hS ls hl
                    refine lv_iload_n hx hb dX5_digest_82 rfl (lv_at hl 1 rfl) ?_
                    refine lv_bipush (v := 60) hx hb dX5_digest_83 (by decide) ?_
                    refine lv_icmp_ge (tgt := 141) hx hb dX5_digest_85 (by decide) (fun c85 => ?_) (fun c85 => ?_)
                    · skip
                      have c85 := (nI_leI (a := 60) (b := pp) (by omega) (by omega)).mp c85
                      have e9 : pp = 60 := by omega
                      rw [e9] at hl
                      refine lv_iconst (v := 0) hx hb dX5_digest_141 (by decide) ?_
                      refine lv_istore_n (lv' := [(3, .int 0), (1, .long (dgR a b 60 (dgU b 3 (dgC a b 10 1297)))), (0, .ref y)]) hx hb dX5_digest_142 rfl hl (by decide) rfl (fun ls hl => ?_)
                      have L143 : ∀ (fu143 : Nat) (k : Nat), (k ≤ qN a) → qN a - k < fu143 → ∀ (H : Heap) (locs : List Loc), va_P D vwCl ((wM cA y E (S 0) (T 0) 0 b) ++ ((wS cA S y a q) ++ (wS cA T y a2 q2))) H → va_D A ((wM cA y E (S 0) (T 0) 0 b) ++ ((wS cA S y a q) ++ (wS cA T y a2 q2))) → va_S A s.heap H locs → ∀ ls : Array Slot, lv_has ls 7 [(1, .long (dgL a b k (dgR a b 60 (dgU b 3 (dgC a b 10 1297))))), (3, .int (nI k)), (0, .ref y)] → W pg lch ev (headSpec wsX5_digest ({ frames := 2, cells := 370, slots := 3340, locals := 48 })).room s mi ([.ref y] : List Value).toArray below meth cd H locs (10 + 9 * k) (100 + 81 * k) QQ (F0 mi 143 ls []) := by
                        intro fu143
                        induction fu143 with
                        | zero => intro k hk hms; exact absurd hms (Nat.not_lt_zero _)
                        | succ fu143 ih143 =>
                          intro k hk hms143 H locs hP hD hS ls hl
                          refine lv_iload_n hx hb dX5_digest_143 rfl (lv_at hl 1 rfl) ?_
                          refine lv_aload_n hx hb dX5_digest_144 rfl (lv_at hl 2 rfl) ?_
                          refine va_get (D := D) (ci := 5) (v := .ref (S 0)) (C := RX5) (T := TX5) (N := 8) hx hb hts inX5 hown hE.1 hP 0 rfl rfl 6 (by decide) kf24 (fun _ h9 => h9) rfl dX5_digest_145 ?_
                          refine va_getN (D := D) (ci := 4) (v := .int (nI (qN a))) (C := RX4) (T := TX4) (N := 13) hx hb hts inX4 hown hE.1 hP 4 rfl rfl 1 (by decide) kf39 (fun _ h9 => h9) rfl dX5_digest_148 ?_
                          refine lv_icmp_ge (tgt := 204) hx hb dX5_digest_151 (by decide) (fun c151 => ?_) (fun c151 => ?_)
                          · skip
                            have c151 := (nI_leI (a := qN a) (b := k) (by omega) (by omega)).mp c151
                            have e9 : k = (qN a) := by omega
                            rw [e9] at hl
                            refine lv_lload_n hx hb dX5_digest_204 rfl (lv_at hl 0 rfl) ?_
                            refine W.widen (k := 370) (n := 3340) (by first | exact Nat.le_of_ble_eq_true rfl | omega) (by first | exact Nat.le_of_ble_eq_true rfl | omega) ?_
                            rw [hQQ]
                            exact W.lret (v := dgL a b (qN a) (dgR a b 60 (dgU b 3 (dgC a b 10 1297)))) hx hb hr (fun t ht hW => ⟨⟨dgL a b (qN a) (dgR a b 60 (dgU b 3 (dgC a b 10 1297))), (), rfl, rfl, by show va_P _ _ _ t.heap; rw [ht]; exact hP⟩, hS.F ht⟩) hS.2.2 dX5_digest_205
                          · skip
                            have c151 := (not_congr (nI_leI (a := qN a) (b := k) (by omega) (by omega))).mp c151
                            refine lv_iconst (v := 0) hx hb dX5_digest_154 (by decide) ?_
                            refine lv_istore (lv' := [(4, .int 0), (1, .long (dgL a b k (dgR a b 60 (dgU b 3 (dgC a b 10 1297))))), (3, .int (nI k)), (0, .ref y)]) hx hb dX5_digest_155 hl (by decide) rfl (fun ls hl => ?_)
                            have L157 : ∀ (fu157 : Nat) (w : Nat), (w ≤ 9) → 9 - w < fu157 → ∀ (H : Heap) (locs : List Loc), va_P D vwCl ((wM cA y E (S 0) (T 0) 0 b) ++ ((wS cA S y a q) ++ (wS cA T y a2 q2))) H → va_D A ((wM cA y E (S 0) (T 0) 0 b) ++ ((wS cA S y a q) ++ (wS cA T y a2 q2))) → va_S A s.heap H locs → ∀ ls : Array Slot, lv_has ls 7 [(1, .long (dgL1 a k w (dgL a b k (dgR a b 60 (dgU b 3 (dgC a b 10 1297)))))), (4, .int (nI w)), (3, .int (nI k)), (0, .ref y)] → W pg lch ev (headSpec wsX5_digest ({ frames := 2, cells := 370, slots := 3340, locals := 48 })).room s mi ([.ref y] : List Value).toArray below meth cd H locs (10 + 9 * k + w) (100 + 81 * k + 9 * w) QQ (F0 mi 157 ls []) := by
                              intro fu157
                              induction fu157 with
                              | zero => intro w hw hms; exact absurd hms (Nat.not_lt_zero _)
                              | succ fu157 ih157 =>
                                intro w hw hms157 H locs hP hD hS ls hl
                                refine lv_iload hx hb dX5_digest_157 (lv_at hl 1 rfl) ?_
                                refine lv_bipush (v := 8) hx hb dX5_digest_159 (by decide) ?_
                                refine lv_icmp_gt (tgt := 185) hx hb dX5_digest_161 (by decide) (fun c161 => ?_) (fun c161 => ?_)
                                · skip
                                  have c161 := (nI_ltI (a := 8) (b := w) (by omega) (by omega)).mp c161
                                  have e9 : w = 9 := by omega
                                  rw [e9] at hl
                                  refine W.widen (k := (10 + 9 * (k + 1))) (n := (100 + 81 * (k + 1))) (by omega) (by omega) ?_
                                  refine lv_lload_n hx hb dX5_digest_185 rfl (lv_at hl 0 rfl) ?_
                                  refine lv_ldc2 (v := 31) hx hb hown kw7 dX5_digest_186 ?_
                                  refine lv_lmul hx hb dX5_digest_189 ?_
                                  refine lv_aload_n hx hb dX5_digest_190 rfl (lv_at hl 3 rfl) ?_
                                  refine lv_iload_n hx hb dX5_digest_191 rfl (lv_at hl 2 rfl) ?_
                                  refine pVi (As := [.int (nI k)]) (rest := [.long ((dgL1 a k 9 (dgL a b k (dgR a b 60 (dgU b 3 (dgC a b 10 1297))))) * 31)]) (wc := ((wM cA y E (S 0) (T 0) 0 b) ++ ((wS cA S y a q) ++ (wS cA T y a2 q2)))) ⟨hx, hb, hml, hown, hts⟩ (K_X5_nextOf lch D cA y E S T 0 b a q a2 q2 k H.size (by first | assumption | omega) (by omega)) (cwV 1 hts gX5_digest_X5_nextOf rfl rfl rfl (by decide +kernel) ⟨Nat.le_of_ble_eq_true rfl, Nat.le_of_ble_eq_true rfl⟩) hE hP hD hS hA [0, 1, 2, 3, 4, 5, 6, 7, 8, 9, 10, 11, 12, 13, 14, 15, 16, 17, 18, 19, 20, 21, 22, 23, 24, 25] rfl rfl X0.blind (fun _ _ _ => trivial) 0 5 rfl rfl rfl hl.1 rfl rfl (Nat.le_of_ble_eq_true rfl) dX5_digest_192 ⟨by show _ ≤ 370; omega, by show _ ≤ 3340; omega⟩ (fun r_1 u_2 H locs h_3 hP hS => ?_)
                                  subst h_3
                                  refine lv_i2l (v := (nextA a b k : Int32).toInt64) hx hb dX5_digest_195 rfl ?_
                                  refine lv_ladd hx hb dX5_digest_196 ?_
                                  refine lv_lstore_n (lv' := [(1, .long (((dgL1 a k 9 (dgL a b k (dgR a b 60 (dgU b 3 (dgC a b 10 1297))))) * 31) + ((nextA a b k : Int32).toInt64))), (4, .int (nI 9)), (3, .int (nI k)), (0, .ref y)]) hx hb dX5_digest_197 rfl hl (by decide) rfl (fun ls hl => ?_)
                                  refine lv_iinc (v := nI (k + 1)) (lv' := [(3, .int (nI (k + 1))), (1, .long (((dgL1 a k 9 (dgL a b k (dgR a b 60 (dgU b 3 (dgC a b 10 1297))))) * 31) + ((nextA a b k : Int32).toInt64))), (4, .int (nI 9)), (0, .ref y)]) hx hb dX5_digest_198 hl (k := 2) rfl (nI_add k 1) (by decide) rfl (fun ls hl => ?_)
                                  refine lv_goto (tgt := 143) hx hb dX5_digest_201 (by decide) ?_
                                  rw [← dgL_s] at hl
                                  exact ih143 (k + 1) (by omega) (by omega) H locs hP hD hS ls (lv_sub hl [1, 0, 3] rfl)
                                · skip
                                  have c161 := (not_congr (nI_ltI (a := 8) (b := w) (by omega) (by omega))).mp c161
                                  refine lv_lload_n hx hb dX5_digest_164 rfl (lv_at hl 0 rfl) ?_
                                  refine lv_ldc2 (v := 31) hx hb hown kw7 dX5_digest_165 ?_
                                  refine lv_lmul hx hb dX5_digest_168 ?_
                                  refine lv_aload_n hx hb dX5_digest_169 rfl (lv_at hl 3 rfl) ?_
                                  refine lv_iload_n hx hb dX5_digest_170 rfl (lv_at hl 2 rfl) ?_
                                  refine lv_iload hx hb dX5_digest_171 (lv_at hl 1 rfl) ?_
                                  refine cVi (wB := fun (u_5 : Unit) => ((wM cA y E (S 0) (T 0) 0 b) ++ ((wS cA S y a q) ++ (wS cA T y a2 q2)))) (As := [.int (nI k), .int (nI w)]) (rest := [.long ((dgL1 a k w (dgL a b k (dgR a b 60 (dgU b 3 (dgC a b 10 1297))))) * 31)]) (wc := ((wM cA y E (S 0) (T 0) 0 b) ++ ((wS cA S y a q) ++ (wS cA T y a2 q2)))) ⟨hx, hb, hml, hown, hts⟩ (K_X5_lanternTold lch D cA y E S T 0 b a q a2 q2 k w H.size (by omega) (by omega)) (cwV 2 hts gX5_digest_X5_lanternTold rfl rfl rfl (by decide +kernel) ⟨Nat.le_of_ble_eq_true rfl, Nat.le_of_ble_eq_true rfl⟩) hE hP hD hS hA [0, 1, 2, 3, 4, 5, 6, 7, 8, 9, 10, 11, 12, 13, 14, 15, 16, 17, 18, 19, 20, 21, 22, 23, 24, 25] rfl rfl [y, E 0, E 1, E 2, S 0, S 1, S 2, S 3, S 4, S 5, S 6, S 7, S 8, S 9, S 10, T 0, T 1, T 2, T 3, T 4, T 5, T 6, T 7, T 8, T 9, T 10] (fun _ => rfl) rfl (fun (u_5 : Unit) => ((wM cA y E (S 0) (T 0) 0 b) ++ ((wS cA S y a q) ++ (wS cA T y a2 q2)))) (fun _ => pst_all 26 rfl rfl rfl) X0.blind (fun _ _ _ => trivial) 0 5 rfl rfl rfl hl.1 rfl rfl (Nat.le_of_ble_eq_true rfl) dX5_digest_173 ⟨by show _ ≤ 370; omega, by show _ ≤ 3340; omega⟩ (fun r_4 u_5 H locs h_6 hP hD hS => ?_)
                                  subst h_6
                                  refine W.widen (k := (10 + 9 * k + (w + 1))) (n := (100 + 81 * k + 9 * (w + 1))) (by omega) (by omega) ?_
                                  refine lv_i2l (v := (factA a k w : Int32).toInt64) hx hb dX5_digest_176 rfl ?_
                                  refine lv_ladd hx hb dX5_digest_177 ?_
                                  refine lv_lstore_n (lv' := [(1, .long (((dgL1 a k w (dgL a b k (dgR a b 60 (dgU b 3 (dgC a b 10 1297))))) * 31) + ((factA a k w : Int32).toInt64))), (4, .int (nI w)), (3, .int (nI k)), (0, .ref y)]) hx hb dX5_digest_178 rfl hl (by decide) rfl (fun ls hl => ?_)
                                  refine lv_iinc (v := nI (w + 1)) (lv' := [(4, .int (nI (w + 1))), (1, .long (((dgL1 a k w (dgL a b k (dgR a b 60 (dgU b 3 (dgC a b 10 1297))))) * 31) + ((factA a k w : Int32).toInt64))), (3, .int (nI k)), (0, .ref y)]) hx hb dX5_digest_179 hl (k := 1) rfl (nI_add w 1) (by decide) rfl (fun ls hl => ?_)
                                  refine lv_goto (tgt := 157) hx hb dX5_digest_182 (by decide) ?_
                                  rw [← dgL1_s] at hl
                                  exact ih157 (w + 1) (by omega) (by omega) H locs hP hD hS ls (lv_sub hl [1, 0, 2, 3] rfl)
                            rw [← dgL1_0 a k (dgL a b k (dgR a b 60 (dgU b 3 (dgC a b 10 1297))))] at hl
                            exact L157 (9 + 1) 0 (Nat.zero_le _) (by omega) H locs hP hD hS ls (lv_sub hl [1, 0, 2, 3] rfl)
                      rw [← dgL_0 a b (dgR a b 60 (dgU b 3 (dgC a b 10 1297)))] at hl
                      exact L143 (qN a + 1) 0 (Nat.zero_le _) (by omega) H locs hP hD hS ls (lv_sub hl [1, 0, 2] rfl)
                    · skip
                      have c85 := (not_congr (nI_leI (a := 60) (b := pp) (by omega) (by omega))).mp c85
                      refine lv_iconst (v := 0) hx hb dX5_digest_88 (by decide) ?_
                      refine lv_istore (lv' := [(4, .int 0), (1, .long (dgR a b pp (dgU b 3 (dgC a b 10 1297)))), (3, .int (nI pp)), (0, .ref y)]) hx hb dX5_digest_89 hl (by decide) rfl (fun ls hl => ?_)
                      have L91 : ∀ (fu91 : Nat) (l : Nat), (l ≤ 3) → 3 - l < fu91 → ∀ (H : Heap) (locs : List Loc), va_P D vwCl ((wM cA y E (S 0) (T 0) 0 b) ++ ((wS cA S y a q) ++ (wS cA T y a2 q2))) H → va_D A ((wM cA y E (S 0) (T 0) 0 b) ++ ((wS cA S y a q) ++ (wS cA T y a2 q2))) → va_S A s.heap H locs → ∀ ls : Array Slot, lv_has ls 7 [(1, .long (dgR2 a b pp l (dgR a b pp (dgU b 3 (dgC a b 10 1297))))), (4, .int (nI l)), (3, .int (nI pp)), (0, .ref y)] → W pg lch ev (headSpec wsX5_digest ({ frames := 2, cells := 370, slots := 3340, locals := 48 })).room s mi ([.ref y] : List Value).toArray below meth cd H locs 10 100 QQ (F0 mi 91 ls []) := by
                        intro fu91
                        induction fu91 with
                        | zero => intro l hl hms; exact absurd hms (Nat.not_lt_zero _)
                        | succ fu91 ih91 =>
                          intro l hl hms91 H locs hP hD hS ls hl
                          refine lv_iload hx hb dX5_digest_91 (lv_at hl 1 rfl) ?_
                          refine lv_iconst (v := 3) hx hb dX5_digest_93 (by decide) ?_
                          refine lv_icmp_ge (tgt := 135) hx hb dX5_digest_94 (by decide) (fun c94 => ?_) (fun c94 => ?_)
                          · skip
                            have c94 := (nI_leI (a := 3) (b := l) (by omega) (by omega)).mp c94
                            have e9 : l = 3 := by omega
                            rw [e9] at hl
                            refine lv_iinc (v := nI (pp + 1)) (lv' := [(3, .int (nI (pp + 1))), (1, .long (dgR2 a b pp 3 (dgR a b pp (dgU b 3 (dgC a b 10 1297))))), (4, .int (nI 3)), (0, .ref y)]) hx hb dX5_digest_135 hl (k := 2) rfl (nI_add pp 1) (by decide) rfl (fun ls hl => ?_)
                            refine lv_goto (tgt := 82) hx hb dX5_digest_138 (by decide) ?_
                            rw [← dgR_s] at hl
                            exact ih82 (pp + 1) (by omega) (by omega) H locs hP hD hS ls (lv_sub hl [1, 0, 3] rfl)
                          · skip
                            have c94 := (not_congr (nI_leI (a := 3) (b := l) (by omega) (by omega))).mp c94
                            refine lv_iconst (v := 0) hx hb dX5_digest_97 (by decide) ?_
                            refine lv_istore (lv' := [(5, .int 0), (1, .long (dgR2 a b pp l (dgR a b pp (dgU b 3 (dgC a b 10 1297))))), (4, .int (nI l)), (3, .int (nI pp)), (0, .ref y)]) hx hb dX5_digest_98 hl (by decide) rfl (fun ls hl => ?_)
                            have L100 : ∀ (fu100 : Nat) (w : Nat), (w ≤ 4) → 4 - w < fu100 → ∀ (H : Heap) (locs : List Loc), va_P D vwCl ((wM cA y E (S 0) (T 0) 0 b) ++ ((wS cA S y a q) ++ (wS cA T y a2 q2))) H → va_D A ((wM cA y E (S 0) (T 0) 0 b) ++ ((wS cA S y a q) ++ (wS cA T y a2 q2))) → va_S A s.heap H locs → ∀ ls : Array Slot, lv_has ls 7 [(1, .long (dgR3 a b l pp w (dgR2 a b pp l (dgR a b pp (dgU b 3 (dgC a b 10 1297)))))), (5, .int (nI w)), (4, .int (nI l)), (3, .int (nI pp)), (0, .ref y)] → W pg lch ev (headSpec wsX5_digest ({ frames := 2, cells := 370, slots := 3340, locals := 48 })).room s mi ([.ref y] : List Value).toArray below meth cd H locs 10 100 QQ (F0 mi 100 ls []) := by
                              intro fu100
                              induction fu100 with
                              | zero => intro w hw hms; exact absurd hms (Nat.not_lt_zero _)
                              | succ fu100 ih100 =>
                                intro w hw hms100 H locs hP hD hS ls hl
                                refine lv_iload hx hb dX5_digest_100 (lv_at hl 1 rfl) ?_
                                refine lv_iconst (v := 3) hx hb dX5_digest_102 (by decide) ?_
                                refine lv_icmp_gt (tgt := 129) hx hb dX5_digest_103 (by decide) (fun c103 => ?_) (fun c103 => ?_)
                                · skip
                                  have c103 := (nI_ltI (a := 3) (b := w) (by omega) (by omega)).mp c103
                                  have e9 : w = 4 := by omega
                                  rw [e9] at hl
                                  refine lv_iinc (v := nI (l + 1)) (lv' := [(4, .int (nI (l + 1))), (1, .long (dgR3 a b l pp 4 (dgR2 a b pp l (dgR a b pp (dgU b 3 (dgC a b 10 1297)))))), (5, .int (nI 4)), (3, .int (nI pp)), (0, .ref y)]) hx hb dX5_digest_129 hl (k := 2) rfl (nI_add l 1) (by decide) rfl (fun ls hl => ?_)
                                  refine lv_goto (tgt := 91) hx hb dX5_digest_132 (by decide) ?_
                                  rw [← dgR2_s] at hl
                                  exact ih91 (l + 1) (by omega) (by omega) H locs hP hD hS ls (lv_sub hl [1, 0, 3, 4] rfl)
                                · skip
                                  have c103 := (not_congr (nI_ltI (a := 3) (b := w) (by omega) (by omega))).mp c103
                                  refine lv_lload_n hx hb dX5_digest_106 rfl (lv_at hl 0 rfl) ?_
                                  refine lv_ldc2 (v := 31) hx hb hown kw7 dX5_digest_107 ?_
                                  refine lv_lmul hx hb dX5_digest_110 ?_
                                  refine lv_aload_n hx hb dX5_digest_111 rfl (lv_at hl 4 rfl) ?_
                                  refine lv_iload hx hb dX5_digest_112 (lv_at hl 2 rfl) ?_
                                  refine lv_iload_n hx hb dX5_digest_114 rfl (lv_at hl 3 rfl) ?_
                                  refine lv_iload hx hb dX5_digest_115 (lv_at hl 1 rfl) ?_
                                  refine pVi (As := [.int (nI l), .int (nI pp), .int (nI w)]) (rest := [.long ((dgR3 a b l pp w (dgR2 a b pp l (dgR a b pp (dgU b 3 (dgC a b 10 1297))))) * 31)]) (wc := ((wM cA y E (S 0) (T 0) 0 b) ++ ((wS cA S y a q) ++ (wS cA T y a2 q2)))) ⟨hx, hb, hml, hown, hts⟩ (K_X5_riverTold lch D cA y E S T 0 b a q a2 q2 l pp w H.size (by first | assumption | omega) (by omega) (by omega) (by omega)) (cwV 3 hts gX5_digest_X5_riverTold rfl rfl rfl (by decide +kernel) ⟨Nat.le_of_ble_eq_true rfl, Nat.le_of_ble_eq_true rfl⟩) hE hP hD hS hA [0, 1, 2, 3, 4, 5, 6, 7, 8, 9, 10, 11, 12, 13, 14, 15, 16, 17, 18, 19, 20, 21, 22, 23, 24, 25] rfl rfl X0.blind (fun _ _ _ => trivial) 0 5 rfl rfl rfl hl.1 rfl rfl (Nat.le_of_ble_eq_true rfl) dX5_digest_117 ⟨by show _ ≤ 370; omega, by show _ ≤ 3340; omega⟩ (fun r_7 u_8 H locs h_9 hP hS => ?_)
                                  subst h_9
                                  refine lv_i2l (v := (riverA a b l pp w : Int32).toInt64) hx hb dX5_digest_120 rfl ?_
                                  refine lv_ladd hx hb dX5_digest_121 ?_
                                  refine lv_lstore_n (lv' := [(1, .long (((dgR3 a b l pp w (dgR2 a b pp l (dgR a b pp (dgU b 3 (dgC a b 10 1297))))) * 31) + ((riverA a b l pp w : Int32).toInt64))), (5, .int (nI w)), (4, .int (nI l)), (3, .int (nI pp)), (0, .ref y)]) hx hb dX5_digest_122 rfl hl (by decide) rfl (fun ls hl => ?_)
                                  refine lv_iinc (v := nI (w + 1)) (lv' := [(5, .int (nI (w + 1))), (1, .long (((dgR3 a b l pp w (dgR2 a b pp l (dgR a b pp (dgU b 3 (dgC a b 10 1297))))) * 31) + ((riverA a b l pp w : Int32).toInt64))), (4, .int (nI l)), (3, .int (nI pp)), (0, .ref y)]) hx hb dX5_digest_123 hl (k := 1) rfl (nI_add w 1) (by decide) rfl (fun ls hl => ?_)
                                  refine lv_goto (tgt := 100) hx hb dX5_digest_126 (by decide) ?_
                                  rw [← dgR3_s] at hl
                                  exact ih100 (w + 1) (by omega) (by omega) H locs hP hD hS ls (lv_sub hl [1, 0, 2, 3, 4] rfl)
                            rw [← dgR3_0 a b l pp (dgR2 a b pp l (dgR a b pp (dgU b 3 (dgC a b 10 1297))))] at hl
                            exact L100 (4 + 1) 0 (Nat.zero_le _) (by omega) H locs hP hD hS ls (lv_sub hl [1, 0, 2, 3, 4] rfl)
                      rw [← dgR2_0 a b pp (dgR a b pp (dgU b 3 (dgC a b 10 1297)))] at hl
                      exact L91 (3 + 1) 0 (Nat.zero_le _) (by omega) H locs hP hD hS ls (lv_sub hl [1, 0, 2, 3] rfl)
                rw [← dgR_0 a b (dgU b 3 (dgC a b 10 1297))] at hl
                exact L82 (60 + 1) 0 (Nat.zero_le _) (by omega) H locs hP hD hS ls (lv_sub hl [1, 0, 4] rfl)
              · skip
                have c55 := (not_congr (nI_leI (a := 3) (b := n) (by omega) (by omega))).mp c55
                refine lv_aload_n hx hb dX5_digest_58 rfl (lv_at hl 3 rfl) ?_
                refine lv_iload hx hb dX5_digest_59 (lv_at hl 1 rfl) ?_
                refine ald hx hb hE hP 1 rfl (k := n) (by omega) (Nat.le_of_ble_eq_true rfl) (v := nI (bCu b n)) rfl dX5_digest_61 ?_
                refine lv_istore (lv' := [(6, .int (nI (bCu b n))), (1, .long (dgU b n (dgC a b 10 1297))), (5, .int (nI n)), (4, .int (nI 3)), (3, .ref (E 0)), (0, .ref y)]) hx hb dX5_digest_62 hl (by decide) rfl (fun ls hl => ?_)
                refine lv_lload_n hx hb dX5_digest_64 rfl (lv_at hl 1 rfl) ?_
                refine lv_ldc2 (v := 31) hx hb hown kw7 dX5_digest_65 ?_
                refine lv_lmul hx hb dX5_digest_68 ?_
                refine lv_iload hx hb dX5_digest_69 (lv_at hl 0 rfl) ?_
                refine lv_i2l (v := (nI (bCu b n) : Int32).toInt64) hx hb dX5_digest_71 rfl ?_
                refine lv_ladd hx hb dX5_digest_72 ?_
                refine lv_lstore_n (lv' := [(1, .long (((dgU b n (dgC a b 10 1297)) * 31) + ((nI (bCu b n) : Int32).toInt64))), (6, .int (nI (bCu b n))), (5, .int (nI n)), (4, .int (nI 3)), (3, .ref (E 0)), (0, .ref y)]) hx hb dX5_digest_73 rfl hl (by decide) rfl (fun ls hl => ?_)
                refine lv_iinc (v := nI (n + 1)) (lv' := [(5, .int (nI (n + 1))), (1, .long (((dgU b n (dgC a b 10 1297)) * 31) + ((nI (bCu b n) : Int32).toInt64))), (6, .int (nI (bCu b n))), (4, .int (nI 3)), (3, .ref (E 0)), (0, .ref y)]) hx hb dX5_digest_74 hl (k := 2) rfl (nI_add n 1) (by decide) rfl (fun ls hl => ?_)
                refine lv_goto (tgt := 51) hx hb dX5_digest_77 (by decide) ?_
                rw [← dgU_s] at hl
                exact ih51 (n + 1) (by omega) (by omega) H locs hP hD hS ls (lv_sub hl [1, 0, 3, 4, 5] rfl)
          rw [← dgU_0 b (dgC a b 10 1297)] at hl
          exact L51 (3 + 1) 0 (Nat.zero_le _) (by omega) H locs hP hD hS ls (lv_sub hl [3, 0, 1, 2, 4] rfl)
        · skip
          have c14 := (not_congr (nI_ltI (a := 9) (b := n) (by omega) (by omega))).mp c14
          refine lv_lload_n hx hb dX5_digest_17 rfl (lv_at hl 0 rfl) ?_
          refine lv_ldc2 (v := 31) hx hb hown kw7 dX5_digest_18 ?_
          refine lv_lmul hx hb dX5_digest_21 ?_
          refine lv_aload_n hx hb dX5_digest_22 rfl (lv_at hl 2 rfl) ?_
          refine va_get (D := D) (ci := 5) (v := .ref (S 0)) (C := RX5) (T := TX5) (N := 8) hx hb hts inX5 hown hE.1 hP 0 rfl rfl 6 (by decide) kf24 (fun _ h9 => h9) rfl dX5_digest_23 ?_
          refine lv_iload_n hx hb dX5_digest_26 rfl (lv_at hl 1 rfl) ?_
          refine cVi (wB := fun (u_11 : Unit) => ((wM cA y E (S 0) (T 0) 0 b) ++ (wS cA S y a q))) (As := [.int (nI n)]) (rest := [.long ((dgC a b n 1297) * 31)]) (wc := ((wM cA y E (S 0) (T 0) 0 b) ++ (wS cA S y a q))) ⟨hx, hb, hml, hown, hts⟩ (K_X4_counted lch D cA S y a q E (S 0) (T 0) 0 b 0 0 n H.size (by first | assumption | omega) (by omega)) (cwV 1 hts gX5_digest_X4_counted rfl rfl rfl (by decide +kernel) ⟨Nat.le_of_ble_eq_true rfl, Nat.le_of_ble_eq_true rfl⟩) hE hP hD hS hA [0, 1, 2, 3, 4, 5, 6, 7, 8, 9, 10, 11, 12, 13, 14] rfl rfl [y, E 0, E 1, E 2, S 0, S 1, S 2, S 3, S 4, S 5, S 6, S 7, S 8, S 9, S 10] (fun _ => rfl) rfl (fun (u_11 : Unit) => ((wM cA y E (S 0) (T 0) 0 b) ++ ((wS cA S y a q) ++ (wS cA T y a2 q2)))) (fun u_11 => ((pst_app 4 (ps1 := [0, 1, 2, 3]) (ps2 := [4, 5, 6, 7, 8, 9, 10, 11, 12, 13, 14]) (w1 := (wM cA y E (S 0) (T 0) 0 b)) (w2 := (wS cA S y a q)) rfl rfl rfl).trans ((congrArg (fun z => pst z [4, 5, 6, 7, 8, 9, 10, 11, 12, 13, 14] (wS cA S y a q)) (pst_blk [] ((wS cA S y a q) ++ (wS cA T y a2 q2)) (wc := (wM cA y E (S 0) (T 0) 0 b)) (w1 := (wM cA y E (S 0) (T 0) 0 b)) (w2 := ((wM cA y E (S 0) (T 0) 0 b) ++ ((wS cA S y a q) ++ (wS cA T y a2 q2)))) 4 0 rfl rfl rfl rfl rfl rfl)).trans (pst_blk (wM cA y E (S 0) (T 0) 0 b) (wS cA T y a2 q2) (wc := (wS cA S y a q)) (w1 := (wS cA S y a q)) (w2 := ((wM cA y E (S 0) (T 0) 0 b) ++ ((wS cA S y a q) ++ (wS cA T y a2 q2)))) 11 4 rfl rfl rfl rfl rfl rfl)))) X0.blind (fun _ _ _ => trivial) 4 4 rfl rfl rfl hl.1 rfl rfl (Nat.le_of_ble_eq_true rfl) dX5_digest_27 ⟨by show _ ≤ 370; omega, by show _ ≤ 3340; omega⟩ (fun r_10 u_11 H locs h_12 hP hD hS => ?_)
          subst h_12
          refine W.widen (k := (n + 1)) (n := (10 * (n + 1))) (by omega) (by omega) ?_
          refine lv_i2l (v := (countA a b n : Int32).toInt64) hx hb dX5_digest_30 rfl ?_
          refine lv_ladd hx hb dX5_digest_31 ?_
          refine lv_lstore_n (lv' := [(1, .long (((dgC a b n 1297) * 31) + ((countA a b n : Int32).toInt64))), (3, .int (nI n)), (0, .ref y)]) hx hb dX5_digest_32 rfl hl (by decide) rfl (fun ls hl => ?_)
          refine lv_iinc (v := nI (n + 1)) (lv' := [(3, .int (nI (n + 1))), (1, .long (((dgC a b n 1297) * 31) + ((countA a b n : Int32).toInt64))), (0, .ref y)]) hx hb dX5_digest_33 hl (k := 1) rfl (nI_add n 1) (by decide) rfl (fun ls hl => ?_)
          refine lv_goto (tgt := 11) hx hb dX5_digest_36 (by decide) ?_
          rw [← dgC_s] at hl
          exact ih11 (n + 1) (by omega) (by omega) H locs hP hD hS ls (lv_sub hl [1, 0, 2] rfl)
    rw [← dgC_0 a b 1297] at hl
    exact L11 (10 + 1) 0 (Nat.zero_le _) (by omega) H locs hP hD hS ls (lv_sub hl [1, 0, 2] rfl)
  rw [hg1, hg2] at hgoal
  exact hgoal
