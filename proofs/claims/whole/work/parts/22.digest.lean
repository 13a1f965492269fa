set_option maxHeartbeats 4000000 in
set_option maxRecDepth 100000 in
/-- digest -/
theorem K_X3_digest (lch : Launch) (D : va_G) (cA : ClassId) (x : Nat) (B : Nat → Nat) (F : Nat → Nat) (G : Nat → Nat) (b : BSt) (a : FSt) (c : Nat → Int32) (q : Nat → Int32) (a2 : FSt) (c2 : Nat → Int32) (q2 : Nat → Int32) (sz : Nat) (hw1 : WFa a) (hcr : CRa a c) (hwn : WFn b a) : Met lch yX3_digest wsX3_digest ({ frames := 4, cells := 0, slots := 0, locals := 89 }) (Pr D cA [.ref x] sz (([(x, .inr (3, [.ref (B 0), .ref (F 0), .ref (G 0)]))] : va_W) ++ ((wB cA B b) ++ ((wF cA F a c q) ++ (wF cA G a2 c2 q2)))) X0) (va_Ql (fun (r : Int64) (u : Unit) => r = digA a b) (fun _ _ => True) (fun q : Nat => sz ≤ q)) 0 0 (fun q : Nat => sz ≤ q) := by
  refine Met.ofW (cc := cX3_digest) (maxL := 6) (ret := (some .long)) (by decide) rfl ?_
  intro pg ev s mi args below meth cd s₁ B hml hv
  obtain ⟨hav, hsz, hP, hE, hD, hXs⟩ := hv
  have hx := B.exec
  have hb := B.bytes
  have hr := B.returns
  have hts := atoms_spec (ws := wsX3_digest) B.pre
  have hown : s.vm.findClass RX3 = some mi.cls := findClass_of_methodNamed B.named
  have hlocks := B.notSynchronized
  clear B
  subst hav
  subst hsz
  have hA : ∀ q : Nat, s.heap.size ≤ q → (fun q : Nat => s.heap.size ≤ q) q := fun _ h => h
  have hS : va_S (fun q : Nat => s.heap.size ≤ q) s.heap s.heap [] := va_S.rf
  obtain ⟨QQ, hQQ⟩ : ∃ qq9, qq9 = MQ below (va_Ql (fun (r : Int64) (u : Unit) => r = digA a b) (fun _ _ => True) (fun q : Nat => s.heap.size ≤ q)) ([.ref x] : List Value).toArray s 0 0 (fun q : Nat => s.heap.size ≤ q) := ⟨_, rfl⟩
  rw [← hQQ]
  have hl := lv_entry ([.ref x]) (n := 6) (Nat.le_of_ble_eq_true rfl)
  rw [lg_entry_eq]
  generalize (lg_sl ([.ref x]) ++ List.replicate (6 - (lg_sl ([.ref x])).length) Slot.unset).toArray = ls at hl ⊢
  have hl : lv_has ls 6 [(0, .ref x)] := hl
  have kw0 := hts (.constantLong RX3 190 1297) (by decide +kernel)
  have kf19 := hts (.fieldLink RX3 19 "LanternWeirs" "fleet" "LLanternWeirs$Fleet;") (by decide +kernel)
  have inX3 : ∀ w ∈ u_ws RX3 TX3 3, w ∈ wsX3_digest := by decide +kernel
  have kf110 := hts (.fieldLink RX3 110 "LanternWeirs$Fleet" "size" "I") (by decide +kernel)
  have inX1 : ∀ w ∈ u_ws RX1 TX1 13, w ∈ wsX3_digest := by decide +kernel
  have kw5 := hts (.constantLong RX3 192 31) (by decide +kernel)
  have kf10 := hts (.fieldLink RX3 10 "LanternWeirs" "bed" "LLanternWeirs$Bed;") (by decide +kernel)
  have kf46 := hts (.fieldLink RX3 46 "LanternWeirs$Bed" "currents" "LLanternWeirs$Row;") (by decide +kernel)
  have inX0 : ∀ w ∈ u_ws RX0 TX0 5, w ∈ wsX3_digest := by decide +kernel
  obtain ⟨H, locs, hP, hS, hgo⟩ : ∃ H locs, va_P D vwCl (([(x, .inr (3, [.ref (B 0), .ref (F 0), .ref (G 0)]))] : va_W) ++ ((wB cA B b) ++ ((wF cA F a c q) ++ (wF cA G a2 c2 q2)))) H ∧ va_S (fun q : Nat => s.heap.size ≤ q) s.heap H locs ∧ (H = s.heap ∧ locs = []) := ⟨_, _, hP, hS, rfl, rfl⟩
  obtain ⟨hg1, hg2⟩ := hgo
  have hgoal : W pg lch ev (headSpec wsX3_digest ({ frames := 4, cells := 0, slots := 0, locals := 89 })).room s mi ([.ref x] : List Value).toArray below meth cd H locs 0 0 QQ (F0 mi 0 ls []) := by
    have hn := hw1.1
    refine lv_ldc2 (v := 1297) hx hb hown kw0 dX3_digest_0 ?_
    refine lv_lstore_n (lv' := [(1, .long 1297), (0, .ref x)]) hx hb dX3_digest_3 rfl hl (by decide) rfl (fun ls hl => ?_)
    refine lv_iconst (v := 0) hx hb dX3_digest_4 (by decide) ?_
    refine lv_istore_n (lv' := [(3, .int 0), (1, .long 1297), (0, .ref x)]) hx hb dX3_digest_5 rfl hl (by decide) rfl (fun ls hl => ?_)
    have L6 : ∀ (fu6 : Nat) (n : Nat), (n ≤ 10) → 10 - n < fu6 → ∀ (H : Heap) (locs : List Loc), va_P D vwCl (([(x, .inr (3, [.ref (B 0), .ref (F 0), .ref (G 0)]))] : va_W) ++ ((wB cA B b) ++ ((wF cA F a c q) ++ (wF cA G a2 c2 q2)))) H → va_S (fun q : Nat => s.heap.size ≤ q) s.heap H locs → ∀ ls : Array Slot, lv_has ls 6 [(1, .long (dgC a b n 1297)), (3, .int (nI n)), (0, .ref x)] → W pg lch ev (headSpec wsX3_digest ({ frames := 4, cells := 0, slots := 0, locals := 89 })).room s mi ([.ref x] : List Value).toArray below meth cd H locs 0 0 QQ (F0 mi 6 ls []) := by
      intro fu6
      induction fu6 with
      | zero => intro n hn hms; exact absurd hms (Nat.not_lt_zero _)
      | succ fu6 ih6 =>
        intro n hn hms6 H locs hP hS ls hl
        refine lv_iload_n hx hb dX3_digest_6 rfl (lv_at hl 1 rfl) ?_
        refine lv_bipush (v := 10) hx hb dX3_digest_7 (by decide) ?_
        refine lv_icmp_ge (tgt := 31) hx hb dX3_digest_9 (by decide) (fun c9 => ?_) (fun c9 => ?_)
        · skip
          have c9 := (nI_leI (a := 10) (b := n) (by omega) (by omega)).mp c9
          have e9 : n = 10 := by omega
          rw [e9] at hl
          refine lv_iconst (v := 0) hx hb dX3_digest_31 (by decide) ?_
          refine lv_istore_n (lv' := [(3, .int 0), (1, .long (dgC a b 10 1297)), (0, .ref x)]) hx hb dX3_digest_32 rfl hl (by decide) rfl (fun ls hl => ?_)
          have L33 : ∀ (fu33 : Nat) (n : Nat), (n ≤ 3) → 3 - n < fu33 → ∀ (H : Heap) (locs : List Loc), va_P D vwCl (([(x, .inr (3, [.ref (B 0), .ref (F 0), .ref (G 0)]))] : va_W) ++ ((wB cA B b) ++ ((wF cA F a c q) ++ (wF cA G a2 c2 q2)))) H → va_S (fun q : Nat => s.heap.size ≤ q) s.heap H locs → ∀ ls : Array Slot, lv_has ls 6 [(1, .long (dgU b n (dgC a b 10 1297))), (3, .int (nI n)), (0, .ref x)] → W pg lch ev (headSpec wsX3_digest ({ frames := 4, cells := 0, slots := 0, locals := 89 })).room s mi ([.ref x] : List Value).toArray below meth cd H locs 0 0 QQ (F0 mi 33 ls []) := by
            intro fu33
            induction fu33 with
            | zero => intro n hn hms; exact absurd hms (Nat.not_lt_zero _)
            | succ fu33 ih33 =>
              intro n hn hms33 H locs hP hS ls hl
              refine lv_iload_n hx hb dX3_digest_33 rfl (lv_at hl 1 rfl) ?_
              refine lv_iconst (v := 3) hx hb dX3_digest_34 (by decide) ?_
              refine lv_icmp_ge (tgt := 63) hx hb dX3_digest_35 (by decide) (fun c35 => ?_) (fun c35 => ?_)
              · skip
                have c35 := (nI_leI (a := 3) (b := n) (by omega) (by omega)).mp c35
                have e9 : n = 3 := by omega
                rw [e9] at hl
                refine lv_iconst (v := 0) hx hb dX3_digest_63 (by decide) ?_
                refine lv_istore_n (lv' := [(3, .int 0), (1, .long (dgU b 3 (dgC a b 10 1297))), (0, .ref x)]) hx hb dX3_digest_64 rfl hl (by decide) rfl (fun ls hl => ?_)
                have L65 : ∀ (fu65 : Nat) (pp : Nat), (pp ≤ 60) → 60 - pp < fu65 → ∀ (H : Heap) (locs : List Loc), va_P D vwCl (([(x, .inr (3, [.ref (B 0), .ref (F 0), .ref (G 0)]))] : va_W) ++ ((wB cA B b) ++ ((wF cA F a c q) ++ (wF cA G a2 c2 q2)))) H → va_S (fun q : Nat => s.heap.size ≤ q) s.heap H locs → ∀ ls : Array Slot, lv_has ls 6 [(1, .long (dgR a b pp (dgU b 3 (dgC a b 10 1297)))), (3, .int (nI pp)), (0, .ref x)] → W pg lch ev (headSpec wsX3_digest ({ frames := 4, cells := 0, slots := 0, locals := 89 })).room s mi ([.ref x] : List Value).toArray below meth cd H locs 0 0 QQ (F0 mi 65 ls []) := by
                  intro fu65
                  induction fu65 with
                  | zero => intro pp hpp hms; exact absurd hms (Nat.not_lt_zero _)
                  | succ fu65 ih65 =>
                    intro pp hpp hms65 H locs hP hS ls hl
                    refine lv_iload_n hx hb dX3_digest_65 rfl (lv_at hl 1 rfl) ?_
                    refine lv_bipush (v := 60) hx hb dX3_digest_66 (by decide) ?_
                    refine lv_icmp_ge (tgt := 124) hx hb dX3_digest_68 (by decide) (fun c68 => ?_) (fun c68 => ?_)
                    · skip
                      have c68 := (nI_leI (a := 60) (b := pp) (by omega) (by omega)).mp c68
                      have e9 : pp = 60 := by omega
                      rw [e9] at hl
                      refine lv_iconst (v := 0) hx hb dX3_digest_124 (by decide) ?_
                      refine lv_istore_n (lv' := [(3, .int 0), (1, .long (dgR a b 60 (dgU b 3 (dgC a b 10 1297)))), (0, .ref x)]) hx hb dX3_digest_125 rfl hl (by decide) rfl (fun ls hl => ?_)
                      have L126 : ∀ (fu126 : Nat) (k : Nat), (k ≤ qN a) → qN a - k < fu126 → ∀ (H : Heap) (locs : List Loc), va_P D vwCl (([(x, .inr (3, [.ref (B 0), .ref (F 0), .ref (G 0)]))] : va_W) ++ ((wB cA B b) ++ ((wF cA F a c q) ++ (wF cA G a2 c2 q2)))) H → va_S (fun q : Nat => s.heap.size ≤ q) s.heap H locs → ∀ ls : Array Slot, lv_has ls 6 [(1, .long (dgL a b k (dgR a b 60 (dgU b 3 (dgC a b 10 1297))))), (3, .int (nI k)), (0, .ref x)] → W pg lch ev (headSpec wsX3_digest ({ frames := 4, cells := 0, slots := 0, locals := 89 })).room s mi ([.ref x] : List Value).toArray below meth cd H locs 0 0 QQ (F0 mi 126 ls []) := by
                        intro fu126
                        induction fu126 with
                        | zero => intro k hk hms; exact absurd hms (Nat.not_lt_zero _)
                        | succ fu126 ih126 =>
                          intro k hk hms126 H locs hP hS ls hl
                          refine lv_iload_n hx hb dX3_digest_126 rfl (lv_at hl 1 rfl) ?_
                          refine lv_aload_n hx hb dX3_digest_127 rfl (lv_at hl 2 rfl) ?_
                          refine va_get (D := D) (ci := 3) (v := .ref (F 0)) (C := RX3) (T := TX3) (N := 3) hx hb hts inX3 hown hE.1 hP 0 rfl rfl 1 (by decide) kf19 (fun _ h9 => h9) rfl dX3_digest_128 ?_
                          refine va_get (D := D) (ci := 1) (v := .int (nI (qN a))) (C := RX1) (T := TX1) (N := 13) hx hb hts inX1 hown hE.1 hP 8 rfl rfl 11 (by decide) kf110 (fun _ h9 => h9) rfl dX3_digest_131 ?_
                          refine lv_icmp_ge (tgt := 190) hx hb dX3_digest_134 (by decide) (fun c134 => ?_) (fun c134 => ?_)
                          · skip
                            have c134 := (nI_leI (a := qN a) (b := k) (by omega) (by omega)).mp c134
                            have e9 : k = (qN a) := by omega
                            rw [e9] at hl
                            refine lv_lload_n hx hb dX3_digest_190 rfl (lv_at hl 0 rfl) ?_
                            rw [hQQ]
                            exact W.lret (v := dgL a b (qN a) (dgR a b 60 (dgU b 3 (dgC a b 10 1297)))) hx hb hr (fun t ht hW => ⟨⟨dgL a b (qN a) (dgR a b 60 (dgU b 3 (dgC a b 10 1297))), (), rfl, rfl, trivial⟩, hS.F ht⟩) hS.2.2 dX3_digest_191
                          · skip
                            have c134 := (not_congr (nI_leI (a := qN a) (b := k) (by omega) (by omega))).mp c134
                            refine lv_iconst (v := 0) hx hb dX3_digest_137 (by decide) ?_
                            refine lv_istore (lv' := [(4, .int 0), (1, .long (dgL a b k (dgR a b 60 (dgU b 3 (dgC a b 10 1297))))), (3, .int (nI k)), (0, .ref x)]) hx hb dX3_digest_138 hl (by decide) rfl (fun ls hl => ?_)
                            have L140 : ∀ (fu140 : Nat) (w : Nat), (w ≤ 9) → 9 - w < fu140 → ∀ (H : Heap) (locs : List Loc), va_P D vwCl (([(x, .inr (3, [.ref (B 0), .ref (F 0), .ref (G 0)]))] : va_W) ++ ((wB cA B b) ++ ((wF cA F a c q) ++ (wF cA G a2 c2 q2)))) H → va_S (fun q : Nat => s.heap.size ≤ q) s.heap H locs → ∀ ls : Array Slot, lv_has ls 6 [(1, .long (dgL1 a k w (dgL a b k (dgR a b 60 (dgU b 3 (dgC a b 10 1297)))))), (4, .int (nI w)), (3, .int (nI k)), (0, .ref x)] → W pg lch ev (headSpec wsX3_digest ({ frames := 4, cells := 0, slots := 0, locals := 89 })).room s mi ([.ref x] : List Value).toArray below meth cd H locs 0 0 QQ (F0 mi 140 ls []) := by
                              intro fu140
                              induction fu140 with
                              | zero => intro w hw hms; exact absurd hms (Nat.not_lt_zero _)
                              | succ fu140 ih140 =>
                                intro w hw hms140 H locs hP hS ls hl
                                refine lv_iload hx hb dX3_digest_140 (lv_at hl 1 rfl) ?_
                                refine lv_bipush (v := 9) hx hb dX3_digest_142 (by decide) ?_
                                refine lv_icmp_ge (tgt := 171) hx hb dX3_digest_144 (by decide) (fun c144 => ?_) (fun c144 => ?_)
                                · skip
                                  have c144 := (nI_leI (a := 9) (b := w) (by omega) (by omega)).mp c144
                                  have e9 : w = 9 := by omega
                                  rw [e9] at hl
                                  refine lv_lload_n hx hb dX3_digest_171 rfl (lv_at hl 0 rfl) ?_
                                  refine lv_ldc2 (v := 31) hx hb hown kw5 dX3_digest_172 ?_
                                  refine lv_lmul hx hb dX3_digest_175 ?_
                                  refine lv_aload_n hx hb dX3_digest_176 rfl (lv_at hl 3 rfl) ?_
                                  refine lv_iload_n hx hb dX3_digest_177 rfl (lv_at hl 2 rfl) ?_
                                  refine pVi (As := [.int (nI k)]) (rest := [.long ((dgL1 a k 9 (dgL a b k (dgR a b 60 (dgU b 3 (dgC a b 10 1297))))) * 31)]) (wc := (([(x, .inr (3, [.ref (B 0), .ref (F 0), .ref (G 0)]))] : va_W) ++ ((wB cA B b) ++ ((wF cA F a c q) ++ (wF cA G a2 c2 q2))))) ⟨hx, hb, hml, hown, hts⟩ (K_X3_nextWeir lch D cA x B F G b a c q a2 c2 q2 k H.size (by first | assumption | omega) (by omega)) (cwV 1 hts gX3_digest_X3_nextWeir rfl rfl rfl (by decide +kernel) ⟨Nat.le_of_ble_eq_true rfl, Nat.le_of_ble_eq_true rfl⟩) hE hP hD hS hA [0, 1, 2, 3, 4, 5, 6, 7, 8, 9, 10, 11, 12, 13, 14, 15, 16, 17, 18, 19, 20, 21, 22, 23, 24, 25, 26, 27, 28, 29, 30, 31, 32, 33, 34, 35, 36, 37, 38, 39, 40, 41, 42, 43, 44, 45, 46, 47, 48, 49, 50, 51, 52, 53] rfl rfl X0.blind (fun _ _ _ => trivial) 0 3 rfl rfl rfl hl.1 rfl rfl (Nat.le_of_ble_eq_true rfl) dX3_digest_178 ⟨Nat.zero_le _, Nat.zero_le _⟩ (fun r_1 u_2 H locs h_3 hP hS => ?_)
                                  subst h_3
                                  refine lv_i2l (v := (nextA a b k : Int32).toInt64) hx hb dX3_digest_181 rfl ?_
                                  refine lv_ladd hx hb dX3_digest_182 ?_
                                  refine lv_lstore_n (lv' := [(1, .long (((dgL1 a k 9 (dgL a b k (dgR a b 60 (dgU b 3 (dgC a b 10 1297))))) * 31) + ((nextA a b k : Int32).toInt64))), (4, .int (nI 9)), (3, .int (nI k)), (0, .ref x)]) hx hb dX3_digest_183 rfl hl (by decide) rfl (fun ls hl => ?_)
                                  refine lv_iinc (v := nI (k + 1)) (lv' := [(3, .int (nI (k + 1))), (1, .long (((dgL1 a k 9 (dgL a b k (dgR a b 60 (dgU b 3 (dgC a b 10 1297))))) * 31) + ((nextA a b k : Int32).toInt64))), (4, .int (nI 9)), (0, .ref x)]) hx hb dX3_digest_184 hl (k := 2) rfl (nI_add k 1) (by decide) rfl (fun ls hl => ?_)
                                  refine lv_goto (tgt := 126) hx hb dX3_digest_187 (by decide) ?_
                                  rw [← dgL_s] at hl
                                  exact ih126 (k + 1) (by omega) (by omega) H locs hP hS ls (lv_sub hl [1, 0, 3] rfl)
                                · skip
                                  have c144 := (not_congr (nI_leI (a := 9) (b := w) (by omega) (by omega))).mp c144
                                  refine lv_lload_n hx hb dX3_digest_147 rfl (lv_at hl 0 rfl) ?_
                                  refine lv_ldc2 (v := 31) hx hb hown kw5 dX3_digest_148 ?_
                                  refine lv_lmul hx hb dX3_digest_151 ?_
                                  refine lv_aload_n hx hb dX3_digest_152 rfl (lv_at hl 3 rfl) ?_
                                  refine va_get (D := D) (ci := 3) (v := .ref (F 0)) (C := RX3) (T := TX3) (N := 3) hx hb hts inX3 hown hE.1 hP 0 rfl rfl 1 (by decide) kf19 (fun _ h9 => h9) rfl dX3_digest_153 ?_
                                  refine lv_iload_n hx hb dX3_digest_156 rfl (lv_at hl 2 rfl) ?_
                                  refine lv_iload hx hb dX3_digest_157 (lv_at hl 1 rfl) ?_
                                  refine pVi (As := [.int (nI k), .int (nI w)]) (rest := [.long ((dgL1 a k w (dgL a b k (dgR a b 60 (dgU b 3 (dgC a b 10 1297))))) * 31)]) (wc := (wF cA F a c q)) ⟨hx, hb, hml, hown, hts⟩ (K_X1_fact lch D cA F a c q k w H.size (by omega) (by omega)) (cwV 2 hts gX3_digest_X1_fact rfl rfl rfl (by decide +kernel) ⟨Nat.le_of_ble_eq_true rfl, Nat.le_of_ble_eq_true rfl⟩) hE hP hD hS hA [8, 9, 10, 11, 12, 13, 14, 15, 16, 17, 18, 19, 20, 21, 22, 23, 24, 25, 26, 27, 28, 29, 30] rfl rfl X0.blind (fun _ _ _ => trivial) 8 1 rfl rfl rfl hl.1 rfl rfl (Nat.le_of_ble_eq_true rfl) dX3_digest_159 ⟨Nat.zero_le _, Nat.zero_le _⟩ (fun r_4 u_5 H locs h_6 hP hS => ?_)
                                  subst h_6
                                  refine lv_i2l (v := (factA a k w : Int32).toInt64) hx hb dX3_digest_162 rfl ?_
                                  refine lv_ladd hx hb dX3_digest_163 ?_
                                  refine lv_lstore_n (lv' := [(1, .long (((dgL1 a k w (dgL a b k (dgR a b 60 (dgU b 3 (dgC a b 10 1297))))) * 31) + ((factA a k w : Int32).toInt64))), (4, .int (nI w)), (3, .int (nI k)), (0, .ref x)]) hx hb dX3_digest_164 rfl hl (by decide) rfl (fun ls hl => ?_)
                                  refine lv_iinc (v := nI (w + 1)) (lv' := [(4, .int (nI (w + 1))), (1, .long (((dgL1 a k w (dgL a b k (dgR a b 60 (dgU b 3 (dgC a b 10 1297))))) * 31) + ((factA a k w : Int32).toInt64))), (3, .int (nI k)), (0, .ref x)]) hx hb dX3_digest_165 hl (k := 1) rfl (nI_add w 1) (by decide) rfl (fun ls hl => ?_)
                                  refine lv_goto (tgt := 140) hx hb dX3_digest_168 (by decide) ?_
                                  rw [← dgL1_s] at hl
                                  exact ih140 (w + 1) (by omega) (by omega) H locs hP hS ls (lv_sub hl [1, 0, 2, 3] rfl)
                            rw [← dgL1_0 a k (dgL a b k (dgR a b 60 (dgU b 3 (dgC a b 10 1297))))] at hl
                            exact L140 (9 + 1) 0 (Nat.zero_le _) (by omega) H locs hP hS ls (lv_sub hl [1, 0, 2, 3] rfl)
                      rw [← dgL_0 a b (dgR a b 60 (dgU b 3 (dgC a b 10 1297)))] at hl
                      exact L126 (qN a + 1) 0 (Nat.zero_le _) (by omega) H locs hP hS ls (lv_sub hl [1, 0, 2] rfl)
                    · skip
                      have c68 := (not_congr (nI_leI (a := 60) (b := pp) (by omega) (by omega))).mp c68
                      refine lv_iconst (v := 0) hx hb dX3_digest_71 (by decide) ?_
                      refine lv_istore (lv' := [(4, .int 0), (1, .long (dgR a b pp (dgU b 3 (dgC a b 10 1297)))), (3, .int (nI pp)), (0, .ref x)]) hx hb dX3_digest_72 hl (by decide) rfl (fun ls hl => ?_)
                      have L74 : ∀ (fu74 : Nat) (l : Nat), (l ≤ 3) → 3 - l < fu74 → ∀ (H : Heap) (locs : List Loc), va_P D vwCl (([(x, .inr (3, [.ref (B 0), .ref (F 0), .ref (G 0)]))] : va_W) ++ ((wB cA B b) ++ ((wF cA F a c q) ++ (wF cA G a2 c2 q2)))) H → va_S (fun q : Nat => s.heap.size ≤ q) s.heap H locs → ∀ ls : Array Slot, lv_has ls 6 [(1, .long (dgR2 a b pp l (dgR a b pp (dgU b 3 (dgC a b 10 1297))))), (4, .int (nI l)), (3, .int (nI pp)), (0, .ref x)] → W pg lch ev (headSpec wsX3_digest ({ frames := 4, cells := 0, slots := 0, locals := 89 })).room s mi ([.ref x] : List Value).toArray below meth cd H locs 0 0 QQ (F0 mi 74 ls []) := by
                        intro fu74
                        induction fu74 with
                        | zero => intro l hl hms; exact absurd hms (Nat.not_lt_zero _)
                        | succ fu74 ih74 =>
                          intro l hl hms74 H locs hP hS ls hl
                          refine lv_iload hx hb dX3_digest_74 (lv_at hl 1 rfl) ?_
                          refine lv_iconst (v := 3) hx hb dX3_digest_76 (by decide) ?_
                          refine lv_icmp_ge (tgt := 118) hx hb dX3_digest_77 (by decide) (fun c77 => ?_) (fun c77 => ?_)
                          · skip
                            have c77 := (nI_leI (a := 3) (b := l) (by omega) (by omega)).mp c77
                            have e9 : l = 3 := by omega
                            rw [e9] at hl
                            refine lv_iinc (v := nI (pp + 1)) (lv' := [(3, .int (nI (pp + 1))), (1, .long (dgR2 a b pp 3 (dgR a b pp (dgU b 3 (dgC a b 10 1297))))), (4, .int (nI 3)), (0, .ref x)]) hx hb dX3_digest_118 hl (k := 2) rfl (nI_add pp 1) (by decide) rfl (fun ls hl => ?_)
                            refine lv_goto (tgt := 65) hx hb dX3_digest_121 (by decide) ?_
                            rw [← dgR_s] at hl
                            exact ih65 (pp + 1) (by omega) (by omega) H locs hP hS ls (lv_sub hl [1, 0, 3] rfl)
                          · skip
                            have c77 := (not_congr (nI_leI (a := 3) (b := l) (by omega) (by omega))).mp c77
                            refine lv_iconst (v := 0) hx hb dX3_digest_80 (by decide) ?_
                            refine lv_istore (lv' := [(5, .int 0), (1, .long (dgR2 a b pp l (dgR a b pp (dgU b 3 (dgC a b 10 1297))))), (4, .int (nI l)), (3, .int (nI pp)), (0, .ref x)]) hx hb dX3_digest_81 hl (by decide) rfl (fun ls hl => ?_)
                            have L83 : ∀ (fu83 : Nat) (w : Nat), (w ≤ 4) → 4 - w < fu83 → ∀ (H : Heap) (locs : List Loc), va_P D vwCl (([(x, .inr (3, [.ref (B 0), .ref (F 0), .ref (G 0)]))] : va_W) ++ ((wB cA B b) ++ ((wF cA F a c q) ++ (wF cA G a2 c2 q2)))) H → va_S (fun q : Nat => s.heap.size ≤ q) s.heap H locs → ∀ ls : Array Slot, lv_has ls 6 [(1, .long (dgR3 a b l pp w (dgR2 a b pp l (dgR a b pp (dgU b 3 (dgC a b 10 1297)))))), (5, .int (nI w)), (4, .int (nI l)), (3, .int (nI pp)), (0, .ref x)] → W pg lch ev (headSpec wsX3_digest ({ frames := 4, cells := 0, slots := 0, locals := 89 })).room s mi ([.ref x] : List Value).toArray below meth cd H locs 0 0 QQ (F0 mi 83 ls []) := by
                              intro fu83
                              induction fu83 with
                              | zero => intro w hw hms; exact absurd hms (Nat.not_lt_zero _)
                              | succ fu83 ih83 =>
                                intro w hw hms83 H locs hP hS ls hl
                                refine lv_iload hx hb dX3_digest_83 (lv_at hl 1 rfl) ?_
                                refine lv_iconst (v := 4) hx hb dX3_digest_85 (by decide) ?_
                                refine lv_icmp_ge (tgt := 112) hx hb dX3_digest_86 (by decide) (fun c86 => ?_) (fun c86 => ?_)
                                · skip
                                  have c86 := (nI_leI (a := 4) (b := w) (by omega) (by omega)).mp c86
                                  have e9 : w = 4 := by omega
                                  rw [e9] at hl
                                  refine lv_iinc (v := nI (l + 1)) (lv' := [(4, .int (nI (l + 1))), (1, .long (dgR3 a b l pp 4 (dgR2 a b pp l (dgR a b pp (dgU b 3 (dgC a b 10 1297)))))), (5, .int (nI 4)), (3, .int (nI pp)), (0, .ref x)]) hx hb dX3_digest_112 hl (k := 2) rfl (nI_add l 1) (by decide) rfl (fun ls hl => ?_)
                                  refine lv_goto (tgt := 74) hx hb dX3_digest_115 (by decide) ?_
                                  rw [← dgR2_s] at hl
                                  exact ih74 (l + 1) (by omega) (by omega) H locs hP hS ls (lv_sub hl [1, 0, 3, 4] rfl)
                                · skip
                                  have c86 := (not_congr (nI_leI (a := 4) (b := w) (by omega) (by omega))).mp c86
                                  refine lv_lload_n hx hb dX3_digest_89 rfl (lv_at hl 0 rfl) ?_
                                  refine lv_ldc2 (v := 31) hx hb hown kw5 dX3_digest_90 ?_
                                  refine lv_lmul hx hb dX3_digest_93 ?_
                                  refine lv_aload_n hx hb dX3_digest_94 rfl (lv_at hl 4 rfl) ?_
                                  refine lv_iload hx hb dX3_digest_95 (lv_at hl 2 rfl) ?_
                                  refine lv_iload_n hx hb dX3_digest_97 rfl (lv_at hl 3 rfl) ?_
                                  refine lv_iload hx hb dX3_digest_98 (lv_at hl 1 rfl) ?_
                                  refine pVi (As := [.int (nI l), .int (nI pp), .int (nI w)]) (rest := [.long ((dgR3 a b l pp w (dgR2 a b pp l (dgR a b pp (dgU b 3 (dgC a b 10 1297))))) * 31)]) (wc := (([(x, .inr (3, [.ref (B 0), .ref (F 0), .ref (G 0)]))] : va_W) ++ ((wB cA B b) ++ ((wF cA F a c q) ++ (wF cA G a2 c2 q2))))) ⟨hx, hb, hml, hown, hts⟩ (K_X3_riverFact lch D cA x B F G b a c q a2 c2 q2 l pp w H.size (by first | assumption | omega) (by first | assumption | omega) (by first | assumption | omega) (by omega) (by omega) (by omega)) (cwV 3 hts gX3_digest_X3_riverFact rfl rfl rfl (by decide +kernel) ⟨Nat.le_of_ble_eq_true rfl, Nat.le_of_ble_eq_true rfl⟩) hE hP hD hS hA [0, 1, 2, 3, 4, 5, 6, 7, 8, 9, 10, 11, 12, 13, 14, 15, 16, 17, 18, 19, 20, 21, 22, 23, 24, 25, 26, 27, 28, 29, 30, 31, 32, 33, 34, 35, 36, 37, 38, 39, 40, 41, 42, 43, 44, 45, 46, 47, 48, 49, 50, 51, 52, 53] rfl rfl X0.blind (fun _ _ _ => trivial) 0 3 rfl rfl rfl hl.1 rfl rfl (Nat.le_of_ble_eq_true rfl) dX3_digest_100 ⟨Nat.zero_le _, Nat.zero_le _⟩ (fun r_7 u_8 H locs h_9 hP hS => ?_)
                                  subst h_9
                                  refine lv_i2l (v := (riverA a b l pp w : Int32).toInt64) hx hb dX3_digest_103 rfl ?_
                                  refine lv_ladd hx hb dX3_digest_104 ?_
                                  refine lv_lstore_n (lv' := [(1, .long (((dgR3 a b l pp w (dgR2 a b pp l (dgR a b pp (dgU b 3 (dgC a b 10 1297))))) * 31) + ((riverA a b l pp w : Int32).toInt64))), (5, .int (nI w)), (4, .int (nI l)), (3, .int (nI pp)), (0, .ref x)]) hx hb dX3_digest_105 rfl hl (by decide) rfl (fun ls hl => ?_)
                                  refine lv_iinc (v := nI (w + 1)) (lv' := [(5, .int (nI (w + 1))), (1, .long (((dgR3 a b l pp w (dgR2 a b pp l (dgR a b pp (dgU b 3 (dgC a b 10 1297))))) * 31) + ((riverA a b l pp w : Int32).toInt64))), (4, .int (nI l)), (3, .int (nI pp)), (0, .ref x)]) hx hb dX3_digest_106 hl (k := 1) rfl (nI_add w 1) (by decide) rfl (fun ls hl => ?_)
                                  refine lv_goto (tgt := 83) hx hb dX3_digest_109 (by decide) ?_
                                  rw [← dgR3_s] at hl
                                  exact ih83 (w + 1) (by omega) (by omega) H locs hP hS ls (lv_sub hl [1, 0, 2, 3, 4] rfl)
                            rw [← dgR3_0 a b l pp (dgR2 a b pp l (dgR a b pp (dgU b 3 (dgC a b 10 1297))))] at hl
                            exact L83 (4 + 1) 0 (Nat.zero_le _) (by omega) H locs hP hS ls (lv_sub hl [1, 0, 2, 3, 4] rfl)
                      rw [← dgR2_0 a b pp (dgR a b pp (dgU b 3 (dgC a b 10 1297)))] at hl
                      exact L74 (3 + 1) 0 (Nat.zero_le _) (by omega) H locs hP hS ls (lv_sub hl [1, 0, 2, 3] rfl)
                rw [← dgR_0 a b (dgU b 3 (dgC a b 10 1297))] at hl
                exact L65 (60 + 1) 0 (Nat.zero_le _) (by omega) H locs hP hS ls (lv_sub hl [1, 0, 2] rfl)
              · skip
                have c35 := (not_congr (nI_leI (a := 3) (b := n) (by omega) (by omega))).mp c35
                refine lv_lload_n hx hb dX3_digest_38 rfl (lv_at hl 0 rfl) ?_
                refine lv_ldc2 (v := 31) hx hb hown kw5 dX3_digest_39 ?_
                refine lv_lmul hx hb dX3_digest_42 ?_
                refine lv_aload_n hx hb dX3_digest_43 rfl (lv_at hl 2 rfl) ?_
                refine va_get (D := D) (ci := 3) (v := .ref (B 0)) (C := RX3) (T := TX3) (N := 3) hx hb hts inX3 hown hE.1 hP 0 rfl rfl 0 (by decide) kf10 (fun _ h9 => h9) rfl dX3_digest_44 ?_
                refine va_get (D := D) (ci := 0) (v := .ref (B 1)) (C := RX0) (T := TX0) (N := 5) hx hb hts inX0 hown hE.1 hP 1 rfl rfl 0 (by decide) kf46 (fun _ h9 => h9) rfl dX3_digest_47 ?_
                refine lv_iload_n hx hb dX3_digest_50 rfl (lv_at hl 1 rfl) ?_
                refine pVi (As := [.int (nI n)]) (rest := [.long ((dgU b n (dgC a b 10 1297)) * 31)]) (wc := (wR cA (B 1) (B 4) 3 (fun z9 => nI (bCu b z9)))) ⟨hx, hb, hml, hown, hts⟩ (K_X2_getk lch D cA (B 1) (B 4) 3 (fun z9 => nI (bCu b z9)) n (nI (bCu b n)) H.size (by omega) (Nat.le_of_ble_eq_true rfl) (rfl)) (cwV 1 hts gX3_digest_X2_get rfl rfl rfl (by decide +kernel) ⟨Nat.le_of_ble_eq_true rfl, Nat.le_of_ble_eq_true rfl⟩) hE hP hD hS hA [2, 5] rfl rfl X0.blind (fun _ _ _ => trivial) 2 2 rfl rfl rfl hl.1 rfl rfl (Nat.le_of_ble_eq_true rfl) dX3_digest_51 ⟨Nat.zero_le _, Nat.zero_le _⟩ (fun r_10 u_11 H locs h_12 hP hS => ?_)
                subst h_12
                refine lv_i2l (v := (nI (bCu b n) : Int32).toInt64) hx hb dX3_digest_54 rfl ?_
                refine lv_ladd hx hb dX3_digest_55 ?_
                refine lv_lstore_n (lv' := [(1, .long (((dgU b n (dgC a b 10 1297)) * 31) + ((nI (bCu b n) : Int32).toInt64))), (3, .int (nI n)), (0, .ref x)]) hx hb dX3_digest_56 rfl hl (by decide) rfl (fun ls hl => ?_)
                refine lv_iinc (v := nI (n + 1)) (lv' := [(3, .int (nI (n + 1))), (1, .long (((dgU b n (dgC a b 10 1297)) * 31) + ((nI (bCu b n) : Int32).toInt64))), (0, .ref x)]) hx hb dX3_digest_57 hl (k := 1) rfl (nI_add n 1) (by decide) rfl (fun ls hl => ?_)
                refine lv_goto (tgt := 33) hx hb dX3_digest_60 (by decide) ?_
                rw [← dgU_s] at hl
                exact ih33 (n + 1) (by omega) (by omega) H locs hP hS ls (lv_sub hl [1, 0, 2] rfl)
          rw [← dgU_0 b (dgC a b 10 1297)] at hl
          exact L33 (3 + 1) 0 (Nat.zero_le _) (by omega) H locs hP hS ls (lv_sub hl [1, 0, 2] rfl)
        · skip
          have c9 := (not_congr (nI_leI (a := 10) (b := n) (by omega) (by omega))).mp c9
          refine lv_lload_n hx hb dX3_digest_12 rfl (lv_at hl 0 rfl) ?_
          refine lv_ldc2 (v := 31) hx hb hown kw5 dX3_digest_13 ?_
          refine lv_lmul hx hb dX3_digest_16 ?_
          refine lv_aload_n hx hb dX3_digest_17 rfl (lv_at hl 2 rfl) ?_
          refine lv_iload_n hx hb dX3_digest_18 rfl (lv_at hl 1 rfl) ?_
          refine pVi (As := [.int (nI n)]) (rest := [.long ((dgC a b n 1297) * 31)]) (wc := (([(x, .inr (3, [.ref (B 0), .ref (F 0), .ref (G 0)]))] : va_W) ++ ((wB cA B b) ++ ((wF cA F a c q) ++ (wF cA G a2 c2 q2))))) ⟨hx, hb, hml, hown, hts⟩ (K_X3_counted lch D cA x B F G b a c q a2 c2 q2 n H.size (by first | assumption | omega) (by omega)) (cwV 1 hts gX3_digest_X3_counted rfl rfl rfl (by decide +kernel) ⟨Nat.le_of_ble_eq_true rfl, Nat.le_of_ble_eq_true rfl⟩) hE hP hD hS hA [0, 1, 2, 3, 4, 5, 6, 7, 8, 9, 10, 11, 12, 13, 14, 15, 16, 17, 18, 19, 20, 21, 22, 23, 24, 25, 26, 27, 28, 29, 30, 31, 32, 33, 34, 35, 36, 37, 38, 39, 40, 41, 42, 43, 44, 45, 46, 47, 48, 49, 50, 51, 52, 53] rfl rfl X0.blind (fun _ _ _ => trivial) 0 3 rfl rfl rfl hl.1 rfl rfl (Nat.le_of_ble_eq_true rfl) dX3_digest_19 ⟨Nat.zero_le _, Nat.zero_le _⟩ (fun r_13 u_14 H locs h_15 hP hS => ?_)
          subst h_15
          refine lv_i2l (v := (countA a b n : Int32).toInt64) hx hb dX3_digest_22 rfl ?_
          refine lv_ladd hx hb dX3_digest_23 ?_
          refine lv_lstore_n (lv' := [(1, .long (((dgC a b n 1297) * 31) + ((countA a b n : Int32).toInt64))), (3, .int (nI n)), (0, .ref x)]) hx hb dX3_digest_24 rfl hl (by decide) rfl (fun ls hl => ?_)
          refine lv_iinc (v := nI (n + 1)) (lv' := [(3, .int (nI (n + 1))), (1, .long (((dgC a b n 1297) * 31) + ((countA a b n : Int32).toInt64))), (0, .ref x)]) hx hb dX3_digest_25 hl (k := 1) rfl (nI_add n 1) (by decide) rfl (fun ls hl => ?_)
          refine lv_goto (tgt := 6) hx hb dX3_digest_28 (by decide) ?_
          rw [← dgC_s] at hl
          exact ih6 (n + 1) (by omega) (by omega) H locs hP hS ls (lv_sub hl [1, 0, 2] rfl)
    rw [← dgC_0 a b 1297] at hl
    exact L6 (10 + 1) 0 (Nat.zero_le _) (by omega) H locs hP hS ls (lv_sub hl [1, 0, 2] rfl)
  rw [hg1, hg2] at hgoal
  exact hgoal
