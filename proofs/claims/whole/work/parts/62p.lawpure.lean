/-! what each call keeps -/
theorem LI.crowd {b : BSt} {a : FSt} {c c' : Nat → Int32} (h : LI b a c) (hc : CRa a c') : LI b a c' := ⟨h.1, h.2.1, h.2.2.1, hc, h.2.2.2.2⟩
theorem ifz {q : Prop} [Decidable q] {x y : Nat} (h : (if q then x else y) = 0) (hx : ¬ x = 0) : ¬ q ∧ y = 0 := by
  by_cases hq : q
  · rw [if_pos hq] at h; exact absurd h hx
  · rw [if_neg hq] at h; exact ⟨hq, h⟩
theorem ifz' {q : Prop} [Decidable q] {x y : Nat} (h : (if q then x else y) = 0) (hy : ¬ y = 0) : q := by
  by_cases hq : q
  · exact hq
  · rw [if_neg hq] at h; exact absurd h hy
theorem nfalse {x : Bool} (h : ¬ x = false) : x = true := by cases x <;> simp_all
theorem inv_setCurrent {b : BSt} {a : FSt} {c c' : Nat → Int32} {p0 p1 : Int32} (hI : LI b a c) (h : cdCurrent p0 p1 = 0) (hc : CRa a c') : LI (vCu b (up (bCu b) (p0.toNatClampNeg) (p1.toNatClampNeg))) a c' := by
  have h1 := ifz (ifz h (by decide)).2 (by decide)
  have h2 := nfalse h1.1
  obtain ⟨k, hk, e⟩ := isW_nat (n := 5) (isW_0 h2) (by decide)
  rw [e] at h2 ⊢
  have h3 := isW_pos (n := 5) h2 (by omega)
  rw [nI_clamp (n := k) (by omega)]
  exact ⟨hI.1, WFb_cu hI.2.1 h3 hk, hI.2.2.1, hc, hI.2.2.2.2⟩
theorem inv_weir {b : BSt} {a : FSt} {c c' : Nat → Int32} {p0 p1 : Int32} (hI : LI b a c) (h : cdWeir b p0 p1 = 0) (hc : CRa a c') : LI (vW (vSp b (up (bSp b) (p0).toNatClampNeg p1)) (bW b + 1)) a c' := by
  have h1 := ifz (ifz (ifz h (by decide)).2 (by decide)).2 (by decide)
  exact ⟨hI.1, WFb_weir hI.2.1 (fun q => h1.1 (Or.inl q)), hI.2.2.1, hc, hI.2.2.2.2⟩
theorem inv_net {b : BSt} {a : FSt} {c c' : Nat → Int32} {p0 p1 : Int32} (hI : LI b a c) (h : cdNet b p0 p1 = 0) (hc : CRa a c') : LI (vK (vNe b (up (bNe b) ((p0).toNatClampNeg * 60 + (p1).toNatClampNeg) true)) (bK b + 1)) a c' := by
  have h1 := ifz (ifz h (by decide)).2 (by decide)
  exact ⟨hI.1, WFb_net hI.2.1 (fun q => h1.1 (Or.inl q)), WFn_net hI.2.2.1, hc, hI.2.2.2.2⟩
theorem isW_to {x : Int32} {n : Nat} (h : isW x 0 (nI n) = true) (hn : n < 2 ^ 31) : x.toNatClampNeg ≤ n := by
  obtain ⟨k, hk, e⟩ := isW_nat h hn
  rw [e, nI_clamp (by omega)]
  exact hk
theorem inv_launch {b : BSt} {a : FSt} {c c' : Nat → Int32} {p0 p1 p2 p3 : Int32} (hI : LI b a c) (h : cdLaunch a p0 p1 p2 p3 = 0) (hc : CRa (addA a (p0).toNatClampNeg p1 (p2).toNatClampNeg (p3).toNatClampNeg) c') : LI b (addA a (p0).toNatClampNeg p1 (p2).toNatClampNeg (p3).toNatClampNeg) c' := by
  have h1 := ifz h (by decide)
  have h2 := ifz (ifz h1.2 (by decide)).2 (by decide)
  have f0 : isW p0 0 2 = true := nfalse (fun q => h1.1 (Or.inl q))
  have f2 : isW p2 0 2 = true := nfalse (fun q => h1.1 (Or.inr (Or.inl q)))
  have f3 : isW p3 0 59 = true := nfalse (fun q => h1.1 (Or.inr (Or.inr q)))
  have g0 := isW_to (n := 2) f0 (by decide)
  have g2 := isW_to (n := 2) f2 (by decide)
  have g3 := isW_to (n := 59) f3 (by decide)
  have hn := hI.2.2.2.2
  have hne := h2.1
  exact ⟨WFa_add hI.1 hn (by omega) (by omega) (by omega), hI.2.1, WFn_add hI.2.2.1, hc, by show qN a + 1 ≤ 40; omega⟩
theorem inv_push {b : BSt} {a : FSt} {c c' : Nat → Int32} {p0 p1 : Int32} (hI : LI b a c) (h : cdPush a p0 p1 = 0) (hc : CRa (uLa a (up (qLa a) (p0).toNatClampNeg (p1).toNatClampNeg)) c') : LI b (uLa a (up (qLa a) (p0).toNatClampNeg (p1).toNatClampNeg)) c' := by
  have h1 := ifz h (by decide)
  have h2 := ifz' h1.2 (by decide)
  have f1 : isW p1 0 2 = true := nfalse (fun q => h1.1 (Or.inr q))
  have g1 := isW_to (n := 2) f1 (by decide)
  exact ⟨WFa_push hI.1 (by omega), hI.2.1, WFn_push hI.2.2.1 h2, hc, hI.2.2.2.2⟩
theorem inv_light {b : BSt} {a : FSt} {c c' : Nat → Int32} {p0 : Int32} (hI : LI b a c) (h : cdLight a p0 = 0) (hc : CRa (uBu a (up (qBu a) (p0).toNatClampNeg true)) c') : LI b (uBu a (up (qBu a) (p0).toNatClampNeg true)) c' := by
  have h1 := ifz h (by decide)
  have h2 := ifz' h1.2 (by decide)
  have h3 : 0 < qWx a p0.toNatClampNeg := by
    have h4 := h2.2
    unfold litA at h4
    simp only [Bool.and_eq_true, decide_eq_true_eq] at h4
    exact h4.2.2
  exact ⟨WFa_light hI.1 h2.1 h3, hI.2.1, hI.2.2.1, hc, hI.2.2.2.2⟩
theorem inv_blow {b : BSt} {a : FSt} {c c' : Nat → Int32} {p0 : Int32} (hI : LI b a c) (_ : cdBlow a p0 = 0) (hc : CRa (outA a (p0).toNatClampNeg) c') : LI b (outA a (p0).toNatClampNeg) c' :=
  ⟨WFa_out hI.1, hI.2.1, hI.2.2.1, hc, hI.2.2.2.2⟩
theorem inv_pass {b : BSt} {a : FSt} {c c' : Nat → Int32} {p0 : Int32} (hI : LI b a c) (_ : cdPass p0 = 0) (hc : CRa (minsA b (p0).toNatClampNeg a) c') : LI b (minsA b (p0).toNatClampNeg a) c' := by
  obtain ⟨h1, h2⟩ := mins_keep (b := b) hI.1 p0.toNatClampNeg
  exact ⟨h1, hI.2.1, WFn_mins hI.2.2.1 _, hc, by rw [h2]; exact hI.2.2.2.2⟩
