/-! the crowd, the order, what is kept: facts of the mathematical state -/
theorem any_iff {P : Nat → Bool} : ∀ n : Nat, anyN n P = true ↔ ∃ k, k < n ∧ P k = true
  | 0 => ⟨fun h => by simp [anyN] at h, fun ⟨k, h, _⟩ => absurd h (Nat.not_lt_zero k)⟩
  | n + 1 => by
    simp only [anyN, Bool.or_eq_true, any_iff n]
    constructor
    · rintro (⟨k, h1, h2⟩ | h)
      · exact ⟨k, by omega, h2⟩
      · exact ⟨n, by omega, h⟩
    · rintro ⟨k, h1, h2⟩
      rcases Nat.lt_or_ge k n with h | h
      · exact Or.inl ⟨k, h, h2⟩
      · have e : k = n := by omega
        exact Or.inr (e ▸ h2)
theorem cnt_pos {P : Nat → Bool} : ∀ n : Nat, 0 < cnt n P ↔ ∃ k, k < n ∧ P k = true
  | 0 => ⟨fun h => by simp [cnt] at h, fun ⟨k, h, _⟩ => absurd h (Nat.not_lt_zero k)⟩
  | n + 1 => by
    simp only [cnt]
    constructor
    · intro h
      by_cases hp : P n = true
      · exact ⟨n, by omega, hp⟩
      · rw [if_neg hp] at h
        obtain ⟨k, h1, h2⟩ := (cnt_pos n).mp (by omega)
        exact ⟨k, by omega, h2⟩
    · rintro ⟨k, h1, h2⟩
      rcases Nat.lt_or_ge k n with h | h
      · have := (cnt_pos n).mpr ⟨k, h, h2⟩
        omega
      · have e : k = n := by omega
        rw [e] at h2
        rw [if_pos h2]
        omega
theorem cnt_zero {P : Nat → Bool} {n : Nat} (h : ∀ k, k < n → P k = false) : cnt n P = 0 := by
  rcases Nat.eq_zero_or_pos (cnt n P) with e | e
  · exact e
  · obtain ⟨k, h1, h2⟩ := (cnt_pos n).mp e
    rw [h k h1] at h2
    cases h2
theorem spotF_iff {a : FSt} {l p f k : Nat} : spotF a l p f k = true ↔ qSt a k = 0 ∧ qLa a k = l ∧ qPl a k = p ∧ qFr a k = f := by simp [spotF]
theorem spotA_iff {a : FSt} {l p so k : Nat} : spotA a l p so k = true ↔ qSt a k = so ∧ qLa a k = l ∧ qPl a k = p := by simp [spotA]
theorem catches_iff {a : FSt} {k o : Nat} : catches a k o = true ↔ qSt a o = 0 ∧ qLa a o = qLa a k ∧ qPl a o = qPl a k + 1 ∧ qFr a o ≠ qFr a k := by simp [catches]
/-- beyond the last place nobody is afloat -/
theorem ck_rg {c : Nat → Int32} {a : FSt} {l p f : Nat} (hw : WFa a) (hcr : CRa a c) (h3 : l < 3) (hf : f < 3) : rg 540 c (ck l p f) = nI (cnt (qN a) (spotF a l p f)) := by
  by_cases h6 : p < 60
  · exact ck_at hcr h3 h6 hf
  · unfold ck
    rw [if_neg h6, rg_neg (by decide), cnt_zero (fun k hk => ?_)]
    · rfl
    · cases hs : spotF a l p f k
      · rfl
      · obtain ⟨h1, -, h2, -⟩ := spotF_iff.mp hs
        have := (hw.2 k hk).2.2.2.2.1 h1
        omega
theorem cnt_small {a : FSt} (hw : WFa a) (P : Nat → Bool) : cnt (qN a) P ≤ 41 := Nat.le_trans (cnt_le P _) hw.1
theorem catch_t {c : Nat → Int32} {a : FSt} {i f : Nat} (hw : WFa a) (hcr : CRa a c) (hi : i < qN a) (hf : f < 3) (hne : ¬ f = qFr a i) (h : ¬ rg 540 c (ck (qLa a i) (qPl a i + 1) f) ≤ 0) : (1 : Int32) = bi (caughtA a i) := by
  rw [ck_rg hw hcr (hw.2 i hi).2.1 hf] at h
  have hs := cnt_small hw (spotF a (qLa a i) (qPl a i + 1) f)
  have h1 : 0 < cnt (qN a) (spotF a (qLa a i) (qPl a i + 1) f) := by
    rcases Nat.eq_zero_or_pos (cnt (qN a) (spotF a (qLa a i) (qPl a i + 1) f)) with e | e
    · rw [e] at h
      exact absurd (by decide) h
    · exact e
  obtain ⟨k, hk, hs⟩ := (cnt_pos _).mp h1
  obtain ⟨g1, g2, g3, g4⟩ := spotF_iff.mp hs
  have h2 : caughtA a i = true := (any_iff _).mpr ⟨k, hk, catches_iff.mpr ⟨g1, g2, g3, by omega⟩⟩
  rw [h2]
  rfl
theorem catch_no {c : Nat → Int32} {a : FSt} {i f : Nat} (hw : WFa a) (hcr : CRa a c) (hi : i < qN a) (hf : f < 3) (h : f = qFr a i ∨ rg 540 c (ck (qLa a i) (qPl a i + 1) f) ≤ 0) (k : Nat) (hk : k < qN a) (hc : catches a i k = true) : ¬ qFr a k = f := by
  intro e
  obtain ⟨g1, g2, g3, g4⟩ := catches_iff.mp hc
  rcases h with h | h
  · omega
  · rw [ck_rg hw hcr (hw.2 i hi).2.1 hf] at h
    have hs := cnt_small hw (spotF a (qLa a i) (qPl a i + 1) f)
    have h1 := (cnt_pos (qN a)).mpr ⟨k, hk, spotF_iff.mpr ⟨g1, g2, g3, e⟩⟩
    exact nI_nle h1 (by omega) h
theorem catch_f {c : Nat → Int32} {a : FSt} {i : Nat} (hw : WFa a) (hcr : CRa a c) (hi : i < qN a) (h0 : 0 = qFr a i ∨ rg 540 c (ck (qLa a i) (qPl a i + 1) 0) ≤ 0) (h1 : 1 = qFr a i ∨ rg 540 c (ck (qLa a i) (qPl a i + 1) 1) ≤ 0) (h2 : 2 = qFr a i ∨ rg 540 c (ck (qLa a i) (qPl a i + 1) 2) ≤ 0) : (0 : Int32) = bi (caughtA a i) := by
  have h : caughtA a i = false := by
    cases hc : caughtA a i
    · rfl
    · obtain ⟨k, hk, hc⟩ := (any_iff _).mp hc
      have g0 := catch_no hw hcr hi (by decide) h0 k hk hc
      have g1 := catch_no hw hcr hi (by decide) h1 k hk hc
      have g2 := catch_no hw hcr hi (by decide) h2 k hk hc
      have := (hw.2 k hk).1
      omega
  rw [h]
  rfl
theorem sub_3 (x a b c : Int32) : x - a - b - c = x - (a + b + c) := by
  simp only [Int32.sub_eq_add_neg, Int32.neg_add, Int32.add_assoc]
theorem sub_9 (x a b c d e f g h i : Int32) : x - a - b - c - d - e - f - g - h - i = x - ((a + b + c) + (d + e + f) + (g + h + i)) := by
  simp only [Int32.sub_eq_add_neg, Int32.neg_add, Int32.add_assoc]
theorem at_3 {c : Nat → Int32} {a : FSt} {l p : Nat} (hw : WFa a) (hcr : CRa a c) (h3 : l < 3) : rg 540 c (ck l p 0) + rg 540 c (ck l p 1) + rg 540 c (ck l p 2) = nI (atA a l p 0) := by
  rw [ck_rg hw hcr h3 (by decide), ck_rg hw hcr h3 (by decide), ck_rg hw hcr h3 (by decide), nI_add, nI_add]
  unfold atA
  rw [← cnt_frames (qN a) (fun k hk => (hw.2 k hk).1)]
theorem wet_sum {c : Nat → Int32} {a : FSt} {i : Nat} {v : Int32} (hw : WFa a) (hcr : CRa a c) (hi : i < qN a) : v - rg 540 c (ck (qLa a i) (qPl a i + 1) 0) - rg 540 c (ck (qLa a i) (qPl a i + 1) 1) - rg 540 c (ck (qLa a i) (qPl a i + 1) 2) - rg 540 c (ck (qLa a i) (qPl a i + 2) 0) - rg 540 c (ck (qLa a i) (qPl a i + 2) 1) - rg 540 c (ck (qLa a i) (qPl a i + 2) 2) - rg 540 c (ck (qLa a i) (qPl a i + 3) 0) - rg 540 c (ck (qLa a i) (qPl a i + 3) 1) - rg 540 c (ck (qLa a i) (qPl a i + 3) 2) = v - nI (belowA a i) := by
  have h3 := (hw.2 i hi).2.1
  rw [sub_9, at_3 hw hcr h3, at_3 hw hcr h3, at_3 hw hcr h3, nI_add, nI_add]
  rfl
theorem imax_t {x : Int32} (h : x ≤ 1) : imax1 x = 1 := if_neg ((nlt_iff 1 x).mpr h)
theorem imax_f {x : Int32} (h : ¬ x ≤ 1) : imax1 x = x := if_pos ((nle_iff x 1).mp h)
/-! the wax -/
theorem wax_same (a : FSt) (k : Nat) : qN (waxA a k) = qN a ∧ qFr (waxA a k) = qFr a ∧ qLa (waxA a k) = qLa a ∧ qPl (waxA a k) = qPl a ∧ qSt (waxA a k) = qSt a ∧ qM (waxA a k) = qM a := by
  unfold waxA
  split
  · split <;> exact ⟨rfl, rfl, rfl, rfl, rfl, rfl⟩
  · exact ⟨rfl, rfl, rfl, rfl, rfl, rfl⟩
theorem up_cases {α : Type} (f : Nat → α) (k : Nat) (x : α) (j : Nat) : (j = k ∧ up f k x j = x) ∨ (j ≠ k ∧ up f k x j = f j) := by
  by_cases h : j = k
  · exact Or.inl ⟨h, by rw [h, up_s]⟩
  · exact Or.inr ⟨h, up_n h⟩
theorem WFa_wax {a : FSt} (k : Nat) (h : WFa a) : WFa (waxA a k) := by
  obtain ⟨e1, e2, e3, e4, e5, -⟩ := wax_same a k
  refine ⟨by rw [e1]; exact h.1, fun i hi => ?_⟩
  rw [e1] at hi
  obtain ⟨h1, h2, h3, h4, h5, h6, h7, h8⟩ := h.2 i hi
  rw [e2, e3, e4, e5]
  refine ⟨h1, h2, h3, h4, h5, ?_, ?_, ?_⟩ <;> unfold waxA
  · intro hs
    split
    · split
      · show up (qBu a) k false i = false
        rcases up_cases (qBu a) k false i with ⟨-, e⟩ | ⟨-, e⟩ <;> rw [e]
        exact h6 hs
      · exact h6 hs
    · exact h6 hs
  · split
    · have g : up (qWx a) k (qWx a k - 1) i ≤ 45 := by
        rcases up_cases (qWx a) k (qWx a k - 1) i with ⟨ei, e⟩ | ⟨-, e⟩ <;> rw [e]
        · subst ei; omega
        · exact h7
      split <;> exact g
    · exact h7
  · split
    · next hc =>
      split
      · next h0 =>
        intro g1 g2
        change up (qBu a) k false i = true at g2
        show 0 < up (qWx a) k (qWx a k - 1) i
        rcases up_cases (qBu a) k false i with ⟨-, e⟩ | ⟨en, e⟩
        · rw [e] at g2; cases g2
        · rw [e] at g2
          rw [up_n en]
          exact h8 g1 g2
      · next h0 =>
        intro g1 g2
        change qBu a i = true at g2
        show 0 < up (qWx a) k (qWx a k - 1) i
        rcases up_cases (qWx a) k (qWx a k - 1) i with ⟨ei, e⟩ | ⟨-, e⟩ <;> rw [e]
        · omega
        · exact h8 g1 g2
    · exact h8
theorem burn_same (a : FSt) : ∀ m : Nat, qN (burnA m a) = qN a ∧ qFr (burnA m a) = qFr a ∧ qLa (burnA m a) = qLa a ∧ qPl (burnA m a) = qPl a ∧ qSt (burnA m a) = qSt a ∧ qM (burnA m a) = qM a
  | 0 => ⟨rfl, rfl, rfl, rfl, rfl, rfl⟩
  | m + 1 => by
    obtain ⟨e1, e2, e3, e4, e5, e6⟩ := burn_same a m
    obtain ⟨g1, g2, g3, g4, g5, g6⟩ := wax_same (burnA m a) m
    exact ⟨g1.trans e1, g2.trans e2, g3.trans e3, g4.trans e4, g5.trans e5, g6.trans e6⟩
theorem WFa_burn {a : FSt} (h : WFa a) : ∀ m : Nat, WFa (burnA m a)
  | 0 => h
  | m + 1 => WFa_wax m (WFa_burn h m)
/-! the crowd follows -/
theorem CRa_of {a a' : FSt} {c : Nat → Int32} (h : CRa a c) (e1 : qN a' = qN a) (e2 : ∀ j, j < qN a → ∀ l p f, l < 3 → p < 60 → f < 3 → spotF a' l p f j = spotF a l p f j) : CRa a' c := fun l p f hl hp hf => by
  rw [h l p f hl hp hf, e1, cnt_congr (qN a) (fun k hk => (e2 k hk l p f hl hp hf).symm)]
theorem CRa_same {a a' : FSt} {c : Nat → Int32} (h : CRa a c) (e1 : qN a' = qN a) (e2 : qFr a' = qFr a) (e3 : qLa a' = qLa a) (e4 : qPl a' = qPl a) (e5 : qSt a' = qSt a) : CRa a' c := CRa_of h e1 (fun j _ l p f _ _ _ => by unfold spotF; rw [e2, e3, e4, e5])
theorem CRa_burn {a : FSt} {c : Nat → Int32} (h : CRa a c) (m : Nat) : CRa (burnA m a) c := by
  obtain ⟨e1, e2, e3, e4, e5, -⟩ := burn_same a m
  exact CRa_same h e1 e2 e3 e4 e5
theorem ckA_inj {l p f l' p' f' : Nat} (hp : p < 60) (hf : f < 3) (hp' : p' < 60) (hf' : f' < 3) (h : ckA l p f = ckA l' p' f') : l = l' ∧ p = p' ∧ f = f' := by
  unfold ckA at h
  omega
/-- the crowd without the lantern k -/
def CRx (a : FSt) (c : Nat → Int32) (k : Nat) : Prop := ∀ l p f, l < 3 → p < 60 → f < 3 → c (ckA l p f) = nI (cnt (qN a) (fun j => spotF a l p f j && j != k))
theorem cnt_without {P : Nat → Bool} {k : Nat} : ∀ n : Nat, cnt n P = cnt n (fun j => P j && j != k) + (if k < n ∧ P k = true then 1 else 0)
  | 0 => by simp [cnt]
  | n + 1 => by
    have h := cnt_without (P := P) (k := k) n
    simp only [cnt]
    rw [h]
    by_cases hk : n = k
    · subst hk
      simp
    · by_cases hp : P n = true
      · by_cases hkn : k < n
        · simp [hp, hk, hkn, show k < n + 1 by omega]; omega
        · simp [hp, hk, hkn, show ¬ k < n + 1 by omega]
      · by_cases hkn : k < n
        · simp [hp, hkn, show k < n + 1 by omega]
        · simp [hp, hkn, show ¬ k < n + 1 by omega]
theorem cby_at {a : FSt} {c : Nat → Int32} {k : Nat} {v : Int32} {l p f : Nat} (h3 : qLa a k < 3) (hf3 : qFr a k < 3) (hl : l < 3) (hp : p < 60) (hf : f < 3) : cby a c k v (ckA l p f) = if qLa a k = l ∧ qPl a k = p ∧ qFr a k = f then c (ckA l p f) + v else c (ckA l p f) := by
  unfold cby
  by_cases h6 : qPl a k < 60
  · have hb : ckA (qLa a k) (qPl a k) (qFr a k) < 540 := by unfold ckA; omega
    unfold ck
    rw [if_pos h6, rp_nI hb (by decide), rg_nI hb (by decide)]
    unfold upd
    by_cases e : ckA l p f = ckA (qLa a k) (qPl a k) (qFr a k)
    · obtain ⟨e1, e2, e3⟩ := ckA_inj hp hf h6 hf3 e
      rw [if_pos e, if_pos ⟨e1.symm, e2.symm, e3.symm⟩, e]
    · rw [if_neg e, if_neg (fun q => e (by rw [q.1, q.2.1, q.2.2]))]
  · unfold ck
    rw [if_neg h6, rp_neg (by decide), if_neg (fun q => h6 (by omega))]
theorem CR_out {a : FSt} {c : Nat → Int32} {k : Nat} (h : CRa a c) (hw : qLa a k < 3 ∧ qFr a k < 3) (hk : k < qN a) (hs : qSt a k = 0) : CRx a (cby a c k (-1)) k := fun l p f hl hp hf => by
  rw [cby_at hw.1 hw.2 hl hp hf, h l p f hl hp hf, cnt_without (k := k)]
  by_cases e : qLa a k = l ∧ qPl a k = p ∧ qFr a k = f
  · rw [if_pos e, if_pos ⟨hk, spotF_iff.mpr ⟨hs, e⟩⟩]
    exact pk_m1 _
  · rw [if_neg e, if_neg (fun q => e (spotF_iff.mp q.2).2)]
    rfl
theorem CR_in {a a' : FSt} {c : Nat → Int32} {k : Nat} (h : CRx a c k) (hN : qN a' = qN a) (ho : ∀ j, j ≠ k → ∀ l p f, spotF a' l p f j = spotF a l p f j) (hw : qLa a' k < 3 ∧ qFr a' k < 3) (hk : k < qN a) (hs : qSt a' k = 0) : CRa a' (cby a' c k 1) := fun l p f hl hp hf => by
  rw [cby_at hw.1 hw.2 hl hp hf, h l p f hl hp hf, cnt_without (P := spotF a' l p f) (k := k), hN]
  have e0 : cnt (qN a) (fun j => spotF a l p f j && j != k) = cnt (qN a) (fun j => spotF a' l p f j && j != k) := cnt_congr _ (fun j _ => by
    by_cases ej : j = k
    · simp [ej]
    · rw [ho j ej])
  rw [e0]
  by_cases e : qLa a' k = l ∧ qPl a' k = p ∧ qFr a' k = f
  · rw [if_pos e, if_pos ⟨hk, spotF_iff.mpr ⟨hs, e⟩⟩]
    exact nI_1 _
  · rw [if_neg e, if_neg (fun q => e (spotF_iff.mp q.2).2)]
    rfl
theorem CR_gone {a a' : FSt} {c : Nat → Int32} {k : Nat} (h : CRx a c k) (hN : qN a' = qN a) (ho : ∀ j, j ≠ k → ∀ l p f, spotF a' l p f j = spotF a l p f j) (hs : ¬ qSt a' k = 0) : CRa a' c := fun l p f hl hp hf => by
  rw [h l p f hl hp hf, cnt_without (P := spotF a' l p f) (k := k), hN, if_neg (fun q => hs (spotF_iff.mp q.2).1)]
  congr 1
  exact cnt_congr _ (fun j _ => by
    by_cases ej : j = k
    · simp [ej]
    · rw [ho j ej])
theorem CR_move {a : FSt} {c : Nat → Int32} {k l p : Nat} (h : CRa a c) (hw : qLa a k < 3 ∧ qFr a k < 3) (hk : k < qN a) (hs : qSt a k = 0) (hl : l < 3) : CRa (mvA a k l p) (cby (mvA a k l p) (cby a c k (-1)) k 1) :=
  CR_in (CR_out h hw hk hs) rfl (fun j hj l' p' f' => by
    have e1 : qLa (mvA a k l p) j = qLa a j := up_n hj
    have e2 : qPl (mvA a k l p) j = qPl a j := up_n hj
    have e3 : qSt (mvA a k l p) j = qSt a j := rfl
    have e4 : qFr (mvA a k l p) j = qFr a j := rfl
    unfold spotF
    rw [e1, e2, e3, e4]) ⟨by show up (qLa a) k l k < 3; rw [up_s]; exact hl, hw.2⟩ hk hs
theorem CR_leave {a : FSt} {c : Nat → Int32} {k so : Nat} (h : CRa a c) (hw : qLa a k < 3 ∧ qFr a k < 3) (hk : k < qN a) (hs : qSt a k = 0) (hso : ¬ so = 0) : CRa (endA a k so) (cby a c k (-1)) :=
  CR_gone (CR_out h hw hk hs) rfl (fun j hj l' p' f' => by
    have e1 : qLa (endA a k so) j = qLa a j := rfl
    have e2 : qPl (endA a k so) j = qPl a j := rfl
    have e3 : qSt (endA a k so) j = qSt a j := up_n hj
    have e4 : qFr (endA a k so) j = qFr a j := rfl
    unfold spotF
    rw [e1, e2, e3, e4]) (by show ¬ up (qSt a) k so k = 0; rw [up_s]; exact hso)
/-! the order -/
def keyA (a : FSt) (k : Nat) : Nat := ((59 - qPl a k) * 3 + qLa a k) * 64 + k
theorem key_lt {a : FSt} {i o : Nat} (hi : qPl a i < 60 ∧ qLa a i < 3 ∧ i < 41) (ho : qPl a o < 60 ∧ qLa a o < 3 ∧ o < 41) : keyA a i < keyA a o ↔ aheadA a i o = true := by
  unfold keyA aheadA
  by_cases h1 : qPl a i = qPl a o
  · rw [if_pos h1]
    by_cases h2 : qLa a i = qLa a o
    · rw [if_pos h2]
      simp
      omega
    · rw [if_neg h2]
      simp
      omega
  · rw [if_neg h1]
    simp
    omega
theorem key_small {a : FSt} {i : Nat} (hi : qPl a i < 60 ∧ qLa a i < 3 ∧ i < 41) : keyA a i < 2 ^ 31 := by
  unfold keyA
  omega
theorem key_mod {a : FSt} {i : Nat} (hi : i < 41) : keyA a i % 64 = i := by
  unfold keyA
  omega
