/-! The text: numbers, a whole command. -/
def dP (a : Nat → Int32) (l p : Nat) : Prop := p < l ∧ ¬ a p < 48 ∧ ¬ 57 < a p
theorem X5_dig_y {a : Nat → Int32} {l p : Nat} (hl : l ≤ 80) (h : dP a l p) : m_X5_isDigitAt (nI p) (nI l) a = some 1 := by
  have h1 := h.1
  unfold m_X5_isDigitAt
  rw [if_neg (nI_pos (by omega)), if_neg (nI_ge h1 (by omega)), if_neg (show ¬ (80 : Int32) ≤ nI p from nI_ge (b := 80) (by omega) (by omega)), gd_ix (by omega) (by omega), gd_ix (by omega) (by omega), nI_clamp (by omega), if_neg h.2.1, if_neg h.2.2]
theorem X5_dig_n {a : Nat → Int32} {l p : Nat} (hl : l ≤ 80) (hp : p < 1000) (h : ¬ dP a l p) : m_X5_isDigitAt (nI p) (nI l) a = some 0 := by
  unfold m_X5_isDigitAt
  rw [if_neg (nI_pos (by omega))]
  by_cases h1 : p < l
  · rw [if_neg (nI_ge h1 (by omega)), if_neg (show ¬ (80 : Int32) ≤ nI p from nI_ge (b := 80) (by omega) (by omega)), gd_ix (by omega) (by omega), gd_ix (by omega) (by omega), nI_clamp (by omega)]
    by_cases q : a p < 48
    · rw [if_pos q]
    · rw [if_neg q, if_pos (Decidable.not_not.mp fun w => h ⟨h1, q, w⟩)]
  · rw [if_pos (nI_le (Nat.not_lt.mp h1) (by omega))]
/-- d digits stand from b on -/
def DG (a : Nat → Int32) (l b d : Nat) : Prop := d ≤ 4 ∧ (∀ k, k < d → dP a l (b + k)) ∧ (d < 4 → ¬ dP a l (b + d))
theorem dP.c {a u : Nat → Int32} {l p : Nat} (h : ∀ i, i < l → u i = a i) : dP u l p ↔ dP a l p := by
  unfold dP
  constructor
  · rintro ⟨h1, h2⟩; exact ⟨h1, by rw [← h p h1]; exact h2⟩
  · rintro ⟨h1, h2⟩; exact ⟨h1, by rw [h p h1]; exact h2⟩
theorem DG.c {a u : Nat → Int32} {l b d : Nat} (h : DG a l b d) (e : ∀ i, i < l → u i = a i) : DG u l b d := ⟨h.1, fun k hk => (dP.c e).mpr (h.2.1 k hk), fun q z => h.2.2 q ((dP.c e).mp z)⟩
def vl (a : Nat → Int32) (b : Nat) : Nat → Nat
  | 0 => 0
  | i + 1 => 10 * vl a b i + ((a (b + i)).toNatClampNeg - 48)
theorem vl_c {a u : Nat → Int32} {l b d : Nat} (h : ∀ k, k < d → b + k < l) (e : ∀ i, i < l → u i = a i) : vl u b d = vl a b d := by
  induction d with
  | zero => rfl
  | succ d ih =>
    show 10 * vl u b d + ((u (b + d)).toNatClampNeg - 48) = 10 * vl a b d + ((a (b + d)).toNatClampNeg - 48)
    rw [ih fun k hk => h k (by omega), e _ (h d (by omega))]
/-- the text holds printable signs -/
def PT (a : Nat → Int32) (l : Nat) : Prop := ∀ i, i < l → ∃ v, 32 ≤ v ∧ v ≤ 126 ∧ a i = nI v
theorem dP.val {a : Nat → Int32} {l p : Nat} (h : dP a l p) (hp : PT a l) : ∃ u, 48 ≤ u ∧ u ≤ 57 ∧ a p = nI u ∧ (a p).toNatClampNeg = u := by
  obtain ⟨v, v1, v2, v3⟩ := hp p h.1
  have h2 := h.2.1
  have h3 := h.2.2
  rw [v3] at h2 h3
  refine ⟨v, Nat.not_lt.mp fun q => h2 (show nI v < nI 48 from nI_lt q (by omega)), Nat.not_lt.mp fun q => h3 (show nI 57 < nI v from nI_lt q (by omega)), v3, by rw [v3, nI_clamp (by omega)]⟩
theorem vl_lt {a : Nat → Int32} {l b d : Nat} (hp : PT a l) (h : ∀ k, k < d → dP a l (b + k)) : vl a b d < 10 ^ d := by
  induction d with
  | zero => exact Nat.lt_of_lt_of_le (Nat.lt_succ_self 0) (Nat.le_refl 1)
  | succ d ih =>
    have h1 := ih fun k hk => h k (by omega)
    obtain ⟨u, u1, u2, u3, u4⟩ := (h d (by omega)).val hp
    show 10 * vl a b d + ((a (b + d)).toNatClampNeg - 48) < 10 ^ (d + 1)
    rw [u4, Nat.pow_succ]
    omega
theorem vl_4 {a : Nat → Int32} {l b d : Nat} (hp : PT a l) (hd : d ≤ 4) (h : ∀ k, k < d → dP a l (b + k)) : vl a b d ≤ 9999 := by
  have h1 := vl_lt hp h
  have h2 : 10 ^ d ≤ 10 ^ 4 := Nat.pow_le_pow_right (by omega) hd
  have h3 : 10 ^ 4 = 10000 := by decide
  omega
theorem X5_scanNumber {a : Nat → Int32} {l b d : Nat} (hp : PT a l) (hl : l ≤ 80) (hb : b ≤ 80) (h : DG a l b d) : m_X5_scanNumber (nI l) (nI b) a = some (if d = 0 then -1 else nI (vl a b d), nI (b + d)) := by
  have hd4 := h.1
  unfold m_X5_scanNumber
  refine loop_run (c := d) (fun i => (if i = 0 then (-1 : Int32) else nI (vl a b i), nI i, nI (b + i))) (by omega) (fun rec i hi => ?_) (fun rec => ?_)
  · have hz := X5_dig_y hl (h.2.1 i hi)
    have hlt := (h.2.1 i hi).1
    obtain ⟨u, u1, u2, u3, u4⟩ := (h.2.1 i hi).val hp
    have h1 : ((4 : Int32) ≤ nI i) = False := lit_ge (b := 4) rfl (by omega) (by omega)
    have hv : vl a b (i + 1) = 10 * vl a b i + (u - 48) := by
      show 10 * vl a b i + ((a (b + i)).toNatClampNeg - 48) = _
      rw [u4]
    have e48 : nI u - 48 = nI (u - 48) := pk_sub (b := 48) u1
    have e3 : (if i + 1 = 0 then (-1 : Int32) else nI (vl a b (i + 1))) = nI (vl a b (i + 1)) := if_neg (by omega)
    by_cases q : i = 0
    · have t0 : (nI i = (0 : Int32)) = True := eq_true (by rw [q]; rfl)
      have e5 : (0 : Int32) + nI (u - 48) = nI (vl a b (i + 1)) := by
        rw [hv, q]
        show nI 0 + nI (u - 48) = nI (10 * 0 + (u - 48))
        rw [nI_add]
      simp (disch := omega) only [m_X5_scanNumber_L4, m_X5_scanNumber_J32, h1, hz, t0, u3, e48, e5, e3, nI_clamp, nI_1, bsm, nmd, gd_ix, gd_t, gd_bi, gd_b0, gd_b1, ite_b, ite_p, if_true, if_false, ite_true, ite_false, i10, i00, or0, add0, g0, g1, g2, g3, g4, g5, g6, c0, c1, c2, c3, c4, c5, c6, Bool.false_eq_true, decide_eq_true_eq]
      rfl
    · have t0 : (nI i = (0 : Int32)) = False := lit_ne (b := 0) rfl q (by omega) (by omega)
      have e4 : (if i = 0 then (-1 : Int32) else nI (vl a b i)) = nI (vl a b i) := if_neg q
      have e5 : nI (vl a b i) * 10 + nI (u - 48) = nI (vl a b (i + 1)) := by
        show nI (vl a b i) * nI 10 + nI (u - 48) = _
        rw [pk_mul, nI_add, hv, Nat.mul_comm]
      simp (disch := omega) only [m_X5_scanNumber_L4, m_X5_scanNumber_J32, h1, hz, t0, u3, e4, e48, e5, e3, nI_clamp, nI_1, bsm, nmd, gd_ix, gd_t, gd_bi, gd_b0, gd_b1, ite_b, ite_p, if_true, if_false, ite_true, ite_false, i10, i00, or0, add0, g0, g1, g2, g3, g4, g5, g6, c0, c1, c2, c3, c4, c5, c6, Bool.false_eq_true, decide_eq_true_eq]
      rfl
  · by_cases q : d < 4
    · have h1 : ((4 : Int32) ≤ nI d) = False := lit_ge (b := 4) rfl q (by omega)
      simp (disch := omega) only [m_X5_scanNumber_L4, h1, X5_dig_n hl (show b + d < 1000 by omega) (h.2.2 q), nI_clamp, nI_1, bsm, nmd, gd_ix, gd_t, gd_bi, gd_b0, gd_b1, ite_b, ite_p, if_true, if_false, ite_true, ite_false, i10, i00, or0, add0, g0, g1, g2, g3, g4, g5, g6, c0, c1, c2, c3, c4, c5, c6, Bool.false_eq_true, decide_eq_true_eq]
    · have h1 : ((4 : Int32) ≤ nI d) = True := lit_le (b := 4) rfl (by omega) (by omega)
      simp (disch := omega) only [m_X5_scanNumber_L4, h1, nI_clamp, nI_1, bsm, nmd, gd_ix, gd_t, gd_bi, gd_b0, gd_b1, ite_b, ite_p, if_true, if_false, ite_true, ite_false, i10, i00, or0, add0, g0, g1, g2, g3, g4, g5, g6, c0, c1, c2, c3, c4, c5, c6, Bool.false_eq_true, decide_eq_true_eq]
theorem X8_readNumber {a : Nat → Int32} {l b d : Nat} (hp : PT a l) (hl : l ≤ 80) (hb : b ≤ 80) (h : DG a l b d) : m_X8_readNumber (nI l) (nI b) 0 a = some (nI (vl a b d), nI (b + d), if d = 0 then 1 else 0) := by
  have hd4 := h.1
  unfold m_X8_readNumber
  refine loop_run (c := d) (fun i => (nI (vl a b i), nI i, nI (b + i))) (by omega) (fun rec i hi => ?_) (fun rec => ?_)
  · have hz := X8_sees_y hl (h.2.1 i hi)
    have hlt := (h.2.1 i hi).1
    obtain ⟨u, u1, u2, u3, u4⟩ := (h.2.1 i hi).val hp
    have h1 : ((4 : Int32) ≤ nI i) = False := lit_ge (b := 4) rfl (by omega) (by omega)
    have e5 : (10 : Int32) * nI (vl a b i) + nI u - 48 = nI (vl a b (i + 1)) := by
      show nI 10 * nI (vl a b i) + nI u - nI 48 = nI (10 * vl a b i + ((a (b + i)).toNatClampNeg - 48))
      rw [pk_mul, nI_add, pk_sub (by omega), u4]
      congr 1
      omega
    simp (disch := omega) only [m_X8_readNumber_L4, h1, hz, u3, e5, nI_clamp, nI_1, bsm, nmd, gd_ix, gd_t, gd_bi, gd_b0, gd_b1, ite_b, ite_p, if_true, if_false, ite_true, ite_false, i10, i00, or0, add0, g0, g1, g2, g3, g4, g5, g6, c0, c1, c2, c3, c4, c5, c6, Bool.false_eq_true, decide_eq_true_eq]
    rfl
  · have e0 : ((0 : Int32) ||| 1) = 1 := by decide
    by_cases z : d = 0
    · subst z
      have t0 : (nI 0 = (0 : Int32)) = True := by decide
      have h1 : ((4 : Int32) ≤ nI 0) = False := by decide
      simp (disch := omega) only [m_X8_readNumber_L4, m_X8_readNumber_J54, h1, t0, e0, X8_sees_n hl (show b + 0 < 1000 by omega) (h.2.2 (by omega)), nI_clamp, nI_1, bsm, nmd, gd_ix, gd_t, gd_bi, gd_b0, gd_b1, ite_b, ite_p, if_true, if_false, ite_true, ite_false, i10, i00, or0, add0, g0, g1, g2, g3, g4, g5, g6, c0, c1, c2, c3, c4, c5, c6, Bool.false_eq_true, decide_eq_true_eq]
    · have t0 : (nI d = (0 : Int32)) = False := lit_ne (b := 0) rfl z (by omega) (by omega)
      rw [if_neg z]
      by_cases q : d < 4
      · have h1 : ((4 : Int32) ≤ nI d) = False := lit_ge (b := 4) rfl q (by omega)
        simp (disch := omega) only [m_X8_readNumber_L4, m_X8_readNumber_J54, h1, t0, X8_sees_n hl (show b + d < 1000 by omega) (h.2.2 q), nI_clamp, nI_1, bsm, nmd, gd_ix, gd_t, gd_bi, gd_b0, gd_b1, ite_b, ite_p, if_true, if_false, ite_true, ite_false, i10, i00, or0, add0, g0, g1, g2, g3, g4, g5, g6, c0, c1, c2, c3, c4, c5, c6, Bool.false_eq_true, decide_eq_true_eq]
      · have h1 : ((4 : Int32) ≤ nI d) = True := lit_le (b := 4) rfl (by omega) (by omega)
        simp (disch := omega) only [m_X8_readNumber_L4, m_X8_readNumber_J54, h1, t0, nI_clamp, nI_1, bsm, nmd, gd_ix, gd_t, gd_bi, gd_b0, gd_b1, ite_b, ite_p, if_true, if_false, ite_true, ite_false, i10, i00, or0, add0, g0, g1, g2, g3, g4, g5, g6, c0, c1, c2, c3, c4, c5, c6, Bool.false_eq_true, decide_eq_true_eq]
def cn (w : Nat) : Nat := if w = 2 ∨ w = 4 then 3 else if w = 5 then 1 else 2
theorem nums_e : ∀ w, w < 6 → m_X5_numbersOf (nI w) = some (nI (cn w)) := by decide +kernel
theorem cnt_e : ∀ w, w < 6 → m_X8_countNumbers (nI w) = some (nI (cn w)) := by decide +kernel
theorem cn_le : ∀ w, w < 6 → 1 ≤ cn w ∧ cn w ≤ 3 ∧ 7 ≤ lenS.getD w 0 + 2 * cn w + 1 := by decide
/-- v, but x at i -/
def ov (i x : Nat) (v : Nat → Nat) : Nat → Nat := fun j => if j = i then x else v j
theorem ov_s {i x : Nat} {v : Nat → Nat} : ov i x v i = x := if_pos rfl
theorem ov_n {i x j : Nat} {v : Nat → Nat} (h : ¬ j = i) : ov i x v j = v j := if_neg h
/-- the text on both sides -/
theorem nums_or {a u : Nat → Int32} {l w : Nat} (hp : PT a l) (hu : ∀ i, i < l → u i = a i) (hl : l ≤ 80) (hw : w < 6) : ∀ (n i b : Nat), i + n = cn w → b ≤ l →
    (∃ (e : Nat), e ≤ l ∧ (∀ (c : Nat) (words numbers : Nat → Int32) (k : Nat), c < 12 → n < k → ∃ (numbers' : Nat → Int32), fuel (m_X5_scanCommand_L21 (nI l) a words (nI c) (nI w)) k (nI i, nI b, numbers) = some (0, nI e, upd words c (nI w), numbers')) ∧ (∀ (nu : Nat → Int32) (k : Nat), n < k → ∃ (nu' : Nat → Int32), fuel (m_X8_readCommand_L7 u (nI l) (nI w)) k (nI i, nI b, 0, nu) = some (-1, nI e, 1, nu')))
    ∨ (∃ (b' : Nat) (v : Nat → Nat), b + 2 * n + 1 ≤ b' ∧ b' ≤ l ∧ (∀ k, v k ≤ 9999) ∧ (∀ (c : Nat) (words numbers : Nat → Int32) (k : Nat), c < 12 → n < k → ∃ (numbers' : Nat → Int32), fuel (m_X5_scanCommand_L21 (nI l) a words (nI c) (nI w)) k (nI i, nI b, numbers) = some (1, nI b', upd words c (nI w), numbers') ∧ (∀ j, i ≤ j → j < cn w → numbers' (c * 3 + j) = nI (v j)) ∧ ∀ j, j < c * 3 + i → numbers' j = numbers j) ∧ (∀ (nu : Nat → Int32) (k : Nat), n < k → ∃ (nu' : Nat → Int32), fuel (m_X8_readCommand_L7 u (nI l) (nI w)) k (nI i, nI b, 0, nu) = some (nI w, nI b', 0, nu') ∧ (∀ j, i ≤ j → j < cn w → nu' j = nI (v j)) ∧ ∀ j, j < i → nu' j = nu j)) := by
  have hc3 := cn_le w hw
  have hn := nums_e w hw
  have hc := cnt_e w hw
  intro n
  induction n with
  | zero =>
    intro i b hi hb
    have h1 : (nI (cn w) ≤ nI i) = True := eq_true (nI_le (by omega) (by omega))
    by_cases q : isA a l b 59
    · have hq := isA_c hu |>.mpr q
      refine Or.inr ⟨b + 1, fun _ => 0, by omega, q.1, fun _ => Nat.zero_le _, fun c words numbers k hc12 hk => ⟨numbers, ?_, fun j h1 h2 => absurd h2 (by omega), fun j _ => rfl⟩, fun nu k hk => ⟨nu, ?_, fun j h1 h2 => absurd h2 (by omega), fun j _ => rfl⟩⟩
      · obtain ⟨k, rfl⟩ : ∃ k', k = k' + 1 := ⟨k - 1, by omega⟩
        show m_X5_scanCommand_L21 _ _ _ _ _ (fuel _ k) _ = _
        simp (disch := omega) only [m_X5_scanCommand_L21, m_X5_scanCommand_J74, m_X5_scanSign, hn, h1, X5_isAt_y hl q, nI_clamp, nI_1, bsm, nmd, gd_ix, gd_t, gd_bi, gd_b0, gd_b1, ite_b, ite_p, if_true, if_false, ite_true, ite_false, i10, i00, or0, add0, g0, g1, g2, g3, g4, g5, g6, c0, c1, c2, c3, c4, c5, c6, Bool.false_eq_true, decide_eq_true_eq]
      · obtain ⟨k, rfl⟩ : ∃ k', k = k' + 1 := ⟨k - 1, by omega⟩
        show m_X8_readCommand_L7 _ _ _ (fuel _ k) _ = _
        simp (disch := omega) only [m_X8_readCommand_L7, m_X8_readCommand_J55, m_X8_readCommand_J68, hc, h1, X8_must_y hl hq, nI_clamp, nI_1, bsm, nmd, gd_ix, gd_t, gd_bi, gd_b0, gd_b1, ite_b, ite_p, if_true, if_false, ite_true, ite_false, i10, i00, or0, add0, g0, g1, g2, g3, g4, g5, g6, c0, c1, c2, c3, c4, c5, c6, Bool.false_eq_true, decide_eq_true_eq]
    · have hq := fun z => q ((isA_c hu).mp z)
      refine Or.inl ⟨b, hb, fun c words numbers k hc12 hk => ⟨numbers, ?_⟩, fun nu k hk => ⟨nu, ?_⟩⟩
      · obtain ⟨k, rfl⟩ : ∃ k', k = k' + 1 := ⟨k - 1, by omega⟩
        show m_X5_scanCommand_L21 _ _ _ _ _ (fuel _ k) _ = _
        simp (disch := omega) only [m_X5_scanCommand_L21, m_X5_scanCommand_J74, m_X5_scanSign, hn, h1, X5_isAt_n hl (show b < 1000 by omega) q, nI_clamp, nI_1, bsm, nmd, gd_ix, gd_t, gd_bi, gd_b0, gd_b1, ite_b, ite_p, if_true, if_false, ite_true, ite_false, i10, i00, or0, add0, g0, g1, g2, g3, g4, g5, g6, c0, c1, c2, c3, c4, c5, c6, Bool.false_eq_true, decide_eq_true_eq]
      · obtain ⟨k, rfl⟩ : ∃ k', k = k' + 1 := ⟨k - 1, by omega⟩
        show m_X8_readCommand_L7 _ _ _ (fuel _ k) _ = _
        simp (disch := omega) only [m_X8_readCommand_L7, m_X8_readCommand_J55, m_X8_readCommand_J68, hc, h1, X8_must_n hl (show b < 1000 by omega) hq, nI_clamp, nI_1, bsm, nmd, gd_ix, gd_t, gd_bi, gd_b0, gd_b1, ite_b, ite_p, if_true, if_false, ite_true, ite_false, i10, i00, or0, add0, g0, g1, g2, g3, g4, g5, g6, c0, c1, c2, c3, c4, c5, c6, Bool.false_eq_true, decide_eq_true_eq]
  | succ n ih =>
    intro i b hi hb
    have h1 : (nI (cn w) ≤ nI i) = False := eq_false (nI_ge (by omega) (by omega))
    have ei : ∀ c, c < 12 → nI c * 3 + nI i = nI (c * 3 + i) := fun c _ => by
      show nI c * nI 3 + nI i = _
      rw [pk_mul, nI_add]
    have h6 : ((1 : Int32) = 0) = False := by decide
    have stop : ∀ x nu k, 0 < k → fuel (m_X8_readCommand_L7 u (nI l) (nI w)) k (nI (i + 1), nI x, 1, nu) = some (-1, nI x, 1, nu) := fun x nu k hk => by
      obtain ⟨k, rfl⟩ : ∃ k', k = k' + 1 := ⟨k - 1, by omega⟩
      show m_X8_readCommand_L7 _ _ _ (fuel _ k) _ = _
      by_cases z : cn w ≤ i + 1
      · have h2 : (nI (cn w) ≤ nI (i + 1)) = True := eq_true (nI_le z (by omega))
        simp (disch := omega) only [m_X8_readCommand_L7, m_X8_readCommand_J55, m_X8_readCommand_J68, hc, h2, nI_clamp, nI_1, bsm, nmd, gd_ix, gd_t, gd_bi, gd_b0, gd_b1, ite_b, ite_p, if_true, if_false, ite_true, ite_false, i10, i00, or0, add0, g0, g1, g2, g3, g4, g5, g6, c0, c1, c2, c3, c4, c5, c6, Bool.false_eq_true, decide_eq_true_eq]
      · have h2 : (nI (cn w) ≤ nI (i + 1)) = False := eq_false (nI_ge (by omega) (by omega))
        simp (disch := omega) only [m_X8_readCommand_L7, m_X8_readCommand_J55, m_X8_readCommand_J68, hc, h2, nI_clamp, nI_1, bsm, nmd, gd_ix, gd_t, gd_bi, gd_b0, gd_b1, ite_b, ite_p, if_true, if_false, ite_true, ite_false, i10, i00, or0, add0, g0, g1, g2, g3, g4, g5, g6, c0, c1, c2, c3, c4, c5, c6, Bool.false_eq_true, decide_eq_true_eq]
    by_cases q : isA a l b 32
    · have hq := isA_c hu |>.mpr q
      have hb1 := q.1
      obtain ⟨d, hd⟩ : ∃ d, DG a l (b + 1) d := count_ex (fun k => dP a l (b + 1 + k)) 4
      have hdu := hd.c hu
      have hpu : PT u l := fun j hj => by rw [hu j hj]; exact hp j hj
      have hs := X5_scanNumber hp hl (show b + 1 ≤ 80 by omega) hd
      have hr := X8_readNumber hpu hl (show b + 1 ≤ 80 by omega) hdu
      have hd4 := hd.1
      by_cases z : d = 0
      · subst z
        rw [if_pos rfl] at hs hr
        refine Or.inl ⟨b + 1, hb1, fun c words numbers k hc12 hk => ⟨numbers, ?_⟩, fun nu k hk => ⟨upd nu i (nI (vl u (b + 1) 0)), ?_⟩⟩
        · obtain ⟨k, rfl⟩ : ∃ k', k = k' + 1 := ⟨k - 1, by omega⟩
          show m_X5_scanCommand_L21 _ _ _ _ _ (fuel _ k) _ = _
          simp (disch := omega) only [m_X5_scanCommand_L21, m_X5_scanCommand_J46, m_X5_scanSign, hn, h1, X5_isAt_y hl q, hs, nI_clamp, nI_1, bsm, nmd, gd_ix, gd_t, gd_bi, gd_b0, gd_b1, ite_b, ite_p, if_true, if_false, ite_true, ite_false, i10, i00, or0, add0, g0, g1, g2, g3, g4, g5, g6, c0, c1, c2, c3, c4, c5, c6, Bool.false_eq_true, decide_eq_true_eq]
        · obtain ⟨k, rfl⟩ : ∃ k', k = k' + 1 := ⟨k - 1, by omega⟩
          show m_X8_readCommand_L7 _ _ _ (fuel _ k) _ = _
          simp (disch := omega) only [m_X8_readCommand_L7, hc, h1, X8_must_y hl hq, hr, stop _ _ k (by omega), nI_clamp, nI_1, bsm, nmd, gd_ix, gd_t, gd_bi, gd_b0, gd_b1, ite_b, ite_p, if_true, if_false, ite_true, ite_false, i10, i00, or0, add0, g0, g1, g2, g3, g4, g5, g6, c0, c1, c2, c3, c4, c5, c6, Bool.false_eq_true, decide_eq_true_eq]
      · rw [if_neg z] at hs hr
        have hbd : b + 1 + d ≤ l := by
          have := (hd.2.1 (d - 1) (by omega)).1
          omega
        have hv4 := vl_4 (a := a) hp hd4 hd.2.1
        have hvu : vl u (b + 1) d = vl a (b + 1) d := vl_c (fun k hk => (hd.2.1 k hk).1) hu
        rw [hvu] at hr
        have hne : (nI (vl a (b + 1) d) = (-1 : Int32)) = False := eq_false fun y => m1_ne (n := vl a (b + 1) d) (by omega) y
        have clsS : ∀ c words numbers k, c < 12 → fuel (m_X5_scanCommand_L21 (nI l) a words (nI c) (nI w)) (k + 1) (nI i, nI b, numbers) = fuel (m_X5_scanCommand_L21 (nI l) a words (nI c) (nI w)) k (nI (i + 1), nI (b + 1 + d), upd numbers (c * 3 + i) (nI (vl a (b + 1) d))) := fun c words numbers k hc12 => by
          show m_X5_scanCommand_L21 _ _ _ _ _ (fuel _ k) _ = _
          simp (disch := omega) only [m_X5_scanCommand_L21, m_X5_scanCommand_J46, m_X5_scanSign, hn, h1, X5_isAt_y hl q, hs, hne, ei c hc12, nI_clamp, nI_1, bsm, nmd, gd_ix, gd_t, gd_bi, gd_b0, gd_b1, ite_b, ite_p, if_true, if_false, ite_true, ite_false, i10, i00, or0, add0, g0, g1, g2, g3, g4, g5, g6, c0, c1, c2, c3, c4, c5, c6, Bool.false_eq_true, decide_eq_true_eq]
        have refS : ∀ nu k, fuel (m_X8_readCommand_L7 u (nI l) (nI w)) (k + 1) (nI i, nI b, 0, nu) = fuel (m_X8_readCommand_L7 u (nI l) (nI w)) k (nI (i + 1), nI (b + 1 + d), 0, upd nu i (nI (vl a (b + 1) d))) := fun nu k => by
          show m_X8_readCommand_L7 _ _ _ (fuel _ k) _ = _
          simp (disch := omega) only [m_X8_readCommand_L7, hc, h1, X8_must_y hl hq, hr, nI_clamp, nI_1, bsm, nmd, gd_ix, gd_t, gd_bi, gd_b0, gd_b1, ite_b, ite_p, if_true, if_false, ite_true, ite_false, i10, i00, or0, add0, g0, g1, g2, g3, g4, g5, g6, c0, c1, c2, c3, c4, c5, c6, Bool.false_eq_true, decide_eq_true_eq]
        rcases ih (i + 1) (b + 1 + d) (by omega) hbd with ⟨e, he, hA, hB⟩ | ⟨b', v, hb', hbl, hv, hA, hB⟩
        · refine Or.inl ⟨e, he, fun c words numbers k hc12 hk => ?_, fun nu k hk => ?_⟩
          · obtain ⟨k, rfl⟩ : ∃ k', k = k' + 1 := ⟨k - 1, by omega⟩
            rw [clsS c words numbers k hc12]
            exact hA c words _ k hc12 (by omega)
          · obtain ⟨k, rfl⟩ : ∃ k', k = k' + 1 := ⟨k - 1, by omega⟩
            rw [refS nu k]
            exact hB _ k (by omega)
        · refine Or.inr ⟨b', ov i (vl a (b + 1) d) v, by omega, hbl, fun j => ?_, fun c words numbers k hc12 hk => ?_, fun nu k hk => ?_⟩
          · by_cases y : j = i
            · rw [y, ov_s]; exact hv4
            · rw [ov_n y]; exact hv j
          · obtain ⟨k, rfl⟩ : ∃ k', k = k' + 1 := ⟨k - 1, by omega⟩
            rw [clsS c words numbers k hc12]
            obtain ⟨nn, n1, n2, n3⟩ := hA c words (upd numbers (c * 3 + i) (nI (vl a (b + 1) d))) k hc12 (by omega)
            refine ⟨nn, n1, fun j hj hj2 => ?_, fun j hj => ?_⟩
            · by_cases y : j = i
              · rw [y, ov_s, n3 (c * 3 + i) (by omega), upd_same]
              · rw [ov_n y]; exact n2 j (by omega) hj2
            · rw [n3 j (by omega), upd_ne (by omega)]
          · obtain ⟨k, rfl⟩ : ∃ k', k = k' + 1 := ⟨k - 1, by omega⟩
            rw [refS nu k]
            obtain ⟨nn, n1, n2, n3⟩ := hB (upd nu i (nI (vl a (b + 1) d))) k (by omega)
            refine ⟨nn, n1, fun j hj hj2 => ?_, fun j hj => ?_⟩
            · by_cases y : j = i
              · rw [y, ov_s, n3 i (by omega), upd_same]
              · rw [ov_n y]; exact n2 j (by omega) hj2
            · rw [n3 j (by omega), upd_ne (by omega)]
    · have hq := fun z => q ((isA_c hu).mp z)
      refine Or.inl ⟨b, hb, fun c words numbers k hc12 hk => ⟨numbers, ?_⟩, fun nu k hk => ⟨upd nu i 0, ?_⟩⟩
      · obtain ⟨k, rfl⟩ : ∃ k', k = k' + 1 := ⟨k - 1, by omega⟩
        show m_X5_scanCommand_L21 _ _ _ _ _ (fuel _ k) _ = _
        simp (disch := omega) only [m_X5_scanCommand_L21, m_X5_scanCommand_J46, m_X5_scanSign, hn, h1, X5_isAt_n hl (show b < 1000 by omega) q, nI_clamp, nI_1, bsm, nmd, gd_ix, gd_t, gd_bi, gd_b0, gd_b1, ite_b, ite_p, if_true, if_false, ite_true, ite_false, i10, i00, or0, add0, g0, g1, g2, g3, g4, g5, g6, c0, c1, c2, c3, c4, c5, c6, Bool.false_eq_true, decide_eq_true_eq]
      · obtain ⟨k, rfl⟩ : ∃ k', k = k' + 1 := ⟨k - 1, by omega⟩
        show m_X8_readCommand_L7 _ _ _ (fuel _ k) _ = _
        simp (disch := omega) only [m_X8_readCommand_L7, hc, h1, X8_must_n hl (show b < 1000 by omega) hq, stop _ _ k (by omega), nI_clamp, nI_1, bsm, nmd, gd_ix, gd_t, gd_bi, gd_b0, gd_b1, ite_b, ite_p, if_true, if_false, ite_true, ite_false, i10, i00, or0, add0, g0, g1, g2, g3, g4, g5, g6, c0, c1, c2, c3, c4, c5, c6, Bool.false_eq_true, decide_eq_true_eq]
/-- a command that is right -/
def OKc (a u : Nat → Int32) (l b b' w : Nat) (v : Nat → Nat) : Prop := w < 6 ∧ b + 7 ≤ b' ∧ b' ≤ l ∧ (∀ k, v k ≤ 9999) ∧ (∀ (c : Nat) (words numbers : Nat → Int32), c < 12 → ∃ (numbers' : Nat → Int32), m_X5_scanCommand (nI c) (nI l) (nI b) a words numbers = some (1, nI b', upd words c (nI w), numbers') ∧ (∀ j, j < cn w → numbers' (c * 3 + j) = nI (v j)) ∧ ∀ j, j < c * 3 → numbers' j = numbers j) ∧ (∀ (nu : Nat → Int32), ∃ (nu' : Nat → Int32), m_X8_readCommand (nI l) (nI b) 0 u nu = some (nI w, nI b', 0, nu') ∧ ∀ j, j < cn w → nu' j = nI (v j))
/-- one that is not -/
def ERc (a u : Nat → Int32) (l b e : Nat) : Prop := e ≤ l ∧ (∀ (c : Nat) (words numbers : Nat → Int32), c < 12 → ∃ (words' numbers' : Nat → Int32), m_X5_scanCommand (nI c) (nI l) (nI b) a words numbers = some (0, nI e, words', numbers')) ∧ (∀ (nu : Nat → Int32), ∃ (nu' : Nat → Int32), m_X8_readCommand (nI l) (nI b) 0 u nu = some (-1, nI e, 1, nu'))
theorem cmd_or {a u : Nat → Int32} {l b : Nat} (hp : PT a l) (hu : ∀ i, i < l → u i = a i) (hl : l ≤ 80) (hb : b ≤ l) : (∃ (e : Nat), ERc a u l b e) ∨ ∃ (b' w : Nat) (v : Nat → Nat), OKc a u l b b' w v := by
  obtain ⟨m, hm⟩ : ∃ m : Nat → Nat, ∀ w, MT a l b w (m w) := ⟨fun w => Classical.choose (count_ex (fun k => isA a l (b + k) (cw w k)) (lenS.getD w 0)), fun w => Classical.choose_spec (count_ex (fun k => isA a l (b + k) (cw w k)) (lenS.getD w 0))⟩
  have hM : ∀ w, w < 6 → MT a l b w (m w) := fun w _ => hm w
  have hU : ∀ w, w < 6 → MT u l b w (m w) := fun w _ => (hm w).c hu
  have hend : ∀ w, w < 6 → b + m w ≤ l := fun w _ => by
    by_cases z : m w = 0
    · omega
    · have := ((hm w).2.1 (m w - 1) (by omega)).1
      omega
  by_cases q : ∃ w, w < 6 ∧ m w = lenS.getD w 0
  · obtain ⟨w, hw, hf⟩ := q
    have hlw := lw_le w hw
    have hno : ∀ v, v < w → m v ≠ lenS.getD v 0 := fun v hv z => by
      have h1 := (hm v).uni (hm w) (by omega) hw (by omega) hf
      have h2 := lw_le v (by omega)
      omega
    have hs := X5_scanWord_y hM hl (by omega) hw hf hno
    have hr := X8_readWord_y hU hl (by omega) hw hf
    have hne : (nI w = (-1 : Int32)) = False := eq_false fun y => m1_ne (n := w) (by omega) y
    have hc7 := cn_le w hw
    rcases nums_or hp hu hl hw (cn w) 0 (b + m w) (by omega) (hend w hw) with ⟨e, he, hA, hB⟩ | ⟨b', v, hb', hbl, hv, hA, hB⟩
    · refine Or.inl ⟨e, he, fun c words numbers hc12 => ?_, fun nu => ?_⟩
      · obtain ⟨nn, n1⟩ := hA c words numbers FU hc12 (show cn w < 1000 by omega)
        refine ⟨upd words c (nI w), nn, ?_⟩
        unfold m_X5_scanCommand
        rw [hs, bsm]
        simp (disch := omega) only [hne, nI_clamp, nI_1, bsm, nmd, gd_ix, gd_t, gd_bi, gd_b0, gd_b1, ite_b, ite_p, if_true, if_false, ite_true, ite_false, i10, i00, or0, add0, g0, g1, g2, g3, g4, g5, g6, c0, c1, c2, c3, c4, c5, c6, Bool.false_eq_true, decide_eq_true_eq]
        exact n1
      · obtain ⟨nn, n1⟩ := hB nu FU (show cn w < 1000 by omega)
        refine ⟨nn, ?_⟩
        unfold m_X8_readCommand
        rw [hr, bsm]
        exact n1
    · refine Or.inr ⟨b', w, v, hw, by omega, hbl, hv, fun c words numbers hc12 => ?_, fun nu => ?_⟩
      · obtain ⟨nn, n1, n2, n3⟩ := hA c words numbers FU hc12 (show cn w < 1000 by omega)
        refine ⟨nn, ?_, fun j hj => n2 j (by omega) hj, fun j hj => n3 j (by omega)⟩
        unfold m_X5_scanCommand
        rw [hs, bsm]
        simp (disch := omega) only [hne, nI_clamp, nI_1, bsm, nmd, gd_ix, gd_t, gd_bi, gd_b0, gd_b1, ite_b, ite_p, if_true, if_false, ite_true, ite_false, i10, i00, or0, add0, g0, g1, g2, g3, g4, g5, g6, c0, c1, c2, c3, c4, c5, c6, Bool.false_eq_true, decide_eq_true_eq]
        exact n1
      · obtain ⟨nn, n1, n2, n3⟩ := hB nu FU (show cn w < 1000 by omega)
        refine ⟨nn, ?_, fun j hj => n2 j (by omega) hj⟩
        unfold m_X8_readCommand
        rw [hr, bsm]
        exact n1
  · have hno : ∀ w, w < 6 → m w ≠ lenS.getD w 0 := fun w hw z => q ⟨w, hw, z⟩
    have hs := X5_scanWord_n hM hl (by omega) hno
    have hr := X8_readWord_n hU hl (by omega) hno
    have he : b + mx m 6 ≤ l := by
      rcases mx_ex (m := m) (i := 6) with z | ⟨k, hk, z⟩
      · omega
      · rw [z]; exact hend k hk
    refine Or.inl ⟨b + mx m 6, he, fun c words numbers hc12 => ⟨words, numbers, ?_⟩, fun nu => ⟨nu, ?_⟩⟩
    · unfold m_X5_scanCommand
      rw [hs, bsm]
      exact if_pos rfl
    · unfold m_X8_readCommand
      rw [hr, bsm]
      show m_X8_readCommand_L7 _ _ _ (fuel _ 999) _ = _
      have e2 : m_X8_countNumbers (-1) = some 2 := by decide
      have e3 : ((2 : Int32) ≤ 0) = False := by decide
      simp (disch := omega) only [m_X8_readCommand_L7, m_X8_readCommand_J55, m_X8_readCommand_J68, e2, e3, nI_clamp, nI_1, bsm, nmd, gd_ix, gd_t, gd_bi, gd_b0, gd_b1, ite_b, ite_p, if_true, if_false, ite_true, ite_false, i10, i00, or0, add0, g0, g1, g2, g3, g4, g5, g6, c0, c1, c2, c3, c4, c5, c6, Bool.false_eq_true, decide_eq_true_eq]
