/-! The text: one command, read on both sides. -/
def isA (a : Nat → Int32) (l p : Nat) (s : Int32) : Prop := p < l ∧ a p = s
def cw (w k : Nat) : Int32 := sch ((bytS.getD w []).getD k 0)
theorem eq_lt {x s : Int32} : x = s ↔ ¬ x < s ∧ ¬ s < x := ⟨fun h => by rw [h]; exact ⟨Int32.lt_irrefl, Int32.lt_irrefl⟩, fun h => Int32.le_antisymm (Int32.not_lt.mp h.2) (Int32.not_lt.mp h.1)⟩
theorem X5_isAt_y {a : Nat → Int32} {l p : Nat} {s : Int32} (hl : l ≤ 80) (h : isA a l p s) : m_X5_isAt (nI p) s (nI l) a = some 1 := by
  have h1 := h.1
  unfold m_X5_isAt
  rw [if_neg (nI_pos (by omega)), if_neg (nI_ge h1 (by omega)), if_neg (show ¬ (80 : Int32) ≤ nI p from nI_ge (b := 80) (by omega) (by omega)), gd_ix (by omega) (by omega), nI_clamp (by omega), if_pos h.2]
theorem X5_isAt_n {a : Nat → Int32} {l p : Nat} {s : Int32} (hl : l ≤ 80) (hp : p < 1000) (h : ¬ isA a l p s) : m_X5_isAt (nI p) s (nI l) a = some 0 := by
  unfold m_X5_isAt
  rw [if_neg (nI_pos (by omega))]
  by_cases h1 : p < l
  · rw [if_neg (nI_ge h1 (by omega)), if_neg (show ¬ (80 : Int32) ≤ nI p from nI_ge (b := 80) (by omega) (by omega)), gd_ix (by omega) (by omega), nI_clamp (by omega), if_neg (fun q => h ⟨h1, q⟩)]
  · rw [if_pos (nI_le (Nat.not_lt.mp h1) (by omega))]
theorem X8_sees_y {a : Nat → Int32} {l p : Nat} {lo hi : Int32} (hl : l ≤ 80) (h : p < l ∧ ¬ a p < lo ∧ ¬ hi < a p) : m_X8_sees lo hi (nI l) (nI p) 0 a = some 1 := by
  have h1 := h.1
  unfold m_X8_sees
  rw [if_pos rfl, if_neg (nI_ge h1 (by omega)), gd_ix (by omega) (by omega), nI_clamp (by omega), isB_y h.2.1 h.2.2, bsm, if_neg (by decide)]
theorem X8_sees_n {a : Nat → Int32} {l p : Nat} {lo hi : Int32} (hl : l ≤ 80) (hp : p < 1000) (h : ¬ (p < l ∧ ¬ a p < lo ∧ ¬ hi < a p)) : m_X8_sees lo hi (nI l) (nI p) 0 a = some 0 := by
  unfold m_X8_sees
  rw [if_pos rfl]
  by_cases h1 : p < l
  · have h2 : a p < lo ∨ hi < a p := by
      by_cases q : a p < lo
      · exact Or.inl q
      · exact Or.inr (Decidable.not_not.mp fun w => h ⟨h1, q, w⟩)
    rw [if_neg (nI_ge h1 (by omega)), gd_ix (by omega) (by omega), nI_clamp (by omega), isB_n h2, bsm, if_pos rfl]
  · rw [if_pos (nI_le (Nat.not_lt.mp h1) (by omega))]
theorem isA_s {a : Nat → Int32} {l p : Nat} {s : Int32} : isA a l p s ↔ p < l ∧ ¬ a p < s ∧ ¬ s < a p := by
  unfold isA
  rw [eq_lt]
theorem X8_must_y {a : Nat → Int32} {l p : Nat} {s : Int32} (hl : l ≤ 80) (h : isA a l p s) : m_X8_must s (nI l) (nI p) 0 a = some (nI (p + 1), 0) := by
  unfold m_X8_must
  rw [X8_sees_y hl (isA_s.mp h), bsm, if_neg (by decide)]
  show gd (isb ((0 : Int32) ||| 0)) _ = _
  simp only [m_X8_must_J19, or0, gd_b0, if_true, nI_1]
theorem X8_must_n {a : Nat → Int32} {l p : Nat} {s : Int32} (hl : l ≤ 80) (hp : p < 1000) (h : ¬ isA a l p s) : m_X8_must s (nI l) (nI p) 0 a = some (nI p, 1) := by
  unfold m_X8_must
  rw [X8_sees_n hl hp (fun q => h (isA_s.mpr q)), bsm, if_pos rfl]
  have e : ((0 : Int32) ||| 1) = 1 := by decide
  simp only [m_X8_must_J19, e, gd_b1, i10, if_false, add0]
/-! Words. -/
theorem lw_le : ∀ w, w < 6 → 3 ≤ lenS.getD w 0 ∧ lenS.getD w 0 ≤ 5 := by decide
theorem let_e : ∀ w, w < 6 → m_X5_lettering (nI w) = some w := by decide +kernel
theorem word_e : ∀ w, w < 6 → m_X8_word (nI w) = some w := by decide +kernel
theorem cw_uni : ∀ v, v < 6 → ∀ w, w < 6 → cw v 0 = cw w 0 → cw v 1 = cw w 1 → v = w := by decide +kernel
theorem count_ex (p : Nat → Prop) (n : Nat) : ∃ m, m ≤ n ∧ (∀ k, k < m → p k) ∧ (m < n → ¬ p m) := by
  induction n with
  | zero => exact ⟨0, by omega, fun k hk => absurd hk (by omega), fun h => absurd h (by omega)⟩
  | succ n ih =>
    obtain ⟨m, m1, m2, m3⟩ := ih
    by_cases h : m < n
    · exact ⟨m, by omega, m2, fun _ => m3 h⟩
    · have e : m = n := by omega
      subst e
      by_cases q : p m
      · refine ⟨m + 1, by omega, fun k hk => ?_, fun h => absurd h (by omega)⟩
        by_cases e : k = m
        · rw [e]; exact q
        · exact m2 k (by omega)
      · exact ⟨m, by omega, m2, fun _ => q⟩
def MT (a : Nat → Int32) (l b w m : Nat) : Prop := m ≤ lenS.getD w 0 ∧ (∀ k, k < m → isA a l (b + k) (cw w k)) ∧ (m < lenS.getD w 0 → ¬ isA a l (b + m) (cw w m))
theorem isA_c {a u : Nat → Int32} {l p : Nat} {s : Int32} (h : ∀ i, i < l → u i = a i) : isA u l p s ↔ isA a l p s := by
  unfold isA
  constructor
  · rintro ⟨h1, h2⟩; exact ⟨h1, (h p h1).symm.trans h2⟩
  · rintro ⟨h1, h2⟩; exact ⟨h1, (h p h1).trans h2⟩
theorem MT.c {a u : Nat → Int32} {l b w m : Nat} (h : MT a l b w m) (e : ∀ i, i < l → u i = a i) : MT u l b w m := ⟨h.1, fun k hk => (isA_c e).mpr (h.2.1 k hk), fun q z => h.2.2 q ((isA_c e).mp z)⟩
theorem MT.uni {a : Nat → Int32} {l b v w mv mw : Nat} (h : MT a l b v mv) (h2 : MT a l b w mw) (hv : v < 6) (hw : w < 6) (hne : v ≠ w) (hf : mw = lenS.getD w 0) : mv ≤ 1 := by
  refine Nat.not_lt.mp fun q => hne (cw_uni v hv w hw ?_ ?_)
  · exact (h.2.1 0 (by omega)).2.symm.trans (h2.2.1 0 (by have := lw_le w hw; omega)).2
  · exact (h.2.1 1 (by omega)).2.symm.trans (h2.2.1 1 (by have := lw_le w hw; omega)).2
theorem X5_lettersOf {a : Nat → Int32} {l b w m : Nat} (h : MT a l b w m) (hw : w < 6) (hl : l ≤ 80) (hb : b ≤ 80) : m_X5_lettersOf w (nI l) (nI b) a = some (nI m) := by
  have hlw := lw_le w hw
  have hm := h.1
  have hd : decide (w < 6) = true := decide_eq_true hw
  unfold m_X5_lettersOf
  refine loop_run (c := m) (fun i => nI i) (by omega) (fun rec i hi => ?_) (fun rec => ?_)
  · have hz := X5_isAt_y hl (h.2.1 i hi)
    have h1 : (nI (lenS.getD w 0) ≤ nI i) = False := eq_false (nI_ge (by omega) (by omega))
    unfold cw at hz
    simp (disch := omega) only [m_X5_lettersOf_L2, hd, h1, nI_add, hz, nI_clamp, nI_1, bsm, nmd, gd_ix, gd_t, gd_bi, gd_b0, gd_b1, ite_b, ite_p, if_true, if_false, ite_true, ite_false, i10, i00, or0, add0, g0, g1, g2, g3, g4, g5, g6, c0, c1, c2, c3, c4, c5, c6, Bool.false_eq_true, decide_eq_true_eq]
  · by_cases e : m < lenS.getD w 0
    · have hz := X5_isAt_n hl (p := b + m) (by omega) (h.2.2 e)
      have h1 : (nI (lenS.getD w 0) ≤ nI m) = False := eq_false (nI_ge (by omega) (by omega))
      unfold cw at hz
      simp (disch := omega) only [m_X5_lettersOf_L2, hd, h1, nI_add, hz, nI_clamp, nI_1, bsm, nmd, gd_ix, gd_t, gd_bi, gd_b0, gd_b1, ite_b, ite_p, if_true, if_false, ite_true, ite_false, i10, i00, or0, add0, g0, g1, g2, g3, g4, g5, g6, c0, c1, c2, c3, c4, c5, c6, Bool.false_eq_true, decide_eq_true_eq]
    · have h1 : (nI (lenS.getD w 0) ≤ nI m) = True := eq_true (nI_le (by omega) (by omega))
      have e2 : lenS.getD w 0 = m := by omega
      simp (disch := omega) only [m_X5_lettersOf_L2, m_X5_lettersOf_J36, hd, h1, nI_clamp, nI_1, bsm, nmd, gd_ix, gd_t, gd_bi, gd_b0, gd_b1, ite_b, ite_p, if_true, if_false, ite_true, ite_false, i10, i00, or0, add0, g0, g1, g2, g3, g4, g5, g6, c0, c1, c2, c3, c4, c5, c6, Bool.false_eq_true, decide_eq_true_eq]
      rw [e2]
/-- the furthest that a word goes -/
def mx (m : Nat → Nat) : Nat → Nat
  | 0 => 0
  | i + 1 => if mx m i < m i then m i else mx m i
theorem mx_le {m : Nat → Nat} {c : Nat} {i : Nat} (h : ∀ k, k < i → m k ≤ c) : mx m i ≤ c := by
  induction i with
  | zero => exact Nat.zero_le c
  | succ i ih =>
    have h1 := ih fun k hk => h k (by omega)
    show (if mx m i < m i then m i else mx m i) ≤ c
    by_cases q : mx m i < m i
    · rw [if_pos q]; exact h i (by omega)
    · rw [if_neg q]; exact h1
theorem mx_ge {m : Nat → Nat} {i k : Nat} (h : k < i) : m k ≤ mx m i := by
  induction i with
  | zero => exact absurd h (by omega)
  | succ i ih =>
    show m k ≤ (if mx m i < m i then m i else mx m i)
    by_cases e : k = i
    · subst e
      by_cases q : mx m k < m k
      · rw [if_pos q]; exact Nat.le_refl _
      · rw [if_neg q]; omega
    · have := ih (by omega)
      by_cases q : mx m i < m i
      · rw [if_pos q]; omega
      · rw [if_neg q]; exact this
theorem mx_ex {m : Nat → Nat} {i : Nat} : mx m i = 0 ∨ ∃ k, k < i ∧ mx m i = m k := by
  induction i with
  | zero => exact Or.inl rfl
  | succ i ih =>
    show (if mx m i < m i then m i else mx m i) = 0 ∨ ∃ k, k < i + 1 ∧ (if mx m i < m i then m i else mx m i) = m k
    by_cases q : mx m i < m i
    · rw [if_pos q]; exact Or.inr ⟨i, by omega, rfl⟩
    · rw [if_neg q]; exact ih.imp id fun ⟨k, h1, h2⟩ => ⟨k, by omega, h2⟩
theorem mx_s {m : Nat → Nat} {i : Nat} (h : ∀ k, k < i + 1 → m k ≤ 5) : (if nI (mx m i) < nI (m i) then nI (m i) else nI (mx m i)) = nI (mx m (i + 1)) := by
  have h1 := mx_le (i := i) fun k hk => h k (by omega)
  have h2 := h i (by omega)
  show _ = nI (if mx m i < m i then m i else mx m i)
  by_cases q : mx m i < m i
  · rw [if_pos q, if_pos (nI_lt q (by omega))]
  · rw [if_neg q, if_neg (nI_nlt (by omega) (by omega))]
theorem X5_scanWord_n {a : Nat → Int32} {l b : Nat} {m : Nat → Nat} (h : ∀ w, w < 6 → MT a l b w (m w)) (hl : l ≤ 80) (hb : b ≤ 80) (hno : ∀ w, w < 6 → m w ≠ lenS.getD w 0) : m_X5_scanWord (nI l) (nI b) a = some (-1, nI (b + mx m 6)) := by
  unfold m_X5_scanWord
  refine loop_run (c := 6) (fun i => (nI (mx m i), nI i)) (by omega) (fun rec i hi => ?_) (fun rec => ?_)
  · have hlw := lw_le i hi
    have hm := (h i hi).1
    have h1 : ((6 : Int32) ≤ nI i) = False := lit_ge (b := 6) rfl hi (by omega)
    have h2 : (nI (m i) = nI (lenS.getD i 0)) = False := eq_false fun q => hno i hi ((nI_eq (by omega) (by omega)).mp q)
    have hd : decide (i < 6) = true := decide_eq_true hi
    have hx := mx_s (m := m) (i := i) fun k hk => Nat.le_trans (h k (by omega)).1 (lw_le k (by omega)).2
    simp (disch := omega) only [m_X5_scanWord_L4, h1, let_e i hi, X5_lettersOf (h i hi) hi hl hb, h2, hd, hx, nI_clamp, nI_1, bsm, nmd, gd_ix, gd_t, gd_bi, gd_b0, gd_b1, ite_b, ite_p, if_true, if_false, ite_true, ite_false, i10, i00, or0, add0, g0, g1, g2, g3, g4, g5, g6, c0, c1, c2, c3, c4, c5, c6, Bool.false_eq_true, decide_eq_true_eq]
  · have h1 : ((6 : Int32) ≤ nI 6) = True := by decide
    simp (disch := omega) only [m_X5_scanWord_L4, h1, nI_add, nI_clamp, nI_1, bsm, nmd, gd_ix, gd_t, gd_bi, gd_b0, gd_b1, ite_b, ite_p, if_true, if_false, ite_true, ite_false, i10, i00, or0, add0, g0, g1, g2, g3, g4, g5, g6, c0, c1, c2, c3, c4, c5, c6, Bool.false_eq_true, decide_eq_true_eq]
theorem X5_scanWord_y {a : Nat → Int32} {l b w : Nat} {m : Nat → Nat} (h : ∀ w, w < 6 → MT a l b w (m w)) (hl : l ≤ 80) (hb : b ≤ 80) (hw : w < 6) (hf : m w = lenS.getD w 0) (hno : ∀ v, v < w → m v ≠ lenS.getD v 0) : m_X5_scanWord (nI l) (nI b) a = some (nI w, nI (b + m w)) := by
  unfold m_X5_scanWord
  refine loop_run (c := w) (fun i => (nI (mx m i), nI i)) (by omega) (fun rec i hi => ?_) (fun rec => ?_)
  · have hi6 : i < 6 := by omega
    have hlw := lw_le i hi6
    have hm := (h i hi6).1
    have h1 : ((6 : Int32) ≤ nI i) = False := lit_ge (b := 6) rfl hi6 (by omega)
    have h2 : (nI (m i) = nI (lenS.getD i 0)) = False := eq_false fun q => hno i hi ((nI_eq (by omega) (by omega)).mp q)
    have hd : decide (i < 6) = true := decide_eq_true hi6
    have hx := mx_s (m := m) (i := i) fun k hk => Nat.le_trans (h k (by omega)).1 (lw_le k (by omega)).2
    simp (disch := omega) only [m_X5_scanWord_L4, h1, let_e i hi6, X5_lettersOf (h i hi6) hi6 hl hb, h2, hd, hx, nI_clamp, nI_1, bsm, nmd, gd_ix, gd_t, gd_bi, gd_b0, gd_b1, ite_b, ite_p, if_true, if_false, ite_true, ite_false, i10, i00, or0, add0, g0, g1, g2, g3, g4, g5, g6, c0, c1, c2, c3, c4, c5, c6, Bool.false_eq_true, decide_eq_true_eq]
  · have h1 : ((6 : Int32) ≤ nI w) = False := lit_ge (b := 6) rfl hw (by omega)
    have h2 : (nI (m w) = nI (lenS.getD w 0)) = True := eq_true (by rw [hf])
    have hd : decide (w < 6) = true := decide_eq_true hw
    simp (disch := omega) only [m_X5_scanWord_L4, h1, let_e w hw, X5_lettersOf (h w hw) hw hl hb, h2, hd, nI_add, nI_clamp, nI_1, bsm, nmd, gd_ix, gd_t, gd_bi, gd_b0, gd_b1, ite_b, ite_p, if_true, if_false, ite_true, ite_false, i10, i00, or0, add0, g0, g1, g2, g3, g4, g5, g6, c0, c1, c2, c3, c4, c5, c6, Bool.false_eq_true, decide_eq_true_eq]
/-! Words, letter by letter. -/
theorem X8_isPrefix {a : Nat → Int32} {l b w m j : Nat} (h : MT a l b w m) (hw : w < 6) (hl : l ≤ 80) (hb : b ≤ 80) (hj : j ≤ 10) : m_X8_isPrefix (nI b) w (nI l) (nI (b + j)) a = some (if j < m then 1 else 0) := by
  have hlw := lw_le w hw
  have hm := h.1
  have hd : decide (w < 6) = true := decide_eq_true hw
  have hs : ∀ i, nI (b + i) - nI b = nI i := fun i => by rw [pk_sub (by omega), Nat.add_sub_cancel_left]
  unfold m_X8_isPrefix
  rw [hd, gd_t, nmd, hs]
  by_cases q : lenS.getD w 0 ≤ j
  · rw [if_pos (nI_le q (by omega)), if_neg (show ¬ j < m by omega)]
    unfold m_X8_isPrefix_J18
    refine loop_run (c := 0) (fun _ => ((0 : Int32), nI b)) (by omega) (fun rec i hi => absurd hi (by omega)) (fun rec => ?_)
    simp only [m_X8_isPrefix_L22, nI_clamp, nI_1, bsm, nmd, gd_ix, gd_t, gd_bi, gd_b0, gd_b1, ite_b, ite_p, if_true, if_false, ite_true, ite_false, i10, i00, or0, add0, g0, g1, g2, g3, g4, g5, g6, c0, c1, c2, c3, c4, c5, c6, Bool.false_eq_true, decide_eq_true_eq]
  · rw [if_neg (nI_ge (by omega) (by omega))]
    unfold m_X8_isPrefix_J18
    by_cases hjm : j < m
    · rw [if_pos hjm]
      refine loop_run (c := j + 1) (fun i => ((1 : Int32), nI (b + i))) (by omega) (fun rec i hi => ?_) (fun rec => ?_)
      · obtain ⟨z1, z2⟩ := h.2.1 i (by omega)
        have t1 : (nI (b + j) < nI (b + i)) = False := eq_false (nI_nlt (by omega) (by omega))
        have t2 : (nI l ≤ nI (b + i)) = False := eq_false (nI_ge z1 (by omega))
        unfold cw at z2
        simp (disch := omega) only [m_X8_isPrefix_L22, t1, t2, hs, hd, z2, nI_clamp, nI_1, bsm, nmd, gd_ix, gd_t, gd_bi, gd_b0, gd_b1, ite_b, ite_p, if_true, if_false, ite_true, ite_false, i10, i00, or0, add0, g0, g1, g2, g3, g4, g5, g6, c0, c1, c2, c3, c4, c5, c6, Bool.false_eq_true, decide_eq_true_eq]
        rfl
      · have t1 : (nI (b + j) < nI (b + (j + 1))) = True := eq_true (nI_lt (by omega) (by omega))
        simp (disch := omega) only [m_X8_isPrefix_L22, t1, nI_clamp, nI_1, bsm, nmd, gd_ix, gd_t, gd_bi, gd_b0, gd_b1, ite_b, ite_p, if_true, if_false, ite_true, ite_false, i10, i00, or0, add0, g0, g1, g2, g3, g4, g5, g6, c0, c1, c2, c3, c4, c5, c6, Bool.false_eq_true, decide_eq_true_eq]
    · rw [if_neg hjm]
      have hml : m < lenS.getD w 0 := by omega
      have hno := h.2.2 hml
      have e0 : ((1 : Int32), nI b) = (if 0 ≤ m then (1 : Int32) else 0, nI (b + 0)) := by rw [if_pos (Nat.zero_le m)]; rfl
      rw [e0]
      refine loop_run (c := m + 1) (fun i => (if i ≤ m then (1 : Int32) else 0, nI (b + i))) (by omega) (fun rec i hi => ?_) (fun rec => ?_)
      · have t1 : (nI (b + j) < nI (b + i)) = False := eq_false (nI_nlt (by omega) (by omega))
        have t0 : (if i ≤ m then (1 : Int32) else 0) = 1 := if_pos (by omega)
        by_cases him : i < m
        · obtain ⟨z1, z2⟩ := h.2.1 i him
          have t2 : (nI l ≤ nI (b + i)) = False := eq_false (nI_ge z1 (by omega))
          have t3 : (if i + 1 ≤ m then (1 : Int32) else 0) = 1 := if_pos (by omega)
          unfold cw at z2
          simp (disch := omega) only [m_X8_isPrefix_L22, t0, t1, t2, t3, hs, hd, z2, nI_clamp, nI_1, bsm, nmd, gd_ix, gd_t, gd_bi, gd_b0, gd_b1, ite_b, ite_p, if_true, if_false, ite_true, ite_false, i10, i00, or0, add0, g0, g1, g2, g3, g4, g5, g6, c0, c1, c2, c3, c4, c5, c6, Bool.false_eq_true, decide_eq_true_eq]
          rfl
        · have e : i = m := by omega
          subst e
          have t3 : (if i + 1 ≤ i then (1 : Int32) else 0) = 0 := if_neg (by omega)
          by_cases z1 : b + i < l
          · have z2 : (a (b + i) = cw w i) = False := eq_false fun z => hno ⟨z1, z⟩
            have t2 : (nI l ≤ nI (b + i)) = False := eq_false (nI_ge z1 (by omega))
            unfold cw at z2
            simp (disch := omega) only [m_X8_isPrefix_L22, t0, t1, t2, t3, hs, hd, z2, nI_clamp, nI_1, bsm, nmd, gd_ix, gd_t, gd_bi, gd_b0, gd_b1, ite_b, ite_p, if_true, if_false, ite_true, ite_false, i10, i00, or0, add0, g0, g1, g2, g3, g4, g5, g6, c0, c1, c2, c3, c4, c5, c6, Bool.false_eq_true, decide_eq_true_eq]
            rfl
          · have t2 : (nI l ≤ nI (b + i)) = True := eq_true (nI_le (by omega) (by omega))
            simp (disch := omega) only [m_X8_isPrefix_L22, t0, t1, t2, t3, nI_clamp, nI_1, bsm, nmd, gd_ix, gd_t, gd_bi, gd_b0, gd_b1, ite_b, ite_p, if_true, if_false, ite_true, ite_false, i10, i00, or0, add0, g0, g1, g2, g3, g4, g5, g6, c0, c1, c2, c3, c4, c5, c6, Bool.false_eq_true, decide_eq_true_eq]
            rfl
      · have t0 : (if m + 1 ≤ m then (1 : Int32) else 0) = 0 := if_neg (by omega)
        simp (disch := omega) only [m_X8_isPrefix_L22, t0, nI_clamp, nI_1, bsm, nmd, gd_ix, gd_t, gd_bi, gd_b0, gd_b1, ite_b, ite_p, if_true, if_false, ite_true, ite_false, i10, i00, or0, add0, g0, g1, g2, g3, g4, g5, g6, c0, c1, c2, c3, c4, c5, c6, Bool.false_eq_true, decide_eq_true_eq]
def fo (m : Nat → Nat) (j : Nat) : Nat → Int32
  | 0 => -1
  | i + 1 => if j < m i ∧ j + 1 = lenS.getD i 0 then nI i else fo m j i
def go (m : Nat → Nat) (j : Nat) : Nat → Int32
  | 0 => 0
  | i + 1 => go m j i ||| (if j < m i then 1 else 0)
theorem fo_n {m : Nat → Nat} {j i : Nat} (h : ∀ v, v < i → ¬ (j < m v ∧ j + 1 = lenS.getD v 0)) : fo m j i = -1 := by
  induction i with
  | zero => rfl
  | succ i ih =>
    show (if j < m i ∧ j + 1 = lenS.getD i 0 then nI i else fo m j i) = -1
    rw [if_neg (h i (by omega))]
    exact ih fun v hv => h v (by omega)
theorem fo_y {m : Nat → Nat} {j i w : Nat} (hw : w < i) (h : j < m w ∧ j + 1 = lenS.getD w 0) (hu : ∀ v, v < i → v ≠ w → ¬ (j < m v ∧ j + 1 = lenS.getD v 0)) : fo m j i = nI w := by
  induction i with
  | zero => exact absurd hw (by omega)
  | succ i ih =>
    show (if j < m i ∧ j + 1 = lenS.getD i 0 then nI i else fo m j i) = nI w
    by_cases e : i = w
    · rw [e, if_pos h]
    · rw [if_neg (hu i (by omega) e)]
      exact ih (by omega) fun v hv => hu v (by omega)
theorem go_e {m : Nat → Nat} {j i : Nat} : go m j i = if j < mx m i then 1 else 0 := by
  induction i with
  | zero => rfl
  | succ i ih =>
    show go m j i ||| (if j < m i then 1 else 0) = if j < (if mx m i < m i then m i else mx m i) then 1 else 0
    rw [ih]
    by_cases q1 : j < mx m i
    · rw [if_pos q1]
      by_cases q2 : mx m i < m i
      · rw [if_pos q2, if_pos (show j < m i by omega)]; rfl
      · rw [if_neg q2, if_pos q1]
        by_cases q3 : j < m i
        · rw [if_pos q3]; rfl
        · rw [if_neg q3]; rfl
    · rw [if_neg q1]
      by_cases q3 : j < m i
      · rw [if_pos q3, if_pos (show mx m i < m i by omega), if_pos q3]; rfl
      · rw [if_neg q3]
        by_cases q2 : mx m i < m i
        · rw [if_pos q2, if_neg q3]; rfl
        · rw [if_neg q2, if_neg q1]; rfl
theorem rw_in {a : Nat → Int32} {l b j : Nat} {m : Nat → Nat} (h : ∀ w, w < 6 → MT a l b w (m w)) (hl : l ≤ 80) (hb : b ≤ 80) (hj : j ≤ 10) (rec8 : Int32 × Int32 × Int32 → Option (Int32 × Int32 × Int32)) : fuel (m_X8_readWord_L23 a (nI l) (nI b) (nI (b + j)) rec8) FU ((-1 : Int32), (0 : Int32), (0 : Int32)) = m_X8_readWord_J84 (nI (b + j)) rec8 (fo m j 6, go m j 6) := by
  refine loop_run (F := m_X8_readWord_L23 a (nI l) (nI b) (nI (b + j)) rec8) (c := 6) (fun i => (fo m j i, go m j i, nI i)) (by omega) (fun rec i hi => ?_) (fun rec => ?_)
  · have h1 : ((6 : Int32) ≤ nI i) = False := lit_ge (b := 6) rfl hi (by omega)
    have hs : nI (b + j) - nI b = nI j := by rw [pk_sub (by omega), Nat.add_sub_cancel_left]
    have hd : decide (i < 6) = true := decide_eq_true hi
    have hlw := lw_le i hi
    have hg : go m j i ||| (if j < m i then 1 else 0) = go m j (i + 1) := rfl
    by_cases q : j < m i
    · have t0 : (if j < m i then (1 : Int32) else 0) = 1 := if_pos q
      rw [t0] at hg
      by_cases e : j + 1 = lenS.getD i 0
      · have h2 : (nI (j + 1) = nI (lenS.getD i 0)) = True := eq_true (by rw [e])
        have hf : fo m j (i + 1) = nI i := if_pos ⟨q, e⟩
        simp (disch := omega) only [m_X8_readWord_L23, h1, word_e i hi, X8_isPrefix (h i hi) hi hl hb hj, t0, hd, hs, h2, hg, hf, nI_clamp, nI_1, bsm, nmd, gd_ix, gd_t, gd_bi, gd_b0, gd_b1, ite_b, ite_p, if_true, if_false, ite_true, ite_false, i10, i00, or0, add0, g0, g1, g2, g3, g4, g5, g6, c0, c1, c2, c3, c4, c5, c6, Bool.false_eq_true, decide_eq_true_eq]
      · have h2 : (nI (j + 1) = nI (lenS.getD i 0)) = False := eq_false fun z => e ((nI_eq (by omega) (by omega)).mp z)
        have hf : fo m j (i + 1) = fo m j i := if_neg fun z => e z.2
        simp (disch := omega) only [m_X8_readWord_L23, h1, word_e i hi, X8_isPrefix (h i hi) hi hl hb hj, t0, hd, hs, h2, hg, hf, nI_clamp, nI_1, bsm, nmd, gd_ix, gd_t, gd_bi, gd_b0, gd_b1, ite_b, ite_p, if_true, if_false, ite_true, ite_false, i10, i00, or0, add0, g0, g1, g2, g3, g4, g5, g6, c0, c1, c2, c3, c4, c5, c6, Bool.false_eq_true, decide_eq_true_eq]
    · have t0 : (if j < m i then (1 : Int32) else 0) = 0 := if_neg q
      rw [t0] at hg
      have hf : fo m j (i + 1) = fo m j i := if_neg fun z => q z.1
      rw [or0] at hg
      simp (disch := omega) only [m_X8_readWord_L23, h1, word_e i hi, X8_isPrefix (h i hi) hi hl hb hj, t0, hf, hg, nI_clamp, nI_1, bsm, nmd, gd_ix, gd_t, gd_bi, gd_b0, gd_b1, ite_b, ite_p, if_true, if_false, ite_true, ite_false, i10, i00, or0, add0, g0, g1, g2, g3, g4, g5, g6, c0, c1, c2, c3, c4, c5, c6, Bool.false_eq_true, decide_eq_true_eq]
  · have h1 : ((6 : Int32) ≤ nI 6) = True := by decide
    simp (disch := omega) only [m_X8_readWord_L23, h1, nI_clamp, nI_1, bsm, nmd, gd_ix, gd_t, gd_bi, gd_b0, gd_b1, ite_b, ite_p, if_true, if_false, ite_true, ite_false, i10, i00, or0, add0, g0, g1, g2, g3, g4, g5, g6, c0, c1, c2, c3, c4, c5, c6, Bool.false_eq_true, decide_eq_true_eq]
theorem X8_readWord_n {a : Nat → Int32} {l b : Nat} {m : Nat → Nat} (h : ∀ w, w < 6 → MT a l b w (m w)) (hl : l ≤ 80) (hb : b ≤ 80) (hno : ∀ w, w < 6 → m w ≠ lenS.getD w 0) : m_X8_readWord (nI l) (nI b) 0 a = some (-1, nI (b + mx m 6), 1) := by
  have h5 : mx m 6 ≤ 5 := mx_le fun k hk => Nat.le_trans (h k hk).1 (lw_le k hk).2
  have hfo : ∀ j, fo m j 6 = -1 := fun j => fo_n fun v hv z => hno v hv (by have := (h v hv).1; omega)
  unfold m_X8_readWord
  have e0 : ((-1 : Int32), nI b, (0 : Int32)) = (if 0 ≤ mx m 6 then ((-1 : Int32), nI (b + 0), (0 : Int32)) else (-1, nI (b + mx m 6), 1)) := by rw [if_pos (Nat.zero_le _)]; rfl
  rw [e0]
  have tm : ((0 : Int32) ≤ -1) = False := by decide
  refine loop_run (c := mx m 6 + 1) (fun j => if j ≤ mx m 6 then ((-1 : Int32), nI (b + j), (0 : Int32)) else (-1, nI (b + mx m 6), 1)) (by omega) (fun rec j hj => ?_) (fun rec => ?_)
  · show m_X8_readWord_L7 _ _ _ rec (if j ≤ mx m 6 then ((-1 : Int32), nI (b + j), (0 : Int32)) else (-1, nI (b + mx m 6), 1)) = rec (if j + 1 ≤ mx m 6 then ((-1 : Int32), nI (b + (j + 1)), (0 : Int32)) else (-1, nI (b + mx m 6), 1))
    rw [if_pos (show j ≤ mx m 6 by omega)]
    have hr := rw_in h hl hb (j := j) (by omega) rec
    rw [hfo, go_e] at hr
    by_cases q : j < mx m 6
    · rw [if_pos q] at hr
      rw [if_pos (show j + 1 ≤ mx m 6 by omega)]
      simp (disch := omega) only [m_X8_readWord_L7, tm, hr, m_X8_readWord_J84, m_X8_readWord_J94, nI_clamp, nI_1, bsm, nmd, gd_ix, gd_t, gd_bi, gd_b0, gd_b1, ite_b, ite_p, if_true, if_false, ite_true, ite_false, i10, i00, or0, add0, g0, g1, g2, g3, g4, g5, g6, c0, c1, c2, c3, c4, c5, c6, Bool.false_eq_true, decide_eq_true_eq]
      rfl
    · rw [if_neg q] at hr
      rw [if_neg (show ¬ j + 1 ≤ mx m 6 by omega), show mx m 6 = j by omega]
      simp (disch := omega) only [m_X8_readWord_L7, tm, hr, m_X8_readWord_J84, m_X8_readWord_J94, nI_clamp, nI_1, bsm, nmd, gd_ix, gd_t, gd_bi, gd_b0, gd_b1, ite_b, ite_p, if_true, if_false, ite_true, ite_false, i10, i00, or0, add0, g0, g1, g2, g3, g4, g5, g6, c0, c1, c2, c3, c4, c5, c6, Bool.false_eq_true, decide_eq_true_eq]
  · show m_X8_readWord_L7 _ _ _ rec (if mx m 6 + 1 ≤ mx m 6 then ((-1 : Int32), nI (b + (mx m 6 + 1)), (0 : Int32)) else (-1, nI (b + mx m 6), 1)) = _
    rw [if_neg (by omega)]
    simp (disch := omega) only [m_X8_readWord_L7, m_X8_readWord_J118, nI_clamp, nI_1, bsm, nmd, gd_ix, gd_t, gd_bi, gd_b0, gd_b1, ite_b, ite_p, if_true, if_false, ite_true, ite_false, i10, i00, or0, add0, g0, g1, g2, g3, g4, g5, g6, c0, c1, c2, c3, c4, c5, c6, Bool.false_eq_true, decide_eq_true_eq]
theorem X8_readWord_y {a : Nat → Int32} {l b w : Nat} {m : Nat → Nat} (h : ∀ w, w < 6 → MT a l b w (m w)) (hl : l ≤ 80) (hb : b ≤ 80) (hw : w < 6) (hf : m w = lenS.getD w 0) : m_X8_readWord (nI l) (nI b) 0 a = some (nI w, nI (b + m w), 0) := by
  have hlw := lw_le w hw
  have hu : ∀ v, v < 6 → v ≠ w → m v ≤ 1 := fun v hv hne => (h v hv).uni (h w hw) hv hw hne hf
  have hge : m w ≤ mx m 6 := mx_ge hw
  have hfo : ∀ j, j + 1 < m w → fo m j 6 = -1 := fun j hj => fo_n fun v hv z => by
    by_cases e : v = w
    · subst e; omega
    · have := hu v hv e
      have := lw_le v hv
      omega
  have hfy : ∀ j, j + 1 = m w → fo m j 6 = nI w := fun j hj => fo_y hw ⟨by omega, by omega⟩ fun v hv hne z => by
    have := hu v hv hne
    have := lw_le v hv
    omega
  unfold m_X8_readWord
  have e0 : ((-1 : Int32), nI b, (0 : Int32)) = (if 0 < m w then (-1 : Int32) else nI w, nI (b + 0), (0 : Int32)) := by rw [if_pos (by omega)]; rfl
  rw [e0]
  have tm : ((0 : Int32) ≤ -1) = False := by decide
  refine loop_run (c := m w) (fun j => (if j < m w then (-1 : Int32) else nI w, nI (b + j), (0 : Int32))) (by omega) (fun rec j hj => ?_) (fun rec => ?_)
  · show m_X8_readWord_L7 _ _ _ rec (if j < m w then (-1 : Int32) else nI w, nI (b + j), (0 : Int32)) = rec (if j + 1 < m w then (-1 : Int32) else nI w, nI (b + (j + 1)), (0 : Int32))
    rw [if_pos hj]
    have hr := rw_in h hl hb (j := j) (by omega) rec
    rw [go_e, if_pos (show j < mx m 6 by omega)] at hr
    by_cases q : j + 1 < m w
    · rw [hfo j q] at hr
      rw [if_pos q]
      simp (disch := omega) only [m_X8_readWord_L7, tm, hr, m_X8_readWord_J84, m_X8_readWord_J94, nI_clamp, nI_1, bsm, nmd, gd_ix, gd_t, gd_bi, gd_b0, gd_b1, ite_b, ite_p, if_true, if_false, ite_true, ite_false, i10, i00, or0, add0, g0, g1, g2, g3, g4, g5, g6, c0, c1, c2, c3, c4, c5, c6, Bool.false_eq_true, decide_eq_true_eq]
      rfl
    · rw [hfy j (by omega)] at hr
      rw [if_neg q]
      simp (disch := omega) only [m_X8_readWord_L7, tm, hr, m_X8_readWord_J84, m_X8_readWord_J94, nI_clamp, nI_1, bsm, nmd, gd_ix, gd_t, gd_bi, gd_b0, gd_b1, ite_b, ite_p, if_true, if_false, ite_true, ite_false, i10, i00, or0, add0, g0, g1, g2, g3, g4, g5, g6, c0, c1, c2, c3, c4, c5, c6, Bool.false_eq_true, decide_eq_true_eq]
      rfl
  · show m_X8_readWord_L7 _ _ _ rec (if m w < m w then (-1 : Int32) else nI w, nI (b + m w), (0 : Int32)) = _
    rw [if_neg (by omega)]
    have t1 : ((0 : Int32) ≤ nI w) = True := eq_true (nI_pos' (by omega))
    simp (disch := omega) only [m_X8_readWord_L7, m_X8_readWord_J118, t1, nI_clamp, nI_1, bsm, nmd, gd_ix, gd_t, gd_bi, gd_b0, gd_b1, ite_b, ite_p, if_true, if_false, ite_true, ite_false, i10, i00, or0, add0, g0, g1, g2, g3, g4, g5, g6, c0, c1, c2, c3, c4, c5, c6, Bool.false_eq_true, decide_eq_true_eq]
