/-! The easements of merged parcels. -/
def mg (p q m x : Int32) : Int32 := if x = p ∨ x = q then m else x
/-- the first i follow -/
def mF (p q m : Int32) (el f : Nat → Int32) (i : Nat) : Nat → Int32 := fun k => if k < i ∧ el k = -1 then mg p q m (f k) else f k
def mE (p q m d : Int32) (eo es el : Nat → Int32) (i : Nat) : Nat → Int32 := fun k => if k < i ∧ el k = -1 ∧ mg p q m (eo k) = mg p q m (es k) then d else el k
theorem mF_0 (p q m : Int32) (el f : Nat → Int32) : mF p q m el f 0 = f := funext fun k => if_neg (by omega)
theorem mE_0 (p q m d : Int32) (eo es el : Nat → Int32) : mE p q m d eo es el 0 = el := funext fun k => if_neg (by omega)
theorem mF_i {p q m : Int32} {el f : Nat → Int32} {i k : Nat} (h : i ≤ k) : mF p q m el f i k = f k := if_neg (by omega)
theorem mE_i {p q m d : Int32} {eo es el : Nat → Int32} {i k : Nat} (h : i ≤ k) : mE p q m d eo es el i k = el k := if_neg (by omega)
theorem mF_t {p q m : Int32} {el f : Nat → Int32} {i : Nat} (h : el i = -1) : upd (mF p q m el f i) i (mg p q m (f i)) = mF p q m el f (i + 1) := funext fun k => by
  unfold mF
  by_cases e : k = i
  · rw [e, upd_same, if_pos ⟨by omega, h⟩]
  · rw [upd_ne e]
    by_cases w : k < i ∧ el k = -1
    · rw [if_pos w, if_pos ⟨by omega, w.2⟩]
    · rw [if_neg w, if_neg]
      rintro ⟨w1, w2⟩
      exact w ⟨by omega, w2⟩
theorem mF_n {p q m : Int32} {el f : Nat → Int32} {i : Nat} (h : ¬ el i = -1) : mF p q m el f (i + 1) = mF p q m el f i := funext fun k => by
  unfold mF
  by_cases w : k < i ∧ el k = -1
  · rw [if_pos w, if_pos ⟨by omega, w.2⟩]
  · rw [if_neg w, if_neg]
    rintro ⟨w1, w2⟩
    have : k ≠ i := fun e => h (e ▸ w2)
    exact w ⟨by omega, w2⟩
theorem mE_t {p q m d : Int32} {eo es el : Nat → Int32} {i : Nat} (h : el i = -1) (h2 : mg p q m (eo i) = mg p q m (es i)) : upd (mE p q m d eo es el i) i d = mE p q m d eo es el (i + 1) := funext fun k => by
  unfold mE
  by_cases e : k = i
  · rw [e, upd_same, if_pos ⟨by omega, h, h2⟩]
  · rw [upd_ne e]
    by_cases w : k < i ∧ el k = -1 ∧ mg p q m (eo k) = mg p q m (es k)
    · rw [if_pos w, if_pos ⟨by omega, w.2⟩]
    · rw [if_neg w, if_neg]
      rintro ⟨w1, w2⟩
      exact w ⟨by omega, w2⟩
theorem mE_n {p q m d : Int32} {eo es el : Nat → Int32} {i : Nat} (h : ¬ (el i = -1 ∧ mg p q m (eo i) = mg p q m (es i))) : mE p q m d eo es el (i + 1) = mE p q m d eo es el i := funext fun k => by
  unfold mE
  by_cases w : k < i ∧ el k = -1 ∧ mg p q m (eo k) = mg p q m (es k)
  · rw [if_pos w, if_pos ⟨by omega, w.2⟩]
  · rw [if_neg w, if_neg]
    rintro ⟨w1, w2⟩
    have : k ≠ i := fun e => h (e ▸ w2)
    exact w ⟨by omega, w2⟩
/-- a live one ahead that is the same -/
def bTw (ek eo es g : Nat → Int32) (k : Nat) : Nat → Bool := fun j => decide (g j = -1) && (decide (ek j = ek k) && (decide (eo j = eo k) && decide (es j = es k)))
theorem X1_twin {E k : Nat} (hk : k < E) (hE : E ≤ 30) (ek eo es g : Nat → Int32) : m_X1_hasTwinAhead (nI k) ek eo es g = some (match fnd (bTw ek eo es g k) k with | some _ => 1 | none => 0) := by
  unfold m_X1_hasTwinAhead
  refine (for_find (c := k) (bTw ek eo es g k) (fun i => nI i) (fun _ => some 1) (dflt := some 0) (by omega) (fun rec i hi hb => ?_) (fun rec i hi hb => ?_) (fun rec => ?_)).trans ?_
  · unfold bTw at hb
    by_cases h1 : g i = -1
    all_goals rcases (Decidable.em (ek i = ek k)).imp eq_true eq_false with h2 | h2
    all_goals rcases (Decidable.em (eo i = eo k)).imp eq_true eq_false with h3 | h3
    all_goals rcases (Decidable.em (es i = es k)).imp eq_true eq_false with h4 | h4
    all_goals first
      | (simp only [h1, h2, h3, h4, decide_true, Bool.and_self, Bool.true_eq_false] at hb; done)
      | simp (disch := omega) only [m_X1_hasTwinAhead_L2, lp_go, h1, h2, h3, h4, nI_clamp, nI_1, bsm, nmd, gd_ix, gd_t, gd_bi, gd_b0, gd_b1, ite_b, ite_p, if_true, if_false, ite_true, ite_false, i10, i00, or0, add0, g0, g1, g2, g3, g4, g5, g6, c0, c1, c2, c3, c4, c5, c6, Bool.false_eq_true, decide_eq_true_eq]
  · unfold bTw at hb
    rw [Bool.and_eq_true, Bool.and_eq_true, Bool.and_eq_true, decide_eq_true_iff, decide_eq_true_iff, decide_eq_true_iff, decide_eq_true_iff] at hb
    obtain ⟨h1, h2, h3, h4⟩ := hb
    simp (disch := omega) only [m_X1_hasTwinAhead_L2, lp_go, h1, eq_true h2, eq_true h3, eq_true h4, nI_clamp, nI_1, bsm, nmd, gd_ix, gd_t, gd_bi, gd_b0, gd_b1, ite_b, ite_p, if_true, if_false, ite_true, ite_false, i10, i00, or0, add0, g0, g1, g2, g3, g4, g5, g6, c0, c1, c2, c3, c4, c5, c6, Bool.false_eq_true, decide_eq_true_eq]
  · simp (disch := omega) only [m_X1_hasTwinAhead_L2, lp_end, Nat.le_refl]
  · cases fnd (bTw ek eo es g k) k <;> rfl
/-- one of the repeated ends -/
def sRe (ek eo es : Nat → Int32) (m d : Int32) : Nat → (Nat → Int32) → Nat → Int32 := fun k g => if g k = -1 ∧ (eo k = m ∨ es k = m) ∧ (fnd (bTw ek eo es g k) k).isSome = true then upd g k d else g
theorem X1_endRepeated {E : Nat} (hE : E ≤ 30) (m d : Int32) (ek eo es el : Nat → Int32) : m_X1_endRepeated m d (nI E) ek eo es el = some (foldN (sRe ek eo es m d) el E) := by
  unfold m_X1_endRepeated
  refine for_up (c := E) (fun s x => (x, s)) (sRe ek eo es m d) el (by omega) (fun rec i hi => ?_) (fun rec => ?_)
  · generalize foldN (sRe ek eo es m d) el i = g
    have ht := X1_twin hi hE ek eo es g
    unfold sRe
    by_cases h1 : g i = -1
    all_goals by_cases h2 : eo i = m
    all_goals by_cases h3 : es i = m
    all_goals cases h4 : fnd (bTw ek eo es g i) i
    all_goals simp (disch := omega) only [m_X1_endRepeated_L2, m_X1_touches, ht, lp_go, h1, h2, h3, h4, Option.isSome_some, Option.isSome_none, true_and, false_and, and_true, and_false, or_true, true_or, or_false, false_or, or_self, and_self, nI_clamp, nI_1, bsm, nmd, gd_ix, gd_t, gd_bi, gd_b0, gd_b1, ite_b, ite_p, if_true, if_false, ite_true, ite_false, i10, i00, or0, add0, g0, g1, g2, g3, g4, g5, g6, c0, c1, c2, c3, c4, c5, c6, Bool.false_eq_true, decide_eq_true_eq]
  · simp (disch := omega) only [m_X1_endRepeated_L2, lp_end, Nat.le_refl]
/-- what a merge leaves -/
def mR (E : Nat) (p q m d : Int32) (ek eo es el : Nat → Int32) : Nat → Nat → Int32 := fun i => foldN (sRe ek (mF p q m el eo E) (mF p q m el es E) m d) (mE p q m d eo es el E) i
set_option maxHeartbeats 4000000 in
theorem X1_followMerge {E : Nat} (hE : E ≤ 30) (p q m d : Int32) (ek eo es el : Nat → Int32) : m_X1_followMerge p q m d (nI E) ek eo es el = some (mF p q m el eo E, mF p q m el es E, mR E p q m d ek eo es el E) := by
  unfold m_X1_followMerge
  have e0 : ((0 : Int32), eo, es, el) = (nI 0, mF p q m el eo 0, mF p q m el es 0, mE p q m d eo es el 0) := by rw [mF_0, mF_0, mE_0]; rfl
  rw [e0]
  refine loop_run (c := E) (fun i => (nI i, mF p q m el eo i, mF p q m el es i, mE p q m d eo es el i)) (by omega) (fun rec i hi => ?_) (fun rec => ?_)
  · by_cases h1 : el i = -1
    · rw [← mF_t h1, ← mF_t h1]
      have a1 := mF_i (p := p) (q := q) (m := m) (el := el) (f := eo) (Nat.le_refl i)
      have a2 := mF_i (p := p) (q := q) (m := m) (el := el) (f := es) (Nat.le_refl i)
      have a3 := mE_i (p := p) (q := q) (m := m) (d := d) (eo := eo) (es := es) (el := el) (Nat.le_refl i)
      have b1 : ∀ x : Int32, mg p q m x = if x = p then m else if x = q then m else x := fun x => by
        unfold mg
        by_cases w1 : x = p
        · rw [if_pos (Or.inl w1), if_pos w1]
        · rw [if_neg w1]
          by_cases w2 : x = q
          · rw [if_pos (Or.inr w2), if_pos w2]
          · rw [if_neg w2, if_neg (fun w => w.elim w1 w2)]
      by_cases h2 : mg p q m (eo i) = mg p q m (es i)
      · rw [← mE_t h1 h2]
        rw [b1, b1] at h2 ⊢
        rcases (Decidable.em (eo i = p)).imp eq_true eq_false with c1 | c1
        all_goals rcases (Decidable.em (eo i = q)).imp eq_true eq_false with c2 | c2
        all_goals rcases (Decidable.em (es i = p)).imp eq_true eq_false with c3 | c3
        all_goals rcases (Decidable.em (es i = q)).imp eq_true eq_false with c4 | c4
        all_goals simp only [c1, c2, c3, c4, if_true, if_false] at h2 ⊢
        all_goals simp (disch := omega) only [m_X1_followMerge_L3, m_X1_followMerge_J62, m_X1_followMerge_J102, lp_go, a1, a2, a3, h1, c1, c2, c3, c4, upd_same, eq_true h2, nI_clamp, nI_1, bsm, nmd, gd_ix, gd_t, gd_bi, gd_b0, gd_b1, ite_b, ite_p, if_true, if_false, ite_true, ite_false, i10, i00, or0, add0, g0, g1, g2, g3, g4, g5, g6, c0, c1, c2, c3, c4, c5, c6, Bool.false_eq_true, decide_eq_true_eq]
      · rw [mE_n (fun w => h2 w.2)]
        rw [b1, b1] at h2 ⊢
        rcases (Decidable.em (eo i = p)).imp eq_true eq_false with c1 | c1
        all_goals rcases (Decidable.em (eo i = q)).imp eq_true eq_false with c2 | c2
        all_goals rcases (Decidable.em (es i = p)).imp eq_true eq_false with c3 | c3
        all_goals rcases (Decidable.em (es i = q)).imp eq_true eq_false with c4 | c4
        all_goals simp only [c1, c2, c3, c4, if_true, if_false] at h2 ⊢
        all_goals first
          | exact absurd trivial h2
          | exact absurd rfl h2
          | simp (disch := omega) only [m_X1_followMerge_L3, m_X1_followMerge_J62, m_X1_followMerge_J102, lp_go, a1, a2, a3, h1, c1, c2, c3, c4, upd_same, eq_false h2, nI_clamp, nI_1, bsm, nmd, gd_ix, gd_t, gd_bi, gd_b0, gd_b1, ite_b, ite_p, if_true, if_false, ite_true, ite_false, i10, i00, or0, add0, g0, g1, g2, g3, g4, g5, g6, c0, c1, c2, c3, c4, c5, c6, Bool.false_eq_true, decide_eq_true_eq]
    · rw [mF_n h1, mF_n h1, mE_n (fun w => h1 w.1)]
      have a3 := mE_i (p := p) (q := q) (m := m) (d := d) (eo := eo) (es := es) (el := el) (Nat.le_refl i)
      simp (disch := omega) only [m_X1_followMerge_L3, lp_go, a3, h1, nI_clamp, nI_1, bsm, nmd, gd_ix, gd_t, gd_bi, gd_b0, gd_b1, ite_b, ite_p, if_true, if_false, ite_true, ite_false, i10, i00, or0, add0, g0, g1, g2, g3, g4, g5, g6, c0, c1, c2, c3, c4, c5, c6, Bool.false_eq_true, decide_eq_true_eq]
  · simp (disch := omega) only [m_X1_followMerge_L3, m_X1_followMerge_J135, lp_end, Nat.le_refl, X1_endRepeated hE, bsm, mR]

