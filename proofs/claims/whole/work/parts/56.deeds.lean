/-! Deeds: reading, on both sides, by chains. -/
/-- a loop that counts up, by what holds of its state -/
theorem for_rel {α V R : Type} {F : (V → Option R) → V → Option R} {c : Nat} (mk : α → Int32 → V) (I : Nat → α → Prop) (a : α) (hc : c < 1000) (h0 : I 0 a)
    (hs : ∀ (rec : V → Option R) (i : Nat) (x : α), i < c → I i x → ∃ y, I (i + 1) y ∧ F rec (mk x (nI i)) = rec (mk y (nI (i + 1)))) : ∃ y, I c y ∧ ∀ out : Option R, (∀ rec : V → Option R, F rec (mk y (nI c)) = out) → fuel F FU (mk a (nI 0)) = out := by
  have key : ∀ n i, i + n = c → ∀ x, I i x → ∀ k, n < k → ∃ y, I c y ∧ ∀ out : Option R, (∀ rec : V → Option R, F rec (mk y (nI c)) = out) → fuel F k (mk x (nI i)) = out := by
    intro n
    induction n with
    | zero =>
      intro i hi x hx k hk
      obtain ⟨k, rfl⟩ : ∃ k', k = k' + 1 := ⟨k - 1, by omega⟩
      have e : i = c := by omega
      subst e
      exact ⟨x, hx, fun out ho => ho _⟩
    | succ n ih =>
      intro i hi x hx k hk
      obtain ⟨k, rfl⟩ : ∃ k', k = k' + 1 := ⟨k - 1, by omega⟩
      obtain ⟨y, hy, e⟩ := hs (fuel F k) i x (by omega) hx
      obtain ⟨u, hu, ho⟩ := ih (i + 1) (by omega) y hy k (by omega)
      refine ⟨u, hu, fun out h => ?_⟩
      show F (fuel F k) _ = out
      rw [e]
      exact ho out h
  exact key c 0 (by omega) a h0 FU hc
/-- a fold over the rows of a parcel -/
def sCh {α : Type} (dp dg de dd : Nat → Int32) (x : Int32) (f : Int32 × Int32 × Int32 → α → α) : Nat → α → α := fun k s => if dp k = x then f (dg k, de k, dd k) s else s
theorem sCh_t {α : Type} {dp dg de dd : Nat → Int32} {x : Int32} {f : Int32 × Int32 × Int32 → α → α} {k : Nat} {s : α} (h : dp k = x) : sCh dp dg de dd x f k s = f (dg k, de k, dd k) s := if_pos h
theorem sCh_f {α : Type} {dp dg de dd : Nat → Int32} {x : Int32} {f : Int32 × Int32 × Int32 → α → α} {k : Nat} {s : α} (h : ¬ dp k = x) : sCh dp dg de dd x f k s = s := if_neg h
theorem chn_s {dp dg de dd : Nat → Int32} {x : Int32} {n : Nat} : chn dp dg de dd x (n + 1) = chn dp dg de dd x n ++ (if dp n = x then [(dg n, de n, dd n)] else []) := rfl
theorem chn_fold {α : Type} {dp dg de dd : Nat → Int32} {x : Int32} {f : Int32 × Int32 × Int32 → α → α} {a : α} {n : Nat} : foldN (sCh dp dg de dd x f) a n = (chn dp dg de dd x n).foldl (fun s d => f d s) a := by
  induction n with
  | zero => rfl
  | succ n ih =>
    rw [foldN_s, ih, chn_s, List.foldl_append]
    by_cases h : dp n = x
    · rw [sCh_t h, if_pos h]; rfl
    · rw [sCh_f h, if_neg h]; rfl
theorem chn_len {dp dg de dd : Nat → Int32} {x : Int32} {n : Nat} : (chn dp dg de dd x n).length = cN (bEq dp x) n := by
  induction n with
  | zero => rfl
  | succ n ih =>
    rw [chn_s, List.length_append, ih, cN_s]
    by_cases h : dp n = x
    · rw [if_pos h, if_pos (bEq_t.mpr h)]; rfl
    · rw [if_neg h, if_neg (by rw [bEq_f.mpr h]; decide)]; rfl
theorem chn_get {dp dg de dd : Nat → Int32} {x : Int32} {k n : Nat} (hk : k < n) (h : dp k = x) : (chn dp dg de dd x n)[cN (bEq dp x) k]? = some (dg k, de k, dd k) ∧ (chn dp dg de dd x n).take (cN (bEq dp x) k) = chn dp dg de dd x k := by
  induction n with
  | zero => omega
  | succ n ih =>
    have hl := chn_len (dp := dp) (dg := dg) (de := de) (dd := dd) (x := x) (n := n)
    by_cases e : k = n
    · subst e
      rw [chn_s, if_pos h, ← hl]
      exact ⟨by rw [List.getElem?_append_right (Nat.le_refl _), Nat.sub_self]; rfl, by rw [List.take_append_of_le_length (Nat.le_refl _), List.take_length]⟩
    · obtain ⟨h1, h2⟩ := ih (by omega)
      have hlt := cN_lt (b := bEq dp x) (j := k) (k := n) (by omega) (bEq_t.mpr h)
      rw [← hl] at hlt
      rw [chn_s]
      exact ⟨by rw [List.getElem?_append_left hlt]; exact h1, by rw [List.take_append_of_le_length (Nat.le_of_lt hlt)]; exact h2⟩
def fH : Int32 × Int32 × Int32 → Int32 → Int32 := fun d s => if d.1 = s then d.2.1 else s
def fHd (day : Int32) : Int32 × Int32 × Int32 → Int32 → Int32 := fun d s => if ¬ day < d.2.2 ∧ d.1 = s then d.2.1 else s
def fG : Int32 × Int32 × Int32 → Int32 × Int32 → Int32 × Int32 := fun d s => if d.1 = s.2 then (s.1, d.2.1) else (s.1 + 1, s.2)
def fV : Int32 × Int32 × Int32 → Int32 × Int32 → Int32 × Int32 := fun d s => if d.1 = s.2 then (s.1 ||| ((1 : Int32) <<< (d.2.1 &&& 31)), d.2.1) else s
/-- the holder behind a chain -/
def hold (r : Int32) (l : List (Int32 × Int32 × Int32)) : Int32 := l.foldl (fun s d => fH d s) r

set_option maxHeartbeats 1000000 in
theorem X0_holderBehind {D r : Nat} (hD : D ≤ 60) (hr : r ≤ D) (dp dg de dd : Nat → Int32) (x y : Int32) : m_X0_holderBehind x y (nI r) (nI D) dp dg de = some (foldN (sCh dp dg de dd x fH) y r) := by
  unfold m_X0_holderBehind
  refine for_up (c := r) (fun s x => (s, x)) (sCh dp dg de dd x fH) y (by omega) (fun rec i hi => ?_) (fun rec => ?_)
  · generalize foldN (sCh dp dg de dd x fH) y i = s
    by_cases hb : dp i = x
    all_goals by_cases hc : dg i = s
    all_goals simp (disch := omega) only [m_X0_holderBehind_L6, lp_go, sSum, sOr, sCnt, bEq, sCh, fH, fG, fV, fHd, nI_clamp, nI_1, bsm, nmd, gd_ix, gd_t, gd_bi, gd_b0, gd_b1, ite_b, ite_p, if_true, if_false, ite_true, ite_false, i10, i00, or0, add0, g0, g1, g2, g3, g4, g5, g6, c0, c1, c2, c3, c4, c5, c6, Bool.false_eq_true, decide_eq_true_eq, hb, hc]
  · simp (disch := omega) only [m_X0_holderBehind_L6, lp_end, Nat.le_refl, nI_clamp, nI_1, bsm, nmd, gd_ix, gd_t, gd_bi, gd_b0, gd_b1, ite_b, ite_p, if_true, if_false, ite_true, ite_false, i10, i00, or0, add0, g0, g1, g2, g3, g4, g5, g6, c0, c1, c2, c3, c4, c5, c6, Bool.false_eq_true, decide_eq_true_eq]

set_option maxHeartbeats 1000000 in
theorem X0_countOf {D : Nat} (hD : D ≤ 60) (dp : Nat → Int32) (x : Int32) : m_X0_countOf x (nI D) dp = some (foldN (sCnt (bEq dp x)) 0 D) := by
  unfold m_X0_countOf
  refine for_up (c := D) (fun s x => (s, x)) (sCnt (bEq dp x)) 0 (by omega) (fun rec i hi => ?_) (fun rec => ?_)
  · generalize foldN (sCnt (bEq dp x)) 0 i = s
    by_cases hb : dp i = x
    all_goals simp (disch := omega) only [m_X0_countOf_L4, lp_go, sSum, sOr, sCnt, bEq, sCh, fH, fG, fV, fHd, nI_clamp, nI_1, bsm, nmd, gd_ix, gd_t, gd_bi, gd_b0, gd_b1, ite_b, ite_p, if_true, if_false, ite_true, ite_false, i10, i00, or0, add0, g0, g1, g2, g3, g4, g5, g6, c0, c1, c2, c3, c4, c5, c6, Bool.false_eq_true, decide_eq_true_eq, hb]
  · simp (disch := omega) only [m_X0_countOf_L4, lp_end, Nat.le_refl, nI_clamp, nI_1, bsm, nmd, gd_ix, gd_t, gd_bi, gd_b0, gd_b1, ite_b, ite_p, if_true, if_false, ite_true, ite_false, i10, i00, or0, add0, g0, g1, g2, g3, g4, g5, g6, c0, c1, c2, c3, c4, c5, c6, Bool.false_eq_true, decide_eq_true_eq]

set_option maxHeartbeats 1000000 in
theorem X0_gapsOf {D : Nat} (hD : D ≤ 60) (dp dg de dd : Nat → Int32) (x y : Int32) : m_X0_gapsOf x y (nI D) dp dg de = some (foldN (sCh dp dg de dd x fG) (0, y) D).1 := by
  unfold m_X0_gapsOf
  refine for_up (c := D) (fun (s : Int32 × Int32) z => (s.1, s.2, z)) (sCh dp dg de dd x fG) (0, y) (by omega) (fun rec i hi => ?_) (fun rec => ?_)
  · generalize foldN (sCh dp dg de dd x fG) (0, y) i = s
    obtain ⟨s1, s2⟩ := s
    by_cases hb : dp i = x
    all_goals by_cases hc : dg i = s2
    all_goals simp (disch := omega) only [m_X0_gapsOf_L8, lp_go, sSum, sOr, sCnt, bEq, sCh, fH, fG, fV, fHd, nI_clamp, nI_1, bsm, nmd, gd_ix, gd_t, gd_bi, gd_b0, gd_b1, ite_b, ite_p, if_true, if_false, ite_true, ite_false, i10, i00, or0, add0, g0, g1, g2, g3, g4, g5, g6, c0, c1, c2, c3, c4, c5, c6, Bool.false_eq_true, decide_eq_true_eq, hb, hc]
  · simp (disch := omega) only [m_X0_gapsOf_L8, lp_end, Nat.le_refl, nI_clamp, nI_1, bsm, nmd, gd_ix, gd_t, gd_bi, gd_b0, gd_b1, ite_b, ite_p, if_true, if_false, ite_true, ite_false, i10, i00, or0, add0, g0, g1, g2, g3, g4, g5, g6, c0, c1, c2, c3, c4, c5, c6, Bool.false_eq_true, decide_eq_true_eq]

set_option maxHeartbeats 1000000 in
theorem X0_everHolding {D : Nat} (hD : D ≤ 60) (dp dg de dd : Nat → Int32) (x y : Int32) : m_X0_everHolding x y (nI D) dp dg de = some (foldN (sCh dp dg de dd x fV) ((1 : Int32) <<< (y &&& 31), y) D).1 := by
  unfold m_X0_everHolding
  refine for_up (c := D) (fun (s : Int32 × Int32) z => (s.1, s.2, z)) (sCh dp dg de dd x fV) ((1 : Int32) <<< (y &&& 31), y) (by omega) (fun rec i hi => ?_) (fun rec => ?_)
  · generalize foldN (sCh dp dg de dd x fV) ((1 : Int32) <<< (y &&& 31), y) i = s
    obtain ⟨s1, s2⟩ := s
    by_cases hb : dp i = x
    all_goals by_cases hc : dg i = s2
    all_goals simp (disch := omega) only [m_X0_everHolding_L10, lp_go, sSum, sOr, sCnt, bEq, sCh, fH, fG, fV, fHd, nI_clamp, nI_1, bsm, nmd, gd_ix, gd_t, gd_bi, gd_b0, gd_b1, ite_b, ite_p, if_true, if_false, ite_true, ite_false, i10, i00, or0, add0, g0, g1, g2, g3, g4, g5, g6, c0, c1, c2, c3, c4, c5, c6, Bool.false_eq_true, decide_eq_true_eq, hb, hc]
  · simp (disch := omega) only [m_X0_everHolding_L10, lp_end, Nat.le_refl, nI_clamp, nI_1, bsm, nmd, gd_ix, gd_t, gd_bi, gd_b0, gd_b1, ite_b, ite_p, if_true, if_false, ite_true, ite_false, i10, i00, or0, add0, g0, g1, g2, g3, g4, g5, g6, c0, c1, c2, c3, c4, c5, c6, Bool.false_eq_true, decide_eq_true_eq]

def bDay (dd : Nat → Int32) (y : Int32) : Nat → Bool := fun k => !decide (y < dd k)

set_option maxHeartbeats 1000000 in
theorem X0_rowsUpTo {D : Nat} (hD : D ≤ 60) (dd : Nat → Int32) (y : Int32) : m_X0_rowsUpTo y (nI D) dd = some (foldN (sCnt (bDay dd y)) 0 D) := by
  unfold m_X0_rowsUpTo
  refine for_up (c := D) (fun s x => (s, x)) (sCnt (bDay dd y)) 0 (by omega) (fun rec i hi => ?_) (fun rec => ?_)
  · generalize foldN (sCnt (bDay dd y)) 0 i = s
    by_cases hb : y < dd i
    all_goals simp (disch := omega) only [m_X0_rowsUpTo_L4, lp_go, sSum, sOr, sCnt, bEq, sCh, fH, fG, fV, fHd, nI_clamp, nI_1, bsm, nmd, gd_ix, gd_t, gd_bi, gd_b0, gd_b1, ite_b, ite_p, if_true, if_false, ite_true, ite_false, i10, i00, or0, add0, g0, g1, g2, g3, g4, g5, g6, c0, c1, c2, c3, c4, c5, c6, Bool.false_eq_true, decide_eq_true_eq, hb, bDay, decide_true, decide_false, Bool.not_true, Bool.not_false]
  · simp (disch := omega) only [m_X0_rowsUpTo_L4, lp_end, Nat.le_refl, nI_clamp, nI_1, bsm, nmd, gd_ix, gd_t, gd_bi, gd_b0, gd_b1, ite_b, ite_p, if_true, if_false, ite_true, ite_false, i10, i00, or0, add0, g0, g1, g2, g3, g4, g5, g6, c0, c1, c2, c3, c4, c5, c6, Bool.false_eq_true, decide_eq_true_eq]

theorem X0_rowAt {D : Nat} (hD : D ≤ 60) (dp : Nat → Int32) (x y : Int32) : m_X0_rowAt x y (nI D) dp = some (match fnd (bSel (bEq dp x) y) D with | some i => nI i | none => -1) := by
  unfold m_X0_rowAt
  refine (for_find (c := D) (bSel (bEq dp x) y) (fun i => (nI (cN (bEq dp x) i), nI i)) (fun i => some (nI i)) (dflt := some (-1)) (by omega) (fun rec i hi hb => ?_) (fun rec i hi hb => ?_) (fun rec => ?_)).trans ?_
  · rcases bSel_f hb with h1 | ⟨h1, h2⟩
    · simp (disch := omega) only [m_X0_rowAt_L5, lp_go, cN_s, h1, Nat.add_zero, bEq_f.mp h1, nI_clamp, nI_1, bsm, nmd, gd_ix, gd_t, gd_bi, gd_b0, gd_b1, ite_b, ite_p, if_true, if_false, ite_true, ite_false, i10, i00, or0, add0, g0, g1, g2, g3, g4, g5, g6, c0, c1, c2, c3, c4, c5, c6, Bool.false_eq_true, decide_eq_true_eq]
    · simp (disch := omega) only [m_X0_rowAt_L5, lp_go, cN_s, h1, h2, bEq_t.mp h1, nI_clamp, nI_1, bsm, nmd, gd_ix, gd_t, gd_bi, gd_b0, gd_b1, ite_b, ite_p, if_true, if_false, ite_true, ite_false, i10, i00, or0, add0, g0, g1, g2, g3, g4, g5, g6, c0, c1, c2, c3, c4, c5, c6, Bool.false_eq_true, decide_eq_true_eq]
  · obtain ⟨h1, h2⟩ := bSel_t.mp hb
    simp (disch := omega) only [m_X0_rowAt_L5, lp_go, h1, h2, bEq_t.mp h1, nI_clamp, nI_1, bsm, nmd, gd_ix, gd_t, gd_bi, gd_b0, gd_b1, ite_b, ite_p, if_true, if_false, ite_true, ite_false, i10, i00, or0, add0, g0, g1, g2, g3, g4, g5, g6, c0, c1, c2, c3, c4, c5, c6, Bool.false_eq_true, decide_eq_true_eq]
  · simp (disch := omega) only [m_X0_rowAt_L5, lp_end, Nat.le_refl, nI_clamp, nI_1, bsm, nmd, gd_ix, gd_t, gd_bi, gd_b0, gd_b1, ite_b, ite_p, if_true, if_false, ite_true, ite_false, i10, i00, or0, add0, g0, g1, g2, g3, g4, g5, g6, c0, c1, c2, c3, c4, c5, c6, Bool.false_eq_true, decide_eq_true_eq]
  · cases fnd (bSel (bEq dp x) y) D <;> rfl
theorem X0_isGood {D k : Nat} (hD : D ≤ 60) (hk : k < D) (dp dg de dd : Nat → Int32) (y : Int32) : m_X0_isGood (nI k) y (nI D) dp dg de = some (if hold y (chn dp dg de dd (dp k) k) = dg k then 1 else 0) := by
  unfold m_X0_isGood
  have h1 := X0_holderBehind hD (Nat.le_of_lt hk) dp dg de dd (dp k) y
  rw [chn_fold] at h1
  rw [if_neg (nI_pos (by omega)), if_pos (nI_lt hk (by omega)), gd_ix (by omega) (by omega), nI_clamp (by omega), h1, bsm, gd_ix (by omega) (by omega)]
  show (if hold y (chn dp dg de dd (dp k) k) = dg k then some (1 : Int32) else some 0) = _
  by_cases q : hold y (chn dp dg de dd (dp k) k) = dg k
  · rw [if_pos q, if_pos q]
  · rw [if_neg q, if_neg q]
/-! The reference's deeds. -/
def rdp (n : Nat → Int32) : Nat → Int32 := fun k => n (151 + k * 4 + 0)
def rdg (n : Nat → Int32) : Nat → Int32 := fun k => n (151 + k * 4 + 1)
def rde (n : Nat → Int32) : Nat → Int32 := fun k => n (151 + k * 4 + 2)
def rdd (n : Nat → Int32) : Nat → Int32 := fun k => n (151 + k * 4 + 3)
theorem dAt0 {k : Nat} (n : Nat → Int32) (h : k < 60) : m_X8_deedAt (nI k) 0 n = some (rdp n k) := deedAt_w (w := 0) n h (by omega)
theorem dAt1 {k : Nat} (n : Nat → Int32) (h : k < 60) : m_X8_deedAt (nI k) 1 n = some (rdg n k) := deedAt_w (w := 1) n h (by omega)
theorem dAt2 {k : Nat} (n : Nat → Int32) (h : k < 60) : m_X8_deedAt (nI k) 2 n = some (rde n k) := deedAt_w (w := 2) n h (by omega)
theorem dAt3 {k : Nat} (n : Nat → Int32) (h : k < 60) : m_X8_deedAt (nI k) 3 n = some (rdd n k) := deedAt_w (w := 3) n h (by omega)

set_option maxHeartbeats 1000000 in
theorem X8_countDeeds {D : Nat} {n : Nat → Int32} (hn : n 2 = nI D) (hD : D ≤ 60) (x : Int32) : m_X8_countDeeds x n = some (foldN (sCnt (bEq (rdp n) x)) 0 D) := by
  unfold m_X8_countDeeds
  refine for_up (c := D) (fun s x => (s, x)) (sCnt (bEq (rdp n) x)) 0 (by omega) (fun rec i hi => ?_) (fun rec => ?_)
  · generalize foldN (sCnt (bEq (rdp n) x)) 0 i = s
    by_cases hb : rdp n i = x
    all_goals simp (disch := omega) only [m_X8_countDeeds_L4, lp_go, sSum, sOr, sCnt, bEq, sCh, fH, fG, fV, fHd, nI_clamp, nI_1, bsm, nmd, gd_ix, gd_t, gd_bi, gd_b0, gd_b1, ite_b, ite_p, if_true, if_false, ite_true, ite_false, i10, i00, or0, add0, g0, g1, g2, g3, g4, g5, g6, c0, c1, c2, c3, c4, c5, c6, Bool.false_eq_true, decide_eq_true_eq, hb, hn, dAt0]
  · simp (disch := omega) only [m_X8_countDeeds_L4, lp_end, Nat.le_refl, nI_clamp, nI_1, bsm, nmd, gd_ix, gd_t, gd_bi, gd_b0, gd_b1, ite_b, ite_p, if_true, if_false, ite_true, ite_false, i10, i00, or0, add0, g0, g1, g2, g3, g4, g5, g6, c0, c1, c2, c3, c4, c5, c6, Bool.false_eq_true, decide_eq_true_eq, hn]

set_option maxHeartbeats 1000000 in
theorem X8_holderAhead0 {r : Nat} (hr : r ≤ 60) (n : Nat → Int32) (x y a : Int32) : fuel (m_X8_holderAhead_L11 n x y (nI r)) FU (a, 0) = some (foldN (sCh (rdp n) (rdg n) (rde n) (rdd n) x (fHd y)) a r) := by
  refine for_up (c := r) (fun s x => (s, x)) (sCh (rdp n) (rdg n) (rde n) (rdd n) x (fHd y)) a (by omega) (fun rec i hi => ?_) (fun rec => ?_)
  · generalize foldN (sCh (rdp n) (rdg n) (rde n) (rdd n) x (fHd y)) a i = s
    by_cases hb : rdp n i = x
    all_goals by_cases hc : y < rdd n i
    all_goals by_cases hd : rdg n i = s
    all_goals simp (disch := omega) only [m_X8_holderAhead_L11, m_X8_holderAhead_J44, lp_go, sCh, fHd, hb, hc, hd, dAt0, dAt1, dAt2, dAt3, not_true, not_false_eq_true, and_true, true_and, and_false, false_and, and_self, nI_clamp, nI_1, bsm, nmd, gd_ix, gd_t, gd_bi, gd_b0, gd_b1, ite_b, ite_p, if_true, if_false, ite_true, ite_false, i10, i00, or0, add0, g0, g1, g2, g3, g4, g5, g6, c0, c1, c2, c3, c4, c5, c6, Bool.false_eq_true, decide_eq_true_eq]
  · simp (disch := omega) only [m_X8_holderAhead_L11, lp_end, Nat.le_refl, nI_clamp, nI_1, bsm, nmd, gd_ix, gd_t, gd_bi, gd_b0, gd_b1, ite_b, ite_p, if_true, if_false, ite_true, ite_false, i10, i00, or0, add0, g0, g1, g2, g3, g4, g5, g6, c0, c1, c2, c3, c4, c5, c6, Bool.false_eq_true, decide_eq_true_eq]
theorem fHd_big {l : List (Int32 × Int32 × Int32)} {y a : Int32} (h : ∀ d ∈ l, ¬ y < d.2.2) : l.foldl (fun s d => fHd y d s) a = hold a l := by
  induction l generalizing a with
  | nil => rfl
  | cons d l ih =>
    rw [List.foldl_cons, ih fun q hq => h q (List.mem_cons_of_mem _ hq)]
    show hold _ l = hold (fH d a) l
    congr 1
    unfold fHd fH
    have := h d List.mem_cons_self
    simp only [this, not_false_eq_true, true_and]
theorem chn_mem {dp dg de dd : Nat → Int32} {x : Int32} {n : Nat} {d : Int32 × Int32 × Int32} (h : d ∈ chn dp dg de dd x n) : ∃ k, k < n ∧ dp k = x ∧ d = (dg k, de k, dd k) := by
  induction n with
  | zero => cases h
  | succ n ih =>
    rw [chn_s] at h
    rcases List.mem_append.mp h with q | q
    · obtain ⟨k, h1, h2⟩ := ih q
      exact ⟨k, by omega, h2⟩
    · by_cases e : dp n = x
      · rw [if_pos e] at q
        exact ⟨n, by omega, e, List.mem_singleton.mp q⟩
      · rw [if_neg e] at q; cases q
/-- the deeds that both hold: the class's rows by their days, the chains the same -/
def ID2 (D P dn : Nat) (n : Nat → Int32) : Prop := n 2 = nI D ∧ D ≤ 60 ∧ ∀ k, k < D → (∃ q, q < P ∧ rdp n k = nI q) ∧ (∃ a, a < 10 ∧ rdg n k = nI a) ∧ (∃ b, b < 10 ∧ rde n k = nI b) ∧ ∃ d, d ≤ dn ∧ rdd n k = nI d
theorem ID2.nlt {D P dn : Nat} {n : Nat → Int32} (h : ID2 D P dn n) (hd : dn ≤ 9999) {x : Int32} {r : Nat} (hr : r ≤ D) : ∀ d ∈ chn (rdp n) (rdg n) (rde n) (rdd n) x r, ¬ (9999 : Int32) < d.2.2 := fun d hdm => by
  obtain ⟨k, hk, _, rfl⟩ := chn_mem hdm
  obtain ⟨-, -, -, e, he, h3⟩ := h.2.2 k (by omega)
  show ¬ (nI 9999 : Int32) < rdd n k
  rw [h3]
  exact nI_nlt (by omega) (by omega)
/-- the reference's chain up to a row -/
abbrev rch (n : Nat → Int32) (x : Int32) (r : Nat) : List (Int32 × Int32 × Int32) := chn (rdp n) (rdg n) (rde n) (rdd n) x r
theorem X8_holderAhead {P D dn p r : Nat} {ar fi la nb pa ro n : Nat → Int32} (hV : VP P ar fi la nb pa ro n) (hP : P ≤ 24) (hp : p < P) (h : ID2 D P dn n) (hr : r ≤ D) (y : Int32) : m_X8_holderAhead (nI p) y (nI r) n = some ((rch n (nI p) r).foldl (fun s d => fHd y d s) (ro p)) := by
  have hD := h.2.1
  unfold m_X8_holderAhead
  rw [hV.ro hP hp, bsm, X8_holderAhead0 (by omega) n (nI p) y (ro p), chn_fold]
theorem X8_holderA9 {P D dn p r : Nat} {ar fi la nb pa ro n : Nat → Int32} (hV : VP P ar fi la nb pa ro n) (hP : P ≤ 24) (hp : p < P) (h : ID2 D P dn n) (hd : dn ≤ 9999) (hr : r ≤ D) : m_X8_holderAhead (nI p) 9999 (nI r) n = some (hold (ro p) (rch n (nI p) r)) := by
  rw [X8_holderAhead hV hP hp h hr, fHd_big (h.nlt hd hr)]
theorem X8_holderOf {P D dn p : Nat} {ar fi la nb pa ro n : Nat → Int32} (hV : VP P ar fi la nb pa ro n) (hP : P ≤ 24) (hp : p < P) (h : ID2 D P dn n) (hd : dn ≤ 9999) : m_X8_holderOf (nI p) n = some (hold (ro p) (rch n (nI p) D)) := by
  unfold m_X8_holderOf
  rw [g2, c2, h.1, X8_holderA9 hV hP hp h hd (Nat.le_refl D), bsm]
theorem X8_isGood {P D dn p k : Nat} {ar fi la nb pa ro n : Nat → Int32} (hV : VP P ar fi la nb pa ro n) (hP : P ≤ 24) (hp : p < P) (h : ID2 D P dn n) (hd : dn ≤ 9999) (hk : k < D) (he : rdp n k = nI p) : m_X8_isGood (nI k) n = some (if hold (ro p) (rch n (nI p) k) = rdg n k then 1 else 0) := by
  have hD := h.2.1
  unfold m_X8_isGood
  rw [dAt1 n (by omega), bsm, dAt0 n (by omega), bsm, he, X8_holderA9 hV hP hp h hd (Nat.le_of_lt hk), bsm]
  by_cases q : hold (ro p) (rch n (nI p) k) = rdg n k
  · rw [if_pos q, if_pos q.symm]
  · rw [if_neg q, if_neg fun e => q e.symm]
theorem rch_s {n : Nat → Int32} {x : Int32} {k : Nat} (h : rdp n k = x) : rch n x (k + 1) = rch n x k ++ [(rdg n k, rde n k, rdd n k)] := by
  show chn _ _ _ _ x (k + 1) = _
  rw [chn_s, if_pos h]
theorem rch_n {n : Nat → Int32} {x : Int32} {k : Nat} (h : ¬ rdp n k = x) : rch n x (k + 1) = rch n x k := by
  show chn _ _ _ _ x (k + 1) = _
  rw [chn_s, if_neg h, List.append_nil]
theorem hold_a {r : Int32} {l : List (Int32 × Int32 × Int32)} {d : Int32 × Int32 × Int32} : hold r (l ++ [d]) = if d.1 = hold r l then d.2.1 else hold r l := by
  unfold hold
  rw [List.foldl_append]
  rfl
def gaps (r : Int32) (l : List (Int32 × Int32 × Int32)) : Int32 × Int32 := l.foldl (fun s d => fG d s) (0, r)
theorem gaps_a {r : Int32} {l : List (Int32 × Int32 × Int32)} {d : Int32 × Int32 × Int32} : gaps r (l ++ [d]) = fG d (gaps r l) := by
  unfold gaps
  rw [List.foldl_append]
  rfl
theorem gaps_h {r : Int32} {dp dg de dd : Nat → Int32} {x : Int32} {n : Nat} : (gaps r (chn dp dg de dd x n)).2 = hold r (chn dp dg de dd x n) := by
  induction n with
  | zero => rfl
  | succ n ih =>
    rw [chn_s]
    by_cases h : dp n = x
    · rw [if_pos h, gaps_a, hold_a]
      unfold fG
      rw [ih]
      by_cases q : dg n = hold r (chn dp dg de dd x n)
      · rw [if_pos q, if_pos q]
      · rw [if_neg q, if_neg q]
    · rw [if_neg h, List.append_nil]; exact ih
def ever (r : Int32) (l : List (Int32 × Int32 × Int32)) : Int32 × Int32 := l.foldl (fun s d => fV d s) ((1 : Int32) <<< (r &&& 31), r)
theorem ever_a {r : Int32} {l : List (Int32 × Int32 × Int32)} {d : Int32 × Int32 × Int32} : ever r (l ++ [d]) = fV d (ever r l) := by
  unfold ever
  rw [List.foldl_append]
  rfl
theorem ever_h {r : Int32} {dp dg de dd : Nat → Int32} {x : Int32} {n : Nat} : (ever r (chn dp dg de dd x n)).2 = hold r (chn dp dg de dd x n) := by
  induction n with
  | zero => rfl
  | succ n ih =>
    rw [chn_s]
    by_cases h : dp n = x
    · rw [if_pos h, ever_a, hold_a]
      unfold fV
      rw [ih]
      by_cases q : dg n = hold r (chn dp dg de dd x n)
      · rw [if_pos q, if_pos q]
      · rw [if_neg q, if_neg q]; exact ih
    · rw [if_neg h, List.append_nil]; exact ih
set_option maxHeartbeats 1000000 in
theorem X8_countGaps {P D dn p : Nat} {ar fi la nb pa ro n : Nat → Int32} (hV : VP P ar fi la nb pa ro n) (hP : P ≤ 24) (hp : p < P) (h : ID2 D P dn n) (hd : dn ≤ 9999) : m_X8_countGaps (nI p) n = some (gaps (ro p) (rch n (nI p) D)).1 := by
  have hD := h.2.1
  unfold m_X8_countGaps
  refine loop_run (c := D) (fun i => ((gaps (ro p) (rch n (nI p) i)).1, nI i)) (by omega) (fun rec i hi => ?_) (fun rec => ?_)
  · by_cases hb : rdp n i = nI p
    · have hg := X8_isGood hV hP hp h hd hi hb
      rw [rch_s hb, gaps_a]
      unfold fG
      rw [gaps_h]
      by_cases q : hold (ro p) (rch n (nI p) i) = rdg n i
      · have q2 := q.symm
        simp (disch := omega) only [m_X8_countGaps_L4, lp_go, h.1, dAt0, hb, hg, eq_true q, eq_true q2, nI_clamp, nI_1, bsm, nmd, gd_ix, gd_t, gd_bi, gd_b0, gd_b1, ite_b, ite_p, if_true, if_false, ite_true, ite_false, i10, i00, or0, add0, g0, g1, g2, g3, g4, g5, g6, c0, c1, c2, c3, c4, c5, c6, Bool.false_eq_true, decide_eq_true_eq]
      · have q2 : ¬ rdg n i = hold (ro p) (rch n (nI p) i) := fun e => q e.symm
        simp (disch := omega) only [m_X8_countGaps_L4, lp_go, h.1, dAt0, hb, hg, q, q2, nI_clamp, nI_1, bsm, nmd, gd_ix, gd_t, gd_bi, gd_b0, gd_b1, ite_b, ite_p, if_true, if_false, ite_true, ite_false, i10, i00, or0, add0, g0, g1, g2, g3, g4, g5, g6, c0, c1, c2, c3, c4, c5, c6, Bool.false_eq_true, decide_eq_true_eq]
    · rw [rch_n hb]
      simp (disch := omega) only [m_X8_countGaps_L4, lp_go, h.1, dAt0, hb, nI_clamp, nI_1, bsm, nmd, gd_ix, gd_t, gd_bi, gd_b0, gd_b1, ite_b, ite_p, if_true, if_false, ite_true, ite_false, i10, i00, or0, add0, g0, g1, g2, g3, g4, g5, g6, c0, c1, c2, c3, c4, c5, c6, Bool.false_eq_true, decide_eq_true_eq]
  · simp (disch := omega) only [m_X8_countGaps_L4, lp_end, Nat.le_refl, h.1, nI_clamp, nI_1, bsm, nmd, gd_ix, gd_t, gd_bi, gd_b0, gd_b1, ite_b, ite_p, if_true, if_false, ite_true, ite_false, i10, i00, or0, add0, g0, g1, g2, g3, g4, g5, g6, c0, c1, c2, c3, c4, c5, c6, Bool.false_eq_true, decide_eq_true_eq]
set_option maxHeartbeats 1000000 in
theorem X8_holders0 {P D dn p : Nat} {ar fi la nb pa ro n : Nat → Int32} (hV : VP P ar fi la nb pa ro n) (hP : P ≤ 24) (hp : p < P) (h : ID2 D P dn n) (hd : dn ≤ 9999) (v : Int32) : fuel (m_X8_holders_L35 n (nI p) v) FU ((1 : Int32) <<< (ro p &&& 31), 0) = some ((ever (ro p) (rch n (nI p) D)).1, v) := by
  have hD := h.2.1
  refine loop_run (c := D) (fun i => ((ever (ro p) (rch n (nI p) i)).1, nI i)) (by omega) (fun rec i hi => ?_) (fun rec => ?_)
  · by_cases hb : rdp n i = nI p
    · have hg := X8_isGood hV hP hp h hd hi hb
      rw [rch_s hb, ever_a]
      unfold fV
      rw [ever_h]
      by_cases q : hold (ro p) (rch n (nI p) i) = rdg n i
      · have q2 := q.symm
        simp (disch := omega) only [m_X8_holders_L35, lp_go, h.1, dAt0, dAt2, hb, hg, eq_true q, eq_true q2, m_X8_bit, nI_clamp, nI_1, bsm, nmd, gd_ix, gd_t, gd_bi, gd_b0, gd_b1, ite_b, ite_p, if_true, if_false, ite_true, ite_false, i10, i00, or0, add0, g0, g1, g2, g3, g4, g5, g6, c0, c1, c2, c3, c4, c5, c6, Bool.false_eq_true, decide_eq_true_eq]
      · have q2 : ¬ rdg n i = hold (ro p) (rch n (nI p) i) := fun e => q e.symm
        simp (disch := omega) only [m_X8_holders_L35, lp_go, h.1, dAt0, hb, hg, q, q2, nI_clamp, nI_1, bsm, nmd, gd_ix, gd_t, gd_bi, gd_b0, gd_b1, ite_b, ite_p, if_true, if_false, ite_true, ite_false, i10, i00, or0, add0, g0, g1, g2, g3, g4, g5, g6, c0, c1, c2, c3, c4, c5, c6, Bool.false_eq_true, decide_eq_true_eq]
    · rw [rch_n hb]
      simp (disch := omega) only [m_X8_holders_L35, lp_go, h.1, dAt0, hb, nI_clamp, nI_1, bsm, nmd, gd_ix, gd_t, gd_bi, gd_b0, gd_b1, ite_b, ite_p, if_true, if_false, ite_true, ite_false, i10, i00, or0, add0, g0, g1, g2, g3, g4, g5, g6, c0, c1, c2, c3, c4, c5, c6, Bool.false_eq_true, decide_eq_true_eq]
  · simp (disch := omega) only [m_X8_holders_L35, lp_end, Nat.le_refl, h.1, nI_clamp, nI_1, bsm, nmd, gd_ix, gd_t, gd_bi, gd_b0, gd_b1, ite_b, ite_p, if_true, if_false, ite_true, ite_false, i10, i00, or0, add0, g0, g1, g2, g3, g4, g5, g6, c0, c1, c2, c3, c4, c5, c6, Bool.false_eq_true, decide_eq_true_eq]
theorem sub0 {a b : Int32} : a - b = 0 ↔ a = b := ⟨fun h => by
  have := congrArg (fun z => z + b) h
  simpa using this, fun h => by rw [h]; exact Int32.sub_self b⟩
theorem X8_placeOf {D : Nat} {n : Nat → Int32} (hn : n 2 = nI D) (hD : D ≤ 60) (x : Int32) {w : Nat} (hw : w < cN (bEq (rdp n) x) D) : m_X8_placeOf x (nI w) n = some (match fnd (bSel (bEq (rdp n) x) (nI w)) D with | some i => nI i | none => -1) := by
  have hw2 := cN_le (bEq (rdp n) x) D
  unfold m_X8_placeOf
  have e0 : (nI w, (0 : Int32)) = (nI w - nI (cN (bEq (rdp n) x) 0), nI 0) := by
    show (nI w, (0 : Int32)) = (nI w - 0, 0)
    rw [Int32.sub_zero]
  rw [e0]
  refine (for_find (c := D) (bSel (bEq (rdp n) x) (nI w)) (fun i => (nI w - nI (cN (bEq (rdp n) x) i), nI i)) (fun i => some (nI i)) (dflt := some (-1)) (by omega) (fun rec i hi hb => ?_) (fun rec i hi hb => ?_) (fun rec => ?_)).trans ?_
  · rcases bSel_f hb with h1 | ⟨h1, h2⟩
    · simp (disch := omega) only [m_X8_placeOf_L5, lp_go, hn, dAt0, cN_s, h1, Nat.add_zero, bEq_f.mp h1, nI_clamp, nI_1, bsm, nmd, gd_ix, gd_t, gd_bi, gd_b0, gd_b1, ite_b, ite_p, if_true, if_false, ite_true, ite_false, i10, i00, or0, add0, g0, g1, g2, g3, g4, g5, g6, c0, c1, c2, c3, c4, c5, c6, Bool.false_eq_true, decide_eq_true_eq]
    · have h3 : ¬ nI w - nI (cN (bEq (rdp n) x) i) = 0 := fun q => h2 (sub0.mp q).symm
      have h4 : nI w - nI (cN (bEq (rdp n) x) i) + (-1) = nI w - nI (cN (bEq (rdp n) x) i + 1) := by
        rw [← nI_1, Int32.sub_eq_add_neg, Int32.sub_eq_add_neg, Int32.neg_add, Int32.add_assoc, Int32.sub_eq_add_neg]
      simp (disch := omega) only [m_X8_placeOf_L5, lp_go, hn, dAt0, cN_s, h1, h3, h4, bEq_t.mp h1, nI_clamp, nI_1, bsm, nmd, gd_ix, gd_t, gd_bi, gd_b0, gd_b1, ite_b, ite_p, if_true, if_false, ite_true, ite_false, i10, i00, or0, add0, g0, g1, g2, g3, g4, g5, g6, c0, c1, c2, c3, c4, c5, c6, Bool.false_eq_true, decide_eq_true_eq]
  · obtain ⟨h1, h2⟩ := bSel_t.mp hb
    have h3 : nI w - nI (cN (bEq (rdp n) x) i) = 0 := sub0.mpr h2.symm
    simp (disch := omega) only [m_X8_placeOf_L5, lp_go, hn, dAt0, h1, h3, bEq_t.mp h1, nI_clamp, nI_1, bsm, nmd, gd_ix, gd_t, gd_bi, gd_b0, gd_b1, ite_b, ite_p, if_true, if_false, ite_true, ite_false, i10, i00, or0, add0, g0, g1, g2, g3, g4, g5, g6, c0, c1, c2, c3, c4, c5, c6, Bool.false_eq_true, decide_eq_true_eq]
  · simp (disch := omega) only [m_X8_placeOf_L5, lp_end, Nat.le_refl, hn, nI_clamp, nI_1, bsm, nmd, gd_ix, gd_t, gd_bi, gd_b0, gd_b1, ite_b, ite_p, if_true, if_false, ite_true, ite_false, i10, i00, or0, add0, g0, g1, g2, g3, g4, g5, g6, c0, c1, c2, c3, c4, c5, c6, Bool.false_eq_true, decide_eq_true_eq]
  · cases fnd (bSel (bEq (rdp n) x) (nI w)) D <;> rfl

