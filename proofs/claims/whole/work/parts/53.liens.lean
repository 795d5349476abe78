/-! The liens, on both sides: reading. -/
/-- the first number below n of which b holds -/
def fnd (b : Nat → Bool) : Nat → Option Nat
  | 0 => none
  | n + 1 => match fnd b n with
    | some i => some i
    | none => if b n = true then some n else none
theorem fnd_s {b : Nat → Bool} {n : Nat} : fnd b (n + 1) = match fnd b n with
    | some i => some i
    | none => if b n = true then some n else none := rfl
theorem fnd_some {b : Nat → Bool} {n i : Nat} (h : fnd b n = some i) : i < n ∧ b i = true ∧ ∀ j, j < i → b j = false := by
  induction n with
  | zero => cases h
  | succ n ih =>
    unfold fnd at h
    cases hf : fnd b n with
    | some k =>
      rw [hf] at h
      cases h
      obtain ⟨h1, h2, h3⟩ := ih hf
      exact ⟨by omega, h2, h3⟩
    | none =>
      rw [hf] at h
      by_cases hb : b n = true
      · replace h : (if b n = true then some n else none) = some i := h
        rw [if_pos hb] at h
        cases h
        refine ⟨by omega, hb, fun j hj => ?_⟩
        have : ∀ m, fnd b m = none → ∀ j, j < m → b j = false := by
          intro m
          induction m with
          | zero => intro _ j hj; omega
          | succ m ihm =>
            intro hm j hj
            unfold fnd at hm
            cases hq : fnd b m with
            | some k => rw [hq] at hm; cases hm
            | none =>
              rw [hq] at hm
              by_cases e : j = m
              · subst e
                cases hc : b j with
                | false => rfl
                | true => replace hm : (if b j = true then some j else none) = none := hm; rw [if_pos hc] at hm; cases hm
              · exact ihm hq j (by omega)
        exact this _ hf j hj
      · replace h : (if b n = true then some n else none) = some i := h
        rw [if_neg hb] at h
        cases h
theorem fnd_none {b : Nat → Bool} {n : Nat} (h : fnd b n = none) : ∀ j, j < n → b j = false := by
  induction n with
  | zero => intro j hj; omega
  | succ m ihm =>
    intro j hj
    unfold fnd at h
    cases hq : fnd b m with
    | some k => rw [hq] at h; cases h
    | none =>
      rw [hq] at h
      by_cases e : j = m
      · subst e
        cases hc : b j with
        | false => rfl
        | true => replace h : (if b j = true then some j else none) = none := h; rw [if_pos hc] at h; cases h
      · exact ihm hq j (by omega)
theorem fnd_is {b : Nat → Bool} {n i : Nat} (hi : i < n) (hb : b i = true) (hj : ∀ j, j < i → b j = false) : fnd b n = some i := by
  cases h : fnd b n with
  | none => rw [fnd_none h i hi] at hb; cases hb
  | some k =>
    obtain ⟨h1, h2, h3⟩ := fnd_some h
    by_cases q : k < i
    · rw [hj k q] at h2; cases h2
    · by_cases q2 : i < k
      · rw [h3 i q2] at hb; cases hb
      · rw [show k = i by omega]
theorem fnd_no {b : Nat → Bool} {n : Nat} (hj : ∀ j, j < n → b j = false) : fnd b n = none := by
  cases h : fnd b n with
  | none => rfl
  | some k =>
    obtain ⟨h1, h2, h3⟩ := fnd_some h
    rw [hj k h1] at h2; cases h2
theorem fnd_c {b b' : Nat → Bool} {n : Nat} (h : ∀ k, k < n → b k = b' k) : fnd b n = fnd b' n := by
  cases hf : fnd b n with
  | none => exact (fnd_no fun j hj => (h j hj) ▸ fnd_none hf j hj).symm
  | some i =>
    obtain ⟨h1, h2, h3⟩ := fnd_some hf
    exact (fnd_is h1 ((h i h1) ▸ h2) fun j hj => (h j (by omega)) ▸ h3 j hj).symm
/-- a loop that looks for the first -/
theorem for_find {V R : Type} {F : (V → Option R) → V → Option R} {c : Nat} (b : Nat → Bool) (st : Nat → V) (res : Nat → Option R) {dflt : Option R} (hc : c < 1000)
    (hs : ∀ (rec : V → Option R) (i : Nat), i < c → b i = false → F rec (st i) = rec (st (i + 1))) (hf : ∀ (rec : V → Option R) (i : Nat), i < c → b i = true → F rec (st i) = res i) (ho : ∀ rec : V → Option R, F rec (st c) = dflt) : fuel F FU (st 0) = match fnd b c with
      | some i => res i
      | none => dflt := by
  cases h : fnd b c with
  | none => exact loop_run st hc (fun rec i hi => hs rec i hi (fnd_none h i hi)) ho
  | some i =>
    obtain ⟨h1, h2, h3⟩ := fnd_some h
    exact loop_run (c := i) st (by omega) (fun rec j hj => hs rec j (by omega) (h3 j hj)) (fun rec => hf rec i h1 h2)
def rkN (lr : Nat → Int32) (k : Nat) : Nat := (lr k).toNatClampNeg
theorem IL.rk {L K : Nat} {lc lm lp lr : Nat → Int32} (h : IL L K lc lm lp lr) {k : Nat} (hk : k < K) : lr k = nI (rkN lr k) ∧ rkN lr k < L := by
  obtain ⟨r, hr, e⟩ := h.2.2.2.1 k hk
  have hL := h.1
  have : rkN lr k = r := by
    unfold rkN
    rw [e, nI_clamp (by omega)]
  rw [this]
  exact ⟨e, hr⟩
theorem IL.inj {L K : Nat} {lc lm lp lr : Nat → Int32} (h : IL L K lc lm lp lr) {i j : Nat} (hi : i < K) (hj : j < K) (e : lr i = lr j) : i = j := h.2.2.2.2 i j hi hj e
theorem IL.am {L K : Nat} {lc lm lp lr : Nat → Int32} (h : IL L K lc lm lp lr) {k : Nat} (hk : k < L) : ∃ a, 1 ≤ a ∧ a ≤ 9999 ∧ lm k = nI a := (h.2.2.1 k hk).2
theorem IL.cr {L K : Nat} {lc lm lp lr : Nat → Int32} (h : IL L K lc lm lp lr) {k : Nat} (hk : k < L) : ∃ c, c < 10 ∧ lc k = nI c := (h.2.2.1 k hk).1
theorem X3_liesOn {L K p k : Nat} {lc lm lp lr : Nat → Int32} (h : IL L K lc lm lp lr) (hk : k < K) (hp : p < 32) : m_X3_liesOn (nI k) (nI p) lp lr = some (if bt (lp (rkN lr k)) p = true then 1 else 0) := by
  obtain ⟨h1, h2⟩ := h.rk hk
  have hL := h.1
  have hK := h.2.1
  unfold m_X3_liesOn
  simp (disch := omega) only [nI_clamp, gd_ix, h1, isIn_b hp, bsm, gd_bi]
/-- whether the lien at a place lies on a parcel -/
def bOn (lp lr : Nat → Int32) (p : Nat) : Nat → Bool := fun k => bt (lp (rkN lr k)) p

set_option maxHeartbeats 1000000 in
theorem X3_onParcel {L K p : Nat} {lc lm lp lr : Nat → Int32} (h : IL L K lc lm lp lr) (hp : p < 32) : m_X3_onParcel (nI p) (nI K) lp lr = some (foldN (sOr (bOn lp lr p) (fun k => pw (rkN lr k))) 0 K) := by
  unfold m_X3_onParcel
  have hL := h.1
  have hK := h.2.1
  refine for_up (c := K) (fun s x => (s, x)) (sOr (bOn lp lr p) (fun k => pw (rkN lr k))) 0 (by omega) (fun rec i hi => ?_) (fun rec => ?_)
  · generalize foldN (sOr (bOn lp lr p) (fun k => pw (rkN lr k))) 0 i = x
    have hl := X3_liesOn h hi hp
    obtain ⟨h1, h2⟩ := h.rk hi
    have hL := h.1
    have hK := h.2.1
    cases hb : bt (lp (rkN lr i)) p
    all_goals simp (disch := omega) only [m_X3_onParcel_L4, lp_go, sSum, sOr, sCnt, bIn, bEq, bOn, sV, nI_clamp, nI_1, bsm, nmd, gd_ix, gd_t, gd_bi, gd_b0, gd_b1, ite_b, ite_p, if_true, if_false, ite_true, ite_false, i10, i00, or0, add0, g0, g1, g2, g3, g4, g5, g6, c0, c1, c2, c3, c4, c5, c6, Bool.false_eq_true, decide_eq_true_eq, hl, hb, h1]
  · simp (disch := omega) only [m_X3_onParcel_L4, lp_end, Nat.le_refl, nI_clamp, nI_1, bsm, nmd, gd_ix, gd_t, gd_bi, gd_b0, gd_b1, ite_b, ite_p, if_true, if_false, ite_true, ite_false, i10, i00, or0, add0, g0, g1, g2, g3, g4, g5, g6, c0, c1, c2, c3, c4, c5, c6, Bool.false_eq_true, decide_eq_true_eq]

set_option maxHeartbeats 1000000 in
theorem X3_sumOn {L K p : Nat} {lc lm lp lr : Nat → Int32} (h : IL L K lc lm lp lr) (hp : p < 32) : m_X3_sumOn (nI p) (nI K) lm lp lr = some (foldN (sSum (bOn lp lr p) (fun k => lm (rkN lr k))) 0 K) := by
  unfold m_X3_sumOn
  have hL := h.1
  have hK := h.2.1
  refine for_up (c := K) (fun s x => (s, x)) (sSum (bOn lp lr p) (fun k => lm (rkN lr k))) 0 (by omega) (fun rec i hi => ?_) (fun rec => ?_)
  · generalize foldN (sSum (bOn lp lr p) (fun k => lm (rkN lr k))) 0 i = x
    have hl := X3_liesOn h hi hp
    obtain ⟨h1, h2⟩ := h.rk hi
    have hL := h.1
    have hK := h.2.1
    cases hb : bt (lp (rkN lr i)) p
    all_goals simp (disch := omega) only [m_X3_sumOn_L4, lp_go, sSum, sOr, sCnt, bIn, bEq, bOn, sV, nI_clamp, nI_1, bsm, nmd, gd_ix, gd_t, gd_bi, gd_b0, gd_b1, ite_b, ite_p, if_true, if_false, ite_true, ite_false, i10, i00, or0, add0, g0, g1, g2, g3, g4, g5, g6, c0, c1, c2, c3, c4, c5, c6, Bool.false_eq_true, decide_eq_true_eq, hl, hb, h1]
  · simp (disch := omega) only [m_X3_sumOn_L4, lp_end, Nat.le_refl, nI_clamp, nI_1, bsm, nmd, gd_ix, gd_t, gd_bi, gd_b0, gd_b1, ite_b, ite_p, if_true, if_false, ite_true, ite_false, i10, i00, or0, add0, g0, g1, g2, g3, g4, g5, g6, c0, c1, c2, c3, c4, c5, c6, Bool.false_eq_true, decide_eq_true_eq]

set_option maxHeartbeats 1000000 in
theorem X3_sumOfAll {L K : Nat} {lc lm lp lr : Nat → Int32} (h : IL L K lc lm lp lr) : m_X3_sumOfAll (nI K) lm lr = some (foldN (sV (fun k => lm (rkN lr k))) 0 K) := by
  unfold m_X3_sumOfAll
  have hL := h.1
  have hK := h.2.1
  refine for_up (c := K) (fun s x => (s, x)) (sV (fun k => lm (rkN lr k))) 0 (by omega) (fun rec i hi => ?_) (fun rec => ?_)
  · generalize foldN (sV (fun k => lm (rkN lr k))) 0 i = x
    obtain ⟨h1, h2⟩ := h.rk hi
    have hL := h.1
    have hK := h.2.1
    simp (disch := omega) only [m_X3_sumOfAll_L4, lp_go, sSum, sOr, sCnt, bIn, bEq, bOn, sV, nI_clamp, nI_1, bsm, nmd, gd_ix, gd_t, gd_bi, gd_b0, gd_b1, ite_b, ite_p, if_true, if_false, ite_true, ite_false, i10, i00, or0, add0, g0, g1, g2, g3, g4, g5, g6, c0, c1, c2, c3, c4, c5, c6, Bool.false_eq_true, decide_eq_true_eq, h1]
  · simp (disch := omega) only [m_X3_sumOfAll_L4, lp_end, Nat.le_refl, nI_clamp, nI_1, bsm, nmd, gd_ix, gd_t, gd_bi, gd_b0, gd_b1, ite_b, ite_p, if_true, if_false, ite_true, ite_false, i10, i00, or0, add0, g0, g1, g2, g3, g4, g5, g6, c0, c1, c2, c3, c4, c5, c6, Bool.false_eq_true, decide_eq_true_eq]

/-- what a creditor gets: the rest of the price and the sum -/
def sPay (b : Nat → Bool) (v : Nat → Int32) (c : Nat → Bool) : Nat → Int32 × Int32 → Int32 × Int32 := fun k q => if b k = true then (q.1 - (if q.1 ≤ v k then q.1 else v k), if c k = true then q.2 + (if q.1 ≤ v k then q.1 else v k) else q.2) else q
theorem min_e {a b : Int32} : (if a < b then a else b) = if b ≤ a then b else a := by
  by_cases h : b ≤ a
  · rw [if_pos h, if_neg (Int32.not_lt.mpr h)]
  · rw [if_neg h, if_pos (Int32.not_le.mp h)]
def bCr (lc lr : Nat → Int32) (x : Int32) : Nat → Bool := fun k => decide (lc (rkN lr k) = x)

set_option maxHeartbeats 1000000 in
theorem X3_paidTo {L K p : Nat} {lc lm lp lr : Nat → Int32} (h : IL L K lc lm lp lr) (hp : p < 32) (x y : Int32) : m_X3_paidTo x (nI p) y (nI K) lc lm lp lr = some (foldN (sPay (bOn lp lr p) (fun k => lm (rkN lr k)) (bCr lc lr x)) (y, 0) K).2 := by
  unfold m_X3_paidTo
  have hL := h.1
  have hK := h.2.1
  refine for_up (c := K) (fun (s : Int32 × Int32) z => (s.1, s.2, z)) (sPay (bOn lp lr p) (fun k => lm (rkN lr k)) (bCr lc lr x)) (y, 0) (by omega) (fun rec i hi => ?_) (fun rec => ?_)
  · generalize foldN (sPay (bOn lp lr p) (fun k => lm (rkN lr k)) (bCr lc lr x)) (y, 0) i = x
    obtain ⟨x1, x2⟩ := x
    have hl := X3_liesOn h hi hp
    obtain ⟨h1, h2⟩ := h.rk hi
    have hL := h.1
    have hK := h.2.1
    cases hb : bt (lp (rkN lr i)) p
    all_goals by_cases hc : lc (rkN lr i) = x
    all_goals simp (disch := omega) only [m_X3_paidTo_L9, lp_go, sPay, bOn, bCr, nI_clamp, nI_1, bsm, nmd, gd_ix, gd_t, gd_bi, gd_b0, gd_b1, ite_b, ite_p, if_true, if_false, ite_true, ite_false, i10, i00, or0, add0, g0, g1, g2, g3, g4, g5, g6, c0, c1, c2, c3, c4, c5, c6, Bool.false_eq_true, decide_eq_true_eq, hl, hb, h1, hc, min_e]
  · simp (disch := omega) only [m_X3_paidTo_L9, lp_end, Nat.le_refl, nI_clamp, nI_1, bsm, nmd, gd_ix, gd_t, gd_bi, gd_b0, gd_b1, ite_b, ite_p, if_true, if_false, ite_true, ite_false, i10, i00, or0, add0, g0, g1, g2, g3, g4, g5, g6, c0, c1, c2, c3, c4, c5, c6, Bool.false_eq_true, decide_eq_true_eq]

theorem X3_placeOf {L K : Nat} {lc lm lp lr : Nat → Int32} (h : IL L K lc lm lp lr) (x : Int32) : m_X3_placeOf x (nI K) lr = some (match fnd (bEq lr x) K with | some i => nI i | none => -1) := by
  have hL := h.1
  have hK := h.2.1
  unfold m_X3_placeOf
  refine (for_find (c := K) (bEq lr x) (fun i => nI i) (fun i => some (nI i)) (dflt := some (-1)) (by omega) (fun rec i hi hb => ?_) (fun rec i hi hb => ?_) (fun rec => ?_)).trans ?_
  · simp (disch := omega) only [m_X3_placeOf_L2, lp_go, bEq_f.mp hb, nI_clamp, nI_1, bsm, nmd, gd_ix, gd_t, gd_bi, gd_b0, gd_b1, ite_b, ite_p, if_true, if_false, ite_true, ite_false, i10, i00, or0, add0, g0, g1, g2, g3, g4, g5, g6, c0, c1, c2, c3, c4, c5, c6, Bool.false_eq_true, decide_eq_true_eq]
  · simp (disch := omega) only [m_X3_placeOf_L2, lp_go, bEq_t.mp hb, nI_clamp, nI_1, bsm, nmd, gd_ix, gd_t, gd_bi, gd_b0, gd_b1, ite_b, ite_p, if_true, if_false, ite_true, ite_false, i10, i00, or0, add0, g0, g1, g2, g3, g4, g5, g6, c0, c1, c2, c3, c4, c5, c6, Bool.false_eq_true, decide_eq_true_eq]
  · simp (disch := omega) only [m_X3_placeOf_L2, lp_end, Nat.le_refl, nI_clamp, nI_1, bsm, nmd, gd_ix, gd_t, gd_bi, gd_b0, gd_b1, ite_b, ite_p, if_true, if_false, ite_true, ite_false, i10, i00, or0, add0, g0, g1, g2, g3, g4, g5, g6, c0, c1, c2, c3, c4, c5, c6, Bool.false_eq_true, decide_eq_true_eq]
  · cases fnd (bEq lr x) K <;> rfl

set_option maxHeartbeats 1000000 in
theorem X8_rankOf0 {L K : Nat} {lc lm lp lr n : Nat → Int32} (h : IL L K lc lm lp lr) (hV : VL L K lc lm lp lr n) (w : Int32) : m_X8_rankOf w n = some (foldN (fun k r => if lr k = w then nI k else r) (-1) K) := by
  unfold m_X8_rankOf
  have hL := h.1
  have hK := h.2.1
  refine for_up (c := K) (fun s x => (s, x)) (fun k r => if lr k = w then nI k else r) (-1) (by omega) (fun rec i hi => ?_) (fun rec => ?_)
  · generalize foldN (fun k r => if lr k = w then nI k else r) (-1) i = x
    have hn := hV.lr hi
    by_cases hb : lr i = w
    all_goals simp (disch := omega) only [m_X8_rankOf_L4, lp_go, sSum, sOr, sCnt, bIn, bEq, nI_clamp, nI_1, bsm, nmd, gd_ix, gd_t, gd_bi, gd_b0, gd_b1, ite_b, ite_p, if_true, if_false, ite_true, ite_false, i10, i00, or0, add0, g0, g1, g2, g3, g4, g5, g6, c0, c1, c2, c3, c4, c5, c6, Bool.false_eq_true, decide_eq_true_eq, rk_ix, rk_cl, hV.2.1, hn, hb]
  · simp (disch := omega) only [m_X8_rankOf_L4, lp_end, Nat.le_refl, nI_clamp, nI_1, bsm, nmd, gd_ix, gd_t, gd_bi, gd_b0, gd_b1, ite_b, ite_p, if_true, if_false, ite_true, ite_false, i10, i00, or0, add0, g0, g1, g2, g3, g4, g5, g6, c0, c1, c2, c3, c4, c5, c6, Bool.false_eq_true, decide_eq_true_eq, hV.2.1]

theorem X8_rankOf {L K : Nat} {lc lm lp lr n : Nat → Int32} (h : IL L K lc lm lp lr) (hV : VL L K lc lm lp lr n) (x : Int32) : m_X8_rankOf x n = some (match fnd (bEq lr x) K with | some i => nI i | none => -1) := by
  rw [X8_rankOf0 h hV x]
  congr 1
  have key : ∀ m, m ≤ K → foldN (fun k r => if lr k = x then nI k else r) (-1) m = match fnd (bEq lr x) m with | some i => nI i | none => -1 := by
    intro m
    induction m with
    | zero => intro _; rfl
    | succ m ih =>
      intro hm
      rw [foldN_s, ih (by omega), fnd_s]
      cases hf : fnd (bEq lr x) m with
      | some i =>
        obtain ⟨h1, h2, h3⟩ := fnd_some hf
        have : ¬ lr m = x := fun e => by
          have := h.inj (by omega) (by omega) (e.trans (bEq_t.mp h2).symm)
          omega
        simp only [this, if_false]
      | none =>
        by_cases e : lr m = x
        · simp only [e, if_true, bEq_t.mpr e]
        · simp only [e, if_false, bEq_f.mpr e, Bool.false_eq_true]
  exact key K (Nat.le_refl K)

set_option maxHeartbeats 1000000 in
theorem X8_liensOn {L K p : Nat} {lc lm lp lr n : Nat → Int32} (h : IL L K lc lm lp lr) (hV : VL L K lc lm lp lr n) (hp : p < 32) : m_X8_liensOn (nI p) n = some (foldN (sOr (bOn lp lr p) (fun k => pw (rkN lr k))) 0 K) := by
  unfold m_X8_liensOn
  have hL := h.1
  have hK := h.2.1
  refine for_up (c := K) (fun s x => (s, x)) (sOr (bOn lp lr p) (fun k => pw (rkN lr k))) 0 (by omega) (fun rec i hi => ?_) (fun rec => ?_)
  · generalize foldN (sOr (bOn lp lr p) (fun k => pw (rkN lr k))) 0 i = x
    obtain ⟨h1, h2⟩ := h.rk hi
    have hn := hV.lr hi
    have hL := h.1
    have hK := h.2.1
    have ho := hV.lp hL h2
    have hm := hV.lm hL h2
    have hc := hV.lc hL h2
    cases hb : bt (lp (rkN lr i)) p
    all_goals simp (disch := omega) only [m_X8_liensOn_L4, lp_go, sSum, sOr, sCnt, bIn, bEq, bOn, sV, nI_clamp, nI_1, bsm, nmd, gd_ix, gd_t, gd_bi, gd_b0, gd_b1, ite_b, ite_p, if_true, if_false, ite_true, ite_false, i10, i00, or0, add0, g0, g1, g2, g3, g4, g5, g6, c0, c1, c2, c3, c4, c5, c6, Bool.false_eq_true, decide_eq_true_eq, rk_ix, rk_cl, hV.2.1, hn, h1, ho, hm, has_b, m_X8_bit, hb]
  · simp (disch := omega) only [m_X8_liensOn_L4, lp_end, Nat.le_refl, nI_clamp, nI_1, bsm, nmd, gd_ix, gd_t, gd_bi, gd_b0, gd_b1, ite_b, ite_p, if_true, if_false, ite_true, ite_false, i10, i00, or0, add0, g0, g1, g2, g3, g4, g5, g6, c0, c1, c2, c3, c4, c5, c6, Bool.false_eq_true, decide_eq_true_eq, hV.2.1]

set_option maxHeartbeats 1000000 in
theorem X8_sumOfLiens {L K : Nat} {lc lm lp lr n : Nat → Int32} (h : IL L K lc lm lp lr) (hV : VL L K lc lm lp lr n) : m_X8_sumOfLiens n = some (foldN (sV (fun k => lm (rkN lr k))) 0 K) := by
  unfold m_X8_sumOfLiens
  have hL := h.1
  have hK := h.2.1
  refine for_up (c := K) (fun s x => (s, x)) (sV (fun k => lm (rkN lr k))) 0 (by omega) (fun rec i hi => ?_) (fun rec => ?_)
  · generalize foldN (sV (fun k => lm (rkN lr k))) 0 i = x
    obtain ⟨h1, h2⟩ := h.rk hi
    have hn := hV.lr hi
    have hL := h.1
    have hK := h.2.1
    have ho := hV.lp hL h2
    have hm := hV.lm hL h2
    have hc := hV.lc hL h2
    simp (disch := omega) only [m_X8_sumOfLiens_L4, lp_go, sSum, sOr, sCnt, bIn, bEq, bOn, sV, nI_clamp, nI_1, bsm, nmd, gd_ix, gd_t, gd_bi, gd_b0, gd_b1, ite_b, ite_p, if_true, if_false, ite_true, ite_false, i10, i00, or0, add0, g0, g1, g2, g3, g4, g5, g6, c0, c1, c2, c3, c4, c5, c6, Bool.false_eq_true, decide_eq_true_eq, rk_ix, rk_cl, hV.2.1, hn, h1, ho, hm, has_b, m_X8_bit]
  · simp (disch := omega) only [m_X8_sumOfLiens_L4, lp_end, Nat.le_refl, nI_clamp, nI_1, bsm, nmd, gd_ix, gd_t, gd_bi, gd_b0, gd_b1, ite_b, ite_p, if_true, if_false, ite_true, ite_false, i10, i00, or0, add0, g0, g1, g2, g3, g4, g5, g6, c0, c1, c2, c3, c4, c5, c6, Bool.false_eq_true, decide_eq_true_eq, hV.2.1]

set_option maxHeartbeats 1000000 in
theorem X8_payments {L K p : Nat} {lc lm lp lr n : Nat → Int32} (h : IL L K lc lm lp lr) (hV : VL L K lc lm lp lr n) (hp : p < 32) (x y : Int32) : m_X8_payments (nI p) y x n = some (foldN (sPay (bOn lp lr p) (fun k => lm (rkN lr k)) (fun k => decide (x < 0) || bCr lc lr x k)) (y, 0) K).2 := by
  unfold m_X8_payments
  have hL := h.1
  have hK := h.2.1
  refine for_up (c := K) (fun (s : Int32 × Int32) z => (s.1, s.2, z)) (sPay (bOn lp lr p) (fun k => lm (rkN lr k)) (fun k => decide (x < 0) || bCr lc lr x k)) (y, 0) (by omega) (fun rec i hi => ?_) (fun rec => ?_)
  · generalize foldN (sPay (bOn lp lr p) (fun k => lm (rkN lr k)) (fun k => decide (x < 0) || bCr lc lr x k)) (y, 0) i = x
    obtain ⟨x1, x2⟩ := x
    obtain ⟨h1, h2⟩ := h.rk hi
    have hn := hV.lr hi
    have hL := h.1
    have hK := h.2.1
    have ho := hV.lp hL h2
    have hm := hV.lm hL h2
    have hcc := hV.lc hL h2
    cases hb : bt (lp (rkN lr i)) p
    all_goals by_cases hc : x < 0
    all_goals by_cases hd : lc (rkN lr i) = x
    all_goals by_cases he : x1 ≤ lm (rkN lr i)
    all_goals simp (disch := omega) only [m_X8_payments_L9, lp_go, sPay, bOn, bCr, nI_clamp, nI_1, bsm, nmd, gd_ix, gd_t, gd_bi, gd_b0, gd_b1, ite_b, ite_p, if_true, if_false, ite_true, ite_false, i10, i00, or0, add0, g0, g1, g2, g3, g4, g5, g6, c0, c1, c2, c3, c4, c5, c6, Bool.false_eq_true, decide_eq_true_eq, rk_ix, rk_cl, hV.2.1, hn, h1, ho, hm, hcc, hc, hd, he, m_X8_payments_J71, Bool.or_eq_true, true_or, or_true, or_self, or_false, false_or,  has_b, m_X8_bit, hb]
  · simp (disch := omega) only [m_X8_payments_L9, lp_end, Nat.le_refl, nI_clamp, nI_1, bsm, nmd, gd_ix, gd_t, gd_bi, gd_b0, gd_b1, ite_b, ite_p, if_true, if_false, ite_true, ite_false, i10, i00, or0, add0, g0, g1, g2, g3, g4, g5, g6, c0, c1, c2, c3, c4, c5, c6, Bool.false_eq_true, decide_eq_true_eq, hV.2.1]

/-- how many below n -/
def cN (b : Nat → Bool) : Nat → Nat
  | 0 => 0
  | n + 1 => cN b n + (if b n = true then 1 else 0)
theorem cN_s {b : Nat → Bool} {n : Nat} : cN b (n + 1) = cN b n + (if b n = true then 1 else 0) := rfl
theorem cN_le (b : Nat → Bool) (n : Nat) : cN b n ≤ n := by
  induction n with
  | zero => exact Nat.le_refl 0
  | succ n ih =>
    rw [cN_s]
    by_cases h : b n = true
    · rw [if_pos h]; omega
    · rw [if_neg h]; omega
theorem cN_lt {b : Nat → Bool} {j k : Nat} (hj : j < k) (hb : b j = true) : cN b j < cN b k := by
  induction k with
  | zero => omega
  | succ k ih =>
    rw [cN_s]
    by_cases e : j = k
    · subst e; rw [if_pos hb]; omega
    · have := ih (by omega)
      by_cases h : b k = true
      · rw [if_pos h]; omega
      · rw [if_neg h]; omega
theorem cN_fold (b : Nat → Bool) (n : Nat) : foldN (sCnt b) 0 n = nI (cN b n) := by
  induction n with
  | zero => rfl
  | succ n ih =>
    rw [foldN_s, ih, cN_s]
    cases h : b n with
    | true => rw [sCnt_t h, if_pos rfl, nI_1]
    | false => rw [sCnt_f h, if_neg (by decide)]; rfl
theorem cN_c {b b' : Nat → Bool} {n : Nat} (h : ∀ k, k < n → b k = b' k) : cN b n = cN b' n := by
  induction n with
  | zero => rfl
  | succ n ih => rw [cN_s, cN_s, ih fun k hk => h k (by omega), h n (by omega)]
/-- the wanted one of those of which b holds -/
def bSel (b : Nat → Bool) (x : Int32) : Nat → Bool := fun k => b k && decide (nI (cN b k) = x)
theorem bSel_t {b : Nat → Bool} {x : Int32} {k : Nat} : bSel b x k = true ↔ b k = true ∧ nI (cN b k) = x := by
  unfold bSel
  rw [Bool.and_eq_true, decide_eq_true_iff]
theorem bSel_f {b : Nat → Bool} {x : Int32} {k : Nat} (h : bSel b x k = false) : b k = false ∨ b k = true ∧ ¬ nI (cN b k) = x := by
  cases hb : b k with
  | false => exact Or.inl rfl
  | true => exact Or.inr ⟨rfl, fun q => by rw [bSel_t.mpr ⟨hb, q⟩] at h; cases h⟩
theorem bSel_one {b : Nat → Bool} {x : Int32} {i j : Nat} (hi : i < 1000) (hj : j < 1000) (h1 : bSel b x i = true) (h2 : bSel b x j = true) : i = j := by
  obtain ⟨a1, a2⟩ := bSel_t.mp h1
  obtain ⟨b1, b2⟩ := bSel_t.mp h2
  have l1 := cN_le b i
  have l2 := cN_le b j
  have e := (nI_eq (by omega) (by omega)).mp (a2.trans b2.symm)
  rcases Nat.lt_trichotomy i j with q | q | q
  · have := cN_lt q a1; omega
  · exact q
  · have := cN_lt q b1; omega
theorem X3_atPlace {L K p : Nat} {lc lm lp lr : Nat → Int32} (h : IL L K lc lm lp lr) (hp : p < 32) (x : Int32) : m_X3_atPlace (nI p) x (nI K) lp lr = some (match fnd (bSel (bOn lp lr p) x) K with | some i => lr i | none => -1) := by
  have hL := h.1
  have hK := h.2.1
  unfold m_X3_atPlace
  refine (for_find (c := K) (bSel (bOn lp lr p) x) (fun i => (nI (cN (bOn lp lr p) i), nI i)) (fun i => some (lr i)) (dflt := some (-1)) (by omega) (fun rec i hi hb => ?_) (fun rec i hi hb => ?_) (fun rec => ?_)).trans ?_
  · have hl := X3_liesOn h hi hp
    rcases bSel_f hb with h1 | ⟨h1, h2⟩
    · simp (disch := omega) only [m_X3_atPlace_L5, lp_go, hl, cN_s, h1, Nat.add_zero, show bt (lp (rkN lr i)) p = false from h1, nI_clamp, nI_1, bsm, nmd, gd_ix, gd_t, gd_bi, gd_b0, gd_b1, ite_b, ite_p, if_true, if_false, ite_true, ite_false, i10, i00, or0, add0, g0, g1, g2, g3, g4, g5, g6, c0, c1, c2, c3, c4, c5, c6, Bool.false_eq_true, decide_eq_true_eq]
    · simp (disch := omega) only [m_X3_atPlace_L5, lp_go, hl, cN_s, h1, h2, show bt (lp (rkN lr i)) p = true from h1, nI_clamp, nI_1, bsm, nmd, gd_ix, gd_t, gd_bi, gd_b0, gd_b1, ite_b, ite_p, if_true, if_false, ite_true, ite_false, i10, i00, or0, add0, g0, g1, g2, g3, g4, g5, g6, c0, c1, c2, c3, c4, c5, c6, Bool.false_eq_true, decide_eq_true_eq]
  · have hl := X3_liesOn h hi hp
    obtain ⟨h1, h2⟩ := bSel_t.mp hb
    simp (disch := omega) only [m_X3_atPlace_L5, lp_go, hl, h1, h2, show bt (lp (rkN lr i)) p = true from h1, nI_clamp, nI_1, bsm, nmd, gd_ix, gd_t, gd_bi, gd_b0, gd_b1, ite_b, ite_p, if_true, if_false, ite_true, ite_false, i10, i00, or0, add0, g0, g1, g2, g3, g4, g5, g6, c0, c1, c2, c3, c4, c5, c6, Bool.false_eq_true, decide_eq_true_eq]
  · simp (disch := omega) only [m_X3_atPlace_L5, lp_end, Nat.le_refl, nI_clamp, nI_1, bsm, nmd, gd_ix, gd_t, gd_bi, gd_b0, gd_b1, ite_b, ite_p, if_true, if_false, ite_true, ite_false, i10, i00, or0, add0, g0, g1, g2, g3, g4, g5, g6, c0, c1, c2, c3, c4, c5, c6, Bool.false_eq_true, decide_eq_true_eq]
  · cases fnd (bSel (bOn lp lr p) x) K <;> rfl
theorem lt_no {α : Type} {i j : Nat} {A B : α} {d : Decidable (nI i < nI j)} (h : j ≤ i) (hi : i < 2 ^ 31) : @ite α (nI i < nI j) d A B = B := if_neg (nI_nlt h hi)
theorem lt_yes {α : Type} {i j : Nat} {A B : α} {d : Decidable (nI i < nI j)} (h : i < j) (hi : j < 2 ^ 31) : @ite α (nI i < nI j) d A B = A := if_pos (nI_lt h hi)

