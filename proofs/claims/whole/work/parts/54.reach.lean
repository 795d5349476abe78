/-! Sets that grow: what is reached over easements, over borders. -/
def Low (m : Int32) (c : Nat) : Prop := ∀ i, c ≤ i → bt m i = false
def SubM (m q : Int32) : Prop := ∀ i, bt m i = true → bt q i = true
theorem SubM.rf (m : Int32) : SubM m m := fun _ h => h
theorem SubM.tr {a b c : Int32} (h : SubM a b) (g : SubM b c) : SubM a c := fun i q => g i (h i q)
theorem SubM.eq {a b : Int32} (h : SubM a b) (g : SubM b a) : a = b := b_ext fun i _ => by
  cases ha : bt a i with
  | true => exact (h i ha).symm
  | false =>
    cases hb : bt b i with
    | false => rfl
    | true => rw [g i hb] at ha; cases ha
theorem SubM.orl (a b : Int32) : SubM a (a ||| b) := fun i h => by rw [b_or, h, Bool.true_or]
theorem SubM.or {a b c : Int32} (h : SubM a c) (g : SubM b c) : SubM (a ||| b) c := fun i q => by
  rw [b_or, Bool.or_eq_true] at q
  exact q.elim (h i) (g i)
theorem Low.or {a b : Int32} {c : Nat} (h : Low a c) (g : Low b c) : Low (a ||| b) c := fun i q => by rw [b_or, h i q, g i q]; rfl
theorem Low.pw {k c : Nat} (h : k < c) (hc : c ≤ 32) : Low (pw k) c := fun i q => by
  rw [b_pw (by omega)]
  exact decide_eq_false (by omega)
theorem Low.sub {a b : Int32} {c : Nat} (h : Low b c) (g : SubM a b) : Low a c := fun i q => by
  cases ha : bt a i with
  | false => rfl
  | true =>
    have := g i ha
    rw [h i q] at this
    exact this.symm
theorem cN_mono {b b' : Nat → Bool} {n : Nat} (h : ∀ k, k < n → b k = true → b' k = true) : cN b n ≤ cN b' n := by
  induction n with
  | zero => exact Nat.le_refl _
  | succ n ih =>
    have := ih fun k hk => h k (by omega)
    rw [cN_s, cN_s]
    by_cases q : b n = true
    · rw [if_pos q, if_pos (h n (by omega) q)]; omega
    · rw [if_neg q]; omega
theorem cN_mono_lt {b b' : Nat → Bool} {n i : Nat} (h : ∀ k, k < n → b k = true → b' k = true) (hi : i < n) (h1 : b i = false) (h2 : b' i = true) : cN b n < cN b' n := by
  induction n with
  | zero => omega
  | succ n ih =>
    rw [cN_s, cN_s]
    by_cases e : i = n
    · subst e
      have := cN_mono (n := i) fun k hk => h k (by omega)
      rw [h1, h2, if_neg (by decide), if_pos rfl]; omega
    · have := ih (fun k hk => h k (by omega)) (by omega)
      by_cases q : b n = true
      · rw [if_pos q, if_pos (h n (by omega) q)]; omega
      · rw [if_neg q]; omega
theorem card_lt {m q : Int32} {c : Nat} (hs : SubM m q) (hl : Low q c) (hne : ¬ m = q) : cN (bt m) c < cN (bt q) c := by
  by_cases h : ∃ i, i < c ∧ bt m i = false ∧ bt q i = true
  · obtain ⟨i, hi, h1, h2⟩ := h
    exact cN_mono_lt (fun k _ => hs k) hi h1 h2
  · refine absurd (hs.eq fun i hq => ?_) hne
    by_cases hi : i < c
    · cases hm : bt m i with
      | true => rfl
      | false => exact absurd ⟨i, hi, hm, hq⟩ h
    · rw [hl i (by omega)] at hq; cases hq
/-- the sets of a growing row -/
def grow (f : Int32 → Int32) (a : Int32) : Nat → Int32
  | 0 => a
  | n + 1 => f (grow f a n)
theorem grow_sub {f : Int32 → Int32} {a : Int32} (hf : ∀ m, SubM m (f m)) {i j : Nat} (h : i ≤ j) : SubM (grow f a i) (grow f a j) := by
  induction j with
  | zero => rw [show i = 0 by omega]; exact SubM.rf _
  | succ j ih =>
    by_cases e : i = j + 1
    · subst e; exact SubM.rf _
    · exact (ih (by omega)).tr (hf _)
theorem grow_stay {f : Int32 → Int32} {a : Int32} {i : Nat} (h : grow f a (i + 1) = grow f a i) : ∀ j, grow f a (i + j) = grow f a i := by
  intro j
  induction j with
  | zero => rfl
  | succ j ih =>
    show f (grow f a (i + j)) = _
    rw [ih]
    exact h
theorem grow_card {f : Int32 → Int32} {a : Int32} {c : Nat} (hf : ∀ m, SubM m (f m)) (hl : ∀ i, Low (grow f a i) c) (h0 : 1 ≤ cN (bt a) c) : ∀ n, (∀ j, j < n → ¬ grow f a (j + 1) = grow f a j) → n + 1 ≤ cN (bt (grow f a n)) c := by
  intro n
  induction n with
  | zero => intro _; exact h0
  | succ n ih =>
    intro h
    have h1 := ih fun j hj => h j (by omega)
    have h2 := card_lt (hf (grow f a n)) (hl (n + 1)) (fun q => h n (by omega) q.symm)
    show n + 1 + 1 ≤ cN (bt (f (grow f a n))) c
    omega
/-- it stays from some place on -/
theorem grow_stab {f : Int32 → Int32} {a : Int32} {c : Nat} (hf : ∀ m, SubM m (f m)) (hl : ∀ i, Low (grow f a i) c) (h0 : 1 ≤ cN (bt a) c) (hc : c ≤ 24) : ∃ s, s < 24 ∧ grow f a (s + 1) = grow f a s ∧ ∀ j, j < s → ¬ grow f a (j + 1) = grow f a j := by
  have key : ∀ n, (∃ s, s < n ∧ grow f a (s + 1) = grow f a s ∧ ∀ j, j < s → ¬ grow f a (j + 1) = grow f a j) ∨ ∀ j, j < n → ¬ grow f a (j + 1) = grow f a j := by
    intro n
    induction n with
    | zero => exact Or.inr fun j hj => by omega
    | succ n ih =>
      rcases ih with ⟨s, h1, h2, h3⟩ | h
      · exact Or.inl ⟨s, by omega, h2, h3⟩
      · by_cases q : grow f a (n + 1) = grow f a n
        · exact Or.inl ⟨n, by omega, q, h⟩
        · refine Or.inr fun j hj => ?_
          by_cases e : j = n
          · subst e; exact q
          · exact h j (by omega)
  rcases key 24 with h | h
  · exact h
  · have := grow_card hf hl h0 24 h
    have h2 := cN_le (bt (grow f a 24)) c
    omega
theorem card_pw {p c : Nat} (h : p < c) (hc : c ≤ 32) : 1 ≤ cN (bt (pw p)) c := by
  have h1 : bt (pw p) p = true := by rw [b_pw (by omega)]; exact decide_eq_true rfl
  have := cN_lt (b := bt (pw p)) h h1
  omega
theorem IE.on {E P dn : Nat} {ek eo es ef el : Nat → Int32} (h : IE E P dn ek eo es ef el) {k : Nat} (hk : k < E) : ∃ a, a < P ∧ eo k = nI a := (h.2 k hk).1
theorem IE.sv {E P dn : Nat} {ek eo es ef el : Nat → Int32} (h : IE E P dn ek eo es ef el) {k : Nat} (hk : k < E) : ∃ a, a < P ∧ es k = nI a := (h.2 k hk).2.1
theorem IE.day {E P dn : Nat} {ek eo es ef el : Nat → Int32} (h : IE E P dn ek eo es ef el) (hd : dn ≤ 9999) {k : Nat} (hk : k < E) : DayN (el k) := (h.2 k hk).2.2.1.imp id fun ⟨d, h1, e⟩ => ⟨d, by omega, e⟩
theorem X8_lasts {E P dn : Nat} {ek eo es ef el n : Nat → Int32} (h : VE E ek eo es ef el n) (hE : E ≤ 30) {k : Nat} (hk : k < E) (hd : DayN (el k)) : m_X8_lasts (nI k) n = some (if el k = -1 then 1 else 0) := by
  unfold m_X8_lasts
  rw [h.el hE hk, bsm]
  by_cases q : el k = -1
  · rw [if_pos q, if_neg (fun q2 => hd.ge.mp q2 q)]
  · rw [if_neg q, if_pos (hd.ge.mpr q)]

set_option maxHeartbeats 1000000 in
theorem X1_liveCount {E : Nat} (hE : E ≤ 30) (el : Nat → Int32) : m_X1_liveCount (nI E) el = some (foldN (sCnt (bEq el (-1))) 0 E) := by
  unfold m_X1_liveCount
  refine for_up (c := E) (fun s x => (s, x)) (sCnt (bEq el (-1))) 0 (by omega) (fun rec i hi => ?_) (fun rec => ?_)
  · generalize foldN (sCnt (bEq el (-1))) 0 i = x
    by_cases hb : el i = -1
    all_goals simp (disch := omega) only [m_X1_liveCount_L4, lp_go, sSum, sOr, sCnt, bIn, bEq, nI_clamp, nI_1, bsm, nmd, gd_ix, gd_t, gd_bi, gd_b0, gd_b1, ite_b, ite_p, if_true, if_false, ite_true, ite_false, i10, i00, or0, add0, g0, g1, g2, g3, g4, g5, g6, c0, c1, c2, c3, c4, c5, c6, Bool.false_eq_true, decide_eq_true_eq, hb]
  · simp (disch := omega) only [m_X1_liveCount_L4, lp_end, Nat.le_refl, nI_clamp, nI_1, bsm, nmd, gd_ix, gd_t, gd_bi, gd_b0, gd_b1, ite_b, ite_p, if_true, if_false, ite_true, ite_false, i10, i00, or0, add0, g0, g1, g2, g3, g4, g5, g6, c0, c1, c2, c3, c4, c5, c6, Bool.false_eq_true, decide_eq_true_eq]

set_option maxHeartbeats 1000000 in
theorem X8_countEasements {E : Nat} {ek eo es ef el n : Nat → Int32} (h : VE E ek eo es ef el n) (hE : E ≤ 30) (hd : ∀ k, k < E → DayN (el k)) : m_X8_countEasements n = some (foldN (sCnt (bEq el (-1))) 0 E) := by
  unfold m_X8_countEasements
  refine for_up (c := E) (fun s x => (s, x)) (sCnt (bEq el (-1))) 0 (by omega) (fun rec i hi => ?_) (fun rec => ?_)
  · generalize foldN (sCnt (bEq el (-1))) 0 i = x
    have hy := X8_lasts (P := 0) (dn := 0) h hE hi (hd i hi)
    by_cases hb : el i = -1
    all_goals simp (disch := omega) only [m_X8_countEasements_L4, lp_go, sSum, sOr, sCnt, bIn, bEq, nI_clamp, nI_1, bsm, nmd, gd_ix, gd_t, gd_bi, gd_b0, gd_b1, ite_b, ite_p, if_true, if_false, ite_true, ite_false, i10, i00, or0, add0, g0, g1, g2, g3, g4, g5, g6, c0, c1, c2, c3, c4, c5, c6, Bool.false_eq_true, decide_eq_true_eq, h.1, hy, hb]
  · simp (disch := omega) only [m_X8_countEasements_L4, lp_end, Nat.le_refl, nI_clamp, nI_1, bsm, nmd, gd_ix, gd_t, gd_bi, gd_b0, gd_b1, ite_b, ite_p, if_true, if_false, ite_true, ite_false, i10, i00, or0, add0, g0, g1, g2, g3, g4, g5, g6, c0, c1, c2, c3, c4, c5, c6, Bool.false_eq_true, decide_eq_true_eq, h.1]

/-- a live easement that lies on (serves) a parcel -/
def bLv (el v : Nat → Int32) (x : Int32) : Nat → Bool := fun k => decide (el k = -1) && decide (v k = x)

set_option maxHeartbeats 1000000 in
theorem X1_liveOn {E : Nat} (hE : E ≤ 30) (eo el : Nat → Int32) (y : Int32) : m_X1_liveOn y (nI E) eo el = some (foldN (sOr (bLv el eo y) pw) 0 E) := by
  unfold m_X1_liveOn
  refine for_up (c := E) (fun s x => (s, x)) (sOr (bLv el eo y) pw) 0 (by omega) (fun rec i hi => ?_) (fun rec => ?_)
  · generalize foldN (sOr (bLv el eo y) pw) 0 i = x
    by_cases hb : el i = -1
    all_goals by_cases hc : eo i = y
    all_goals simp (disch := omega) only [m_X1_liveOn_L4, lp_go, sSum, sOr, sCnt, bIn, bEq, bLv, Bool.and_eq_true, and_true, true_and, and_false, false_and, and_self, nI_clamp, nI_1, bsm, nmd, gd_ix, gd_t, gd_bi, gd_b0, gd_b1, ite_b, ite_p, if_true, if_false, ite_true, ite_false, i10, i00, or0, add0, g0, g1, g2, g3, g4, g5, g6, c0, c1, c2, c3, c4, c5, c6, Bool.false_eq_true, decide_eq_true_eq, hb, hc]
  · simp (disch := omega) only [m_X1_liveOn_L4, lp_end, Nat.le_refl, nI_clamp, nI_1, bsm, nmd, gd_ix, gd_t, gd_bi, gd_b0, gd_b1, ite_b, ite_p, if_true, if_false, ite_true, ite_false, i10, i00, or0, add0, g0, g1, g2, g3, g4, g5, g6, c0, c1, c2, c3, c4, c5, c6, Bool.false_eq_true, decide_eq_true_eq]

set_option maxHeartbeats 1000000 in
theorem X1_liveFor {E : Nat} (hE : E ≤ 30) (es el : Nat → Int32) (y : Int32) : m_X1_liveFor y (nI E) es el = some (foldN (sOr (bLv el es y) pw) 0 E) := by
  unfold m_X1_liveFor
  refine for_up (c := E) (fun s x => (s, x)) (sOr (bLv el es y) pw) 0 (by omega) (fun rec i hi => ?_) (fun rec => ?_)
  · generalize foldN (sOr (bLv el es y) pw) 0 i = x
    by_cases hb : el i = -1
    all_goals by_cases hc : es i = y
    all_goals simp (disch := omega) only [m_X1_liveFor_L4, lp_go, sSum, sOr, sCnt, bIn, bEq, bLv, Bool.and_eq_true, and_true, true_and, and_false, false_and, and_self, nI_clamp, nI_1, bsm, nmd, gd_ix, gd_t, gd_bi, gd_b0, gd_b1, ite_b, ite_p, if_true, if_false, ite_true, ite_false, i10, i00, or0, add0, g0, g1, g2, g3, g4, g5, g6, c0, c1, c2, c3, c4, c5, c6, Bool.false_eq_true, decide_eq_true_eq, hb, hc]
  · simp (disch := omega) only [m_X1_liveFor_L4, lp_end, Nat.le_refl, nI_clamp, nI_1, bsm, nmd, gd_ix, gd_t, gd_bi, gd_b0, gd_b1, ite_b, ite_p, if_true, if_false, ite_true, ite_false, i10, i00, or0, add0, g0, g1, g2, g3, g4, g5, g6, c0, c1, c2, c3, c4, c5, c6, Bool.false_eq_true, decide_eq_true_eq]

/-- a live easement of a kind that serves one of a set -/
def bLy (ek es el : Nat → Int32) (x m : Int32) : Nat → Bool := fun k => decide (el k = -1) && decide (ek k = x) && bt m (es k).toNatClampNeg

set_option maxHeartbeats 1000000 in
theorem X1_lyingFor {E P dn : Nat} {ek eo es ef el : Nat → Int32} (h : IE E P dn ek eo es ef el) (hP : P ≤ 24) (m y : Int32) : m_X1_lyingFor m y (nI E) ek eo es el = some (foldN (sOr (bLy ek es el y m) (fun k => pw (eo k).toNatClampNeg)) 0 E) := by
  unfold m_X1_lyingFor
  have hE := h.1
  refine for_up (c := E) (fun s x => (s, x)) (sOr (bLy ek es el y m) (fun k => pw (eo k).toNatClampNeg)) 0 (by omega) (fun rec i hi => ?_) (fun rec => ?_)
  · generalize foldN (sOr (bLy ek es el y m) (fun k => pw (eo k).toNatClampNeg)) 0 i = x
    obtain ⟨a, ha, ho⟩ := h.on hi
    obtain ⟨b, hbb, hs⟩ := h.sv hi
    have hE := h.1
    by_cases hb : el i = -1
    all_goals by_cases hc : ek i = y
    all_goals cases hd : bt m b
    all_goals simp (disch := omega) only [m_X1_lyingFor_L5, lp_go, sSum, sOr, sCnt, bIn, bEq, bLv, Bool.and_eq_true, and_true, true_and, and_false, false_and, and_self, bLy, nI_clamp, nI_1, bsm, nmd, gd_ix, gd_t, gd_bi, gd_b0, gd_b1, ite_b, ite_p, if_true, if_false, ite_true, ite_false, i10, i00, or0, add0, g0, g1, g2, g3, g4, g5, g6, c0, c1, c2, c3, c4, c5, c6, Bool.false_eq_true, decide_eq_true_eq, hb, hc, hd, hs, ho, isIn_b]
  · simp (disch := omega) only [m_X1_lyingFor_L5, lp_end, Nat.le_refl, nI_clamp, nI_1, bsm, nmd, gd_ix, gd_t, gd_bi, gd_b0, gd_b1, ite_b, ite_p, if_true, if_false, ite_true, ite_false, i10, i00, or0, add0, g0, g1, g2, g3, g4, g5, g6, c0, c1, c2, c3, c4, c5, c6, Bool.false_eq_true, decide_eq_true_eq]

/-- one round of the class's way -/
def lyC (E : Nat) (ek eo es el : Nat → Int32) (y m : Int32) : Int32 := m ||| foldN (sOr (bLy ek es el y m) (fun k => pw (eo k).toNatClampNeg)) 0 E
/-- one of the reference's -/
def lyR (E : Nat) (ek eo es el : Nat → Int32) (y m : Int32) : Int32 := foldN (fun k s => if bLy ek es el y s k = true then s ||| pw (eo k).toNatClampNeg else s) m E
theorem foldN_grow (f : Int32 → Int32) (a : Int32) (n : Nat) : foldN (fun _ m => f m) a n = grow f a n := by
  induction n with
  | zero => rfl
  | succ n ih => rw [foldN_s, ih]; rfl
set_option maxHeartbeats 1000000 in
theorem X1_reachedFrom {E P dn p : Nat} {ek eo es ef el : Nat → Int32} (h : IE E P dn ek eo es ef el) (hP : P ≤ 24) (hp : p < 32) (y : Int32) : m_X1_reachedFrom (nI p) y (nI E) ek eo es el = some (grow (lyC E ek eo es el y) (pw p) 24 &&& (pw p ^^^ (-1))) := by
  unfold m_X1_reachedFrom
  refine for_up (c := 24) (fun s x => (s, x)) (fun _ m => lyC E ek eo es el y m) (pw p) (by omega) (fun rec i hi => ?_) (fun rec => ?_)
  · generalize foldN (fun _ m => lyC E ek eo es el y m) (pw p) i = x
    have hl := X1_lyingFor h hP x y
    have e : ¬ (24 : Int32) ≤ nI i := nI_ge (b := 24) hi (by decide)
    simp (disch := omega) only [m_X1_reachedFrom_L7, e, hl, lyC, nI_clamp, nI_1, bsm, nmd, gd_ix, gd_t, gd_bi, gd_b0, gd_b1, ite_b, ite_p, if_true, if_false, ite_true, ite_false, i10, i00, or0, add0, g0, g1, g2, g3, g4, g5, g6, c0, c1, c2, c3, c4, c5, c6, Bool.false_eq_true, decide_eq_true_eq]
  · have e : (24 : Int32) ≤ nI 24 := by decide
    simp (disch := omega) only [m_X1_reachedFrom_L7, e, foldN_grow, nI_clamp, nI_1, bsm, nmd, gd_ix, gd_t, gd_bi, gd_b0, gd_b1, ite_b, ite_p, if_true, if_false, ite_true, ite_false, i10, i00, or0, add0, g0, g1, g2, g3, g4, g5, g6, c0, c1, c2, c3, c4, c5, c6, Bool.false_eq_true, decide_eq_true_eq]
/-- closed under the easements of a kind -/
def ClE (E : Nat) (ek eo es el : Nat → Int32) (y m : Int32) : Prop := ∀ k, k < E → bLy ek es el y m k = true → bt m (eo k).toNatClampNeg = true
theorem lyC_stab {E P dn : Nat} {ek eo es ef el : Nat → Int32} (h : IE E P dn ek eo es ef el) (hP : P ≤ 24) {y m : Int32} (e : lyC E ek eo es el y m = m) : ClE E ek eo es el y m := fun k hk hb => by
  obtain ⟨a, ha, ho⟩ := h.on hk
  have h1 : bt (lyC E ek eo es el y m) (eo k).toNatClampNeg = true := by
    unfold lyC
    rw [b_or, Bool.or_eq_true]
    refine Or.inr (sOr_b.mpr (Or.inr ⟨k, hk, hb, ?_⟩))
    rw [ho, nI_clamp (by omega), b_pw (by omega)]
    exact decide_eq_true rfl
  rw [e] at h1
  exact h1
theorem bLy_mono {ek es el : Nat → Int32} {y m q : Int32} {k : Nat} (h : SubM m q) (hb : bLy ek es el y m k = true) : bLy ek es el y q k = true := by
  unfold bLy at hb ⊢
  rw [Bool.and_eq_true] at hb ⊢
  exact ⟨hb.1, h _ hb.2⟩
theorem SubM.pw {E P dn k : Nat} {ek eo es ef el : Nat → Int32} (h : IE E P dn ek eo es ef el) (hP : P ≤ 24) (hk : k < E) {q : Int32} (hb : bt q (eo k).toNatClampNeg = true) : SubM (pw (eo k).toNatClampNeg) q := fun i hi => by
  obtain ⟨a, ha, ho⟩ := h.on hk
  rw [ho, nI_clamp (by omega)] at hi hb
  rw [b_pw (by omega)] at hi
  rw [of_decide_eq_true hi]
  exact hb
theorem lyC_in {E P dn : Nat} {ek eo es ef el : Nat → Int32} (h : IE E P dn ek eo es ef el) (hP : P ≤ 24) {y m q : Int32} (hq : ClE E ek eo es el y q) (hm : SubM m q) : SubM (lyC E ek eo es el y m) q := by
  refine SubM.or hm fun i hi => ?_
  rcases sOr_b.mp hi with h1 | ⟨k, hk, hb, h1⟩
  · rw [b_0] at h1; cases h1
  · exact SubM.pw h hP hk (hq k hk (bLy_mono hm hb)) i h1
theorem lyR_up {E : Nat} {ek eo es el : Nat → Int32} {y m : Int32} {i j : Nat} (hij : i ≤ j) : SubM (foldN (fun k s => if bLy ek es el y s k = true then s ||| pw (eo k).toNatClampNeg else s) m i) (foldN (fun k s => if bLy ek es el y s k = true then s ||| pw (eo k).toNatClampNeg else s) m j) := by
  induction j with
  | zero => rw [show i = 0 by omega]; exact SubM.rf _
  | succ j ih =>
    by_cases e : i = j + 1
    · subst e; exact SubM.rf _
    · refine (ih (by omega)).tr ?_
      rw [foldN_s]
      by_cases hb : bLy ek es el y (foldN (fun k s => if bLy ek es el y s k = true then s ||| pw (eo k).toNatClampNeg else s) m j) j = true
      · simp only [hb, if_true]; exact SubM.orl _ _
      · simp only [hb, if_false, Bool.false_eq_true]; exact SubM.rf _
theorem lyR_in {E P dn : Nat} {ek eo es ef el : Nat → Int32} (h : IE E P dn ek eo es ef el) (hP : P ≤ 24) {y m q : Int32} (hq : ClE E ek eo es el y q) (hm : SubM m q) : SubM (lyR E ek eo es el y m) q := by
  refine foldN_inv (P := fun _ s => SubM s q) hm fun i s hi hs => ?_
  by_cases hb : bLy ek es el y s i = true
  · simp only [hb, if_true]
    exact SubM.or hs (SubM.pw h hP hi (hq i hi (bLy_mono hs hb)))
  · simp only [hb, if_false, Bool.false_eq_true]; exact hs
theorem lyR_stab {E P dn : Nat} {ek eo es ef el : Nat → Int32} (h : IE E P dn ek eo es ef el) (hP : P ≤ 24) {y m : Int32} (e : lyR E ek eo es el y m = m) : ClE E ek eo es el y m := fun k hk hb => by
  have e1 : foldN (fun k s => if bLy ek es el y s k = true then s ||| pw (eo k).toNatClampNeg else s) m k = m := by
    refine SubM.eq ?_ (lyR_up (i := 0) (E := E) (by omega))
    have := lyR_up (E := E) (ek := ek) (eo := eo) (es := es) (el := el) (y := y) (m := m) (i := k) (j := E) (by omega)
    rw [show foldN (fun k s => if bLy ek es el y s k = true then s ||| pw (eo k).toNatClampNeg else s) m E = m from e] at this
    exact this
  have e2 : SubM (foldN (fun k s => if bLy ek es el y s k = true then s ||| pw (eo k).toNatClampNeg else s) m (k + 1)) m := by
    have := lyR_up (E := E) (ek := ek) (eo := eo) (es := es) (el := el) (y := y) (m := m) (i := k + 1) (j := E) (by omega)
    rw [show foldN (fun k s => if bLy ek es el y s k = true then s ||| pw (eo k).toNatClampNeg else s) m E = m from e] at this
    exact this
  rw [foldN_s, e1] at e2
  simp only [hb, if_true] at e2
  obtain ⟨a, ha, ho⟩ := h.on hk
  refine e2 _ ?_
  rw [b_or, ho, nI_clamp (by omega), b_pw (by omega), decide_eq_true rfl, Bool.or_true]
theorem lyC_low {E P dn p : Nat} {ek eo es ef el : Nat → Int32} (h : IE E P dn ek eo es ef el) (hP : P ≤ 24) (hp : p < P) {y : Int32} : ∀ i, Low (grow (lyC E ek eo es el y) (pw p) i) P := by
  intro i
  induction i with
  | zero => exact Low.pw hp (by omega)
  | succ i ih =>
    refine Low.or ih fun j hj => ?_
    cases hb : bt (foldN (sOr (bLy ek es el y (grow (lyC E ek eo es el y) (pw p) i)) (fun k => pw (eo k).toNatClampNeg)) 0 E) j with
    | false => rfl
    | true =>
      rcases sOr_b.mp hb with h1 | ⟨k, hk, _, h1⟩
      · rw [b_0] at h1; cases h1
      · obtain ⟨a, ha, ho⟩ := h.on hk
        rw [ho, nI_clamp (by omega), b_pw (by omega)] at h1
        have := of_decide_eq_true h1
        omega
theorem lyR_low {E P dn p : Nat} {ek eo es ef el : Nat → Int32} (h : IE E P dn ek eo es ef el) (hP : P ≤ 24) (hp : p < P) {y : Int32} : ∀ i, Low (grow (lyR E ek eo es el y) (pw p) i) P := by
  intro i
  induction i with
  | zero => exact Low.pw hp (by omega)
  | succ i ih =>
    refine foldN_inv (P := fun _ s => Low s P) ih fun k s hk hs => ?_
    by_cases hb : bLy ek es el y s k = true
    · simp only [hb, if_true]
      obtain ⟨a, ha, ho⟩ := h.on hk
      rw [ho, nI_clamp (by omega)]
      exact Low.or hs (Low.pw ha (by omega))
    · simp only [hb, if_false, Bool.false_eq_true]; exact hs
/-- both ways find the same -/
theorem reach_same {E P dn p : Nat} {ek eo es ef el : Nat → Int32} (h : IE E P dn ek eo es ef el) (hP : P ≤ 24) (hp : p < P) (y : Int32) : ∃ s, s < 24 ∧ grow (lyR E ek eo es el y) (pw p) (s + 1) = grow (lyR E ek eo es el y) (pw p) s ∧ (∀ j, j < s → ¬ grow (lyR E ek eo es el y) (pw p) (j + 1) = grow (lyR E ek eo es el y) (pw p) j) ∧ grow (lyR E ek eo es el y) (pw p) (s + 1) = grow (lyC E ek eo es el y) (pw p) 24 := by
  have fC : ∀ m, SubM m (lyC E ek eo es el y m) := fun m => SubM.orl _ _
  have fR : ∀ m, SubM m (lyR E ek eo es el y m) := fun m => lyR_up (i := 0) (E := E) (by omega)
  obtain ⟨s, h1, h2, h3⟩ := grow_stab fR (lyR_low h hP hp) (card_pw hp (by omega)) hP
  obtain ⟨t, g1, g2, g3⟩ := grow_stab fC (lyC_low h hP hp) (card_pw hp (by omega)) hP
  refine ⟨s, h1, h2, h3, ?_⟩
  have eC : grow (lyC E ek eo es el y) (pw p) 24 = grow (lyC E ek eo es el y) (pw p) t := by
    have := grow_stay g2 (24 - t)
    rwa [show t + (24 - t) = 24 by omega] at this
  have cR : ClE E ek eo es el y (grow (lyR E ek eo es el y) (pw p) s) := lyR_stab h hP h2
  have cC : ClE E ek eo es el y (grow (lyC E ek eo es el y) (pw p) t) := lyC_stab h hP g2
  rw [h2, eC]
  refine SubM.eq ?_ ?_
  · have : ∀ i, SubM (grow (lyR E ek eo es el y) (pw p) i) (grow (lyC E ek eo es el y) (pw p) t) := by
      intro i
      induction i with
      | zero => exact grow_sub fC (i := 0) (by omega)
      | succ i ih => exact lyR_in h hP cC ih
    exact this s
  · have : ∀ i, SubM (grow (lyC E ek eo es el y) (pw p) i) (grow (lyR E ek eo es el y) (pw p) s) := by
      intro i
      induction i with
      | zero => exact grow_sub fR (i := 0) (by omega)
      | succ i ih => exact lyC_in h hP cR ih
    exact this t

