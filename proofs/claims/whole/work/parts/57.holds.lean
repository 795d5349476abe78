/-! Holders, heirs, what hinders a merge or a split: both sides say the same. -/
theorem cN_all {b : Nat → Bool} {n : Nat} (h : ∀ k, k < n → b k = true) : cN b n = n := by
  induction n with
  | zero => rfl
  | succ n ih => rw [cN_s, ih fun k hk => h k (by omega), if_pos (h n (by omega))]
theorem cN_down {b : Nat → Bool} {n : Nat} (h : ∀ i j, i < j → j < n → b j = true → b i = true) : ∀ k, k < n → (b k = true ↔ k < cN b n) := by
  induction n with
  | zero => intro k hk; omega
  | succ n ih =>
    have ih := ih fun i j hij hj => h i j hij (by omega)
    intro k hk
    rw [cN_s]
    by_cases hb : b n = true
    · have e : cN b n = n := cN_all fun j hj => h j n hj (by omega) hb
      rw [if_pos hb, e]
      by_cases q : k = n
      · subst q; exact ⟨fun _ => by omega, fun _ => hb⟩
      · exact ⟨fun _ => by omega, fun _ => h k n (by omega) (by omega) hb⟩
    · rw [if_neg hb]
      by_cases q : k = n
      · subst q
        have := cN_le b k
        exact ⟨fun q2 => absurd q2 hb, fun q2 => by omega⟩
      · exact ih k (by omega)
theorem IS.down {D : Nat} {dd : Nat → Int32} (h : IS D dd) (y : Int32) : ∀ i j, i < j → j < D → bDay dd y j = true → bDay dd y i = true := fun i j hij hj hb => by
  unfold bDay at hb ⊢
  rw [Bool.not_eq_true', decide_eq_false_iff_not] at hb ⊢
  exact fun q => hb (Int32.lt_of_lt_of_le q (h i j hij hj))
theorem bDay_t {dd : Nat → Int32} {y : Int32} {k : Nat} : bDay dd y k = true ↔ ¬ y < dd k := by
  unfold bDay
  rw [Bool.not_eq_true', decide_eq_false_iff_not]
/-- the deeds of the class and the reference -/
def RD (D P dn : Nat) (dp dg de dd : Nat → Int32) (n : Nat → Int32) : Prop := ID D P dn dp dg de dd ∧ IS D dd ∧ ID2 D P dn n ∧ ∀ x, chn dp dg de dd x D = rch n x D
theorem X0_holderBehind_h {D r : Nat} (hD : D ≤ 60) (hr : r ≤ D) (dp dg de dd : Nat → Int32) (x y : Int32) : m_X0_holderBehind x y (nI r) (nI D) dp dg de = some (hold y (chn dp dg de dd x r)) := by
  rw [X0_holderBehind hD hr dp dg de dd x y, chn_fold]
  rfl
theorem day_fold {D : Nat} {dp dg de dd : Nat → Int32} (h : IS D dd) (x y a : Int32) : foldN (sCh dp dg de dd x fH) a (cN (bDay dd y) D) = foldN (sCh dp dg de dd x (fHd y)) a D := by
  have hk := cN_down (h.down y)
  have hr := cN_le (bDay dd y) D
  generalize cN (bDay dd y) D = r at hk hr
  have e1 : foldN (sCh dp dg de dd x fH) a r = foldN (sCh dp dg de dd x (fHd y)) a r := foldN_congr fun i hi => by
    unfold sCh fH fHd
    have q := bDay_t.mp ((hk i (by omega)).mpr hi)
    simp only [q, not_false_eq_true, true_and]
  have e2 : ∀ j, r + j ≤ D → foldN (sCh dp dg de dd x (fHd y)) a (r + j) = foldN (sCh dp dg de dd x (fHd y)) a r := by
    intro j
    induction j with
    | zero => intro _; rfl
    | succ j ih =>
      intro hj
      rw [← Nat.add_assoc, foldN_s, ih (by omega)]
      have q : y < dd (r + j) := Decidable.not_not.mp fun q => by
        have := (hk (r + j) (by omega)).mp (bDay_t.mpr q)
        omega
      unfold sCh fHd
      by_cases e : dp (r + j) = x
      · simp only [e, if_true, q, not_true, false_and, if_false]
      · simp only [e, if_false]
  rw [e1, ← e2 (D - r) (by omega), show r + (D - r) = D by omega]
theorem X6_holderAt {D P dn p : Nat} {ro dp dg de dd n : Nat → Int32} (h : RD D P dn dp dg de dd n) (hP : P ≤ 24) (hp : p < P) (y : Int32) : m_X6_holderAt (nI p) y (nI P) ro (nI D) dp dg de dd = some ((rch n (nI p) D).foldl (fun s d => fHd y d s) (ro p)) := by
  have hD := h.1.1
  unfold m_X6_holderAt
  rw [X4_has_y hp (by omega), bsm, if_neg (by decide), gd_ix (by omega) (by omega), nI_clamp (by omega), X0_rowsUpTo hD dd y, cN_fold, bsm, X0_holderBehind hD (cN_le _ D) dp dg de dd (nI p) (ro p), bsm, day_fold h.2.1, chn_fold, h.2.2.2 (nI p)]
theorem RD.id2 {D P dn : Nat} {dp dg de dd n : Nat → Int32} (h : RD D P dn dp dg de dd n) : ID2 D P dn n := h.2.2.1
theorem X6_holderNow {D P dn p : Nat} {ro dp dg de dd n : Nat → Int32} (h : RD D P dn dp dg de dd n) (hd : dn ≤ 9999) (hP : P ≤ 24) (hp : p < P) : m_X6_holderNow (nI p) (nI P) ro (nI D) dp dg de dd = some (hold (ro p) (rch n (nI p) D)) := by
  unfold m_X6_holderNow
  rw [X6_holderAt h hP hp, bsm, fHd_big (h.id2.nlt hd (Nat.le_refl D))]
/-- a holder is a person -/
theorem hold_lt {D P dn : Nat} {n : Nat → Int32} (h : ID2 D P dn n) {a x : Int32} (ha : ∃ r, r < 10 ∧ a = nI r) : ∀ k, k ≤ D → ∃ r, r < 10 ∧ hold a (rch n x k) = nI r := by
  intro k
  induction k with
  | zero => intro _; exact ha
  | succ k ih =>
    intro hk
    by_cases e : rdp n k = x
    · rw [rch_s e, hold_a]
      by_cases q : rdg n k = hold a (rch n x k)
      · rw [if_pos q]; exact (h.2.2 k (by omega)).2.2.1
      · rw [if_neg q]; exact ih (by omega)
    · rw [rch_n e]; exact ih (by omega)
theorem isPer_y {a : Nat} (h : a < 10) : m_X7_isPerson (nI a) = some 1 := by
  unfold m_X7_isPerson
  have e : m_X8_isBetween (nI a) 0 9 = some 1 := isB_y (nI_pos (by omega)) (show ¬ nI 9 < nI a from nI_nlt (by omega) (by omega))
  rw [isFrom_e, e, bsm, gd_b1]
theorem isPer_e : m_X8_isPerson = m_X7_isPerson := rfl
/-- what hinders a merge of two parcels -/
def mfault (P : Nat) (ar la nb : Nat → Int32) (hp hq : Int32) (p q : Nat) : Int32 := if la p = -1 then (if la q = -1 then (if bt (nb p) q = true then (if hp = hq then (if ar p + ar q ≤ 9999 then (if P = 24 then 6 else 0) else 2) else 5) else 4) else 1) else 1
theorem ge24 {P : Nat} (hP : P ≤ 24) : (24 : Int32) ≤ nI P ↔ P = 24 := by
  show nI 24 ≤ nI P ↔ _
  rw [nI_leI (by omega) (by omega)]
  omega
theorem eq24 {P : Nat} (hP : P ≤ 24) : nI P = (24 : Int32) ↔ P = 24 := nI_eq (b := 24) (by omega) (by omega)
set_option maxHeartbeats 1000000 in
theorem X6_faultOfMerge {D P dn p q : Nat} {ar la nb ro dp dg de dd n : Nat → Int32} (h : RD D P dn dp dg de dd n) (hd : dn ≤ 9999) (hP : P ≤ 24) (hp : p < P) (hq : q < P) (hpq : p ≠ q) : m_X6_faultOfMerge (nI p) (nI q) (nI P) ar la nb ro (nI D) dp dg de dd = some (mfault P ar la nb (hold (ro p) (rch n (nI p) D)) (hold (ro q) (rch n (nI q) D)) p q) := by
  have hne : ¬ nI p = nI q := fun e => hpq ((nI_eq (by omega) (by omega)).mp e)
  unfold m_X6_faultOfMerge mfault
  rw [X4_has_y hp (by omega), bsm, if_neg (by decide), X4_has_y hq (by omega), bsm, if_neg (by decide), if_neg hne, X4_pres_y hp hP, bsm, X4_pres_y hq hP]
  unfold m_X4_areNeighbours m_X4_neighboursOf
  have hc : ar p + ar q ≤ 9999 ∨ ¬ ar p + ar q ≤ 9999 := Decidable.em _
  have h24 : (P = 24) = True ∨ (P = 24) = False := (Decidable.em (P = 24)).imp eq_true eq_false
  by_cases h1 : la p = -1
  all_goals by_cases h2 : la q = -1
  all_goals cases h3 : bt (nb p) q
  all_goals by_cases h4 : hold (ro p) (rch n (nI p) D) = hold (ro q) (rch n (nI q) D)
  all_goals rcases hc with h5 | h5
  all_goals rcases h24 with h6 | h6
  all_goals simp (disch := omega) only [h1, h2, h3, h4, h5, h6, X4_has_y, X6_holderNow h hd hP hp, X6_holderNow h hd hP hq, isIn_b, ge24 hP, nI_clamp, nI_1, bsm, nmd, gd_ix, gd_t, gd_bi, gd_b0, gd_b1, ite_b, ite_p, if_true, if_false, ite_true, ite_false, i10, i00, or0, add0, g0, g1, g2, g3, g4, g5, g6, c0, c1, c2, c3, c4, c5, c6, Bool.false_eq_true, decide_eq_true_eq]
set_option maxHeartbeats 1000000 in
theorem X8_whyNoMerge {D P dn p q : Nat} {ar fi la nb pa ro n : Nat → Int32} (hV : VP P ar fi la nb pa ro n) (hI : IP P dn ar fi la nb pa ro) (h : ID2 D P dn n) (hp : p < P) (hq : q < P) : m_X8_whyNoMerge (nI p) (nI q) n = some (mfault P ar la nb (hold (ro p) (rch n (nI p) D)) (hold (ro q) (rch n (nI q) D)) p q) := by
  have hP := hI.le
  have hd := hI.dl
  unfold m_X8_whyNoMerge mfault
  rw [X8_pres_y hV hp hP (hI.day hp), bsm, X8_pres_y hV hq hP (hI.day hq)]
  have hc : ar p + ar q ≤ 9999 ∨ ¬ ar p + ar q ≤ 9999 := Decidable.em _
  have h24 : (P = 24) = True ∨ (P = 24) = False := (Decidable.em (P = 24)).imp eq_true eq_false
  by_cases h1 : la p = -1
  all_goals by_cases h2 : la q = -1
  all_goals cases h3 : bt (nb p) q
  all_goals by_cases h4 : hold (ro p) (rch n (nI p) D) = hold (ro q) (rch n (nI q) D)
  all_goals rcases hc with h5 | h5
  all_goals rcases h24 with h6 | h6
  all_goals simp (disch := omega) only [h1, h2, h3, h4, h5, h6, hV.nb hP hp, hV.ar hP hp, hV.ar hP hq, hV.1, has_b, X8_holderOf hV hP hp h hd, X8_holderOf hV hP hq h hd, eq24 hP, nI_clamp, nI_1, bsm, nmd, gd_ix, gd_t, gd_bi, gd_b0, gd_b1, ite_b, ite_p, if_true, if_false, ite_true, ite_false, i10, i00, or0, add0, g0, g1, g2, g3, g4, g5, g6, c0, c1, c2, c3, c4, c5, c6, Bool.false_eq_true, decide_eq_true_eq]
/-- a set as the parcels that a holder has -/
def bHo (la ro : Nat → Int32) (D : Nat) (n : Nat → Int32) (x : Int32) : Nat → Bool := fun k => decide (la k = -1) && decide (hold (ro k) (rch n (nI k) D) = x)

set_option maxHeartbeats 1000000 in
theorem X6_presentOf {D P dn : Nat} {la ro dp dg de dd n : Nat → Int32} (h : RD D P dn dp dg de dd n) (hd : dn ≤ 9999) (hP : P ≤ 24) (y : Int32) : m_X6_presentOf y (nI P) la ro (nI D) dp dg de dd = some (foldN (sOr (bHo la ro D n y) pw) 0 P) := by
  unfold m_X6_presentOf
  refine for_up (c := P) (fun s x => (s, x)) (sOr (bHo la ro D n y) pw) 0 (by omega) (fun rec i hi => ?_) (fun rec => ?_)
  · generalize foldN (sOr (bHo la ro D n y) pw) 0 i = x
    have hy := X4_pres_y (la := la) hi hP
    have hz := X6_holderNow (ro := ro) h hd hP hi
    by_cases hb : la i = -1
    all_goals by_cases hc : hold (ro i) (rch n (nI i) D) = y
    all_goals simp (disch := omega) only [m_X6_presentOf_L4, lp_go, sSum, sOr, sCnt, bEq, bHo, bIn, Bool.and_eq_true, and_true, true_and, and_false, false_and, and_self, nI_clamp, nI_1, bsm, nmd, gd_ix, gd_t, gd_bi, gd_b0, gd_b1, ite_b, ite_p, if_true, if_false, ite_true, ite_false, i10, i00, or0, add0, g0, g1, g2, g3, g4, g5, g6, c0, c1, c2, c3, c4, c5, c6, Bool.false_eq_true, decide_eq_true_eq, hb, hc, hy, hz]
  · simp (disch := omega) only [m_X6_presentOf_L4, lp_end, Nat.le_refl, nI_clamp, nI_1, bsm, nmd, gd_ix, gd_t, gd_bi, gd_b0, gd_b1, ite_b, ite_p, if_true, if_false, ite_true, ite_false, i10, i00, or0, add0, g0, g1, g2, g3, g4, g5, g6, c0, c1, c2, c3, c4, c5, c6, Bool.false_eq_true, decide_eq_true_eq]

set_option maxHeartbeats 1000000 in
theorem X8_holdingsOf {D P dn : Nat} {ar fi la nb pa ro n : Nat → Int32} (hV : VP P ar fi la nb pa ro n) (hI : IP P dn ar fi la nb pa ro) (h : ID2 D P dn n) (y : Int32) : m_X8_holdingsOf y n = some (foldN (sOr (bHo la ro D n y) pw) 0 P) := by
  unfold m_X8_holdingsOf
  have hP := hI.le
  refine for_up (c := P) (fun s x => (s, x)) (sOr (bHo la ro D n y) pw) 0 (by omega) (fun rec i hi => ?_) (fun rec => ?_)
  · generalize foldN (sOr (bHo la ro D n y) pw) 0 i = x
    have hy := X8_pres_y hV hi hP (hI.day hi)
    have hz := X8_holderOf hV hP hi h hI.dl
    by_cases hb : la i = -1
    all_goals by_cases hc : hold (ro i) (rch n (nI i) D) = y
    all_goals simp (disch := omega) only [m_X8_holdingsOf_L4, lp_go, sSum, sOr, sCnt, bEq, bHo, bIn, Bool.and_eq_true, and_true, true_and, and_false, false_and, and_self, nI_clamp, nI_1, bsm, nmd, gd_ix, gd_t, gd_bi, gd_b0, gd_b1, ite_b, ite_p, if_true, if_false, ite_true, ite_false, i10, i00, or0, add0, g0, g1, g2, g3, g4, g5, g6, c0, c1, c2, c3, c4, c5, c6, Bool.false_eq_true, decide_eq_true_eq, hV.1, hb, hc, hy, hz, m_X8_bit]
  · simp (disch := omega) only [m_X8_holdingsOf_L4, lp_end, Nat.le_refl, nI_clamp, nI_1, bsm, nmd, gd_ix, gd_t, gd_bi, gd_b0, gd_b1, ite_b, ite_p, if_true, if_false, ite_true, ite_false, i10, i00, or0, add0, g0, g1, g2, g3, g4, g5, g6, c0, c1, c2, c3, c4, c5, c6, Bool.false_eq_true, decide_eq_true_eq, hV.1]

theorem X0_gaps_g {D P dn : Nat} {dp dg de dd n : Nat → Int32} (h : RD D P dn dp dg de dd n) (x y : Int32) : m_X0_gapsOf x y (nI D) dp dg de = some (gaps y (rch n x D)).1 := by
  rw [X0_gapsOf h.1.1 dp dg de dd x y, chn_fold, h.2.2.2 x]
  rfl

set_option maxHeartbeats 1000000 in
theorem X6_allGaps {D P dn : Nat} {ro dp dg de dd n : Nat → Int32} (h : RD D P dn dp dg de dd n) (hP : P ≤ 24) : m_X6_allGaps (nI P) ro (nI D) dp dg de = some (foldN (sV (fun k => (gaps (ro k) (rch n (nI k) D)).1)) 0 P) := by
  unfold m_X6_allGaps
  refine for_up (c := P) (fun s x => (s, x)) (sV (fun k => (gaps (ro k) (rch n (nI k) D)).1)) 0 (by omega) (fun rec i hi => ?_) (fun rec => ?_)
  · generalize foldN (sV (fun k => (gaps (ro k) (rch n (nI k) D)).1)) 0 i = x
    have hy := X0_gaps_g h (nI i) (ro i)
    simp (disch := omega) only [m_X6_allGaps_L4, lp_go, sV, nI_clamp, nI_1, bsm, nmd, gd_ix, gd_t, gd_bi, gd_b0, gd_b1, ite_b, ite_p, if_true, if_false, ite_true, ite_false, i10, i00, or0, add0, g0, g1, g2, g3, g4, g5, g6, c0, c1, c2, c3, c4, c5, c6, Bool.false_eq_true, decide_eq_true_eq, hy]
  · simp (disch := omega) only [m_X6_allGaps_L4, lp_end, Nat.le_refl, nI_clamp, nI_1, bsm, nmd, gd_ix, gd_t, gd_bi, gd_b0, gd_b1, ite_b, ite_p, if_true, if_false, ite_true, ite_false, i10, i00, or0, add0, g0, g1, g2, g3, g4, g5, g6, c0, c1, c2, c3, c4, c5, c6, Bool.false_eq_true, decide_eq_true_eq]

set_option maxHeartbeats 1000000 in
theorem X8_sum5 {D P dn : Nat} {ar fi la nb pa ro n : Nat → Int32} (hV : VP P ar fi la nb pa ro n) (hI : IP P dn ar fi la nb pa ro) (h : ID2 D P dn n) : m_X8_sumOfParcels 5 n = some (foldN (sV (fun k => (gaps (ro k) (rch n (nI k) D)).1)) 0 P) := by
  unfold m_X8_sumOfParcels
  have hP := hI.le
  refine for_up (c := P) (fun s x => (s, x)) (sV (fun k => (gaps (ro k) (rch n (nI k) D)).1)) 0 (by omega) (fun rec i hi => ?_) (fun rec => ?_)
  · generalize foldN (sV (fun k => (gaps (ro k) (rch n (nI k) D)).1)) 0 i = x
    have hy := X8_countGaps hV hP hi h hI.dl
    simp (disch := omega) only [m_X8_sumOfParcels_L4, lp_go, sV, nI_clamp, nI_1, bsm, nmd, gd_ix, gd_t, gd_bi, gd_b0, gd_b1, ite_b, ite_p, if_true, if_false, ite_true, ite_false, i10, i00, or0, add0, g0, g1, g2, g3, g4, g5, g6, c0, c1, c2, c3, c4, c5, c6, Bool.false_eq_true, decide_eq_true_eq, hV.1, hy]
  · simp (disch := omega) only [m_X8_sumOfParcels_L4, lp_end, Nat.le_refl, nI_clamp, nI_1, bsm, nmd, gd_ix, gd_t, gd_bi, gd_b0, gd_b1, ite_b, ite_p, if_true, if_false, ite_true, ite_false, i10, i00, or0, add0, g0, g1, g2, g3, g4, g5, g6, c0, c1, c2, c3, c4, c5, c6, Bool.false_eq_true, decide_eq_true_eq, hV.1]

set_option maxHeartbeats 1000000 in
theorem X8_sum2 {P dn : Nat} {ar fi la nb pa ro n : Nat → Int32} (hV : VP P ar fi la nb pa ro n) (hI : IP P dn ar fi la nb pa ro) (y : Int32) (h5 : ¬ y = 5) (h10 : ¬ y = 10) : m_X8_sumOfParcels y n = some (foldN (sSum (bEq la (-1)) ar) 0 P) := by
  unfold m_X8_sumOfParcels
  have hP := hI.le
  refine for_up (c := P) (fun s x => (s, x)) (sSum (bEq la (-1)) ar) 0 (by omega) (fun rec i hi => ?_) (fun rec => ?_)
  · generalize foldN (sSum (bEq la (-1)) ar) 0 i = x
    have hy := X8_pres_y hV hi hP (hI.day hi)
    have hz := hV.ar hP hi
    by_cases hb : la i = -1
    all_goals simp (disch := omega) only [m_X8_sumOfParcels_L4, lp_go, sSum, sOr, sCnt, bEq, bHo, bIn, Bool.and_eq_true, and_true, true_and, and_false, false_and, and_self, nI_clamp, nI_1, bsm, nmd, gd_ix, gd_t, gd_bi, gd_b0, gd_b1, ite_b, ite_p, if_true, if_false, ite_true, ite_false, i10, i00, or0, add0, g0, g1, g2, g3, g4, g5, g6, c0, c1, c2, c3, c4, c5, c6, Bool.false_eq_true, decide_eq_true_eq, hV.1, hy, hz, hb, h5, h10]
  · simp (disch := omega) only [m_X8_sumOfParcels_L4, lp_end, Nat.le_refl, nI_clamp, nI_1, bsm, nmd, gd_ix, gd_t, gd_bi, gd_b0, gd_b1, ite_b, ite_p, if_true, if_false, ite_true, ite_false, i10, i00, or0, add0, g0, g1, g2, g3, g4, g5, g6, c0, c1, c2, c3, c4, c5, c6, Bool.false_eq_true, decide_eq_true_eq, hV.1]

/-! Where parcels come from. -/
def anc (pa : Nat → Int32) (k : Nat) : Int32 := foldD (sAnc pa) (pa k) k
theorem ancD {pa : Nat → Int32} {i : Nat} : ∀ (c : Nat) (s : Int32), bt (foldD (sAnc pa) s c) i = true ↔ bt s i = true ∨ ∃ m, m < c ∧ bt s m = true ∧ bt (anc pa m) i = true := by
  intro c
  induction c with
  | zero => exact fun s => ⟨Or.inl, fun h => h.elim id fun ⟨m, hm, _⟩ => by omega⟩
  | succ c ih =>
    intro s
    show bt (foldD (sAnc pa) (sAnc pa c s) c) i = true ↔ _
    unfold sAnc
    cases hb : bt s c with
    | false =>
      simp only [Bool.false_eq_true, if_false]
      rw [show (foldD (fun k s => if bt s k = true then s ||| pa k else s) s c) = foldD (sAnc pa) s c from rfl, ih s]
      refine ⟨fun h => h.imp id fun ⟨m, h1, h2⟩ => ⟨m, by omega, h2⟩, fun h => h.imp id fun ⟨m, h1, h2, h3⟩ => ⟨m, ?_, h2, h3⟩⟩
      have : m ≠ c := fun e => by rw [e, hb] at h2; cases h2
      omega
    | true =>
      simp only [if_true]
      rw [show (foldD (fun k s => if bt s k = true then s ||| pa k else s) (s ||| pa c) c) = foldD (sAnc pa) (s ||| pa c) c from rfl, ih (s ||| pa c)]
      have hc := ih (pa c)
      rw [b_or, Bool.or_eq_true]
      constructor
      · rintro ((h | h) | ⟨m, h1, h2, h3⟩)
        · exact Or.inl h
        · exact Or.inr ⟨c, by omega, hb, hc.mpr (Or.inl h)⟩
        · rw [b_or, Bool.or_eq_true] at h2
          rcases h2 with h2 | h2
          · exact Or.inr ⟨m, by omega, h2, h3⟩
          · exact Or.inr ⟨c, by omega, hb, hc.mpr (Or.inr ⟨m, h1, h2, h3⟩)⟩
      · rintro (h | ⟨m, h1, h2, h3⟩)
        · exact Or.inl (Or.inl h)
        · by_cases e : m = c
          · subst e
            rcases hc.mp h3 with h | ⟨q, g1, g2, g3⟩
            · exact Or.inl (Or.inr h)
            · exact Or.inr ⟨q, g1, by rw [b_or, g2, Bool.or_true], g3⟩
          · exact Or.inr ⟨m, by omega, by rw [b_or, h2, Bool.true_or], h3⟩
theorem anc_iff {pa : Nat → Int32} {k i : Nat} : bt (anc pa k) i = true ↔ bt (pa k) i = true ∨ ∃ m, m < k ∧ bt (pa k) m = true ∧ bt (anc pa m) i = true := ancD k (pa k)
theorem anc_lt {P dn : Nat} {ar fi la nb pa ro : Nat → Int32} (hI : IP P dn ar fi la nb pa ro) : ∀ k, k < P → ∀ i, bt (anc pa k) i = true → i < k := by
  intro k
  induction k using Nat.strongRecOn with
  | ind k ih =>
    intro hk i h
    rcases anc_iff.mp h with h | ⟨m, h1, h2, h3⟩
    · exact Nat.not_le.mp fun q => by rw [hI.par hk i q] at h; cases h
    · have := ih m h1 (by omega) i h3
      omega
theorem and_z {x y : Int32} : x &&& y = 0 ↔ ∀ i, ¬ (bt x i = true ∧ bt y i = true) := by
  rw [b_eq0]
  refine ⟨fun h i ⟨h1, h2⟩ => ?_, fun h i hi => ?_⟩
  · by_cases hi : i < 32
    · have := h i hi
      rw [b_and, h1, h2] at this
      cases this
    · rw [b_big (by omega)] at h1; cases h1
  · rw [b_and]
    cases h1 : bt x i with
    | false => rfl
    | true =>
      cases h2 : bt y i with
      | false => rfl
      | true => exact absurd ⟨h1, h2⟩ (h i)
def sHe (pa : Nat → Int32) (p : Nat) : Nat → Int32 → Int32 := fun i s => if pa (p + 1 + i) &&& s = 0 then s else s ||| pw (p + 1 + i)
theorem sHe_t {pa : Nat → Int32} {p i : Nat} {s : Int32} (h : pa (p + 1 + i) &&& s = 0) : sHe pa p i s = s := if_pos h
theorem sHe_n {pa : Nat → Int32} {p i : Nat} {s : Int32} (h : ¬ pa (p + 1 + i) &&& s = 0) : sHe pa p i s = s ||| pw (p + 1 + i) := if_neg h
set_option maxHeartbeats 1000000 in
theorem X4_heirsOf {P p : Nat} (hp : p < P) (hP : P ≤ 24) (pa : Nat → Int32) : m_X4_heirsOf (nI p) (nI P) pa = some (foldN (sHe pa p) (pw p) (P - (p + 1))) := by
  unfold m_X4_heirsOf
  rw [X4_has_y hp (by omega), bsm, if_neg (by decide), nI_1]
  refine loop_run (c := P - (p + 1)) (fun i => (foldN (sHe pa p) (pw p) i, nI (p + 1 + i))) (by omega) (fun rec i hi => ?_) (fun rec => ?_)
  · show m_X4_heirsOf_L18 (nI P) pa rec (foldN (sHe pa p) (pw p) i, nI (p + 1 + i)) = rec (sHe pa p i (foldN (sHe pa p) (pw p) i), nI (p + 1 + (i + 1)))
    generalize foldN (sHe pa p) (pw p) i = s
    unfold sHe
    by_cases hb : pa (p + 1 + i) &&& s = 0
    all_goals simp (disch := omega) only [m_X4_heirsOf_L18, lp_go, hb, ← Nat.add_assoc, nI_clamp, nI_1, bsm, nmd, gd_ix, gd_t, gd_bi, gd_b0, gd_b1, ite_b, ite_p, if_true, if_false, ite_true, ite_false, i10, i00, or0, add0, g0, g1, g2, g3, g4, g5, g6, c0, c1, c2, c3, c4, c5, c6, Bool.false_eq_true, decide_eq_true_eq]
  · rw [show p + 1 + (P - (p + 1)) = P by omega]
    simp (disch := omega) only [m_X4_heirsOf_L18, lp_end, Nat.le_refl, nI_clamp, nI_1, bsm, nmd, gd_ix, gd_t, gd_bi, gd_b0, gd_b1, ite_b, ite_p, if_true, if_false, ite_true, ite_false, i10, i00, or0, add0, g0, g1, g2, g3, g4, g5, g6, c0, c1, c2, c3, c4, c5, c6, Bool.false_eq_true, decide_eq_true_eq]
theorem heirs_b {P dn p : Nat} {ar fi la nb pa ro : Nat → Int32} (hI : IP P dn ar fi la nb pa ro) (hp : p < P) : ∀ i, i ≤ P - (p + 1) → ∀ k, bt (foldN (sHe pa p) (pw p) i) k = true ↔ k = p ∨ p < k ∧ k < p + 1 + i ∧ bt (anc pa k) p = true := by
  have hP := hI.le
  intro i
  induction i with
  | zero =>
    intro _ k
    show bt (pw p) k = true ↔ _
    rw [b_pw (by omega), decide_eq_true_iff]
    exact ⟨Or.inl, fun h => h.elim id fun h => by omega⟩
  | succ i ih =>
    intro hi k
    have ih := ih (by omega)
    rw [foldN_s]
    have key : (pa (p + 1 + i) &&& foldN (sHe pa p) (pw p) i = 0) ↔ ¬ bt (anc pa (p + 1 + i)) p = true := by
      rw [and_z]
      constructor
      · intro h q
        rcases anc_iff.mp q with q | ⟨m, h1, h2, h3⟩
        · exact h p ⟨q, (ih p).mpr (Or.inl rfl)⟩
        · have := anc_lt hI m (by omega) p h3
          exact h m ⟨h2, (ih m).mpr (Or.inr ⟨by omega, by omega, h3⟩)⟩
      · intro h m ⟨h1, h2⟩
        rcases (ih m).mp h2 with e | ⟨e1, e2, e3⟩
        · exact h (anc_iff.mpr (Or.inl (e ▸ h1)))
        · exact h (anc_iff.mpr (Or.inr ⟨m, by omega, h1, e3⟩))
    by_cases hb : bt (anc pa (p + 1 + i)) p = true
    · rw [sHe_n (fun q => key.mp q hb), b_or, Bool.or_eq_true, b_pw (by omega), decide_eq_true_iff, ih k]
      constructor
      · rintro ((h | ⟨h1, h2, h3⟩) | h)
        · exact Or.inl h
        · exact Or.inr ⟨h1, by omega, h3⟩
        · exact Or.inr ⟨by omega, by omega, h ▸ hb⟩
      · rintro (h | ⟨h1, h2, h3⟩)
        · exact Or.inl (Or.inl h)
        · by_cases e : k = p + 1 + i
          · exact Or.inr e
          · exact Or.inl (Or.inr ⟨h1, by omega, h3⟩)
    · rw [sHe_t (key.mpr hb), ih k]
      constructor
      · rintro (h | ⟨h1, h2, h3⟩)
        · exact Or.inl h
        · exact Or.inr ⟨h1, by omega, h3⟩
      · rintro (h | ⟨h1, h2, h3⟩)
        · exact Or.inl h
        · refine Or.inr ⟨h1, ?_, h3⟩
          have : k ≠ p + 1 + i := fun e => hb (e ▸ h3)
          omega
/-- those that are left of a parcel -/
def bRe (la pa : Nat → Int32) (p : Nat) : Nat → Bool := fun k => decide (la k = -1) && (decide (k = p) || bt (anc pa k) p)

set_option maxHeartbeats 1000000 in
theorem X8_remains0 {P dn p : Nat} {ar fi la nb pa ro n : Nat → Int32} (hV : VP P ar fi la nb pa ro n) (hI : IP P dn ar fi la nb pa ro) (hp : p < P) (v : Int32) : fuel (m_X8_remains_L27 n (nI p) v) FU (0, 0) = some (foldN (sOr (bRe la pa p) pw) 0 P, v) := by
  have hP := hI.le
  refine for_up (c := P) (fun s x => (s, x)) (sOr (bRe la pa p) pw) 0 (by omega) (fun rec i hi => ?_) (fun rec => ?_)
  · generalize foldN (sOr (bRe la pa p) pw) 0 i = x
    have hy := X8_pres_y hV hi hP (hI.day hi)
    have hz := X8_originsOf hV hI hi
    have hne : nI i = nI p ↔ i = p := nI_eq (by omega) (by omega)
    by_cases hb : la i = -1
    all_goals rcases (Decidable.em (i = p)).imp eq_true eq_false with hc | hc
    all_goals cases he : bt (foldD (sAnc pa) (pa i) i) p
    all_goals simp (disch := omega) only [m_X8_remains_L27, lp_go, sSum, sOr, sCnt, bEq, bHo, bIn, Bool.and_eq_true, and_true, true_and, and_false, false_and, and_self, bRe, nI_clamp, nI_1, bsm, nmd, gd_ix, gd_t, gd_bi, gd_b0, gd_b1, ite_b, ite_p, if_true, if_false, ite_true, ite_false, i10, i00, or0, add0, g0, g1, g2, g3, g4, g5, g6, c0, c1, c2, c3, c4, c5, c6, Bool.false_eq_true, decide_eq_true_eq, hV.1, hy, hz, hb, hc, he, hne, has_b, m_X8_remains_J63, m_X8_bit, anc, Bool.or_eq_true, or_true, true_or, or_false, false_or, or_self]
  · simp (disch := omega) only [m_X8_remains_L27, lp_end, Nat.le_refl, nI_clamp, nI_1, bsm, nmd, gd_ix, gd_t, gd_bi, gd_b0, gd_b1, ite_b, ite_p, if_true, if_false, ite_true, ite_false, i10, i00, or0, add0, g0, g1, g2, g3, g4, g5, g6, c0, c1, c2, c3, c4, c5, c6, Bool.false_eq_true, decide_eq_true_eq, hV.1]

theorem remains_same {P dn p : Nat} {ar fi la nb pa ro : Nat → Int32} (hI : IP P dn ar fi la nb pa ro) (hp : p < P) : foldN (sHe pa p) (pw p) (P - (p + 1)) &&& foldN (sOr (bEq la (-1)) pw) 0 P = foldN (sOr (bRe la pa p) pw) 0 P := by
  have hP := hI.le
  have hh := heirs_b hI hp (P - (p + 1)) (Nat.le_refl _)
  refine SubM.eq (fun k h => ?_) fun k h => ?_
  · rw [b_and, Bool.and_eq_true, hh k, sOr_b] at h
    obtain ⟨h1, h2⟩ := h
    rcases h2 with h2 | ⟨j, hj, h3, h4⟩
    · rw [b_0] at h2; cases h2
    · rw [b_pw (by omega), decide_eq_true_iff] at h4
      subst h4
      refine sOr_b.mpr (Or.inr ⟨k, hj, ?_, by rw [b_pw (by omega)]; exact decide_eq_true rfl⟩)
      unfold bRe
      rw [Bool.and_eq_true, Bool.or_eq_true, decide_eq_true_iff, decide_eq_true_iff]
      exact ⟨bEq_t.mp h3, h1.imp id fun q => q.2.2⟩
  · rw [sOr_b] at h
    rcases h with h | ⟨j, hj, h3, h4⟩
    · rw [b_0] at h; cases h
    · rw [b_pw (by omega), decide_eq_true_iff] at h4
      subst h4
      unfold bRe at h3
      rw [Bool.and_eq_true, Bool.or_eq_true, decide_eq_true_iff, decide_eq_true_iff] at h3
      rw [b_and, Bool.and_eq_true, hh k, sOr_b]
      refine ⟨h3.2.imp id fun q => ?_, Or.inr ⟨k, hj, bEq_t.mpr h3.1, by rw [b_pw (by omega)]; exact decide_eq_true rfl⟩⟩
      have := anc_lt hI k hj p q
      exact ⟨this, by omega, q⟩

