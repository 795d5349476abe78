/-! The parcels: writing. -/
theorem st0 {p : Nat} (n : Nat → Int32) (v : Int32) (h : p < 24) : m_X8_set (nI p) 0 v n = some (upd n (7 + p * 6 + 0) v) := set_w (w := 0) n v h (by omega)
theorem st1 {p : Nat} (n : Nat → Int32) (v : Int32) (h : p < 24) : m_X8_set (nI p) 1 v n = some (upd n (7 + p * 6 + 1) v) := set_w (w := 1) n v h (by omega)
theorem st2 {p : Nat} (n : Nat → Int32) (v : Int32) (h : p < 24) : m_X8_set (nI p) 2 v n = some (upd n (7 + p * 6 + 2) v) := set_w (w := 2) n v h (by omega)
theorem st3 {p : Nat} (n : Nat → Int32) (v : Int32) (h : p < 24) : m_X8_set (nI p) 3 v n = some (upd n (7 + p * 6 + 3) v) := set_w (w := 3) n v h (by omega)
theorem st4 {p : Nat} (n : Nat → Int32) (v : Int32) (h : p < 24) : m_X8_set (nI p) 4 v n = some (upd n (7 + p * 6 + 4) v) := set_w (w := 4) n v h (by omega)
theorem st5 {p : Nat} (n : Nat → Int32) (v : Int32) (h : p < 24) : m_X8_set (nI p) 5 v n = some (upd n (7 + p * 6 + 5) v) := set_w (w := 5) n v h (by omega)
theorem X4_come {P : Nat} (hP : P < 24) (a r pm d : Int32) (ar fi la nb pa ro : Nat → Int32) : m_X4_come a r pm d (nI P) ar fi la nb pa ro = some (nI P, nI (P + 1), upd ar P a, upd fi P d, upd la P (-1), upd nb P 0, upd pa P pm, upd ro P r) := by
  unfold m_X4_come
  simp (disch := omega) only [lit_lt (b := 24) (x := 24) (i := P) rfl (by omega) (by omega), nI_pred, nI_clamp, nI_1, bsm, nmd, gd_ix, gd_t, gd_bi, gd_b0, gd_b1, ite_b, ite_p, if_true, if_false, ite_true, ite_false, i10, i00, or0, add0, g0, g1, g2, g3, g4, g5, g6, c0, c1, c2, c3, c4, c5, c6, Bool.false_eq_true, decide_eq_true_eq]
set_option maxHeartbeats 4000000 in
theorem X8_newParcel {P : Nat} {ar fi la nb pa ro n : Nat → Int32} (hV : VP P ar fi la nb pa ro n) (hP : P < 24) (a r pm : Int32) : ∃ m, m_X8_newParcel a r pm n = some (nI P, m) ∧ VP (P + 1) (upd ar P a) (upd fi P (n 0)) (upd la P (-1)) (upd nb P 0) (upd pa P pm) (upd ro P r) m ∧ Off rP n m := by
  obtain ⟨h1, h2⟩ := hV
  unfold m_X8_newParcel
  simp (disch := omega) only [h1, st0, st1, st2, st3, st4, st5, upd_ne, nI_clamp, nI_1, bsm, nmd, gd_ix, gd_t, gd_bi, gd_b0, gd_b1, ite_b, ite_p, if_true, if_false, ite_true, ite_false, i10, i00, or0, add0, g0, g1, g2, g3, g4, g5, g6, c0, c1, c2, c3, c4, c5, c6, Bool.false_eq_true, decide_eq_true_eq]
  refine ⟨_, rfl, ⟨?_, fun k hk => ?_⟩, ?_⟩
  · simp (disch := omega) only [upd_ne, upd_same]
  · by_cases e : k = P
    · subst e
      simp (disch := omega) only [upd_ne, upd_same]
      exact ⟨trivial, trivial, trivial, trivial, trivial, trivial⟩
    · obtain ⟨q0, q1, q2, q3, q4, q5⟩ := h2 k (by omega)
      simp (disch := omega) only [upd_ne, q0, q1, q2, q3, q4, q5]
      exact ⟨trivial, trivial, trivial, trivial, trivial, trivial⟩
  · exact (((((((Off.rf rP n).upd (Or.inl rfl) _).upd (Or.inr (by omega)) _).upd (Or.inr (by omega)) _).upd (Or.inr (by omega)) _).upd (Or.inr (by omega)) _).upd (Or.inr (by omega)) _).upd (Or.inr (by omega)) _
/-- a border set, or taken away, in the row -/
theorem VP.nbu {P : Nat} {ar fi la nb pa ro n : Nat → Int32} (hV : VP P ar fi la nb pa ro n) (hP : P ≤ 24) {p : Nat} (hp : p < P) (v : Int32) : VP P ar fi la (upd nb p v) pa ro (upd n (7 + p * 6 + 3) v) := by
  refine ⟨by rw [upd_ne (by omega)]; exact hV.1, fun k hk => ?_⟩
  obtain ⟨q0, q1, q2, q3, q4, q5⟩ := hV.2 k hk
  by_cases e : k = p
  · subst e
    simp (disch := omega) only [upd_ne, upd_same, q0, q1, q2, q4, q5]
    exact ⟨trivial, trivial, trivial, trivial, trivial, trivial⟩
  · simp (disch := omega) only [upd_ne, q0, q1, q2, q3, q4, q5]
    exact ⟨trivial, trivial, trivial, trivial, trivial, trivial⟩
set_option maxHeartbeats 2000000 in
theorem X8_setBorder_on {P p q : Nat} {ar fi la nb pa ro n : Nat → Int32} (hV : VP P ar fi la nb pa ro n) (hP : P ≤ 24) (hp : p < P) (hq : q < P) (hne : q ≠ p) : ∃ m, m_X8_setBorder (nI p) (nI q) 1 n = some m ∧ VP P ar fi la (upd (upd nb p (nb p ||| pw q)) q (nb q ||| pw p)) pa ro m ∧ Off rP n m := by
  have h1 := hV.nbu hP hp (nb p ||| pw q)
  have h2 := h1.nb hP hq
  rw [upd_ne hne] at h2
  refine ⟨_, ?_, h1.nbu hP hq (nb q ||| pw p), ((Off.rf rP n).upd (Or.inr (by omega)) _).upd (Or.inr (by omega)) _⟩
  unfold m_X8_setBorder m_X8_setBorder_J34 m_X8_setBorder_J71
  simp (disch := omega) only [hV.nb hP hp, m_X8_bit, st3, h2, nI_clamp, nI_1, bsm, nmd, gd_ix, gd_t, gd_bi, gd_b0, gd_b1, ite_b, ite_p, if_true, if_false, ite_true, ite_false, i10, i00, or0, add0, g0, g1, g2, g3, g4, g5, g6, c0, c1, c2, c3, c4, c5, c6, Bool.false_eq_true, decide_eq_true_eq]
set_option maxHeartbeats 2000000 in
theorem X8_setBorder_off {P p q : Nat} {ar fi la nb pa ro n : Nat → Int32} (hV : VP P ar fi la nb pa ro n) (hP : P ≤ 24) (hp : p < P) (hq : q < P) (hne : q ≠ p) : ∃ m, m_X8_setBorder (nI p) (nI q) 0 n = some m ∧ VP P ar fi la (upd (upd nb p (nb p &&& (pw q ^^^ (-1)))) q (nb q &&& (pw p ^^^ (-1)))) pa ro m ∧ Off rP n m := by
  have h1 := hV.nbu hP hp (nb p &&& (pw q ^^^ (-1)))
  have h2 := h1.nb hP hq
  rw [upd_ne hne] at h2
  refine ⟨_, ?_, h1.nbu hP hq (nb q &&& (pw p ^^^ (-1))), ((Off.rf rP n).upd (Or.inr (by omega)) _).upd (Or.inr (by omega)) _⟩
  unfold m_X8_setBorder m_X8_setBorder_J34 m_X8_setBorder_J71
  simp (disch := omega) only [hV.nb hP hp, m_X8_bit, st3, h2, nI_clamp, nI_1, bsm, nmd, gd_ix, gd_t, gd_bi, gd_b0, gd_b1, ite_b, ite_p, if_true, if_false, ite_true, ite_false, i10, i00, or0, add0, g0, g1, g2, g3, g4, g5, g6, c0, c1, c2, c3, c4, c5, c6, Bool.false_eq_true, decide_eq_true_eq]
theorem X4_link {P p q : Nat} (hP : P ≤ 24) (hp : p < P) (hq : q < P) (hne : q ≠ p) (nb : Nat → Int32) : m_X4_link (nI p) (nI q) (nI P) nb = some (upd (upd nb p (nb p ||| pw q)) q (nb q ||| pw p)) := by
  unfold m_X4_link
  simp (disch := omega) only [X4_has_y, upd_ne, nI_clamp, nI_1, bsm, nmd, gd_ix, gd_t, gd_bi, gd_b0, gd_b1, ite_b, ite_p, if_true, if_false, ite_true, ite_false, i10, i00, or0, add0, g0, g1, g2, g3, g4, g5, g6, c0, c1, c2, c3, c4, c5, c6, Bool.false_eq_true, decide_eq_true_eq]
theorem X4_unlink {P p q : Nat} (hP : P ≤ 24) (hp : p < P) (hq : q < P) (hne : q ≠ p) (nb : Nat → Int32) : m_X4_unlink (nI p) (nI q) (nI P) nb = some (upd (upd nb p (nb p &&& (pw q ^^^ (-1)))) q (nb q &&& (pw p ^^^ (-1)))) := by
  unfold m_X4_unlink
  simp (disch := omega) only [X4_has_y, upd_ne, nI_clamp, nI_1, bsm, nmd, gd_ix, gd_t, gd_bi, gd_b0, gd_b1, ite_b, ite_p, if_true, if_false, ite_true, ite_false, i10, i00, or0, add0, g0, g1, g2, g3, g4, g5, g6, c0, c1, c2, c3, c4, c5, c6, Bool.false_eq_true, decide_eq_true_eq]
/-- all borders of one parcel to a set -/
def lnk (nb : Nat → Int32) (a : Nat) (s : Int32) (i : Nat) : Nat → Int32 := fun k => if k = a then nb a ||| foldN (sOr (bIn s) pw) 0 i else if k < i ∧ bt s k = true then nb k ||| pw a else nb k
theorem lnk_0 (nb : Nat → Int32) (a : Nat) (s : Int32) : lnk nb a s 0 = nb := funext fun k => by
  unfold lnk
  by_cases e : k = a
  · rw [if_pos e, e]; exact or0 _
  · rw [if_neg e, if_neg (by omega)]
theorem lnk_n {nb : Nat → Int32} {a : Nat} {s : Int32} {i : Nat} (h : bt s i = false) : lnk nb a s (i + 1) = lnk nb a s i := funext fun k => by
  unfold lnk
  by_cases e : k = a
  · rw [if_pos e, if_pos e, foldN_s, sOr_f (b := bIn s) h]
  · rw [if_neg e, if_neg e]
    by_cases q : k < i ∧ bt s k = true
    · rw [if_pos q, if_pos ⟨by omega, q.2⟩]
    · rw [if_neg q, if_neg]
      rintro ⟨w1, w2⟩
      have : k ≠ i := fun e => by rw [e, h] at w2; cases w2
      exact q ⟨by omega, w2⟩
theorem lnk_s {nb : Nat → Int32} {a : Nat} {s : Int32} {i : Nat} (h : bt s i = true) (hne : i ≠ a) : upd (upd (lnk nb a s i) a (lnk nb a s i a ||| pw i)) i (lnk nb a s i i ||| pw a) = lnk nb a s (i + 1) := funext fun k => by
  by_cases e : k = i
  · rw [e, upd_same]
    unfold lnk
    rw [if_neg hne, if_neg (by omega), if_neg hne, if_pos ⟨by omega, h⟩]
  · rw [upd_ne e]
    by_cases e2 : k = a
    · rw [e2, upd_same]
      unfold lnk
      rw [if_pos rfl, if_pos rfl, foldN_s, sOr_t (b := bIn s) h, or_assoc32]
    · rw [upd_ne e2]
      unfold lnk
      rw [if_neg e2, if_neg e2]
      by_cases q : k < i ∧ bt s k = true
      · rw [if_pos q, if_pos ⟨by omega, q.2⟩]
      · rw [if_neg q, if_neg]
        rintro ⟨w1, w2⟩
        exact q ⟨by omega, w2⟩
theorem X4_linkAll {P a : Nat} (hP : P ≤ 24) (ha : a < P) {s : Int32} (hs : bt s a = false) (nb : Nat → Int32) : m_X4_linkAll (nI a) s (nI P) nb = some (lnk nb a s P) := by
  unfold m_X4_linkAll
  have e0 : ((0 : Int32), nb) = (nI 0, lnk nb a s 0) := by rw [lnk_0]; rfl
  rw [e0]
  refine loop_run (c := P) (fun i => (nI i, lnk nb a s i)) (by omega) (fun rec i hi => ?_) (fun rec => ?_)
  · cases hb : bt s i with
    | false => simp (disch := omega) only [m_X4_linkAll_L2, lp_go, isIn_b, hb, lnk_n hb, nI_clamp, nI_1, bsm, nmd, gd_ix, gd_t, gd_bi, gd_b0, gd_b1, ite_b, ite_p, if_true, if_false, ite_true, ite_false, i10, i00, or0, add0, g0, g1, g2, g3, g4, g5, g6, c0, c1, c2, c3, c4, c5, c6, Bool.false_eq_true, decide_eq_true_eq]
    | true =>
      have hne : i ≠ a := fun e => by rw [e, hs] at hb; cases hb
      simp (disch := omega) only [m_X4_linkAll_L2, lp_go, isIn_b, hb, X4_link hP ha hi hne, lnk_s hb hne, nI_clamp, nI_1, bsm, nmd, gd_ix, gd_t, gd_bi, gd_b0, gd_b1, ite_b, ite_p, if_true, if_false, ite_true, ite_false, i10, i00, or0, add0, g0, g1, g2, g3, g4, g5, g6, c0, c1, c2, c3, c4, c5, c6, Bool.false_eq_true, decide_eq_true_eq]
  · simp (disch := omega) only [m_X4_linkAll_L2, lp_end, Nat.le_refl]
set_option maxHeartbeats 2000000 in
theorem X8_setBorders {P a : Nat} {ar fi la nb pa ro n : Nat → Int32} (hV : VP P ar fi la nb pa ro n) (hP : P ≤ 24) (ha : a < P) {s : Int32} (hs : bt s a = false) : ∃ m, m_X8_setBorders (nI a) s n = some m ∧ VP P ar fi la (lnk nb a s P) pa ro m ∧ Off rP n m := by
  obtain ⟨m, hm, hl⟩ := for_rel (F := m_X8_setBorders_L2 (nI a) s) (c := P) (fun s x => (x, s)) (fun i g => VP P ar fi la (lnk nb a s i) pa ro g ∧ Off rP n g) n (by omega) ⟨by rw [lnk_0]; exact hV, Off.rf _ _⟩ (fun rec i g hi hg => by
    obtain ⟨hv, ho⟩ := hg
    cases hb : bt s i with
    | false =>
      refine ⟨g, ⟨by rw [lnk_n hb]; exact hv, ho⟩, ?_⟩
      simp (disch := omega) only [m_X8_setBorders_L2, hv.1, lp_go, has_b, hb, nI_clamp, nI_1, bsm, nmd, gd_ix, gd_t, gd_bi, gd_b0, gd_b1, ite_b, ite_p, if_true, if_false, ite_true, ite_false, i10, i00, or0, add0, g0, g1, g2, g3, g4, g5, g6, c0, c1, c2, c3, c4, c5, c6, Bool.false_eq_true, decide_eq_true_eq]
    | true =>
      have hne : i ≠ a := fun e => by rw [e, hs] at hb; cases hb
      obtain ⟨g', e1, e2, e3⟩ := X8_setBorder_on hv hP ha hi hne
      rw [lnk_s hb hne] at e2
      refine ⟨g', ⟨e2, ho.tr e3⟩, ?_⟩
      simp (disch := omega) only [m_X8_setBorders_L2, hv.1, lp_go, has_b, hb, e1, nI_clamp, nI_1, bsm, nmd, gd_ix, gd_t, gd_bi, gd_b0, gd_b1, ite_b, ite_p, if_true, if_false, ite_true, ite_false, i10, i00, or0, add0, g0, g1, g2, g3, g4, g5, g6, c0, c1, c2, c3, c4, c5, c6, Bool.false_eq_true, decide_eq_true_eq])
  refine ⟨m, ?_, hm⟩
  unfold m_X8_setBorders
  refine hl _ fun rec => ?_
  simp (disch := omega) only [m_X8_setBorders_L2, hm.1.1, lp_end, Nat.le_refl, g1, c1]
/-! The end of a parcel. -/
def clrN (nb : Nat → Int32) (p i : Nat) : Nat → Int32 := fun k => if k < i then nb k &&& (pw p ^^^ (-1)) else nb k
def endN (nb : Nat → Int32) (p P : Nat) : Nat → Int32 := upd (clrN nb p P) p 0
theorem X4_end {P p : Nat} (hP : P ≤ 24) (hp : p < P) (d : Int32) (la nb : Nat → Int32) : m_X4_end (nI p) d (nI P) la nb = some (upd la p d, endN nb p P) := by
  unfold m_X4_end
  rw [X4_has_y hp (by omega), bsm, if_neg (by decide)]
  have e0 : ((0 : Int32), nb) = (nI 0, clrN nb p 0) := by
    have : clrN nb p 0 = nb := funext fun k => if_neg (by omega)
    rw [this]; rfl
  rw [e0]
  refine loop_run (c := P) (fun i => (nI i, clrN nb p i)) (by omega) (fun rec i hi => ?_) (fun rec => ?_)
  · have e : upd (clrN nb p i) i (clrN nb p i i &&& (pw p ^^^ (-1))) = clrN nb p (i + 1) := funext fun k => by
      unfold clrN
      by_cases e : k = i
      · rw [e, upd_same, if_neg (by omega), if_pos (by omega)]
      · rw [upd_ne e]
        by_cases q : k < i
        · rw [if_pos q, if_pos (by omega)]
        · rw [if_neg q, if_neg (by omega)]
    simp (disch := omega) only [m_X4_end_L11, lp_go, e, nI_clamp, nI_1, bsm, nmd, gd_ix, gd_t, gd_bi, gd_b0, gd_b1, ite_b, ite_p, if_true, if_false, ite_true, ite_false, i10, i00, or0, add0, g0, g1, g2, g3, g4, g5, g6, c0, c1, c2, c3, c4, c5, c6, Bool.false_eq_true, decide_eq_true_eq]
  · simp (disch := omega) only [m_X4_end_L11, m_X4_end_J39, lp_end, Nat.le_refl, endN, nI_clamp, nI_1, bsm, nmd, gd_ix, gd_t, gd_bi, gd_b0, gd_b1, ite_b, ite_p, if_true, if_false, ite_true, ite_false, i10, i00, or0, add0, g0, g1, g2, g3, g4, g5, g6, c0, c1, c2, c3, c4, c5, c6, Bool.false_eq_true, decide_eq_true_eq]
theorem and_off {x : Int32} {p : Nat} (hp : p < 32) (h : bt x p = false) : x &&& (pw p ^^^ (-1)) = x := b_ext fun i hi => by
  rw [b_and, b_not _ hi, b_pw hp]
  by_cases e : i = p
  · rw [e, h]; rfl
  · rw [decide_eq_false e]; simp
set_option maxHeartbeats 4000000 in
theorem X8_end {P dn p : Nat} {ar fi la nb pa ro n : Nat → Int32} (hV : VP P ar fi la nb pa ro n) (hI : IP P dn ar fi la nb pa ro) (hp : p < P) : ∃ m, m_X8_end (nI p) n = some m ∧ VP P ar fi (upd la p (n 0)) (endN nb p P) pa ro m ∧ Off rP n m := by
  have hP := hI.le
  obtain ⟨g, hg, hl⟩ := for_rel (F := m_X8_end_L2 (nI p)) (c := P) (fun s x => (x, s)) (fun i g => ∃ NB, VP P ar fi la NB pa ro g ∧ Off rP n g ∧ (∀ k, k < P → k ≠ p → NB k = clrN nb p i k) ∧ ∀ j, bt (NB p) j = (bt (nb p) j && decide (i ≤ j))) n (by omega) ⟨nb, hV, Off.rf _ _, fun k _ _ => (if_neg (by omega)).symm, fun j => by rw [decide_eq_true (Nat.zero_le j), Bool.and_true]⟩ (fun rec i g hi hg => by
    obtain ⟨NB, hv, ho, h1, h2⟩ := hg
    have hbi : bt (NB p) i = bt (nb p) i := by rw [h2 i, decide_eq_true (Nat.le_refl i), Bool.and_true]
    cases hb : bt (nb p) i with
    | false =>
      refine ⟨g, ⟨NB, hv, ho, fun k hk hne => ?_, fun j => ?_⟩, ?_⟩
      · rw [h1 k hk hne]
        unfold clrN
        by_cases q : k < i
        · rw [if_pos q, if_pos (by omega)]
        · rw [if_neg q]
          by_cases w : k = i
          · rw [if_pos (by omega), w, and_off (by omega)]
            rw [hI.sym hi hp, hb]
          · rw [if_neg (by omega)]
      · rw [h2 j]
        by_cases e : j = i
        · rw [e, hb]; rfl
        · rw [show decide (i ≤ j) = decide (i + 1 ≤ j) from decide_eq_decide.mpr (by omega)]
      · rw [hb] at hbi
        simp (disch := omega) only [m_X8_end_L2, hv.1, lp_go, hv.nb hP hp, has_b, hbi, nI_clamp, nI_1, bsm, nmd, gd_ix, gd_t, gd_bi, gd_b0, gd_b1, ite_b, ite_p, if_true, if_false, ite_true, ite_false, i10, i00, or0, add0, g0, g1, g2, g3, g4, g5, g6, c0, c1, c2, c3, c4, c5, c6, Bool.false_eq_true, decide_eq_true_eq]
    | true =>
      have hne : i ≠ p := fun e => by rw [e, hI.self hp] at hb; cases hb
      obtain ⟨g', e1, e2, e3⟩ := X8_setBorder_off hv hP hp hi hne
      refine ⟨g', ⟨_, e2, ho.tr e3, fun k hk hkp => ?_, fun j => ?_⟩, ?_⟩
      · by_cases e : k = i
        · rw [e, upd_same, h1 i hi hne]
          unfold clrN
          rw [if_neg (by omega), if_pos (by omega)]
        · rw [upd_ne e, upd_ne hkp, h1 k hk hkp]
          unfold clrN
          by_cases q : k < i
          · rw [if_pos q, if_pos (by omega)]
          · rw [if_neg q, if_neg (by omega)]
      · rw [upd_ne (fun e => hne e.symm), upd_same, b_and]
        by_cases hj : j < 32
        · rw [h2 j, b_not _ hj, b_pw (by omega)]
          by_cases e : j = i
          · rw [e, decide_eq_true rfl, decide_eq_false (show ¬ i + 1 ≤ i by omega)]; simp
          · rw [decide_eq_false e, show decide (i ≤ j) = decide (i + 1 ≤ j) from decide_eq_decide.mpr (by omega)]; simp
        · rw [b_big (x := NB p) (by omega), b_big (x := nb p) (by omega)]; rfl
      · rw [hb] at hbi
        simp (disch := omega) only [m_X8_end_L2, hv.1, lp_go, hv.nb hP hp, has_b, hbi, e1, nI_clamp, nI_1, bsm, nmd, gd_ix, gd_t, gd_bi, gd_b0, gd_b1, ite_b, ite_p, if_true, if_false, ite_true, ite_false, i10, i00, or0, add0, g0, g1, g2, g3, g4, g5, g6, c0, c1, c2, c3, c4, c5, c6, Bool.false_eq_true, decide_eq_true_eq])
  obtain ⟨NB, hv, ho, h1, h2⟩ := hg
  have h0 : NB p = 0 := b_eq0.mpr fun j hj => by
    rw [h2 j]
    by_cases q : P ≤ j
    · rw [hI.nbr hp j q]; rfl
    · rw [decide_eq_false q, Bool.and_false]
  refine ⟨upd g (7 + p * 6 + 2) (g 0), ?_, ⟨?_, fun k hk => ?_⟩, ho.upd (Or.inr (by omega)) _⟩
  · unfold m_X8_end
    refine hl _ fun rec => ?_
    simp (disch := omega) only [m_X8_end_L2, m_X8_end_J38, hv.1, lp_end, Nat.le_refl, st2, nI_clamp, nI_1, bsm, nmd, gd_ix, gd_t, gd_bi, gd_b0, gd_b1, ite_b, ite_p, if_true, if_false, ite_true, ite_false, i10, i00, or0, add0, g0, g1, g2, g3, g4, g5, g6, c0, c1, c2, c3, c4, c5, c6, Bool.false_eq_true, decide_eq_true_eq]
  · rw [upd_ne (by omega)]; exact hv.1
  · obtain ⟨q0, q1, q2, q3, q4, q5⟩ := hv.2 k hk
    have hg0 : g 0 = n 0 := ho 0 (fun q => by rcases q with q | q <;> omega)
    have hnb : endN nb p P k = NB k := by
      unfold endN
      by_cases e : k = p
      · rw [e, upd_same, h0]
      · rw [upd_ne e, h1 k hk e]
    rw [hnb]
    by_cases e : k = p
    · subst e
      simp (disch := omega) only [upd_ne, upd_same, q0, q1, q3, q4, q5, hg0]
      exact ⟨trivial, trivial, trivial, trivial, trivial, trivial⟩
    · simp (disch := omega) only [upd_ne, q0, q1, q2, q3, q4, q5]
      exact ⟨trivial, trivial, trivial, trivial, trivial, trivial⟩

