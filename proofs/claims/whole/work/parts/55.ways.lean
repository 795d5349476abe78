/-! Ways over easements and borders, in the reference; the two tell the same. -/
theorem pw_ne : ∀ p, p < 32 → ¬ pw p = 0 := by decide +kernel
def prv (f : Int32 → Int32) (a : Int32) : Nat → Int32
  | 0 => 0
  | n + 1 => grow f a n
theorem prv_ne {f : Int32 → Int32} {p : Nat} (hp : p < 32) {s : Nat} (h : ∀ j, j < s → ¬ grow f (pw p) (j + 1) = grow f (pw p) j) : ∀ i, i ≤ s → ¬ grow f (pw p) i = prv f (pw p) i := by
  intro i hi
  cases i with
  | zero => exact pw_ne p hp
  | succ i => exact h i (by omega)

set_option maxHeartbeats 1000000 in
theorem X8_access_in {E P dn : Nat} {ek eo es ef el n : Nat → Int32} (h : IE E P dn ek eo es ef el) (hV : VE E ek eo es ef el n) (hP : P ≤ 24) (hd : dn ≤ 9999) (y w : Int32) (r16 : Int32 × Int32 → Option (Int32 × Int32)) : fuel (m_X8_access_L63 n y w r16) FU (w, 0) = r16 (lyR E ek eo es el y w, w) := by
  unfold lyR
  have hE := h.1
  refine for_up (c := E) (fun s x => (s, x)) (fun k s => if bLy ek es el y s k = true then s ||| pw (eo k).toNatClampNeg else s) w (by omega) (fun rec i hi => ?_) (fun rec => ?_)
  · generalize foldN (fun k s => if bLy ek es el y s k = true then s ||| pw (eo k).toNatClampNeg else s) w i = x
    obtain ⟨a, ha, ho⟩ := h.on hi
    obtain ⟨b, hbb, hs⟩ := h.sv hi
    have hE := h.1
    have hy := X8_lasts (P := 0) (dn := 0) hV hE hi (h.day hd hi)
    have h1 := hV.ek hE hi
    have h2 := hV.eo hE hi
    have h3 := hV.es hE hi
    by_cases hb : el i = -1
    all_goals by_cases hc : ek i = y
    all_goals cases hdd : bt x b
    all_goals simp (disch := omega) only [m_X8_access_L63, lp_go, bLy, Bool.and_eq_true, and_true, true_and, and_false, false_and, and_self, nI_clamp, nI_1, bsm, nmd, gd_ix, gd_t, gd_bi, gd_b0, gd_b1, ite_b, ite_p, if_true, if_false, ite_true, ite_false, i10, i00, or0, add0, g0, g1, g2, g3, g4, g5, g6, c0, c1, c2, c3, c4, c5, c6, Bool.false_eq_true, decide_eq_true_eq, hV.1, hb, hc, hdd, hs, ho, has_b, hy, h1, h2, h3, m_X8_access_J113, m_X8_bit]
  · simp (disch := omega) only [m_X8_access_L63, lp_end, Nat.le_refl, nI_clamp, nI_1, bsm, nmd, gd_ix, gd_t, gd_bi, gd_b0, gd_b1, ite_b, ite_p, if_true, if_false, ite_true, ite_false, i10, i00, or0, add0, g0, g1, g2, g3, g4, g5, g6, c0, c1, c2, c3, c4, c5, c6, Bool.false_eq_true, decide_eq_true_eq, hV.1]

set_option maxHeartbeats 1000000 in
theorem X8_access_out {E P dn p : Nat} {ek eo es ef el n : Nat → Int32} (h : IE E P dn ek eo es ef el) (hV : VE E ek eo es ef el n) (hP : P ≤ 24) (hd : dn ≤ 9999) (hp : p < P) (y v : Int32) : fuel (m_X8_access_L51 n (nI p) y v) FU (pw p, 0) = some (grow (lyC E ek eo es el y) (pw p) 24 &&& (pw p ^^^ (-1)), v) := by
  obtain ⟨s, h1, h2, h3, h4⟩ := reach_same h hP hp y
  refine loop_run (c := s + 1) (fun i => (grow (lyR E ek eo es el y) (pw p) i, prv (lyR E ek eo es el y) (pw p) i)) (by omega) (fun rec i hi => ?_) (fun rec => ?_)
  · have e := prv_ne (f := lyR E ek eo es el y) (by omega) h3 i (by omega)
    simp only [m_X8_access_L51, e, if_false, X8_access_in h hV hP hd]
    rfl
  · have e : grow (lyR E ek eo es el y) (pw p) (s + 1) = prv (lyR E ek eo es el y) (pw p) (s + 1) := h2
    simp only [m_X8_access_L51, e, if_true, m_X8_access_J146, m_X8_bit, bsm]
    rw [← e, h4]
theorem or_assoc32 (a b c : Int32) : a ||| b ||| c = a ||| (b ||| c) := b_ext fun i _ => by rw [b_or, b_or, b_or, b_or, Bool.or_assoc]
theorem sOr_acc {b : Nat → Bool} {v : Nat → Int32} {a : Int32} {n : Nat} : foldN (sOr b v) a n = a ||| foldN (sOr b v) 0 n := by
  induction n with
  | zero => exact (or0 a).symm
  | succ n ih =>
    rw [foldN_s, foldN_s, ih]
    cases h : b n with
    | true => rw [sOr_t h, sOr_t h, or_assoc32]
    | false => rw [sOr_f h, sOr_f h]
def nbC (P : Nat) (nb : Nat → Int32) (m : Int32) : Int32 := m ||| foldN (sOr (bIn m) nb) 0 P
theorem nbC_e (P : Nat) (nb : Nat → Int32) (m : Int32) : foldN (sOr (bIn m) nb) m P = nbC P nb m := sOr_acc
theorem nbC_up (P : Nat) (nb : Nat → Int32) (m : Int32) : SubM m (nbC P nb m) := SubM.orl _ _
theorem nbC_low {P dn p : Nat} {ar fi la nb pa ro : Nat → Int32} (h : IP P dn ar fi la nb pa ro) (hp : p < P) : ∀ i, Low (grow (nbC P nb) (pw p) i) P := by
  have hP := h.le
  intro i
  induction i with
  | zero => exact Low.pw hp (by omega)
  | succ i ih =>
    refine Low.or ih fun j hj => ?_
    cases hb : bt (foldN (sOr (bIn (grow (nbC P nb) (pw p) i)) nb) 0 P) j with
    | false => rfl
    | true =>
      rcases sOr_b.mp hb with h1 | ⟨k, hk, _, h1⟩
      · rw [b_0] at h1; cases h1
      · rw [h.nbr hk j hj] at h1; cases h1
set_option maxHeartbeats 1000000 in
theorem X4_stepsBetween {P p q : Nat} (hP : P ≤ 24) (hp : p < 32) (hq : q < 32) (nb : Nat → Int32) : m_X4_stepsBetween (nI p) (nI q) (nI P) nb = some (match fnd (fun i => bt (grow (nbC P nb) (pw p) i) q) 24 with | some i => nI i | none => -1) := by
  unfold m_X4_stepsBetween
  refine (for_find (c := 24) (fun i => bt (grow (nbC P nb) (pw p) i) q) (fun i => (grow (nbC P nb) (pw p) i, nI i)) (fun i => some (nI i)) (dflt := some (-1)) (by omega) (fun rec i hi hb => ?_) (fun rec i hi hb => ?_) (fun rec => ?_)).trans ?_
  · have e : ¬ (24 : Int32) ≤ nI i := nI_ge (b := 24) hi (by decide)
    have hl := X4_neighboursOfAll hP nb (grow (nbC P nb) (pw p) i)
    simp (disch := omega) only [m_X4_stepsBetween_L7, e, isIn_b, hb, hl, nI_clamp, nI_1, bsm, nmd, gd_ix, gd_t, gd_bi, gd_b0, gd_b1, ite_b, ite_p, if_true, if_false, ite_true, ite_false, i10, i00, or0, add0, g0, g1, g2, g3, g4, g5, g6, c0, c1, c2, c3, c4, c5, c6, Bool.false_eq_true, decide_eq_true_eq]
    rfl
  · have e : ¬ (24 : Int32) ≤ nI i := nI_ge (b := 24) hi (by decide)
    simp (disch := omega) only [m_X4_stepsBetween_L7, e, isIn_b, hb, nI_clamp, nI_1, bsm, nmd, gd_ix, gd_t, gd_bi, gd_b0, gd_b1, ite_b, ite_p, if_true, if_false, ite_true, ite_false, i10, i00, or0, add0, g0, g1, g2, g3, g4, g5, g6, c0, c1, c2, c3, c4, c5, c6, Bool.false_eq_true, decide_eq_true_eq]
  · have e : (24 : Int32) ≤ nI 24 := by decide
    simp (disch := omega) only [m_X4_stepsBetween_L7, e, nI_clamp, nI_1, bsm, nmd, gd_ix, gd_t, gd_bi, gd_b0, gd_b1, ite_b, ite_p, if_true, if_false, ite_true, ite_false, i10, i00, or0, add0, g0, g1, g2, g3, g4, g5, g6, c0, c1, c2, c3, c4, c5, c6, Bool.false_eq_true, decide_eq_true_eq]
  · cases fnd (fun i => bt (grow (nbC P nb) (pw p) i) q) 24 <;> rfl

set_option maxHeartbeats 1000000 in
theorem X8_borders_in {P dn : Nat} {ar fi la nb pa ro n : Nat → Int32} (hI : IP P dn ar fi la nb pa ro) (h : VP P ar fi la nb pa ro n) (w st : Int32) (r23 : Int32 × Int32 × Int32 → Option (Int32 × Int32)) : fuel (m_X8_borders_L91 n w st r23) FU (w, 0) = r23 (nbC P nb w, w, st + 1) := by
  have hP := hI.le
  refine for_up (c := P) (fun s x => (s, x)) (sOr (bIn w) nb) w (by omega) (fun rec i hi => ?_) (fun rec => ?_)
  · generalize foldN (sOr (bIn w) nb) w i = x
    have h1 := h.nb hP hi
    cases hb : bt w i
    all_goals simp (disch := omega) only [m_X8_borders_L91, lp_go, sSum, sOr, sCnt, bIn, bEq, nI_clamp, nI_1, bsm, nmd, gd_ix, gd_t, gd_bi, gd_b0, gd_b1, ite_b, ite_p, if_true, if_false, ite_true, ite_false, i10, i00, or0, add0, g0, g1, g2, g3, g4, g5, g6, c0, c1, c2, c3, c4, c5, c6, Bool.false_eq_true, decide_eq_true_eq, h.1, hb, has_b, h1]
  · simp (disch := omega) only [m_X8_borders_L91, lp_end, Nat.le_refl, nI_clamp, nI_1, bsm, nmd, gd_ix, gd_t, gd_bi, gd_b0, gd_b1, ite_b, ite_p, if_true, if_false, ite_true, ite_false, i10, i00, or0, add0, g0, g1, g2, g3, g4, g5, g6, c0, c1, c2, c3, c4, c5, c6, Bool.false_eq_true, decide_eq_true_eq, h.1, nbC_e]

set_option maxHeartbeats 1000000 in
theorem X8_borders_out {P dn p q : Nat} {ar fi la nb pa ro n : Nat → Int32} (hI : IP P dn ar fi la nb pa ro) (h : VP P ar fi la nb pa ro n) (hp : p < P) (hq : q < P) : fuel (m_X8_borders_L71 n (nI q)) FU (pw p, 0, 0) = some (match fnd (fun i => bt (grow (nbC P nb) (pw p) i) q) 24 with | some i => (nI i, 0) | none => (0, 3)) := by
  have hP := hI.le
  have h1b : ∀ x y, m_X8_fails x y = (if y = 0 then gd (isb y) (some (y, (0 : Int32))) else gd (isb y) (some (y, x))) := fun _ _ => rfl
  cases hf : fnd (fun i => bt (grow (nbC P nb) (pw p) i) q) 24 with
  | some s =>
    obtain ⟨h1, h2, h3⟩ := fnd_some hf
    refine loop_run (c := s) (fun i => (grow (nbC P nb) (pw p) i, prv (nbC P nb) (pw p) i, nI i)) (by omega) (fun rec i hi => ?_) (fun rec => ?_)
    · have e : ¬ grow (nbC P nb) (pw p) i = prv (nbC P nb) (pw p) i := by
        cases i with
        | zero => exact pw_ne p (by omega)
        | succ i =>
          intro q9
          have g := grow_stay (i := i) q9 (s - i)
          rw [show i + (s - i) = s by omega] at g
          have h4 := h3 i (by omega)
          replace h4 : bt (grow (nbC P nb) (pw p) i) q = false := h4
          replace h2 : bt (grow (nbC P nb) (pw p) s) q = true := h2
          rw [g, h4] at h2
          cases h2
      have h4 : bt (grow (nbC P nb) (pw p) i) q = false := h3 i hi
      simp (disch := omega) only [m_X8_borders_L71, has_b, h4, e, X8_borders_in hI h, nI_clamp, nI_1, bsm, nmd, gd_ix, gd_t, gd_bi, gd_b0, gd_b1, ite_b, ite_p, if_true, if_false, ite_true, ite_false, i10, i00, or0, add0, g0, g1, g2, g3, g4, g5, g6, c0, c1, c2, c3, c4, c5, c6, Bool.false_eq_true, decide_eq_true_eq]
      rfl
    · have h4 : bt (grow (nbC P nb) (pw p) s) q = true := h2
      simp (disch := omega) only [m_X8_borders_L71, m_X8_borders_J138, m_X8_borders_J153, has_b, h4, h1b, nI_clamp, nI_1, bsm, nmd, gd_ix, gd_t, gd_bi, gd_b0, gd_b1, ite_b, ite_p, if_true, if_false, ite_true, ite_false, i10, i00, or0, add0, g0, g1, g2, g3, g4, g5, g6, c0, c1, c2, c3, c4, c5, c6, Bool.false_eq_true, decide_eq_true_eq]
  | none =>
    obtain ⟨s, h1, h2, h3⟩ := grow_stab (nbC_up P nb) (nbC_low hI hp) (card_pw hp (by omega)) hP
    refine loop_run (c := s + 1) (fun i => (grow (nbC P nb) (pw p) i, prv (nbC P nb) (pw p) i, nI i)) (by omega) (fun rec i hi => ?_) (fun rec => ?_)
    · have e := prv_ne (f := nbC P nb) (by omega) h3 i (by omega)
      have h4 : bt (grow (nbC P nb) (pw p) i) q = false := fnd_none hf i (by omega)
      simp (disch := omega) only [m_X8_borders_L71, has_b, h4, e, X8_borders_in hI h, nI_clamp, nI_1, bsm, nmd, gd_ix, gd_t, gd_bi, gd_b0, gd_b1, ite_b, ite_p, if_true, if_false, ite_true, ite_false, i10, i00, or0, add0, g0, g1, g2, g3, g4, g5, g6, c0, c1, c2, c3, c4, c5, c6, Bool.false_eq_true, decide_eq_true_eq]
      rfl
    · have e : grow (nbC P nb) (pw p) (s + 1) = prv (nbC P nb) (pw p) (s + 1) := h2
      have h4 : bt (grow (nbC P nb) (pw p) s) q = false := fnd_none hf s (by omega)
      have h5 : bt (grow (nbC P nb) (pw p) (s + 1)) q = false := by rw [h2]; exact h4
      have h6 : (1 : Int32) = 0 ↔ False := by decide
      simp (disch := omega) only [m_X8_borders_L71, m_X8_borders_J138, m_X8_borders_J153, has_b, h5, h1b, ← e, nI_clamp, nI_1, bsm, nmd, gd_ix, gd_t, gd_bi, gd_b0, gd_b1, ite_b, ite_p, if_true, if_false, ite_true, ite_false, i10, i00, or0, add0, g0, g1, g2, g3, g4, g5, g6, c0, c1, c2, c3, c4, c5, c6, Bool.false_eq_true, decide_eq_true_eq]

