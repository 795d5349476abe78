/-! The liens: writing. -/
theorem nI_2 (a : Nat) : nI a + 2 = nI (a + 2) := nI_add a 2
theorem l541 (k : Nat) : (541 : Int32) + nI k * (3 : Int32) = nI (541 + k * 3) := by
  show nI 541 + nI k * nI 3 = _
  rw [pk_mul, nI_add]
theorem l601 (k : Nat) : (601 : Int32) + nI k = nI (601 + k) := nI_add 601 k
theorem lit_ge {b i : Nat} {x : Int32} (hx : x = nI b) (h : i < b) (hb : b < 2 ^ 31) : (x ≤ nI i) = False := eq_false (by rw [hx]; exact nI_ge h hb)
theorem lit_le {b i : Nat} {x : Int32} (hx : x = nI b) (h : b ≤ i) (hi : i < 2 ^ 31) : (x ≤ nI i) = True := eq_true (by rw [hx]; exact nI_le h hi)
theorem lit_lt {b i : Nat} {x : Int32} (hx : x = nI b) (h : i < b) (hb : b < 2 ^ 31) : (nI i < x) = True := eq_true (by rw [hx]; exact nI_lt h hb)
theorem lit_nlt {b i : Nat} {x : Int32} (hx : x = nI b) (h : b ≤ i) (hi : i < 2 ^ 31) : (nI i < x) = False := eq_false (by rw [hx]; exact nI_nlt h hi)
theorem lit_eq {b i : Nat} {x : Int32} (hx : x = nI b) (h : i = b) : (nI i = x) = True := eq_true (by rw [hx, h])
theorem lit_ne {b i : Nat} {x : Int32} (hx : x = nI b) (h : i ≠ b) (hi : i < 2 ^ 31) (hb : b < 2 ^ 31) : (nI i = x) = False := eq_false (by rw [hx, nI_eq hi hb]; exact h)
theorem X3_come {L K p : Nat} (hL : L < 20) (hK : K ≤ L) (c a : Int32) (lc lm lp lr : Nat → Int32) : m_X3_come (nI p) c a (nI L) (nI K) lc lm lp lr = some (nI L, nI (L + 1), nI (K + 1), upd lc L c, upd lm L a, upd lp L (pw p), upd lr K (nI L)) := by
  unfold m_X3_come
  simp (disch := omega) only [lit_ge (b := 20) (x := 20) rfl hL (by omega), lit_lt (b := 20) (x := 20) (i := K) rfl (by omega) (by omega), nI_pred, nI_clamp, nI_1, bsm, nmd, gd_ix, gd_t, gd_bi, gd_b0, gd_b1, ite_b, ite_p, if_true, if_false, ite_true, ite_false, i10, i00, or0, add0, g0, g1, g2, g3, g4, g5, g6, c0, c1, c2, c3, c4, c5, c6, Bool.false_eq_true, decide_eq_true_eq]
theorem X3_come_no {L K p : Nat} (hL : L = 20) (c a : Int32) (lc lm lp lr : Nat → Int32) : m_X3_come (nI p) c a (nI L) (nI K) lc lm lp lr = some (-1, nI L, nI K, lc, lm, lp, lr) := by
  unfold m_X3_come
  simp (disch := omega) only [lit_le (b := 20) (x := 20) (i := L) rfl (by omega) (by omega), nI_clamp, nI_1, bsm, nmd, gd_ix, gd_t, gd_bi, gd_b0, gd_b1, ite_b, ite_p, if_true, if_false, ite_true, ite_false, i10, i00, or0, add0, g0, g1, g2, g3, g4, g5, g6, c0, c1, c2, c3, c4, c5, c6, Bool.false_eq_true, decide_eq_true_eq]
set_option maxHeartbeats 2000000 in
theorem X8_doLien {L K p : Nat} {lc lm lp lr n : Nat → Int32} (hV : VL L K lc lm lp lr n) (hL : L < 20) (hK : K ≤ L) (c a : Int32) : ∃ m, m_X8_doLien (nI p) c a n = some (nI L, m) ∧ VL (L + 1) (K + 1) (upd lc L c) (upd lm L a) (upd lp L (pw p)) (upd lr K (nI L)) m ∧ Off rL n m := by
  obtain ⟨h1, h2, h3, h4⟩ := hV
  unfold m_X8_doLien
  simp (disch := omega) only [h1, h2, l541, l601, nI_2, m_X8_bit, upd_ne, upd_same, nI_clamp, nI_1, bsm, nmd, gd_ix, gd_t, gd_bi, gd_b0, gd_b1, ite_b, ite_p, if_true, if_false, ite_true, ite_false, i10, i00, or0, add0, g0, g1, g2, g3, g4, g5, g6, c0, c1, c2, c3, c4, c5, c6, Bool.false_eq_true, decide_eq_true_eq]
  refine ⟨_, rfl, ⟨?_, ?_, fun k hk => ?_, fun k hk => ?_⟩, ?_⟩
  · simp (disch := omega) only [upd_ne, upd_same]
  · simp (disch := omega) only [upd_ne, upd_same]
  · by_cases e : k = L
    · subst e
      simp (disch := omega) only [upd_ne, upd_same, Nat.add_zero]
      exact ⟨trivial, trivial, trivial⟩
    · obtain ⟨g0, g1, g2⟩ := h3 k (by omega)
      simp (disch := omega) only [upd_ne, g0, g1, g2]
      exact ⟨trivial, trivial, trivial⟩
  · by_cases e : k = K
    · subst e
      simp (disch := omega) only [upd_ne, upd_same]
    · have := h4 k (by omega)
      simp (disch := omega) only [upd_ne, this]
  · exact (((((((Off.rf rL n).upd (Or.inr (Or.inr (by omega))) _).upd (Or.inr (Or.inr (by omega))) _).upd (Or.inr (Or.inr (by omega))) _).upd (Or.inr (Or.inr (by omega))) _).upd (Or.inr (Or.inl rfl)) _).upd (Or.inl rfl) _)
theorem IL.come {L K : Nat} {lc lm lp lr lp' : Nat → Int32} (h : IL L K lc lm lp lr) (hL : L < 20) {c a : Int32} (hc : ∃ x, x < 10 ∧ c = nI x) (ha : ∃ x, 1 ≤ x ∧ x ≤ 9999 ∧ a = nI x) : IL (L + 1) (K + 1) (upd lc L c) (upd lm L a) lp' (upd lr K (nI L)) := by
  have hK := h.2.1
  refine ⟨by omega, by omega, fun k hk => ?_, fun k hk => ?_, fun i j hi hj e => ?_⟩
  · by_cases e : k = L
    · rw [e, upd_same, upd_same]; exact ⟨hc, ha⟩
    · rw [upd_ne e, upd_ne e]; exact h.2.2.1 k (by omega)
  · by_cases e : k = K
    · rw [e, upd_same]; exact ⟨L, by omega, rfl⟩
    · rw [upd_ne e]
      obtain ⟨r, h1, h2⟩ := h.2.2.2.1 k (by omega)
      exact ⟨r, by omega, h2⟩
  · by_cases ei : i = K
    · by_cases ej : j = K
      · omega
      · rw [ei, upd_same, upd_ne ej] at e
        obtain ⟨r, h1, h2⟩ := h.2.2.2.1 j (by omega)
        rw [h2] at e
        have := (nI_eq (by omega) (by omega)).mp e
        omega
    · by_cases ej : j = K
      · rw [ej, upd_same, upd_ne ei] at e
        obtain ⟨r, h1, h2⟩ := h.2.2.2.1 i (by omega)
        rw [h2] at e
        have := (nI_eq (by omega) (by omega)).mp e
        omega
      · rw [upd_ne ei, upd_ne ej] at e
        exact h.inj (by omega) (by omega) e
/-! Liens follow their parcels. -/
def sFo (a b : Int32) (lr : Nat → Int32) : Nat → (Nat → Int32) → Nat → Int32 := fun k g => if g (rkN lr k) &&& a = 0 then g else upd g (rkN lr k) ((g (rkN lr k) &&& (a ^^^ (-1))) ||| b)
theorem sFo_t {a b : Int32} {lr g : Nat → Int32} {k : Nat} (h : g (rkN lr k) &&& a = 0) : sFo a b lr k g = g := if_pos h
theorem sFo_n {a b : Int32} {lr g : Nat → Int32} {k : Nat} (h : ¬ g (rkN lr k) &&& a = 0) : sFo a b lr k g = upd g (rkN lr k) ((g (rkN lr k) &&& (a ^^^ (-1))) ||| b) := if_neg h

set_option maxHeartbeats 1000000 in
theorem X3_follow {L K : Nat} {lc lm lp lr : Nat → Int32} (h : IL L K lc lm lp lr) (a b : Int32) : m_X3_follow a b (nI K) lp lr = some (foldN (sFo a b lr) lp K) := by
  unfold m_X3_follow
  have hL := h.1
  have hK := h.2.1
  refine for_up (c := K) (fun s x => (x, s)) (sFo a b lr) lp (by omega) (fun rec i hi => ?_) (fun rec => ?_)
  · generalize foldN (sFo a b lr) lp i = x
    obtain ⟨h1, h2⟩ := h.rk hi
    have hL := h.1
    have hK := h.2.1
    by_cases hb : x (rkN lr i) &&& a = 0
    all_goals simp (disch := omega) only [m_X3_follow_L2, lp_go, sFo, nI_clamp, nI_1, bsm, nmd, gd_ix, gd_t, gd_bi, gd_b0, gd_b1, ite_b, ite_p, if_true, if_false, ite_true, ite_false, i10, i00, or0, add0, g0, g1, g2, g3, g4, g5, g6, c0, c1, c2, c3, c4, c5, c6, Bool.false_eq_true, decide_eq_true_eq, h1, hb]
  · simp (disch := omega) only [m_X3_follow_L2, lp_end, Nat.le_refl, nI_clamp, nI_1, bsm, nmd, gd_ix, gd_t, gd_bi, gd_b0, gd_b1, ite_b, ite_p, if_true, if_false, ite_true, ite_false, i10, i00, or0, add0, g0, g1, g2, g3, g4, g5, g6, c0, c1, c2, c3, c4, c5, c6, Bool.false_eq_true, decide_eq_true_eq]

set_option maxHeartbeats 2000000 in
theorem X8_moveLiens {L K : Nat} {lc lm lp lr n : Nat → Int32} (h : IL L K lc lm lp lr) (hV : VL L K lc lm lp lr n) (a b : Int32) : ∃ m, m_X8_moveLiens a b n = some m ∧ VL L K lc lm (foldN (sFo a b lr) lp K) lr m ∧ Off rL n m := by
  have hL := h.1
  have hK := h.2.1
  obtain ⟨m, hm, hl⟩ := for_rel (F := m_X8_moveLiens_L2 a b) (c := K) (fun s x => (x, s)) (fun i g => VL L K lc lm (foldN (sFo a b lr) lp i) lr g ∧ Off rL n g) n (by omega) ⟨hV, Off.rf _ _⟩ (fun rec i s hi hs => by
    obtain ⟨hv, ho⟩ := hs
    obtain ⟨h1, h2⟩ := h.rk hi
    have hr := hv.lr hi
    rw [h1] at hr
    have hx := (hv.2.2.1 _ h2).2.2
    refine ⟨upd s (541 + rkN lr i * 3 + 2) (if foldN (sFo a b lr) lp i (rkN lr i) &&& a = 0 then foldN (sFo a b lr) lp i (rkN lr i) else (foldN (sFo a b lr) lp i (rkN lr i) &&& (a ^^^ (-1))) ||| b), ⟨⟨?_, ?_, fun k hk => ?_, fun k hk => ?_⟩, ?_⟩, ?_⟩
    · rw [upd_ne (by omega)]; exact hv.1
    · rw [upd_ne (by omega)]; exact hv.2.1
    · obtain ⟨q0, q1, q2⟩ := hv.2.2.1 k hk
      refine ⟨by rw [upd_ne (by omega)]; exact q0, by rw [upd_ne (by omega)]; exact q1, ?_⟩
      rw [foldN_s]
      by_cases e : k = rkN lr i
      · rw [e, upd_same]
        by_cases hb : foldN (sFo a b lr) lp i (rkN lr i) &&& a = 0
        · rw [if_pos hb, sFo_t hb]
        · rw [if_neg hb, sFo_n hb, upd_same]
      · rw [upd_ne (by omega), q2]
        by_cases hb : foldN (sFo a b lr) lp i (rkN lr i) &&& a = 0
        · rw [sFo_t hb]
        · rw [sFo_n hb, upd_ne e]
    · rw [upd_ne (by omega)]; exact hv.2.2.2 k hk
    · exact ho.upd (Or.inr (Or.inr (by omega))) _
    · by_cases hb : foldN (sFo a b lr) lp i (rkN lr i) &&& a = 0
      all_goals simp (disch := omega) only [m_X8_moveLiens_L2, hv.2.1, lp_go, l601, hr, l541, nI_2, hx, hb, nI_clamp, nI_1, bsm, nmd, gd_ix, gd_t, gd_bi, gd_b0, gd_b1, ite_b, ite_p, if_true, if_false, ite_true, ite_false, i10, i00, or0, add0, g0, g1, g2, g3, g4, g5, g6, c0, c1, c2, c3, c4, c5, c6, Bool.false_eq_true, decide_eq_true_eq])
  refine ⟨m, ?_, hm⟩
  unfold m_X8_moveLiens
  refine hl _ fun rec => ?_
  simp (disch := omega) only [m_X8_moveLiens_L2, hm.1.2.1, lp_end, Nat.le_refl, g5, c5]
/-! The ranking. -/
def shl (f : Nat → Int32) (i x : Nat) : Nat → Int32 := fun k => if i ≤ k ∧ k < x then f (k + 1) else f k
def mvb (f : Nat → Int32) (i j : Nat) : Nat → Int32 := fun k => if k = j then f i else if i ≤ k ∧ k < j then f (k + 1) else f k
theorem shl_0 (f : Nat → Int32) (i : Nat) : shl f i i = f := funext fun k => by
  unfold shl
  rw [if_neg (by omega)]
theorem shl_s {f : Nat → Int32} {i x : Nat} (h : i ≤ x) : upd (shl f i x) x (shl f i x (x + 1)) = shl f i (x + 1) := funext fun k => by
  unfold shl
  by_cases e : k = x
  · subst e
    rw [upd_same, if_neg (by omega), if_pos (by omega)]
  · rw [upd_ne e]
    by_cases q : i ≤ k ∧ k < x
    · rw [if_pos q, if_pos (by omega)]
    · rw [if_neg q, if_neg (by omega)]
theorem shl_e {f : Nat → Int32} {i j : Nat} : upd (shl f i j) j (f i) = mvb f i j := funext fun k => by
  unfold mvb
  by_cases e : k = j
  · subst e; rw [upd_same, if_pos rfl]
  · rw [upd_ne e, if_neg e]; rfl
theorem X3_moveBack {i j K : Nat} (hij : i ≤ j) (hj : j < K) (hK : K ≤ 20) (lr : Nat → Int32) : m_X3_moveBack (nI i) (nI j) (nI K) lr = some (mvb lr i j) := by
  unfold m_X3_moveBack
  rw [if_neg (nI_pos (by omega)), if_neg (nI_nlt hij (by omega)), if_pos (nI_lt hj (by omega)), gd_ix (by omega) (by omega)]
  have e0 : (nI i, lr) = (nI (i + 0), shl lr i (i + 0)) := by rw [Nat.add_zero, shl_0]
  rw [e0]
  refine loop_run (c := j - i) (fun t => (nI (i + t), shl lr i (i + t))) (by omega) (fun rec t ht => ?_) (fun rec => ?_)
  · simp (disch := omega) only [m_X3_moveBack_L28, lp_go, shl_s, ← Nat.add_assoc, nI_clamp, nI_1, bsm, nmd, gd_ix, gd_t, gd_bi, gd_b0, gd_b1, ite_b, ite_p, if_true, if_false, ite_true, ite_false, i10, i00, or0, add0, g0, g1, g2, g3, g4, g5, g6, c0, c1, c2, c3, c4, c5, c6, Bool.false_eq_true, decide_eq_true_eq]
  · rw [show i + (j - i) = j by omega]
    simp (disch := omega) only [m_X3_moveBack_L28, lp_end, Nat.le_refl, shl_e, nI_clamp, nI_1, bsm, nmd, gd_ix, gd_t, gd_bi, gd_b0, gd_b1, ite_b, ite_p, if_true, if_false, ite_true, ite_false, i10, i00, or0, add0, g0, g1, g2, g3, g4, g5, g6, c0, c1, c2, c3, c4, c5, c6, Bool.false_eq_true, decide_eq_true_eq]
theorem X3_dropPlace {i K : Nat} (hi : i < K) (hK : K ≤ 20) (lr : Nat → Int32) : m_X3_dropPlace (nI i) (nI K) lr = some (nI (K - 1), mvb lr i (K - 1)) := by
  unfold m_X3_dropPlace
  have e : nI K - 1 = nI (K - 1) := by
    obtain ⟨d, rfl⟩ : ∃ d, K = d + 1 := ⟨K - 1, by omega⟩
    rw [nI_pred]; rfl
  rw [if_neg (nI_pos (by omega)), if_pos (nI_lt hi (by omega)), e, X3_moveBack (by omega) (by omega) hK, bsm]
def shR (g : Nat → Int32) (i x : Nat) : Nat → Int32 := fun j => if 601 + i ≤ j ∧ j < 601 + x then g (j + 1) else g j
theorem shR_0 (f : Nat → Int32) (i : Nat) : shR f i i = f := funext fun k => by
  unfold shR
  rw [if_neg (by omega)]
theorem shR_s {f : Nat → Int32} {i x : Nat} (h : i ≤ x) : upd (shR f i x) (601 + x) (shR f i x (601 + x + 1)) = shR f i (x + 1) := funext fun k => by
  unfold shR
  by_cases e : k = 601 + x
  · subst e
    rw [upd_same, if_neg (by omega), if_pos (by omega)]
  · rw [upd_ne e]
    by_cases q : 601 + i ≤ k ∧ k < 601 + x
    · rw [if_pos q, if_pos (by omega)]
    · rw [if_neg q, if_neg (by omega)]
theorem shR_lo {f : Nat → Int32} {i x j : Nat} (h : j < 601) : shR f i x j = f j := if_neg (by omega)
theorem shR_off {f n : Nat → Int32} {i x : Nat} (hx : x ≤ 20) (ho : Off rL n f) : Off rL n (shR f i x) := fun j hj => by
  unfold shR
  by_cases q : 601 + i ≤ j ∧ j < 601 + x
  · exact absurd (Or.inr (Or.inr (by omega))) hj
  · rw [if_neg q]; exact ho j hj
theorem shR_V {L K i j : Nat} {lc lm lp lr n : Nat → Int32} (hV : VL L K lc lm lp lr n) (hL : L ≤ 20) (hij : i ≤ j) (hj : j < K) (hK : K ≤ L) : (∀ k, k < K → k ≠ j → shR n i j (601 + k) = mvb lr i j k) := fun k hk hne => by
  unfold shR mvb
  rw [if_neg hne]
  by_cases q : i ≤ k ∧ k < j
  · rw [if_pos q, if_pos (by omega)]
    exact hV.2.2.2 (k + 1) (by omega)
  · rw [if_neg q, if_neg (by omega)]
    exact hV.2.2.2 k hk
set_option maxHeartbeats 2000000 in
theorem X8_takeOut {L K i : Nat} {lc lm lp lr n : Nat → Int32} (hV : VL L K lc lm lp lr n) (hL : L ≤ 20) (hK : K ≤ L) (hi : i < K) : ∃ m, m_X8_takeOut (nI i) n = some m ∧ VL L (K - 1) lc lm lp (mvb lr i (K - 1)) m ∧ Off rL n m := by
  have e : nI K - 1 = nI (K - 1) := by
    obtain ⟨d, rfl⟩ : ∃ d, K = d + 1 := ⟨K - 1, by omega⟩
    rw [nI_pred]; rfl
  refine ⟨shR (upd n 5 (nI (K - 1))) i (K - 1), ?_, ⟨?_, ?_, fun k hk => ?_, fun k hk => ?_⟩, ?_⟩
  · unfold m_X8_takeOut
    rw [g5, g5, c5, hV.2.1, e]
    have e0 : (nI i, upd n 5 (nI (K - 1))) = (nI (i + 0), shR (upd n 5 (nI (K - 1))) i (i + 0)) := by rw [Nat.add_zero, shR_0]
    rw [e0]
    refine loop_run (c := (K - 1) - i) (fun t => (nI (i + t), shR (upd n 5 (nI (K - 1))) i (i + t))) (by omega) (fun rec t ht => ?_) (fun rec => ?_)
    · have hs := shR_s (f := upd n 5 (nI (K - 1))) (i := i) (x := i + t) (by omega)
      simp only [← Nat.add_assoc] at hs
      simp (disch := omega) only [m_X8_takeOut_L12, shR_lo, upd_same, lp_go, l601, hs, ← Nat.add_assoc, nI_clamp, nI_1, bsm, nmd, gd_ix, gd_t, gd_bi, gd_b0, gd_b1, ite_b, ite_p, if_true, if_false, ite_true, ite_false, i10, i00, or0, add0, g0, g1, g2, g3, g4, g5, g6, c0, c1, c2, c3, c4, c5, c6, Bool.false_eq_true, decide_eq_true_eq]
    · rw [show i + (K - 1 - i) = K - 1 by omega]
      simp (disch := omega) only [m_X8_takeOut_L12, shR_lo, upd_same, lp_end, Nat.le_refl, nI_clamp, nI_1, bsm, nmd, gd_ix, gd_t, gd_bi, gd_b0, gd_b1, ite_b, ite_p, if_true, if_false, ite_true, ite_false, i10, i00, or0, add0, g0, g1, g2, g3, g4, g5, g6, c0, c1, c2, c3, c4, c5, c6, Bool.false_eq_true, decide_eq_true_eq]
  · rw [shR_lo (by omega), upd_ne (by omega)]; exact hV.1
  · rw [shR_lo (by omega), upd_same]
  · obtain ⟨q0, q1, q2⟩ := hV.2.2.1 k hk
    rw [shR_lo (by omega), shR_lo (by omega), shR_lo (by omega), upd_ne (by omega), upd_ne (by omega), upd_ne (by omega)]
    exact ⟨q0, q1, q2⟩
  · have : shR (upd n 5 (nI (K - 1))) i (K - 1) (601 + k) = shR n i (K - 1) (601 + k) := by
      unfold shR
      by_cases q : 601 + i ≤ 601 + k ∧ 601 + k < 601 + (K - 1)
      · rw [if_pos q, if_pos q, upd_ne (by omega)]
      · rw [if_neg q, if_neg q, upd_ne (by omega)]
    rw [this]
    exact shR_V hV hL (by omega) (by omega) hK k (by omega) (by omega)
  · exact shR_off (by omega) ((Off.rf rL n).upd (Or.inr (Or.inl rfl)) _)
set_option maxHeartbeats 2000000 in
theorem X8_postpone0 {L K i j : Nat} {lc lm lp lr n : Nat → Int32} (hV : VL L K lc lm lp lr n) (hL : L ≤ 20) (hK : K ≤ L) (hij : i ≤ j) (hj : j < K) (v9 v11 : Int32) (h12 : Nat → Nat → Int32) : ∃ m, fuel (m_X8_postpone_L86 (lr i) v9 v11 h12 (nI j)) FU (nI i, n) = some (nI j, v9, v11, m, h12) ∧ VL L K lc lm lp (mvb lr i j) m ∧ Off rL n m := by
  refine ⟨upd (shR n i j) (601 + j) (lr i), ?_, ⟨?_, ?_, fun k hk => ?_, fun k hk => ?_⟩, ?_⟩
  · have e0 : (nI i, n) = (nI (i + 0), shR n i (i + 0)) := by rw [Nat.add_zero, shR_0]
    rw [e0]
    refine loop_run (c := j - i) (fun t => (nI (i + t), shR n i (i + t))) (by omega) (fun rec t ht => ?_) (fun rec => ?_)
    · have hs := shR_s (f := n) (i := i) (x := i + t) (by omega)
      simp only [← Nat.add_assoc] at hs
      simp (disch := omega) only [m_X8_postpone_L86, lp_go, l601, hs, ← Nat.add_assoc, nI_clamp, nI_1, bsm, nmd, gd_ix, gd_t, gd_bi, gd_b0, gd_b1, ite_b, ite_p, if_true, if_false, ite_true, ite_false, i10, i00, or0, add0, g0, g1, g2, g3, g4, g5, g6, c0, c1, c2, c3, c4, c5, c6, Bool.false_eq_true, decide_eq_true_eq]
    · rw [show i + (j - i) = j by omega]
      simp (disch := omega) only [m_X8_postpone_L86, lp_end, Nat.le_refl, l601, nI_clamp, nI_1, bsm, nmd, gd_ix, gd_t, gd_bi, gd_b0, gd_b1, ite_b, ite_p, if_true, if_false, ite_true, ite_false, i10, i00, or0, add0, g0, g1, g2, g3, g4, g5, g6, c0, c1, c2, c3, c4, c5, c6, Bool.false_eq_true, decide_eq_true_eq]
  · rw [upd_ne (by omega), shR_lo (by omega)]; exact hV.1
  · rw [upd_ne (by omega), shR_lo (by omega)]; exact hV.2.1
  · obtain ⟨q0, q1, q2⟩ := hV.2.2.1 k hk
    rw [upd_ne (by omega), upd_ne (by omega), upd_ne (by omega), shR_lo (by omega), shR_lo (by omega), shR_lo (by omega)]
    exact ⟨q0, q1, q2⟩
  · by_cases q : k = j
    · subst q
      rw [upd_same]
      unfold mvb
      rw [if_pos rfl]
    · rw [upd_ne (by omega)]
      exact shR_V hV hL hij hj hK k hk q
  · exact (shR_off (by omega) (Off.rf rL n)).upd (Or.inr (Or.inr (by omega))) _
/-- where a place of the moved ranking comes from -/
def sg (i j k : Nat) : Nat := if k = j then i else if i ≤ k ∧ k < j then k + 1 else k
theorem mvb_sg (f : Nat → Int32) (i j k : Nat) : mvb f i j k = f (sg i j k) := by
  unfold mvb sg
  by_cases q : k = j
  · rw [if_pos q, if_pos q]
  · rw [if_neg q, if_neg q]
    by_cases w : i ≤ k ∧ k < j
    · rw [if_pos w, if_pos w]
    · rw [if_neg w, if_neg w]
theorem sg_lt {i j k K : Nat} (hij : i ≤ j) (hj : j < K) (hk : k < K) : sg i j k < K := by
  unfold sg
  by_cases q : k = j
  · rw [if_pos q]; omega
  · rw [if_neg q]
    by_cases w : i ≤ k ∧ k < j
    · rw [if_pos w]; omega
    · rw [if_neg w]; omega
theorem sg_inj {i j a b : Nat} (hij : i ≤ j) (h : sg i j a = sg i j b) : a = b := by
  unfold sg at h
  by_cases qa : a = j
  · rw [if_pos qa] at h
    by_cases qb : b = j
    · omega
    · rw [if_neg qb] at h
      by_cases wb : i ≤ b ∧ b < j
      · rw [if_pos wb] at h; omega
      · rw [if_neg wb] at h; omega
  · rw [if_neg qa] at h
    by_cases wa : i ≤ a ∧ a < j
    · rw [if_pos wa] at h
      by_cases qb : b = j
      · rw [if_pos qb] at h; omega
      · rw [if_neg qb] at h
        by_cases wb : i ≤ b ∧ b < j
        · rw [if_pos wb] at h; omega
        · rw [if_neg wb] at h; omega
    · rw [if_neg wa] at h
      by_cases qb : b = j
      · rw [if_pos qb] at h; omega
      · rw [if_neg qb] at h
        by_cases wb : i ≤ b ∧ b < j
        · rw [if_pos wb] at h; omega
        · rw [if_neg wb] at h; omega
theorem IL.mvb {L K i j K' : Nat} {lc lm lp lr : Nat → Int32} (h : IL L K lc lm lp lr) (hij : i ≤ j) (hj : j < K) (hK' : K' ≤ K) : IL L K' lc lm lp (mvb lr i j) := by
  have hK := h.2.1
  refine ⟨h.1, by omega, h.2.2.1, fun k hk => ?_, fun a b ha hb e => ?_⟩
  · rw [mvb_sg]; exact h.2.2.2.1 _ (sg_lt hij hj (by omega))
  · rw [mvb_sg, mvb_sg] at e
    exact sg_inj hij (h.inj (sg_lt hij hj (by omega)) (sg_lt hij hj (by omega)) e)

