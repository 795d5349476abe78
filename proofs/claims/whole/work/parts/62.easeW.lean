/-! The easements: writing. -/
theorem se0 {k : Nat} (n : Nat → Int32) (v : Int32) (h : k < 30) : m_X8_setEasement (nI k) 0 v n = some (upd n (391 + k * 5 + 0) v) := setEasement_w (w := 0) n v h (by omega)
theorem se1 {k : Nat} (n : Nat → Int32) (v : Int32) (h : k < 30) : m_X8_setEasement (nI k) 1 v n = some (upd n (391 + k * 5 + 1) v) := setEasement_w (w := 1) n v h (by omega)
theorem se2 {k : Nat} (n : Nat → Int32) (v : Int32) (h : k < 30) : m_X8_setEasement (nI k) 2 v n = some (upd n (391 + k * 5 + 2) v) := setEasement_w (w := 2) n v h (by omega)
theorem se3 {k : Nat} (n : Nat → Int32) (v : Int32) (h : k < 30) : m_X8_setEasement (nI k) 3 v n = some (upd n (391 + k * 5 + 3) v) := setEasement_w (w := 3) n v h (by omega)
theorem se4 {k : Nat} (n : Nat → Int32) (v : Int32) (h : k < 30) : m_X8_setEasement (nI k) 4 v n = some (upd n (391 + k * 5 + 4) v) := setEasement_w (w := 4) n v h (by omega)
abbrev ET : Type := Nat × (Nat → Int32) × (Nat → Int32) × (Nat → Int32) × (Nat → Int32) × (Nat → Int32)
theorem X1_come {E : Nat} (hE : E < 30) (kd a b d : Int32) (ek eo es ef el : Nat → Int32) : m_X1_come kd a b d (nI E) ek eo es ef el = some (nI E, nI (E + 1), upd ek E kd, upd eo E a, upd es E b, upd ef E d, upd el E (-1)) := by
  unfold m_X1_come
  simp (disch := omega) only [lit_lt (b := 30) (x := 30) (i := E) rfl (by omega) (by omega), nI_pred, nI_clamp, nI_1, bsm, nmd, gd_ix, gd_t, gd_bi, gd_b0, gd_b1, ite_b, ite_p, if_true, if_false, ite_true, ite_false, i10, i00, or0, add0, g0, g1, g2, g3, g4, g5, g6, c0, c1, c2, c3, c4, c5, c6, Bool.false_eq_true, decide_eq_true_eq]
theorem X1_come_no {E : Nat} (hE : E = 30) (kd a b d : Int32) (ek eo es ef el : Nat → Int32) : m_X1_come kd a b d (nI E) ek eo es ef el = some (-1, nI E, ek, eo, es, ef, el) := by
  unfold m_X1_come
  simp (disch := omega) only [lit_nlt (b := 30) (x := 30) (i := E) rfl (by omega) (by omega), nI_clamp, nI_1, bsm, nmd, gd_ix, gd_t, gd_bi, gd_b0, gd_b1, ite_b, ite_p, if_true, if_false, ite_true, ite_false, i10, i00, or0, add0, g0, g1, g2, g3, g4, g5, g6, c0, c1, c2, c3, c4, c5, c6, Bool.false_eq_true, decide_eq_true_eq]
set_option maxHeartbeats 4000000 in
theorem X8_newEasement {E : Nat} {ek eo es ef el n : Nat → Int32} (hV : VE E ek eo es ef el n) (hE : E < 30) (kd a b : Int32) : ∃ m, m_X8_newEasement kd a b n = some (nI E, m) ∧ VE (E + 1) (upd ek E kd) (upd eo E a) (upd es E b) (upd ef E (n 0)) (upd el E (-1)) m ∧ Off rE n m := by
  obtain ⟨h1, h2⟩ := hV
  unfold m_X8_newEasement
  simp (disch := omega) only [h1, se0, se1, se2, se3, se4, upd_ne, nI_clamp, nI_1, bsm, nmd, gd_ix, gd_t, gd_bi, gd_b0, gd_b1, ite_b, ite_p, if_true, if_false, ite_true, ite_false, i10, i00, or0, add0, g0, g1, g2, g3, g4, g5, g6, c0, c1, c2, c3, c4, c5, c6, Bool.false_eq_true, decide_eq_true_eq]
  refine ⟨_, rfl, ⟨?_, fun k hk => ?_⟩, ?_⟩
  · simp (disch := omega) only [upd_ne, upd_same]
  · by_cases e : k = E
    · subst e
      simp (disch := omega) only [upd_ne, upd_same]
      exact ⟨trivial, trivial, trivial, trivial, trivial⟩
    · obtain ⟨q0, q1, q2, q3, q4⟩ := h2 k (by omega)
      simp (disch := omega) only [upd_ne, q0, q1, q2, q3, q4]
      exact ⟨trivial, trivial, trivial, trivial, trivial⟩
  · exact ((((((Off.rf rE n).upd (Or.inl rfl) _).upd (Or.inr (by omega)) _).upd (Or.inr (by omega)) _).upd (Or.inr (by omega)) _).upd (Or.inr (by omega)) _).upd (Or.inr (by omega)) _
theorem VE.el_u {E : Nat} {ek eo es ef el n : Nat → Int32} (hV : VE E ek eo es ef el n) {k : Nat} (hk : k < E) (hE : E ≤ 30) (v : Int32) : VE E ek eo es ef (upd el k v) (upd n (391 + k * 5 + 4) v) := by
  refine ⟨by rw [upd_ne (by omega)]; exact hV.1, fun j hj => ?_⟩
  obtain ⟨q0, q1, q2, q3, q4⟩ := hV.2 j hj
  by_cases e : j = k
  · subst e
    simp (disch := omega) only [upd_ne, upd_same, q0, q1, q2, q3]
    exact ⟨trivial, trivial, trivial, trivial, trivial⟩
  · simp (disch := omega) only [upd_ne, q0, q1, q2, q3, q4]
    exact ⟨trivial, trivial, trivial, trivial, trivial⟩
theorem VE.eo_u {E : Nat} {ek eo es ef el n : Nat → Int32} (hV : VE E ek eo es ef el n) {k : Nat} (hk : k < E) (hE : E ≤ 30) (v : Int32) : VE E ek (upd eo k v) es ef el (upd n (391 + k * 5 + 1) v) := by
  refine ⟨by rw [upd_ne (by omega)]; exact hV.1, fun j hj => ?_⟩
  obtain ⟨q0, q1, q2, q3, q4⟩ := hV.2 j hj
  by_cases e : j = k
  · subst e
    simp (disch := omega) only [upd_ne, upd_same, q0, q4, q2, q3]
    exact ⟨trivial, trivial, trivial, trivial, trivial⟩
  · simp (disch := omega) only [upd_ne, q0, q1, q2, q3, q4]
    exact ⟨trivial, trivial, trivial, trivial, trivial⟩
theorem VE.es_u {E : Nat} {ek eo es ef el n : Nat → Int32} (hV : VE E ek eo es ef el n) {k : Nat} (hk : k < E) (hE : E ≤ 30) (v : Int32) : VE E ek eo (upd es k v) ef el (upd n (391 + k * 5 + 2) v) := by
  refine ⟨by rw [upd_ne (by omega)]; exact hV.1, fun j hj => ?_⟩
  obtain ⟨q0, q1, q2, q3, q4⟩ := hV.2 j hj
  by_cases e : j = k
  · subst e
    simp (disch := omega) only [upd_ne, upd_same, q0, q1, q4, q3]
    exact ⟨trivial, trivial, trivial, trivial, trivial⟩
  · simp (disch := omega) only [upd_ne, q0, q1, q2, q3, q4]
    exact ⟨trivial, trivial, trivial, trivial, trivial⟩
/-! A split: those of the parcel go to the first part, copies to the second. -/
def eA (d : Int32) (k : Nat) (x y : Int32) (t : ET) : ET := if t.1 < 30 then (t.1 + 1, upd t.2.1 t.1 (t.2.1 k), upd t.2.2.1 t.1 x, upd t.2.2.2.1 t.1 y, upd t.2.2.2.2.1 t.1 d, upd t.2.2.2.2.2 t.1 (-1)) else t
def eB (k : Nat) (x y : Int32) (t : ET) : ET := (t.1, t.2.1, upd t.2.2.1 k x, upd t.2.2.2.1 k y, t.2.2.2.2.1, t.2.2.2.2.2)
def eS (p a b : Int32) (d : Int32) (k : Nat) (t : ET) : ET := if t.2.2.2.2.2 k = -1 ∧ (t.2.2.1 k = p ∨ t.2.2.2.1 k = p) then eB k (if t.2.2.1 k = p then a else t.2.2.1 k) (if t.2.2.2.1 k = p then a else t.2.2.2.1 k) (eA d k (if t.2.2.1 k = p then b else t.2.2.1 k) (if t.2.2.2.1 k = p then b else t.2.2.2.1 k) t) else t
theorem eA_ge (d : Int32) (k : Nat) (x y : Int32) (t : ET) (h : t.1 ≤ 30) : t.1 ≤ (eA d k x y t).1 ∧ (eA d k x y t).1 ≤ 30 := by
  unfold eA
  by_cases q : t.1 < 30
  · rw [if_pos q]; exact ⟨Nat.le_succ _, q⟩
  · rw [if_neg q]; exact ⟨Nat.le_refl _, h⟩
theorem eS_ge {p a b d : Int32} {E : Nat} {t0 : ET} (h0 : t0.1 = E) (hE : E ≤ 30) : ∀ i, E ≤ (foldN (eS p a b d) t0 i).1 ∧ (foldN (eS p a b d) t0 i).1 ≤ 30 := by
  intro i
  refine foldN_inv (P := fun _ (t : ET) => E ≤ t.1 ∧ t.1 ≤ 30) (by omega) fun k t _ ht => ?_
  unfold eS
  by_cases q : t.2.2.2.2.2 k = -1 ∧ (t.2.2.1 k = p ∨ t.2.2.2.1 k = p)
  · rw [if_pos q]
    have := eA_ge d k (if t.2.2.1 k = p then b else t.2.2.1 k) (if t.2.2.2.1 k = p then b else t.2.2.2.1 k) t ht.2
    exact ⟨by show E ≤ (eA _ _ _ _ _).1; omega, this.2⟩
  · rw [if_neg q]; exact ht
set_option maxHeartbeats 4000000 in
theorem X1_followSplit {E : Nat} (hE : E ≤ 30) (p a b d : Int32) (ek eo es ef el : Nat → Int32) : m_X1_followSplit p a b d (nI E) ek eo es ef el = some (nI (foldN (eS p a b d) (E, ek, eo, es, ef, el) E).1, (foldN (eS p a b d) (E, ek, eo, es, ef, el) E).2) := by
  unfold m_X1_followSplit
  have hge := eS_ge (p := p) (a := a) (b := b) (d := d) (t0 := (E, ek, eo, es, ef, el)) rfl hE
  refine for_up (c := E) (fun (t : ET) x => (x, nI t.1, t.2.1, t.2.2.1, t.2.2.2.1, t.2.2.2.2.1, t.2.2.2.2.2)) (eS p a b d) (E, ek, eo, es, ef, el) (by omega) (fun rec i hi => ?_) (fun rec => ?_)
  · have hg := hge i
    generalize foldN (eS p a b d) (E, ek, eo, es, ef, el) i = t at hg
    obtain ⟨F, fk, fo, fs, ff, fl⟩ := t
    replace hg : E ≤ F ∧ F ≤ 30 := hg
    obtain ⟨hg1, hg2⟩ := hg
    unfold eS eB eA
    by_cases h1 : fl i = -1
    all_goals rcases (Decidable.em (fo i = p)).imp eq_true eq_false with h2 | h2
    all_goals rcases (Decidable.em (fs i = p)).imp eq_true eq_false with h3 | h3
    all_goals by_cases h4 : F < 30
    all_goals first
      | simp (disch := omega) only [m_X1_followSplit_L9, m_X1_touches, m_X1_followSplit_J59, m_X1_followSplit_J83, m_X1_followSplit_J131, X1_come h4, lp_go, h1, h2, h3, h4, upd_ne, true_and, false_and, and_true, and_false, or_true, true_or, or_false, false_or, or_self, and_self, nI_clamp, nI_1, bsm, nmd, gd_ix, gd_t, gd_bi, gd_b0, gd_b1, ite_b, ite_p, if_true, if_false, ite_true, ite_false, i10, i00, or0, add0, g0, g1, g2, g3, g4, g5, g6, c0, c1, c2, c3, c4, c5, c6, Bool.false_eq_true, decide_eq_true_eq]
      | simp (disch := omega) only [m_X1_followSplit_L9, m_X1_touches, m_X1_followSplit_J59, m_X1_followSplit_J83, m_X1_followSplit_J131, X1_come_no (show F = 30 by omega), lp_go, h1, h2, h3, h4, upd_ne, true_and, false_and, and_true, and_false, or_true, true_or, or_false, false_or, or_self, and_self, nI_clamp, nI_1, bsm, nmd, gd_ix, gd_t, gd_bi, gd_b0, gd_b1, ite_b, ite_p, if_true, if_false, ite_true, ite_false, i10, i00, or0, add0, g0, g1, g2, g3, g4, g5, g6, c0, c1, c2, c3, c4, c5, c6, Bool.false_eq_true, decide_eq_true_eq]
  · simp (disch := omega) only [m_X1_followSplit_L9, lp_end, Nat.le_refl]
/-- what holds along the way -/
theorem eS_inv {E P dn p a b : Nat} {ek eo es ef el : Nat → Int32} {Q : Nat} (h : IE E P dn ek eo es ef el) (hp : p < P) (ha : P ≤ a) (hb : P ≤ b) (haQ : a < Q) (hbQ : b < Q) (hQ : Q < 2 ^ 31) {d : Int32} : ∀ i, i ≤ E → (∀ k, i ≤ k → k < E → (foldN (eS (nI p) (nI a) (nI b) d) (E, ek, eo, es, ef, el) i).2.2.1 k = eo k ∧ (foldN (eS (nI p) (nI a) (nI b) d) (E, ek, eo, es, ef, el) i).2.2.2.1 k = es k ∧ (foldN (eS (nI p) (nI a) (nI b) d) (E, ek, eo, es, ef, el) i).2.2.2.2.2 k = el k) ∧ IE (foldN (eS (nI p) (nI a) (nI b) d) (E, ek, eo, es, ef, el) i).1 Q dn (foldN (eS (nI p) (nI a) (nI b) d) (E, ek, eo, es, ef, el) i).2.1 (foldN (eS (nI p) (nI a) (nI b) d) (E, ek, eo, es, ef, el) i).2.2.1 (foldN (eS (nI p) (nI a) (nI b) d) (E, ek, eo, es, ef, el) i).2.2.2.1 (foldN (eS (nI p) (nI a) (nI b) d) (E, ek, eo, es, ef, el) i).2.2.2.2.1 (foldN (eS (nI p) (nI a) (nI b) d) (E, ek, eo, es, ef, el) i).2.2.2.2.2 := by
  have hE := h.1
  have hge := eS_ge (p := nI p) (a := nI a) (b := nI b) (d := d) (t0 := (E, ek, eo, es, ef, el)) rfl hE
  intro i
  induction i with
  | zero =>
    intro _
    refine ⟨fun k _ hk => ⟨rfl, rfl, rfl⟩, hE, fun k hk => ?_⟩
    obtain ⟨⟨x, h1, h2⟩, ⟨y, h3, h4⟩, h5, h6⟩ := h.2 k hk
    exact ⟨⟨x, by omega, h2⟩, ⟨y, by omega, h4⟩, h5, h6⟩
  | succ i ih =>
    intro hi
    obtain ⟨i1, i2⟩ := ih (by omega)
    have hg := hge i
    rw [foldN_s]
    obtain ⟨x, hx, ex⟩ := h.on (show i < E by omega)
    obtain ⟨y, hy, ey⟩ := h.sv (show i < E by omega)
    generalize foldN (eS (nI p) (nI a) (nI b) d) (E, ek, eo, es, ef, el) i = t at i1 i2 hg
    obtain ⟨F, fk, fo, fs, ff, fl⟩ := t
    replace hg : E ≤ F ∧ F ≤ 30 := hg
    replace i1 : ∀ k, i ≤ k → k < E → fo k = eo k ∧ fs k = es k ∧ fl k = el k := i1
    replace i2 : IE F Q dn fk fo fs ff fl := i2
    obtain ⟨j1, j2, j3⟩ := i1 i (Nat.le_refl i) (by omega)
    by_cases hc : fl i = -1 ∧ (fo i = nI p ∨ fs i = nI p)
    · have hne := (h.2 i (by omega)).2.2.2 (j3.symm.trans hc.1)
      rw [ex, ey] at hne
      have hxy : x ≠ y := fun e => hne (by rw [e])
      rw [ex] at j1
      rw [ey] at j2
      -- the new values
      have key : ∀ c, P ≤ c → c < Q → ∃ u v, u < Q ∧ v < Q ∧ (if fo i = nI p then nI c else fo i) = nI u ∧ (if fs i = nI p then nI c else fs i) = nI v ∧ u ≠ v := by
        intro c hc1 hc2
        rw [j1, j2]
        by_cases e1 : x = p
        · have e2 : y ≠ p := fun e => hxy (e1.trans e.symm)
          refine ⟨c, y, hc2, by omega, if_pos (by rw [e1]), if_neg (fun e => e2 ((nI_eq (by omega) (by omega)).mp e)), by omega⟩
        · by_cases e2 : y = p
          · refine ⟨x, c, by omega, hc2, if_neg (fun e => e1 ((nI_eq (by omega) (by omega)).mp e)), if_pos (by rw [e2]), by omega⟩
          · refine ⟨x, y, by omega, by omega, if_neg (fun e => e1 ((nI_eq (by omega) (by omega)).mp e)), if_neg (fun e => e2 ((nI_eq (by omega) (by omega)).mp e)), hxy⟩
      obtain ⟨u1, v1, k1, k2, k3, k4, k5⟩ := key a ha haQ
      obtain ⟨u2, v2, k6, k7, k8, k9, k10⟩ := key b hb hbQ
      unfold eS
      rw [if_pos hc]
      show (∀ k, i + 1 ≤ k → k < E → (eB i (if fo i = nI p then nI a else fo i) (if fs i = nI p then nI a else fs i) (eA d i (if fo i = nI p then nI b else fo i) (if fs i = nI p then nI b else fs i) (F, fk, fo, fs, ff, fl))).2.2.1 k = eo k ∧ _) ∧ _
      rw [k3, k4, k8, k9]
      unfold eB eA
      by_cases hF : F < 30
      · simp only [hF, if_true]
        refine ⟨fun k hk hkE => ?_, by omega, fun k hk => ?_⟩
        · rw [upd_ne (by omega), upd_ne (by omega), upd_ne (by omega), upd_ne (by omega), upd_ne (by omega)]
          exact i1 k (by omega) hkE
        · by_cases e : k = F
          · subst e
            rw [upd_ne (by omega), upd_same, upd_ne (by omega), upd_same, upd_same]
            exact ⟨⟨u2, k6, rfl⟩, ⟨v2, k7, rfl⟩, Or.inl rfl, fun _ q => k10 ((nI_eq (by omega) (by omega)).mp q)⟩
          · by_cases e2 : k = i
            · subst e2
              rw [upd_same, upd_same, upd_ne (by omega)]
              exact ⟨⟨u1, k1, rfl⟩, ⟨v1, k2, rfl⟩, (i2.2 k (by omega)).2.2.1, fun _ q => k5 ((nI_eq (by omega) (by omega)).mp q)⟩
            · rw [upd_ne e2, upd_ne e, upd_ne e2, upd_ne e, upd_ne e]
              exact i2.2 k (by omega)
      · simp only [hF, if_false]
        refine ⟨fun k hk hkE => ?_, by omega, fun k hk => ?_⟩
        · rw [upd_ne (by omega), upd_ne (by omega)]
          exact i1 k (by omega) hkE
        · by_cases e2 : k = i
          · subst e2
            rw [upd_same, upd_same]
            exact ⟨⟨u1, k1, rfl⟩, ⟨v1, k2, rfl⟩, (i2.2 k (by omega)).2.2.1, fun _ q => k5 ((nI_eq (by omega) (by omega)).mp q)⟩
          · rw [upd_ne e2, upd_ne e2]
            exact i2.2 k (by omega)
    · unfold eS
      rw [if_neg hc]
      exact ⟨fun k hk hkE => i1 k (by omega) hkE, i2⟩
set_option maxHeartbeats 8000000 in
theorem X8_splitEasements {E P dn p a b : Nat} {ek eo es ef el n : Nat → Int32} {Q : Nat} (h : IE E P dn ek eo es ef el) (hV : VE E ek eo es ef el n) (hp : p < P) (ha : P ≤ a) (hb : P ≤ b) (haQ : a < Q) (hbQ : b < Q) (hQ : Q < 2 ^ 31) (hdn : dn ≤ 9999) : ∃ m, m_X8_splitEasements (nI p) (nI a) (nI b) n = some m ∧ VE (foldN (eS (nI p) (nI a) (nI b) (n 0)) (E, ek, eo, es, ef, el) E).1 (foldN (eS (nI p) (nI a) (nI b) (n 0)) (E, ek, eo, es, ef, el) E).2.1 (foldN (eS (nI p) (nI a) (nI b) (n 0)) (E, ek, eo, es, ef, el) E).2.2.1 (foldN (eS (nI p) (nI a) (nI b) (n 0)) (E, ek, eo, es, ef, el) E).2.2.2.1 (foldN (eS (nI p) (nI a) (nI b) (n 0)) (E, ek, eo, es, ef, el) E).2.2.2.2.1 (foldN (eS (nI p) (nI a) (nI b) (n 0)) (E, ek, eo, es, ef, el) E).2.2.2.2.2 m ∧ Off rE n m := by
  have hE := h.1
  have hge := eS_ge (p := nI p) (a := nI a) (b := nI b) (d := n 0) (t0 := (E, ek, eo, es, ef, el)) rfl hE
  have hinv := eS_inv h hp ha hb haQ hbQ hQ (d := n 0)
  obtain ⟨m, hm, hl⟩ := for_rel (F := m_X8_splitEasements_L11 n (nI p) (nI a) (nI b)) (c := E) (fun s x => (x, s)) (fun i g => VE (foldN (eS (nI p) (nI a) (nI b) (n 0)) (E, ek, eo, es, ef, el) i).1 (foldN (eS (nI p) (nI a) (nI b) (n 0)) (E, ek, eo, es, ef, el) i).2.1 (foldN (eS (nI p) (nI a) (nI b) (n 0)) (E, ek, eo, es, ef, el) i).2.2.1 (foldN (eS (nI p) (nI a) (nI b) (n 0)) (E, ek, eo, es, ef, el) i).2.2.2.1 (foldN (eS (nI p) (nI a) (nI b) (n 0)) (E, ek, eo, es, ef, el) i).2.2.2.2.1 (foldN (eS (nI p) (nI a) (nI b) (n 0)) (E, ek, eo, es, ef, el) i).2.2.2.2.2 g ∧ Off rE n g) n (by omega) ⟨hV, Off.rf _ _⟩ (fun rec i g hi hg => by
    obtain ⟨i1, i2⟩ := hinv i (by omega)
    have hge := hge i
    rw [foldN_s]
    generalize foldN (eS (nI p) (nI a) (nI b) (n 0)) (E, ek, eo, es, ef, el) i = t at i1 i2 hg hge
    obtain ⟨F, fk, fo, fs, ff, fl⟩ := t
    replace hge : E ≤ F ∧ F ≤ 30 := hge
    replace i2 : IE F Q dn fk fo fs ff fl := i2
    obtain ⟨hv, ho⟩ := hg
    replace hv : VE F fk fo fs ff fl g := hv
    have hF := hge.2
    have hiF : i < F := by omega
    have hg0 : g 0 = n 0 := ho 0 (fun q => by rcases q with q | q <;> omega)
    have r1 := hv.eo hF hiF
    have r2 := hv.es hF hiF
    have r3 := X8_lasts (P := 0) (dn := 0) hv hF hiF (i2.day hdn hiF)
    by_cases hc : fl i = -1 ∧ (fo i = nI p ∨ fs i = nI p)
    · have hne := (i2.2 i hiF).2.2.2 hc.1
      have e4 := hc.1
      unfold eS
      rw [if_pos hc]
      show ∃ y, (VE (eB i (if fo i = nI p then nI a else fo i) (if fs i = nI p then nI a else fs i) (eA (n 0) i (if fo i = nI p then nI b else fo i) (if fs i = nI p then nI b else fs i) (F, fk, fo, fs, ff, fl))).1 _ _ _ _ _ y ∧ Off rE n y) ∧ _
      by_cases e1 : fo i = nI p
      · have e2 : ¬ fs i = nI p := fun e => hne (e1.trans e.symm)
        have v1 := hv.eo_u hiF hF (nI a)
        have q0 := v1.ek hF hiF
        have q2 := v1.es hF hiF
        simp only [e1, e2, if_true, if_false]
        unfold eB eA
        by_cases h30 : F < 30
        · obtain ⟨m, w1, w2, w3⟩ := X8_newEasement v1 h30 (fk i) (nI b) (fs i)
          rw [upd_ne (by omega), hg0] at w2
          refine ⟨m, ⟨?_, (ho.upd (Or.inr (by omega)) _).tr w3⟩, ?_⟩
          · simp only [h30, if_true]
            have z1 : upd (upd fo F (nI b)) i (nI a) = upd (upd fo i (nI a)) F (nI b) := funext fun k => by
              by_cases z : k = i
              · rw [z, upd_same, upd_ne (by omega), upd_same]
              · rw [upd_ne z]
                by_cases z2 : k = F
                · rw [z2, upd_same, upd_same]
                · rw [upd_ne z2, upd_ne z2, upd_ne z]
            have z2 : upd (upd fs F (fs i)) i (fs i) = upd fs F (fs i) := by
              have := upd_id (upd fs F (fs i)) i
              rwa [upd_ne (show i ≠ F by omega)] at this
            rw [z1, z2]
            exact w2
          · have z5 : ((30 : Int32) ≤ nI F) = False := lit_ge (b := 30) rfl h30 (by omega)
            have z6 : upd g (391 + i * 5 + 1) (nI a) 3 = nI F := by rw [upd_ne (by omega)]; exact hv.1
            simp (disch := omega) only [m_X8_splitEasements_L11, m_X8_splitEasements_J34, m_X8_splitEasements_J61, m_X8_splitEasements_J74, m_X8_splitEasements_J113, m_X8_splitEasements_J129, hV.1, lp_go, r1, r3, eq_true e1, eq_true e4, se1, q0, q2, w1, z5, z6, nI_clamp, nI_1, bsm, nmd, gd_ix, gd_t, gd_bi, gd_b0, gd_b1, ite_b, ite_p, if_true, if_false, ite_true, ite_false, i10, i00, or0, add0, g0, g1, g2, g3, g4, g5, g6, c0, c1, c2, c3, c4, c5, c6, Bool.false_eq_true, decide_eq_true_eq]
        · have z7 : F = 30 := by omega
          refine ⟨upd g (391 + i * 5 + 1) (nI a), ⟨?_, ho.upd (Or.inr (by omega)) _⟩, ?_⟩
          · simp only [h30, if_false]
            rw [upd_id]
            exact v1
          · have z5 : ((30 : Int32) ≤ nI F) = True := lit_le (b := 30) rfl (by omega) (by omega)
            have z6 : upd g (391 + i * 5 + 1) (nI a) 3 = nI F := by rw [upd_ne (by omega)]; exact hv.1
            simp (disch := omega) only [m_X8_splitEasements_L11, m_X8_splitEasements_J34, m_X8_splitEasements_J61, m_X8_splitEasements_J74, hV.1, lp_go, r1, r3, eq_true e1, eq_true e4, se1, z5, z6, nI_clamp, nI_1, bsm, nmd, gd_ix, gd_t, gd_bi, gd_b0, gd_b1, ite_b, ite_p, if_true, if_false, ite_true, ite_false, i10, i00, or0, add0, g0, g1, g2, g3, g4, g5, g6, c0, c1, c2, c3, c4, c5, c6, Bool.false_eq_true, decide_eq_true_eq]
      · have e2 : fs i = nI p := hc.2.resolve_left e1
        have v1 := hv.es_u hiF hF (nI a)
        have q0 := v1.ek hF hiF
        have q1 := v1.eo hF hiF
        simp only [e1, e2, if_true, if_false]
        unfold eB eA
        by_cases h30 : F < 30
        · obtain ⟨m, w1, w2, w3⟩ := X8_newEasement v1 h30 (fk i) (fo i) (nI b)
          rw [upd_ne (by omega), hg0] at w2
          refine ⟨m, ⟨?_, (ho.upd (Or.inr (by omega)) _).tr w3⟩, ?_⟩
          · simp only [h30, if_true]
            have z1 : upd (upd fs F (nI b)) i (nI a) = upd (upd fs i (nI a)) F (nI b) := funext fun k => by
              by_cases z : k = i
              · rw [z, upd_same, upd_ne (by omega), upd_same]
              · rw [upd_ne z]
                by_cases z2 : k = F
                · rw [z2, upd_same, upd_same]
                · rw [upd_ne z2, upd_ne z2, upd_ne z]
            have z2 : upd (upd fo F (fo i)) i (fo i) = upd fo F (fo i) := by
              have := upd_id (upd fo F (fo i)) i
              rwa [upd_ne (show i ≠ F by omega)] at this
            rw [z1, z2]
            exact w2
          · have z5 : ((30 : Int32) ≤ nI F) = False := lit_ge (b := 30) rfl h30 (by omega)
            have z6 : upd g (391 + i * 5 + 2) (nI a) 3 = nI F := by rw [upd_ne (by omega)]; exact hv.1
            simp (disch := omega) only [m_X8_splitEasements_L11, m_X8_splitEasements_J34, m_X8_splitEasements_J61, m_X8_splitEasements_J74, m_X8_splitEasements_J113, m_X8_splitEasements_J129, hV.1, lp_go, r1, r2, r3, eq_false e1, eq_true e2, eq_true e4, se2, q0, q1, w1, z5, z6, nI_clamp, nI_1, bsm, nmd, gd_ix, gd_t, gd_bi, gd_b0, gd_b1, ite_b, ite_p, if_true, if_false, ite_true, ite_false, i10, i00, or0, add0, g0, g1, g2, g3, g4, g5, g6, c0, c1, c2, c3, c4, c5, c6, Bool.false_eq_true, decide_eq_true_eq]
        · have z7 : F = 30 := by omega
          refine ⟨upd g (391 + i * 5 + 2) (nI a), ⟨?_, ho.upd (Or.inr (by omega)) _⟩, ?_⟩
          · simp only [h30, if_false]
            rw [upd_id]
            exact v1
          · have z5 : ((30 : Int32) ≤ nI F) = True := lit_le (b := 30) rfl (by omega) (by omega)
            have z6 : upd g (391 + i * 5 + 2) (nI a) 3 = nI F := by rw [upd_ne (by omega)]; exact hv.1
            simp (disch := omega) only [m_X8_splitEasements_L11, m_X8_splitEasements_J34, m_X8_splitEasements_J61, m_X8_splitEasements_J74, hV.1, lp_go, r1, r2, r3, eq_false e1, eq_true e2, eq_true e4, se2, z5, z6, nI_clamp, nI_1, bsm, nmd, gd_ix, gd_t, gd_bi, gd_b0, gd_b1, ite_b, ite_p, if_true, if_false, ite_true, ite_false, i10, i00, or0, add0, g0, g1, g2, g3, g4, g5, g6, c0, c1, c2, c3, c4, c5, c6, Bool.false_eq_true, decide_eq_true_eq]
    · unfold eS
      rw [if_neg hc]
      refine ⟨g, ⟨hv, ho⟩, ?_⟩
      by_cases e4 : fl i = -1
      · have e1 : ¬ fo i = nI p := fun e => hc ⟨e4, Or.inl e⟩
        have e2 : ¬ fs i = nI p := fun e => hc ⟨e4, Or.inr e⟩
        simp (disch := omega) only [m_X8_splitEasements_L11, m_X8_splitEasements_J34, hV.1, lp_go, r1, r2, r3, eq_false e1, eq_false e2, eq_true e4, nI_clamp, nI_1, bsm, nmd, gd_ix, gd_t, gd_bi, gd_b0, gd_b1, ite_b, ite_p, if_true, if_false, ite_true, ite_false, i10, i00, or0, add0, g0, g1, g2, g3, g4, g5, g6, c0, c1, c2, c3, c4, c5, c6, Bool.false_eq_true, decide_eq_true_eq]
      · by_cases e1 : fo i = nI p
        all_goals simp (disch := omega) only [m_X8_splitEasements_L11, m_X8_splitEasements_J34, hV.1, lp_go, r1, r3, e1, eq_false e4, nI_clamp, nI_1, bsm, nmd, gd_ix, gd_t, gd_bi, gd_b0, gd_b1, ite_b, ite_p, if_true, if_false, ite_true, ite_false, i10, i00, or0, add0, g0, g1, g2, g3, g4, g5, g6, c0, c1, c2, c3, c4, c5, c6, Bool.false_eq_true, decide_eq_true_eq])
  refine ⟨m, ?_, hm⟩
  unfold m_X8_splitEasements
  rw [g3]
  refine hl _ fun rec => ?_
  simp (disch := omega) only [m_X8_splitEasements_L11, hV.1, lp_end, Nat.le_refl, nI_clamp, nI_1, bsm, nmd, gd_ix, gd_t, gd_bi, gd_b0, gd_b1, ite_b, ite_p, if_true, if_false, ite_true, ite_false, i10, i00, or0, add0, g0, g1, g2, g3, g4, g5, g6, c0, c1, c2, c3, c4, c5, c6, Bool.false_eq_true, decide_eq_true_eq]

