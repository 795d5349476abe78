/-! The easements of merged parcels, in the reference. -/
theorem X8_isLike {E j k : Nat} {ek eo es ef el n : Nat → Int32} (hV : VE E ek eo es ef el n) (hE : E ≤ 30) (hj : j < E) (hk : k < E) : m_X8_isLike (nI j) (nI k) n = some (if ek j = ek k ∧ eo j = eo k ∧ es j = es k then 1 else 0) := by
  unfold m_X8_isLike
  rcases (Decidable.em (ek j = ek k)).imp eq_true eq_false with h2 | h2
  all_goals rcases (Decidable.em (eo j = eo k)).imp eq_true eq_false with h3 | h3
  all_goals rcases (Decidable.em (es j = es k)).imp eq_true eq_false with h4 | h4
  all_goals simp (disch := omega) only [hV.ek hE hj, hV.ek hE hk, hV.eo hE hj, hV.eo hE hk, hV.es hE hj, hV.es hE hk, h2, h3, h4, and_true, true_and, and_false, false_and, and_self, nI_clamp, nI_1, bsm, nmd, gd_ix, gd_t, gd_bi, gd_b0, gd_b1, ite_b, ite_p, if_true, if_false, ite_true, ite_false, i10, i00, or0, add0, g0, g1, g2, g3, g4, g5, g6, c0, c1, c2, c3, c4, c5, c6, Bool.false_eq_true, decide_eq_true_eq]
set_option maxHeartbeats 4000000 in
theorem X8_again {E i dn : Nat} {ek eo es ef el n : Nat → Int32} (hV : VE E ek eo es ef el n) (hE : E ≤ 30) (hi : i < E) (hd : ∀ k, k < E → DayN (el k)) (m y : Int32) (rec : Int32 × (Nat → Int32) → Option (Nat → Int32)) : fuel (m_X8_mergeEasements_L124 m (nI i) rec n y) FU (0, 0) = m_X8_mergeEasements_J167 m (nI i) rec n y (if (fnd (bTw ek eo es el i) i).isSome = true then 1 else 0) := by
  refine loop_run (c := i) (fun j => ((if (fnd (bTw ek eo es el i) j).isSome = true then (1 : Int32) else 0), nI j)) (by omega) (fun r2 j hj => ?_) (fun r2 => ?_)
  · have hl := X8_lasts (P := 0) (dn := 0) hV hE (show j < E by omega) (hd j (by omega))
    have hk := X8_isLike hV hE (show j < E by omega) hi
    rw [fnd_s]
    have o11 : (1 : Int32) ||| 1 = 1 := by decide
    have o01 : (0 : Int32) ||| 1 = 1 := by decide
    by_cases h1 : el j = -1
    · by_cases h2 : ek j = ek i ∧ eo j = eo i ∧ es j = es i
      · have hb : bTw ek eo es el i j = true := by
          unfold bTw
          rw [h1, h2.1, h2.2.1, h2.2.2]
          simp
        cases hf : fnd (bTw ek eo es el i) j
        all_goals simp (disch := omega) only [m_X8_mergeEasements_L124, lp_go, hl, hk, h1, eq_true h2, hb, Option.isSome_some, Option.isSome_none, o11, o01, nI_clamp, nI_1, bsm, nmd, gd_ix, gd_t, gd_bi, gd_b0, gd_b1, ite_b, ite_p, if_true, if_false, ite_true, ite_false, i10, i00, or0, add0, g0, g1, g2, g3, g4, g5, g6, c0, c1, c2, c3, c4, c5, c6, Bool.false_eq_true, decide_eq_true_eq]
      · have hb : bTw ek eo es el i j = false := by
          cases hb : bTw ek eo es el i j with
          | false => rfl
          | true =>
            unfold bTw at hb
            rw [Bool.and_eq_true, Bool.and_eq_true, Bool.and_eq_true, decide_eq_true_iff, decide_eq_true_iff, decide_eq_true_iff, decide_eq_true_iff] at hb
            exact absurd hb.2 h2
        cases hf : fnd (bTw ek eo es el i) j
        all_goals simp (disch := omega) only [m_X8_mergeEasements_L124, lp_go, hl, hk, h1, eq_false h2, hb, Option.isSome_some, Option.isSome_none, nI_clamp, nI_1, bsm, nmd, gd_ix, gd_t, gd_bi, gd_b0, gd_b1, ite_b, ite_p, if_true, if_false, ite_true, ite_false, i10, i00, or0, add0, g0, g1, g2, g3, g4, g5, g6, c0, c1, c2, c3, c4, c5, c6, Bool.false_eq_true, decide_eq_true_eq]
    · have hb : bTw ek eo es el i j = false := by
        unfold bTw
        rw [decide_eq_false h1, Bool.false_and]
      cases hf : fnd (bTw ek eo es el i) j
      all_goals simp (disch := omega) only [m_X8_mergeEasements_L124, lp_go, hl, h1, hb, Option.isSome_some, Option.isSome_none, nI_clamp, nI_1, bsm, nmd, gd_ix, gd_t, gd_bi, gd_b0, gd_b1, ite_b, ite_p, if_true, if_false, ite_true, ite_false, i10, i00, or0, add0, g0, g1, g2, g3, g4, g5, g6, c0, c1, c2, c3, c4, c5, c6, Bool.false_eq_true, decide_eq_true_eq]
  · simp (disch := omega) only [m_X8_mergeEasements_L124, lp_end, Nat.le_refl]
set_option maxHeartbeats 4000000 in
theorem X8_mergeOne {E i : Nat} {ek eo es ef el n : Nat → Int32} (hV : VE E ek eo es ef el n) (hE : E ≤ 30) (hi : i < E) (hd : ∀ k, k < E → DayN (el k)) (m : Int32) (rec : Int32 × (Nat → Int32) → Option (Nat → Int32)) : m_X8_mergeEasements_J94 m (nI i) rec n = rec (nI (i + 1), upd n (391 + i * 5 + 4) (if eo i = es i ∨ (eo i = m ∨ es i = m) ∧ (fnd (bTw ek eo es el i) i).isSome = true then n 0 else -1)) := by
  have h1 := hV.eo hE hi
  have h2 := hV.es hE hi
  have h3 := X8_again (dn := 0) hV hE hi hd m
  unfold m_X8_mergeEasements_J94
  rcases (Decidable.em (eo i = es i)).imp eq_true eq_false with c1 | c1
  all_goals rcases (Decidable.em (eo i = m)).imp eq_true eq_false with c2 | c2
  all_goals rcases (Decidable.em (es i = m)).imp eq_true eq_false with c3 | c3
  all_goals rcases (Decidable.em ((fnd (bTw ek eo es el i) i).isSome = true)).imp eq_true eq_false with c4 | c4
  all_goals simp (disch := omega) only [h1, h2, h3, c1, c2, c3, c4, m_X8_mergeEasements_J116, m_X8_mergeEasements_J167, m_X8_mergeEasements_J194, m_X8_mergeEasements_J225, se4, and_true, true_and, and_false, false_and, and_self, or_true, true_or, or_false, false_or, or_self, nI_clamp, nI_1, bsm, nmd, gd_ix, gd_t, gd_bi, gd_b0, gd_b1, ite_b, ite_p, if_true, if_false, ite_true, ite_false, i10, i00, or0, add0, g0, g1, g2, g3, g4, g5, g6, c0, c1, c2, c3, c4, c5, c6, Bool.false_eq_true, decide_eq_true_eq]
def s26 (p q m : Int32) (i : Nat) : Nat → (Nat → Int32) → Nat → Int32 := fun t g => upd g (391 + i * 5 + (1 + t)) (mg p q m (g (391 + i * 5 + (1 + t))))
theorem mg_e (p q m x : Int32) : mg p q m x = if x = p then m else if x = q then m else x := by
  unfold mg
  by_cases w1 : x = p
  · rw [if_pos (Or.inl w1), if_pos w1]
  · rw [if_neg w1]
    by_cases w2 : x = q
    · rw [if_pos (Or.inr w2), if_pos w2]
    · rw [if_neg w2, if_neg (fun w => w.elim w1 w2)]
set_option maxHeartbeats 4000000 in
theorem X8_merge26 {i : Nat} (hi : i < 30) (p q m : Int32) (n : Nat → Int32) (rec : Int32 × (Nat → Int32) → Option (Nat → Int32)) : fuel (m_X8_mergeEasements_L26 p q m (nI i) rec) FU (1, n) = m_X8_mergeEasements_J94 m (nI i) rec (foldN (s26 p q m i) n 2) := by
  refine loop_run (c := 2) (fun t => (nI (1 + t), foldN (s26 p q m i) n t)) (by omega) (fun r2 t ht => ?_) (fun r2 => ?_)
  · show m_X8_mergeEasements_L26 p q m (nI i) rec r2 (nI (1 + t), foldN (s26 p q m i) n t) = r2 (nI (1 + t + 1), s26 p q m i t (foldN (s26 p q m i) n t))
    generalize foldN (s26 p q m i) n t = g
    have hr : m_X8_easementOf (nI i) (nI (1 + t)) g = some (g (391 + i * 5 + (1 + t))) := easementOf_w g hi (by omega)
    have hw : ∀ v, m_X8_setEasement (nI i) (nI (1 + t)) v g = some (upd g (391 + i * 5 + (1 + t)) v) := fun v => setEasement_w g v hi (by omega)
    have hlt : ((2 : Int32) < nI (1 + t)) = False := eq_false (show ¬ nI 2 < nI (1 + t) from nI_nlt (by omega) (by omega))
    unfold s26
    rw [mg_e]
    rcases (Decidable.em (g (391 + i * 5 + (1 + t)) = p)).imp eq_true eq_false with c1 | c1
    all_goals rcases (Decidable.em (g (391 + i * 5 + (1 + t)) = q)).imp eq_true eq_false with c2 | c2
    all_goals simp (disch := omega) only [m_X8_mergeEasements_L26, m_X8_mergeEasements_J61, m_X8_mergeEasements_J85, hr, hw, hlt, c1, c2, nI_clamp, nI_1, bsm, nmd, gd_ix, gd_t, gd_bi, gd_b0, gd_b1, ite_b, ite_p, if_true, if_false, ite_true, ite_false, i10, i00, or0, add0, g0, g1, g2, g3, g4, g5, g6, c0, c1, c2, c3, c4, c5, c6, Bool.false_eq_true, decide_eq_true_eq]
  · have hlt : ((2 : Int32) < nI (1 + 2)) = True := eq_true (by decide)
    simp only [m_X8_mergeEasements_L26, hlt, if_true]
theorem VE.sM {E i : Nat} {ek eo es ef el n : Nat → Int32} (hV : VE E ek eo es ef el n) (hE : E ≤ 30) (hi : i < E) (p q m : Int32) : VE E ek (upd eo i (mg p q m (eo i))) (upd es i (mg p q m (es i))) ef el (foldN (s26 p q m i) n 2) ∧ Off rE n (foldN (s26 p q m i) n 2) := by
  have h1 := (hV.2 i hi).2.1
  have h2 := (hV.2 i hi).2.2.1
  have e : foldN (s26 p q m i) n 2 = upd (upd n (391 + i * 5 + 1) (mg p q m (eo i))) (391 + i * 5 + 2) (mg p q m (es i)) := by
    show upd (upd n (391 + i * 5 + 1) (mg p q m (n (391 + i * 5 + 1)))) (391 + i * 5 + 2) (mg p q m (upd n (391 + i * 5 + 1) (mg p q m (n (391 + i * 5 + 1))) (391 + i * 5 + 2))) = _
    rw [h1, upd_ne (by omega), h2]
  rw [e]
  exact ⟨(hV.eo_u hi hE _).es_u hi hE _, ((Off.rf rE n).upd (Or.inr (by omega)) _).upd (Or.inr (by omega)) _⟩
theorem sRe_ne {ek eo es : Nat → Int32} {m d : Int32} {k j : Nat} {g : Nat → Int32} (h : j ≠ k) : sRe ek eo es m d k g j = g j := by
  unfold sRe
  by_cases c : g k = -1 ∧ (eo k = m ∨ es k = m) ∧ (fnd (bTw ek eo es g k) k).isSome = true
  · rw [if_pos c, upd_ne h]
  · rw [if_neg c]
theorem mR_s {E : Nat} {p q m d : Int32} {ek eo es el : Nat → Int32} {i : Nat} : mR E p q m d ek eo es el (i + 1) = sRe ek (mF p q m el eo E) (mF p q m el es E) m d i (mR E p q m d ek eo es el i) := rfl
theorem mR_hi {E : Nat} {p q m d : Int32} {ek eo es el : Nat → Int32} : ∀ i j, i ≤ j → mR E p q m d ek eo es el i j = mE p q m d eo es el E j := by
  intro i
  induction i with
  | zero => intro j _; rfl
  | succ i ih => intro j hj; rw [mR_s, sRe_ne (by omega), ih j (by omega)]
def elS (E : Nat) (p q m d : Int32) (ek eo es el : Nat → Int32) (i : Nat) : Nat → Int32 := fun k => if k < i then mR E p q m d ek eo es el i k else el k
theorem elS_s {E : Nat} {p q m d : Int32} {ek eo es el : Nat → Int32} {i : Nat} (v : Int32) (h : mR E p q m d ek eo es el (i + 1) i = v) : elS E p q m d ek eo es el (i + 1) = upd (elS E p q m d ek eo es el i) i v := funext fun k => by
  unfold elS
  by_cases e : k = i
  · rw [e, upd_same, if_pos (by omega), h]
  · rw [upd_ne e]
    by_cases w : k < i
    · rw [if_pos w, if_pos (by omega), mR_s, sRe_ne e]
    · rw [if_neg w, if_neg (by omega)]
theorem mE_day {E P dn : Nat} {ek eo es ef el : Nat → Int32} (h : IE E P dn ek eo es ef el) (hdn : dn ≤ 9999) {p q m : Int32} {e : Nat} (he : e ≤ 9999) {k : Nat} (hk : k < E) (i : Nat) : DayN (mE p q m (nI e) eo es el i k) := by
  unfold mE
  by_cases c : k < i ∧ el k = -1 ∧ mg p q m (eo k) = mg p q m (es k)
  · rw [if_pos c]; exact Or.inr ⟨e, he, rfl⟩
  · rw [if_neg c]; exact h.day hdn hk
theorem mR_day {E P dn : Nat} {ek eo es ef el : Nat → Int32} (h : IE E P dn ek eo es ef el) (hdn : dn ≤ 9999) {p q m : Int32} {e : Nat} (he : e ≤ 9999) : ∀ i k, k < E → DayN (mR E p q m (nI e) ek eo es el i k) := by
  intro i
  induction i with
  | zero => intro k hk; exact mE_day h hdn he hk E
  | succ i ih =>
    intro k hk
    rw [mR_s]
    by_cases e2 : k = i
    · subst e2
      unfold sRe
      by_cases c : mR E p q m (nI e) ek eo es el k k = -1 ∧ (mF p q m el eo E k = m ∨ mF p q m el es E k = m) ∧ (fnd (bTw ek (mF p q m el eo E) (mF p q m el es E) (mR E p q m (nI e) ek eo es el k) k) k).isSome = true
      · rw [if_pos c, upd_same]; exact Or.inr ⟨e, he, rfl⟩
      · rw [if_neg c]; exact ih k hk
    · rw [sRe_ne e2]; exact ih k hk
set_option maxHeartbeats 8000000 in
theorem X8_mergeEasements {E P dn e : Nat} {ek eo es ef el n : Nat → Int32} (h : IE E P dn ek eo es ef el) (hV : VE E ek eo es ef el n) (hdn : dn ≤ 9999) (he : e ≤ 9999) (hn0 : n 0 = nI e) (p q m : Int32) : ∃ g, m_X8_mergeEasements p q m n = some g ∧ VE E ek (mF p q m el eo E) (mF p q m el es E) ef (mR E p q m (nI e) ek eo es el E) g ∧ Off rE n g := by
  have hE := h.1
  obtain ⟨g, hg, hl⟩ := for_rel (F := m_X8_mergeEasements_L3 p q m) (c := E) (fun s x => (x, s)) (fun i g => VE E ek (mF p q m el eo i) (mF p q m el es i) ef (elS E p q m (nI e) ek eo es el i) g ∧ Off rE n g) n (by omega) ⟨by rw [mF_0, mF_0]; exact hV, Off.rf _ _⟩ (fun rec i g hi hg => by
    obtain ⟨hv, ho⟩ := hg
    have hg0 : g 0 = nI e := (ho 0 (fun q => by rcases q with q | q <;> omega)).trans hn0
    have hdS : ∀ k, k < E → DayN (elS E p q m (nI e) ek eo es el i k) := fun k hk => by
      unfold elS
      by_cases w : k < i
      · rw [if_pos w]; exact mR_day h hdn he i k hk
      · rw [if_neg w]; exact h.day hdn hk
    have hSi : elS E p q m (nI e) ek eo es el i i = el i := if_neg (by omega)
    have hla := X8_lasts (P := 0) (dn := 0) hv hE hi (hdS i hi)
    rw [hSi] at hla
    by_cases h1 : el i = -1
    · obtain ⟨v1, v2⟩ := hv.sM hE hi p q m
      rw [mF_i (Nat.le_refl i), mF_i (Nat.le_refl i), mF_t h1, mF_t h1] at v1
      have h0 : foldN (s26 p q m i) g 2 0 = nI e := (v2 0 (fun q => by rcases q with q | q <;> omega)).trans hg0
      have hone := X8_mergeOne v1 hE hi hdS m rec
      rw [h0] at hone
      have f1 : mF p q m el eo (i + 1) i = mg p q m (eo i) := if_pos ⟨by omega, h1⟩
      have f2 : mF p q m el es (i + 1) i = mg p q m (es i) := if_pos ⟨by omega, h1⟩
      have f3 : mF p q m el eo E i = mg p q m (eo i) := if_pos ⟨hi, h1⟩
      have f4 : mF p q m el es E i = mg p q m (es i) := if_pos ⟨hi, h1⟩
      have ftw : fnd (bTw ek (mF p q m el eo (i + 1)) (mF p q m el es (i + 1)) (elS E p q m (nI e) ek eo es el i) i) i = fnd (bTw ek (mF p q m el eo E) (mF p q m el es E) (mR E p q m (nI e) ek eo es el i) i) i := fnd_c fun k hk => by
        have e1 : mF p q m el eo (i + 1) k = mF p q m el eo E k := by
          unfold mF
          by_cases w : el k = -1
          · rw [if_pos ⟨by omega, w⟩, if_pos ⟨by omega, w⟩]
          · rw [if_neg (fun z => w z.2), if_neg (fun z => w z.2)]
        have e2 : mF p q m el es (i + 1) k = mF p q m el es E k := by
          unfold mF
          by_cases w : el k = -1
          · rw [if_pos ⟨by omega, w⟩, if_pos ⟨by omega, w⟩]
          · rw [if_neg (fun z => w z.2), if_neg (fun z => w z.2)]
        have e3 : elS E p q m (nI e) ek eo es el i k = mR E p q m (nI e) ek eo es el i k := if_pos hk
        unfold bTw
        rw [e1, e2, e3, f1, f2, f3, f4]
      rw [ftw, f1, f2] at hone
      have hmr : mR E p q m (nI e) ek eo es el (i + 1) i = (if mg p q m (eo i) = mg p q m (es i) ∨ (mg p q m (eo i) = m ∨ mg p q m (es i) = m) ∧ (fnd (bTw ek (mF p q m el eo E) (mF p q m el es E) (mR E p q m (nI e) ek eo es el i) i) i).isSome = true then nI e else -1) := by
        rw [mR_s]
        unfold sRe
        rw [f3, f4, mR_hi i i (Nat.le_refl i)]
        have hme : mE p q m (nI e) eo es el E i = if mg p q m (eo i) = mg p q m (es i) then nI e else -1 := by
          unfold mE
          by_cases w : mg p q m (eo i) = mg p q m (es i)
          · rw [if_pos ⟨hi, h1, w⟩, if_pos w]
          · rw [if_neg (fun z => w z.2.2), if_neg w, h1]
        rw [hme]
        by_cases w : mg p q m (eo i) = mg p q m (es i)
        · rw [if_pos w, if_neg (fun z => m1_ne (by omega) z.1), if_pos (Or.inl w), mR_hi i i (Nat.le_refl i), hme, if_pos w]
        · rw [if_neg w]
          by_cases w2 : (mg p q m (eo i) = m ∨ mg p q m (es i) = m) ∧ (fnd (bTw ek (mF p q m el eo E) (mF p q m el es E) (mR E p q m (nI e) ek eo es el i) i) i).isSome = true
          · rw [if_pos ⟨rfl, w2⟩, if_pos (Or.inr w2), upd_same]
          · rw [if_neg (fun z => w2 z.2), if_neg (fun z => z.elim w w2), mR_hi i i (Nat.le_refl i), hme, if_neg w]
      refine ⟨upd (foldN (s26 p q m i) g 2) (391 + i * 5 + 4) (mR E p q m (nI e) ek eo es el (i + 1) i), ⟨?_, ?_⟩, ?_⟩
      · rw [elS_s _ rfl]
        exact v1.el_u hi hE _
      · exact (ho.tr v2).upd (Or.inr (by omega)) _
      · rw [← hmr] at hone
        simp (disch := omega) only [m_X8_mergeEasements_L3, hv.1, lp_go, hla, h1, X8_merge26 (show i < 30 by omega), hone, nI_clamp, nI_1, bsm, nmd, gd_ix, gd_t, gd_bi, gd_b0, gd_b1, ite_b, ite_p, if_true, if_false, ite_true, ite_false, i10, i00, or0, add0, g0, g1, g2, g3, g4, g5, g6, c0, c1, c2, c3, c4, c5, c6, Bool.false_eq_true, decide_eq_true_eq]
    · refine ⟨g, ⟨?_, ho⟩, ?_⟩
      · have hmr : mR E p q m (nI e) ek eo es el (i + 1) i = el i := by
          rw [mR_s]
          unfold sRe
          have : mR E p q m (nI e) ek eo es el i i = el i := by
            rw [mR_hi i i (Nat.le_refl i)]
            exact if_neg (fun z => h1 z.2.1)
          rw [this, if_neg (fun z => h1 z.1), this]
        rw [mF_n h1, mF_n h1, elS_s _ hmr]
        have : upd (elS E p q m (nI e) ek eo es el i) i (el i) = elS E p q m (nI e) ek eo es el i := by
          have := upd_id (elS E p q m (nI e) ek eo es el i) i
          rwa [hSi] at this
        rw [this]
        exact hv
      · simp (disch := omega) only [m_X8_mergeEasements_L3, hv.1, lp_go, hla, h1, nI_clamp, nI_1, bsm, nmd, gd_ix, gd_t, gd_bi, gd_b0, gd_b1, ite_b, ite_p, if_true, if_false, ite_true, ite_false, i10, i00, or0, add0, g0, g1, g2, g3, g4, g5, g6, c0, c1, c2, c3, c4, c5, c6, Bool.false_eq_true, decide_eq_true_eq])
  refine ⟨g, ?_, ?_, hg.2⟩
  · unfold m_X8_mergeEasements
    refine hl _ fun rec => ?_
    simp (disch := omega) only [m_X8_mergeEasements_L3, hg.1.1, lp_end, Nat.le_refl, g3, c3]
  · have hv := hg.1
    refine ⟨hv.1, fun k hk => ?_⟩
    obtain ⟨q0, q1, q2, q3, q4⟩ := hv.2 k hk
    refine ⟨q0, q1, q2, q3, q4.trans (if_pos hk)⟩
theorem IE.merge {E P dn p q : Nat} {ek eo es ef el : Nat → Int32} (h : IE E P dn ek eo es ef el) (hP : P < 2 ^ 30) {d : Nat} (hd : d ≤ dn) (hd2 : dn ≤ 9999) : IE E (P + 1) dn ek (mF (nI p) (nI q) (nI P) el eo E) (mF (nI p) (nI q) (nI P) el es E) ef (mR E (nI p) (nI q) (nI P) (nI d) ek eo es el E) := by
  refine ⟨h.1, fun k hk => ?_⟩
  have hm : ∀ f : Nat → Int32, (∃ a, a < P ∧ f k = nI a) → ∃ a, a < P + 1 ∧ mF (nI p) (nI q) (nI P) el f E k = nI a := fun f ⟨a, h1, h2⟩ => by
    unfold mF
    by_cases c : k < E ∧ el k = -1
    · rw [if_pos c]
      unfold mg
      by_cases w : f k = nI p ∨ f k = nI q
      · rw [if_pos w]; exact ⟨P, by omega, rfl⟩
      · rw [if_neg w]; exact ⟨a, by omega, h2⟩
    · rw [if_neg c]; exact ⟨a, by omega, h2⟩
  have hv : ∀ i, mR E (nI p) (nI q) (nI P) (nI d) ek eo es el i k = mE (nI p) (nI q) (nI P) (nI d) eo es el E k ∨ mR E (nI p) (nI q) (nI P) (nI d) ek eo es el i k = nI d := by
    intro i
    induction i with
    | zero => exact Or.inl rfl
    | succ i ih =>
      rw [mR_s]
      by_cases e2 : k = i
      · subst e2
        unfold sRe
        by_cases c : mR E (nI p) (nI q) (nI P) (nI d) ek eo es el k k = -1 ∧ (mF (nI p) (nI q) (nI P) el eo E k = nI P ∨ mF (nI p) (nI q) (nI P) el es E k = nI P) ∧ (fnd (bTw ek (mF (nI p) (nI q) (nI P) el eo E) (mF (nI p) (nI q) (nI P) el es E) (mR E (nI p) (nI q) (nI P) (nI d) ek eo es el k) k) k).isSome = true
        · rw [if_pos c, upd_same]; exact Or.inr rfl
        · rw [if_neg c]; exact ih
      · rw [sRe_ne e2]; exact ih
  have hme : mE (nI p) (nI q) (nI P) (nI d) eo es el E k = el k ∨ mE (nI p) (nI q) (nI P) (nI d) eo es el E k = nI d := by
    unfold mE
    by_cases c : k < E ∧ el k = -1 ∧ mg (nI p) (nI q) (nI P) (eo k) = mg (nI p) (nI q) (nI P) (es k)
    · rw [if_pos c]; exact Or.inr rfl
    · rw [if_neg c]; exact Or.inl rfl
  refine ⟨hm eo (h.on hk), hm es (h.sv hk), ?_, fun hl => ?_⟩
  · rcases hv E with w | w
    · rw [w]
      rcases hme with w2 | w2
      · rw [w2]; exact (h.2 k hk).2.2.1
      · rw [w2]; exact Or.inr ⟨d, hd, rfl⟩
    · rw [w]; exact Or.inr ⟨d, hd, rfl⟩
  · rcases hv E with w | w
    · rw [w] at hl
      have hne : ¬ (el k = -1 ∧ mg (nI p) (nI q) (nI P) (eo k) = mg (nI p) (nI q) (nI P) (es k)) := fun c => by
        have : mE (nI p) (nI q) (nI P) (nI d) eo es el E k = nI d := if_pos ⟨hk, c⟩
        rw [this] at hl
        exact m1_ne (by omega) hl
      have hel : el k = -1 := by
        have : mE (nI p) (nI q) (nI P) (nI d) eo es el E k = el k := if_neg (fun c => hne c.2)
        rw [this] at hl
        exact hl
      have f1 : mF (nI p) (nI q) (nI P) el eo E k = mg (nI p) (nI q) (nI P) (eo k) := if_pos ⟨hk, hel⟩
      have f2 : mF (nI p) (nI q) (nI P) el es E k = mg (nI p) (nI q) (nI P) (es k) := if_pos ⟨hk, hel⟩
      rw [f1, f2]
      exact fun c => hne ⟨hel, c⟩
    · rw [w] at hl
      exact absurd hl (m1_ne (by omega))

