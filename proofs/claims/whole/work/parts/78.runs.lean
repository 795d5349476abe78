/-! The text: all its commands, found on both sides. -/
def RUN (a u : Nat → Int32) (l C : Nat) (pos ws : Nat → Nat) (vs : Nat → Nat → Nat) : Prop := ∀ i, i < C → OKc a u l (pos i) (pos (i + 1)) (ws i) (vs i)
def shN {α : Type} (x : α) (f : Nat → α) : Nat → α
  | 0 => x
  | i + 1 => f i
theorem runs {a u : Nat → Int32} {l : Nat} (hp : PT a l) (hu : ∀ i, i < l → u i = a i) (hl : l ≤ 80) : ∀ k b, b ≤ l → l - b ≤ k → ∃ C pos ws vs, pos 0 = b ∧ RUN a u l C pos ws vs ∧ (0 < C ∧ pos C = l ∨ (0 < C → pos C < l) ∧ ∃ e, ERc a u l (pos C) e) := by
  intro k
  induction k with
  | zero =>
    intro b hb hk
    rcases cmd_or hp hu hl hb with ⟨e, he⟩ | ⟨b', w, v, h⟩
    · exact ⟨0, fun _ => b, fun _ => 0, fun _ _ => 0, rfl, fun i hi => absurd hi (by omega), Or.inr ⟨fun h => absurd h (by omega), e, he⟩⟩
    · have h1 := h.2.1
      have h2 := h.2.2.1
      omega
  | succ k ih =>
    intro b hb hk
    rcases cmd_or hp hu hl hb with ⟨e, he⟩ | ⟨b', w, v, h⟩
    · exact ⟨0, fun _ => b, fun _ => 0, fun _ _ => 0, rfl, fun i hi => absurd hi (by omega), Or.inr ⟨fun h => absurd h (by omega), e, he⟩⟩
    · have h1 := h.2.1
      have h2 := h.2.2.1
      by_cases q : b' = l
      · refine ⟨1, shN b fun _ => b', fun _ => w, fun _ => v, rfl, fun i hi => ?_, Or.inl ⟨by omega, q⟩⟩
        have e : i = 0 := by omega
        subst e
        exact h
      · obtain ⟨C, pos, ws, vs, p0, hR, hE⟩ := ih b' h2 (by omega)
        refine ⟨C + 1, shN b pos, shN w ws, shN v vs, rfl, fun i hi => ?_, ?_⟩
        · cases i with
          | zero =>
            show OKc a u l b (pos 0) w v
            rw [p0]
            exact h
          | succ i => exact hR i (by omega)
        · rcases hE with ⟨_, hE⟩ | ⟨hE, hE2⟩
          · exact Or.inl ⟨by omega, hE⟩
          · refine Or.inr ⟨fun _ => ?_, hE2⟩
            show pos C < l
            by_cases z : C = 0
            · rw [z, p0]; omega
            · exact hE (by omega)
theorem RUN.seven {a u : Nat → Int32} {l C : Nat} {pos ws : Nat → Nat} {vs : Nat → Nat → Nat} (h : RUN a u l C pos ws vs) {i : Nat} (hi : i ≤ C) : 7 * i ≤ pos i := by
  induction i with
  | zero => omega
  | succ i ih =>
    have h1 := ih (by omega)
    have h2 := (h i (by omega)).2.1
    omega
theorem RUN.le {a u : Nat → Int32} {l C : Nat} {pos ws : Nat → Nat} {vs : Nat → Nat → Nat} (h : RUN a u l C pos ws vs) (hl : l ≤ 80) : C ≤ 11 := by
  by_cases z : C = 0
  · omega
  · have h1 := h.seven (Nat.le_refl C)
    have h2 := (h (C - 1) (by omega)).2.2.1
    rw [show C - 1 + 1 = C by omega] at h2
    omega
theorem RUN.lt {a u : Nat → Int32} {l C : Nat} {pos ws : Nat → Nat} {vs : Nat → Nat → Nat} (h : RUN a u l C pos ws vs) {i : Nat} (hi : i < C) : pos i < l := by
  have h1 := (h i hi).2.1
  have h2 := (h i hi).2.2.1
  omega
/-- what the class has read of the first i commands -/
def RD0 (ws : Nat → Nat) (vs : Nat → Nat → Nat) (i : Nat) (words numbers : Nat → Int32) : Prop := ∀ j, j < i → words j = nI (ws j) ∧ ∀ q, q < cn (ws j) → numbers (j * 3 + q) = nI (vs j q)
theorem scan_go {a u : Nat → Int32} {l C : Nat} {pos ws : Nat → Nat} {vs : Nat → Nat → Nat} (h : RUN a u l C pos ws vs) (hl : l ≤ 80) : ∀ n i, i + n = C → ∀ words numbers, RD0 ws vs i words numbers → ∀ k, n < k →
    (pos C = l → 0 < C → ∃ words' numbers', fuel (m_X5_scan_L12 (nI l) a) k (nI i, nI (pos i), nI i, words, numbers) = some (1, nI l, nI C, words', numbers') ∧ RD0 ws vs C words' numbers') ∧
    (∀ e, ERc a u l (pos C) e → pos C < l → ∃ words' numbers', fuel (m_X5_scan_L12 (nI l) a) k (nI i, nI (pos i), nI i, words, numbers) = some (0, nI e, nI C, words', numbers')) := by
  have hC := h.le hl
  intro n
  induction n with
  | zero =>
    intro i hi words numbers hd k hk
    have e : i = C := by omega
    subst e
    obtain ⟨k, rfl⟩ : ∃ k', k = k' + 1 := ⟨k - 1, by omega⟩
    have t1 : ((12 : Int32) ≤ nI i) = False := lit_ge (b := 12) rfl (by omega) (by omega)
    refine ⟨fun h1 h2 => ⟨words, numbers, ?_, hd⟩, fun e he hlt => ?_⟩
    · show m_X5_scan_L12 _ _ (fuel _ k) _ = _
      have t2 : (nI l ≤ nI l) = True := eq_true (Int32.le_refl _)
      have t3 : (nI i ≤ (0 : Int32)) = False := eq_false (Int32.not_le.mpr (show nI 0 < nI i from nI_lt h2 (by omega)))
      rw [h1]
      simp (disch := omega) only [m_X5_scan_L12, m_X5_scan_J55, t1, t2, t3, nI_clamp, nI_1, bsm, nmd, gd_ix, gd_t, gd_bi, gd_b0, gd_b1, ite_b, ite_p, if_true, if_false, ite_true, ite_false, i10, i00, or0, add0, g0, g1, g2, g3, g4, g5, g6, c0, c1, c2, c3, c4, c5, c6, Bool.false_eq_true, decide_eq_true_eq]
    · obtain ⟨w', n', hz⟩ := he.2.1 i words numbers (by omega)
      refine ⟨w', n', ?_⟩
      show m_X5_scan_L12 _ _ (fuel _ k) _ = _
      have t2 : (nI l ≤ nI (pos i)) = False := eq_false (nI_ge hlt (by omega))
      simp (disch := omega) only [m_X5_scan_L12, t1, t2, hz, nI_clamp, nI_1, bsm, nmd, gd_ix, gd_t, gd_bi, gd_b0, gd_b1, ite_b, ite_p, if_true, if_false, ite_true, ite_false, i10, i00, or0, add0, g0, g1, g2, g3, g4, g5, g6, c0, c1, c2, c3, c4, c5, c6, Bool.false_eq_true, decide_eq_true_eq]
  | succ n ih =>
    intro i hi words numbers hd k hk
    obtain ⟨k, rfl⟩ : ∃ k', k = k' + 1 := ⟨k - 1, by omega⟩
    have t1 : ((12 : Int32) ≤ nI i) = False := lit_ge (b := 12) rfl (by omega) (by omega)
    have t2 : (nI l ≤ nI (pos i)) = False := eq_false (nI_ge (h.lt (by omega)) (by omega))
    obtain ⟨n', z1, z2, z3⟩ := (h i (by omega)).2.2.2.2.1 i words numbers (by omega)
    have hs : fuel (m_X5_scan_L12 (nI l) a) (k + 1) (nI i, nI (pos i), nI i, words, numbers) = fuel (m_X5_scan_L12 (nI l) a) k (nI (i + 1), nI (pos (i + 1)), nI (i + 1), upd words i (nI (ws i)), n') := by
      show m_X5_scan_L12 _ _ (fuel _ k) _ = _
      simp (disch := omega) only [m_X5_scan_L12, t1, t2, z1, nI_clamp, nI_1, bsm, nmd, gd_ix, gd_t, gd_bi, gd_b0, gd_b1, ite_b, ite_p, if_true, if_false, ite_true, ite_false, i10, i00, or0, add0, g0, g1, g2, g3, g4, g5, g6, c0, c1, c2, c3, c4, c5, c6, Bool.false_eq_true, decide_eq_true_eq]
    rw [hs]
    refine ih (i + 1) (by omega) _ _ (fun j hj => ?_) k (by omega)
    by_cases e : j = i
    · subst e
      rw [upd_same]
      exact ⟨rfl, fun q hq => z2 q hq⟩
    · rw [upd_ne e]
      refine ⟨(hd j (by omega)).1, fun q hq => ?_⟩
      have hw := (h j (by omega)).1
      have hc := cn_le (ws j) hw
      rw [z3 (j * 3 + q) (by omega)]
      exact (hd j (by omega)).2 q hq
theorem fuel_s {V R : Type} {F : (V → Option R) → V → Option R} {n : Nat} {v : V} : fuel F (n + 1) v = F (fuel F n) v := rfl
theorem read_go {a u : Nat → Int32} {l C : Nat} {pos ws : Nat → Nat} {vs : Nat → Nat → Nat} (h : RUN a u l C pos ws vs) (hl : l ≤ 80) (now as : Nat → Int32) (gW : Nat → Nat → Int32) (kept rea rpo : Int32) : ∀ n i, i + n = C → ∀ nu k, n + 1 < k →
    (pos C = l → 0 < C → ∃ nu', fuel (m_X8_read_L12 now as gW kept rea rpo u (nI l)) k (nI i, nI (pos i), 0, nu) = m_X8_read_J45 now as gW kept rea rpo u (nI l) (nI C, nI l, 0, nu')) ∧
    (∀ e, ERc a u l (pos C) e → (0 < C → pos C < l) → ∃ nu', fuel (m_X8_read_L12 now as gW kept rea rpo u (nI l)) k (nI i, nI (pos i), 0, nu) = m_X8_read_J45 now as gW kept rea rpo u (nI l) (nI (C + 1), nI e, 1, nu')) := by
  have hC := h.le hl
  intro n
  induction n with
  | zero =>
    intro i hi nu k hk
    have e : i = C := by omega
    subst e
    obtain ⟨k, rfl⟩ : ∃ k', k = k' + 1 + 1 := ⟨k - 2, by omega⟩
    refine ⟨fun h1 h2 => ⟨nu, ?_⟩, fun e he hlt => ?_⟩
    · show m_X8_read_L12 _ _ _ _ _ _ _ _ (fuel _ (k + 1)) _ = _
      have t2 : (nI l ≤ nI l) = True := eq_true (Int32.le_refl _)
      have t3 : (nI i = (0 : Int32)) = False := lit_ne (b := 0) rfl (by omega) (by omega) (by omega)
      rw [h1]
      simp (disch := omega) only [m_X8_read_L12, t2, t3, nI_clamp, nI_1, bsm, nmd, gd_ix, gd_t, gd_bi, gd_b0, gd_b1, ite_b, ite_p, if_true, if_false, ite_true, ite_false, i10, i00, or0, add0, g0, g1, g2, g3, g4, g5, g6, c0, c1, c2, c3, c4, c5, c6, Bool.false_eq_true, decide_eq_true_eq]
    · obtain ⟨n', hz⟩ := he.2.2 nu
      refine ⟨n', ?_⟩
      show m_X8_read_L12 _ _ _ _ _ _ _ _ (fuel _ (k + 1)) _ = _
      have hz2 : ∀ q : Int32, fuel (m_X8_read_L12 now as gW kept rea rpo u (nI l)) (k + 1) (q, nI e, 1, n') = m_X8_read_J45 now as gW kept rea rpo u (nI l) (q, nI e, 1, n') := fun q => by
        rw [fuel_s]
        simp (disch := omega) only [m_X8_read_L12, nI_clamp, nI_1, bsm, nmd, gd_ix, gd_t, gd_bi, gd_b0, gd_b1, ite_b, ite_p, if_true, if_false, ite_true, ite_false, i10, i00, or0, add0, g0, g1, g2, g3, g4, g5, g6, c0, c1, c2, c3, c4, c5, c6, Bool.false_eq_true, decide_eq_true_eq]
      by_cases z : i = 0
      · have t3 : (nI i = (0 : Int32)) = True := eq_true (by rw [z]; rfl)
        simp (disch := omega) only [m_X8_read_L12, m_X8_read_J34, t3, hz, hz2, nI_clamp, nI_1, bsm, nmd, gd_ix, gd_t, gd_bi, gd_b0, gd_b1, ite_b, ite_p, if_true, if_false, ite_true, ite_false, i10, i00, or0, add0, g0, g1, g2, g3, g4, g5, g6, c0, c1, c2, c3, c4, c5, c6, Bool.false_eq_true, decide_eq_true_eq]
      · have t3 : (nI i = (0 : Int32)) = False := lit_ne (b := 0) rfl z (by omega) (by omega)
        have t2 : (nI l ≤ nI (pos i)) = False := eq_false (nI_ge (hlt (by omega)) (by omega))
        simp (disch := omega) only [m_X8_read_L12, m_X8_read_J34, t2, t3, hz, hz2, nI_clamp, nI_1, bsm, nmd, gd_ix, gd_t, gd_bi, gd_b0, gd_b1, ite_b, ite_p, if_true, if_false, ite_true, ite_false, i10, i00, or0, add0, g0, g1, g2, g3, g4, g5, g6, c0, c1, c2, c3, c4, c5, c6, Bool.false_eq_true, decide_eq_true_eq]
  | succ n ih =>
    intro i hi nu k hk
    obtain ⟨k, rfl⟩ : ∃ k', k = k' + 1 := ⟨k - 1, by omega⟩
    have t2 : (nI l ≤ nI (pos i)) = False := eq_false (nI_ge (h.lt (by omega)) (by omega))
    obtain ⟨n', z1, z2⟩ := (h i (by omega)).2.2.2.2.2 nu
    have hs : fuel (m_X8_read_L12 now as gW kept rea rpo u (nI l)) (k + 1) (nI i, nI (pos i), 0, nu) = fuel (m_X8_read_L12 now as gW kept rea rpo u (nI l)) k (nI (i + 1), nI (pos (i + 1)), 0, n') := by
      show m_X8_read_L12 _ _ _ _ _ _ _ _ (fuel _ k) _ = _
      by_cases z : i = 0
      · have t3 : (nI i = (0 : Int32)) = True := eq_true (by rw [z]; rfl)
        simp (disch := omega) only [m_X8_read_L12, m_X8_read_J34, t3, z1, nI_clamp, nI_1, bsm, nmd, gd_ix, gd_t, gd_bi, gd_b0, gd_b1, ite_b, ite_p, if_true, if_false, ite_true, ite_false, i10, i00, or0, add0, g0, g1, g2, g3, g4, g5, g6, c0, c1, c2, c3, c4, c5, c6, Bool.false_eq_true, decide_eq_true_eq]
      · have t3 : (nI i = (0 : Int32)) = False := lit_ne (b := 0) rfl z (by omega) (by omega)
        simp (disch := omega) only [m_X8_read_L12, m_X8_read_J34, t2, t3, z1, nI_clamp, nI_1, bsm, nmd, gd_ix, gd_t, gd_bi, gd_b0, gd_b1, ite_b, ite_p, if_true, if_false, ite_true, ite_false, i10, i00, or0, add0, g0, g1, g2, g3, g4, g5, g6, c0, c1, c2, c3, c4, c5, c6, Bool.false_eq_true, decide_eq_true_eq]
    rw [hs]
    exact ih (i + 1) (by omega) n' k (by omega)
/-- the whole text, on both sides -/
theorem text_or {a u : Nat → Int32} {l : Nat} (hp : PT a l) (hu : ∀ i, i < l → u i = a i) (hl : l ≤ 80) (words numbers nu now as : Nat → Int32) (gW : Nat → Nat → Int32) (kept rea rpo : Int32) :
    (∃ e words' numbers' nu' C q, e ≤ 80 ∧ m_X5_scan (nI l) a words numbers = some (0, nI e, C, words', numbers') ∧ m_X8_read kept rea rpo (nI l) now as u nu gW = m_X8_read_J45 now as gW kept rea rpo u (nI l) (q, nI e, 1, nu')) ∨
    (∃ C pos ws vs words' numbers' nu', 0 < C ∧ C ≤ 11 ∧ pos 0 = 0 ∧ pos C = l ∧ RUN a u l C pos ws vs ∧ RD0 ws vs C words' numbers' ∧ m_X5_scan (nI l) a words numbers = some (1, nI l, nI C, words', numbers') ∧ m_X8_read kept rea rpo (nI l) now as u nu gW = m_X8_read_J45 now as gW kept rea rpo u (nI l) (nI C, nI l, 0, nu')) := by
  obtain ⟨C, pos, ws, vs, p0, hR, hE⟩ := runs hp hu hl l 0 (by omega) (by omega)
  have hC := hR.le hl
  have hs := scan_go hR hl C 0 (by omega) words numbers (fun j hj => absurd hj (by omega)) FU (show C < 1000 by omega)
  have hr := read_go hR hl now as gW kept rea rpo C 0 (by omega) nu FU (show C + 1 < 1000 by omega)
  rw [p0] at hs hr
  rcases hE with ⟨h1, h2⟩ | ⟨h1, e, he⟩
  · obtain ⟨words', numbers', s1, s2⟩ := hs.1 h2 h1
    obtain ⟨nu', r1⟩ := hr.1 h2 h1
    exact Or.inr ⟨C, pos, ws, vs, words', numbers', nu', h1, hC, p0, h2, hR, s2, s1, r1⟩
  · have hel := he.1
    obtain ⟨nu', r1⟩ := hr.2 e he h1
    by_cases q : pos C < l
    · obtain ⟨words', numbers', s1⟩ := hs.2 e he q
      exact Or.inl ⟨e, words', numbers', nu', _, _, by omega, s1, r1⟩
    · have hC0 : C = 0 := by
        by_cases z : C = 0
        · exact z
        · exact absurd (h1 (by omega)) q
      have hl0 : l = 0 := by
        rw [hC0, p0] at q
        omega
      subst hl0
      have he0 : e = 0 := by omega
      subst he0
      refine Or.inl ⟨0, words, numbers, nu', 0, _, by omega, ?_, r1⟩
      unfold m_X5_scan
      show m_X5_scan_L12 _ _ (fuel _ 999) _ = _
      have t1 : ((12 : Int32) ≤ 0) = False := by decide
      have t2 : (nI 0 ≤ (0 : Int32)) = True := by decide
      have t3 : ((0 : Int32) ≤ 0) = True := by decide
      simp (disch := omega) only [m_X5_scan_L12, m_X5_scan_J55, t1, t2, t3, nI_clamp, nI_1, bsm, nmd, gd_ix, gd_t, gd_bi, gd_b0, gd_b1, ite_b, ite_p, if_true, if_false, ite_true, ite_false, i10, i00, or0, add0, g0, g1, g2, g3, g4, g5, g6, c0, c1, c2, c3, c4, c5, c6, Bool.false_eq_true, decide_eq_true_eq]
      rfl
