/-! What a row keeps; the deeds that lead without a gap. -/
def rP (j : Nat) : Prop := j = 1 ∨ 7 ≤ j ∧ j < 151
def rD (j : Nat) : Prop := j = 2 ∨ 151 ≤ j ∧ j < 391
def rE (j : Nat) : Prop := j = 3 ∨ 391 ≤ j ∧ j < 541
def rL (j : Nat) : Prop := j = 4 ∨ j = 5 ∨ 541 ≤ j ∧ j < 621
/-- the same outside a part -/
def Off (R : Nat → Prop) (n m : Nat → Int32) : Prop := ∀ j, ¬ R j → m j = n j
theorem Off.rf (R : Nat → Prop) (n : Nat → Int32) : Off R n n := fun _ _ => rfl
theorem Off.tr {R : Nat → Prop} {a b c : Nat → Int32} (h : Off R a b) (g : Off R b c) : Off R a c := fun j q => (g j q).trans (h j q)
theorem Off.upd {R : Nat → Prop} {n m : Nat → Int32} (h : Off R n m) {k : Nat} (hk : R k) (v : Int32) : Off R n (upd m k v) := fun j q => by
  have : j ≠ k := fun e => q (e ▸ hk)
  show (if j = k then v else m j) = n j
  rw [if_neg this]
  exact h j q
theorem upd_same (f : Nat → Int32) (k : Nat) (v : Int32) : upd f k v k = v := if_pos rfl
theorem upd_ne {f : Nat → Int32} {k j : Nat} {v : Int32} (h : j ≠ k) : upd f k v j = f j := if_neg h
theorem upd_id (f : Nat → Int32) (k : Nat) : upd f k (f k) = f := funext fun j => by
  by_cases h : j = k
  · rw [h, upd_same]
  · rw [upd_ne h]
theorem VP.keep {P : Nat} {ar fi la nb pa ro n m : Nat → Int32} (h : VP P ar fi la nb pa ro n) (hP : P ≤ 24) (e : ∀ j, rP j → m j = n j) : VP P ar fi la nb pa ro m := by
  refine ⟨(e 1 (Or.inl rfl)).trans h.1, fun p hp => ?_⟩
  obtain ⟨h0, h1, h2, h3, h4, h5⟩ := h.2 p hp
  exact ⟨(e _ (Or.inr (by omega))).trans h0, (e _ (Or.inr (by omega))).trans h1, (e _ (Or.inr (by omega))).trans h2, (e _ (Or.inr (by omega))).trans h3, (e _ (Or.inr (by omega))).trans h4, (e _ (Or.inr (by omega))).trans h5⟩
theorem VE.keep {E : Nat} {ek eo es ef el n m : Nat → Int32} (h : VE E ek eo es ef el n) (hE : E ≤ 30) (e : ∀ j, rE j → m j = n j) : VE E ek eo es ef el m := by
  refine ⟨(e 3 (Or.inl rfl)).trans h.1, fun p hp => ?_⟩
  obtain ⟨h0, h1, h2, h3, h4⟩ := h.2 p hp
  exact ⟨(e _ (Or.inr (by omega))).trans h0, (e _ (Or.inr (by omega))).trans h1, (e _ (Or.inr (by omega))).trans h2, (e _ (Or.inr (by omega))).trans h3, (e _ (Or.inr (by omega))).trans h4⟩
theorem VL.keep {L K : Nat} {lc lm lp lr n m : Nat → Int32} (h : VL L K lc lm lp lr n) (hL : L ≤ 20) (hK : K ≤ L) (e : ∀ j, rL j → m j = n j) : VL L K lc lm lp lr m := by
  refine ⟨(e 4 (Or.inl rfl)).trans h.1, (e 5 (Or.inr (Or.inl rfl))).trans h.2.1, fun p hp => ?_, fun k hk => (e _ (Or.inr (Or.inr (by omega)))).trans (h.2.2.2 k hk)⟩
  obtain ⟨h0, h1, h2⟩ := h.2.2.1 p hp
  exact ⟨(e _ (Or.inr (Or.inr (by omega)))).trans h0, (e _ (Or.inr (Or.inr (by omega)))).trans h1, (e _ (Or.inr (Or.inr (by omega)))).trans h2⟩
theorem chn_c {dp dg de dd dp' dg' de' dd' : Nat → Int32} {x : Int32} {n : Nat} (h : ∀ k, k < n → dp' k = dp k ∧ dg' k = dg k ∧ de' k = de k ∧ dd' k = dd k) : chn dp' dg' de' dd' x n = chn dp dg de dd x n := by
  induction n with
  | zero => rfl
  | succ n ih =>
    obtain ⟨h0, h1, h2, h3⟩ := h n (by omega)
    rw [chn_s, chn_s, ih fun k hk => h k (by omega), h0, h1, h2, h3]
theorem rch.keep {n m : Nat → Int32} {r : Nat} (hr : r ≤ 60) (e : ∀ j, rD j → m j = n j) (x : Int32) : rch m x r = rch n x r := chn_c fun k hk => ⟨e _ (Or.inr (by omega)), e _ (Or.inr (by omega)), e _ (Or.inr (by omega)), e _ (Or.inr (by omega))⟩
theorem ID2.keep {D P dn : Nat} {n m : Nat → Int32} (h : ID2 D P dn n) (e : ∀ j, rD j → m j = n j) : ID2 D P dn m := by
  have hD := h.2.1
  refine ⟨(e 2 (Or.inl rfl)).trans h.1, hD, fun k hk => ?_⟩
  have e0 : rdp m k = rdp n k := e _ (Or.inr (by omega))
  have e1 : rdg m k = rdg n k := e _ (Or.inr (by omega))
  have e2 : rde m k = rde n k := e _ (Or.inr (by omega))
  have e3 : rdd m k = rdd n k := e _ (Or.inr (by omega))
  rw [e0, e1, e2, e3]
  exact h.2.2 k hk
theorem ID2.up {D P dn P' dn' : Nat} {n : Nat → Int32} (h : ID2 D P dn n) (hP : P ≤ P') (hd : dn ≤ dn') : ID2 D P' dn' n := ⟨h.1, h.2.1, fun k hk => by
  obtain ⟨⟨q, h1, h2⟩, h3, h4, d, h5, h6⟩ := h.2.2 k hk
  exact ⟨⟨q, by omega, h2⟩, h3, h4, d, by omega, h6⟩⟩
theorem ID.up {D P dn P' dn' : Nat} {dp dg de dd : Nat → Int32} (h : ID D P dn dp dg de dd) (hP : P ≤ P') (hd : dn ≤ dn') : ID D P' dn' dp dg de dd := ⟨h.1, fun k hk => by
  obtain ⟨⟨q, h1, h2⟩, h3, h4, d, h5, h6⟩ := h.2 k hk
  exact ⟨⟨q, by omega, h2⟩, h3, h4, d, by omega, h6⟩⟩
theorem RD.keep {D P dn P' dn' : Nat} {dp dg de dd n m : Nat → Int32} (h : RD D P dn dp dg de dd n) (hP : P ≤ P') (hd : dn ≤ dn') (e : ∀ j, rD j → m j = n j) : RD D P' dn' dp dg de dd m := ⟨h.1.up hP hd, h.2.1, (h.2.2.1.keep e).up hP hd, fun x => (h.2.2.2 x).trans (rch.keep h.1.1 e x).symm⟩
/-! The deeds that lead without a gap. -/
def fM : Int32 × Int32 × Int32 → (Nat → Int32) → Nat → Int32 := fun d g => if g d.1.toNatClampNeg = -1 then g else upd g d.2.1.toNatClampNeg (if g d.2.1.toNatClampNeg < g d.1.toNatClampNeg + 1 then g d.1.toNatClampNeg + 1 else g d.2.1.toNatClampNeg)
def m0 (r : Int32) : Nat → Int32 := fun k => if nI k = r then 0 else -1
def most (r : Int32) (l : List (Int32 × Int32 × Int32)) : Nat → Int32 := l.foldl (fun s d => fM d s) (m0 r)
theorem most_a {r : Int32} {l : List (Int32 × Int32 × Int32)} {d : Int32 × Int32 × Int32} : most r (l ++ [d]) = fM d (most r l) := by
  unfold most
  rw [List.foldl_append]
  rfl
theorem ten_le {i : Nat} (h : i < 10) : ((10 : Int32) ≤ nI i) = False := eq_false (nI_ge (b := 10) h (by decide))
theorem ten_ge : ((10 : Int32) ≤ nI 10) = True := eq_true (by decide)
theorem isPer8 {a : Nat} (h : a < 10) : m_X7_isPerson (nI a) = some 1 := isPer_y h
set_option maxHeartbeats 1000000 in
theorem X0_most {D P dn : Nat} {dp dg de dd n : Nat → Int32} (h : RD D P dn dp dg de dd n) (x : Int32) {r : Int32} (hr : ∃ a, a < 10 ∧ r = nI a) (g : Nat → Int32) : ∃ g', m_X0_mostWithoutGap x r (nI D) dp dg de g = some (most r (rch n x D) (hold r (rch n x D)).toNatClampNeg, g') := by
  have hD := h.1.1
  obtain ⟨u, hu, hloop⟩ := for_rel (F := m_X0_mostWithoutGap_L2 (nI D) dp dg de x r) (c := 10) (fun s x => (x, s)) (fun i g => ∀ k, k < i → g k = m0 r k) g (by omega) (fun k hk => by omega) (fun rec i s hi hs => by
    refine ⟨upd s i (m0 r i), fun k hk => ?_, ?_⟩
    · by_cases e : k = i
      · rw [e, upd_same]
      · rw [upd_ne e]; exact hs k (by omega)
    · unfold m0
      by_cases e : nI i = r
      · simp (disch := omega) only [m_X0_mostWithoutGap_L2, ten_le hi, eq_true e, nI_clamp, nI_1, bsm, nmd, gd_ix, gd_t, gd_bi, gd_b0, gd_b1, ite_b, ite_p, if_true, if_false, ite_true, ite_false, i10, i00, or0, add0, g0, g1, g2, g3, g4, g5, g6, c0, c1, c2, c3, c4, c5, c6, Bool.false_eq_true, decide_eq_true_eq]
      · simp (disch := omega) only [m_X0_mostWithoutGap_L2, ten_le hi, e, nI_clamp, nI_1, bsm, nmd, gd_ix, gd_t, gd_bi, gd_b0, gd_b1, ite_b, ite_p, if_true, if_false, ite_true, ite_false, i10, i00, or0, add0, g0, g1, g2, g3, g4, g5, g6, c0, c1, c2, c3, c4, c5, c6, Bool.false_eq_true, decide_eq_true_eq])
  obtain ⟨v, hv, hloop2⟩ := for_rel (F := m_X0_mostWithoutGap_L32 (nI D) dp dg de x r) (c := D) (fun s x => (x, s)) (fun i g => ∀ k, k < 10 → g k = most r (chn dp dg de dd x i) k) u (by omega) hu (fun rec i s hi hs => by
    obtain ⟨-, ⟨a, ha, ea⟩, ⟨b, hb, eb⟩, -⟩ := h.1.2 i hi
    have ip1 := isPer8 ha
    have ip2 := isPer8 hb
    by_cases e : dp i = x
    · refine ⟨fM (dg i, de i, dd i) s, fun k hk => ?_, ?_⟩
      · rw [chn_s, if_pos e, most_a]
        unfold fM
        simp (disch := omega) only [ea, eb, nI_clamp]
        rw [hs a ha, hs b hb]
        by_cases q : most r (chn dp dg de dd x i) a = -1
        · rw [if_pos q, if_pos q]; exact hs k hk
        · rw [if_neg q, if_neg q]
          by_cases w : k = b
          · rw [w, upd_same, upd_same]
          · rw [upd_ne w, upd_ne w]; exact hs k hk
      · unfold fM
        by_cases q : s a = -1
        all_goals simp (disch := omega) only [m_X0_mostWithoutGap_L32, lp_go, e, ea, eb, ip1, ip2, q, nI_clamp, nI_1, bsm, nmd, gd_ix, gd_t, gd_bi, gd_b0, gd_b1, ite_b, ite_p, if_true, if_false, ite_true, ite_false, i10, i00, or0, add0, g0, g1, g2, g3, g4, g5, g6, c0, c1, c2, c3, c4, c5, c6, Bool.false_eq_true, decide_eq_true_eq]
    · refine ⟨s, fun k hk => ?_, ?_⟩
      · rw [chn_s, if_neg e, List.append_nil]; exact hs k hk
      · simp (disch := omega) only [m_X0_mostWithoutGap_L32, lp_go, e, nI_clamp, nI_1, bsm, nmd, gd_ix, gd_t, gd_bi, gd_b0, gd_b1, ite_b, ite_p, if_true, if_false, ite_true, ite_false, i10, i00, or0, add0, g0, g1, g2, g3, g4, g5, g6, c0, c1, c2, c3, c4, c5, c6, Bool.false_eq_true, decide_eq_true_eq])
  refine ⟨v, ?_⟩
  unfold m_X0_mostWithoutGap
  refine hloop _ fun rec => ?_
  simp only [m_X0_mostWithoutGap_L2, ten_ge, if_true, m_X0_mostWithoutGap_J30]
  refine hloop2 _ fun rec => ?_
  simp (disch := omega) only [m_X0_mostWithoutGap_L32, lp_end, Nat.le_refl, m_X0_mostWithoutGap_J125]
  rw [X0_holderBehind_h hD (Nat.le_refl D) dp dg de dd x r, bsm, h.2.2.2 x]
  obtain ⟨a, ha, ea⟩ := hold_lt h.id2 (x := x) hr D (Nat.le_refl D)
  rw [ea, isPer8 ha, bsm, if_neg (by decide), gd_ix (by omega) (by omega), nI_clamp (by omega), hv a ha, h.2.2.2 x]
/-- values of a chain's row -/
theorem most_v {r : Int32} {l : List (Int32 × Int32 × Int32)} : ∀ k, most r l k = -1 ∨ ∃ v, v ≤ l.length ∧ most r l k = nI v := by
  have key : ∀ (l : List (Int32 × Int32 × Int32)) (g : Nat → Int32) (c : Nat), (∀ k, g k = -1 ∨ ∃ v, v ≤ c ∧ g k = nI v) → ∀ k, (l.foldl (fun s d => fM d s) g) k = -1 ∨ ∃ v, v ≤ c + l.length ∧ (l.foldl (fun s d => fM d s) g) k = nI v := by
    intro l
    induction l with
    | nil => intro g c h k; exact h k
    | cons d l ih =>
      intro g c h k
      have h2 : ∀ k, (fM d g) k = -1 ∨ ∃ v, v ≤ c + 1 ∧ (fM d g) k = nI v := by
        intro k
        unfold fM
        by_cases q : g d.1.toNatClampNeg = -1
        · rw [if_pos q]; exact (h k).imp id fun ⟨v, h1, h2⟩ => ⟨v, by omega, h2⟩
        · rw [if_neg q]
          by_cases w : k = d.2.1.toNatClampNeg
          · rw [w, upd_same]
            by_cases z : g d.2.1.toNatClampNeg < g d.1.toNatClampNeg + 1
            · rw [if_pos z]
              obtain ⟨v, h1, h2⟩ := (h d.1.toNatClampNeg).resolve_left q
              exact Or.inr ⟨v + 1, by omega, by rw [h2, nI_1]⟩
            · rw [if_neg z]
              exact (h _).imp id fun ⟨v, h1, h2⟩ => ⟨v, by omega, h2⟩
          · rw [upd_ne w]; exact (h k).imp id fun ⟨v, h1, h2⟩ => ⟨v, by omega, h2⟩
      have := ih (fM d g) (c + 1) h2 k
      rw [List.foldl_cons, List.length_cons]
      exact this.imp id fun ⟨v, h1, h2⟩ => ⟨v, by omega, h2⟩
  intro k
  have := key l (m0 r) 0 (fun k => by
    unfold m0
    by_cases q : nI k = r
    · rw [if_pos q]; exact Or.inr ⟨0, by omega, rfl⟩
    · rw [if_neg q]; exact Or.inl rfl) k
  exact this.imp id fun ⟨v, h1, h2⟩ => ⟨v, by omega, h2⟩
theorem rch_len {n : Nat → Int32} {x : Int32} (r : Nat) : (rch n x r).length ≤ r := by
  rw [chn_len]
  exact cN_le _ _
set_option maxHeartbeats 2000000 in
theorem X8_needless0 {P D dn p : Nat} {ar fi la nb pa ro n : Nat → Int32} (hV : VP P ar fi la nb pa ro n) (hI : IP P dn ar fi la nb pa ro) (h : ID2 D P dn n) (hp : p < P) (v : Int32) (g : Nat → Int32) : ∃ g', fuel (m_X8_needless_L25 n (nI p) v) FU (0, g) = some (nI (cN (bEq (rdp n) (nI p)) D) - most (ro p) (rch n (nI p) D) (hold (ro p) (rch n (nI p) D)).toNatClampNeg, v, g') := by
  have hP := hI.le
  have hD := h.2.1
  have hr := hV.ro hP hp
  obtain ⟨u, hu, hloop⟩ := for_rel (F := m_X8_needless_L25 n (nI p) v) (c := 10) (fun s x => (x, s)) (fun i g => ∀ k, k < i → g k = m0 (ro p) k) g (by omega) (fun k hk => by omega) (fun rec i s hi hs => by
    refine ⟨upd s i (m0 (ro p) i), fun k hk => ?_, ?_⟩
    · by_cases e : k = i
      · rw [e, upd_same]
      · rw [upd_ne e]; exact hs k (by omega)
    · unfold m0
      by_cases e : nI i = ro p
      · simp (disch := omega) only [m_X8_needless_L25, ten_le hi, hr, eq_true e, nI_clamp, nI_1, bsm, nmd, gd_ix, gd_t, gd_bi, gd_b0, gd_b1, ite_b, ite_p, if_true, if_false, ite_true, ite_false, i10, i00, or0, add0, g0, g1, g2, g3, g4, g5, g6, c0, c1, c2, c3, c4, c5, c6, Bool.false_eq_true, decide_eq_true_eq]
      · simp (disch := omega) only [m_X8_needless_L25, ten_le hi, hr, e, nI_clamp, nI_1, bsm, nmd, gd_ix, gd_t, gd_bi, gd_b0, gd_b1, ite_b, ite_p, if_true, if_false, ite_true, ite_false, i10, i00, or0, add0, g0, g1, g2, g3, g4, g5, g6, c0, c1, c2, c3, c4, c5, c6, Bool.false_eq_true, decide_eq_true_eq])
  obtain ⟨w, hw, hloop2⟩ := for_rel (F := m_X8_needless_L60 n (nI p) v) (c := D) (fun s x => (x, s)) (fun i g => ∀ k, k < 10 → g k = most (ro p) (rch n (nI p) i) k) u (by omega) hu (fun rec i s hi hs => by
    obtain ⟨-, ⟨a, ha, ea⟩, ⟨b, hb, eb⟩, -⟩ := h.2.2 i hi
    by_cases e : rdp n i = nI p
    · refine ⟨fM (rdg n i, rde n i, rdd n i) s, fun k hk => ?_, ?_⟩
      · rw [rch_s e, most_a]
        unfold fM
        simp (disch := omega) only [ea, eb, nI_clamp]
        rw [hs a ha, hs b hb]
        by_cases q : most (ro p) (rch n (nI p) i) a = -1
        · rw [if_pos q, if_pos q]; exact hs k hk
        · rw [if_neg q, if_neg q]
          by_cases w : k = b
          · rw [w, upd_same, upd_same]
          · rw [upd_ne w, upd_ne w]; exact hs k hk
      · have hva := most_v (r := ro p) (l := rch n (nI p) i) a
        have hl := rch_len (n := n) (x := nI p) i
        rw [← hs a ha] at hva
        unfold fM
        rcases hva with q | ⟨t, ht, q⟩
        · have z : (s a + 1 ≤ 0) = True := eq_true (by rw [q]; decide)
          simp (disch := omega) only [m_X8_needless_L60, m_X8_needless_J122, lp_go, h.1, dAt0, dAt1, dAt2, e, ea, eb, z, eq_true q, upd_id, nI_clamp, nI_1, bsm, nmd, gd_ix, gd_t, gd_bi, gd_b0, gd_b1, ite_b, ite_p, if_true, if_false, ite_true, ite_false, i10, i00, or0, add0, g0, g1, g2, g3, g4, g5, g6, c0, c1, c2, c3, c4, c5, c6, Bool.false_eq_true, decide_eq_true_eq]
        · have z : (s a + 1 ≤ 0) = False := eq_false (by rw [q, nI_1]; exact nI_nle (by omega) (by omega))
          have z2 : (s a = -1) = False := eq_false (by rw [q]; exact m1_ne (by omega))
          by_cases z3 : s a + 1 ≤ s b
          · have z4 : (s b < s a + 1) = False := eq_false (Int32.not_lt.mpr z3)
            simp (disch := omega) only [m_X8_needless_L60, m_X8_needless_J122, lp_go, h.1, dAt0, dAt1, dAt2, e, ea, eb, z, z2, eq_true z3, z4, upd_id, nI_clamp, nI_1, bsm, nmd, gd_ix, gd_t, gd_bi, gd_b0, gd_b1, ite_b, ite_p, if_true, if_false, ite_true, ite_false, i10, i00, or0, add0, g0, g1, g2, g3, g4, g5, g6, c0, c1, c2, c3, c4, c5, c6, Bool.false_eq_true, decide_eq_true_eq]
          · have z4 : (s b < s a + 1) = True := eq_true (Int32.not_le.mp z3)
            simp (disch := omega) only [m_X8_needless_L60, m_X8_needless_J122, lp_go, h.1, dAt0, dAt1, dAt2, e, ea, eb, z, z2, eq_false z3, z4, nI_clamp, nI_1, bsm, nmd, gd_ix, gd_t, gd_bi, gd_b0, gd_b1, ite_b, ite_p, if_true, if_false, ite_true, ite_false, i10, i00, or0, add0, g0, g1, g2, g3, g4, g5, g6, c0, c1, c2, c3, c4, c5, c6, Bool.false_eq_true, decide_eq_true_eq]
    · refine ⟨s, fun k hk => ?_, ?_⟩
      · rw [rch_n e]; exact hs k hk
      · simp (disch := omega) only [m_X8_needless_L60, m_X8_needless_J122, lp_go, h.1, dAt0, dAt1, dAt2, e, ea, eb, upd_id, nI_clamp, nI_1, bsm, nmd, gd_ix, gd_t, gd_bi, gd_b0, gd_b1, ite_b, ite_p, if_true, if_false, ite_true, ite_false, i10, i00, or0, add0, g0, g1, g2, g3, g4, g5, g6, c0, c1, c2, c3, c4, c5, c6, Bool.false_eq_true, decide_eq_true_eq])
  refine ⟨w, ?_⟩
  refine hloop _ fun rec => ?_
  simp only [m_X8_needless_L25, ten_ge, if_true, m_X8_needless_J58]
  refine hloop2 _ fun rec => ?_
  simp (disch := omega) only [m_X8_needless_L60, lp_end, Nat.le_refl, h.1, g2, c2, m_X8_needless_J153]
  obtain ⟨a, ha, ea⟩ := hold_lt h (x := nI p) (hI.root hp) D (Nat.le_refl D)
  rw [X8_countDeeds h.1 hD (nI p), bsm, X8_holderOf hV hP hp h hI.dl, bsm, ea, gd_ix (by omega) (by omega), nI_clamp (by omega), hw a ha, cN_fold]

