/-! Deeds: writing, on both sides. -/
def shf (f : Nat → Int32) (x D : Nat) : Nat → Int32 := fun k => if x < k ∧ k ≤ D then f (k - 1) else f k
/-- a row with one more at a place -/
def ins (f : Nat → Int32) (r D : Nat) (v : Int32) : Nat → Int32 := upd (shf f r D) r v
theorem shf_0 (f : Nat → Int32) (D : Nat) : shf f D D = f := funext fun k => if_neg (by omega)
theorem shf_s {f : Nat → Int32} {y D : Nat} (h : y < D) : upd (shf f (y + 1) D) (y + 1) (shf f (y + 1) D y) = shf f y D := funext fun k => by
  unfold shf
  by_cases e : k = y + 1
  · rw [e, upd_same, if_neg (by omega), if_pos (by omega)]
    rfl
  · rw [upd_ne e]
    by_cases w : y + 1 < k ∧ k ≤ D
    · rw [if_pos w, if_pos (by omega)]
    · rw [if_neg w, if_neg (by omega)]
theorem ins_lt {f : Nat → Int32} {r D k : Nat} {v : Int32} (h : k < r) : ins f r D v k = f k := by
  unfold ins
  rw [upd_ne (by omega)]
  exact if_neg (by omega)
theorem ins_eq {f : Nat → Int32} {r D : Nat} {v : Int32} : ins f r D v r = v := upd_same _ _ _
theorem ins_gt {f : Nat → Int32} {r D k : Nat} {v : Int32} (h : r < k) (hk : k ≤ D) : ins f r D v k = f (k - 1) := by
  unfold ins
  rw [upd_ne (by omega)]
  exact if_pos ⟨h, hk⟩
set_option maxHeartbeats 2000000 in
theorem X0_record {D : Nat} (hD : D < 60) (x g e d : Int32) (dp dg de dd : Nat → Int32) : m_X0_record x g e d (nI D) dp dg de dd = some (nI (cN (bDay dd d) D), nI (D + 1), ins dp (cN (bDay dd d) D) D x, ins dg (cN (bDay dd d) D) D g, ins de (cN (bDay dd d) D) D e, ins dd (cN (bDay dd d) D) D d) := by
  have hr := cN_le (bDay dd d) D
  unfold m_X0_record
  rw [if_pos (show nI D < (60 : Int32) from nI_lt (b := 60) hD (by omega)), X0_rowsUpTo (by omega) dd d, cN_fold, bsm]
  generalize cN (bDay dd d) D = r at hr
  have e0 : (nI D, dp, dg, de, dd) = (nI (D - 0), shf dp (D - 0) D, shf dg (D - 0) D, shf de (D - 0) D, shf dd (D - 0) D) := by rw [Nat.sub_zero, shf_0, shf_0, shf_0, shf_0]
  rw [e0]
  refine loop_run (c := D - r) (fun i => (nI (D - i), shf dp (D - i) D, shf dg (D - i) D, shf de (D - i) D, shf dd (D - i) D)) (by omega) (fun rec i hi => ?_) (fun rec => ?_)
  · obtain ⟨y, hy⟩ : ∃ y, D - i = y + 1 := ⟨D - i - 1, by omega⟩
    have hy2 : D - (i + 1) = y := by omega
    have hyD : y < D := by omega
    have hle : ¬ nI (y + 1) ≤ nI r := nI_ge (by omega) (by omega)
    rw [hy, hy2]
    simp (disch := omega) only [m_X0_record_L25, hle, nI_pred, pk_m1, shf_s hyD, nI_clamp, nI_1, bsm, nmd, gd_ix, gd_t, gd_bi, gd_b0, gd_b1, ite_b, ite_p, if_true, if_false, ite_true, ite_false, i10, i00, or0, add0, g0, g1, g2, g3, g4, g5, g6, c0, c1, c2, c3, c4, c5, c6, Bool.false_eq_true, decide_eq_true_eq]
  · rw [show D - (D - r) = r by omega]
    simp (disch := omega) only [m_X0_record_L25, m_X0_record_J102, lp_end, Nat.le_refl, ins, nI_clamp, nI_1, bsm, nmd, gd_ix, gd_t, gd_bi, gd_b0, gd_b1, ite_b, ite_p, if_true, if_false, ite_true, ite_false, i10, i00, or0, add0, g0, g1, g2, g3, g4, g5, g6, c0, c1, c2, c3, c4, c5, c6, Bool.false_eq_true, decide_eq_true_eq]
theorem chn_add {dp dg de dd : Nat → Int32} {x : Int32} {r : Nat} : ∀ m, chn dp dg de dd x (r + m) = chn dp dg de dd x r ++ chn (fun k => dp (r + k)) (fun k => dg (r + k)) (fun k => de (r + k)) (fun k => dd (r + k)) x m := by
  intro m
  induction m with
  | zero => exact (List.append_nil _).symm
  | succ m ih =>
    rw [← Nat.add_assoc, chn_s, ih, chn_s, List.append_assoc]
/-- what comes behind a place -/
def tl (dp dg de dd : Nat → Int32) (x : Int32) (r D : Nat) : List (Int32 × Int32 × Int32) := chn (fun k => dp (r + k)) (fun k => dg (r + k)) (fun k => de (r + k)) (fun k => dd (r + k)) x (D - r)
theorem chn_cut {dp dg de dd : Nat → Int32} {x : Int32} {r D : Nat} (h : r ≤ D) : chn dp dg de dd x D = chn dp dg de dd x r ++ tl dp dg de dd x r D := by
  have := chn_add (dp := dp) (dg := dg) (de := de) (dd := dd) (x := x) (r := r) (D - r)
  rwa [show r + (D - r) = D by omega] at this
theorem chn_new {dp dg de dd dp' dg' de' dd' : Nat → Int32} {x v g e d : Int32} {r D : Nat} (h : r ≤ D)
    (h1 : ∀ k, k < r → dp' k = dp k ∧ dg' k = dg k ∧ de' k = de k ∧ dd' k = dd k) (h2 : dp' r = v ∧ dg' r = g ∧ de' r = e ∧ dd' r = d) (h3 : ∀ k, r < k → k ≤ D → dp' k = dp (k - 1) ∧ dg' k = dg (k - 1) ∧ de' k = de (k - 1) ∧ dd' k = dd (k - 1)) :
    chn dp' dg' de' dd' x (D + 1) = chn dp dg de dd x r ++ ((if v = x then [(g, e, d)] else []) ++ tl dp dg de dd x r D) := by
  have e1 := chn_cut (dp := dp') (dg := dg') (de := de') (dd := dd') (x := x) (r := r + 1) (D := D + 1) (by omega)
  rw [e1, chn_s, chn_c h1, h2.1, h2.2.1, h2.2.2.1, h2.2.2.2, List.append_assoc]
  congr 2
  unfold tl
  rw [show D + 1 - (r + 1) = D - r by omega]
  exact chn_c fun k hk => by
    have := h3 (r + 1 + k) (by omega) (by omega)
    rwa [show r + 1 + k - 1 = r + k by omega] at this
theorem tl_mem {dp dg de dd : Nat → Int32} {x : Int32} {r D : Nat} {b : Int32 × Int32 × Int32} (h : b ∈ tl dp dg de dd x r D) : ∃ k, r ≤ k ∧ k < D ∧ b = (dg k, de k, dd k) := by
  obtain ⟨k, h1, h2, h3⟩ := chn_mem h
  exact ⟨r + k, by omega, by omega, h3⟩
theorem split_one {d : Int32} : ∀ {A B A' B' : List (Int32 × Int32 × Int32)}, A ++ B = A' ++ B' → (∀ a ∈ A, ¬ d < a.2.2) → (∀ b ∈ B, d < b.2.2) → (∀ a ∈ A', ¬ d < a.2.2) → (∀ b ∈ B'.head?, d < b.2.2) → A = A' ∧ B = B' := by
  intro A
  induction A with
  | nil =>
    intro B A' B' e _ hB hA' _
    cases A' with
    | nil => exact ⟨rfl, e⟩
    | cons a A' =>
      have : a ∈ B := by rw [show B = a :: A' ++ B' from e]; exact List.mem_cons_self
      exact absurd (hB a this) (hA' a List.mem_cons_self)
  | cons a A ih =>
    intro B A' B' e hA hB hA' hB'
    cases A' with
    | nil =>
      have e2 : B' = a :: (A ++ B) := e.symm
      have := hB' a (by rw [e2]; rfl)
      exact absurd this (hA a List.mem_cons_self)
    | cons a' A' =>
      rw [List.cons_append, List.cons_append] at e
      obtain ⟨e1, e2⟩ := List.cons.inj e
      obtain ⟨h1, h2⟩ := ih e2 (fun q hq => hA q (List.mem_cons_of_mem _ hq)) hB (fun q hq => hA' q (List.mem_cons_of_mem _ hq)) hB'
      exact ⟨by rw [e1, h1], h2⟩
/-- the reference's place -/
def bPl (n : Nat → Int32) (x d : Int32) : Nat → Bool := fun k => decide (rdp n k = x) && decide (d < rdd n k)
def plc (n : Nat → Int32) (x d : Int32) (D : Nat) : Nat := match fnd (bPl n x d) D with
  | some k => k
  | none => D
theorem plc_le (n : Nat → Int32) (x d : Int32) (D : Nat) : plc n x d D ≤ D := by
  unfold plc
  cases h : fnd (bPl n x d) D with
  | none => exact Nat.le_refl _
  | some k => exact Nat.le_of_lt (fnd_some h).1
theorem plc_A {n : Nat → Int32} {x d : Int32} {D : Nat} : ∀ a ∈ rch n x (plc n x d D), ¬ d < a.2.2 := fun a ha => by
  obtain ⟨k, hk, e1, e2⟩ := chn_mem ha
  have hb : bPl n x d k = false := by
    unfold plc at hk
    cases h : fnd (bPl n x d) D with
    | none => rw [h] at hk; exact fnd_none h k hk
    | some j => rw [h] at hk; exact (fnd_some h).2.2 k hk
  unfold bPl at hb
  rw [decide_eq_true e1, Bool.true_and, decide_eq_false_iff_not] at hb
  rw [e2]
  exact hb
theorem plc_B {n : Nat → Int32} {x d : Int32} {D : Nat} : ∀ b ∈ (tl (rdp n) (rdg n) (rde n) (rdd n) x (plc n x d D) D).head?, d < b.2.2 := fun b hb => by
  unfold plc at hb
  cases h : fnd (bPl n x d) D with
  | none =>
    rw [h] at hb
    have : tl (rdp n) (rdg n) (rde n) (rdd n) x D D = [] := by
      unfold tl
      rw [Nat.sub_self]
      rfl
    rw [this] at hb
    cases hb
  | some k =>
    rw [h] at hb
    obtain ⟨h1, h2, h3⟩ := fnd_some h
    unfold bPl at h2
    rw [Bool.and_eq_true, decide_eq_true_iff, decide_eq_true_iff] at h2
    have e : tl (rdp n) (rdg n) (rde n) (rdd n) x k D = (rdg n k, rde n k, rdd n k) :: tl (rdp n) (rdg n) (rde n) (rdd n) x (k + 1) D := by
      have a1 := chn_cut (dp := rdp n) (dg := rdg n) (de := rde n) (dd := rdd n) (x := x) (r := k) (D := D) (by omega)
      have a2 := chn_cut (dp := rdp n) (dg := rdg n) (de := rde n) (dd := rdd n) (x := x) (r := k + 1) (D := D) (by omega)
      rw [a1, chn_s, if_pos h2.1, List.append_assoc] at a2
      exact List.append_cancel_left a2
    rw [e] at hb
    cases hb
    exact h2.2
theorem foldD_pl {n : Nat → Int32} {x d : Int32} : ∀ c a, foldD (fun k s => if bPl n x d k = true then nI k else s) a c = match fnd (bPl n x d) c with | some k => nI k | none => a := by
  intro c
  induction c with
  | zero => intro a; rfl
  | succ c ih =>
    intro a
    show foldD (fun k s => if bPl n x d k = true then nI k else s) (if bPl n x d c = true then nI c else a) c = _
    rw [ih, fnd_s]
    cases h : fnd (bPl n x d) c with
    | some k => rfl
    | none =>
      by_cases hb : bPl n x d c = true
      · rw [if_pos hb]; simp only [hb, if_true]
      · rw [if_neg hb]; simp only [hb, if_false, Bool.false_eq_true]
def sh4 (n : Nat → Int32) (x Z : Nat) : Nat → Int32 := fun j => if x < j ∧ j ≤ Z then n (j - 4) else n j
theorem sh4_0 (f : Nat → Int32) (Z : Nat) : sh4 f Z Z = f := funext fun k => if_neg (by omega)
theorem sh4_s {f : Nat → Int32} {y Z : Nat} (h : y + 1 ≤ Z) (h4 : 4 ≤ y + 1) : upd (sh4 f (y + 1) Z) (y + 1) (sh4 f (y + 1) Z (y + 1 - 4)) = sh4 f y Z := funext fun k => by
  unfold sh4
  by_cases e : k = y + 1
  · rw [e, upd_same, if_neg (by omega), if_pos (by omega)]
  · rw [upd_ne e]
    by_cases w : y + 1 < k ∧ k ≤ Z
    · rw [if_pos w, if_pos (by omega)]
    · rw [if_neg w, if_neg (by omega)]
theorem l151 (k : Nat) : (151 : Int32) + nI k * (4 : Int32) = nI (151 + k * 4) := by
  show nI 151 + nI k * nI 4 = _
  rw [pk_mul, nI_add]
theorem nI_3 (a : Nat) : nI a + 3 = nI (a + 3) := nI_add a 3
/-- the row with the new deed -/
def nwD (n : Nat → Int32) (r D : Nat) (x g e d : Int32) : Nat → Int32 := upd (upd (upd (upd (upd (sh4 n (151 + (r + 1) * 4 - 1) (151 + (D + 1) * 4 - 1)) (151 + r * 4) x) (151 + r * 4 + 1) g) (151 + r * 4 + 2) e) (151 + r * 4 + 3) d) 2 (nI (D + 1))
theorem nwD_off {n : Nat → Int32} {r D : Nat} (hr : r ≤ D) (hD : D < 60) {x g e d : Int32} : Off rD n (nwD n r D x g e d) := by
  unfold nwD
  refine ((((Off.upd (fun j hj => ?_) (Or.inr (by omega)) _).upd (Or.inr (by omega)) _).upd (Or.inr (by omega)) _).upd (Or.inr (by omega)) _).upd (Or.inl rfl) _
  exact if_neg (fun w => hj (Or.inr (by omega)))
theorem nwD_row {n : Nat → Int32} {r D : Nat} (hr : r ≤ D) {x g e d : Int32} : (∀ k, k < r → rdp (nwD n r D x g e d) k = rdp n k ∧ rdg (nwD n r D x g e d) k = rdg n k ∧ rde (nwD n r D x g e d) k = rde n k ∧ rdd (nwD n r D x g e d) k = rdd n k) ∧ (rdp (nwD n r D x g e d) r = x ∧ rdg (nwD n r D x g e d) r = g ∧ rde (nwD n r D x g e d) r = e ∧ rdd (nwD n r D x g e d) r = d) ∧ ∀ k, r < k → k ≤ D → rdp (nwD n r D x g e d) k = rdp n (k - 1) ∧ rdg (nwD n r D x g e d) k = rdg n (k - 1) ∧ rde (nwD n r D x g e d) k = rde n (k - 1) ∧ rdd (nwD n r D x g e d) k = rdd n (k - 1) := by
  have lo : ∀ k w, k < r → w < 4 → nwD n r D x g e d (151 + k * 4 + w) = n (151 + k * 4 + w) := fun k w hk hw => by
    unfold nwD
    simp (disch := omega) only [upd_ne]
    exact if_neg (by omega)
  have hi : ∀ k w, r < k → k ≤ D → w < 4 → nwD n r D x g e d (151 + k * 4 + w) = n (151 + (k - 1) * 4 + w) := fun k w hk hkD hw => by
    unfold nwD
    simp (disch := omega) only [upd_ne]
    refine (if_pos (by omega)).trans (congrArg n (by omega))
  refine ⟨fun k hk => ⟨lo k 0 hk (by omega), lo k 1 hk (by omega), lo k 2 hk (by omega), lo k 3 hk (by omega)⟩, ?_, fun k hk hkD => ⟨hi k 0 hk hkD (by omega), hi k 1 hk hkD (by omega), hi k 2 hk hkD (by omega), hi k 3 hk hkD (by omega)⟩⟩
  unfold nwD rdp rdg rde rdd
  simp (disch := omega) only [Nat.add_zero, upd_ne, upd_same]
  exact ⟨trivial, trivial, trivial, trivial⟩
set_option maxHeartbeats 8000000 in
theorem X8_doDeed {P D dn p a b t : Nat} {ar fi la nb pa ro n : Nat → Int32} (hV : VP P ar fi la nb pa ro n) (hI : IP P dn ar fi la nb pa ro) (h : ID2 D P dn n) (hp : p < P) (hD : D < 60) (ha : a < 10) (hb : b < 10) (ht : t ≤ dn) : m_X8_doDeed (nI p) (nI a) (nI b) (nI t) n = some (if hold (ro p) (rch n (nI p) (plc n (nI p) (nI t) D)) = nI a then 1 else 0, nwD n (plc n (nI p) (nI t) D) D (nI p) (nI a) (nI b) (nI t)) ∧ ID2 (D + 1) P dn (nwD n (plc n (nI p) (nI t) D) D (nI p) (nI a) (nI b) (nI t)) := by
  have hr := plc_le n (nI p) (nI t) D
  have hpl : (match fnd (bPl n (nI p) (nI t)) D with | some k => nI k | none => nI D) = nI (plc n (nI p) (nI t) D) := by
    unfold plc
    cases fnd (bPl n (nI p) (nI t)) D <;> rfl
  generalize plc n (nI p) (nI t) D = r at hr hpl
  obtain ⟨w1, w2, w3⟩ := nwD_row (n := n) hr (x := nI p) (g := nI a) (e := nI b) (d := nI t)
  have hoff := nwD_off (n := n) hr hD (x := nI p) (g := nI a) (e := nI b) (d := nI t)
  have h2 : nwD n r D (nI p) (nI a) (nI b) (nI t) 2 = nI (D + 1) := upd_same _ _ _
  have hid : ID2 (D + 1) P dn (nwD n r D (nI p) (nI a) (nI b) (nI t)) := by
    refine ⟨h2, by omega, fun k hk => ?_⟩
    by_cases q : k < r
    · obtain ⟨z0, z1, z2, z3⟩ := w1 k q
      rw [z0, z1, z2, z3]; exact h.2.2 k (by omega)
    · by_cases q2 : k = r
      · rw [q2, w2.1, w2.2.1, w2.2.2.1, w2.2.2.2]
        exact ⟨⟨p, hp, rfl⟩, ⟨a, ha, rfl⟩, ⟨b, hb, rfl⟩, t, ht, rfl⟩
      · obtain ⟨z0, z1, z2, z3⟩ := w3 k (by omega) (by omega)
        rw [z0, z1, z2, z3]; exact h.2.2 (k - 1) (by omega)
  refine ⟨?_, hid⟩
  have hV2 : VP P ar fi la nb pa ro (nwD n r D (nI p) (nI a) (nI b) (nI t)) := hV.keep hI.le (fun j hj => hoff j (fun q => by rcases hj with hj | hj <;> rcases q with q | q <;> omega))
  have hgood := X8_isGood hV2 hI.le hp hid hI.dl (show r < D + 1 by omega) w2.1
  have hch : rch (nwD n r D (nI p) (nI a) (nI b) (nI t)) (nI p) r = rch n (nI p) r := chn_c w1
  rw [hch, w2.2.1] at hgood
  unfold m_X8_doDeed
  rw [g2, g2, c2, h.1]
  refine for_dn (c := D) (fun (s : Int32) x => (s, x)) (fun k s => if bPl n (nI p) (nI t) k = true then nI k else s) (nI D) (by omega) (fun rec i x hi => ?_) (fun rec => ?_)
  · by_cases q1 : rdp n i = nI p
    · by_cases q2 : nI t < rdd n i
      · have hb : bPl n (nI p) (nI t) i = true := by unfold bPl; rw [decide_eq_true q1, decide_eq_true q2]; rfl
        have q3 : (rdd n i ≤ nI t) = False := eq_false (Int32.not_le.mpr q2)
        simp (disch := omega) only [m_X8_doDeed_L18, neg_if, dAt0, dAt3, q1, q3, hb, nI_clamp, nI_1, bsm, nmd, gd_ix, gd_t, gd_bi, gd_b0, gd_b1, ite_b, ite_p, if_true, if_false, ite_true, ite_false, i10, i00, or0, add0, g0, g1, g2, g3, g4, g5, g6, c0, c1, c2, c3, c4, c5, c6, Bool.false_eq_true, decide_eq_true_eq]
      · have hb : bPl n (nI p) (nI t) i = false := by unfold bPl; rw [decide_eq_false q2, Bool.and_false]
        have q3 : (rdd n i ≤ nI t) = True := eq_true (Int32.not_lt.mp q2)
        simp (disch := omega) only [m_X8_doDeed_L18, neg_if, dAt0, dAt3, q1, q3, hb, nI_clamp, nI_1, bsm, nmd, gd_ix, gd_t, gd_bi, gd_b0, gd_b1, ite_b, ite_p, if_true, if_false, ite_true, ite_false, i10, i00, or0, add0, g0, g1, g2, g3, g4, g5, g6, c0, c1, c2, c3, c4, c5, c6, Bool.false_eq_true, decide_eq_true_eq]
    · have hb : bPl n (nI p) (nI t) i = false := by unfold bPl; rw [decide_eq_false q1, Bool.false_and]
      simp (disch := omega) only [m_X8_doDeed_L18, neg_if, dAt0, q1, hb, nI_clamp, nI_1, bsm, nmd, gd_ix, gd_t, gd_bi, gd_b0, gd_b1, ite_b, ite_p, if_true, if_false, ite_true, ite_false, i10, i00, or0, add0, g0, g1, g2, g3, g4, g5, g6, c0, c1, c2, c3, c4, c5, c6, Bool.false_eq_true, decide_eq_true_eq]
  · rw [foldD_pl, hpl]
    have e5 : (151 : Int32) + (nI D + 1) * 4 - 1 = nI (151 + (D + 1) * 4 - 1) := by
      rw [nI_1, l151]
      obtain ⟨z, hz⟩ : ∃ z, 151 + (D + 1) * 4 = z + 1 := ⟨151 + (D + 1) * 4 - 1, by omega⟩
      rw [hz, nI_pred]; rfl
    simp (disch := omega) only [m_X8_doDeed_L18, m1_if, m_X8_doDeed_J61, g2, c2, h.1, nmd, e5]
    have e0 : (nI (151 + (D + 1) * 4 - 1), n) = (nI (151 + (D + 1) * 4 - 1 - 0), sh4 n (151 + (D + 1) * 4 - 1 - 0) (151 + (D + 1) * 4 - 1)) := by rw [Nat.sub_zero, sh4_0]
    rw [e0]
    refine loop_run (c := 4 * (D - r)) (fun i => (nI (151 + (D + 1) * 4 - 1 - i), sh4 n (151 + (D + 1) * 4 - 1 - i) (151 + (D + 1) * 4 - 1))) (by omega) (fun rec i hi => ?_) (fun rec => ?_)
    · obtain ⟨y, hy⟩ : ∃ y, 151 + (D + 1) * 4 - 1 - i = y + 1 := ⟨151 + (D + 1) * 4 - 1 - i - 1, by omega⟩
      have hy2 : 151 + (D + 1) * 4 - 1 - (i + 1) = y := by omega
      have hs := sh4_s (f := n) (y := y) (Z := 151 + (D + 1) * 4 - 1) (by omega) (by omega)
      have hlt : (nI (y + 1) < nI (151 + (r + 1) * 4)) = False := eq_false (nI_nlt (by omega) (by omega))
      have hm4 : nI (y + 1) - 4 = nI (y + 1 - 4) := pk_sub (b := 4) (by omega)
      rw [hy, hy2]
      simp (disch := omega) only [m_X8_doDeed_L79, l151, hlt, hm4, pk_m1, hs, nI_clamp, nI_1, bsm, nmd, gd_ix, gd_t, gd_bi, gd_b0, gd_b1, ite_b, ite_p, if_true, if_false, ite_true, ite_false, i10, i00, or0, add0, g0, g1, g2, g3, g4, g5, g6, c0, c1, c2, c3, c4, c5, c6, Bool.false_eq_true, decide_eq_true_eq]
    · have hX : 151 + (D + 1) * 4 - 1 - 4 * (D - r) = 151 + (r + 1) * 4 - 1 := by omega
      have hlt : (nI (151 + (r + 1) * 4 - 1) < nI (151 + (r + 1) * 4)) = True := eq_true (nI_lt (by omega) (by omega))
      have h22 : sh4 n (151 + (r + 1) * 4 - 1) (151 + (D + 1) * 4 - 1) 2 = nI D := (if_neg (by omega)).trans h.1
      rw [hX]
      simp (disch := omega) only [m_X8_doDeed_L79, m_X8_doDeed_J116, l151, nI_2, nI_3, hlt, upd_ne, h22, nI_clamp, nI_1, bsm, nmd, gd_ix, gd_t, gd_bi, gd_b0, gd_b1, ite_b, ite_p, if_true, if_false, ite_true, ite_false, i10, i00, or0, add0, g0, g1, g2, g3, g4, g5, g6, c0, c1, c2, c3, c4, c5, c6, Bool.false_eq_true, decide_eq_true_eq]
      have hfold : upd (upd (upd (upd (upd (sh4 n (151 + (r + 1) * 4 - 1) (151 + (D + 1) * 4 - 1)) (151 + r * 4) (nI p)) (151 + r * 4 + 1) (nI a)) (151 + r * 4 + 2) (nI b)) (151 + r * 4 + 3) (nI t)) 2 (nI (D + 1)) = nwD n r D (nI p) (nI a) (nI b) (nI t) := rfl
      rw [hfold, hgood, bsm, gd_bi]
theorem RD.rec {P D dn p a b t : Nat} {dp dg de dd n : Nat → Int32} (h : RD D P dn dp dg de dd n) (hp : p < P) (hD : D < 60) (ha : a < 10) (hb : b < 10) (ht : t ≤ dn) (hid : ID2 (D + 1) P dn (nwD n (plc n (nI p) (nI t) D) D (nI p) (nI a) (nI b) (nI t))) : RD (D + 1) P dn (ins dp (cN (bDay dd (nI t)) D) D (nI p)) (ins dg (cN (bDay dd (nI t)) D) D (nI a)) (ins de (cN (bDay dd (nI t)) D) D (nI b)) (ins dd (cN (bDay dd (nI t)) D) D (nI t)) (nwD n (plc n (nI p) (nI t) D) D (nI p) (nI a) (nI b) (nI t)) ∧ chn dp dg de dd (nI p) (cN (bDay dd (nI t)) D) = rch n (nI p) (plc n (nI p) (nI t) D) := by
  have hc := cN_down (h.2.1.down (nI t))
  have hr := cN_le (bDay dd (nI t)) D
  have hr' := plc_le n (nI p) (nI t) D
  generalize hrr : cN (bDay dd (nI t)) D = r at hc hr
  have hlo : ∀ k, k < r → ¬ nI t < dd k := fun k hk => bDay_t.mp ((hc k (by omega)).mpr hk)
  have hhi : ∀ k, r ≤ k → k < D → nI t < dd k := fun k hk hkD => Decidable.not_not.mp fun q => by
    have := (hc k hkD).mp (bDay_t.mpr q)
    omega
  have i1 : ∀ k, k < r → ins dp r D (nI p) k = dp k ∧ ins dg r D (nI a) k = dg k ∧ ins de r D (nI b) k = de k ∧ ins dd r D (nI t) k = dd k := fun k hk => ⟨ins_lt hk, ins_lt hk, ins_lt hk, ins_lt hk⟩
  have i3 : ∀ k, r < k → k ≤ D → ins dp r D (nI p) k = dp (k - 1) ∧ ins dg r D (nI a) k = dg (k - 1) ∧ ins de r D (nI b) k = de (k - 1) ∧ ins dd r D (nI t) k = dd (k - 1) := fun k hk hkD => ⟨ins_gt hk hkD, ins_gt hk hkD, ins_gt hk hkD, ins_gt hk hkD⟩
  have cC := fun x => chn_new (x := x) hr i1 ⟨ins_eq, ins_eq, ins_eq, ins_eq⟩ i3
  obtain ⟨w1, w2, w3⟩ := nwD_row (n := n) hr' (x := nI p) (g := nI a) (e := nI b) (d := nI t)
  have cR := fun x => chn_new (x := x) hr' w1 w2 w3
  have same : chn dp dg de dd (nI p) r = rch n (nI p) (plc n (nI p) (nI t) D) ∧ tl dp dg de dd (nI p) r D = tl (rdp n) (rdg n) (rde n) (rdd n) (nI p) (plc n (nI p) (nI t) D) D := by
    refine split_one (d := nI t) ?_ (fun q hq => ?_) (fun q hq => ?_) plc_A plc_B
    · rw [← chn_cut hr, ← chn_cut hr']; exact h.2.2.2 (nI p)
    · obtain ⟨k, hk, _, e⟩ := chn_mem hq
      rw [e]; exact hlo k hk
    · obtain ⟨k, hk, hkD, e⟩ := tl_mem hq
      rw [e]; exact hhi k hk hkD
  refine ⟨⟨⟨by omega, fun k hk => ?_⟩, fun i j hij hj => ?_, hid, fun x => ?_⟩, same.1⟩
  · by_cases q : k < r
    · obtain ⟨z0, z1, z2, z3⟩ := i1 k q
      rw [z0, z1, z2, z3]; exact h.1.2 k (by omega)
    · by_cases q2 : k = r
      · rw [q2, ins_eq, ins_eq, ins_eq, ins_eq]
        exact ⟨⟨p, hp, rfl⟩, ⟨a, ha, rfl⟩, ⟨b, hb, rfl⟩, t, ht, rfl⟩
      · obtain ⟨z0, z1, z2, z3⟩ := i3 k (by omega) (by omega)
        rw [z0, z1, z2, z3]; exact h.1.2 (k - 1) (by omega)
  · by_cases q : i < r
    · rw [ins_lt q]
      by_cases q2 : j < r
      · rw [ins_lt q2]; exact h.2.1 i j hij (by omega)
      · by_cases q3 : j = r
        · rw [q3, ins_eq]; exact Int32.not_lt.mp (hlo i q)
        · rw [ins_gt (by omega) (by omega)]; exact h.2.1 i (j - 1) (by omega) (by omega)
    · by_cases q2 : i = r
      · rw [q2, ins_eq, ins_gt (by omega) (by omega)]
        exact Int32.le_of_lt (hhi (j - 1) (by omega) (by omega))
      · rw [ins_gt (by omega) (by omega), ins_gt (by omega) (by omega)]
        exact h.2.1 (i - 1) (j - 1) (by omega) (by omega)
  · show chn _ _ _ _ x (D + 1) = chn _ _ _ _ x (D + 1)
    rw [cC x, cR x]
    by_cases q : nI p = x
    · rw [← q, same.1, same.2]
    · rw [if_neg q, List.nil_append, List.nil_append, ← chn_cut hr, ← chn_cut hr']
      exact h.2.2.2 x

