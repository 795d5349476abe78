/-! Loops over the parcels, on both sides. -/
/-- the steps of sums over a table -/
def sSum (b : Nat → Bool) (v : Nat → Int32) : Nat → Int32 → Int32 := fun k s => if b k = true then s + v k else s
def sOr (b : Nat → Bool) (v : Nat → Int32) : Nat → Int32 → Int32 := fun k s => if b k = true then s ||| v k else s
def sCnt (b : Nat → Bool) : Nat → Int32 → Int32 := fun k s => if b k = true then s + 1 else s
theorem sSum_t {b : Nat → Bool} {v : Nat → Int32} {k : Nat} {s : Int32} (h : b k = true) : sSum b v k s = s + v k := if_pos h
theorem sSum_f {b : Nat → Bool} {v : Nat → Int32} {k : Nat} {s : Int32} (h : b k = false) : sSum b v k s = s := if_neg (by rw [h]; decide)
theorem sOr_t {b : Nat → Bool} {v : Nat → Int32} {k : Nat} {s : Int32} (h : b k = true) : sOr b v k s = s ||| v k := if_pos h
theorem sOr_f {b : Nat → Bool} {v : Nat → Int32} {k : Nat} {s : Int32} (h : b k = false) : sOr b v k s = s := if_neg (by rw [h]; decide)
theorem sCnt_t {b : Nat → Bool} {k : Nat} {s : Int32} (h : b k = true) : sCnt b k s = s + 1 := if_pos h
theorem sCnt_f {b : Nat → Bool} {k : Nat} {s : Int32} (h : b k = false) : sCnt b k s = s := if_neg (by rw [h]; decide)
theorem sSum_c {b b' : Nat → Bool} {v v' : Nat → Int32} {a : Int32} {n : Nat} (h : ∀ k, k < n → b k = b' k ∧ (b k = true → v k = v' k)) : foldN (sSum b v) a n = foldN (sSum b' v') a n := foldN_congr fun i hi => by
  obtain ⟨h1, h2⟩ := h i hi
  cases hb : b i with
  | false => rw [sSum_f hb, sSum_f (h1 ▸ hb)]
  | true => rw [sSum_t hb, sSum_t (h1 ▸ hb), h2 hb]
theorem sOr_c {b b' : Nat → Bool} {v v' : Nat → Int32} {a : Int32} {n : Nat} (h : ∀ k, k < n → b k = b' k ∧ (b k = true → v k = v' k)) : foldN (sOr b v) a n = foldN (sOr b' v') a n := foldN_congr fun i hi => by
  obtain ⟨h1, h2⟩ := h i hi
  cases hb : b i with
  | false => rw [sOr_f hb, sOr_f (h1 ▸ hb)]
  | true => rw [sOr_t hb, sOr_t (h1 ▸ hb), h2 hb]
theorem sCnt_c {b b' : Nat → Bool} {a : Int32} {n : Nat} (h : ∀ k, k < n → b k = b' k) : foldN (sCnt b) a n = foldN (sCnt b') a n := foldN_congr fun i hi => by
  have h1 := h i hi
  cases hb : b i with
  | false => rw [sCnt_f hb, sCnt_f (h1 ▸ hb)]
  | true => rw [sCnt_t hb, sCnt_t (h1 ▸ hb)]
/-- the bits of an or over a table -/
theorem sOr_b {b : Nat → Bool} {v : Nat → Int32} {a : Int32} {n : Nat} {i : Nat} : bt (foldN (sOr b v) a n) i = true ↔ bt a i = true ∨ ∃ k, k < n ∧ b k = true ∧ bt (v k) i = true := by
  induction n with
  | zero => exact ⟨Or.inl, fun h => h.elim id (fun ⟨k, hk, _⟩ => by omega)⟩
  | succ n ih =>
    rw [foldN_s]
    cases hb : b n with
    | false =>
      rw [sOr_f hb, ih]
      refine ⟨fun h => h.imp id (fun ⟨k, hk, q⟩ => ⟨k, by omega, q⟩), fun h => h.imp id (fun ⟨k, hk, q1, q2⟩ => ⟨k, ?_, q1, q2⟩)⟩
      have : k ≠ n := fun e => by rw [e, hb] at q1; cases q1
      omega
    | true =>
      rw [sOr_t hb, b_or, Bool.or_eq_true, ih]
      constructor
      · rintro ((h | ⟨k, hk, q⟩) | h)
        · exact Or.inl h
        · exact Or.inr ⟨k, by omega, q⟩
        · exact Or.inr ⟨n, by omega, hb, h⟩
      · rintro (h | ⟨k, hk, q1, q2⟩)
        · exact Or.inl (Or.inl h)
        · by_cases e : k = n
          · exact Or.inr (e ▸ q2)
          · exact Or.inl (Or.inr ⟨k, by omega, q1, q2⟩)
def bIn (m : Int32) : Nat → Bool := fun k => bt m k
def bEq (f : Nat → Int32) (x : Int32) : Nat → Bool := fun k => decide (f k = x)
theorem bEq_t {f : Nat → Int32} {x : Int32} {k : Nat} : bEq f x k = true ↔ f k = x := decide_eq_true_iff
theorem bEq_f {f : Nat → Int32} {x : Int32} {k : Nat} : bEq f x k = false ↔ ¬ f k = x := decide_eq_false_iff_not
theorem m1_neg : (-1 : Int32) < 0 := by decide
theorem m1_nn : ¬ (0 : Int32) ≤ -1 := by decide
theorem m1_ne {n : Nat} (h : n < 2 ^ 31) : ¬ nI n = -1 := fun q => nI_pos h (by rw [q]; decide)
/-- a last day is none or a number -/
def DayN (x : Int32) : Prop := x = -1 ∨ ∃ d, d ≤ 9999 ∧ x = nI d
theorem DayN.ge {x : Int32} (h : DayN x) : 0 ≤ x ↔ ¬ x = -1 := by
  rcases h with rfl | ⟨d, hd, rfl⟩
  · simp [m1_nn]
  · exact ⟨fun _ => m1_ne (by omega), fun _ => nI_pos' (by omega)⟩
theorem DayN.lt {x : Int32} (h : DayN x) : x < 0 ↔ x = -1 := by
  rcases h with rfl | ⟨d, hd, rfl⟩
  · simp [m1_neg]
  · exact ⟨fun q => absurd q (nI_pos (by omega)), fun q => absurd q (m1_ne (by omega))⟩
theorem IP.le {P dn : Nat} {ar fi la nb pa ro : Nat → Int32} (h : IP P dn ar fi la nb pa ro) : P ≤ 24 := h.1
theorem IP.dl {P dn : Nat} {ar fi la nb pa ro : Nat → Int32} (h : IP P dn ar fi la nb pa ro) : dn ≤ 9999 := h.2.1
theorem IP.day {P dn : Nat} {ar fi la nb pa ro : Nat → Int32} (h : IP P dn ar fi la nb pa ro) {p : Nat} (hp : p < P) : DayN (la p) := (h.2.2 p hp).2.2.1.imp id fun ⟨d, hd, e⟩ => ⟨d, by have := h.2.1; omega, e⟩
theorem IP.area {P dn : Nat} {ar fi la nb pa ro : Nat → Int32} (h : IP P dn ar fi la nb pa ro) {p : Nat} (hp : p < P) : ∃ a, 10 ≤ a ∧ a ≤ 9999 ∧ ar p = nI a := (h.2.2 p hp).1
theorem IP.first {P dn : Nat} {ar fi la nb pa ro : Nat → Int32} (h : IP P dn ar fi la nb pa ro) {p : Nat} (hp : p < P) : ∃ f, f ≤ dn ∧ fi p = nI f := (h.2.2 p hp).2.1
theorem IP.nbr {P dn : Nat} {ar fi la nb pa ro : Nat → Int32} (h : IP P dn ar fi la nb pa ro) {p : Nat} (hp : p < P) : ∀ i, P ≤ i → bt (nb p) i = false := (h.2.2 p hp).2.2.2.1
theorem IP.par {P dn : Nat} {ar fi la nb pa ro : Nat → Int32} (h : IP P dn ar fi la nb pa ro) {p : Nat} (hp : p < P) : ∀ i, p ≤ i → bt (pa p) i = false := (h.2.2 p hp).2.2.2.2.1
theorem IP.root {P dn : Nat} {ar fi la nb pa ro : Nat → Int32} (h : IP P dn ar fi la nb pa ro) {p : Nat} (hp : p < P) : ∃ r, r < 10 ∧ ro p = nI r := (h.2.2 p hp).2.2.2.2.2.1
theorem IP.sym {P dn : Nat} {ar fi la nb pa ro : Nat → Int32} (h : IP P dn ar fi la nb pa ro) {p q : Nat} (hp : p < P) (hq : q < P) : bt (nb p) q = bt (nb q) p := (h.2.2 p hp).2.2.2.2.2.2.2 q hq
theorem IP.self {P dn : Nat} {ar fi la nb pa ro : Nat → Int32} (h : IP P dn ar fi la nb pa ro) {p : Nat} (hp : p < P) : bt (nb p) p = false := (h.2.2 p hp).2.2.2.2.2.2.1

theorem isFrom_e : m_X7_isFrom = m_X8_isBetween := rfl
theorem X4_pres_y {P p : Nat} {la : Nat → Int32} (hp : p < P) (hP : P ≤ 24) : m_X4_isPresent (nI p) (nI P) la = some (if la p = -1 then 1 else 0) := by
  unfold m_X4_isPresent
  rw [X4_has_y hp (by omega), bsm, if_neg (by decide), gd_ix (by omega) (by omega), nI_clamp (by omega)]
  by_cases h : la p = -1
  · rw [if_pos h, if_pos h]
  · rw [if_neg h, if_neg h]
theorem X4_pres_n {P : Nat} {la : Nat → Int32} {x : Int32} (h : ¬ ∃ p, p < P ∧ x = nI p) (hP : P ≤ 24) : m_X4_isPresent x (nI P) la = some 0 := by
  unfold m_X4_isPresent
  rw [X4_has_n h (by omega), bsm, if_pos rfl]
theorem X8_isP_y {P p : Nat} {n : Nat → Int32} (h1 : n 1 = nI P) (hp : p < P) (hP : P ≤ 24) : m_X8_isParcel (nI p) n = some 1 := by
  unfold m_X8_isParcel
  rw [g1, c1, h1, isB_cy hp (by omega), bsm, gd_b1]
theorem X8_isP_n {P : Nat} {x : Int32} {n : Nat → Int32} (h1 : n 1 = nI P) (h : ¬ ∃ p, p < P ∧ x = nI p) (hP : P ≤ 24) : m_X8_isParcel x n = some 0 := by
  unfold m_X8_isParcel
  rw [g1, c1, h1, isB_cn h (by omega), bsm, gd_b0]
theorem X8_pres_y {P p : Nat} {ar fi la nb pa ro n : Nat → Int32} (h : VP P ar fi la nb pa ro n) (hp : p < P) (hP : P ≤ 24) (hd : DayN (la p)) : m_X8_isPresent (nI p) n = some (if la p = -1 then 1 else 0) := by
  unfold m_X8_isPresent
  rw [X8_isP_y h.1 hp hP, bsm, if_neg (by decide), h.la hP hp, bsm]
  by_cases q : la p = -1
  · rw [if_pos q, if_neg (fun q2 => hd.ge.mp q2 q)]
  · rw [if_neg q, if_pos (hd.ge.mpr q)]
theorem X8_pres_n {P : Nat} {x : Int32} {n : Nat → Int32} (h1 : n 1 = nI P) (h : ¬ ∃ p, p < P ∧ x = nI p) (hP : P ≤ 24) : m_X8_isPresent x n = some 0 := by
  unfold m_X8_isPresent
  rw [X8_isP_n h1 h hP, bsm, if_pos rfl]

set_option maxHeartbeats 1000000 in
theorem X4_areaOf {P : Nat} (hP : P ≤ 24) (ar : Nat → Int32) (m : Int32) : m_X4_areaOf m (nI P) ar = some (foldN (sSum (bIn m) ar) 0 P) := by
  unfold m_X4_areaOf
  refine for_up (c := P) (fun s x => (s, x)) (sSum (bIn m) ar) 0 (by omega) (fun rec i hi => ?_) (fun rec => ?_)
  · generalize foldN (sSum (bIn m) ar) 0 i = x
    cases hb : bt m i
    all_goals simp (disch := omega) only [m_X4_areaOf_L4, lp_go, sSum, sOr, sCnt, bIn, bEq, nI_clamp, nI_1, bsm, nmd, gd_ix, gd_t, gd_bi, gd_b0, gd_b1, ite_b, ite_p, if_true, if_false, ite_true, ite_false, i10, i00, or0, add0, g0, g1, g2, g3, g4, g5, g6, c0, c1, c2, c3, c4, c5, c6, Bool.false_eq_true, decide_eq_true_eq, isIn_b, hb]
  · simp (disch := omega) only [m_X4_areaOf_L4, lp_end, Nat.le_refl, nI_clamp, nI_1, bsm, nmd, gd_ix, gd_t, gd_bi, gd_b0, gd_b1, ite_b, ite_p, if_true, if_false, ite_true, ite_false, i10, i00, or0, add0, g0, g1, g2, g3, g4, g5, g6, c0, c1, c2, c3, c4, c5, c6, Bool.false_eq_true, decide_eq_true_eq]

set_option maxHeartbeats 1000000 in
theorem X4_presentOnes {P : Nat} (hP : P ≤ 24) (la : Nat → Int32) : m_X4_presentOnes (nI P) la = some (foldN (sOr (bEq la (-1)) pw) 0 P) := by
  unfold m_X4_presentOnes
  refine for_up (c := P) (fun s x => (s, x)) (sOr (bEq la (-1)) pw) 0 (by omega) (fun rec i hi => ?_) (fun rec => ?_)
  · generalize foldN (sOr (bEq la (-1)) pw) 0 i = x
    by_cases hb : la i = -1
    all_goals simp (disch := omega) only [m_X4_presentOnes_L4, lp_go, sSum, sOr, sCnt, bIn, bEq, nI_clamp, nI_1, bsm, nmd, gd_ix, gd_t, gd_bi, gd_b0, gd_b1, ite_b, ite_p, if_true, if_false, ite_true, ite_false, i10, i00, or0, add0, g0, g1, g2, g3, g4, g5, g6, c0, c1, c2, c3, c4, c5, c6, Bool.false_eq_true, decide_eq_true_eq, hb]
  · simp (disch := omega) only [m_X4_presentOnes_L4, lp_end, Nat.le_refl, nI_clamp, nI_1, bsm, nmd, gd_ix, gd_t, gd_bi, gd_b0, gd_b1, ite_b, ite_p, if_true, if_false, ite_true, ite_false, i10, i00, or0, add0, g0, g1, g2, g3, g4, g5, g6, c0, c1, c2, c3, c4, c5, c6, Bool.false_eq_true, decide_eq_true_eq]

set_option maxHeartbeats 1000000 in
theorem X4_addedOnes {P : Nat} (hP : P ≤ 24) (pa : Nat → Int32) : m_X4_addedOnes (nI P) pa = some (foldN (sOr (bEq pa 0) pw) 0 P) := by
  unfold m_X4_addedOnes
  refine for_up (c := P) (fun s x => (s, x)) (sOr (bEq pa 0) pw) 0 (by omega) (fun rec i hi => ?_) (fun rec => ?_)
  · generalize foldN (sOr (bEq pa 0) pw) 0 i = x
    by_cases hb : pa i = 0
    all_goals simp (disch := omega) only [m_X4_addedOnes_L4, lp_go, sSum, sOr, sCnt, bIn, bEq, nI_clamp, nI_1, bsm, nmd, gd_ix, gd_t, gd_bi, gd_b0, gd_b1, ite_b, ite_p, if_true, if_false, ite_true, ite_false, i10, i00, or0, add0, g0, g1, g2, g3, g4, g5, g6, c0, c1, c2, c3, c4, c5, c6, Bool.false_eq_true, decide_eq_true_eq, hb]
  · simp (disch := omega) only [m_X4_addedOnes_L4, lp_end, Nat.le_refl, nI_clamp, nI_1, bsm, nmd, gd_ix, gd_t, gd_bi, gd_b0, gd_b1, ite_b, ite_p, if_true, if_false, ite_true, ite_false, i10, i00, or0, add0, g0, g1, g2, g3, g4, g5, g6, c0, c1, c2, c3, c4, c5, c6, Bool.false_eq_true, decide_eq_true_eq]

set_option maxHeartbeats 1000000 in
theorem X4_neighboursOfAll {P : Nat} (hP : P ≤ 24) (nb : Nat → Int32) (m : Int32) : m_X4_neighboursOfAll m (nI P) nb = some (foldN (sOr (bIn m) nb) 0 P) := by
  unfold m_X4_neighboursOfAll
  refine for_up (c := P) (fun s x => (s, x)) (sOr (bIn m) nb) 0 (by omega) (fun rec i hi => ?_) (fun rec => ?_)
  · generalize foldN (sOr (bIn m) nb) 0 i = x
    cases hb : bt m i
    all_goals simp (disch := omega) only [m_X4_neighboursOfAll_L4, lp_go, sSum, sOr, sCnt, bIn, bEq, nI_clamp, nI_1, bsm, nmd, gd_ix, gd_t, gd_bi, gd_b0, gd_b1, ite_b, ite_p, if_true, if_false, ite_true, ite_false, i10, i00, or0, add0, g0, g1, g2, g3, g4, g5, g6, c0, c1, c2, c3, c4, c5, c6, Bool.false_eq_true, decide_eq_true_eq, isIn_b, hb]
  · simp (disch := omega) only [m_X4_neighboursOfAll_L4, lp_end, Nat.le_refl, nI_clamp, nI_1, bsm, nmd, gd_ix, gd_t, gd_bi, gd_b0, gd_b1, ite_b, ite_p, if_true, if_false, ite_true, ite_false, i10, i00, or0, add0, g0, g1, g2, g3, g4, g5, g6, c0, c1, c2, c3, c4, c5, c6, Bool.false_eq_true, decide_eq_true_eq]

set_option maxHeartbeats 1000000 in
theorem X8_countPresent {P : Nat} {ar fi la nb pa ro n : Nat → Int32} (h : VP P ar fi la nb pa ro n) (hP : P ≤ 24) (hd : ∀ p, p < P → DayN (la p)) : m_X8_countPresent n = some (foldN (sCnt (bEq la (-1))) 0 P) := by
  unfold m_X8_countPresent
  refine for_up (c := P) (fun s x => (s, x)) (sCnt (bEq la (-1))) 0 (by omega) (fun rec i hi => ?_) (fun rec => ?_)
  · generalize foldN (sCnt (bEq la (-1))) 0 i = x
    have hy := X8_pres_y h hi hP (hd i hi)
    by_cases hb : la i = -1
    all_goals simp (disch := omega) only [m_X8_countPresent_L4, lp_go, sSum, sOr, sCnt, bIn, bEq, nI_clamp, nI_1, bsm, nmd, gd_ix, gd_t, gd_bi, gd_b0, gd_b1, ite_b, ite_p, if_true, if_false, ite_true, ite_false, i10, i00, or0, add0, g0, g1, g2, g3, g4, g5, g6, c0, c1, c2, c3, c4, c5, c6, Bool.false_eq_true, decide_eq_true_eq, h.1, hy, hb]
  · simp (disch := omega) only [m_X8_countPresent_L4, lp_end, Nat.le_refl, nI_clamp, nI_1, bsm, nmd, gd_ix, gd_t, gd_bi, gd_b0, gd_b1, ite_b, ite_p, if_true, if_false, ite_true, ite_false, i10, i00, or0, add0, g0, g1, g2, g3, g4, g5, g6, c0, c1, c2, c3, c4, c5, c6, Bool.false_eq_true, decide_eq_true_eq, h.1]

/-- the sum of a row's bits, in the class's way -/
def bcv (x : Int32) : Int32 :=
  let x1 := x - (((x.toUInt32 >>> ((1 : Int32).toUInt32 &&& Int32.toUInt32 31)).toInt32) &&& (1431655765 : Int32))
  let x2 := (x1 &&& (858993459 : Int32)) + (((x1.toUInt32 >>> ((2 : Int32).toUInt32 &&& Int32.toUInt32 31)).toInt32) &&& (858993459 : Int32))
  let x3 := (x2 + ((x2.toUInt32 >>> ((4 : Int32).toUInt32 &&& Int32.toUInt32 31)).toInt32)) &&& (252645135 : Int32)
  let x4 := x3 + ((x3.toUInt32 >>> ((8 : Int32).toUInt32 &&& Int32.toUInt32 31)).toInt32)
  let x5 := x4 + ((x4.toUInt32 >>> ((16 : Int32).toUInt32 &&& Int32.toUInt32 31)).toInt32)
  x5 &&& (63 : Int32)
theorem J6_e (x : Int32) : m_J6_bitCount_0f7a4 x = some (bcv x) := rfl
def sV (v : Nat → Int32) : Nat → Int32 → Int32 := fun k s => s + v k

set_option maxHeartbeats 1000000 in
theorem X4_pairs {P : Nat} (hP : P ≤ 24) (nb : Nat → Int32) : m_X4_pairs (nI P) nb = some (foldN (sV (fun k => bcv (nb k))) 0 P / 2) := by
  unfold m_X4_pairs
  refine for_up (c := P) (fun s x => (s, x)) (sV (fun k => bcv (nb k))) 0 (by omega) (fun rec i hi => ?_) (fun rec => ?_)
  · generalize foldN (sV (fun k => bcv (nb k))) 0 i = x
    simp (disch := omega) only [m_X4_pairs_L4, lp_go, sSum, sOr, sCnt, bIn, bEq, nI_clamp, nI_1, bsm, nmd, gd_ix, gd_t, gd_bi, gd_b0, gd_b1, ite_b, ite_p, if_true, if_false, ite_true, ite_false, i10, i00, or0, add0, g0, g1, g2, g3, g4, g5, g6, c0, c1, c2, c3, c4, c5, c6, Bool.false_eq_true, decide_eq_true_eq, J6_e, sV]
  · simp (disch := omega) only [m_X4_pairs_L4, lp_end, Nat.le_refl, nI_clamp, nI_1, bsm, nmd, gd_ix, gd_t, gd_bi, gd_b0, gd_b1, ite_b, ite_p, if_true, if_false, ite_true, ite_false, i10, i00, or0, add0, g0, g1, g2, g3, g4, g5, g6, c0, c1, c2, c3, c4, c5, c6, Bool.false_eq_true, decide_eq_true_eq]

def foldD {α : Type} (f : Nat → α → α) : α → Nat → α
  | a, 0 => a
  | a, n + 1 => foldD f (f n a) n
theorem nI_p1 (n : Nat) : nI n + (-1) = nI n - 1 := by
  cases n with
  | zero => decide
  | succ n => rw [pk_m1, nI_pred]
theorem for_dn {α V R : Type} {F : (V → Option R) → V → Option R} {c : Nat} (mk : α → Int32 → V) (f : Nat → α → α) (a : α) {out : Option R} (hc : c < 1000)
    (hs : ∀ (rec : V → Option R) (i : Nat) (x : α), i < c → F rec (mk x (nI i)) = rec (mk (f i x) (nI i + (-1)))) (ho : ∀ rec : V → Option R, F rec (mk (foldD f a c) (-1)) = out) : fuel F FU (mk a (nI c - 1)) = out := by
  have key : ∀ n, n ≤ c → ∀ x, foldD f x n = foldD f a c → ∀ k, n < k → fuel F k (mk x (nI n - 1)) = out := by
    intro n
    induction n with
    | zero =>
      intro _ x hx k hk
      obtain ⟨k, rfl⟩ : ∃ k', k = k' + 1 := ⟨k - 1, by omega⟩
      have e : x = foldD f a c := hx
      have e2 : nI 0 - 1 = -1 := by decide
      rw [e, e2]
      exact ho _
    | succ n ih =>
      intro hn x hx k hk
      obtain ⟨k, rfl⟩ : ∃ k', k = k' + 1 := ⟨k - 1, by omega⟩
      rw [nI_pred]
      show F (fuel F k) _ = out
      rw [hs _ n x (by omega), nI_p1]
      exact ih (by omega) (f n x) hx k (by omega)
  exact key c (Nat.le_refl c) a rfl FU hc
def sAnc (pa : Nat → Int32) : Nat → Int32 → Int32 := fun k s => if bt s k = true then s ||| pa k else s
theorem neg_if {α : Type} {n : Nat} {A B : α} {d : Decidable (nI n < 0)} (h : n < 2 ^ 31) : @ite α (nI n < 0) d A B = B := if_neg (nI_pos h)
theorem m1_if {α : Type} {A B : α} {d : Decidable ((-1 : Int32) < 0)} : @ite α ((-1 : Int32) < 0) d A B = A := if_pos m1_neg
set_option maxHeartbeats 1000000 in
theorem X4_ancestorsOf {P p : Nat} (hp : p < P) (hP : P ≤ 24) (pa : Nat → Int32) : m_X4_ancestorsOf (nI p) (nI P) pa = some (foldD (sAnc pa) (pa p) p) := by
  unfold m_X4_ancestorsOf
  rw [X4_has_y hp (by omega), bsm, if_neg (by decide), gd_ix (by omega) (by omega), nI_clamp (by omega)]
  refine for_dn (c := p) (fun s x => (s, x)) (sAnc pa) (pa p) (by omega) (fun rec i x hi => ?_) (fun rec => ?_)
  · cases hb : bt x i
    all_goals simp (disch := omega) only [m_X4_ancestorsOf_L21, neg_if, isIn_b, hb, sAnc, nI_clamp, nI_1, bsm, nmd, gd_ix, gd_t, gd_bi, gd_b0, gd_b1, ite_b, ite_p, if_true, if_false, ite_true, ite_false, i10, i00, or0, add0, g0, g1, g2, g3, g4, g5, g6, c0, c1, c2, c3, c4, c5, c6, Bool.false_eq_true, decide_eq_true_eq]
  · simp only [m_X4_ancestorsOf_L21, m1_if]
set_option maxHeartbeats 1000000 in
theorem X8_originsOf {P p dn : Nat} {ar fi la nb pa ro n : Nat → Int32} (h : VP P ar fi la nb pa ro n) (hI : IP P dn ar fi la nb pa ro) (hp : p < P) : m_X8_originsOf (nI p) n = some (foldD (sAnc pa) (pa p) p) := by
  have hP := hI.le
  unfold m_X8_originsOf
  rw [h.pa hP hp, bsm]
  have e : nI p = nI (p + 1) - 1 := (nI_pred p).symm
  rw [e]
  have e2 : foldD (sAnc pa) (pa p) p = foldD (sAnc pa) (pa p) (p + 1) := by
    show _ = foldD (sAnc pa) (sAnc pa p (pa p)) p
    rw [show sAnc pa p (pa p) = pa p from if_neg (by rw [hI.par hp p (Nat.le_refl p)]; decide)]
  rw [e2]
  refine for_dn (c := p + 1) (fun s x => (s, x)) (sAnc pa) (pa p) (by omega) (fun rec i x hi => ?_) (fun rec => ?_)
  · have ho := h.pa hP (show i < P by omega)
    cases hb : bt x i
    all_goals simp (disch := omega) only [m_X8_originsOf_L9, neg_if, has_b, hb, ho, sAnc, nI_clamp, nI_1, bsm, nmd, gd_ix, gd_t, gd_bi, gd_b0, gd_b1, ite_b, ite_p, if_true, if_false, ite_true, ite_false, i10, i00, or0, add0, g0, g1, g2, g3, g4, g5, g6, c0, c1, c2, c3, c4, c5, c6, Bool.false_eq_true, decide_eq_true_eq]
  · simp only [m_X8_originsOf_L9, m1_if]

