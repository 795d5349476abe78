/-! Splits and merges of parcels: what holds stays; both sides do the same. -/
theorem nb_clr {x : Int32} {p i : Nat} (hp : p < 32) (hi : i < 32) : bt (x &&& (pw p ^^^ (-1))) i = (bt x i && !decide (i = p)) := by rw [b_and, b_not _ hi, b_pw hp]
theorem endN_b {nb : Nat → Int32} {p P k i : Nat} (hp : p < P) (hP : P ≤ 24) (hk : k < P) (hi : i < 32) : bt (endN nb p P k) i = (bt (nb k) i && !decide (i = p) && !decide (k = p)) := by
  unfold endN
  by_cases e : k = p
  · rw [e, upd_same, b_0, decide_eq_true rfl]; simp
  · rw [upd_ne e, decide_eq_false e]
    unfold clrN
    rw [if_pos hk, nb_clr (by omega) hi]
    simp
theorem IP.endP {P dn p : Nat} {ar fi la nb pa ro : Nat → Int32} (h : IP P dn ar fi la nb pa ro) (hp : p < P) : IP P dn ar fi (upd la p (nI dn)) (endN nb p P) pa ro := by
  have hP := h.le
  refine ⟨hP, h.dl, fun k hk => ?_⟩
  obtain ⟨a1, a2, a3, a4, a5, a6, a7, a8⟩ := h.2.2 k hk
  refine ⟨a1, a2, ?_, fun i hi => ?_, a5, a6, ?_, fun q hq => ?_⟩
  · by_cases e : k = p
    · rw [e, upd_same]; exact Or.inr ⟨dn, Nat.le_refl _, rfl⟩
    · rw [upd_ne e]; exact a3
  · by_cases h32 : i < 32
    · rw [endN_b hp hP hk h32, a4 i hi]; simp
    · exact b_big (by omega)
  · rw [endN_b hp hP hk (by omega), a7]; simp
  · rw [endN_b hp hP hk (by omega), endN_b hp hP hq (by omega), a8 q hq]
    cases bt (nb q) k <;> cases decide (q = p) <;> cases decide (k = p) <;> rfl
theorem IP.comeP {P dn a r : Nat} {ar fi la nb pa ro : Nat → Int32} {pm : Int32} (h : IP P dn ar fi la nb pa ro) (hP : P < 24) (ha : 10 ≤ a) (ha2 : a ≤ 9999) (hm : Low pm P) (hr : r < 10) : IP (P + 1) dn (upd ar P (nI a)) (upd fi P (nI dn)) (upd la P (-1)) (upd nb P 0) (upd pa P pm) (upd ro P (nI r)) := by
  refine ⟨hP, h.dl, fun k hk => ?_⟩
  by_cases e : k = P
  · subst e
    rw [upd_same, upd_same, upd_same, upd_same, upd_same, upd_same]
    refine ⟨⟨a, ha, ha2, rfl⟩, ⟨dn, Nat.le_refl _, rfl⟩, Or.inl rfl, fun i _ => b_0 i, hm, ⟨r, hr, rfl⟩, b_0 k, fun q hq => ?_⟩
    by_cases e2 : q = k
    · rw [e2, upd_same]
    · rw [upd_ne e2, b_0, h.nbr (show q < k by omega) k (Nat.le_refl k)]
  · obtain ⟨a1, a2, a3, a4, a5, a6, a7, a8⟩ := h.2.2 k (by omega)
    rw [upd_ne e, upd_ne e, upd_ne e, upd_ne e, upd_ne e, upd_ne e]
    refine ⟨a1, a2, a3, fun i hi => a4 i (by omega), a5, a6, a7, fun q hq => ?_⟩
    by_cases e2 : q = P
    · rw [e2, upd_same, b_0, a4 P (Nat.le_refl P)]
    · rw [upd_ne e2]; exact a8 q (by omega)
theorem fold_bit {s : Int32} {n j : Nat} (hn : n ≤ 32) : bt (foldN (sOr (bIn s) pw) 0 n) j = (decide (j < n) && bt s j) := by
  cases hb : bt (foldN (sOr (bIn s) pw) 0 n) j with
  | true =>
    rcases sOr_b.mp hb with h1 | ⟨k, hk, h2, h3⟩
    · rw [b_0] at h1; cases h1
    · rw [b_pw (by omega)] at h3
      have := of_decide_eq_true h3
      subst this
      rw [decide_eq_true hk, show bt s j = true from h2]; rfl
  | false =>
    cases hc : (decide (j < n) && bt s j) with
    | false => rfl
    | true =>
      rw [Bool.and_eq_true, decide_eq_true_iff] at hc
      have q : bt (foldN (sOr (bIn s) pw) 0 n) j = true := sOr_b.mpr (Or.inr ⟨j, hc.1, hc.2, by rw [b_pw (by omega)]; exact decide_eq_true rfl⟩)
      rw [q] at hb
      cases hb
theorem lnk_b {nb : Nat → Int32} {a n k j : Nat} {s : Int32} (hn : n ≤ 32) (ha : a < 32) : bt (lnk nb a s n k) j = (bt (nb k) j || (decide (k = a) && (decide (j < n) && bt s j)) || (!decide (k = a) && (decide (k < n) && bt s k && decide (j = a)))) := by
  unfold lnk
  by_cases e : k = a
  · rw [if_pos e, b_or, fold_bit hn, decide_eq_true e, e]; simp
  · rw [if_neg e, decide_eq_false e]
    by_cases w : k < n ∧ bt s k = true
    · rw [if_pos w, b_or, b_pw ha, decide_eq_true w.1, w.2]; simp
    · rw [if_neg w]
      by_cases w1 : k < n
      · have : bt s k = false := by cases hb : bt s k with | false => rfl | true => exact absurd ⟨w1, hb⟩ w
        rw [this]; simp
      · rw [decide_eq_false w1]; simp
theorem IP.lnkP {P dn a : Nat} {ar fi la nb pa ro : Nat → Int32} {s : Int32} (h : IP P dn ar fi la nb pa ro) (ha : a < P) (hs : bt s a = false) : IP P dn ar fi la (lnk nb a s P) pa ro := by
  have hP := h.le
  refine ⟨hP, h.dl, fun k hk => ?_⟩
  obtain ⟨a1, a2, a3, a4, a5, a6, a7, a8⟩ := h.2.2 k hk
  refine ⟨a1, a2, a3, fun i hi => ?_, a5, a6, ?_, fun q hq => ?_⟩
  · rw [lnk_b (by omega) (by omega), a4 i hi, decide_eq_false (show ¬ i < P by omega), decide_eq_false (show ¬ i = a by omega)]; simp
  · rw [lnk_b (by omega) (by omega), a7]
    by_cases e : k = a
    · rw [e, hs]; simp
    · rw [decide_eq_false e]; simp
  · rw [lnk_b (by omega) (by omega), lnk_b (by omega) (by omega), a8 q hq, decide_eq_true hk, decide_eq_true hq]
    by_cases e : k = a
    · by_cases e2 : q = a
      · rw [e, e2]
      · rw [decide_eq_true e, decide_eq_false e2]; simp
    · by_cases e2 : q = a
      · rw [decide_eq_false e, decide_eq_true e2]; simp
      · rw [decide_eq_false e, decide_eq_false e2]; simp
theorem lnk_lnk {nb : Nat → Int32} {a n : Nat} {s t : Int32} (hn : n ≤ 32) (ha : a < 32) : lnk (lnk nb a s n) a t n = lnk nb a (s ||| t) n := funext fun k => b_ext fun j _ => by
  rw [lnk_b hn ha, lnk_b hn ha, lnk_b hn ha, b_or, b_or]
  cases bt (nb k) j <;> cases decide (k = a) <;> cases decide (j < n) <;> cases bt s j <;> cases bt t j <;> cases decide (k < n) <;> cases bt s k <;> cases bt t k <;> cases decide (j = a) <;> rfl
theorem link_lnk {nb : Nat → Int32} {p q n : Nat} (hp : p < 32) (hq : q < n) (hn : n ≤ 32) (hne : q ≠ p) : upd (upd nb p (nb p ||| pw q)) q (nb q ||| pw p) = lnk nb p (pw q) n := funext fun k => by
  unfold lnk
  by_cases e : k = q
  · rw [e, upd_same, if_neg hne, if_pos ⟨hq, by rw [b_pw (by omega)]; exact decide_eq_true rfl⟩]
  · rw [upd_ne e]
    by_cases e2 : k = p
    · rw [e2, upd_same, if_pos rfl]
      congr 1
      refine b_ext fun i _ => ?_
      rw [fold_bit hn, b_pw (by omega)]
      by_cases w : i = q
      · rw [w, decide_eq_true rfl, decide_eq_true hq]; rfl
      · rw [decide_eq_false w]; simp
    · rw [upd_ne e2, if_neg e2, if_neg]
      rintro ⟨_, w⟩
      rw [b_pw (by omega)] at w
      exact e (of_decide_eq_true w)
theorem or_comm32 (a b : Int32) : a ||| b = b ||| a := b_ext fun i _ => by rw [b_or, b_or, Bool.or_comm]
/-! The sums of areas. -/
theorem sSum_one {b : Nat → Bool} {v : Nat → Int32} {p : Nat} : ∀ n, (∀ k, k < n → (b k = true ↔ k = p)) → foldN (sSum b v) 0 n = if p < n then v p else 0 := by
  intro n
  induction n with
  | zero => intro _; exact (if_neg (by omega)).symm
  | succ n ih =>
    intro h
    rw [foldN_s, ih fun k hk => h k (by omega)]
    by_cases e : n = p
    · subst e
      rw [sSum_t ((h n (by omega)).mpr rfl), if_neg (by omega), if_pos (by omega), Int32.zero_add]
    · have hb : b n = false := by cases hb : b n with | false => rfl | true => exact absurd ((h n (by omega)).mp hb) e
      rw [sSum_f hb]
      by_cases w : p < n
      · rw [if_pos w, if_pos (by omega)]
      · rw [if_neg w, if_neg (by omega)]
theorem sSum_two {b : Nat → Bool} {v : Nat → Int32} {p q : Nat} (hpq : p ≠ q) : ∀ n, (∀ k, k < n → (b k = true ↔ k = p ∨ k = q)) → foldN (sSum b v) 0 n = (if p < n then v p else 0) + (if q < n then v q else 0) := by
  intro n
  induction n with
  | zero => intro _; rw [if_neg (by omega), if_neg (by omega)]; rfl
  | succ n ih =>
    intro h
    rw [foldN_s, ih fun k hk => h k (by omega)]
    by_cases e : n = p
    · subst e
      rw [sSum_t ((h n (by omega)).mpr (Or.inl rfl)), if_neg (show ¬ n < n by omega), if_pos (show n < n + 1 by omega), Int32.zero_add]
      by_cases w : q < n
      · rw [if_pos w, if_pos (by omega), Int32.add_comm]
      · rw [if_neg w, if_neg (by omega), Int32.add_comm]
    · by_cases e2 : n = q
      · subst e2
        rw [sSum_t ((h n (by omega)).mpr (Or.inr rfl)), if_neg (show ¬ n < n by omega), if_pos (show n < n + 1 by omega), Int32.add_zero]
        by_cases w : p < n
        · rw [if_pos w, if_pos (by omega)]
        · rw [if_neg w, if_neg (by omega)]
      · have hb : b n = false := by cases hb : b n with | false => rfl | true => exact absurd ((h n (by omega)).mp hb) (fun w => w.elim e e2)
        rw [sSum_f hb]
        congr 1
        · by_cases w : p < n
          · rw [if_pos w, if_pos (by omega)]
          · rw [if_neg w, if_neg (by omega)]
        · by_cases w : q < n
          · rw [if_pos w, if_pos (by omega)]
          · rw [if_neg w, if_neg (by omega)]
theorem areaOf1 {P p : Nat} (hP : P ≤ 24) (hp : p < P) (ar : Nat → Int32) : m_X4_areaOf (pw p) (nI P) ar = some (ar p) := by
  rw [X4_areaOf hP, sSum_one (p := p) P (fun k hk => by unfold bIn; rw [b_pw (by omega), decide_eq_true_iff]), if_pos hp]
theorem areaOf2 {P p q : Nat} (hP : P ≤ 24) (hp : p < P) (hq : q < P) (hne : p ≠ q) (ar : Nat → Int32) : m_X4_areaOf (pw p ||| pw q) (nI P) ar = some (ar p + ar q) := by
  rw [X4_areaOf hP, sSum_two (p := p) (q := q) hne P (fun k hk => by unfold bIn; rw [b_or, Bool.or_eq_true, b_pw (by omega), b_pw (by omega), decide_eq_true_iff, decide_eq_true_iff]), if_pos hp, if_pos hq]
/-- a world of the class, by its tables, and the row of the reference -/
def WC (P D E L K dn : Nat) (ar fi la nb pa ro dp dg de dd ek eo es ef el lc lm lp lr n : Nat → Int32) : Prop := IP P dn ar fi la nb pa ro ∧ RD D P dn dp dg de dd n ∧ IE E P dn ek eo es ef el ∧ IL L K lc lm lp lr ∧ VP P ar fi la nb pa ro n ∧ VE E ek eo es ef el n ∧ VL L K lc lm lp lr n ∧ n 0 = nI dn ∧ n 6 = foldN (sSum (bEq pa 0) ar) 0 P
theorem added_s {P : Nat} {ar pa : Nat → Int32} {a pm : Int32} (h : ¬ pm = 0) : foldN (sSum (bEq (upd pa P pm) 0) (upd ar P a)) 0 (P + 1) = foldN (sSum (bEq pa 0) ar) 0 P := by
  rw [foldN_s, sSum_f (bEq_f.mpr (by rw [upd_same]; exact h))]
  exact sSum_c fun k hk => by
    unfold bEq
    rw [upd_ne (by omega), upd_ne (by omega)]
    exact ⟨rfl, fun _ => rfl⟩
theorem offP {n m : Nat → Int32} (h : Off rP n m) : m 0 = n 0 ∧ m 6 = n 6 ∧ (∀ j, rD j → m j = n j) ∧ (∀ j, rE j → m j = n j) ∧ ∀ j, rL j → m j = n j := ⟨h 0 (fun q => by rcases q with q | q <;> omega), h 6 (fun q => by rcases q with q | q <;> omega), fun j hj => h j (fun q => by rcases hj with hj | hj <;> rcases q with q | q <;> omega), fun j hj => h j (fun q => by rcases hj with hj | hj <;> rcases q with q | q <;> omega), fun j hj => h j (fun q => by rcases hj with hj | hj | hj <;> rcases q with q | q <;> omega)⟩
theorem offE {n m : Nat → Int32} (h : Off rE n m) : m 0 = n 0 ∧ m 6 = n 6 ∧ (∀ j, rD j → m j = n j) ∧ (∀ j, rP j → m j = n j) ∧ ∀ j, rL j → m j = n j := ⟨h 0 (fun q => by rcases q with q | q <;> omega), h 6 (fun q => by rcases q with q | q <;> omega), fun j hj => h j (fun q => by rcases hj with hj | hj <;> rcases q with q | q <;> omega), fun j hj => h j (fun q => by rcases hj with hj | hj <;> rcases q with q | q <;> omega), fun j hj => h j (fun q => by rcases hj with hj | hj | hj <;> rcases q with q | q <;> omega)⟩
theorem offL {n m : Nat → Int32} (h : Off rL n m) : m 0 = n 0 ∧ m 6 = n 6 ∧ (∀ j, rD j → m j = n j) ∧ (∀ j, rP j → m j = n j) ∧ ∀ j, rE j → m j = n j := ⟨h 0 (fun q => by rcases q with q | q | q <;> omega), h 6 (fun q => by rcases q with q | q | q <;> omega), fun j hj => h j (fun q => by rcases hj with hj | hj <;> rcases q with q | q | q <;> omega), fun j hj => h j (fun q => by rcases hj with hj | hj <;> rcases q with q | q | q <;> omega), fun j hj => h j (fun q => by rcases hj with hj | hj <;> rcases q with q | q | q <;> omega)⟩
theorem offD {n m : Nat → Int32} (h : Off rD n m) : m 0 = n 0 ∧ m 6 = n 6 ∧ (∀ j, rE j → m j = n j) ∧ (∀ j, rP j → m j = n j) ∧ ∀ j, rL j → m j = n j := ⟨h 0 (fun q => by rcases q with q | q <;> omega), h 6 (fun q => by rcases q with q | q <;> omega), fun j hj => h j (fun q => by rcases hj with hj | hj <;> rcases q with q | q <;> omega), fun j hj => h j (fun q => by rcases hj with hj | hj <;> rcases q with q | q <;> omega), fun j hj => h j (fun q => by rcases hj with hj | hj | hj <;> rcases q with q | q <;> omega)⟩
theorem neigh_of {P p : Nat} (hp : p < P) (hP : P ≤ 24) (nb : Nat → Int32) : m_X4_neighboursOf (nI p) (nI P) nb = some (nb p) := by
  unfold m_X4_neighboursOf
  rw [X4_has_y hp (by omega), bsm, if_neg (by decide), gd_ix (by omega) (by omega), nI_clamp (by omega)]
theorem low_sub {s t : Int32} (h : s &&& (t ^^^ (-1)) = 0) : SubM s t := fun i hi => by
  by_cases h32 : i < 32
  · cases ht : bt t i with
    | true => rfl
    | false => exact absurd ⟨hi, by rw [b_not _ h32, ht]; rfl⟩ (and_z.mp h i)
  · rw [b_big (by omega)] at hi; cases hi
set_option maxHeartbeats 8000000 in
/-- a split, on both sides -/
theorem divide_same {P D E L K dn p a : Nat} {ar fi la nb pa ro dp dg de dd ek eo es ef el lc lm lp lr n : Nat → Int32} (h : WC P D E L K dn ar fi la nb pa ro dp dg de dd ek eo es ef el lc lm lp lr n) (hp : p < P) (hP2 : P + 2 ≤ 24) (ha : 10 ≤ a) (ha2 : ∃ b, 10 ≤ b ∧ a + b ≤ 9999 ∧ ar p = nI (a + b)) {s : Int32} (hs : s &&& (nb p ^^^ (-1)) = 0) : ∃ E' ar' fi' la' nb' pa' ro' ek' eo' es' ef' el' lp' m,
    m_X6_divide (nI p) (nI a) s (nI dn) (nI P) ar fi la nb pa ro (nI D) dp dg de dd (nI E) ek eo es ef el (nI K) lp lr = some (nI P, nI (P + 2), ar', fi', la', nb', pa', ro', nI E', ek', eo', es', ef', el', lp') ∧ m_X8_doSplit (nI p) (nI a) s n = some (nI P, m) ∧ WC (P + 2) D E' L K dn ar' fi' la' nb' pa' ro' dp dg de dd ek' eo' es' ef' el' lc lm lp' lr m := by
  obtain ⟨hI, hRD, hIE, hIL, hVP, hVE, hVL, hn0, hn6⟩ := h
  have hP := hI.le
  have hdl := hI.dl
  have hE := hIE.1
  obtain ⟨b, hb10, hb99, hab⟩ := ha2
  obtain ⟨r, hr, er⟩ := hold_lt hRD.id2 (x := nI p) (hI.root hp) D (Nat.le_refl D)
  have hsub : nI (a + b) - nI a = nI b := by rw [pk_sub (by omega), show a + b - a = b by omega]
  have hlow : Low s P := Low.sub (b := nb p) (hI.nbr hp) (low_sub hs)
  have hnext : bt (s ||| pw (P + 1)) P = false := by rw [b_or, hlow P (Nat.le_refl P), b_pw (by omega), decide_eq_false (by omega)]; rfl
  have hs0 : bt s P = false := hlow P (Nat.le_refl P)
  have ht0 : bt (nb p &&& (s ^^^ (-1))) (P + 1) = false := by rw [b_and, hI.nbr hp (P + 1) (by omega)]; rfl
  -- what holds
  have i1 := hI.endP hp
  have i2 := i1.comeP (by omega) ha (by omega) (Low.pw hp (by omega)) hr
  have i3 := i2.comeP (by omega) hb10 (by omega) (Low.pw (show p < P + 1 by omega) (by omega)) hr
  have i4 := i3.lnkP (a := P) (s := s ||| pw (P + 1)) (by omega) hnext
  have i5 := i4.lnkP (a := P + 1) (s := nb p &&& (s ^^^ (-1))) (by omega) ht0
  -- the reference
  obtain ⟨m1, a1, v1, o1⟩ := X8_end hVP hI hp
  rw [hn0] at v1
  obtain ⟨m2, a2, v2, o2⟩ := X8_newParcel v1 (by omega) (nI a) (nI r) (pw p)
  have z1 := offP o1
  rw [z1.1, hn0] at v2
  have r7 := v2.ar (by omega) (show p < P + 1 by omega)
  rw [upd_ne (by omega), hab] at r7
  obtain ⟨m3, a3, v3, o3⟩ := X8_newParcel v2 (by omega) (nI b) (nI r) (pw p)
  have z2 := offP o2
  rw [z2.1, z1.1, hn0] at v3
  obtain ⟨m4, a4, v4, o4⟩ := X8_setBorders v3 (by omega) (show P < P + 1 + 1 by omega) hnext
  obtain ⟨m5, a5, v5, o5⟩ := X8_setBorders v4 (by omega) (show P + 1 < P + 1 + 1 by omega) ht0
  have o15 : Off rP n m5 := (((o1.tr o2).tr o3).tr o4).tr o5
  have z5 := offP o15
  have hVE5 := hVE.keep hE z5.2.2.2.1
  have hVL5 := hVL.keep hIL.1 hIL.2.1 z5.2.2.2.2
  obtain ⟨m6, a6, v6, o6⟩ := X8_splitEasements (a := P) (b := P + 1) (Q := P + 2) hIE hVE5 hp (Nat.le_refl P) (by omega) (by omega) (by omega) (by omega) hdl
  have z6 := offE o6
  have hVL6 := hVL5.keep hIL.1 hIL.2.1 z6.2.2.2.2
  obtain ⟨m7, a7, v7, o7⟩ := X8_moveLiens hIL hVL6 (pw p) (pw P ||| pw (P + 1))
  have z7 := offL o7
  -- the class
  have c1 := X1_followSplit hE (nI p) (nI P) (nI (P + 1)) (nI dn) ek eo es ef el
  have c2 := (eS_inv (a := P) (b := P + 1) (Q := P + 2) hIE hp (Nat.le_refl P) (by omega) (by omega) (by omega) (by omega) (d := nI dn) E (Nat.le_refl E)).2
  rw [z5.1, hn0] at v6
  generalize foldN (eS (nI p) (nI P) (nI (P + 1)) (nI dn)) (E, ek, eo, es, ef, el) E = T at c1 c2 v6
  obtain ⟨E', ek', eo', es', ef', el'⟩ := T
  replace c1 : m_X1_followSplit (nI p) (nI P) (nI (P + 1)) (nI dn) (nI E) ek eo es ef el = some (nI E', ek', eo', es', ef', el') := c1
  replace c2 : IE E' (P + 2) dn ek' eo' es' ef' el' := c2
  replace v6 : VE E' ek' eo' es' ef' el' m6 := v6
  refine ⟨E', upd (upd ar P (nI a)) (P + 1) (nI b), upd (upd fi P (nI dn)) (P + 1) (nI dn), upd (upd (upd la p (nI dn)) P (-1)) (P + 1) (-1), _, upd (upd pa P (pw p)) (P + 1) (pw p), upd (upd ro P (nI r)) (P + 1) (nI r), ek', eo', es', ef', el', foldN (sFo (pw p) (pw P ||| pw (P + 1)) lr) lp K, m7, ?_, ?_, i5, hRD.keep (by omega) (Nat.le_refl dn) (fun j hj => (z7.2.2.1 j hj).trans ((z6.2.2.1 j hj).trans (z5.2.2.1 j hj))), c2, hIL, (v5.keep (by omega) z6.2.2.2.1).keep (by omega) z7.2.2.2.1, v6.keep c2.1 z7.2.2.2.2, v7, ?_, ?_⟩
  · have hlk := link_lnk (nb := upd (upd (endN nb p P) P 0) (P + 1) 0) (p := P) (q := P + 1) (n := P + 2) (by omega) (by omega) (by omega) (by omega)
    have hll := lnk_lnk (nb := upd (upd (endN nb p P) P 0) (P + 1) 0) (a := P) (n := P + 2) (s := pw (P + 1)) (t := s) (by omega) (by omega)
    unfold m_X6_divide
    simp (disch := omega) only [X6_holderNow hRD hdl hP hp, er, neigh_of hp hP, areaOf1 hP hp, hab, X4_end hP hp, X4_come (show P < 24 by omega), X4_come (show P + 1 < 24 by omega), hsub, X4_link (show P + 2 ≤ 24 by omega) (show P < P + 2 by omega) (show P + 1 < P + 2 by omega) (show P + 1 ≠ P by omega), X4_linkAll (show P + 2 ≤ 24 by omega) (show P < P + 2 by omega) hs0, X4_linkAll (show P + 2 ≤ 24 by omega) (show P + 1 < P + 2 by omega) ht0, c1, X3_follow hIL, bsm, hlk, hll]
    rw [or_comm32 (pw (P + 1)) s]
  · unfold m_X8_doSplit
    simp only [X8_holderOf hVP hP hp hRD.id2 hdl, er, hVP.nb hP hp, a1, m_X8_bit, a2, r7, hsub, a3, a4, a5, a6, a7, bsm]
  · rw [z7.1, z6.1, z5.1, hn0]
  · rw [z7.2.1, z6.2.1, z5.2.1, hn6, added_s (pw_ne p (by omega)), added_s (pw_ne p (by omega))]

