/-! Copies of worlds and rows; the history. -/
theorem IP.cg {P dn : Nat} {ar fi la nb pa ro ar' fi' la' nb' pa' ro' : Nat → Int32} (h : IP P dn ar fi la nb pa ro) (e : ∀ k, k < P → ar' k = ar k ∧ fi' k = fi k ∧ la' k = la k ∧ nb' k = nb k ∧ pa' k = pa k ∧ ro' k = ro k) : IP P dn ar' fi' la' nb' pa' ro' := ⟨h.1, h.2.1, fun k hk => by
  obtain ⟨e1, e2, e3, e4, e5, e6⟩ := e k hk
  rw [e1, e2, e3, e4, e5, e6]
  obtain ⟨a1, a2, a3, a4, a5, a6, a7, a8⟩ := h.2.2 k hk
  exact ⟨a1, a2, a3, a4, a5, a6, a7, fun q hq => by rw [(e q hq).2.2.2.1]; exact a8 q hq⟩⟩
theorem VP.cg {P : Nat} {ar fi la nb pa ro ar' fi' la' nb' pa' ro' n : Nat → Int32} (h : VP P ar fi la nb pa ro n) (e : ∀ k, k < P → ar' k = ar k ∧ fi' k = fi k ∧ la' k = la k ∧ nb' k = nb k ∧ pa' k = pa k ∧ ro' k = ro k) : VP P ar' fi' la' nb' pa' ro' n := ⟨h.1, fun k hk => by
  obtain ⟨e1, e2, e3, e4, e5, e6⟩ := e k hk
  rw [e1, e2, e3, e4, e5, e6]
  exact h.2 k hk⟩
theorem VE.cg {E : Nat} {ek eo es ef el ek' eo' es' ef' el' n : Nat → Int32} (h : VE E ek eo es ef el n) (e : ∀ k, k < E → ek' k = ek k ∧ eo' k = eo k ∧ es' k = es k ∧ ef' k = ef k ∧ el' k = el k) : VE E ek' eo' es' ef' el' n := ⟨h.1, fun k hk => by
  obtain ⟨e1, e2, e3, e4, e5⟩ := e k hk
  rw [e1, e2, e3, e4, e5]
  exact h.2 k hk⟩
theorem IE.cg {E P dn : Nat} {ek eo es ef el ek' eo' es' ef' el' : Nat → Int32} (h : IE E P dn ek eo es ef el) (e : ∀ k, k < E → ek' k = ek k ∧ eo' k = eo k ∧ es' k = es k ∧ ef' k = ef k ∧ el' k = el k) : IE E P dn ek' eo' es' ef' el' := ⟨h.1, fun k hk => by
  obtain ⟨e1, e2, e3, e4, e5⟩ := e k hk
  rw [e2, e3, e5]
  exact h.2 k hk⟩
theorem IL.cg {L K : Nat} {lc lm lp lr lc' lm' lp' lr' : Nat → Int32} (h : IL L K lc lm lp lr) (e : ∀ k, k < L → lc' k = lc k ∧ lm' k = lm k ∧ lp' k = lp k ∧ lr' k = lr k) : IL L K lc' lm' lp' lr' := ⟨h.1, h.2.1, fun k hk => by
  obtain ⟨e1, e2, e3, e4⟩ := e k hk
  rw [e1, e2]
  exact h.2.2.1 k hk, fun k hk => by
  rw [(e k (by have := h.2.1; omega)).2.2.2]
  exact h.2.2.2.1 k hk, fun i j hi hj q => by
  rw [(e i (by have := h.2.1; omega)).2.2.2, (e j (by have := h.2.1; omega)).2.2.2] at q
  exact h.2.2.2.2 i j hi hj q⟩
theorem VL.cg {L K : Nat} {lc lm lp lr lc' lm' lp' lr' n : Nat → Int32} (h : VL L K lc lm lp lr n) (hK : K ≤ L) (e : ∀ k, k < L → lc' k = lc k ∧ lm' k = lm k ∧ lp' k = lp k ∧ lr' k = lr k) : VL L K lc' lm' lp' lr' n := ⟨h.1, h.2.1, fun k hk => by
  obtain ⟨e1, e2, e3, e4⟩ := e k hk
  rw [e1, e2, e3]
  exact h.2.2.1 k hk, fun k hk => by
  rw [(e k (by omega)).2.2.2]
  exact h.2.2.2 k hk⟩
theorem RD.cg {D P dn : Nat} {dp dg de dd dp' dg' de' dd' n : Nat → Int32} (h : RD D P dn dp dg de dd n) (e : ∀ k, k < D → dp' k = dp k ∧ dg' k = dg k ∧ de' k = de k ∧ dd' k = dd k) : RD D P dn dp' dg' de' dd' n := ⟨⟨h.1.1, fun k hk => by
  obtain ⟨e1, e2, e3, e4⟩ := e k hk
  rw [e1, e2, e3, e4]
  exact h.1.2 k hk⟩, fun i j hij hj => by
  rw [(e i (by omega)).2.2.2, (e j hj).2.2.2]
  exact h.2.1 i j hij hj, h.2.2.1, fun x => (chn_c e).trans (h.2.2.2 x)⟩

theorem WC.cg {P D E L K dn : Nat} {ar fi la nb pa ro dp dg de dd ek eo es ef el lc lm lp lr ar' fi' la' nb' pa' ro' dp' dg' de' dd' ek' eo' es' ef' el' lc' lm' lp' lr' n : Nat → Int32} (h : WC P D E L K dn ar fi la nb pa ro dp dg de dd ek eo es ef el lc lm lp lr n) (e1 : ∀ k, k < 24 → ar' k = ar k ∧ fi' k = fi k ∧ la' k = la k ∧ nb' k = nb k ∧ pa' k = pa k ∧ ro' k = ro k) (e2 : ∀ k, k < 60 → dp' k = dp k ∧ dg' k = dg k ∧ de' k = de k ∧ dd' k = dd k) (e3 : ∀ k, k < 30 → ek' k = ek k ∧ eo' k = eo k ∧ es' k = es k ∧ ef' k = ef k ∧ el' k = el k) (e4 : ∀ k, k < 20 → lc' k = lc k ∧ lm' k = lm k ∧ lp' k = lp k ∧ lr' k = lr k) : WC P D E L K dn ar' fi' la' nb' pa' ro' dp' dg' de' dd' ek' eo' es' ef' el' lc' lm' lp' lr' n := by
  obtain ⟨hI, hRD, hIE, hIL, hVP, hVE, hVL, hn0, hn6⟩ := h
  have hP := hI.le
  have hD := hRD.1.1
  have hE := hIE.1
  have hL := hIL.1
  have f1 : ∀ k, k < P → _ := fun k hk => e1 k (by omega)
  have f3 : ∀ k, k < E → _ := fun k hk => e3 k (by omega)
  have f4 : ∀ k, k < L → _ := fun k hk => e4 k (by omega)
  refine ⟨hI.cg f1, hRD.cg fun k hk => e2 k (by omega), hIE.cg f3, hIL.cg f4, hVP.cg f1, hVE.cg f3, hVL.cg hIL.2.1 f4, hn0, hn6.trans (sSum_c fun k hk => ?_)⟩
  obtain ⟨g1, g2, g3, g4, g5, g6⟩ := f1 k hk
  unfold bEq
  rw [g1, g5]
  exact ⟨rfl, fun _ => rfl⟩
theorem WC.keep {P D E L K dn : Nat} {ar fi la nb pa ro dp dg de dd ek eo es ef el lc lm lp lr n m : Nat → Int32} (h : WC P D E L K dn ar fi la nb pa ro dp dg de dd ek eo es ef el lc lm lp lr n) (e : ∀ j, j < 621 → m j = n j) : WC P D E L K dn ar fi la nb pa ro dp dg de dd ek eo es ef el lc lm lp lr m := by
  obtain ⟨hI, hRD, hIE, hIL, hVP, hVE, hVL, hn0, hn6⟩ := h
  refine ⟨hI, hRD.keep (Nat.le_refl _) (Nat.le_refl _) fun j hj => e j (by rcases hj with hj | hj <;> omega), hIE, hIL, hVP.keep hI.le fun j hj => e j (by rcases hj with hj | hj <;> omega), hVE.keep hIE.1 fun j hj => e j (by rcases hj with hj | hj <;> omega), hVL.keep hIL.1 hIL.2.1 fun j hj => e j (by rcases hj with hj | hj | hj <;> omega), (e 0 (by omega)).trans hn0, (e 6 (by omega)).trans hn6⟩
/-- a world of the class as a whole, and a row -/
def WR (w : WS) (n : Nat → Int32) : Prop := ∃ (P D E L K dn : Nat) (ar fi la nb pa ro dp dg de dd ek eo es ef el lc lm lp lr : Nat → Int32), w = (nI dn, nI P, ar, fi, la, nb, pa, ro, nI D, dp, dg, de, dd, nI E, ek, eo, es, ef, el, nI L, nI K, lc, lm, lp, lr) ∧ WC P D E L K dn ar fi la nb pa ro dp dg de dd ek eo es ef el lc lm lp lr n
theorem WR.keep {w : WS} {n m : Nat → Int32} (h : WR w n) (e : ∀ j, j < 621 → m j = n j) : WR w m := by
  obtain ⟨P, D, E, L, K, dn, ar, fi, la, nb, pa, ro, dp, dg, de, dd, ek, eo, es, ef, el, lc, lm, lp, lr, rfl, h⟩ := h
  exact ⟨P, D, E, L, K, dn, ar, fi, la, nb, pa, ro, dp, dg, de, dd, ek, eo, es, ef, el, lc, lm, lp, lr, rfl, h.keep e⟩
theorem cpy_at {f g : Nat → Int32} {c k : Nat} (h : k < c) : va_cpy f g 0 0 c k = f k := by
  unfold va_cpy
  rw [if_pos ⟨Nat.zero_le k, by omega⟩, Nat.zero_add, Nat.sub_zero]
theorem wcopy_e (w q : WS) {n : Nat → Int32} (h : WR q n) : ∃ u, wcopy w q = some u ∧ WR u n := by
  obtain ⟨P, D, E, L, K, dn, ar, fi, la, nb, pa, ro, dp, dg, de, dd, ek, eo, es, ef, el, lc, lm, lp, lr, rfl, h⟩ := h
  obtain ⟨w1, w2, w3, w4, w5, w6, w7, w8, w9, w10, w11, w12, w13, w14, w15, w16, w17, w18, w19, w20, w21, w22, w23, w24, w25⟩ := w
  exact ⟨_, rfl, P, D, E, L, K, dn, _, _, _, _, _, _, _, _, _, _, _, _, _, _, _, _, _, _, _, rfl, h.cg (fun k hk => ⟨cpy_at hk, cpy_at hk, cpy_at hk, cpy_at hk, cpy_at hk, cpy_at hk⟩) (fun k hk => ⟨cpy_at hk, cpy_at hk, cpy_at hk, cpy_at hk⟩) (fun k hk => ⟨cpy_at hk, cpy_at hk, cpy_at hk, cpy_at hk, cpy_at hk⟩) (fun k hk => ⟨cpy_at hk, cpy_at hk, cpy_at hk, cpy_at hk⟩)⟩
def cpR (a b : Nat → Int32) (i : Nat) : Nat → Int32 := fun j => if j < i then a j else b j
theorem copyRow_e (a b : Nat → Int32) : m_X8_copyRow a b = some (cpR a b 621) := by
  unfold m_X8_copyRow
  have e0 : ((0 : Int32), b) = (nI 0, cpR a b 0) := by
    have : cpR a b 0 = b := funext fun k => if_neg (by omega)
    rw [this]; rfl
  rw [e0]
  refine loop_run (c := 621) (fun i => (nI i, cpR a b i)) (by omega) (fun rec i hi => ?_) (fun rec => ?_)
  · have e : upd (cpR a b i) i (a i) = cpR a b (i + 1) := funext fun k => by
      unfold cpR
      by_cases q : k = i
      · rw [q, upd_same, if_pos (by omega)]
      · rw [upd_ne q]
        by_cases w : k < i
        · rw [if_pos w, if_pos (by omega)]
        · rw [if_neg w, if_neg (by omega)]
    have h1 : ((621 : Int32) ≤ nI i) = False := lit_ge (b := 621) rfl hi (by omega)
    simp (disch := omega) only [m_X8_copyRow_L2, h1, e, nI_clamp, nI_1, bsm, nmd, gd_ix, gd_t, gd_bi, gd_b0, gd_b1, ite_b, ite_p, if_true, if_false, ite_true, ite_false, i10, i00, or0, add0, g0, g1, g2, g3, g4, g5, g6, c0, c1, c2, c3, c4, c5, c6, Bool.false_eq_true, decide_eq_true_eq]
  · have h1 : ((621 : Int32) ≤ nI 621) = True := eq_true (by decide)
    simp only [m_X8_copyRow_L2, h1, if_true]
theorem cpR_at {a b : Nat → Int32} : ∀ j, j < 621 → cpR a b 621 j = a j := fun _ h => if_pos h
/-- what the history holds: the latest first -/
def HR (c x : Nat) (hW : Nat → WS) (gW : Nat → Nat → Int32) : Prop := c ≤ 6 ∧ x < 6 ∧ ∀ i, i < c → WR (hW ((x + 5 - i) % 6)) (gW (c - 1 - i))
theorem rem_class {c x : Nat} (hc : c ≤ 6) (hx : x < 6) (q : WS) (hW : Nat → WS) {n : Nat → Int32} (h : WR q n) : ∃ u, WR u n ∧ rem0 (nI c) (nI x) q hW = some (nI (if c = 6 then 6 else c + 1), nI ((x + 1) % 6), hup hW x u) := by
  obtain ⟨u, h1, h2⟩ := wcopy_e (hW x) q h
  refine ⟨u, h2, ?_⟩
  unfold rem0
  rw [gd_ix hx (by omega), nI_clamp (by omega), h1, bsm, nI_1]
  have e1 : (if (6 : Int32) < nI (c + 1) then (6 : Int32) else nI (c + 1)) = nI (if c = 6 then 6 else c + 1) := by
    by_cases q : c = 6
    · rw [if_pos q, q]; decide
    · have z : ¬ (6 : Int32) < nI (c + 1) := (show ¬ nI 6 < nI (c + 1) from nI_nlt (by omega) (by omega))
      rw [if_neg q, if_neg z]
  have e2 : (if nI x = (5 : Int32) then (0 : Int32) else nI x + 1) = nI ((x + 1) % 6) := by
    by_cases q : x = 5
    · rw [q]; decide
    · have z : ¬ nI x = (5 : Int32) := fun w => q ((nI_eq (b := 5) (by omega) (by omega)).mp w)
      rw [if_neg z, nI_1, Nat.mod_eq_of_lt (by omega)]
  rw [e1, e2]
/-- the rows moved one ahead -/
def shH (g : Nat → Nat → Int32) (i : Nat) : Nat → Nat → Int32 := fun k => if k < i then cpR (g (k + 1)) (g k) 621 else g k
theorem rem_loop (n : Nat → Int32) (gW : Nat → Nat → Int32) : fuel (m_X8_remember_L21 (nI 6) n) FU (nI 0, gW) = some (nI 6, hup (shH gW 5) 5 (cpR n (shH gW 5 5) 621)) := by
  have e0 : shH gW 0 = gW := funext fun k => if_neg (by omega)
  have key : fuel (m_X8_remember_L21 (nI 6) n) FU (nI 0, shH gW 0) = some (nI 6, hup (shH gW 5) 5 (cpR n (shH gW 5 5) 621)) := by
    refine loop_run (F := m_X8_remember_L21 (nI 6) n) (c := 5) (fun i => (nI i, shH gW i)) (by omega) (fun rec i hi => ?_) (fun rec => ?_)
    · have h1 : (nI 6 - 1 ≤ nI i) = False := by
        have : nI 6 - 1 = nI 5 := nI_pred 5
        rw [this]
        exact eq_false (nI_ge hi (by omega))
      have e : hup (shH gW i) i (cpR (shH gW i (i + 1)) (shH gW i i) 621) = shH gW (i + 1) := funext fun k => by
        unfold hup shH
        by_cases w : k = i
        · rw [if_pos w, if_neg (show ¬ i + 1 < i by omega), if_neg (show ¬ i < i by omega), if_pos (show k < i + 1 by omega), w]
        · rw [if_neg w]
          by_cases w2 : k < i
          · rw [if_pos w2, if_pos (by omega)]
          · rw [if_neg w2, if_neg (by omega)]
      have hne : decide (i + 1 ≠ i) = true := decide_eq_true (by omega)
      simp (disch := omega) only [m_X8_remember_L21, h1, copyRow_e, e, hne, nI_clamp, nI_1, bsm, nmd, gd_ix, gd_t, gd_bi, gd_b0, gd_b1, ite_b, ite_p, if_true, if_false, ite_true, ite_false, i10, i00, or0, add0, g0, g1, g2, g3, g4, g5, g6, c0, c1, c2, c3, c4, c5, c6, Bool.false_eq_true, decide_eq_true_eq]
    · have h1 : (nI 5 ≤ nI 5) = True := eq_true (by decide)
      have h2 : nI 6 - 1 = nI 5 := nI_pred 5
      simp (disch := omega) only [m_X8_remember_L21, h1, m_X8_remember_J52, h2, copyRow_e, nI_clamp, nI_1, bsm, nmd, gd_ix, gd_t, gd_bi, gd_b0, gd_b1, ite_b, ite_p, if_true, if_false, ite_true, ite_false, i10, i00, or0, add0, g0, g1, g2, g3, g4, g5, g6, c0, c1, c2, c3, c4, c5, c6, Bool.false_eq_true, decide_eq_true_eq]
  rw [e0] at key
  exact key
theorem rem_ref {c : Nat} (hc : c ≤ 6) (n : Nat → Int32) (gW : Nat → Nat → Int32) : ∃ g, m_X8_remember (nI c) n gW = some (nI (if c = 6 then 6 else c + 1), g) ∧ (∀ j, j < 621 → g (if c = 6 then 5 else c) j = n j) ∧ ∀ k, k < (if c = 6 then 5 else c) → ∀ j, j < 621 → g k j = gW (if c = 6 then k + 1 else k) j := by
  unfold m_X8_remember
  by_cases q : c = 6
  · subst q
    rw [if_pos rfl]
    refine ⟨hup (shH gW 5) 5 (cpR n (shH gW 5 5) 621), ?_, fun j hj => ?_, fun k hk j hj => ?_⟩
    · exact rem_loop n gW
    · rw [if_pos rfl]
      show hup (shH gW 5) 5 _ 5 j = n j
      unfold hup
      rw [if_pos rfl]
      exact cpR_at j hj
    · rw [if_pos rfl] at hk ⊢
      unfold hup shH
      rw [if_neg (by omega), if_pos hk]
      exact cpR_at j hj
  · have z : ¬ nI c = (6 : Int32) := fun w => q ((nI_eq (b := 6) (by omega) (by omega)).mp w)
    rw [if_neg z]
    refine ⟨hup gW c (cpR n (gW c) 621), ?_, fun j hj => ?_, fun k hk j hj => ?_⟩
    · simp (disch := omega) only [m_X8_remember_J52, copyRow_e, q, nI_clamp, nI_1, bsm, nmd, gd_ix, gd_t, gd_bi, gd_b0, gd_b1, ite_b, ite_p, if_true, if_false, ite_true, ite_false, i10, i00, or0, add0, g0, g1, g2, g3, g4, g5, g6, c0, c1, c2, c3, c4, c5, c6, Bool.false_eq_true, decide_eq_true_eq]
    · rw [if_neg q]
      unfold hup
      rw [if_pos rfl]
      exact cpR_at j hj
    · rw [if_neg q] at hk ⊢
      unfold hup
      rw [if_neg (by omega)]
/-- both remember the same -/
theorem rem_same {c x : Nat} {hW : Nat → WS} {gW : Nat → Nat → Int32} (hH : HR c x hW gW) {q : WS} {n : Nat → Int32} (h : WR q n) : ∃ c' x' hW' gW', rem0 (nI c) (nI x) q hW = some (nI c', nI x', hW') ∧ m_X8_remember (nI c) n gW = some (nI c', gW') ∧ HR c' x' hW' gW' := by
  obtain ⟨hc, hx, hi⟩ := hH
  obtain ⟨u, u1, u2⟩ := rem_class hc hx q hW h
  obtain ⟨g, g1, g2, g3⟩ := rem_ref hc n gW
  refine ⟨_, _, _, _, u2, g1, ?_, Nat.mod_lt _ (by omega), fun i hic => ?_⟩
  · by_cases e : c = 6
    · rw [if_pos e]; omega
    · rw [if_neg e]; omega
  · by_cases e0 : i = 0
    · subst e0
      have : ((x + 1) % 6 + 5 - 0) % 6 = x := by omega
      rw [this]
      unfold hup
      rw [if_pos rfl]
      refine u1.keep fun j hj => ?_
      have := g2 j hj
      by_cases e : c = 6
      · rw [if_pos e] at this ⊢; exact this
      · rw [if_neg e] at this ⊢
        exact this
    · have hne : ((x + 1) % 6 + 5 - i) % 6 ≠ x := by
        by_cases e : c = 6
        · rw [if_pos e] at hic; omega
        · rw [if_neg e] at hic; omega
      have hix : ((x + 1) % 6 + 5 - i) % 6 = (x + 5 - (i - 1)) % 6 := by
        by_cases e : c = 6
        · rw [if_pos e] at hic; omega
        · rw [if_neg e] at hic; omega
      unfold hup
      rw [if_neg hne, hix]
      by_cases e : c = 6
      · rw [if_pos e] at hic g3 ⊢
        refine (hi (i - 1) (by omega)).keep fun j hj => ?_
        have := g3 (6 - 1 - i) (by omega) j hj
        rw [if_pos e, show 6 - 1 - i + 1 = c - 1 - (i - 1) by omega] at this
        exact this
      · rw [if_neg e] at hic g3 ⊢
        refine (hi (i - 1) (by omega)).keep fun j hj => ?_
        have := g3 (c + 1 - 1 - i) (by omega) j hj
        rw [if_neg e] at this
        rw [show c - 1 - (i - 1) = c + 1 - 1 - i by omega]
        exact this
/-- the latest change taken back -/
theorem back_same {c x : Nat} {hW : Nat → WS} {gW : Nat → Nat → Int32} (hH : HR c x hW gW) (h0 : 0 < c) (q : WS) (n : Nat → Int32) : ∃ x' u, tb0 (nI c) (nI x) q hW = some (nI (c - 1), nI x', u) ∧ m_X8_copyRow (gW (c - 1)) n = some (cpR (gW (c - 1)) n 621) ∧ WR u (cpR (gW (c - 1)) n 621) ∧ HR (c - 1) x' hW gW := by
  obtain ⟨hc, hx, hi⟩ := hH
  have h1 := hi 0 h0
  have hk : (x + 5 - 0) % 6 < 6 := Nat.mod_lt _ (by omega)
  obtain ⟨u, u1, u2⟩ := wcopy_e q (hW ((x + 5 - 0) % 6)) h1
  refine ⟨(x + 5 - 0) % 6, u, ?_, copyRow_e _ _, ?_, by omega, hk, fun i hic => ?_⟩
  · unfold tb0
    have e1 : (if nI x = 0 then (5 : Int32) else nI x - 1) = nI ((x + 5 - 0) % 6) := by
      by_cases e : x = 0
      · rw [e]; decide
      · rw [if_neg (nI_ne0 (by omega) (by omega))]
        obtain ⟨y, rfl⟩ : ∃ y, x = y + 1 := ⟨x - 1, by omega⟩
        rw [nI_pred, show (y + 1 + 5 - 0) % 6 = y by omega]
    have e2 : nI c - 1 = nI (c - 1) := by
      obtain ⟨y, rfl⟩ : ∃ y, c = y + 1 := ⟨c - 1, by omega⟩
      rw [nI_pred]; rfl
    rw [if_neg (nI_ne0 h0 (by omega)), nmd, e1, gd_ix hk (by omega), nI_clamp (by omega), u1, bsm, e2]
  · refine u2.keep fun j hj => ?_
    rw [Nat.sub_zero]
    exact cpR_at j hj
  · have := hi (i + 1) (by omega)
    rw [show ((x + 5 - 0) % 6 + 5 - i) % 6 = (x + 5 - (i + 1)) % 6 by omega, show c - 1 - 1 - i = c - 1 - (i + 1) by omega]
    exact this

