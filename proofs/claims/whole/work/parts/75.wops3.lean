/-! Calls that change: clear, undo, save, restore, append. -/
theorem WC.zero {dp dg de dd ar fi la nb pa ro ek eo es ef el lc lm lp lr n : Nat → Int32} (h : ∀ j, j < 621 → n j = 0) : WC 0 0 0 0 0 0 ar fi la nb pa ro dp dg de dd ek eo es ef el lc lm lp lr n := by
  refine ⟨⟨by omega, by omega, fun p hp => absurd hp (by omega)⟩, ⟨⟨by omega, fun k hk => absurd hk (by omega)⟩, fun i j _ hj => absurd hj (by omega), ⟨h 2 (by omega), by omega, fun k hk => absurd hk (by omega)⟩, fun _ => rfl⟩, ⟨by omega, fun k hk => absurd hk (by omega)⟩, ⟨by omega, by omega, fun k hk => absurd hk (by omega), fun k hk => absurd hk (by omega), fun i j hi _ _ => absurd hi (by omega)⟩, ⟨h 1 (by omega), fun p hp => absurd hp (by omega)⟩, ⟨h 3 (by omega), fun p hp => absurd hp (by omega)⟩, ⟨h 4 (by omega), h 5 (by omega), fun p hp => absurd hp (by omega), fun p hp => absurd hp (by omega)⟩, h 0 (by omega), h 6 (by omega)⟩
theorem HR.zero {x : Nat} {hW : Nat → WS} {gW : Nat → Nat → Int32} (h : x < 6) : HR 0 x hW gW := ⟨by omega, h, fun i hi => absurd hi (by omega)⟩
theorem empty_e (a : Nat → Int32) : ∃ z, m_X8_empty a = some z ∧ ∀ j, j < 621 → z j = 0 := by
  refine ⟨cpR (fun _ => 0) a 621, ?_, fun j hj => cpR_at j hj⟩
  unfold m_X8_empty
  have e0 : ((0 : Int32), a) = (nI 0, cpR (fun _ => 0) a 0) := by
    have : cpR (fun _ => 0) a 0 = a := funext fun k => if_neg (by omega)
    rw [this]; rfl
  rw [e0]
  refine loop_run (c := 621) (fun i => (nI i, cpR (fun _ => 0) a i)) (by omega) (fun rec i hi => ?_) (fun rec => ?_)
  · have e : upd (cpR (fun _ => 0) a i) i 0 = cpR (fun _ => 0) a (i + 1) := funext fun k => by
      unfold cpR
      by_cases q : k = i
      · rw [q, upd_same, if_pos (by omega)]
      · rw [upd_ne q]
        by_cases w : k < i
        · rw [if_pos w, if_pos (by omega)]
        · rw [if_neg w, if_neg (by omega)]
    have h1 : ((621 : Int32) ≤ nI i) = False := lit_ge (b := 621) rfl hi (by omega)
    simp (disch := omega) only [m_X8_empty_L2, h1, e, nI_clamp, nI_1, bsm, nmd, gd_ix, gd_t, gd_bi, gd_b0, gd_b1, ite_b, ite_p, if_true, if_false, ite_true, ite_false, i10, i00, or0, add0, g0, g1, g2, g3, g4, g5, g6, c0, c1, c2, c3, c4, c5, c6, Bool.false_eq_true, decide_eq_true_eq]
  · have h1 : ((621 : Int32) ≤ nI 621) = True := eq_true (by decide)
    simp only [m_X8_empty_L2, h1, if_true]
theorem op_clear {P D E L K dn : Nat} {ar fi la nb pa ro dp dg de dd ek eo es ef el lc lm lp lr n : Nat → Int32} (h : WC P D E L K dn ar fi la nb pa ro dp dg de dd ek eo es ef el lc lm lp lr n) {c x : Nat} {hW : Nat → WS} {gW : Nat → Nat → Int32} (hH : HR c x hW gW) : ∃ n', m_X7_clear (nI P) = some (nI P, 0, 0, 0, 0, 0, 0, 0) ∧ m_X8_clear n = some (nI P, 0, 0, n') ∧ WC 0 0 0 0 0 0 ar fi la nb pa ro dp dg de dd ek eo es ef el lc lm lp lr n' ∧ HR 0 x hW gW := by
  obtain ⟨z, z1, z2⟩ := empty_e n
  refine ⟨z, rfl, ?_, WC.zero z2, HR.zero hH.2.1⟩
  unfold m_X8_clear
  rw [z1, g1, bsm, c1, h.2.2.2.2.1.1]

set_option maxHeartbeats 8000000 in
theorem op_undo {P D E L K dn : Nat} {ar fi la nb pa ro dp dg de dd ek eo es ef el lc lm lp lr n : Nat → Int32} (h : WC P D E L K dn ar fi la nb pa ro dp dg de dd ek eo es ef el lc lm lp lr n) {c x : Nat} {hW : Nat → WS} {gW : Nat → Nat → Int32} (hH : HR c x hW gW)  (g : Nat → Int64) : ∃ (k b : Int32) (g' : Nat → Int64) (P' D' E' L' K' dn' c' x' : Nat) (ar' fi' la' nb' pa' ro' dp' dg' de' dd' ek' eo' es' ef' el' lc' lm' lp' lr' : Nat → Int32) (n' : Nat → Int32), m_L_undo  (nI dn) (nI P) ar fi la nb pa ro (nI D) dp dg de dd (nI E) ek eo es ef el (nI L) (nI K) lc lm lp lr (nI c) (nI x) g hW = some (k, nI dn', nI P', ar', fi', la', nb', pa', ro', nI D', dp', dg', de', dd', nI E', ek', eo', es', ef', el', nI L', nI K', lc', lm', lp', lr', nI c', nI x', g') ∧ m_X8_undo  (nI c) n gW = some (b, k, nI c', n') ∧ (k = 0 → g' 0 = b.toInt64) ∧ WC P' D' E' L' K' dn' ar' fi' la' nb' pa' ro' dp' dg' de' dd' ek' eo' es' ef' el' lc' lm' lp' lr' n' ∧ HR c' x' hW gW := by
  have hWC := h
  obtain ⟨c', x', hW', gW', re1, re2, re3⟩ := rem_same hH (q := (nI dn, nI P, ar, fi, la, nb, pa, ro, nI D, dp, dg, de, dd, nI E, ek, eo, es, ef, el, nI L, nI K, lc, lm, lp, lr)) ⟨P, D, E, L, K, dn, ar, fi, la, nb, pa, ro, dp, dg, de, dd, ek, eo, es, ef, el, lc, lm, lp, lr, rfl, h⟩
  obtain ⟨hI, hRD, hIE, hIL, hVP, hVE, hVL, hn0, hn6⟩ := h
  have hP := hI.le
  have hdl := hI.dl
  have hE := hIE.1
  have hL := hIL.1
  have hK := hIL.2.1
  have hD := hRD.1.1
  have hid := hRD.id2
  rcases c with _ | c
  · have t1 : (nI 0 ≤ (0 : Int32)) = True := eq_true (by decide)
    have t2 : (nI 0 = (0 : Int32)) = True := eq_true (by decide)
    refine ⟨1, 0, g, P, D, E, L, K, dn, 0, x, ar, fi, la, nb, pa, ro, dp, dg, de, dd, ek, eo, es, ef, el, lc, lm, lp, lr, n, ?_, ?_, fun q => absurd q (by decide), hWC, hH⟩
    · simp (disch := omega) only [m_L_undo, m_X7_undo_J15, m_X7_undo, m_X7_checkNumber, m_X7_checkArgument, m_X7_checkState, m_X7_checkAnswer, isFrom_e, isPer_e, rz0, rz1, rz2, rz3, rz4, rz5, rz6, rz7, rz8, rz9, m_X2_remember, re1, i20, i30, i40, i50, i60, i70, i80, i90, n0_0, n0_1, n0_2, n0_3, n0_4, n0_5, n0_6, n1_0, n1_1, n1_2, n1_3, n1_4, n1_5, n1_6, n2_0, n2_1, n2_2, n2_3, n2_4, n2_5, n2_6, n3_0, n3_1, n3_2, n3_3, n3_4, n3_5, n3_6, n4_0, n4_1, n4_2, n4_3, n4_4, n4_5, n4_6, n5_0, n5_1, n5_2, n5_3, n5_4, n5_5, n5_6, n6_0, n6_1, n6_2, n6_3, n6_4, n6_5, n6_6, nI_clamp, nI_1, bsm, nmd, gd_ix, gd_t, gd_bi, gd_b0, gd_b1, ite_b, ite_p, if_true, if_false, ite_true, ite_false, i10, i00, or0, add0, g0, g1, g2, g3, g4, g5, g6, c0, c1, c2, c3, c4, c5, c6, Bool.false_eq_true, decide_eq_true_eq, t1, m_X2_takeBack]
    · simp (disch := omega) only [m_X8_undo_J14, m_X8_undo, m_X8_fails, isPer_e, re2, i20, i30, i40, i50, i60, i70, i80, i90, n0_0, n0_1, n0_2, n0_3, n0_4, n0_5, n0_6, n1_0, n1_1, n1_2, n1_3, n1_4, n1_5, n1_6, n2_0, n2_1, n2_2, n2_3, n2_4, n2_5, n2_6, n3_0, n3_1, n3_2, n3_3, n3_4, n3_5, n3_6, n4_0, n4_1, n4_2, n4_3, n4_4, n4_5, n4_6, n5_0, n5_1, n5_2, n5_3, n5_4, n5_5, n5_6, n6_0, n6_1, n6_2, n6_3, n6_4, n6_5, n6_6, nI_clamp, nI_1, bsm, nmd, gd_ix, gd_t, gd_bi, gd_b0, gd_b1, ite_b, ite_p, if_true, if_false, ite_true, ite_false, i10, i00, or0, add0, g0, g1, g2, g3, g4, g5, g6, c0, c1, c2, c3, c4, c5, c6, Bool.false_eq_true, decide_eq_true_eq, t2]
  · obtain ⟨y', u, d1, d2, d3, d4⟩ := back_same hH (by omega) (nI dn, nI P, ar, fi, la, nb, pa, ro, nI D, dp, dg, de, dd, nI E, ek, eo, es, ef, el, nI L, nI K, lc, lm, lp, lr) n
    have hc6 := hH.1
    rw [show c + 1 - 1 = c by omega] at d1 d2 d3 d4
    obtain ⟨P', D', E', L', K', dn', ar', fi', la', nb', pa', ro', dp', dg', de', dd', ek', eo', es', ef', el', lc', lm', lp', lr', rfl, d3⟩ := d3
    have t1 : (nI (c + 1) ≤ (0 : Int32)) = False := eq_false (Int32.not_le.mpr (show nI 0 < nI (c + 1) from nI_lt (by omega) (by omega)))
    have t2 : (nI (c + 1) = (0 : Int32)) = False := eq_false (nI_ne0 (by omega) (by omega))
    refine ⟨0, nI c, vp_updL g (0 : Int32).toNatClampNeg (Int32.toInt64 (nI c)), P', D', E', L', K', dn', c, y', ar', fi', la', nb', pa', ro', dp', dg', de', dd', ek', eo', es', ef', el', lc', lm', lp', lr', cpR (gW c) n 621, ?_, ?_, fun _ => rfl, ?_, d4⟩
    · simp (disch := omega) only [m_L_undo, m_X7_undo_J15, m_X7_undo, m_X7_checkNumber, m_X7_checkArgument, m_X7_checkState, m_X7_checkAnswer, isFrom_e, isPer_e, rz0, rz1, rz2, rz3, rz4, rz5, rz6, rz7, rz8, rz9, m_X2_remember, re1, i20, i30, i40, i50, i60, i70, i80, i90, n0_0, n0_1, n0_2, n0_3, n0_4, n0_5, n0_6, n1_0, n1_1, n1_2, n1_3, n1_4, n1_5, n1_6, n2_0, n2_1, n2_2, n2_3, n2_4, n2_5, n2_6, n3_0, n3_1, n3_2, n3_3, n3_4, n3_5, n3_6, n4_0, n4_1, n4_2, n4_3, n4_4, n4_5, n4_6, n5_0, n5_1, n5_2, n5_3, n5_4, n5_5, n5_6, n6_0, n6_1, n6_2, n6_3, n6_4, n6_5, n6_6, nI_clamp, nI_1, bsm, nmd, gd_ix, gd_t, gd_bi, gd_b0, gd_b1, ite_b, ite_p, if_true, if_false, ite_true, ite_false, i10, i00, or0, add0, g0, g1, g2, g3, g4, g5, g6, c0, c1, c2, c3, c4, c5, c6, Bool.false_eq_true, decide_eq_true_eq, t1, m_X2_takeBack, d1]
    · simp (disch := omega) only [m_X8_undo_J14, m_X8_undo, m_X8_fails, isPer_e, re2, i20, i30, i40, i50, i60, i70, i80, i90, n0_0, n0_1, n0_2, n0_3, n0_4, n0_5, n0_6, n1_0, n1_1, n1_2, n1_3, n1_4, n1_5, n1_6, n2_0, n2_1, n2_2, n2_3, n2_4, n2_5, n2_6, n3_0, n3_1, n3_2, n3_3, n3_4, n3_5, n3_6, n4_0, n4_1, n4_2, n4_3, n4_4, n4_5, n4_6, n5_0, n5_1, n5_2, n5_3, n5_4, n5_5, n5_6, n6_0, n6_1, n6_2, n6_3, n6_4, n6_5, n6_6, nI_clamp, nI_1, bsm, nmd, gd_ix, gd_t, gd_bi, gd_b0, gd_b1, ite_b, ite_p, if_true, if_false, ite_true, ite_false, i10, i00, or0, add0, g0, g1, g2, g3, g4, g5, g6, c0, c1, c2, c3, c4, c5, c6, Bool.false_eq_true, decide_eq_true_eq, t2, nI_pred, d2]
    · exact d3

theorem ones_cnt {P dn : Nat} {ar fi la nb pa ro n : Nat → Int32} (hI : IP P dn ar fi la nb pa ro) (hVP : VP P ar fi la nb pa ro n) : Option.bind (m_X4_presentOnes (nI P) la) m_J6_bitCount_0f7a4 = m_X8_countPresent n := by
  have hP := hI.le
  rw [X4_presentOnes hP, bsm, J6_e, cnt_or hP, X8_countPresent hVP hP (fun p hp => hI.day hp)]

theorem countP_s {P dn : Nat} {ar fi la nb pa ro n : Nat → Int32} (hI : IP P dn ar fi la nb pa ro) (hVP : VP P ar fi la nb pa ro n) : ∃ r v, m_X4_presentOnes (nI P) la = some r ∧ m_J6_bitCount_0f7a4 r = some v ∧ m_X8_countPresent n = some v := by
  have hP := hI.le
  refine ⟨_, _, X4_presentOnes hP la, J6_e _, ?_⟩
  rw [cnt_or hP, X8_countPresent hVP hP (fun p hp => hI.day hp)]

set_option maxHeartbeats 4000000 in
theorem op_save {P D E L K dn : Nat} {ar fi la nb pa ro dp dg de dd ek eo es ef el lc lm lp lr n : Nat → Int32} (h : WC P D E L K dn ar fi la nb pa ro dp dg de dd ek eo es ef el lc lm lp lr n) {sv : Nat → Int32} (k1 k2 k9 k14 k20 k21 : Int32) (w3 w4 w5 w6 w7 w8 w10 w11 w12 w13 w15 w16 w17 w18 w19 w22 w23 w24 w25 : Nat → Int32) : ∃ (b : Int32) (u : WS) (sv' : Nat → Int32), m_X7_save (nI dn) (nI P) ar fi la nb pa ro (nI D) dp dg de dd (nI E) ek eo es ef el (nI L) (nI K) lc lm lp lr w3 w4 w5 w6 w7 w8 w10 w11 w12 w13 w15 w16 w17 w18 w19 w22 w23 w24 w25 = some (b, 1, u) ∧ m_X8_save n sv = some (b, 0, 1, sv') ∧ WR u sv' := by
  obtain ⟨u, u1, u2⟩ := wcopy_e (k1, k2, w3, w4, w5, w6, w7, w8, k9, w10, w11, w12, w13, k14, w15, w16, w17, w18, w19, k20, k21, w22, w23, w24, w25) (nI dn, nI P, ar, fi, la, nb, pa, ro, nI D, dp, dg, de, dd, nI E, ek, eo, es, ef, el, nI L, nI K, lc, lm, lp, lr) ⟨P, D, E, L, K, dn, ar, fi, la, nb, pa, ro, dp, dg, de, dd, ek, eo, es, ef, el, lc, lm, lp, lr, rfl, h⟩
  obtain ⟨r, v, r1, r2, r3⟩ := countP_s h.1 h.2.2.2.2.1
  have hh : m_X6_copyFrom w3 w4 w5 w6 w7 w8 w10 w11 w12 w13 w15 w16 w17 w18 w19 w22 w23 w24 w25 (nI dn) (nI P) ar fi la nb pa ro (nI D) dp dg de dd (nI E) ek eo es ef el (nI L) (nI K) lc lm lp lr = some u := u1
  refine ⟨v, u, cpR n sv 621, ?_, ?_, u2.keep fun j hj => cpR_at j hj⟩
  · unfold m_X7_save
    rw [hh, bsm]
    obtain ⟨v1, v2, g3', g4', g5', g6', g7', g8', v9, g10', g11', g12', g13', v14, g15', g16', g17', g18', g19', v20, v21, g22', g23', g24', g25'⟩ := u
    show Option.bind (m_X4_presentOnes (nI P) la) _ = _
    rw [r1, bsm, r2, bsm]
  · unfold m_X8_save
    rw [copyRow_e, bsm, r3, bsm]

/-- what is kept, on both sides -/
def SR (isK isS : Int32) (w : WS) (sv : Nat → Int32) : Prop := isK = 0 ∧ isS = 0 ∨ isK = 1 ∧ isS = 1 ∧ WR w sv

set_option maxHeartbeats 4000000 in
theorem op_restore {P D E L K dn : Nat} {ar fi la nb pa ro dp dg de dd ek eo es ef el lc lm lp lr n : Nat → Int32} (h : WC P D E L K dn ar fi la nb pa ro dp dg de dd ek eo es ef el lc lm lp lr n) {c x : Nat} {hW : Nat → WS} {gW : Nat → Nat → Int32} (hH : HR c x hW gW) {isK isS : Int32} {k1 k2 k9 k14 k20 k21 : Int32} {w3 w4 w5 w6 w7 w8 w10 w11 w12 w13 w15 w16 w17 w18 w19 w22 w23 w24 w25 sv : Nat → Int32} (hS : SR isK isS (k1, k2, w3, w4, w5, w6, w7, w8, k9, w10, w11, w12, w13, k14, w15, w16, w17, w18, w19, k20, k21, w22, w23, w24, w25) sv) (g : Nat → Int64) : ∃ (k b : Int32) (g' : Nat → Int64) (P' D' E' L' K' dn' c' : Nat) (ar' fi' la' nb' pa' ro' dp' dg' de' dd' ek' eo' es' ef' el' lc' lm' lp' lr' n' : Nat → Int32), m_L_restore isK (nI dn) (nI P) ar fi la nb pa ro (nI D) dp dg de dd (nI E) ek eo es ef el (nI L) (nI K) lc lm lp lr k1 k2 w3 w4 w5 w6 w7 w8 k9 w10 w11 w12 w13 k14 w15 w16 w17 w18 w19 k20 k21 w22 w23 w24 w25 (nI c) g = some (k, nI dn', nI P', ar', fi', la', nb', pa', ro', nI D', dp', dg', de', dd', nI E', ek', eo', es', ef', el', nI L', nI K', lc', lm', lp', lr', nI c', g') ∧ m_X8_restore (nI c) isS n sv = some (b, k, nI c', n') ∧ (k = 0 → g' 0 = b.toInt64) ∧ WC P' D' E' L' K' dn' ar' fi' la' nb' pa' ro' dp' dg' de' dd' ek' eo' es' ef' el' lc' lm' lp' lr' n' ∧ HR c' x hW gW := by
  rcases hS with ⟨rfl, rfl⟩ | ⟨rfl, rfl, hS⟩
  · refine ⟨1, 0, g, P, D, E, L, K, dn, c, ar, fi, la, nb, pa, ro, dp, dg, de, dd, ek, eo, es, ef, el, lc, lm, lp, lr, n, ?_, ?_, fun q => absurd q (by decide), h, hH⟩
    · simp (disch := omega) only [m_L_restore, m_X7_restore, m_X7_checkState, i20, i30, i40, i50, i60, i70, i80, i90, n0_0, n0_1, n0_2, n0_3, n0_4, n0_5, n0_6, n1_0, n1_1, n1_2, n1_3, n1_4, n1_5, n1_6, n2_0, n2_1, n2_2, n2_3, n2_4, n2_5, n2_6, n3_0, n3_1, n3_2, n3_3, n3_4, n3_5, n3_6, n4_0, n4_1, n4_2, n4_3, n4_4, n4_5, n4_6, n5_0, n5_1, n5_2, n5_3, n5_4, n5_5, n5_6, n6_0, n6_1, n6_2, n6_3, n6_4, n6_5, n6_6, nI_clamp, nI_1, bsm, nmd, gd_ix, gd_t, gd_bi, gd_b0, gd_b1, ite_b, ite_p, if_true, if_false, ite_true, ite_false, i10, i00, or0, add0, g0, g1, g2, g3, g4, g5, g6, c0, c1, c2, c3, c4, c5, c6, Bool.false_eq_true, decide_eq_true_eq]
    · simp (disch := omega) only [m_X8_restore, m_X8_restore_J14, m_X8_fails, i20, i30, i40, i50, i60, i70, i80, i90, n0_0, n0_1, n0_2, n0_3, n0_4, n0_5, n0_6, n1_0, n1_1, n1_2, n1_3, n1_4, n1_5, n1_6, n2_0, n2_1, n2_2, n2_3, n2_4, n2_5, n2_6, n3_0, n3_1, n3_2, n3_3, n3_4, n3_5, n3_6, n4_0, n4_1, n4_2, n4_3, n4_4, n4_5, n4_6, n5_0, n5_1, n5_2, n5_3, n5_4, n5_5, n5_6, n6_0, n6_1, n6_2, n6_3, n6_4, n6_5, n6_6, nI_clamp, nI_1, bsm, nmd, gd_ix, gd_t, gd_bi, gd_b0, gd_b1, ite_b, ite_p, if_true, if_false, ite_true, ite_false, i10, i00, or0, add0, g0, g1, g2, g3, g4, g5, g6, c0, c1, c2, c3, c4, c5, c6, Bool.false_eq_true, decide_eq_true_eq]
  · obtain ⟨u, u1, u2⟩ := wcopy_e (nI dn, nI P, ar, fi, la, nb, pa, ro, nI D, dp, dg, de, dd, nI E, ek, eo, es, ef, el, nI L, nI K, lc, lm, lp, lr) (k1, k2, w3, w4, w5, w6, w7, w8, k9, w10, w11, w12, w13, k14, w15, w16, w17, w18, w19, k20, k21, w22, w23, w24, w25) (hS.keep (m := cpR sv n 621) fun j hj => cpR_at j hj)
    have hh : m_X6_copyFrom ar fi la nb pa ro dp dg de dd ek eo es ef el lc lm lp lr k1 k2 w3 w4 w5 w6 w7 w8 k9 w10 w11 w12 w13 k14 w15 w16 w17 w18 w19 k20 k21 w22 w23 w24 w25 = some u := u1
    obtain ⟨P', D', E', L', K', dn', ar', fi', la', nb', pa', ro', dp', dg', de', dd', ek', eo', es', ef', el', lc', lm', lp', lr', rfl, h2⟩ := u2
    obtain ⟨r, v, r1, r2, r3⟩ := countP_s h2.1 h2.2.2.2.2.1
    refine ⟨0, v, vp_updL g (0 : Int32).toNatClampNeg (Int32.toInt64 v), P', D', E', L', K', dn', 0, ar', fi', la', nb', pa', ro', dp', dg', de', dd', ek', eo', es', ef', el', lc', lm', lp', lr', cpR sv n 621, ?_, ?_, fun _ => rfl, h2, HR.zero hH.2.1⟩
    · simp (disch := omega) only [m_L_restore, m_X7_restore, m_X7_checkState, hh, m_X2_forget, r1, r2, i20, i30, i40, i50, i60, i70, i80, i90, n0_0, n0_1, n0_2, n0_3, n0_4, n0_5, n0_6, n1_0, n1_1, n1_2, n1_3, n1_4, n1_5, n1_6, n2_0, n2_1, n2_2, n2_3, n2_4, n2_5, n2_6, n3_0, n3_1, n3_2, n3_3, n3_4, n3_5, n3_6, n4_0, n4_1, n4_2, n4_3, n4_4, n4_5, n4_6, n5_0, n5_1, n5_2, n5_3, n5_4, n5_5, n5_6, n6_0, n6_1, n6_2, n6_3, n6_4, n6_5, n6_6, nI_clamp, nI_1, bsm, nmd, gd_ix, gd_t, gd_bi, gd_b0, gd_b1, ite_b, ite_p, if_true, if_false, ite_true, ite_false, i10, i00, or0, add0, g0, g1, g2, g3, g4, g5, g6, c0, c1, c2, c3, c4, c5, c6, Bool.false_eq_true, decide_eq_true_eq]
      rfl
    · simp (disch := omega) only [m_X8_restore, m_X8_restore_J14, m_X8_fails, copyRow_e, r3, i20, i30, i40, i50, i60, i70, i80, i90, n0_0, n0_1, n0_2, n0_3, n0_4, n0_5, n0_6, n1_0, n1_1, n1_2, n1_3, n1_4, n1_5, n1_6, n2_0, n2_1, n2_2, n2_3, n2_4, n2_5, n2_6, n3_0, n3_1, n3_2, n3_3, n3_4, n3_5, n3_6, n4_0, n4_1, n4_2, n4_3, n4_4, n4_5, n4_6, n5_0, n5_1, n5_2, n5_3, n5_4, n5_5, n5_6, n6_0, n6_1, n6_2, n6_3, n6_4, n6_5, n6_6, nI_clamp, nI_1, bsm, nmd, gd_ix, gd_t, gd_bi, gd_b0, gd_b1, ite_b, ite_p, if_true, if_false, ite_true, ite_false, i10, i00, or0, add0, g0, g1, g2, g3, g4, g5, g6, c0, c1, c2, c3, c4, c5, c6, Bool.false_eq_true, decide_eq_true_eq]
      rfl

/-- the text, on both sides -/
def TR (l : Nat) (a b : Nat → Int32) : Prop := l ≤ 80 ∧ ∀ i, i < l → ∃ v, 32 ≤ v ∧ v ≤ 126 ∧ a i = nI v ∧ b i = nI v
theorem nar_e : ∀ v : Fin 127, vp_nar .char (nI v.1) = nI v.1 := by
  intro v
  rw [vp_nar_char]
  revert v
  decide
theorem op_append {l : Nat} {a b : Nat → Int32} (h : TR l a b) (p : Int32) (g : Nat → Int64) : ∃ (k r : Int32) (g' : Nat → Int64) (l' : Nat) (a' b' : Nat → Int32), m_L_append p (nI l) a g = some (k, nI l', a', g') ∧ m_X8_append p (nI l) b = some (r, k, nI l', b') ∧ (k = 0 → g' 0 = r.toInt64) ∧ TR l' a' b' := by
  have hl := h.1
  rcases isB_or p 32 126 with hb | hb
  · have hz : p < 32 ∨ ¬ p < 32 ∧ 126 < p := by
      by_cases q : p < 32
      · exact Or.inl q
      · by_cases w : 126 < p
        · exact Or.inr ⟨q, w⟩
        · rw [isB_y q w] at hb
          exact absurd hb (by decide)
    refine ⟨1, 0, g, l, a, b, ?_, ?_, fun q => absurd q (by decide), h⟩
    · rcases hz with q | ⟨q, w⟩
      · simp (disch := omega) only [m_L_append, m_X7_append, m_X7_append_J17, m_X7_checkArgument, q, i20, i30, i40, i50, i60, i70, i80, i90, n0_0, n0_1, n0_2, n0_3, n0_4, n0_5, n0_6, n1_0, n1_1, n1_2, n1_3, n1_4, n1_5, n1_6, n2_0, n2_1, n2_2, n2_3, n2_4, n2_5, n2_6, n3_0, n3_1, n3_2, n3_3, n3_4, n3_5, n3_6, n4_0, n4_1, n4_2, n4_3, n4_4, n4_5, n4_6, n5_0, n5_1, n5_2, n5_3, n5_4, n5_5, n5_6, n6_0, n6_1, n6_2, n6_3, n6_4, n6_5, n6_6, nI_clamp, nI_1, bsm, nmd, gd_ix, gd_t, gd_bi, gd_b0, gd_b1, ite_b, ite_p, if_true, if_false, ite_true, ite_false, i10, i00, or0, add0, g0, g1, g2, g3, g4, g5, g6, c0, c1, c2, c3, c4, c5, c6, Bool.false_eq_true, decide_eq_true_eq]
      · simp (disch := omega) only [m_L_append, m_X7_append, m_X7_append_J17, m_X7_checkArgument, q, w, i20, i30, i40, i50, i60, i70, i80, i90, n0_0, n0_1, n0_2, n0_3, n0_4, n0_5, n0_6, n1_0, n1_1, n1_2, n1_3, n1_4, n1_5, n1_6, n2_0, n2_1, n2_2, n2_3, n2_4, n2_5, n2_6, n3_0, n3_1, n3_2, n3_3, n3_4, n3_5, n3_6, n4_0, n4_1, n4_2, n4_3, n4_4, n4_5, n4_6, n5_0, n5_1, n5_2, n5_3, n5_4, n5_5, n5_6, n6_0, n6_1, n6_2, n6_3, n6_4, n6_5, n6_6, nI_clamp, nI_1, bsm, nmd, gd_ix, gd_t, gd_bi, gd_b0, gd_b1, ite_b, ite_p, if_true, if_false, ite_true, ite_false, i10, i00, or0, add0, g0, g1, g2, g3, g4, g5, g6, c0, c1, c2, c3, c4, c5, c6, Bool.false_eq_true, decide_eq_true_eq]
    · simp (disch := omega) only [m_X8_append, m_X8_append_J18, m_X8_append_J40, m_X8_fails, hb, i20, i30, i40, i50, i60, i70, i80, i90, n0_0, n0_1, n0_2, n0_3, n0_4, n0_5, n0_6, n1_0, n1_1, n1_2, n1_3, n1_4, n1_5, n1_6, n2_0, n2_1, n2_2, n2_3, n2_4, n2_5, n2_6, n3_0, n3_1, n3_2, n3_3, n3_4, n3_5, n3_6, n4_0, n4_1, n4_2, n4_3, n4_4, n4_5, n4_6, n5_0, n5_1, n5_2, n5_3, n5_4, n5_5, n5_6, n6_0, n6_1, n6_2, n6_3, n6_4, n6_5, n6_6, nI_clamp, nI_1, bsm, nmd, gd_ix, gd_t, gd_bi, gd_b0, gd_b1, ite_b, ite_p, if_true, if_false, ite_true, ite_false, i10, i00, or0, add0, g0, g1, g2, g3, g4, g5, g6, c0, c1, c2, c3, c4, c5, c6, Bool.false_eq_true, decide_eq_true_eq]
  · obtain ⟨q1, q2⟩ := isB_iff.mp hb
    by_cases e : l = 80
    · have t1 : ((80 : Int32) ≤ nI l) = True := eq_true (by rw [e]; decide)
      have t2 : (nI l = (80 : Int32)) = True := eq_true (by rw [e]; decide)
      refine ⟨2, 0, g, l, a, b, ?_, ?_, fun q => absurd q (by decide), h⟩
      · simp (disch := omega) only [m_L_append, m_X7_append, m_X7_append_J17, m_X7_append_J37, m_X7_checkArgument, m_X7_checkState, q1, q2, t1, i20, i30, i40, i50, i60, i70, i80, i90, n0_0, n0_1, n0_2, n0_3, n0_4, n0_5, n0_6, n1_0, n1_1, n1_2, n1_3, n1_4, n1_5, n1_6, n2_0, n2_1, n2_2, n2_3, n2_4, n2_5, n2_6, n3_0, n3_1, n3_2, n3_3, n3_4, n3_5, n3_6, n4_0, n4_1, n4_2, n4_3, n4_4, n4_5, n4_6, n5_0, n5_1, n5_2, n5_3, n5_4, n5_5, n5_6, n6_0, n6_1, n6_2, n6_3, n6_4, n6_5, n6_6, nI_clamp, nI_1, bsm, nmd, gd_ix, gd_t, gd_bi, gd_b0, gd_b1, ite_b, ite_p, if_true, if_false, ite_true, ite_false, i10, i00, or0, add0, g0, g1, g2, g3, g4, g5, g6, c0, c1, c2, c3, c4, c5, c6, Bool.false_eq_true, decide_eq_true_eq]
      · simp (disch := omega) only [m_X8_append, m_X8_append_J18, m_X8_append_J40, m_X8_fails, hb, t2, i20, i30, i40, i50, i60, i70, i80, i90, n0_0, n0_1, n0_2, n0_3, n0_4, n0_5, n0_6, n1_0, n1_1, n1_2, n1_3, n1_4, n1_5, n1_6, n2_0, n2_1, n2_2, n2_3, n2_4, n2_5, n2_6, n3_0, n3_1, n3_2, n3_3, n3_4, n3_5, n3_6, n4_0, n4_1, n4_2, n4_3, n4_4, n4_5, n4_6, n5_0, n5_1, n5_2, n5_3, n5_4, n5_5, n5_6, n6_0, n6_1, n6_2, n6_3, n6_4, n6_5, n6_6, nI_clamp, nI_1, bsm, nmd, gd_ix, gd_t, gd_bi, gd_b0, gd_b1, ite_b, ite_p, if_true, if_false, ite_true, ite_false, i10, i00, or0, add0, g0, g1, g2, g3, g4, g5, g6, c0, c1, c2, c3, c4, c5, c6, Bool.false_eq_true, decide_eq_true_eq]
    · have t1 : ((80 : Int32) ≤ nI l) = False := lit_ge (b := 80) rfl (by omega) (by omega)
      have t2 : (nI l = (80 : Int32)) = False := eq_false fun q => e ((nI_eq (b := 80) (by omega) (by omega)).mp q)
      obtain ⟨v, v1, v2, rfl⟩ := isB_val2 (l := 32) (c := 126) rfl rfl (by omega) (by omega) hb
      have hn : vp_nar .char (nI v) = nI v := nar_e ⟨v, by omega⟩
      refine ⟨0, nI (l + 1), vp_updL g (0 : Int32).toNatClampNeg (Int32.toInt64 (nI (l + 1))), l + 1, upd a l (nI v), upd b l (nI v), ?_, ?_, fun _ => rfl, by omega, fun i hi => ?_⟩
      · simp (disch := omega) only [m_L_append, m_X7_append, m_X7_append_J17, m_X7_append_J37, m_X7_checkArgument, m_X7_checkState, m_X5_put, q1, q2, t1, hn, i20, i30, i40, i50, i60, i70, i80, i90, n0_0, n0_1, n0_2, n0_3, n0_4, n0_5, n0_6, n1_0, n1_1, n1_2, n1_3, n1_4, n1_5, n1_6, n2_0, n2_1, n2_2, n2_3, n2_4, n2_5, n2_6, n3_0, n3_1, n3_2, n3_3, n3_4, n3_5, n3_6, n4_0, n4_1, n4_2, n4_3, n4_4, n4_5, n4_6, n5_0, n5_1, n5_2, n5_3, n5_4, n5_5, n5_6, n6_0, n6_1, n6_2, n6_3, n6_4, n6_5, n6_6, nI_clamp, nI_1, bsm, nmd, gd_ix, gd_t, gd_bi, gd_b0, gd_b1, ite_b, ite_p, if_true, if_false, ite_true, ite_false, i10, i00, or0, add0, g0, g1, g2, g3, g4, g5, g6, c0, c1, c2, c3, c4, c5, c6, Bool.false_eq_true, decide_eq_true_eq]
      · simp (disch := omega) only [m_X8_append, m_X8_append_J18, m_X8_append_J40, m_X8_fails, hb, t2, hn, i20, i30, i40, i50, i60, i70, i80, i90, n0_0, n0_1, n0_2, n0_3, n0_4, n0_5, n0_6, n1_0, n1_1, n1_2, n1_3, n1_4, n1_5, n1_6, n2_0, n2_1, n2_2, n2_3, n2_4, n2_5, n2_6, n3_0, n3_1, n3_2, n3_3, n3_4, n3_5, n3_6, n4_0, n4_1, n4_2, n4_3, n4_4, n4_5, n4_6, n5_0, n5_1, n5_2, n5_3, n5_4, n5_5, n5_6, n6_0, n6_1, n6_2, n6_3, n6_4, n6_5, n6_6, nI_clamp, nI_1, bsm, nmd, gd_ix, gd_t, gd_bi, gd_b0, gd_b1, ite_b, ite_p, if_true, if_false, ite_true, ite_false, i10, i00, or0, add0, g0, g1, g2, g3, g4, g5, g6, c0, c1, c2, c3, c4, c5, c6, Bool.false_eq_true, decide_eq_true_eq]
      · by_cases q : i = l
        · rw [q, upd_same, upd_same]
          exact ⟨v, v1, v2, rfl, rfl⟩
        · rw [upd_ne q, upd_ne q]
          exact h.2 i (by omega)

