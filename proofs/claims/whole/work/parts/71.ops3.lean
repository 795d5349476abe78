/-! Calls that ask: easements, liens. -/
theorem X1_has_e2 : m_X1_has = m_X4_has := rfl
theorem X3_has_e2 : m_X3_has = m_X4_has := rfl
theorem X8_isE_y {E p : Nat} {n : Nat → Int32} (h1 : n 3 = nI E) (hp : p < E) (hE : E ≤ 30) : m_X8_isEasement (nI p) n = some 1 := by
  unfold m_X8_isEasement
  rw [g3, c3, h1, isB_cy hp (by omega), bsm, gd_b1]
theorem X8_isE_n {E : Nat} {x : Int32} {n : Nat → Int32} (h1 : n 3 = nI E) (h : ¬ ∃ p, p < E ∧ x = nI p) (hE : E ≤ 30) : m_X8_isEasement x n = some 0 := by
  unfold m_X8_isEasement
  rw [g3, c3, h1, isB_cn h (by omega), bsm, gd_b0]
theorem X8_isL_y {L p : Nat} {n : Nat → Int32} (h1 : n 4 = nI L) (hp : p < L) (hL : L ≤ 20) : m_X8_isLien (nI p) n = some 1 := by
  unfold m_X8_isLien
  rw [g4, c4, h1, isB_cy hp (by omega), bsm, gd_b1]
theorem X8_isL_n {L : Nat} {x : Int32} {n : Nat → Int32} (h1 : n 4 = nI L) (h : ¬ ∃ p, p < L ∧ x = nI p) (hL : L ≤ 20) : m_X8_isLien x n = some 0 := by
  unfold m_X8_isLien
  rw [g4, c4, h1, isB_cn h (by omega), bsm, gd_b0]

set_option maxHeartbeats 4000000 in
theorem op_easement {P D E L K dn : Nat} {ar fi la nb pa ro dp dg de dd ek eo es ef el lc lm lp lr n : Nat → Int32} (h : WC P D E L K dn ar fi la nb pa ro dp dg de dd ek eo es ef el lc lm lp lr n) (x1 : Int32) (x2 : Int32) (g : Nat → Int64) : ∃ k b g', m_L_easement x1 x2 (nI E) ek eo es ef el g = some (k, g') ∧ m_X8_easement x1 x2 n = some (b, k) ∧ (k = 0 → g' 0 = b.toInt64) := by
  obtain ⟨hI, hRD, hIE, hIL, hVP, hVE, hVL, hn0, hn6⟩ := h
  have hP := hI.le
  have hdl := hI.dl
  have hE := hIE.1
  have hL := hIL.1
  have hK := hIL.2.1
  have hD := hRD.1.1
  have hid := hRD.id2
  rcases par_or x1 E with hn | ⟨p, hp, rfl⟩
  · refine ⟨1, 0, g, ?_, ?_, fun q => absurd q (by decide)⟩
    · simp (disch := omega) only [m_L_easement, m_X7_easement, m_X7_checkNumber, m_X7_checkArgument, m_X7_checkState, m_X7_checkAnswer, isFrom_e, isPer_e, i20, i30, i40, i50, i60, i70, i80, i90, n0_0, n0_1, n0_2, n0_3, n0_4, n0_5, n0_6, n1_0, n1_1, n1_2, n1_3, n1_4, n1_5, n1_6, n2_0, n2_1, n2_2, n2_3, n2_4, n2_5, n2_6, n3_0, n3_1, n3_2, n3_3, n3_4, n3_5, n3_6, n4_0, n4_1, n4_2, n4_3, n4_4, n4_5, n4_6, n5_0, n5_1, n5_2, n5_3, n5_4, n5_5, n5_6, n6_0, n6_1, n6_2, n6_3, n6_4, n6_5, n6_6, nI_clamp, nI_1, bsm, nmd, gd_ix, gd_t, gd_bi, gd_b0, gd_b1, ite_b, ite_p, if_true, if_false, ite_true, ite_false, i10, i00, or0, add0, g0, g1, g2, g3, g4, g5, g6, c0, c1, c2, c3, c4, c5, c6, Bool.false_eq_true, decide_eq_true_eq, X1_has_e2, X3_has_e2, X4_has_n hn]
    · simp (disch := omega) only [m_X8_easement_J37, m_X8_easement_J15, m_X8_easement, m_X8_fails, isPer_e, i20, i30, i40, i50, i60, i70, i80, i90, n0_0, n0_1, n0_2, n0_3, n0_4, n0_5, n0_6, n1_0, n1_1, n1_2, n1_3, n1_4, n1_5, n1_6, n2_0, n2_1, n2_2, n2_3, n2_4, n2_5, n2_6, n3_0, n3_1, n3_2, n3_3, n3_4, n3_5, n3_6, n4_0, n4_1, n4_2, n4_3, n4_4, n4_5, n4_6, n5_0, n5_1, n5_2, n5_3, n5_4, n5_5, n5_6, n6_0, n6_1, n6_2, n6_3, n6_4, n6_5, n6_6, nI_clamp, nI_1, bsm, nmd, gd_ix, gd_t, gd_bi, gd_b0, gd_b1, ite_b, ite_p, if_true, if_false, ite_true, ite_false, i10, i00, or0, add0, g0, g1, g2, g3, g4, g5, g6, c0, c1, c2, c3, c4, c5, c6, Bool.false_eq_true, decide_eq_true_eq, X8_isE_n hVE.1 hn hE]
  · rcases isB_or x2 0 4 with hb | hb
    · refine ⟨2, 0, g, ?_, ?_, fun q => absurd q (by decide)⟩
      · simp (disch := omega) only [m_L_easement, m_X7_easement, m_X7_checkNumber, m_X7_checkArgument, m_X7_checkState, m_X7_checkAnswer, isFrom_e, isPer_e, i20, i30, i40, i50, i60, i70, i80, i90, n0_0, n0_1, n0_2, n0_3, n0_4, n0_5, n0_6, n1_0, n1_1, n1_2, n1_3, n1_4, n1_5, n1_6, n2_0, n2_1, n2_2, n2_3, n2_4, n2_5, n2_6, n3_0, n3_1, n3_2, n3_3, n3_4, n3_5, n3_6, n4_0, n4_1, n4_2, n4_3, n4_4, n4_5, n4_6, n5_0, n5_1, n5_2, n5_3, n5_4, n5_5, n5_6, n6_0, n6_1, n6_2, n6_3, n6_4, n6_5, n6_6, nI_clamp, nI_1, bsm, nmd, gd_ix, gd_t, gd_bi, gd_b0, gd_b1, ite_b, ite_p, if_true, if_false, ite_true, ite_false, i10, i00, or0, add0, g0, g1, g2, g3, g4, g5, g6, c0, c1, c2, c3, c4, c5, c6, Bool.false_eq_true, decide_eq_true_eq, X1_has_e2, X3_has_e2, X4_has_y hp, hb]
      · simp (disch := omega) only [m_X8_easement_J37, m_X8_easement_J15, m_X8_easement, m_X8_fails, isPer_e, i20, i30, i40, i50, i60, i70, i80, i90, n0_0, n0_1, n0_2, n0_3, n0_4, n0_5, n0_6, n1_0, n1_1, n1_2, n1_3, n1_4, n1_5, n1_6, n2_0, n2_1, n2_2, n2_3, n2_4, n2_5, n2_6, n3_0, n3_1, n3_2, n3_3, n3_4, n3_5, n3_6, n4_0, n4_1, n4_2, n4_3, n4_4, n4_5, n4_6, n5_0, n5_1, n5_2, n5_3, n5_4, n5_5, n5_6, n6_0, n6_1, n6_2, n6_3, n6_4, n6_5, n6_6, nI_clamp, nI_1, bsm, nmd, gd_ix, gd_t, gd_bi, gd_b0, gd_b1, ite_b, ite_p, if_true, if_false, ite_true, ite_false, i10, i00, or0, add0, g0, g1, g2, g3, g4, g5, g6, c0, c1, c2, c3, c4, c5, c6, Bool.false_eq_true, decide_eq_true_eq, X8_isE_y hVE.1 hp hE, hb]
    · obtain ⟨w, hw, rfl⟩ := isB_val (c := 4) rfl (by omega) hb
      have hcase : w = 0 ∨ w = 1 ∨ w = 2 ∨ w = 3 ∨ w = 4 := by omega
      rcases hcase with rfl | rfl | rfl | rfl | rfl
      · have hb9 : m_X8_isBetween (0 : Int32) 0 4 = some 1 := hb
        show ∃ k b g', m_L_easement (nI p) (0 : Int32) (nI E) ek eo es ef el g = some (k, g') ∧ m_X8_easement (nI p) (0 : Int32) n = some (b, k) ∧ (k = 0 → g' 0 = b.toInt64)
        refine ⟨0, ek p, vp_updL g (0 : Int32).toNatClampNeg (Int32.toInt64 (ek p)), ?_, ?_, fun _ => rfl⟩
        · simp (disch := omega) only [m_L_easement, m_X7_easement, m_X7_checkNumber, m_X7_checkArgument, m_X7_checkState, m_X7_checkAnswer, isFrom_e, isPer_e, i20, i30, i40, i50, i60, i70, i80, i90, n0_0, n0_1, n0_2, n0_3, n0_4, n0_5, n0_6, n1_0, n1_1, n1_2, n1_3, n1_4, n1_5, n1_6, n2_0, n2_1, n2_2, n2_3, n2_4, n2_5, n2_6, n3_0, n3_1, n3_2, n3_3, n3_4, n3_5, n3_6, n4_0, n4_1, n4_2, n4_3, n4_4, n4_5, n4_6, n5_0, n5_1, n5_2, n5_3, n5_4, n5_5, n5_6, n6_0, n6_1, n6_2, n6_3, n6_4, n6_5, n6_6, nI_clamp, nI_1, bsm, nmd, gd_ix, gd_t, gd_bi, gd_b0, gd_b1, ite_b, ite_p, if_true, if_false, ite_true, ite_false, i10, i00, or0, add0, g0, g1, g2, g3, g4, g5, g6, c0, c1, c2, c3, c4, c5, c6, Bool.false_eq_true, decide_eq_true_eq, X1_has_e2, X3_has_e2, X4_has_y hp, hb9, show ((0 : Int32) = 1) = False from by decide, show ((0 : Int32) = 2) = False from by decide, show ((0 : Int32) = 3) = False from by decide, show ((0 : Int32) = 4) = False from by decide]
        · simp (disch := omega) only [m_X8_easement_J37, m_X8_easement_J15, m_X8_easement, m_X8_fails, isPer_e, i20, i30, i40, i50, i60, i70, i80, i90, n0_0, n0_1, n0_2, n0_3, n0_4, n0_5, n0_6, n1_0, n1_1, n1_2, n1_3, n1_4, n1_5, n1_6, n2_0, n2_1, n2_2, n2_3, n2_4, n2_5, n2_6, n3_0, n3_1, n3_2, n3_3, n3_4, n3_5, n3_6, n4_0, n4_1, n4_2, n4_3, n4_4, n4_5, n4_6, n5_0, n5_1, n5_2, n5_3, n5_4, n5_5, n5_6, n6_0, n6_1, n6_2, n6_3, n6_4, n6_5, n6_6, nI_clamp, nI_1, bsm, nmd, gd_ix, gd_t, gd_bi, gd_b0, gd_b1, ite_b, ite_p, if_true, if_false, ite_true, ite_false, i10, i00, or0, add0, g0, g1, g2, g3, g4, g5, g6, c0, c1, c2, c3, c4, c5, c6, Bool.false_eq_true, decide_eq_true_eq, X8_isE_y hVE.1 hp hE, hb9, show ((0 : Int32) = 1) = False from by decide, show ((0 : Int32) = 2) = False from by decide, show ((0 : Int32) = 3) = False from by decide, show ((0 : Int32) = 4) = False from by decide, hVE.ek hE hp]
      · have hb9 : m_X8_isBetween (1 : Int32) 0 4 = some 1 := hb
        show ∃ k b g', m_L_easement (nI p) (1 : Int32) (nI E) ek eo es ef el g = some (k, g') ∧ m_X8_easement (nI p) (1 : Int32) n = some (b, k) ∧ (k = 0 → g' 0 = b.toInt64)
        refine ⟨0, eo p, vp_updL g (0 : Int32).toNatClampNeg (Int32.toInt64 (eo p)), ?_, ?_, fun _ => rfl⟩
        · simp (disch := omega) only [m_L_easement, m_X7_easement, m_X7_checkNumber, m_X7_checkArgument, m_X7_checkState, m_X7_checkAnswer, isFrom_e, isPer_e, i20, i30, i40, i50, i60, i70, i80, i90, n0_0, n0_1, n0_2, n0_3, n0_4, n0_5, n0_6, n1_0, n1_1, n1_2, n1_3, n1_4, n1_5, n1_6, n2_0, n2_1, n2_2, n2_3, n2_4, n2_5, n2_6, n3_0, n3_1, n3_2, n3_3, n3_4, n3_5, n3_6, n4_0, n4_1, n4_2, n4_3, n4_4, n4_5, n4_6, n5_0, n5_1, n5_2, n5_3, n5_4, n5_5, n5_6, n6_0, n6_1, n6_2, n6_3, n6_4, n6_5, n6_6, nI_clamp, nI_1, bsm, nmd, gd_ix, gd_t, gd_bi, gd_b0, gd_b1, ite_b, ite_p, if_true, if_false, ite_true, ite_false, i10, i00, or0, add0, g0, g1, g2, g3, g4, g5, g6, c0, c1, c2, c3, c4, c5, c6, Bool.false_eq_true, decide_eq_true_eq, X1_has_e2, X3_has_e2, X4_has_y hp, hb9, show ((1 : Int32) = 1) = True from by decide, show ((1 : Int32) = 2) = False from by decide, show ((1 : Int32) = 3) = False from by decide, show ((1 : Int32) = 4) = False from by decide]
        · simp (disch := omega) only [m_X8_easement_J37, m_X8_easement_J15, m_X8_easement, m_X8_fails, isPer_e, i20, i30, i40, i50, i60, i70, i80, i90, n0_0, n0_1, n0_2, n0_3, n0_4, n0_5, n0_6, n1_0, n1_1, n1_2, n1_3, n1_4, n1_5, n1_6, n2_0, n2_1, n2_2, n2_3, n2_4, n2_5, n2_6, n3_0, n3_1, n3_2, n3_3, n3_4, n3_5, n3_6, n4_0, n4_1, n4_2, n4_3, n4_4, n4_5, n4_6, n5_0, n5_1, n5_2, n5_3, n5_4, n5_5, n5_6, n6_0, n6_1, n6_2, n6_3, n6_4, n6_5, n6_6, nI_clamp, nI_1, bsm, nmd, gd_ix, gd_t, gd_bi, gd_b0, gd_b1, ite_b, ite_p, if_true, if_false, ite_true, ite_false, i10, i00, or0, add0, g0, g1, g2, g3, g4, g5, g6, c0, c1, c2, c3, c4, c5, c6, Bool.false_eq_true, decide_eq_true_eq, X8_isE_y hVE.1 hp hE, hb9, show ((1 : Int32) = 1) = True from by decide, show ((1 : Int32) = 2) = False from by decide, show ((1 : Int32) = 3) = False from by decide, show ((1 : Int32) = 4) = False from by decide, hVE.eo hE hp]
      · have hb9 : m_X8_isBetween (2 : Int32) 0 4 = some 1 := hb
        show ∃ k b g', m_L_easement (nI p) (2 : Int32) (nI E) ek eo es ef el g = some (k, g') ∧ m_X8_easement (nI p) (2 : Int32) n = some (b, k) ∧ (k = 0 → g' 0 = b.toInt64)
        refine ⟨0, es p, vp_updL g (0 : Int32).toNatClampNeg (Int32.toInt64 (es p)), ?_, ?_, fun _ => rfl⟩
        · simp (disch := omega) only [m_L_easement, m_X7_easement, m_X7_checkNumber, m_X7_checkArgument, m_X7_checkState, m_X7_checkAnswer, isFrom_e, isPer_e, i20, i30, i40, i50, i60, i70, i80, i90, n0_0, n0_1, n0_2, n0_3, n0_4, n0_5, n0_6, n1_0, n1_1, n1_2, n1_3, n1_4, n1_5, n1_6, n2_0, n2_1, n2_2, n2_3, n2_4, n2_5, n2_6, n3_0, n3_1, n3_2, n3_3, n3_4, n3_5, n3_6, n4_0, n4_1, n4_2, n4_3, n4_4, n4_5, n4_6, n5_0, n5_1, n5_2, n5_3, n5_4, n5_5, n5_6, n6_0, n6_1, n6_2, n6_3, n6_4, n6_5, n6_6, nI_clamp, nI_1, bsm, nmd, gd_ix, gd_t, gd_bi, gd_b0, gd_b1, ite_b, ite_p, if_true, if_false, ite_true, ite_false, i10, i00, or0, add0, g0, g1, g2, g3, g4, g5, g6, c0, c1, c2, c3, c4, c5, c6, Bool.false_eq_true, decide_eq_true_eq, X1_has_e2, X3_has_e2, X4_has_y hp, hb9, show ((2 : Int32) = 1) = False from by decide, show ((2 : Int32) = 2) = True from by decide, show ((2 : Int32) = 3) = False from by decide, show ((2 : Int32) = 4) = False from by decide]
        · simp (disch := omega) only [m_X8_easement_J37, m_X8_easement_J15, m_X8_easement, m_X8_fails, isPer_e, i20, i30, i40, i50, i60, i70, i80, i90, n0_0, n0_1, n0_2, n0_3, n0_4, n0_5, n0_6, n1_0, n1_1, n1_2, n1_3, n1_4, n1_5, n1_6, n2_0, n2_1, n2_2, n2_3, n2_4, n2_5, n2_6, n3_0, n3_1, n3_2, n3_3, n3_4, n3_5, n3_6, n4_0, n4_1, n4_2, n4_3, n4_4, n4_5, n4_6, n5_0, n5_1, n5_2, n5_3, n5_4, n5_5, n5_6, n6_0, n6_1, n6_2, n6_3, n6_4, n6_5, n6_6, nI_clamp, nI_1, bsm, nmd, gd_ix, gd_t, gd_bi, gd_b0, gd_b1, ite_b, ite_p, if_true, if_false, ite_true, ite_false, i10, i00, or0, add0, g0, g1, g2, g3, g4, g5, g6, c0, c1, c2, c3, c4, c5, c6, Bool.false_eq_true, decide_eq_true_eq, X8_isE_y hVE.1 hp hE, hb9, show ((2 : Int32) = 1) = False from by decide, show ((2 : Int32) = 2) = True from by decide, show ((2 : Int32) = 3) = False from by decide, show ((2 : Int32) = 4) = False from by decide, hVE.es hE hp]
      · have hb9 : m_X8_isBetween (3 : Int32) 0 4 = some 1 := hb
        show ∃ k b g', m_L_easement (nI p) (3 : Int32) (nI E) ek eo es ef el g = some (k, g') ∧ m_X8_easement (nI p) (3 : Int32) n = some (b, k) ∧ (k = 0 → g' 0 = b.toInt64)
        refine ⟨0, ef p, vp_updL g (0 : Int32).toNatClampNeg (Int32.toInt64 (ef p)), ?_, ?_, fun _ => rfl⟩
        · simp (disch := omega) only [m_L_easement, m_X7_easement, m_X7_checkNumber, m_X7_checkArgument, m_X7_checkState, m_X7_checkAnswer, isFrom_e, isPer_e, i20, i30, i40, i50, i60, i70, i80, i90, n0_0, n0_1, n0_2, n0_3, n0_4, n0_5, n0_6, n1_0, n1_1, n1_2, n1_3, n1_4, n1_5, n1_6, n2_0, n2_1, n2_2, n2_3, n2_4, n2_5, n2_6, n3_0, n3_1, n3_2, n3_3, n3_4, n3_5, n3_6, n4_0, n4_1, n4_2, n4_3, n4_4, n4_5, n4_6, n5_0, n5_1, n5_2, n5_3, n5_4, n5_5, n5_6, n6_0, n6_1, n6_2, n6_3, n6_4, n6_5, n6_6, nI_clamp, nI_1, bsm, nmd, gd_ix, gd_t, gd_bi, gd_b0, gd_b1, ite_b, ite_p, if_true, if_false, ite_true, ite_false, i10, i00, or0, add0, g0, g1, g2, g3, g4, g5, g6, c0, c1, c2, c3, c4, c5, c6, Bool.false_eq_true, decide_eq_true_eq, X1_has_e2, X3_has_e2, X4_has_y hp, hb9, show ((3 : Int32) = 1) = False from by decide, show ((3 : Int32) = 2) = False from by decide, show ((3 : Int32) = 3) = True from by decide, show ((3 : Int32) = 4) = False from by decide]
        · simp (disch := omega) only [m_X8_easement_J37, m_X8_easement_J15, m_X8_easement, m_X8_fails, isPer_e, i20, i30, i40, i50, i60, i70, i80, i90, n0_0, n0_1, n0_2, n0_3, n0_4, n0_5, n0_6, n1_0, n1_1, n1_2, n1_3, n1_4, n1_5, n1_6, n2_0, n2_1, n2_2, n2_3, n2_4, n2_5, n2_6, n3_0, n3_1, n3_2, n3_3, n3_4, n3_5, n3_6, n4_0, n4_1, n4_2, n4_3, n4_4, n4_5, n4_6, n5_0, n5_1, n5_2, n5_3, n5_4, n5_5, n5_6, n6_0, n6_1, n6_2, n6_3, n6_4, n6_5, n6_6, nI_clamp, nI_1, bsm, nmd, gd_ix, gd_t, gd_bi, gd_b0, gd_b1, ite_b, ite_p, if_true, if_false, ite_true, ite_false, i10, i00, or0, add0, g0, g1, g2, g3, g4, g5, g6, c0, c1, c2, c3, c4, c5, c6, Bool.false_eq_true, decide_eq_true_eq, X8_isE_y hVE.1 hp hE, hb9, show ((3 : Int32) = 1) = False from by decide, show ((3 : Int32) = 2) = False from by decide, show ((3 : Int32) = 3) = True from by decide, show ((3 : Int32) = 4) = False from by decide, hVE.ef hE hp]
      · have hb9 : m_X8_isBetween (4 : Int32) 0 4 = some 1 := hb
        show ∃ k b g', m_L_easement (nI p) (4 : Int32) (nI E) ek eo es ef el g = some (k, g') ∧ m_X8_easement (nI p) (4 : Int32) n = some (b, k) ∧ (k = 0 → g' 0 = b.toInt64)
        refine ⟨0, el p, vp_updL g (0 : Int32).toNatClampNeg (Int32.toInt64 (el p)), ?_, ?_, fun _ => rfl⟩
        · simp (disch := omega) only [m_L_easement, m_X7_easement, m_X7_checkNumber, m_X7_checkArgument, m_X7_checkState, m_X7_checkAnswer, isFrom_e, isPer_e, i20, i30, i40, i50, i60, i70, i80, i90, n0_0, n0_1, n0_2, n0_3, n0_4, n0_5, n0_6, n1_0, n1_1, n1_2, n1_3, n1_4, n1_5, n1_6, n2_0, n2_1, n2_2, n2_3, n2_4, n2_5, n2_6, n3_0, n3_1, n3_2, n3_3, n3_4, n3_5, n3_6, n4_0, n4_1, n4_2, n4_3, n4_4, n4_5, n4_6, n5_0, n5_1, n5_2, n5_3, n5_4, n5_5, n5_6, n6_0, n6_1, n6_2, n6_3, n6_4, n6_5, n6_6, nI_clamp, nI_1, bsm, nmd, gd_ix, gd_t, gd_bi, gd_b0, gd_b1, ite_b, ite_p, if_true, if_false, ite_true, ite_false, i10, i00, or0, add0, g0, g1, g2, g3, g4, g5, g6, c0, c1, c2, c3, c4, c5, c6, Bool.false_eq_true, decide_eq_true_eq, X1_has_e2, X3_has_e2, X4_has_y hp, hb9, show ((4 : Int32) = 1) = False from by decide, show ((4 : Int32) = 2) = False from by decide, show ((4 : Int32) = 3) = False from by decide, show ((4 : Int32) = 4) = True from by decide]
        · simp (disch := omega) only [m_X8_easement_J37, m_X8_easement_J15, m_X8_easement, m_X8_fails, isPer_e, i20, i30, i40, i50, i60, i70, i80, i90, n0_0, n0_1, n0_2, n0_3, n0_4, n0_5, n0_6, n1_0, n1_1, n1_2, n1_3, n1_4, n1_5, n1_6, n2_0, n2_1, n2_2, n2_3, n2_4, n2_5, n2_6, n3_0, n3_1, n3_2, n3_3, n3_4, n3_5, n3_6, n4_0, n4_1, n4_2, n4_3, n4_4, n4_5, n4_6, n5_0, n5_1, n5_2, n5_3, n5_4, n5_5, n5_6, n6_0, n6_1, n6_2, n6_3, n6_4, n6_5, n6_6, nI_clamp, nI_1, bsm, nmd, gd_ix, gd_t, gd_bi, gd_b0, gd_b1, ite_b, ite_p, if_true, if_false, ite_true, ite_false, i10, i00, or0, add0, g0, g1, g2, g3, g4, g5, g6, c0, c1, c2, c3, c4, c5, c6, Bool.false_eq_true, decide_eq_true_eq, X8_isE_y hVE.1 hp hE, hb9, show ((4 : Int32) = 1) = False from by decide, show ((4 : Int32) = 2) = False from by decide, show ((4 : Int32) = 3) = False from by decide, show ((4 : Int32) = 4) = True from by decide, hVE.el hE hp]

set_option maxHeartbeats 1000000 in
theorem X8_easements0 {E P dn : Nat} {ek eo es ef el n : Nat → Int32} (h : IE E P dn ek eo es ef el) (hV : VE E ek eo es ef el n) (hd : dn ≤ 9999) (y z v : Int32) : fuel (m_X8_easements_L28 n y z v) FU (0, 0) = some (foldN (sOr (bLv el (if z = 0 then es else eo) y) pw) 0 E, v) := by
  have hE := h.1
  refine for_up (c := E) (fun s x => (s, x)) (sOr (bLv el (if z = 0 then es else eo) y) pw) 0 (by omega) (fun rec i hi => ?_) (fun rec => ?_)
  · generalize foldN (sOr (bLv el (if z = 0 then es else eo) y) pw) 0 i = s
    have hy := X8_lasts (P := 0) (dn := 0) hV hE hi (h.day hd hi)
    by_cases q0 : z = 0
    · by_cases q1 : el i = -1
      all_goals by_cases q2 : es i = y
      all_goals simp (disch := omega) only [m_X8_easements_L28, m_X8_easements_J61, hV.1, lp_go, hy, q0, q1, q2, hV.es hE hi, hV.eo hE hi, sOr, bLv, Bool.and_eq_true, and_true, true_and, and_false, false_and, and_self, m_X8_bit, nI_clamp, nI_1, bsm, nmd, gd_ix, gd_t, gd_bi, gd_b0, gd_b1, ite_b, ite_p, if_true, if_false, ite_true, ite_false, i10, i00, or0, add0, g0, g1, g2, g3, g4, g5, g6, c0, c1, c2, c3, c4, c5, c6, Bool.false_eq_true, decide_eq_true_eq]
    · by_cases q1 : el i = -1
      all_goals by_cases q2 : eo i = y
      all_goals simp (disch := omega) only [m_X8_easements_L28, m_X8_easements_J61, hV.1, lp_go, hy, q0, q1, q2, hV.es hE hi, hV.eo hE hi, sOr, bLv, Bool.and_eq_true, and_true, true_and, and_false, false_and, and_self, m_X8_bit, nI_clamp, nI_1, bsm, nmd, gd_ix, gd_t, gd_bi, gd_b0, gd_b1, ite_b, ite_p, if_true, if_false, ite_true, ite_false, i10, i00, or0, add0, g0, g1, g2, g3, g4, g5, g6, c0, c1, c2, c3, c4, c5, c6, Bool.false_eq_true, decide_eq_true_eq]
  · simp (disch := omega) only [m_X8_easements_L28, lp_end, Nat.le_refl, hV.1, nI_clamp, nI_1, bsm, nmd, gd_ix, gd_t, gd_bi, gd_b0, gd_b1, ite_b, ite_p, if_true, if_false, ite_true, ite_false, i10, i00, or0, add0, g0, g1, g2, g3, g4, g5, g6, c0, c1, c2, c3, c4, c5, c6, Bool.false_eq_true, decide_eq_true_eq]

set_option maxHeartbeats 4000000 in
theorem op_easements {P D E L K dn : Nat} {ar fi la nb pa ro dp dg de dd ek eo es ef el lc lm lp lr n : Nat → Int32} (h : WC P D E L K dn ar fi la nb pa ro dp dg de dd ek eo es ef el lc lm lp lr n) (x1 : Int32) (x2 : Int32) (g : Nat → Int64) : ∃ k b g', m_L_easements x1 x2 (nI P) (nI E) eo es el g = some (k, g') ∧ m_X8_easements x1 x2 n = some (b, k) ∧ (k = 0 → g' 0 = b.toInt64) := by
  obtain ⟨hI, hRD, hIE, hIL, hVP, hVE, hVL, hn0, hn6⟩ := h
  have hP := hI.le
  have hdl := hI.dl
  have hE := hIE.1
  have hL := hIL.1
  have hK := hIL.2.1
  have hD := hRD.1.1
  have hid := hRD.id2
  rcases par_or x1 P with hn | ⟨p, hp, rfl⟩
  · refine ⟨1, 0, g, ?_, ?_, fun q => absurd q (by decide)⟩
    · simp (disch := omega) only [m_L_easements, m_X7_easements, m_X7_checkNumber, m_X7_checkArgument, m_X7_checkState, m_X7_checkAnswer, isFrom_e, isPer_e, i20, i30, i40, i50, i60, i70, i80, i90, n0_0, n0_1, n0_2, n0_3, n0_4, n0_5, n0_6, n1_0, n1_1, n1_2, n1_3, n1_4, n1_5, n1_6, n2_0, n2_1, n2_2, n2_3, n2_4, n2_5, n2_6, n3_0, n3_1, n3_2, n3_3, n3_4, n3_5, n3_6, n4_0, n4_1, n4_2, n4_3, n4_4, n4_5, n4_6, n5_0, n5_1, n5_2, n5_3, n5_4, n5_5, n5_6, n6_0, n6_1, n6_2, n6_3, n6_4, n6_5, n6_6, nI_clamp, nI_1, bsm, nmd, gd_ix, gd_t, gd_bi, gd_b0, gd_b1, ite_b, ite_p, if_true, if_false, ite_true, ite_false, i10, i00, or0, add0, g0, g1, g2, g3, g4, g5, g6, c0, c1, c2, c3, c4, c5, c6, Bool.false_eq_true, decide_eq_true_eq, X4_has_n hn]
    · simp (disch := omega) only [m_X8_easements_J61, m_X8_easements_J15, m_X8_easements, m_X8_fails, isPer_e, i20, i30, i40, i50, i60, i70, i80, i90, n0_0, n0_1, n0_2, n0_3, n0_4, n0_5, n0_6, n1_0, n1_1, n1_2, n1_3, n1_4, n1_5, n1_6, n2_0, n2_1, n2_2, n2_3, n2_4, n2_5, n2_6, n3_0, n3_1, n3_2, n3_3, n3_4, n3_5, n3_6, n4_0, n4_1, n4_2, n4_3, n4_4, n4_5, n4_6, n5_0, n5_1, n5_2, n5_3, n5_4, n5_5, n5_6, n6_0, n6_1, n6_2, n6_3, n6_4, n6_5, n6_6, nI_clamp, nI_1, bsm, nmd, gd_ix, gd_t, gd_bi, gd_b0, gd_b1, ite_b, ite_p, if_true, if_false, ite_true, ite_false, i10, i00, or0, add0, g0, g1, g2, g3, g4, g5, g6, c0, c1, c2, c3, c4, c5, c6, Bool.false_eq_true, decide_eq_true_eq, X8_isP_n hVP.1 hn hP]
  · by_cases q0 : x2 = 0
    · refine ⟨0, foldN (sOr (bLv el es (nI p)) pw) 0 E, vp_updL g (0 : Int32).toNatClampNeg (Int32.toInt64 (foldN (sOr (bLv el es (nI p)) pw) 0 E)), ?_, ?_, fun _ => rfl⟩
      · simp (disch := omega) only [m_L_easements, m_X7_easements, m_X7_checkNumber, m_X7_checkArgument, m_X7_checkState, m_X7_checkAnswer, isFrom_e, isPer_e, i20, i30, i40, i50, i60, i70, i80, i90, n0_0, n0_1, n0_2, n0_3, n0_4, n0_5, n0_6, n1_0, n1_1, n1_2, n1_3, n1_4, n1_5, n1_6, n2_0, n2_1, n2_2, n2_3, n2_4, n2_5, n2_6, n3_0, n3_1, n3_2, n3_3, n3_4, n3_5, n3_6, n4_0, n4_1, n4_2, n4_3, n4_4, n4_5, n4_6, n5_0, n5_1, n5_2, n5_3, n5_4, n5_5, n5_6, n6_0, n6_1, n6_2, n6_3, n6_4, n6_5, n6_6, nI_clamp, nI_1, bsm, nmd, gd_ix, gd_t, gd_bi, gd_b0, gd_b1, ite_b, ite_p, if_true, if_false, ite_true, ite_false, i10, i00, or0, add0, g0, g1, g2, g3, g4, g5, g6, c0, c1, c2, c3, c4, c5, c6, Bool.false_eq_true, decide_eq_true_eq, X4_has_y hp, X1_liveFor hE, q0]
      · simp (disch := omega) only [m_X8_easements_J61, m_X8_easements_J15, m_X8_easements, m_X8_fails, isPer_e, i20, i30, i40, i50, i60, i70, i80, i90, n0_0, n0_1, n0_2, n0_3, n0_4, n0_5, n0_6, n1_0, n1_1, n1_2, n1_3, n1_4, n1_5, n1_6, n2_0, n2_1, n2_2, n2_3, n2_4, n2_5, n2_6, n3_0, n3_1, n3_2, n3_3, n3_4, n3_5, n3_6, n4_0, n4_1, n4_2, n4_3, n4_4, n4_5, n4_6, n5_0, n5_1, n5_2, n5_3, n5_4, n5_5, n5_6, n6_0, n6_1, n6_2, n6_3, n6_4, n6_5, n6_6, nI_clamp, nI_1, bsm, nmd, gd_ix, gd_t, gd_bi, gd_b0, gd_b1, ite_b, ite_p, if_true, if_false, ite_true, ite_false, i10, i00, or0, add0, g0, g1, g2, g3, g4, g5, g6, c0, c1, c2, c3, c4, c5, c6, Bool.false_eq_true, decide_eq_true_eq, X8_isP_y hVP.1 hp hP, X8_easements0 hIE hVE hdl, q0]
    · refine ⟨0, foldN (sOr (bLv el eo (nI p)) pw) 0 E, vp_updL g (0 : Int32).toNatClampNeg (Int32.toInt64 (foldN (sOr (bLv el eo (nI p)) pw) 0 E)), ?_, ?_, fun _ => rfl⟩
      · simp (disch := omega) only [m_L_easements, m_X7_easements, m_X7_checkNumber, m_X7_checkArgument, m_X7_checkState, m_X7_checkAnswer, isFrom_e, isPer_e, i20, i30, i40, i50, i60, i70, i80, i90, n0_0, n0_1, n0_2, n0_3, n0_4, n0_5, n0_6, n1_0, n1_1, n1_2, n1_3, n1_4, n1_5, n1_6, n2_0, n2_1, n2_2, n2_3, n2_4, n2_5, n2_6, n3_0, n3_1, n3_2, n3_3, n3_4, n3_5, n3_6, n4_0, n4_1, n4_2, n4_3, n4_4, n4_5, n4_6, n5_0, n5_1, n5_2, n5_3, n5_4, n5_5, n5_6, n6_0, n6_1, n6_2, n6_3, n6_4, n6_5, n6_6, nI_clamp, nI_1, bsm, nmd, gd_ix, gd_t, gd_bi, gd_b0, gd_b1, ite_b, ite_p, if_true, if_false, ite_true, ite_false, i10, i00, or0, add0, g0, g1, g2, g3, g4, g5, g6, c0, c1, c2, c3, c4, c5, c6, Bool.false_eq_true, decide_eq_true_eq, X4_has_y hp, X1_liveOn hE, q0]
      · simp (disch := omega) only [m_X8_easements_J61, m_X8_easements_J15, m_X8_easements, m_X8_fails, isPer_e, i20, i30, i40, i50, i60, i70, i80, i90, n0_0, n0_1, n0_2, n0_3, n0_4, n0_5, n0_6, n1_0, n1_1, n1_2, n1_3, n1_4, n1_5, n1_6, n2_0, n2_1, n2_2, n2_3, n2_4, n2_5, n2_6, n3_0, n3_1, n3_2, n3_3, n3_4, n3_5, n3_6, n4_0, n4_1, n4_2, n4_3, n4_4, n4_5, n4_6, n5_0, n5_1, n5_2, n5_3, n5_4, n5_5, n5_6, n6_0, n6_1, n6_2, n6_3, n6_4, n6_5, n6_6, nI_clamp, nI_1, bsm, nmd, gd_ix, gd_t, gd_bi, gd_b0, gd_b1, ite_b, ite_p, if_true, if_false, ite_true, ite_false, i10, i00, or0, add0, g0, g1, g2, g3, g4, g5, g6, c0, c1, c2, c3, c4, c5, c6, Bool.false_eq_true, decide_eq_true_eq, X8_isP_y hVP.1 hp hP, X8_easements0 hIE hVE hdl, q0]

set_option maxHeartbeats 4000000 in
theorem op_access {P D E L K dn : Nat} {ar fi la nb pa ro dp dg de dd ek eo es ef el lc lm lp lr n : Nat → Int32} (h : WC P D E L K dn ar fi la nb pa ro dp dg de dd ek eo es ef el lc lm lp lr n) (x1 : Int32) (x2 : Int32) (g : Nat → Int64) : ∃ k b g', m_L_access x1 x2 (nI P) (nI E) ek eo es el g = some (k, g') ∧ m_X8_access x1 x2 n = some (b, k) ∧ (k = 0 → g' 0 = b.toInt64) := by
  obtain ⟨hI, hRD, hIE, hIL, hVP, hVE, hVL, hn0, hn6⟩ := h
  have hP := hI.le
  have hdl := hI.dl
  have hE := hIE.1
  have hL := hIL.1
  have hK := hIL.2.1
  have hD := hRD.1.1
  have hid := hRD.id2
  rcases par_or x1 P with hn | ⟨p, hp, rfl⟩
  · refine ⟨1, 0, g, ?_, ?_, fun q => absurd q (by decide)⟩
    · simp (disch := omega) only [m_L_access, m_X7_access, m_X7_checkNumber, m_X7_checkArgument, m_X7_checkState, m_X7_checkAnswer, isFrom_e, isPer_e, i20, i30, i40, i50, i60, i70, i80, i90, n0_0, n0_1, n0_2, n0_3, n0_4, n0_5, n0_6, n1_0, n1_1, n1_2, n1_3, n1_4, n1_5, n1_6, n2_0, n2_1, n2_2, n2_3, n2_4, n2_5, n2_6, n3_0, n3_1, n3_2, n3_3, n3_4, n3_5, n3_6, n4_0, n4_1, n4_2, n4_3, n4_4, n4_5, n4_6, n5_0, n5_1, n5_2, n5_3, n5_4, n5_5, n5_6, n6_0, n6_1, n6_2, n6_3, n6_4, n6_5, n6_6, nI_clamp, nI_1, bsm, nmd, gd_ix, gd_t, gd_bi, gd_b0, gd_b1, ite_b, ite_p, if_true, if_false, ite_true, ite_false, i10, i00, or0, add0, g0, g1, g2, g3, g4, g5, g6, c0, c1, c2, c3, c4, c5, c6, Bool.false_eq_true, decide_eq_true_eq, X4_has_n hn]
    · simp (disch := omega) only [m_X8_access_J146, m_X8_access_J113, m_X8_access_J35, m_X8_access_J15, m_X8_access, m_X8_fails, isPer_e, i20, i30, i40, i50, i60, i70, i80, i90, n0_0, n0_1, n0_2, n0_3, n0_4, n0_5, n0_6, n1_0, n1_1, n1_2, n1_3, n1_4, n1_5, n1_6, n2_0, n2_1, n2_2, n2_3, n2_4, n2_5, n2_6, n3_0, n3_1, n3_2, n3_3, n3_4, n3_5, n3_6, n4_0, n4_1, n4_2, n4_3, n4_4, n4_5, n4_6, n5_0, n5_1, n5_2, n5_3, n5_4, n5_5, n5_6, n6_0, n6_1, n6_2, n6_3, n6_4, n6_5, n6_6, nI_clamp, nI_1, bsm, nmd, gd_ix, gd_t, gd_bi, gd_b0, gd_b1, ite_b, ite_p, if_true, if_false, ite_true, ite_false, i10, i00, or0, add0, g0, g1, g2, g3, g4, g5, g6, c0, c1, c2, c3, c4, c5, c6, Bool.false_eq_true, decide_eq_true_eq, X8_isP_n hVP.1 hn hP]
  · rcases isB_or x2 0 3 with hb | hb
    · refine ⟨2, 0, g, ?_, ?_, fun q => absurd q (by decide)⟩
      · simp (disch := omega) only [m_L_access, m_X7_access, m_X7_checkNumber, m_X7_checkArgument, m_X7_checkState, m_X7_checkAnswer, isFrom_e, isPer_e, i20, i30, i40, i50, i60, i70, i80, i90, n0_0, n0_1, n0_2, n0_3, n0_4, n0_5, n0_6, n1_0, n1_1, n1_2, n1_3, n1_4, n1_5, n1_6, n2_0, n2_1, n2_2, n2_3, n2_4, n2_5, n2_6, n3_0, n3_1, n3_2, n3_3, n3_4, n3_5, n3_6, n4_0, n4_1, n4_2, n4_3, n4_4, n4_5, n4_6, n5_0, n5_1, n5_2, n5_3, n5_4, n5_5, n5_6, n6_0, n6_1, n6_2, n6_3, n6_4, n6_5, n6_6, nI_clamp, nI_1, bsm, nmd, gd_ix, gd_t, gd_bi, gd_b0, gd_b1, ite_b, ite_p, if_true, if_false, ite_true, ite_false, i10, i00, or0, add0, g0, g1, g2, g3, g4, g5, g6, c0, c1, c2, c3, c4, c5, c6, Bool.false_eq_true, decide_eq_true_eq, X4_has_y hp, hb]
      · simp (disch := omega) only [m_X8_access_J146, m_X8_access_J113, m_X8_access_J35, m_X8_access_J15, m_X8_access, m_X8_fails, isPer_e, i20, i30, i40, i50, i60, i70, i80, i90, n0_0, n0_1, n0_2, n0_3, n0_4, n0_5, n0_6, n1_0, n1_1, n1_2, n1_3, n1_4, n1_5, n1_6, n2_0, n2_1, n2_2, n2_3, n2_4, n2_5, n2_6, n3_0, n3_1, n3_2, n3_3, n3_4, n3_5, n3_6, n4_0, n4_1, n4_2, n4_3, n4_4, n4_5, n4_6, n5_0, n5_1, n5_2, n5_3, n5_4, n5_5, n5_6, n6_0, n6_1, n6_2, n6_3, n6_4, n6_5, n6_6, nI_clamp, nI_1, bsm, nmd, gd_ix, gd_t, gd_bi, gd_b0, gd_b1, ite_b, ite_p, if_true, if_false, ite_true, ite_false, i10, i00, or0, add0, g0, g1, g2, g3, g4, g5, g6, c0, c1, c2, c3, c4, c5, c6, Bool.false_eq_true, decide_eq_true_eq, X8_isP_y hVP.1 hp hP, m_X8_isKind, hb]
    · refine ⟨0, grow (lyC E ek eo es el x2) (pw p) 24 &&& (pw p ^^^ (-1)), vp_updL g (0 : Int32).toNatClampNeg (Int32.toInt64 (grow (lyC E ek eo es el x2) (pw p) 24 &&& (pw p ^^^ (-1)))), ?_, ?_, fun _ => rfl⟩
      · simp (disch := omega) only [m_L_access, m_X7_access, m_X7_checkNumber, m_X7_checkArgument, m_X7_checkState, m_X7_checkAnswer, isFrom_e, isPer_e, i20, i30, i40, i50, i60, i70, i80, i90, n0_0, n0_1, n0_2, n0_3, n0_4, n0_5, n0_6, n1_0, n1_1, n1_2, n1_3, n1_4, n1_5, n1_6, n2_0, n2_1, n2_2, n2_3, n2_4, n2_5, n2_6, n3_0, n3_1, n3_2, n3_3, n3_4, n3_5, n3_6, n4_0, n4_1, n4_2, n4_3, n4_4, n4_5, n4_6, n5_0, n5_1, n5_2, n5_3, n5_4, n5_5, n5_6, n6_0, n6_1, n6_2, n6_3, n6_4, n6_5, n6_6, nI_clamp, nI_1, bsm, nmd, gd_ix, gd_t, gd_bi, gd_b0, gd_b1, ite_b, ite_p, if_true, if_false, ite_true, ite_false, i10, i00, or0, add0, g0, g1, g2, g3, g4, g5, g6, c0, c1, c2, c3, c4, c5, c6, Bool.false_eq_true, decide_eq_true_eq, X4_has_y hp, hb, X1_reachedFrom hIE hP (show p < 32 by omega)]
      · simp (disch := omega) only [m_X8_access_J146, m_X8_access_J113, m_X8_access_J35, m_X8_access_J15, m_X8_access, m_X8_fails, isPer_e, i20, i30, i40, i50, i60, i70, i80, i90, n0_0, n0_1, n0_2, n0_3, n0_4, n0_5, n0_6, n1_0, n1_1, n1_2, n1_3, n1_4, n1_5, n1_6, n2_0, n2_1, n2_2, n2_3, n2_4, n2_5, n2_6, n3_0, n3_1, n3_2, n3_3, n3_4, n3_5, n3_6, n4_0, n4_1, n4_2, n4_3, n4_4, n4_5, n4_6, n5_0, n5_1, n5_2, n5_3, n5_4, n5_5, n5_6, n6_0, n6_1, n6_2, n6_3, n6_4, n6_5, n6_6, nI_clamp, nI_1, bsm, nmd, gd_ix, gd_t, gd_bi, gd_b0, gd_b1, ite_b, ite_p, if_true, if_false, ite_true, ite_false, i10, i00, or0, add0, g0, g1, g2, g3, g4, g5, g6, c0, c1, c2, c3, c4, c5, c6, Bool.false_eq_true, decide_eq_true_eq, X8_isP_y hVP.1 hp hP, m_X8_isKind, hb, m_X8_bit, X8_access_out hIE hVE hP hdl hp]

theorem rk_val {L K : Nat} {lc lm lp lr n : Nat → Int32} (h : IL L K lc lm lp lr) (hV : VL L K lc lm lp lr n) (x : Int32) : m_X3_placeOf x (nI K) lr = m_X8_rankOf x n := (X3_placeOf h x).trans (X8_rankOf h hV x).symm

set_option maxHeartbeats 4000000 in
theorem op_lien {P D E L K dn : Nat} {ar fi la nb pa ro dp dg de dd ek eo es ef el lc lm lp lr n : Nat → Int32} (h : WC P D E L K dn ar fi la nb pa ro dp dg de dd ek eo es ef el lc lm lp lr n) (x1 : Int32) (x2 : Int32) (g : Nat → Int64) : ∃ k b g', m_L_lien x1 x2 (nI L) (nI K) lc lm lp lr g = some (k, g') ∧ m_X8_lien x1 x2 n = some (b, k) ∧ (k = 0 → g' 0 = b.toInt64) := by
  obtain ⟨hI, hRD, hIE, hIL, hVP, hVE, hVL, hn0, hn6⟩ := h
  have hP := hI.le
  have hdl := hI.dl
  have hE := hIE.1
  have hL := hIL.1
  have hK := hIL.2.1
  have hD := hRD.1.1
  have hid := hRD.id2
  obtain ⟨z, hpo⟩ : ∃ z, m_X3_placeOf x1 (nI K) lr = some z := ⟨_, X3_placeOf hIL x1⟩
  have hrk := (rk_val hIL hVL x1).symm.trans hpo
  rcases par_or x1 L with hn | ⟨p, hp, rfl⟩
  · refine ⟨1, 0, g, ?_, ?_, fun q => absurd q (by decide)⟩
    · simp (disch := omega) only [m_L_lien, m_X7_lien, m_X7_checkNumber, m_X7_checkArgument, m_X7_checkState, m_X7_checkAnswer, isFrom_e, isPer_e, i20, i30, i40, i50, i60, i70, i80, i90, n0_0, n0_1, n0_2, n0_3, n0_4, n0_5, n0_6, n1_0, n1_1, n1_2, n1_3, n1_4, n1_5, n1_6, n2_0, n2_1, n2_2, n2_3, n2_4, n2_5, n2_6, n3_0, n3_1, n3_2, n3_3, n3_4, n3_5, n3_6, n4_0, n4_1, n4_2, n4_3, n4_4, n4_5, n4_6, n5_0, n5_1, n5_2, n5_3, n5_4, n5_5, n5_6, n6_0, n6_1, n6_2, n6_3, n6_4, n6_5, n6_6, nI_clamp, nI_1, bsm, nmd, gd_ix, gd_t, gd_bi, gd_b0, gd_b1, ite_b, ite_p, if_true, if_false, ite_true, ite_false, i10, i00, or0, add0, g0, g1, g2, g3, g4, g5, g6, c0, c1, c2, c3, c4, c5, c6, Bool.false_eq_true, decide_eq_true_eq, X1_has_e2, X3_has_e2, X4_has_n hn]
    · simp (disch := omega) only [m_X8_lien_J37, m_X8_lien_J15, m_X8_lien, m_X8_fails, isPer_e, i20, i30, i40, i50, i60, i70, i80, i90, n0_0, n0_1, n0_2, n0_3, n0_4, n0_5, n0_6, n1_0, n1_1, n1_2, n1_3, n1_4, n1_5, n1_6, n2_0, n2_1, n2_2, n2_3, n2_4, n2_5, n2_6, n3_0, n3_1, n3_2, n3_3, n3_4, n3_5, n3_6, n4_0, n4_1, n4_2, n4_3, n4_4, n4_5, n4_6, n5_0, n5_1, n5_2, n5_3, n5_4, n5_5, n5_6, n6_0, n6_1, n6_2, n6_3, n6_4, n6_5, n6_6, nI_clamp, nI_1, bsm, nmd, gd_ix, gd_t, gd_bi, gd_b0, gd_b1, ite_b, ite_p, if_true, if_false, ite_true, ite_false, i10, i00, or0, add0, g0, g1, g2, g3, g4, g5, g6, c0, c1, c2, c3, c4, c5, c6, Bool.false_eq_true, decide_eq_true_eq, X8_isL_n hVL.1 hn hL]
  · rcases isB_or x2 0 3 with hb | hb
    · refine ⟨2, 0, g, ?_, ?_, fun q => absurd q (by decide)⟩
      · simp (disch := omega) only [m_L_lien, m_X7_lien, m_X7_checkNumber, m_X7_checkArgument, m_X7_checkState, m_X7_checkAnswer, isFrom_e, isPer_e, i20, i30, i40, i50, i60, i70, i80, i90, n0_0, n0_1, n0_2, n0_3, n0_4, n0_5, n0_6, n1_0, n1_1, n1_2, n1_3, n1_4, n1_5, n1_6, n2_0, n2_1, n2_2, n2_3, n2_4, n2_5, n2_6, n3_0, n3_1, n3_2, n3_3, n3_4, n3_5, n3_6, n4_0, n4_1, n4_2, n4_3, n4_4, n4_5, n4_6, n5_0, n5_1, n5_2, n5_3, n5_4, n5_5, n5_6, n6_0, n6_1, n6_2, n6_3, n6_4, n6_5, n6_6, nI_clamp, nI_1, bsm, nmd, gd_ix, gd_t, gd_bi, gd_b0, gd_b1, ite_b, ite_p, if_true, if_false, ite_true, ite_false, i10, i00, or0, add0, g0, g1, g2, g3, g4, g5, g6, c0, c1, c2, c3, c4, c5, c6, Bool.false_eq_true, decide_eq_true_eq, X1_has_e2, X3_has_e2, X4_has_y hp, hb]
      · simp (disch := omega) only [m_X8_lien_J37, m_X8_lien_J15, m_X8_lien, m_X8_fails, isPer_e, i20, i30, i40, i50, i60, i70, i80, i90, n0_0, n0_1, n0_2, n0_3, n0_4, n0_5, n0_6, n1_0, n1_1, n1_2, n1_3, n1_4, n1_5, n1_6, n2_0, n2_1, n2_2, n2_3, n2_4, n2_5, n2_6, n3_0, n3_1, n3_2, n3_3, n3_4, n3_5, n3_6, n4_0, n4_1, n4_2, n4_3, n4_4, n4_5, n4_6, n5_0, n5_1, n5_2, n5_3, n5_4, n5_5, n5_6, n6_0, n6_1, n6_2, n6_3, n6_4, n6_5, n6_6, nI_clamp, nI_1, bsm, nmd, gd_ix, gd_t, gd_bi, gd_b0, gd_b1, ite_b, ite_p, if_true, if_false, ite_true, ite_false, i10, i00, or0, add0, g0, g1, g2, g3, g4, g5, g6, c0, c1, c2, c3, c4, c5, c6, Bool.false_eq_true, decide_eq_true_eq, X8_isL_y hVL.1 hp hL, hb]
    · obtain ⟨w, hw, rfl⟩ := isB_val (c := 3) rfl (by omega) hb
      have hcase : w = 0 ∨ w = 1 ∨ w = 2 ∨ w = 3 := by omega
      rcases hcase with rfl | rfl | rfl | rfl
      · have hb9 : m_X8_isBetween (0 : Int32) 0 3 = some 1 := hb
        show ∃ k b g', m_L_lien (nI p) (0 : Int32) (nI L) (nI K) lc lm lp lr g = some (k, g') ∧ m_X8_lien (nI p) (0 : Int32) n = some (b, k) ∧ (k = 0 → g' 0 = b.toInt64)
        refine ⟨0, lc p, vp_updL g (0 : Int32).toNatClampNeg (Int32.toInt64 (lc p)), ?_, ?_, fun _ => rfl⟩
        · simp (disch := omega) only [m_L_lien, m_X7_lien, m_X7_checkNumber, m_X7_checkArgument, m_X7_checkState, m_X7_checkAnswer, isFrom_e, isPer_e, i20, i30, i40, i50, i60, i70, i80, i90, n0_0, n0_1, n0_2, n0_3, n0_4, n0_5, n0_6, n1_0, n1_1, n1_2, n1_3, n1_4, n1_5, n1_6, n2_0, n2_1, n2_2, n2_3, n2_4, n2_5, n2_6, n3_0, n3_1, n3_2, n3_3, n3_4, n3_5, n3_6, n4_0, n4_1, n4_2, n4_3, n4_4, n4_5, n4_6, n5_0, n5_1, n5_2, n5_3, n5_4, n5_5, n5_6, n6_0, n6_1, n6_2, n6_3, n6_4, n6_5, n6_6, nI_clamp, nI_1, bsm, nmd, gd_ix, gd_t, gd_bi, gd_b0, gd_b1, ite_b, ite_p, if_true, if_false, ite_true, ite_false, i10, i00, or0, add0, g0, g1, g2, g3, g4, g5, g6, c0, c1, c2, c3, c4, c5, c6, Bool.false_eq_true, decide_eq_true_eq, X1_has_e2, X3_has_e2, X4_has_y hp, hb9, show ((0 : Int32) = 1) = False from by decide, show ((0 : Int32) = 2) = False from by decide, show ((0 : Int32) = 3) = False from by decide, hpo]
        · simp (disch := omega) only [m_X8_lien_J37, m_X8_lien_J15, m_X8_lien, m_X8_fails, isPer_e, i20, i30, i40, i50, i60, i70, i80, i90, n0_0, n0_1, n0_2, n0_3, n0_4, n0_5, n0_6, n1_0, n1_1, n1_2, n1_3, n1_4, n1_5, n1_6, n2_0, n2_1, n2_2, n2_3, n2_4, n2_5, n2_6, n3_0, n3_1, n3_2, n3_3, n3_4, n3_5, n3_6, n4_0, n4_1, n4_2, n4_3, n4_4, n4_5, n4_6, n5_0, n5_1, n5_2, n5_3, n5_4, n5_5, n5_6, n6_0, n6_1, n6_2, n6_3, n6_4, n6_5, n6_6, nI_clamp, nI_1, bsm, nmd, gd_ix, gd_t, gd_bi, gd_b0, gd_b1, ite_b, ite_p, if_true, if_false, ite_true, ite_false, i10, i00, or0, add0, g0, g1, g2, g3, g4, g5, g6, c0, c1, c2, c3, c4, c5, c6, Bool.false_eq_true, decide_eq_true_eq, X8_isL_y hVL.1 hp hL, hb9, show ((0 : Int32) = 1) = False from by decide, show ((0 : Int32) = 2) = False from by decide, show ((0 : Int32) = 3) = False from by decide, hVL.lc hL hp, hrk]
      · have hb9 : m_X8_isBetween (1 : Int32) 0 3 = some 1 := hb
        show ∃ k b g', m_L_lien (nI p) (1 : Int32) (nI L) (nI K) lc lm lp lr g = some (k, g') ∧ m_X8_lien (nI p) (1 : Int32) n = some (b, k) ∧ (k = 0 → g' 0 = b.toInt64)
        refine ⟨0, lm p, vp_updL g (0 : Int32).toNatClampNeg (Int32.toInt64 (lm p)), ?_, ?_, fun _ => rfl⟩
        · simp (disch := omega) only [m_L_lien, m_X7_lien, m_X7_checkNumber, m_X7_checkArgument, m_X7_checkState, m_X7_checkAnswer, isFrom_e, isPer_e, i20, i30, i40, i50, i60, i70, i80, i90, n0_0, n0_1, n0_2, n0_3, n0_4, n0_5, n0_6, n1_0, n1_1, n1_2, n1_3, n1_4, n1_5, n1_6, n2_0, n2_1, n2_2, n2_3, n2_4, n2_5, n2_6, n3_0, n3_1, n3_2, n3_3, n3_4, n3_5, n3_6, n4_0, n4_1, n4_2, n4_3, n4_4, n4_5, n4_6, n5_0, n5_1, n5_2, n5_3, n5_4, n5_5, n5_6, n6_0, n6_1, n6_2, n6_3, n6_4, n6_5, n6_6, nI_clamp, nI_1, bsm, nmd, gd_ix, gd_t, gd_bi, gd_b0, gd_b1, ite_b, ite_p, if_true, if_false, ite_true, ite_false, i10, i00, or0, add0, g0, g1, g2, g3, g4, g5, g6, c0, c1, c2, c3, c4, c5, c6, Bool.false_eq_true, decide_eq_true_eq, X1_has_e2, X3_has_e2, X4_has_y hp, hb9, show ((1 : Int32) = 1) = True from by decide, show ((1 : Int32) = 2) = False from by decide, show ((1 : Int32) = 3) = False from by decide, hpo]
        · simp (disch := omega) only [m_X8_lien_J37, m_X8_lien_J15, m_X8_lien, m_X8_fails, isPer_e, i20, i30, i40, i50, i60, i70, i80, i90, n0_0, n0_1, n0_2, n0_3, n0_4, n0_5, n0_6, n1_0, n1_1, n1_2, n1_3, n1_4, n1_5, n1_6, n2_0, n2_1, n2_2, n2_3, n2_4, n2_5, n2_6, n3_0, n3_1, n3_2, n3_3, n3_4, n3_5, n3_6, n4_0, n4_1, n4_2, n4_3, n4_4, n4_5, n4_6, n5_0, n5_1, n5_2, n5_3, n5_4, n5_5, n5_6, n6_0, n6_1, n6_2, n6_3, n6_4, n6_5, n6_6, nI_clamp, nI_1, bsm, nmd, gd_ix, gd_t, gd_bi, gd_b0, gd_b1, ite_b, ite_p, if_true, if_false, ite_true, ite_false, i10, i00, or0, add0, g0, g1, g2, g3, g4, g5, g6, c0, c1, c2, c3, c4, c5, c6, Bool.false_eq_true, decide_eq_true_eq, X8_isL_y hVL.1 hp hL, hb9, show ((1 : Int32) = 1) = True from by decide, show ((1 : Int32) = 2) = False from by decide, show ((1 : Int32) = 3) = False from by decide, hVL.lm hL hp, hrk]
      · have hb9 : m_X8_isBetween (2 : Int32) 0 3 = some 1 := hb
        show ∃ k b g', m_L_lien (nI p) (2 : Int32) (nI L) (nI K) lc lm lp lr g = some (k, g') ∧ m_X8_lien (nI p) (2 : Int32) n = some (b, k) ∧ (k = 0 → g' 0 = b.toInt64)
        refine ⟨0, lp p, vp_updL g (0 : Int32).toNatClampNeg (Int32.toInt64 (lp p)), ?_, ?_, fun _ => rfl⟩
        · simp (disch := omega) only [m_L_lien, m_X7_lien, m_X7_checkNumber, m_X7_checkArgument, m_X7_checkState, m_X7_checkAnswer, isFrom_e, isPer_e, i20, i30, i40, i50, i60, i70, i80, i90, n0_0, n0_1, n0_2, n0_3, n0_4, n0_5, n0_6, n1_0, n1_1, n1_2, n1_3, n1_4, n1_5, n1_6, n2_0, n2_1, n2_2, n2_3, n2_4, n2_5, n2_6, n3_0, n3_1, n3_2, n3_3, n3_4, n3_5, n3_6, n4_0, n4_1, n4_2, n4_3, n4_4, n4_5, n4_6, n5_0, n5_1, n5_2, n5_3, n5_4, n5_5, n5_6, n6_0, n6_1, n6_2, n6_3, n6_4, n6_5, n6_6, nI_clamp, nI_1, bsm, nmd, gd_ix, gd_t, gd_bi, gd_b0, gd_b1, ite_b, ite_p, if_true, if_false, ite_true, ite_false, i10, i00, or0, add0, g0, g1, g2, g3, g4, g5, g6, c0, c1, c2, c3, c4, c5, c6, Bool.false_eq_true, decide_eq_true_eq, X1_has_e2, X3_has_e2, X4_has_y hp, hb9, show ((2 : Int32) = 1) = False from by decide, show ((2 : Int32) = 2) = True from by decide, show ((2 : Int32) = 3) = False from by decide, hpo]
        · simp (disch := omega) only [m_X8_lien_J37, m_X8_lien_J15, m_X8_lien, m_X8_fails, isPer_e, i20, i30, i40, i50, i60, i70, i80, i90, n0_0, n0_1, n0_2, n0_3, n0_4, n0_5, n0_6, n1_0, n1_1, n1_2, n1_3, n1_4, n1_5, n1_6, n2_0, n2_1, n2_2, n2_3, n2_4, n2_5, n2_6, n3_0, n3_1, n3_2, n3_3, n3_4, n3_5, n3_6, n4_0, n4_1, n4_2, n4_3, n4_4, n4_5, n4_6, n5_0, n5_1, n5_2, n5_3, n5_4, n5_5, n5_6, n6_0, n6_1, n6_2, n6_3, n6_4, n6_5, n6_6, nI_clamp, nI_1, bsm, nmd, gd_ix, gd_t, gd_bi, gd_b0, gd_b1, ite_b, ite_p, if_true, if_false, ite_true, ite_false, i10, i00, or0, add0, g0, g1, g2, g3, g4, g5, g6, c0, c1, c2, c3, c4, c5, c6, Bool.false_eq_true, decide_eq_true_eq, X8_isL_y hVL.1 hp hL, hb9, show ((2 : Int32) = 1) = False from by decide, show ((2 : Int32) = 2) = True from by decide, show ((2 : Int32) = 3) = False from by decide, hVL.lp hL hp, hrk]
      · have hb9 : m_X8_isBetween (3 : Int32) 0 3 = some 1 := hb
        show ∃ k b g', m_L_lien (nI p) (3 : Int32) (nI L) (nI K) lc lm lp lr g = some (k, g') ∧ m_X8_lien (nI p) (3 : Int32) n = some (b, k) ∧ (k = 0 → g' 0 = b.toInt64)
        refine ⟨0, z, vp_updL g (0 : Int32).toNatClampNeg (Int32.toInt64 (z)), ?_, ?_, fun _ => rfl⟩
        · simp (disch := omega) only [m_L_lien, m_X7_lien, m_X7_checkNumber, m_X7_checkArgument, m_X7_checkState, m_X7_checkAnswer, isFrom_e, isPer_e, i20, i30, i40, i50, i60, i70, i80, i90, n0_0, n0_1, n0_2, n0_3, n0_4, n0_5, n0_6, n1_0, n1_1, n1_2, n1_3, n1_4, n1_5, n1_6, n2_0, n2_1, n2_2, n2_3, n2_4, n2_5, n2_6, n3_0, n3_1, n3_2, n3_3, n3_4, n3_5, n3_6, n4_0, n4_1, n4_2, n4_3, n4_4, n4_5, n4_6, n5_0, n5_1, n5_2, n5_3, n5_4, n5_5, n5_6, n6_0, n6_1, n6_2, n6_3, n6_4, n6_5, n6_6, nI_clamp, nI_1, bsm, nmd, gd_ix, gd_t, gd_bi, gd_b0, gd_b1, ite_b, ite_p, if_true, if_false, ite_true, ite_false, i10, i00, or0, add0, g0, g1, g2, g3, g4, g5, g6, c0, c1, c2, c3, c4, c5, c6, Bool.false_eq_true, decide_eq_true_eq, X1_has_e2, X3_has_e2, X4_has_y hp, hb9, show ((3 : Int32) = 1) = False from by decide, show ((3 : Int32) = 2) = False from by decide, show ((3 : Int32) = 3) = True from by decide, hpo]
        · simp (disch := omega) only [m_X8_lien_J37, m_X8_lien_J15, m_X8_lien, m_X8_fails, isPer_e, i20, i30, i40, i50, i60, i70, i80, i90, n0_0, n0_1, n0_2, n0_3, n0_4, n0_5, n0_6, n1_0, n1_1, n1_2, n1_3, n1_4, n1_5, n1_6, n2_0, n2_1, n2_2, n2_3, n2_4, n2_5, n2_6, n3_0, n3_1, n3_2, n3_3, n3_4, n3_5, n3_6, n4_0, n4_1, n4_2, n4_3, n4_4, n4_5, n4_6, n5_0, n5_1, n5_2, n5_3, n5_4, n5_5, n5_6, n6_0, n6_1, n6_2, n6_3, n6_4, n6_5, n6_6, nI_clamp, nI_1, bsm, nmd, gd_ix, gd_t, gd_bi, gd_b0, gd_b1, ite_b, ite_p, if_true, if_false, ite_true, ite_false, i10, i00, or0, add0, g0, g1, g2, g3, g4, g5, g6, c0, c1, c2, c3, c4, c5, c6, Bool.false_eq_true, decide_eq_true_eq, X8_isL_y hVL.1 hp hL, hb9, show ((3 : Int32) = 1) = False from by decide, show ((3 : Int32) = 2) = False from by decide, show ((3 : Int32) = 3) = True from by decide, hrk, hrk]

def fou (lr : Nat → Int32) (b : Nat → Bool) (i : Nat) : Int32 := match fnd b i with
  | some j => lr j
  | none => -1
theorem fou_n {lr : Nat → Int32} {b : Nat → Bool} {i : Nat} (h : b i = false) : fou lr b (i + 1) = fou lr b i := by
  unfold fou
  rw [fnd_s, h]
  cases fnd b i <;> rfl
theorem fou_t {lr : Nat → Int32} {b : Nat → Bool} {i : Nat} (h : b i = true) (hn : fnd b i = none) : fou lr b (i + 1) = lr i := by
  unfold fou
  rw [fnd_s, hn, h]
  rfl
theorem fou_some {lr : Nat → Int32} {b : Nat → Bool} {i j : Nat} (h : fnd b i = some j) : fou lr b i = lr j := by
  unfold fou
  rw [h]
theorem fou_none {lr : Nat → Int32} {b : Nat → Bool} {i : Nat} (h : fnd b i = none) : fou lr b i = -1 := by
  unfold fou
  rw [h]
set_option maxHeartbeats 1000000 in
theorem X8_lienAt0 {L K p : Nat} {lc lm lp lr n : Nat → Int32} (h : IL L K lc lm lp lr) (hV : VL L K lc lm lp lr n) (hp : p < 32) (x : Int32) : fuel (m_X8_lienAt_L31 n (nI p)) FU (x, -1, 0) = (if fnd (bSel (bOn lp lr p) x) K = none then some (0, 2) else some (fou lr (bSel (bOn lp lr p) x) K, 0)) := by
  have hL := h.1
  have hK := h.2.1
  have e0 : (x, (-1 : Int32), (0 : Int32)) = (x - nI (cN (bOn lp lr p) 0), fou lr (bSel (bOn lp lr p) x) 0, nI 0) := by
    show (x, (-1 : Int32), (0 : Int32)) = (x - 0, -1, 0)
    rw [Int32.sub_zero]
  rw [e0]
  refine loop_run (c := K) (fun i => (x - nI (cN (bOn lp lr p) i), fou lr (bSel (bOn lp lr p) x) i, nI i)) (by omega) (fun rec i hi => ?_) (fun rec => ?_)
  · obtain ⟨r1, r2⟩ := h.rk hi
    have hn := hV.lr hi
    have ho := hV.lp hL r2
    rw [cN_s]
    cases hb : bt (lp (rkN lr i)) p with
    | false =>
      have hb1 : bOn lp lr p i = false := hb
      have hb2 : bSel (bOn lp lr p) x i = false := by unfold bSel; rw [hb1, Bool.false_and]
      rw [fou_n hb2, hb1]
      simp (disch := omega) only [m_X8_lienAt_L31, lp_go, hV.2.1, rk_ix, rk_cl, hn, r1, ho, has_b, hb, Nat.add_zero, nI_clamp, nI_1, bsm, nmd, gd_ix, gd_t, gd_bi, gd_b0, gd_b1, ite_b, ite_p, if_true, if_false, ite_true, ite_false, i10, i00, or0, add0, g0, g1, g2, g3, g4, g5, g6, c0, c1, c2, c3, c4, c5, c6, Bool.false_eq_true, decide_eq_true_eq]
    | true =>
      have hb1 : bOn lp lr p i = true := hb
      have h4 : x - nI (cN (bOn lp lr p) i) + (-1) = x - nI (cN (bOn lp lr p) i + 1) := by
        rw [← nI_1, Int32.sub_eq_add_neg, Int32.sub_eq_add_neg, Int32.neg_add, Int32.add_assoc, Int32.sub_eq_add_neg]
      by_cases q : x - nI (cN (bOn lp lr p) i) = 0
      · have hb2 : bSel (bOn lp lr p) x i = true := bSel_t.mpr ⟨hb1, (sub0.mp q).symm⟩
        have hnone : fnd (bSel (bOn lp lr p) x) i = none := fnd_no fun j hj => by
          cases hq : bSel (bOn lp lr p) x j with
          | false => rfl
          | true =>
            have := bSel_one (by omega) (by omega) hq hb2
            omega
        rw [fou_t hb2 hnone, hb1, fou_none hnone]
        simp (disch := omega) only [m_X8_lienAt_L31, lp_go, hV.2.1, rk_ix, rk_cl, hn, r1, ho, has_b, hb, eq_true q, h4, nI_clamp, nI_1, bsm, nmd, gd_ix, gd_t, gd_bi, gd_b0, gd_b1, ite_b, ite_p, if_true, if_false, ite_true, ite_false, i10, i00, or0, add0, g0, g1, g2, g3, g4, g5, g6, c0, c1, c2, c3, c4, c5, c6, Bool.false_eq_true, decide_eq_true_eq]
      · have hb2 : bSel (bOn lp lr p) x i = false := by
          cases hq : bSel (bOn lp lr p) x i with
          | false => rfl
          | true => exact absurd (sub0.mpr (bSel_t.mp hq).2.symm) q
        rw [fou_n hb2, hb1]
        simp (disch := omega) only [m_X8_lienAt_L31, lp_go, hV.2.1, rk_ix, rk_cl, hn, r1, ho, has_b, hb, eq_false q, h4, nI_clamp, nI_1, bsm, nmd, gd_ix, gd_t, gd_bi, gd_b0, gd_b1, ite_b, ite_p, if_true, if_false, ite_true, ite_false, i10, i00, or0, add0, g0, g1, g2, g3, g4, g5, g6, c0, c1, c2, c3, c4, c5, c6, Bool.false_eq_true, decide_eq_true_eq]
  · cases hf : fnd (bSel (bOn lp lr p) x) K with
    | none =>
      have hm : ((0 : Int32) ≤ -1) = False := eq_false m1_nn
      rw [if_pos rfl, fou_none hf]
      simp (disch := omega) only [m_X8_lienAt_L31, lp_end, Nat.le_refl, hV.2.1, m_X8_lienAt_J96, m_X8_lienAt_J108, hm, m_X8_fails, nI_clamp, nI_1, bsm, nmd, gd_ix, gd_t, gd_bi, gd_b0, gd_b1, ite_b, ite_p, if_true, if_false, ite_true, ite_false, i10, i00, or0, add0, g0, g1, g2, g3, g4, g5, g6, c0, c1, c2, c3, c4, c5, c6, Bool.false_eq_true, decide_eq_true_eq]
    | some i =>
      obtain ⟨r1, r2⟩ := h.rk (fnd_some hf).1
      have hm : ((0 : Int32) ≤ lr i) = True := eq_true (by rw [r1]; exact nI_pos' (by omega))
      rw [if_neg (fun q => by cases q), fou_some hf]
      simp (disch := omega) only [m_X8_lienAt_L31, lp_end, Nat.le_refl, hV.2.1, m_X8_lienAt_J96, m_X8_lienAt_J108, hm, m_X8_fails, nI_clamp, nI_1, bsm, nmd, gd_ix, gd_t, gd_bi, gd_b0, gd_b1, ite_b, ite_p, if_true, if_false, ite_true, ite_false, i10, i00, or0, add0, g0, g1, g2, g3, g4, g5, g6, c0, c1, c2, c3, c4, c5, c6, Bool.false_eq_true, decide_eq_true_eq]

set_option maxHeartbeats 4000000 in
theorem op_lienAt {P D E L K dn : Nat} {ar fi la nb pa ro dp dg de dd ek eo es ef el lc lm lp lr n : Nat → Int32} (h : WC P D E L K dn ar fi la nb pa ro dp dg de dd ek eo es ef el lc lm lp lr n) (x1 : Int32) (x2 : Int32) (g : Nat → Int64) : ∃ k b g', m_L_lienAt x1 x2 (nI P) (nI K) lp lr g = some (k, g') ∧ m_X8_lienAt x1 x2 n = some (b, k) ∧ (k = 0 → g' 0 = b.toInt64) := by
  obtain ⟨hI, hRD, hIE, hIL, hVP, hVE, hVL, hn0, hn6⟩ := h
  have hP := hI.le
  have hdl := hI.dl
  have hE := hIE.1
  have hL := hIL.1
  have hK := hIL.2.1
  have hD := hRD.1.1
  have hid := hRD.id2
  rcases par_or x1 P with hn | ⟨p, hp, rfl⟩
  · refine ⟨1, 0, g, ?_, ?_, fun q => absurd q (by decide)⟩
    · simp (disch := omega) only [m_L_lienAt, m_X7_lienAt_J37, m_X7_lienAt, m_X7_checkNumber, m_X7_checkArgument, m_X7_checkState, m_X7_checkAnswer, isFrom_e, isPer_e, i20, i30, i40, i50, i60, i70, i80, i90, n0_0, n0_1, n0_2, n0_3, n0_4, n0_5, n0_6, n1_0, n1_1, n1_2, n1_3, n1_4, n1_5, n1_6, n2_0, n2_1, n2_2, n2_3, n2_4, n2_5, n2_6, n3_0, n3_1, n3_2, n3_3, n3_4, n3_5, n3_6, n4_0, n4_1, n4_2, n4_3, n4_4, n4_5, n4_6, n5_0, n5_1, n5_2, n5_3, n5_4, n5_5, n5_6, n6_0, n6_1, n6_2, n6_3, n6_4, n6_5, n6_6, nI_clamp, nI_1, bsm, nmd, gd_ix, gd_t, gd_bi, gd_b0, gd_b1, ite_b, ite_p, if_true, if_false, ite_true, ite_false, i10, i00, or0, add0, g0, g1, g2, g3, g4, g5, g6, c0, c1, c2, c3, c4, c5, c6, Bool.false_eq_true, decide_eq_true_eq, X4_has_n hn]
    · simp (disch := omega) only [m_X8_lienAt_J108, m_X8_lienAt_J96, m_X8_lienAt_J15, m_X8_lienAt, m_X8_fails, isPer_e, i20, i30, i40, i50, i60, i70, i80, i90, n0_0, n0_1, n0_2, n0_3, n0_4, n0_5, n0_6, n1_0, n1_1, n1_2, n1_3, n1_4, n1_5, n1_6, n2_0, n2_1, n2_2, n2_3, n2_4, n2_5, n2_6, n3_0, n3_1, n3_2, n3_3, n3_4, n3_5, n3_6, n4_0, n4_1, n4_2, n4_3, n4_4, n4_5, n4_6, n5_0, n5_1, n5_2, n5_3, n5_4, n5_5, n5_6, n6_0, n6_1, n6_2, n6_3, n6_4, n6_5, n6_6, nI_clamp, nI_1, bsm, nmd, gd_ix, gd_t, gd_bi, gd_b0, gd_b1, ite_b, ite_p, if_true, if_false, ite_true, ite_false, i10, i00, or0, add0, g0, g1, g2, g3, g4, g5, g6, c0, c1, c2, c3, c4, c5, c6, Bool.false_eq_true, decide_eq_true_eq, X8_isP_n hVP.1 hn hP]
  · have hc := X3_atPlace hIL (show p < 32 by omega) x2
    have hr := X8_lienAt0 hIL hVL (show p < 32 by omega) x2
    cases hf : fnd (bSel (bOn lp lr p) x2) K with
    | none =>
      rw [hf] at hc
      rw [if_pos hf] at hr
      refine ⟨2, 0, g, ?_, ?_, fun q => absurd q (by decide)⟩
      · simp (disch := omega) only [m_L_lienAt, m_X7_lienAt_J37, m_X7_lienAt, m_X7_checkNumber, m_X7_checkArgument, m_X7_checkState, m_X7_checkAnswer, isFrom_e, isPer_e, i20, i30, i40, i50, i60, i70, i80, i90, n0_0, n0_1, n0_2, n0_3, n0_4, n0_5, n0_6, n1_0, n1_1, n1_2, n1_3, n1_4, n1_5, n1_6, n2_0, n2_1, n2_2, n2_3, n2_4, n2_5, n2_6, n3_0, n3_1, n3_2, n3_3, n3_4, n3_5, n3_6, n4_0, n4_1, n4_2, n4_3, n4_4, n4_5, n4_6, n5_0, n5_1, n5_2, n5_3, n5_4, n5_5, n5_6, n6_0, n6_1, n6_2, n6_3, n6_4, n6_5, n6_6, nI_clamp, nI_1, bsm, nmd, gd_ix, gd_t, gd_bi, gd_b0, gd_b1, ite_b, ite_p, if_true, if_false, ite_true, ite_false, i10, i00, or0, add0, g0, g1, g2, g3, g4, g5, g6, c0, c1, c2, c3, c4, c5, c6, Bool.false_eq_true, decide_eq_true_eq, X4_has_y hp, hc]
      · simp (disch := omega) only [m_X8_lienAt_J108, m_X8_lienAt_J96, m_X8_lienAt_J15, m_X8_lienAt, m_X8_fails, isPer_e, i20, i30, i40, i50, i60, i70, i80, i90, n0_0, n0_1, n0_2, n0_3, n0_4, n0_5, n0_6, n1_0, n1_1, n1_2, n1_3, n1_4, n1_5, n1_6, n2_0, n2_1, n2_2, n2_3, n2_4, n2_5, n2_6, n3_0, n3_1, n3_2, n3_3, n3_4, n3_5, n3_6, n4_0, n4_1, n4_2, n4_3, n4_4, n4_5, n4_6, n5_0, n5_1, n5_2, n5_3, n5_4, n5_5, n5_6, n6_0, n6_1, n6_2, n6_3, n6_4, n6_5, n6_6, nI_clamp, nI_1, bsm, nmd, gd_ix, gd_t, gd_bi, gd_b0, gd_b1, ite_b, ite_p, if_true, if_false, ite_true, ite_false, i10, i00, or0, add0, g0, g1, g2, g3, g4, g5, g6, c0, c1, c2, c3, c4, c5, c6, Bool.false_eq_true, decide_eq_true_eq, X8_isP_y hVP.1 hp hP, hr]
    | some i =>
      rw [hf] at hc
      rw [if_neg (fun q => by rw [hf] at q; cases q), fou_some hf] at hr
      obtain ⟨r1, r2⟩ := hIL.rk (fnd_some hf).1
      have hm : (lr i = -1) = False := eq_false (by rw [r1]; exact m1_ne (by omega))
      refine ⟨0, lr i, vp_updL g (0 : Int32).toNatClampNeg (Int32.toInt64 (lr i)), ?_, ?_, fun _ => rfl⟩
      · simp (disch := omega) only [m_L_lienAt, m_X7_lienAt_J37, m_X7_lienAt, m_X7_checkNumber, m_X7_checkArgument, m_X7_checkState, m_X7_checkAnswer, isFrom_e, isPer_e, i20, i30, i40, i50, i60, i70, i80, i90, n0_0, n0_1, n0_2, n0_3, n0_4, n0_5, n0_6, n1_0, n1_1, n1_2, n1_3, n1_4, n1_5, n1_6, n2_0, n2_1, n2_2, n2_3, n2_4, n2_5, n2_6, n3_0, n3_1, n3_2, n3_3, n3_4, n3_5, n3_6, n4_0, n4_1, n4_2, n4_3, n4_4, n4_5, n4_6, n5_0, n5_1, n5_2, n5_3, n5_4, n5_5, n5_6, n6_0, n6_1, n6_2, n6_3, n6_4, n6_5, n6_6, nI_clamp, nI_1, bsm, nmd, gd_ix, gd_t, gd_bi, gd_b0, gd_b1, ite_b, ite_p, if_true, if_false, ite_true, ite_false, i10, i00, or0, add0, g0, g1, g2, g3, g4, g5, g6, c0, c1, c2, c3, c4, c5, c6, Bool.false_eq_true, decide_eq_true_eq, X4_has_y hp, hc, hm]
      · simp (disch := omega) only [m_X8_lienAt_J108, m_X8_lienAt_J96, m_X8_lienAt_J15, m_X8_lienAt, m_X8_fails, isPer_e, i20, i30, i40, i50, i60, i70, i80, i90, n0_0, n0_1, n0_2, n0_3, n0_4, n0_5, n0_6, n1_0, n1_1, n1_2, n1_3, n1_4, n1_5, n1_6, n2_0, n2_1, n2_2, n2_3, n2_4, n2_5, n2_6, n3_0, n3_1, n3_2, n3_3, n3_4, n3_5, n3_6, n4_0, n4_1, n4_2, n4_3, n4_4, n4_5, n4_6, n5_0, n5_1, n5_2, n5_3, n5_4, n5_5, n5_6, n6_0, n6_1, n6_2, n6_3, n6_4, n6_5, n6_6, nI_clamp, nI_1, bsm, nmd, gd_ix, gd_t, gd_bi, gd_b0, gd_b1, ite_b, ite_p, if_true, if_false, ite_true, ite_false, i10, i00, or0, add0, g0, g1, g2, g3, g4, g5, g6, c0, c1, c2, c3, c4, c5, c6, Bool.false_eq_true, decide_eq_true_eq, X8_isP_y hVP.1 hp hP, hr]

theorem bCr_pos {lc lr : Nat → Int32} {a : Nat} (ha : a < 10) : (fun k => decide (nI a < 0) || bCr lc lr (nI a) k) = bCr lc lr (nI a) := funext fun k => by
  rw [decide_eq_false (nI_pos (by omega)), Bool.false_or]

set_option maxHeartbeats 4000000 in
theorem op_paid {P D E L K dn : Nat} {ar fi la nb pa ro dp dg de dd ek eo es ef el lc lm lp lr n : Nat → Int32} (h : WC P D E L K dn ar fi la nb pa ro dp dg de dd ek eo es ef el lc lm lp lr n) (x1 : Int32) (x2 : Int32) (x3 : Int32) (g : Nat → Int64) : ∃ k b g', m_L_paid x1 x2 x3 (nI P) la (nI K) lc lm lp lr g = some (k, g') ∧ m_X8_paid x1 x2 x3 n = some (b, k) ∧ (k = 0 → g' 0 = b.toInt64) := by
  obtain ⟨hI, hRD, hIE, hIL, hVP, hVE, hVL, hn0, hn6⟩ := h
  have hP := hI.le
  have hdl := hI.dl
  have hE := hIE.1
  have hL := hIL.1
  have hK := hIL.2.1
  have hD := hRD.1.1
  have hid := hRD.id2
  rcases par_or x1 P with hn | ⟨p, hp, rfl⟩
  · refine ⟨1, 0, g, ?_, ?_, fun q => absurd q (by decide)⟩
    · simp (disch := omega) only [m_L_paid, m_X7_paid_J26, m_X7_paid, m_X7_checkNumber, m_X7_checkArgument, m_X7_checkState, m_X7_checkAnswer, isFrom_e, isPer_e, i20, i30, i40, i50, i60, i70, i80, i90, n0_0, n0_1, n0_2, n0_3, n0_4, n0_5, n0_6, n1_0, n1_1, n1_2, n1_3, n1_4, n1_5, n1_6, n2_0, n2_1, n2_2, n2_3, n2_4, n2_5, n2_6, n3_0, n3_1, n3_2, n3_3, n3_4, n3_5, n3_6, n4_0, n4_1, n4_2, n4_3, n4_4, n4_5, n4_6, n5_0, n5_1, n5_2, n5_3, n5_4, n5_5, n5_6, n6_0, n6_1, n6_2, n6_3, n6_4, n6_5, n6_6, nI_clamp, nI_1, bsm, nmd, gd_ix, gd_t, gd_bi, gd_b0, gd_b1, ite_b, ite_p, if_true, if_false, ite_true, ite_false, i10, i00, or0, add0, g0, g1, g2, g3, g4, g5, g6, c0, c1, c2, c3, c4, c5, c6, Bool.false_eq_true, decide_eq_true_eq, X4_has_n hn]
    · simp (disch := omega) only [m_X8_paid_J63, m_X8_paid_J42, m_X8_paid_J22, m_X8_paid, m_X8_fails, isPer_e, i20, i30, i40, i50, i60, i70, i80, i90, n0_0, n0_1, n0_2, n0_3, n0_4, n0_5, n0_6, n1_0, n1_1, n1_2, n1_3, n1_4, n1_5, n1_6, n2_0, n2_1, n2_2, n2_3, n2_4, n2_5, n2_6, n3_0, n3_1, n3_2, n3_3, n3_4, n3_5, n3_6, n4_0, n4_1, n4_2, n4_3, n4_4, n4_5, n4_6, n5_0, n5_1, n5_2, n5_3, n5_4, n5_5, n5_6, n6_0, n6_1, n6_2, n6_3, n6_4, n6_5, n6_6, nI_clamp, nI_1, bsm, nmd, gd_ix, gd_t, gd_bi, gd_b0, gd_b1, ite_b, ite_p, if_true, if_false, ite_true, ite_false, i10, i00, or0, add0, g0, g1, g2, g3, g4, g5, g6, c0, c1, c2, c3, c4, c5, c6, Bool.false_eq_true, decide_eq_true_eq, X8_isP_n hVP.1 hn hP]
  · rcases isPer_or x3 with hn | ⟨a, ha, rfl⟩
    · refine ⟨1, 0, g, ?_, ?_, fun q => absurd q (by decide)⟩
      · simp (disch := omega) only [m_L_paid, m_X7_paid_J26, m_X7_paid, m_X7_checkNumber, m_X7_checkArgument, m_X7_checkState, m_X7_checkAnswer, isFrom_e, isPer_e, i20, i30, i40, i50, i60, i70, i80, i90, n0_0, n0_1, n0_2, n0_3, n0_4, n0_5, n0_6, n1_0, n1_1, n1_2, n1_3, n1_4, n1_5, n1_6, n2_0, n2_1, n2_2, n2_3, n2_4, n2_5, n2_6, n3_0, n3_1, n3_2, n3_3, n3_4, n3_5, n3_6, n4_0, n4_1, n4_2, n4_3, n4_4, n4_5, n4_6, n5_0, n5_1, n5_2, n5_3, n5_4, n5_5, n5_6, n6_0, n6_1, n6_2, n6_3, n6_4, n6_5, n6_6, nI_clamp, nI_1, bsm, nmd, gd_ix, gd_t, gd_bi, gd_b0, gd_b1, ite_b, ite_p, if_true, if_false, ite_true, ite_false, i10, i00, or0, add0, g0, g1, g2, g3, g4, g5, g6, c0, c1, c2, c3, c4, c5, c6, Bool.false_eq_true, decide_eq_true_eq, X4_has_y hp, hn]
      · simp (disch := omega) only [m_X8_paid_J63, m_X8_paid_J42, m_X8_paid_J22, m_X8_paid, m_X8_fails, isPer_e, i20, i30, i40, i50, i60, i70, i80, i90, n0_0, n0_1, n0_2, n0_3, n0_4, n0_5, n0_6, n1_0, n1_1, n1_2, n1_3, n1_4, n1_5, n1_6, n2_0, n2_1, n2_2, n2_3, n2_4, n2_5, n2_6, n3_0, n3_1, n3_2, n3_3, n3_4, n3_5, n3_6, n4_0, n4_1, n4_2, n4_3, n4_4, n4_5, n4_6, n5_0, n5_1, n5_2, n5_3, n5_4, n5_5, n5_6, n6_0, n6_1, n6_2, n6_3, n6_4, n6_5, n6_6, nI_clamp, nI_1, bsm, nmd, gd_ix, gd_t, gd_bi, gd_b0, gd_b1, ite_b, ite_p, if_true, if_false, ite_true, ite_false, i10, i00, or0, add0, g0, g1, g2, g3, g4, g5, g6, c0, c1, c2, c3, c4, c5, c6, Bool.false_eq_true, decide_eq_true_eq, X8_isP_y hVP.1 hp hP, hn]
    · rcases isB_or x2 0 1000000 with hb | hb
      · refine ⟨2, 0, g, ?_, ?_, fun q => absurd q (by decide)⟩
        · simp (disch := omega) only [m_L_paid, m_X7_paid_J26, m_X7_paid, m_X7_checkNumber, m_X7_checkArgument, m_X7_checkState, m_X7_checkAnswer, isFrom_e, isPer_e, i20, i30, i40, i50, i60, i70, i80, i90, n0_0, n0_1, n0_2, n0_3, n0_4, n0_5, n0_6, n1_0, n1_1, n1_2, n1_3, n1_4, n1_5, n1_6, n2_0, n2_1, n2_2, n2_3, n2_4, n2_5, n2_6, n3_0, n3_1, n3_2, n3_3, n3_4, n3_5, n3_6, n4_0, n4_1, n4_2, n4_3, n4_4, n4_5, n4_6, n5_0, n5_1, n5_2, n5_3, n5_4, n5_5, n5_6, n6_0, n6_1, n6_2, n6_3, n6_4, n6_5, n6_6, nI_clamp, nI_1, bsm, nmd, gd_ix, gd_t, gd_bi, gd_b0, gd_b1, ite_b, ite_p, if_true, if_false, ite_true, ite_false, i10, i00, or0, add0, g0, g1, g2, g3, g4, g5, g6, c0, c1, c2, c3, c4, c5, c6, Bool.false_eq_true, decide_eq_true_eq, X4_has_y hp, isPer_y ha, hb]
        · simp (disch := omega) only [m_X8_paid_J63, m_X8_paid_J42, m_X8_paid_J22, m_X8_paid, m_X8_fails, isPer_e, i20, i30, i40, i50, i60, i70, i80, i90, n0_0, n0_1, n0_2, n0_3, n0_4, n0_5, n0_6, n1_0, n1_1, n1_2, n1_3, n1_4, n1_5, n1_6, n2_0, n2_1, n2_2, n2_3, n2_4, n2_5, n2_6, n3_0, n3_1, n3_2, n3_3, n3_4, n3_5, n3_6, n4_0, n4_1, n4_2, n4_3, n4_4, n4_5, n4_6, n5_0, n5_1, n5_2, n5_3, n5_4, n5_5, n5_6, n6_0, n6_1, n6_2, n6_3, n6_4, n6_5, n6_6, nI_clamp, nI_1, bsm, nmd, gd_ix, gd_t, gd_bi, gd_b0, gd_b1, ite_b, ite_p, if_true, if_false, ite_true, ite_false, i10, i00, or0, add0, g0, g1, g2, g3, g4, g5, g6, c0, c1, c2, c3, c4, c5, c6, Bool.false_eq_true, decide_eq_true_eq, X8_isP_y hVP.1 hp hP, isPer_y ha, m_X8_isPrice, hb]
      · have hr := X8_payments hIL hVL (show p < 32 by omega) (nI a) x2
        rw [bCr_pos ha] at hr
        by_cases e1 : la p = -1
        · refine ⟨0, (foldN (sPay (bOn lp lr p) (fun k => lm (rkN lr k)) (bCr lc lr (nI a))) (x2, 0) K).2, vp_updL g (0 : Int32).toNatClampNeg (Int32.toInt64 ((foldN (sPay (bOn lp lr p) (fun k => lm (rkN lr k)) (bCr lc lr (nI a))) (x2, 0) K).2)), ?_, ?_, fun _ => rfl⟩
          · simp (disch := omega) only [m_L_paid, m_X7_paid_J26, m_X7_paid, m_X7_checkNumber, m_X7_checkArgument, m_X7_checkState, m_X7_checkAnswer, isFrom_e, isPer_e, i20, i30, i40, i50, i60, i70, i80, i90, n0_0, n0_1, n0_2, n0_3, n0_4, n0_5, n0_6, n1_0, n1_1, n1_2, n1_3, n1_4, n1_5, n1_6, n2_0, n2_1, n2_2, n2_3, n2_4, n2_5, n2_6, n3_0, n3_1, n3_2, n3_3, n3_4, n3_5, n3_6, n4_0, n4_1, n4_2, n4_3, n4_4, n4_5, n4_6, n5_0, n5_1, n5_2, n5_3, n5_4, n5_5, n5_6, n6_0, n6_1, n6_2, n6_3, n6_4, n6_5, n6_6, nI_clamp, nI_1, bsm, nmd, gd_ix, gd_t, gd_bi, gd_b0, gd_b1, ite_b, ite_p, if_true, if_false, ite_true, ite_false, i10, i00, or0, add0, g0, g1, g2, g3, g4, g5, g6, c0, c1, c2, c3, c4, c5, c6, Bool.false_eq_true, decide_eq_true_eq, X4_has_y hp, isPer_y ha, hb, X4_pres_y hp hP, e1, X3_paidTo hIL (show p < 32 by omega)]
          · simp (disch := omega) only [m_X8_paid_J63, m_X8_paid_J42, m_X8_paid_J22, m_X8_paid, m_X8_fails, isPer_e, i20, i30, i40, i50, i60, i70, i80, i90, n0_0, n0_1, n0_2, n0_3, n0_4, n0_5, n0_6, n1_0, n1_1, n1_2, n1_3, n1_4, n1_5, n1_6, n2_0, n2_1, n2_2, n2_3, n2_4, n2_5, n2_6, n3_0, n3_1, n3_2, n3_3, n3_4, n3_5, n3_6, n4_0, n4_1, n4_2, n4_3, n4_4, n4_5, n4_6, n5_0, n5_1, n5_2, n5_3, n5_4, n5_5, n5_6, n6_0, n6_1, n6_2, n6_3, n6_4, n6_5, n6_6, nI_clamp, nI_1, bsm, nmd, gd_ix, gd_t, gd_bi, gd_b0, gd_b1, ite_b, ite_p, if_true, if_false, ite_true, ite_false, i10, i00, or0, add0, g0, g1, g2, g3, g4, g5, g6, c0, c1, c2, c3, c4, c5, c6, Bool.false_eq_true, decide_eq_true_eq, X8_isP_y hVP.1 hp hP, isPer_y ha, m_X8_isPrice, hb, X8_pres_y hVP hp hP (hI.day hp), e1, hr]
        · refine ⟨3, 0, g, ?_, ?_, fun q => absurd q (by decide)⟩
          · simp (disch := omega) only [m_L_paid, m_X7_paid_J26, m_X7_paid, m_X7_checkNumber, m_X7_checkArgument, m_X7_checkState, m_X7_checkAnswer, isFrom_e, isPer_e, i20, i30, i40, i50, i60, i70, i80, i90, n0_0, n0_1, n0_2, n0_3, n0_4, n0_5, n0_6, n1_0, n1_1, n1_2, n1_3, n1_4, n1_5, n1_6, n2_0, n2_1, n2_2, n2_3, n2_4, n2_5, n2_6, n3_0, n3_1, n3_2, n3_3, n3_4, n3_5, n3_6, n4_0, n4_1, n4_2, n4_3, n4_4, n4_5, n4_6, n5_0, n5_1, n5_2, n5_3, n5_4, n5_5, n5_6, n6_0, n6_1, n6_2, n6_3, n6_4, n6_5, n6_6, nI_clamp, nI_1, bsm, nmd, gd_ix, gd_t, gd_bi, gd_b0, gd_b1, ite_b, ite_p, if_true, if_false, ite_true, ite_false, i10, i00, or0, add0, g0, g1, g2, g3, g4, g5, g6, c0, c1, c2, c3, c4, c5, c6, Bool.false_eq_true, decide_eq_true_eq, X4_has_y hp, isPer_y ha, hb, X4_pres_y hp hP, e1]
          · simp (disch := omega) only [m_X8_paid_J63, m_X8_paid_J42, m_X8_paid_J22, m_X8_paid, m_X8_fails, isPer_e, i20, i30, i40, i50, i60, i70, i80, i90, n0_0, n0_1, n0_2, n0_3, n0_4, n0_5, n0_6, n1_0, n1_1, n1_2, n1_3, n1_4, n1_5, n1_6, n2_0, n2_1, n2_2, n2_3, n2_4, n2_5, n2_6, n3_0, n3_1, n3_2, n3_3, n3_4, n3_5, n3_6, n4_0, n4_1, n4_2, n4_3, n4_4, n4_5, n4_6, n5_0, n5_1, n5_2, n5_3, n5_4, n5_5, n5_6, n6_0, n6_1, n6_2, n6_3, n6_4, n6_5, n6_6, nI_clamp, nI_1, bsm, nmd, gd_ix, gd_t, gd_bi, gd_b0, gd_b1, ite_b, ite_p, if_true, if_false, ite_true, ite_false, i10, i00, or0, add0, g0, g1, g2, g3, g4, g5, g6, c0, c1, c2, c3, c4, c5, c6, Bool.false_eq_true, decide_eq_true_eq, X8_isP_y hVP.1 hp hP, isPer_y ha, m_X8_isPrice, hb, X8_pres_y hVP hp hP (hI.day hp), e1]

/-- the sums as numbers -/
def sN (b : Nat → Bool) (v : Nat → Nat) : Nat → Nat
  | 0 => 0
  | n + 1 => sN b v n + (if b n = true then v n else 0)
theorem sN_s {b : Nat → Bool} {v : Nat → Nat} {n : Nat} : sN b v (n + 1) = sN b v n + (if b n = true then v n else 0) := rfl
theorem sN_le {b : Nat → Bool} {v : Nat → Nat} {c : Nat} : ∀ n, (∀ k, k < n → v k ≤ c) → sN b v n ≤ n * c := by
  intro n
  induction n with
  | zero => intro _; exact Nat.zero_le _
  | succ n ih =>
    intro h
    have h1 := ih fun k hk => h k (by omega)
    have h2 := h n (by omega)
    rw [sN_s, Nat.succ_mul]
    by_cases q : b n = true
    · rw [if_pos q]; omega
    · rw [if_neg q]; omega
theorem sum_sN {b : Nat → Bool} {v : Nat → Int32} {w : Nat → Nat} : ∀ n, (∀ k, k < n → v k = nI (w k)) → foldN (sSum b v) 0 n = nI (sN b w n) := by
  intro n
  induction n with
  | zero => intro _; rfl
  | succ n ih =>
    intro h
    rw [foldN_s, ih fun k hk => h k (by omega), sN_s]
    cases hb : b n with
    | false => rw [sSum_f hb, if_neg (by decide)]; rfl
    | true => rw [sSum_t hb, h n (by omega), nI_add, if_pos rfl]
theorem pay_sN {b c : Nat → Bool} {v : Nat → Int32} {w : Nat → Nat} {y : Nat} (hy : y ≤ 1000000) (hc : ∀ k, c k = true) : ∀ n, (∀ k, k < n → v k = nI (w k) ∧ w k ≤ 9999) → foldN (sPay b v c) (nI y, 0) n = (nI (y - sN b w n), nI (y - (y - sN b w n))) := by
  intro n
  induction n with
  | zero =>
    intro _
    show (nI y, (0 : Int32)) = (nI (y - 0), nI (y - (y - 0)))
    rw [Nat.sub_zero, Nat.sub_self]; rfl
  | succ n ih =>
    intro h
    obtain ⟨h1, h2⟩ := h n (by omega)
    rw [foldN_s, ih fun k hk => h k (by omega), sN_s]
    unfold sPay
    cases hb : b n with
    | false => simp only [Bool.false_eq_true, if_false, Nat.add_zero]
    | true =>
      simp only [if_true, hc n, h1]
      by_cases q : y - sN b w n ≤ w n
      · rw [if_pos (nI_le q (by omega)), pk_sub (Nat.le_refl _), nI_add]
        rw [show y - sN b w n - (y - sN b w n) = y - (sN b w n + w n) by omega, show y - (y - sN b w n) + (y - sN b w n) = y - (y - (sN b w n + w n)) by omega]
      · rw [if_neg (nI_ge (by omega) (by omega)), pk_sub (by omega), nI_add]
        rw [show y - sN b w n - w n = y - (sN b w n + w n) by omega, show y - (y - sN b w n) + w n = y - (y - (sN b w n + w n)) by omega]
theorem left_same {y S : Nat} (hy : y ≤ 1000000) (hS : S ≤ 1000000) : (if (0 : Int32) < nI y - nI S then nI y - nI S else 0) = nI y - nI (y - (y - S)) := by
  rw [pk_sub (show y - (y - S) ≤ y by omega), show y - (y - (y - S)) = y - S by omega]
  by_cases q : S < y
  · have z : (0 : Int32) < nI (y - S) := (show nI 0 < nI (y - S) from nI_lt (by omega) (by omega))
    rw [pk_sub (by omega), if_pos z]
  · by_cases e : S = y
    · rw [e, pk_sub (Nat.le_refl _), Nat.sub_self]; rfl
    · have h1 := pk_sneg (a := y) (b := S) (by omega) (by omega)
      rw [if_neg (fun h2 => Int32.lt_irrefl (Int32.lt_trans h2 h1)), show y - S = 0 by omega]
      rfl

set_option maxHeartbeats 4000000 in
theorem op_left {P D E L K dn : Nat} {ar fi la nb pa ro dp dg de dd ek eo es ef el lc lm lp lr n : Nat → Int32} (h : WC P D E L K dn ar fi la nb pa ro dp dg de dd ek eo es ef el lc lm lp lr n) (x1 : Int32) (x2 : Int32) (g : Nat → Int64) : ∃ k b g', m_L_left x1 x2 (nI P) la (nI K) lm lp lr g = some (k, g') ∧ m_X8_left x1 x2 n = some (b, k) ∧ (k = 0 → g' 0 = b.toInt64) := by
  obtain ⟨hI, hRD, hIE, hIL, hVP, hVE, hVL, hn0, hn6⟩ := h
  have hP := hI.le
  have hdl := hI.dl
  have hE := hIE.1
  have hL := hIL.1
  have hK := hIL.2.1
  have hD := hRD.1.1
  have hid := hRD.id2
  rcases par_or x1 P with hn | ⟨p, hp, rfl⟩
  · refine ⟨1, 0, g, ?_, ?_, fun q => absurd q (by decide)⟩
    · simp (disch := omega) only [m_L_left, m_X7_left, m_X7_checkNumber, m_X7_checkArgument, m_X7_checkState, m_X7_checkAnswer, isFrom_e, isPer_e, i20, i30, i40, i50, i60, i70, i80, i90, n0_0, n0_1, n0_2, n0_3, n0_4, n0_5, n0_6, n1_0, n1_1, n1_2, n1_3, n1_4, n1_5, n1_6, n2_0, n2_1, n2_2, n2_3, n2_4, n2_5, n2_6, n3_0, n3_1, n3_2, n3_3, n3_4, n3_5, n3_6, n4_0, n4_1, n4_2, n4_3, n4_4, n4_5, n4_6, n5_0, n5_1, n5_2, n5_3, n5_4, n5_5, n5_6, n6_0, n6_1, n6_2, n6_3, n6_4, n6_5, n6_6, nI_clamp, nI_1, bsm, nmd, gd_ix, gd_t, gd_bi, gd_b0, gd_b1, ite_b, ite_p, if_true, if_false, ite_true, ite_false, i10, i00, or0, add0, g0, g1, g2, g3, g4, g5, g6, c0, c1, c2, c3, c4, c5, c6, Bool.false_eq_true, decide_eq_true_eq, X4_has_n hn]
    · simp (disch := omega) only [m_X8_left_J56, m_X8_left_J35, m_X8_left_J15, m_X8_left, m_X8_fails, isPer_e, i20, i30, i40, i50, i60, i70, i80, i90, n0_0, n0_1, n0_2, n0_3, n0_4, n0_5, n0_6, n1_0, n1_1, n1_2, n1_3, n1_4, n1_5, n1_6, n2_0, n2_1, n2_2, n2_3, n2_4, n2_5, n2_6, n3_0, n3_1, n3_2, n3_3, n3_4, n3_5, n3_6, n4_0, n4_1, n4_2, n4_3, n4_4, n4_5, n4_6, n5_0, n5_1, n5_2, n5_3, n5_4, n5_5, n5_6, n6_0, n6_1, n6_2, n6_3, n6_4, n6_5, n6_6, nI_clamp, nI_1, bsm, nmd, gd_ix, gd_t, gd_bi, gd_b0, gd_b1, ite_b, ite_p, if_true, if_false, ite_true, ite_false, i10, i00, or0, add0, g0, g1, g2, g3, g4, g5, g6, c0, c1, c2, c3, c4, c5, c6, Bool.false_eq_true, decide_eq_true_eq, X8_isP_n hVP.1 hn hP]
  · rcases isB_or x2 0 1000000 with hb | hb
    · refine ⟨2, 0, g, ?_, ?_, fun q => absurd q (by decide)⟩
      · simp (disch := omega) only [m_L_left, m_X7_left, m_X7_checkNumber, m_X7_checkArgument, m_X7_checkState, m_X7_checkAnswer, isFrom_e, isPer_e, i20, i30, i40, i50, i60, i70, i80, i90, n0_0, n0_1, n0_2, n0_3, n0_4, n0_5, n0_6, n1_0, n1_1, n1_2, n1_3, n1_4, n1_5, n1_6, n2_0, n2_1, n2_2, n2_3, n2_4, n2_5, n2_6, n3_0, n3_1, n3_2, n3_3, n3_4, n3_5, n3_6, n4_0, n4_1, n4_2, n4_3, n4_4, n4_5, n4_6, n5_0, n5_1, n5_2, n5_3, n5_4, n5_5, n5_6, n6_0, n6_1, n6_2, n6_3, n6_4, n6_5, n6_6, nI_clamp, nI_1, bsm, nmd, gd_ix, gd_t, gd_bi, gd_b0, gd_b1, ite_b, ite_p, if_true, if_false, ite_true, ite_false, i10, i00, or0, add0, g0, g1, g2, g3, g4, g5, g6, c0, c1, c2, c3, c4, c5, c6, Bool.false_eq_true, decide_eq_true_eq, X4_has_y hp, hb]
      · simp (disch := omega) only [m_X8_left_J56, m_X8_left_J35, m_X8_left_J15, m_X8_left, m_X8_fails, isPer_e, i20, i30, i40, i50, i60, i70, i80, i90, n0_0, n0_1, n0_2, n0_3, n0_4, n0_5, n0_6, n1_0, n1_1, n1_2, n1_3, n1_4, n1_5, n1_6, n2_0, n2_1, n2_2, n2_3, n2_4, n2_5, n2_6, n3_0, n3_1, n3_2, n3_3, n3_4, n3_5, n3_6, n4_0, n4_1, n4_2, n4_3, n4_4, n4_5, n4_6, n5_0, n5_1, n5_2, n5_3, n5_4, n5_5, n5_6, n6_0, n6_1, n6_2, n6_3, n6_4, n6_5, n6_6, nI_clamp, nI_1, bsm, nmd, gd_ix, gd_t, gd_bi, gd_b0, gd_b1, ite_b, ite_p, if_true, if_false, ite_true, ite_false, i10, i00, or0, add0, g0, g1, g2, g3, g4, g5, g6, c0, c1, c2, c3, c4, c5, c6, Bool.false_eq_true, decide_eq_true_eq, X8_isP_y hVP.1 hp hP, m_X8_isPrice, hb]
    · obtain ⟨y, hy, rfl⟩ := isB_val (c := 1000000) rfl (by omega) hb
      have hv : ∀ k, k < K → lm (rkN lr k) = nI (lm (rkN lr k)).toNatClampNeg ∧ (lm (rkN lr k)).toNatClampNeg ≤ 9999 := fun k hk => by
        obtain ⟨r1, r2⟩ := hIL.rk hk
        obtain ⟨z, hz1, hz2, hz3⟩ := hIL.am r2
        rw [hz3, nI_clamp (by omega)]
        exact ⟨rfl, hz2⟩
      have hr := X8_payments hIL hVL (show p < 32 by omega) (-1) (nI y)
      have hS := sN_le (b := bOn lp lr p) (c := 9999) K fun k hk => (hv k hk).2
      have hS2 : sN (bOn lp lr p) (fun k => (lm (rkN lr k)).toNatClampNeg) K ≤ 1000000 := by
        have : K * 9999 ≤ 20 * 9999 := Nat.mul_le_mul_right _ (by omega)
        omega
      rw [pay_sN (w := fun k => (lm (rkN lr k)).toNatClampNeg) hy (fun k => by rw [decide_eq_true m1_neg]; rfl) K hv] at hr
      have hc := X3_sumOn hIL (show p < 32 by omega)
      rw [sum_sN (w := fun k => (lm (rkN lr k)).toNatClampNeg) K fun k hk => (hv k hk).1] at hc
      have hls := left_same hy hS2
      by_cases e1 : la p = -1
      · refine ⟨0, nI y - nI (y - (y - sN (bOn lp lr p) (fun k => (lm (rkN lr k)).toNatClampNeg) K)), vp_updL g (0 : Int32).toNatClampNeg (Int32.toInt64 (nI y - nI (y - (y - sN (bOn lp lr p) (fun k => (lm (rkN lr k)).toNatClampNeg) K)))), ?_, ?_, fun _ => rfl⟩
        · simp (disch := omega) only [m_L_left, m_X7_left, m_X7_checkNumber, m_X7_checkArgument, m_X7_checkState, m_X7_checkAnswer, isFrom_e, isPer_e, i20, i30, i40, i50, i60, i70, i80, i90, n0_0, n0_1, n0_2, n0_3, n0_4, n0_5, n0_6, n1_0, n1_1, n1_2, n1_3, n1_4, n1_5, n1_6, n2_0, n2_1, n2_2, n2_3, n2_4, n2_5, n2_6, n3_0, n3_1, n3_2, n3_3, n3_4, n3_5, n3_6, n4_0, n4_1, n4_2, n4_3, n4_4, n4_5, n4_6, n5_0, n5_1, n5_2, n5_3, n5_4, n5_5, n5_6, n6_0, n6_1, n6_2, n6_3, n6_4, n6_5, n6_6, nI_clamp, nI_1, bsm, nmd, gd_ix, gd_t, gd_bi, gd_b0, gd_b1, ite_b, ite_p, if_true, if_false, ite_true, ite_false, i10, i00, or0, add0, g0, g1, g2, g3, g4, g5, g6, c0, c1, c2, c3, c4, c5, c6, Bool.false_eq_true, decide_eq_true_eq, X4_has_y hp, hb, X4_pres_y hp hP, e1, hc, hls]
        · simp (disch := omega) only [m_X8_left_J56, m_X8_left_J35, m_X8_left_J15, m_X8_left, m_X8_fails, isPer_e, i20, i30, i40, i50, i60, i70, i80, i90, n0_0, n0_1, n0_2, n0_3, n0_4, n0_5, n0_6, n1_0, n1_1, n1_2, n1_3, n1_4, n1_5, n1_6, n2_0, n2_1, n2_2, n2_3, n2_4, n2_5, n2_6, n3_0, n3_1, n3_2, n3_3, n3_4, n3_5, n3_6, n4_0, n4_1, n4_2, n4_3, n4_4, n4_5, n4_6, n5_0, n5_1, n5_2, n5_3, n5_4, n5_5, n5_6, n6_0, n6_1, n6_2, n6_3, n6_4, n6_5, n6_6, nI_clamp, nI_1, bsm, nmd, gd_ix, gd_t, gd_bi, gd_b0, gd_b1, ite_b, ite_p, if_true, if_false, ite_true, ite_false, i10, i00, or0, add0, g0, g1, g2, g3, g4, g5, g6, c0, c1, c2, c3, c4, c5, c6, Bool.false_eq_true, decide_eq_true_eq, X8_isP_y hVP.1 hp hP, m_X8_isPrice, hb, X8_pres_y hVP hp hP (hI.day hp), e1, hr]
      · refine ⟨3, 0, g, ?_, ?_, fun q => absurd q (by decide)⟩
        · simp (disch := omega) only [m_L_left, m_X7_left, m_X7_checkNumber, m_X7_checkArgument, m_X7_checkState, m_X7_checkAnswer, isFrom_e, isPer_e, i20, i30, i40, i50, i60, i70, i80, i90, n0_0, n0_1, n0_2, n0_3, n0_4, n0_5, n0_6, n1_0, n1_1, n1_2, n1_3, n1_4, n1_5, n1_6, n2_0, n2_1, n2_2, n2_3, n2_4, n2_5, n2_6, n3_0, n3_1, n3_2, n3_3, n3_4, n3_5, n3_6, n4_0, n4_1, n4_2, n4_3, n4_4, n4_5, n4_6, n5_0, n5_1, n5_2, n5_3, n5_4, n5_5, n5_6, n6_0, n6_1, n6_2, n6_3, n6_4, n6_5, n6_6, nI_clamp, nI_1, bsm, nmd, gd_ix, gd_t, gd_bi, gd_b0, gd_b1, ite_b, ite_p, if_true, if_false, ite_true, ite_false, i10, i00, or0, add0, g0, g1, g2, g3, g4, g5, g6, c0, c1, c2, c3, c4, c5, c6, Bool.false_eq_true, decide_eq_true_eq, X4_has_y hp, hb, X4_pres_y hp hP, e1]
        · simp (disch := omega) only [m_X8_left_J56, m_X8_left_J35, m_X8_left_J15, m_X8_left, m_X8_fails, isPer_e, i20, i30, i40, i50, i60, i70, i80, i90, n0_0, n0_1, n0_2, n0_3, n0_4, n0_5, n0_6, n1_0, n1_1, n1_2, n1_3, n1_4, n1_5, n1_6, n2_0, n2_1, n2_2, n2_3, n2_4, n2_5, n2_6, n3_0, n3_1, n3_2, n3_3, n3_4, n3_5, n3_6, n4_0, n4_1, n4_2, n4_3, n4_4, n4_5, n4_6, n5_0, n5_1, n5_2, n5_3, n5_4, n5_5, n5_6, n6_0, n6_1, n6_2, n6_3, n6_4, n6_5, n6_6, nI_clamp, nI_1, bsm, nmd, gd_ix, gd_t, gd_bi, gd_b0, gd_b1, ite_b, ite_p, if_true, if_false, ite_true, ite_false, i10, i00, or0, add0, g0, g1, g2, g3, g4, g5, g6, c0, c1, c2, c3, c4, c5, c6, Bool.false_eq_true, decide_eq_true_eq, X8_isP_y hVP.1 hp hP, m_X8_isPrice, hb, X8_pres_y hVP hp hP (hI.day hp), e1]

theorem on_bit {L K l p : Nat} {lc lm lp lr : Nat → Int32} (h : IL L K lc lm lp lr) (hb : bt (foldN (sOr (bOn lp lr p) (fun k => pw (rkN lr k))) 0 K) l = true) : ∃ i, fnd (bEq lr (nI l)) K = some i ∧ i < K := by
  have hL := h.1
  rcases sOr_b.mp hb with h1 | ⟨k, hk, _, h2⟩
  · rw [b_0] at h1; cases h1
  · obtain ⟨r1, r2⟩ := h.rk hk
    rw [b_pw (by omega)] at h2
    have e : l = rkN lr k := of_decide_eq_true h2
    cases hf : fnd (bEq lr (nI l)) K with
    | some i => exact ⟨i, rfl, (fnd_some hf).1⟩
    | none =>
      have := fnd_none hf k hk
      rw [bEq_t.mpr (by rw [e]; exact r1)] at this
      cases this
set_option maxHeartbeats 1000000 in
theorem X3_sumUpTo {L K p i : Nat} {lc lm lp lr : Nat → Int32} (h : IL L K lc lm lp lr) (hp : p < 32) (hi : i < K) {x : Int32} (hf : fnd (bEq lr x) K = some i) : m_X3_sumUpTo x (nI p) (nI K) lm lp lr = some (foldN (sSum (bOn lp lr p) (fun k => lm (rkN lr k))) 0 (i + 1)) := by
  have hL := h.1
  have hK := h.2.1
  unfold m_X3_sumUpTo
  rw [X3_placeOf h, hf, bsm]
  refine for_up (c := i + 1) (fun s x => (s, x)) (sSum (bOn lp lr p) (fun k => lm (rkN lr k))) 0 (by omega) (fun rec j hj => ?_) (fun rec => ?_)
  · generalize foldN (sSum (bOn lp lr p) (fun k => lm (rkN lr k))) 0 j = s
    have hl := X3_liesOn h (show j < K by omega) hp
    obtain ⟨r1, r2⟩ := h.rk (show j < K by omega)
    cases hb : bt (lp (rkN lr j)) p
    all_goals simp (disch := omega) only [m_X3_sumUpTo_L12, lt_no, hl, hb, r1, sSum, bOn, nI_clamp, nI_1, bsm, nmd, gd_ix, gd_t, gd_bi, gd_b0, gd_b1, ite_b, ite_p, if_true, if_false, ite_true, ite_false, i10, i00, or0, add0, g0, g1, g2, g3, g4, g5, g6, c0, c1, c2, c3, c4, c5, c6, Bool.false_eq_true, decide_eq_true_eq]
  · simp (disch := omega) only [m_X3_sumUpTo_L12, lt_yes]
set_option maxHeartbeats 1000000 in
theorem X8_needed0 {L K p i : Nat} {lc lm lp lr n : Nat → Int32} (h : IL L K lc lm lp lr) (hV : VL L K lc lm lp lr n) (hp : p < 32) (hi : i < K) {x : Int32} (hf : fnd (bEq lr x) K = some i) (v : Int32) : fuel (m_X8_needed_L61 n x (nI p) v) FU (0, 0) = some (foldN (sSum (bOn lp lr p) (fun k => lm (rkN lr k))) 0 (i + 1), v) := by
  have hL := h.1
  have hK := h.2.1
  have hr := X8_rankOf h hV x
  rw [hf] at hr
  refine for_up (c := i + 1) (fun s x => (s, x)) (sSum (bOn lp lr p) (fun k => lm (rkN lr k))) 0 (by omega) (fun rec j hj => ?_) (fun rec => ?_)
  · generalize foldN (sSum (bOn lp lr p) (fun k => lm (rkN lr k))) 0 j = s
    obtain ⟨r1, r2⟩ := h.rk (show j < K by omega)
    have hn := hV.lr (show j < K by omega)
    cases hb : bt (lp (rkN lr j)) p
    all_goals simp (disch := omega) only [m_X8_needed_L61, lt_no, hr, hb, rk_ix, rk_cl, hn, r1, hV.lp hL r2, hV.lm hL r2, has_b, sSum, bOn, nI_clamp, nI_1, bsm, nmd, gd_ix, gd_t, gd_bi, gd_b0, gd_b1, ite_b, ite_p, if_true, if_false, ite_true, ite_false, i10, i00, or0, add0, g0, g1, g2, g3, g4, g5, g6, c0, c1, c2, c3, c4, c5, c6, Bool.false_eq_true, decide_eq_true_eq]
  · simp (disch := omega) only [m_X8_needed_L61, lt_yes, hr, bsm]

set_option maxHeartbeats 4000000 in
theorem op_needed {P D E L K dn : Nat} {ar fi la nb pa ro dp dg de dd ek eo es ef el lc lm lp lr n : Nat → Int32} (h : WC P D E L K dn ar fi la nb pa ro dp dg de dd ek eo es ef el lc lm lp lr n) (x1 : Int32) (x2 : Int32) (g : Nat → Int64) : ∃ k b g', m_L_needed x1 x2 (nI P) (nI L) (nI K) lm lp lr g = some (k, g') ∧ m_X8_needed x1 x2 n = some (b, k) ∧ (k = 0 → g' 0 = b.toInt64) := by
  obtain ⟨hI, hRD, hIE, hIL, hVP, hVE, hVL, hn0, hn6⟩ := h
  have hP := hI.le
  have hdl := hI.dl
  have hE := hIE.1
  have hL := hIL.1
  have hK := hIL.2.1
  have hD := hRD.1.1
  have hid := hRD.id2
  rcases par_or x1 L with hn | ⟨l, hl, rfl⟩
  · refine ⟨1, 0, g, ?_, ?_, fun q => absurd q (by decide)⟩
    · simp (disch := omega) only [m_L_needed, m_X7_needed_J33, m_X7_needed, m_X7_checkNumber, m_X7_checkArgument, m_X7_checkState, m_X7_checkAnswer, isFrom_e, isPer_e, i20, i30, i40, i50, i60, i70, i80, i90, n0_0, n0_1, n0_2, n0_3, n0_4, n0_5, n0_6, n1_0, n1_1, n1_2, n1_3, n1_4, n1_5, n1_6, n2_0, n2_1, n2_2, n2_3, n2_4, n2_5, n2_6, n3_0, n3_1, n3_2, n3_3, n3_4, n3_5, n3_6, n4_0, n4_1, n4_2, n4_3, n4_4, n4_5, n4_6, n5_0, n5_1, n5_2, n5_3, n5_4, n5_5, n5_6, n6_0, n6_1, n6_2, n6_3, n6_4, n6_5, n6_6, nI_clamp, nI_1, bsm, nmd, gd_ix, gd_t, gd_bi, gd_b0, gd_b1, ite_b, ite_p, if_true, if_false, ite_true, ite_false, i10, i00, or0, add0, g0, g1, g2, g3, g4, g5, g6, c0, c1, c2, c3, c4, c5, c6, Bool.false_eq_true, decide_eq_true_eq, X3_has_e2, X4_has_n hn]
    · simp (disch := omega) only [m_X8_needed_J48, m_X8_needed_J23, m_X8_needed, m_X8_fails, isPer_e, i20, i30, i40, i50, i60, i70, i80, i90, n0_0, n0_1, n0_2, n0_3, n0_4, n0_5, n0_6, n1_0, n1_1, n1_2, n1_3, n1_4, n1_5, n1_6, n2_0, n2_1, n2_2, n2_3, n2_4, n2_5, n2_6, n3_0, n3_1, n3_2, n3_3, n3_4, n3_5, n3_6, n4_0, n4_1, n4_2, n4_3, n4_4, n4_5, n4_6, n5_0, n5_1, n5_2, n5_3, n5_4, n5_5, n5_6, n6_0, n6_1, n6_2, n6_3, n6_4, n6_5, n6_6, nI_clamp, nI_1, bsm, nmd, gd_ix, gd_t, gd_bi, gd_b0, gd_b1, ite_b, ite_p, if_true, if_false, ite_true, ite_false, i10, i00, or0, add0, g0, g1, g2, g3, g4, g5, g6, c0, c1, c2, c3, c4, c5, c6, Bool.false_eq_true, decide_eq_true_eq, X8_isL_n hVL.1 hn hL]
  · rcases par_or x2 P with hn | ⟨p, hp, rfl⟩
    · refine ⟨1, 0, g, ?_, ?_, fun q => absurd q (by decide)⟩
      · simp (disch := omega) only [m_L_needed, m_X7_needed_J33, m_X7_needed, m_X7_checkNumber, m_X7_checkArgument, m_X7_checkState, m_X7_checkAnswer, isFrom_e, isPer_e, i20, i30, i40, i50, i60, i70, i80, i90, n0_0, n0_1, n0_2, n0_3, n0_4, n0_5, n0_6, n1_0, n1_1, n1_2, n1_3, n1_4, n1_5, n1_6, n2_0, n2_1, n2_2, n2_3, n2_4, n2_5, n2_6, n3_0, n3_1, n3_2, n3_3, n3_4, n3_5, n3_6, n4_0, n4_1, n4_2, n4_3, n4_4, n4_5, n4_6, n5_0, n5_1, n5_2, n5_3, n5_4, n5_5, n5_6, n6_0, n6_1, n6_2, n6_3, n6_4, n6_5, n6_6, nI_clamp, nI_1, bsm, nmd, gd_ix, gd_t, gd_bi, gd_b0, gd_b1, ite_b, ite_p, if_true, if_false, ite_true, ite_false, i10, i00, or0, add0, g0, g1, g2, g3, g4, g5, g6, c0, c1, c2, c3, c4, c5, c6, Bool.false_eq_true, decide_eq_true_eq, X3_has_e2, X4_has_y hl, X4_has_n hn]
      · simp (disch := omega) only [m_X8_needed_J48, m_X8_needed_J23, m_X8_needed, m_X8_fails, isPer_e, i20, i30, i40, i50, i60, i70, i80, i90, n0_0, n0_1, n0_2, n0_3, n0_4, n0_5, n0_6, n1_0, n1_1, n1_2, n1_3, n1_4, n1_5, n1_6, n2_0, n2_1, n2_2, n2_3, n2_4, n2_5, n2_6, n3_0, n3_1, n3_2, n3_3, n3_4, n3_5, n3_6, n4_0, n4_1, n4_2, n4_3, n4_4, n4_5, n4_6, n5_0, n5_1, n5_2, n5_3, n5_4, n5_5, n5_6, n6_0, n6_1, n6_2, n6_3, n6_4, n6_5, n6_6, nI_clamp, nI_1, bsm, nmd, gd_ix, gd_t, gd_bi, gd_b0, gd_b1, ite_b, ite_p, if_true, if_false, ite_true, ite_false, i10, i00, or0, add0, g0, g1, g2, g3, g4, g5, g6, c0, c1, c2, c3, c4, c5, c6, Bool.false_eq_true, decide_eq_true_eq, X8_isL_y hVL.1 hl hL, X8_isP_n hVP.1 hn hP]
    · have ho := X3_onParcel hIL (show p < 32 by omega)
      have hr := X8_liensOn hIL hVL (show p < 32 by omega)
      cases hb : bt (foldN (sOr (bOn lp lr p) (fun k => pw (rkN lr k))) 0 K) l with
      | false =>
        refine ⟨2, 0, g, ?_, ?_, fun q => absurd q (by decide)⟩
        · simp (disch := omega) only [m_L_needed, m_X7_needed_J33, m_X7_needed, m_X7_checkNumber, m_X7_checkArgument, m_X7_checkState, m_X7_checkAnswer, isFrom_e, isPer_e, i20, i30, i40, i50, i60, i70, i80, i90, n0_0, n0_1, n0_2, n0_3, n0_4, n0_5, n0_6, n1_0, n1_1, n1_2, n1_3, n1_4, n1_5, n1_6, n2_0, n2_1, n2_2, n2_3, n2_4, n2_5, n2_6, n3_0, n3_1, n3_2, n3_3, n3_4, n3_5, n3_6, n4_0, n4_1, n4_2, n4_3, n4_4, n4_5, n4_6, n5_0, n5_1, n5_2, n5_3, n5_4, n5_5, n5_6, n6_0, n6_1, n6_2, n6_3, n6_4, n6_5, n6_6, nI_clamp, nI_1, bsm, nmd, gd_ix, gd_t, gd_bi, gd_b0, gd_b1, ite_b, ite_p, if_true, if_false, ite_true, ite_false, i10, i00, or0, add0, g0, g1, g2, g3, g4, g5, g6, c0, c1, c2, c3, c4, c5, c6, Bool.false_eq_true, decide_eq_true_eq, X3_has_e2, X4_has_y hl, X4_has_y hp, m_X3_isLiveOn, ho, isIn_b, hb]
        · simp (disch := omega) only [m_X8_needed_J48, m_X8_needed_J23, m_X8_needed, m_X8_fails, isPer_e, i20, i30, i40, i50, i60, i70, i80, i90, n0_0, n0_1, n0_2, n0_3, n0_4, n0_5, n0_6, n1_0, n1_1, n1_2, n1_3, n1_4, n1_5, n1_6, n2_0, n2_1, n2_2, n2_3, n2_4, n2_5, n2_6, n3_0, n3_1, n3_2, n3_3, n3_4, n3_5, n3_6, n4_0, n4_1, n4_2, n4_3, n4_4, n4_5, n4_6, n5_0, n5_1, n5_2, n5_3, n5_4, n5_5, n5_6, n6_0, n6_1, n6_2, n6_3, n6_4, n6_5, n6_6, nI_clamp, nI_1, bsm, nmd, gd_ix, gd_t, gd_bi, gd_b0, gd_b1, ite_b, ite_p, if_true, if_false, ite_true, ite_false, i10, i00, or0, add0, g0, g1, g2, g3, g4, g5, g6, c0, c1, c2, c3, c4, c5, c6, Bool.false_eq_true, decide_eq_true_eq, X8_isL_y hVL.1 hl hL, X8_isP_y hVP.1 hp hP, hr, has_b, hb]
      | true =>
        obtain ⟨i, hf, hi⟩ := on_bit hIL hb
        refine ⟨0, foldN (sSum (bOn lp lr p) (fun k => lm (rkN lr k))) 0 (i + 1), vp_updL g (0 : Int32).toNatClampNeg (Int32.toInt64 (foldN (sSum (bOn lp lr p) (fun k => lm (rkN lr k))) 0 (i + 1))), ?_, ?_, fun _ => rfl⟩
        · simp (disch := omega) only [m_L_needed, m_X7_needed_J33, m_X7_needed, m_X7_checkNumber, m_X7_checkArgument, m_X7_checkState, m_X7_checkAnswer, isFrom_e, isPer_e, i20, i30, i40, i50, i60, i70, i80, i90, n0_0, n0_1, n0_2, n0_3, n0_4, n0_5, n0_6, n1_0, n1_1, n1_2, n1_3, n1_4, n1_5, n1_6, n2_0, n2_1, n2_2, n2_3, n2_4, n2_5, n2_6, n3_0, n3_1, n3_2, n3_3, n3_4, n3_5, n3_6, n4_0, n4_1, n4_2, n4_3, n4_4, n4_5, n4_6, n5_0, n5_1, n5_2, n5_3, n5_4, n5_5, n5_6, n6_0, n6_1, n6_2, n6_3, n6_4, n6_5, n6_6, nI_clamp, nI_1, bsm, nmd, gd_ix, gd_t, gd_bi, gd_b0, gd_b1, ite_b, ite_p, if_true, if_false, ite_true, ite_false, i10, i00, or0, add0, g0, g1, g2, g3, g4, g5, g6, c0, c1, c2, c3, c4, c5, c6, Bool.false_eq_true, decide_eq_true_eq, X3_has_e2, X4_has_y hl, X4_has_y hp, m_X3_isLiveOn, ho, isIn_b, hb, X3_sumUpTo hIL (show p < 32 by omega) hi hf]
        · simp (disch := omega) only [m_X8_needed_J48, m_X8_needed_J23, m_X8_needed, m_X8_fails, isPer_e, i20, i30, i40, i50, i60, i70, i80, i90, n0_0, n0_1, n0_2, n0_3, n0_4, n0_5, n0_6, n1_0, n1_1, n1_2, n1_3, n1_4, n1_5, n1_6, n2_0, n2_1, n2_2, n2_3, n2_4, n2_5, n2_6, n3_0, n3_1, n3_2, n3_3, n3_4, n3_5, n3_6, n4_0, n4_1, n4_2, n4_3, n4_4, n4_5, n4_6, n5_0, n5_1, n5_2, n5_3, n5_4, n5_5, n5_6, n6_0, n6_1, n6_2, n6_3, n6_4, n6_5, n6_6, nI_clamp, nI_1, bsm, nmd, gd_ix, gd_t, gd_bi, gd_b0, gd_b1, ite_b, ite_p, if_true, if_false, ite_true, ite_false, i10, i00, or0, add0, g0, g1, g2, g3, g4, g5, g6, c0, c1, c2, c3, c4, c5, c6, Bool.false_eq_true, decide_eq_true_eq, X8_isL_y hVL.1 hl hL, X8_isP_y hVP.1 hp hP, hr, has_b, hb, X8_needed0 hIL hVL (show p < 32 by omega) hi hf]

