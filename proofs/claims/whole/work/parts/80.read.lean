/-! A text carried out, on both sides. -/
theorem numberOf_e {i q : Nat} (hi : i < 12) (hq : q < 3) (nms : Nat → Int32) : m_X5_numberOf (nI i) (nI q) nms = some (nms (i * 3 + q)) := by
  unfold m_X5_numberOf
  have e : nI i * 3 + nI q = nI (i * 3 + q) := by
    show nI i * nI 3 + nI q = _
    rw [pk_mul, nI_add]
  rw [e, if_neg (nI_pos (by omega)), if_neg (show ¬ (36 : Int32) ≤ nI (i * 3 + q) from nI_ge (b := 36) (by omega) (by omega)), gd_ix (by omega) (by omega), nI_clamp (by omega)]
theorem wordOf_e {i : Nat} (hi : i < 12) (wds : Nat → Int32) : m_X5_wordOf (nI i) wds = some (wds i) := by
  unfold m_X5_wordOf
  rw [if_neg (nI_pos (by omega)), if_neg (show ¬ (12 : Int32) ≤ nI i from nI_ge (b := 12) (by omega) (by omega)), gd_ix (by omega) (by omega), nI_clamp (by omega)]

theorem ds_all {P D E L K dn : Nat} {ar fi la nb pa ro dp dg de dd ek eo es ef el lc lm lp lr n : Nat → Int32} (h : WC P D E L K dn ar fi la nb pa ro dp dg de dd ek eo es ef el lc lm lp lr n) {i w : Nat} {wds nms nu : Nat → Int32} {lre rea : Int32} (hre : RR lre rea) (hi : i < 12) (hw : w < 6) {v : Nat → Nat} (hv : ∀ k, v k ≤ 9999) (hwd : wds i = nI w) (hn : ∀ q, q < cn w → nms (i * 3 + q) = nI (v q)) (hu : ∀ j, j < cn w → nu j = nI (v j)) : DS i wds nms nu (nI w) lre rea P D E L K dn ar fi la nb pa ro dp dg de dd ek eo es ef el lc lm lp lr n := by
  have hwo := wordOf_e hi wds
  rw [hwd] at hwo
  have y0 := numberOf_e (q := 0) hi (by omega) nms
  have y1 := numberOf_e (q := 1) hi (by omega) nms
  have y2 := numberOf_e (q := 2) hi (by omega) nms
  rcases (show w = 0 ∨ w = 1 ∨ w = 2 ∨ w = 3 ∨ w = 4 ∨ w = 5 by omega) with rfl | rfl | rfl | rfl | rfl | rfl
  · rw [hn 0 (by decide)] at y0
    rw [hn 1 (by decide)] at y1
    exact do_split h hre hwo y0 y1 y2 (hu 0 (by decide)) (hu 1 (by decide))
  · rw [hn 0 (by decide)] at y0
    rw [hn 1 (by decide)] at y1
    exact do_merge h hre hwo y0 y1 y2 (hu 0 (by decide)) (hu 1 (by decide))
  · rw [hn 0 (by decide)] at y0
    rw [hn 1 (by decide)] at y1
    rw [hn 2 (by decide)] at y2
    exact do_deed h hre hwo y0 y1 y2 (hu 0 (by decide)) (hu 1 (by decide)) (hu 2 (by decide))
  · rw [hn 0 (by decide)] at y0
    rw [hn 1 (by decide)] at y1
    exact do_way h hre hwo y0 y1 y2 (hu 0 (by decide)) (hu 1 (by decide))
  · rw [hn 0 (by decide)] at y0
    rw [hn 1 (by decide)] at y1
    rw [hn 2 (by decide)] at y2
    exact do_lien h hre hwo y0 y1 y2 (hu 0 (by decide)) (hu 1 (by decide)) (hu 2 (by decide))
  · rw [hn 0 (by decide)] at y0
    exact do_days h hre hwo y0 y1 y2 (hu 0 (by decide)) ⟨v 0, hv 0, rfl⟩

set_option maxHeartbeats 4000000 in
theorem carry {a u : Nat → Int32} {l C : Nat} {pos ws : Nat → Nat} {vs : Nat → Nat → Nat} (hR : RUN a u l C pos ws vs) (hl : l ≤ 80) (hend : pos C = l) {wds nms : Nat → Int32} (h0 : RD0 ws vs C wds nms) {lre rea : Int32} (hre : RR lre rea) (gW : Nat → Nat → Int32) (kept rpo x0 : Int32) (as : Nat → Int32) : ∀ m i, i + m = C → ∀ (P D E L K dn : Nat) (ar fi la nb pa ro dp dg de dd ek eo es ef el lc lm lp lr n : Nat → Int32), WC P D E L K dn ar fi la nb pa ro dp dg de dd ek eo es ef el lc lm lp lr n → ∀ nu k k', m < k → m < k' →
    (∃ (P' D' E' L' K' dn' : Nat) (ar' fi' la' nb' pa' ro' dp' dg' de' dd' ek' eo' es' ef' el' lc' lm' lp' lr' n' nu' : Nat → Int32), fuel (m_X7_carryOut_L2 (nI C) wds nms lre) k (nI i, nI dn, nI P, ar, fi, la, nb, pa, ro, nI D, dp, dg, de, dd, nI E, ek, eo, es, ef, el, nI L, nI K, lc, lm, lp, lr) = some (1, lre, nI dn', nI P', ar', fi', la', nb', pa', ro', nI D', dp', dg', de', dd', nI E', ek', eo', es', ef', el', nI L', nI K', lc', lm', lp', lr') ∧ fuel (m_X8_read_L92 gW kept rpo u (nI l) x0 as) k' (1, rea, nI (pos i), 0, n, nu) = m_X8_read_J119 gW kept rpo x0 as (1, rea, nI l, 0, n', nu') ∧ WC P' D' E' L' K' dn' ar' fi' la' nb' pa' ro' dp' dg' de' dd' ek' eo' es' ef' el' lc' lm' lp' lr' n') ∨
    (∃ (W : WS) (lre' rea' at' : Int32) (n' nu' : Nat → Int32), fuel (m_X7_carryOut_L2 (nI C) wds nms lre) k (nI i, nI dn, nI P, ar, fi, la, nb, pa, ro, nI D, dp, dg, de, dd, nI E, ek, eo, es, ef, el, nI L, nI K, lc, lm, lp, lr) = some (0, lre', W) ∧ fuel (m_X8_read_L92 gW kept rpo u (nI l) x0 as) k' (1, rea, nI (pos i), 0, n, nu) = m_X8_read_J119 gW kept rpo x0 as (0, rea', at', 0, n', nu') ∧ RR lre' rea') := by
  have hC := hR.le hl
  intro m
  induction m with
  | zero =>
    intro i hi P D E L K dn ar fi la nb pa ro dp dg de dd ek eo es ef el lc lm lp lr n hWC nu k k' hk hk'
    have e : i = C := by omega
    subst e
    obtain ⟨k, rfl⟩ : ∃ z, k = z + 1 := ⟨k - 1, by omega⟩
    obtain ⟨k', rfl⟩ : ∃ z, k' = z + 1 := ⟨k' - 1, by omega⟩
    refine Or.inl ⟨P, D, E, L, K, dn, ar, fi, la, nb, pa, ro, dp, dg, de, dd, ek, eo, es, ef, el, lc, lm, lp, lr, n, nu, ?_, ?_, hWC⟩
    · show m_X7_carryOut_L2 _ _ _ _ (fuel _ k) _ = _
      have t1 : (nI i ≤ nI i) = True := eq_true (Int32.le_refl _)
      simp (disch := omega) only [m_X7_carryOut_L2, t1, nI_clamp, nI_1, bsm, nmd, gd_ix, gd_t, gd_bi, gd_b0, gd_b1, ite_b, ite_p, if_true, if_false, ite_true, ite_false, i10, i00, or0, add0, g0, g1, g2, g3, g4, g5, g6, c0, c1, c2, c3, c4, c5, c6, Bool.false_eq_true, decide_eq_true_eq]
    · show m_X8_read_L92 _ _ _ _ _ _ _ (fuel _ k') _ = _
      have t1 : (nI l ≤ nI l) = True := eq_true (Int32.le_refl _)
      rw [hend]
      simp (disch := omega) only [m_X8_read_L92, t1, nI_clamp, nI_1, bsm, nmd, gd_ix, gd_t, gd_bi, gd_b0, gd_b1, ite_b, ite_p, if_true, if_false, ite_true, ite_false, i10, i00, or0, add0, g0, g1, g2, g3, g4, g5, g6, c0, c1, c2, c3, c4, c5, c6, Bool.false_eq_true, decide_eq_true_eq]
  | succ m ih =>
    intro i hi P D E L K dn ar fi la nb pa ro dp dg de dd ek eo es ef el lc lm lp lr n hWC nu k k' hk hk'
    obtain ⟨k, rfl⟩ : ∃ z, k = z + 1 := ⟨k - 1, by omega⟩
    obtain ⟨k', rfl⟩ : ∃ z, k' = z + 1 := ⟨k' - 1, by omega⟩
    have t1 : (nI C ≤ nI i) = False := eq_false (nI_ge (by omega) (by omega))
    have t2 : (nI l ≤ nI (pos i)) = False := eq_false (nI_ge (hR.lt (by omega)) (by omega))
    obtain ⟨z1, z2, z3, z4, z5, z6⟩ := hR i (by omega)
    obtain ⟨nu1, u1, u2⟩ := z6 nu
    obtain ⟨d1, d2⟩ := h0 i (by omega)
    rcases ds_all hWC hre (by omega) z1 z4 d1 d2 u2 with ⟨f, lre', rea', f1, f2, f3, f4, f5⟩ | ⟨P', D', E', L', K', dn', ar', fi', la', nb', pa', ro', dp', dg', de', dd', ek', eo', es', ef', el', lc', lm', lp', lr', n', f1, f2, f3, f4⟩
    · refine Or.inr ⟨(nI dn, nI P, ar, fi, la, nb, pa, ro, nI D, dp, dg, de, dd, nI E, ek, eo, es, ef, el, nI L, nI K, lc, lm, lp, lr), lre', rea', nI (pos (i + 1)), n, nu1, ?_, ?_, f5⟩
      · show m_X7_carryOut_L2 _ _ _ _ (fuel _ k) _ = _
        simp (disch := omega) only [m_X7_carryOut_L2, m_X7_carryOut_J23, t1, f1, f2, f3, nI_clamp, nI_1, bsm, nmd, gd_ix, gd_t, gd_bi, gd_b0, gd_b1, ite_b, ite_p, if_true, if_false, ite_true, ite_false, i10, i00, or0, add0, g0, g1, g2, g3, g4, g5, g6, c0, c1, c2, c3, c4, c5, c6, Bool.false_eq_true, decide_eq_true_eq]
      · show m_X8_read_L92 _ _ _ _ _ _ _ (fuel _ k') _ = _
        have hx : fuel (m_X8_read_L92 gW kept rpo u (nI l) x0 as) k' (0, rea', nI (pos (i + 1)), 0, n, nu1) = m_X8_read_J119 gW kept rpo x0 as (0, rea', nI (pos (i + 1)), 0, n, nu1) := by
          obtain ⟨k', rfl⟩ : ∃ z, k' = z + 1 := ⟨k' - 1, by omega⟩
          show m_X8_read_L92 _ _ _ _ _ _ _ (fuel _ k') _ = _
          simp (disch := omega) only [m_X8_read_L92, nI_clamp, nI_1, bsm, nmd, gd_ix, gd_t, gd_bi, gd_b0, gd_b1, ite_b, ite_p, if_true, if_false, ite_true, ite_false, i10, i00, or0, add0, g0, g1, g2, g3, g4, g5, g6, c0, c1, c2, c3, c4, c5, c6, Bool.false_eq_true, decide_eq_true_eq]
        simp (disch := omega) only [m_X8_read_L92, t2, u1, f4, hx, nI_clamp, nI_1, bsm, nmd, gd_ix, gd_t, gd_bi, gd_b0, gd_b1, ite_b, ite_p, if_true, if_false, ite_true, ite_false, i10, i00, or0, add0, g0, g1, g2, g3, g4, g5, g6, c0, c1, c2, c3, c4, c5, c6, Bool.false_eq_true, decide_eq_true_eq]
    · have hs : fuel (m_X7_carryOut_L2 (nI C) wds nms lre) (k + 1) (nI i, nI dn, nI P, ar, fi, la, nb, pa, ro, nI D, dp, dg, de, dd, nI E, ek, eo, es, ef, el, nI L, nI K, lc, lm, lp, lr) = fuel (m_X7_carryOut_L2 (nI C) wds nms lre) k (nI (i + 1), nI dn', nI P', ar', fi', la', nb', pa', ro', nI D', dp', dg', de', dd', nI E', ek', eo', es', ef', el', nI L', nI K', lc', lm', lp', lr') := by
        show m_X7_carryOut_L2 _ _ _ _ (fuel _ k) _ = _
        simp (disch := omega) only [m_X7_carryOut_L2, t1, f1, f2, nI_clamp, nI_1, bsm, nmd, gd_ix, gd_t, gd_bi, gd_b0, gd_b1, ite_b, ite_p, if_true, if_false, ite_true, ite_false, i10, i00, or0, add0, g0, g1, g2, g3, g4, g5, g6, c0, c1, c2, c3, c4, c5, c6, Bool.false_eq_true, decide_eq_true_eq]
      have hr : fuel (m_X8_read_L92 gW kept rpo u (nI l) x0 as) (k' + 1) (1, rea, nI (pos i), 0, n, nu) = fuel (m_X8_read_L92 gW kept rpo u (nI l) x0 as) k' (1, rea, nI (pos (i + 1)), 0, n', nu1) := by
        show m_X8_read_L92 _ _ _ _ _ _ _ (fuel _ k') _ = _
        simp (disch := omega) only [m_X8_read_L92, t2, u1, f3, nI_clamp, nI_1, bsm, nmd, gd_ix, gd_t, gd_bi, gd_b0, gd_b1, ite_b, ite_p, if_true, if_false, ite_true, ite_false, i10, i00, or0, add0, g0, g1, g2, g3, g4, g5, g6, c0, c1, c2, c3, c4, c5, c6, Bool.false_eq_true, decide_eq_true_eq]
      rw [hs, hr]
      exact ih (i + 1) (by omega) P' D' E' L' K' dn' ar' fi' la' nb' pa' ro' dp' dg' de' dd' ek' eo' es' ef' el' lc' lm' lp' lr' n' f4 nu1 k k' (by omega) (by omega)

set_option maxHeartbeats 16000000 in
theorem op_read {P D E L K dn : Nat} {ar fi la nb pa ro dp dg de dd ek eo es ef el lc lm lp lr n : Nat → Int32} (h : WC P D E L K dn ar fi la nb pa ro dp dg de dd ek eo es ef el lc lm lp lr n) {c x : Nat} {hW : Nat → WS} {gW : Nat → Nat → Int32} (hH : HR c x hW gW) {lre rea lpo rpo : Int32} (hre : RR lre rea) (hpo : lpo = -1 ∧ rpo = -1 ∨ ∃ k, k ≤ 80 ∧ lpo = nI k ∧ rpo = nI k) {l : Nat} {a u : Nat → Int32} (hT : TR l a u) (y1 y2 y9 y14 y20 y21 : Int32) (y3 y4 y5 y6 y7 y8 y10 y11 y12 y13 y15 y16 y17 y18 y19 y22 y23 y24 y25 wds nms as nu : Nat → Int32) (g : Nat → Int64) : ∃ (k b : Int32) (g' : Nat → Int64) (lre' lpo' rea' rpo' : Int32) (P' D' E' L' K' dn' c' x' : Nat) (ar' fi' la' nb' pa' ro' dp' dg' de' dd' ek' eo' es' ef' el' lc' lm' lp' lr' n' : Nat → Int32) (hW' : Nat → WS) (gW' : Nat → Nat → Int32) (y1' y2' y9' y14' y20' y21' ta tc ra rwr : Int32) (y3' y4' y5' y6' y7' y8' y10' y11' y12' y13' y15' y16' y17' y18' y19' y22' y23' y24' y25' wds' nms' as' nu' : Nat → Int32),
    m_L_read lre lpo (nI dn) (nI P) ar fi la nb pa ro (nI D) dp dg de dd (nI E) ek eo es ef el (nI L) (nI K) lc lm lp lr y1 y2 y3 y4 y5 y6 y7 y8 y9 y10 y11 y12 y13 y14 y15 y16 y17 y18 y19 y20 y21 y22 y23 y24 y25 (nI c) (nI x) (nI l) a wds nms g hW = some (k, lre', lpo', nI dn', nI P', ar', fi', la', nb', pa', ro', nI D', dp', dg', de', dd', nI E', ek', eo', es', ef', el', nI L', nI K', lc', lm', lp', lr', y1', y2', y3', y4', y5', y6', y7', y8', y9', y10', y11', y12', y13', y14', y15', y16', y17', y18', y19', y20', y21', y22', y23', y24', y25', nI c', nI x', 0, ta, tc, wds', nms', g', hW') ∧
    m_X8_read (nI c) rea rpo (nI l) n as u nu gW = some (b, k, nI c', rea', rpo', 0, ra, rwr, n', as', nu', gW') ∧ (k = 0 → g' 0 = b.toInt64) ∧ WC P' D' E' L' K' dn' ar' fi' la' nb' pa' ro' dp' dg' de' dd' ek' eo' es' ef' el' lc' lm' lp' lr' n' ∧ HR c' x' hW' gW' ∧ RR lre' rea' ∧ (lpo' = -1 ∧ rpo' = -1 ∨ ∃ k, k ≤ 80 ∧ lpo' = nI k ∧ rpo' = nI k) := by
  have hl := hT.1
  have hp : PT a l := fun i hi => by
    obtain ⟨v, v1, v2, v3, v4⟩ := hT.2 i hi
    exact ⟨v, v1, v2, v3⟩
  have hu : ∀ i, i < l → u i = a i := fun i hi => by
    obtain ⟨v, v1, v2, v3, v4⟩ := hT.2 i hi
    rw [v3, v4]
  rcases text_or hp hu hl wds nms nu n as gW (nI c) rea rpo with ⟨e, wds', nms', nu', C, q, he, s1, r1⟩ | ⟨C, pos, ws, vs, wds', nms', nu', hC0, hC, p0, pC, hR, h0, s1, r1⟩
  · refine ⟨1, 0, g, lre, nI e, rea, nI e, P, D, E, L, K, dn, c, x, ar, fi, la, nb, pa, ro, dp, dg, de, dd, ek, eo, es, ef, el, lc, lm, lp, lr, n, hW, gW, y1, y2, y9, y14, y20, y21, nI e, C, nI e, 1, y3, y4, y5, y6, y7, y8, y10, y11, y12, y13, y15, y16, y17, y18, y19, y22, y23, y24, y25, wds', nms', as, nu', ?_, ?_, fun q => absurd q (by decide), h, hH, hre, Or.inr ⟨e, he, rfl, rfl⟩⟩
    · simp (disch := omega) only [m_L_read, m_X7_read, m_X7_read_J31, s1, m_X7_checkArgument, m_X7_checkState, i20, i30, i40, i50, i60, i70, i80, i90, n0_0, n0_1, n0_2, n0_3, n0_4, n0_5, n0_6, n1_0, n1_1, n1_2, n1_3, n1_4, n1_5, n1_6, n2_0, n2_1, n2_2, n2_3, n2_4, n2_5, n2_6, n3_0, n3_1, n3_2, n3_3, n3_4, n3_5, n3_6, n4_0, n4_1, n4_2, n4_3, n4_4, n4_5, n4_6, n5_0, n5_1, n5_2, n5_3, n5_4, n5_5, n5_6, n6_0, n6_1, n6_2, n6_3, n6_4, n6_5, n6_6, nI_clamp, nI_1, bsm, nmd, gd_ix, gd_t, gd_bi, gd_b0, gd_b1, ite_b, ite_p, if_true, if_false, ite_true, ite_false, i10, i00, or0, add0, g0, g1, g2, g3, g4, g5, g6, c0, c1, c2, c3, c4, c5, c6, Bool.false_eq_true, decide_eq_true_eq]
    · rw [r1]
      simp (disch := omega) only [m_X8_read_J45, m_X8_fails, m_X7_checkArgument, m_X7_checkState, i20, i30, i40, i50, i60, i70, i80, i90, n0_0, n0_1, n0_2, n0_3, n0_4, n0_5, n0_6, n1_0, n1_1, n1_2, n1_3, n1_4, n1_5, n1_6, n2_0, n2_1, n2_2, n2_3, n2_4, n2_5, n2_6, n3_0, n3_1, n3_2, n3_3, n3_4, n3_5, n3_6, n4_0, n4_1, n4_2, n4_3, n4_4, n4_5, n4_6, n5_0, n5_1, n5_2, n5_3, n5_4, n5_5, n5_6, n6_0, n6_1, n6_2, n6_3, n6_4, n6_5, n6_6, nI_clamp, nI_1, bsm, nmd, gd_ix, gd_t, gd_bi, gd_b0, gd_b1, ite_b, ite_p, if_true, if_false, ite_true, ite_false, i10, i00, or0, add0, g0, g1, g2, g3, g4, g5, g6, c0, c1, c2, c3, c4, c5, c6, Bool.false_eq_true, decide_eq_true_eq]
  · obtain ⟨B, w1, w2⟩ := wcopy_e (y1, y2, y3, y4, y5, y6, y7, y8, y9, y10, y11, y12, y13, y14, y15, y16, y17, y18, y19, y20, y21, y22, y23, y24, y25) (nI dn, nI P, ar, fi, la, nb, pa, ro, nI D, dp, dg, de, dd, nI E, ek, eo, es, ef, el, nI L, nI K, lc, lm, lp, lr) (n := n) ⟨P, D, E, L, K, dn, ar, fi, la, nb, pa, ro, dp, dg, de, dd, ek, eo, es, ef, el, lc, lm, lp, lr, rfl, h⟩
    obtain ⟨b1, b2, b3, b4, b5, b6, b7, b8, b9, b10, b11, b12, b13, b14, b15, b16, b17, b18, b19, b20, b21, b22, b23, b24, b25⟩ := B
    have hh : m_X6_copyFrom y3 y4 y5 y6 y7 y8 y10 y11 y12 y13 y15 y16 y17 y18 y19 y22 y23 y24 y25 (nI dn) (nI P) ar fi la nb pa ro (nI D) dp dg de dd (nI E) ek eo es ef el (nI L) (nI K) lc lm lp lr = some (b1, b2, b3, b4, b5, b6, b7, b8, b9, b10, b11, b12, b13, b14, b15, b16, b17, b18, b19, b20, b21, b22, b23, b24, b25) := w1
    have hca := copyRow_e n as
    have w3 : WR (b1, b2, b3, b4, b5, b6, b7, b8, b9, b10, b11, b12, b13, b14, b15, b16, b17, b18, b19, b20, b21, b22, b23, b24, b25) (cpR n as 621) := w2.keep fun j hj => cpR_at j hj
    rcases carry hR hl pC h0 hre gW (nI c) rpo (nI C) (cpR n as 621) C 0 (by omega) P D E L K dn ar fi la nb pa ro dp dg de dd ek eo es ef el lc lm lp lr n h nu' FU FU (show C < 1000 by omega) (show C < 1000 by omega) with ⟨P', D', E', L', K', dn', ar', fi', la', nb', pa', ro', dp', dg', de', dd', ek', eo', es', ef', el', lc', lm', lp', lr', n', nu2, k1, k2, k3⟩ | ⟨W, lre', rea', at', n', nu2, k1, k2, k3⟩
    · rw [p0] at k2
      have k1' : m_X7_carryOut lre (nI dn) (nI P) ar fi la nb pa ro (nI D) dp dg de dd (nI E) ek eo es ef el (nI L) (nI K) lc lm lp lr (nI C) wds' nms' = some (1, lre, nI dn', nI P', ar', fi', la', nb', pa', ro', nI D', dp', dg', de', dd', nI E', ek', eo', es', ef', el', nI L', nI K', lc', lm', lp', lr') := k1
      have k2' : fuel (m_X8_read_L92 gW (nI c) rpo u (nI l) (nI C) (cpR n as 621)) FU (1, rea, 0, 0, n, nu') = _ := k2
      obtain ⟨c', x', hW', gW', re1, re2, re3⟩ := rem_same hH w3
      refine ⟨0, nI C, vp_updL g (0 : Int32).toNatClampNeg (Int32.toInt64 (nI C)), lre, lpo, rea, rpo, P', D', E', L', K', dn', c', x', ar', fi', la', nb', pa', ro', dp', dg', de', dd', ek', eo', es', ef', el', lc', lm', lp', lr', n', hW', gW', b1, b2, b9, b14, b20, b21, nI l, nI C, nI l, 0, b3, b4, b5, b6, b7, b8, b10, b11, b12, b13, b15, b16, b17, b18, b19, b22, b23, b24, b25, wds', nms', cpR n as 621, nu2, ?_, ?_, fun _ => rfl, k3, re3, hre, hpo⟩
      · simp (config := {maxSteps := 8000000}) (disch := omega) only [m_L_read, m_X7_read, m_X7_read_J31, m_X7_read_J66, m_X2_remember, s1, hh, k1', re1, m_X7_checkArgument, m_X7_checkState, i20, i30, i40, i50, i60, i70, i80, i90, n0_0, n0_1, n0_2, n0_3, n0_4, n0_5, n0_6, n1_0, n1_1, n1_2, n1_3, n1_4, n1_5, n1_6, n2_0, n2_1, n2_2, n2_3, n2_4, n2_5, n2_6, n3_0, n3_1, n3_2, n3_3, n3_4, n3_5, n3_6, n4_0, n4_1, n4_2, n4_3, n4_4, n4_5, n4_6, n5_0, n5_1, n5_2, n5_3, n5_4, n5_5, n5_6, n6_0, n6_1, n6_2, n6_3, n6_4, n6_5, n6_6, nI_clamp, nI_1, bsm, nmd, gd_ix, gd_t, gd_bi, gd_b0, gd_b1, ite_b, ite_p, if_true, if_false, ite_true, ite_false, i10, i00, or0, add0, g0, g1, g2, g3, g4, g5, g6, c0, c1, c2, c3, c4, c5, c6, Bool.false_eq_true, decide_eq_true_eq]
      · rw [r1]
        simp (disch := omega) only [m_X8_read_J45, m_X8_read_J119, m_X8_read_J135, m_X8_fails, hca, k2', re2, m_X7_checkArgument, m_X7_checkState, i20, i30, i40, i50, i60, i70, i80, i90, n0_0, n0_1, n0_2, n0_3, n0_4, n0_5, n0_6, n1_0, n1_1, n1_2, n1_3, n1_4, n1_5, n1_6, n2_0, n2_1, n2_2, n2_3, n2_4, n2_5, n2_6, n3_0, n3_1, n3_2, n3_3, n3_4, n3_5, n3_6, n4_0, n4_1, n4_2, n4_3, n4_4, n4_5, n4_6, n5_0, n5_1, n5_2, n5_3, n5_4, n5_5, n5_6, n6_0, n6_1, n6_2, n6_3, n6_4, n6_5, n6_6, nI_clamp, nI_1, bsm, nmd, gd_ix, gd_t, gd_bi, gd_b0, gd_b1, ite_b, ite_p, if_true, if_false, ite_true, ite_false, i10, i00, or0, add0, g0, g1, g2, g3, g4, g5, g6, c0, c1, c2, c3, c4, c5, c6, Bool.false_eq_true, decide_eq_true_eq]
    · rw [p0] at k2
      obtain ⟨d1, d2, d3, d4, d5, d6, d7, d8, d9, d10, d11, d12, d13, d14, d15, d16, d17, d18, d19, d20, d21, d22, d23, d24, d25⟩ := W
      have k1' : m_X7_carryOut lre (nI dn) (nI P) ar fi la nb pa ro (nI D) dp dg de dd (nI E) ek eo es ef el (nI L) (nI K) lc lm lp lr (nI C) wds' nms' = some (0, lre', d1, d2, d3, d4, d5, d6, d7, d8, d9, d10, d11, d12, d13, d14, d15, d16, d17, d18, d19, d20, d21, d22, d23, d24, d25) := k1
      have k2' : fuel (m_X8_read_L92 gW (nI c) rpo u (nI l) (nI C) (cpR n as 621)) FU (1, rea, 0, 0, n, nu') = _ := k2
      have hcb := copyRow_e (cpR n as 621) n'
      obtain ⟨V, v1, v2⟩ := wcopy_e (d1, d2, d3, d4, d5, d6, d7, d8, d9, d10, d11, d12, d13, d14, d15, d16, d17, d18, d19, d20, d21, d22, d23, d24, d25) (b1, b2, b3, b4, b5, b6, b7, b8, b9, b10, b11, b12, b13, b14, b15, b16, b17, b18, b19, b20, b21, b22, b23, b24, b25) (n := cpR (cpR n as 621) n' 621) (w3.keep fun j hj => cpR_at j hj)
      obtain ⟨P', D', E', L', K', dn', ar', fi', la', nb', pa', ro', dp', dg', de', dd', ek', eo', es', ef', el', lc', lm', lp', lr', rfl, v3⟩ := v2
      have hv : m_X6_copyFrom d3 d4 d5 d6 d7 d8 d10 d11 d12 d13 d15 d16 d17 d18 d19 d22 d23 d24 d25 b1 b2 b3 b4 b5 b6 b7 b8 b9 b10 b11 b12 b13 b14 b15 b16 b17 b18 b19 b20 b21 b22 b23 b24 b25 = some (nI dn', nI P', ar', fi', la', nb', pa', ro', nI D', dp', dg', de', dd', nI E', ek', eo', es', ef', el', nI L', nI K', lc', lm', lp', lr') := v1
      refine ⟨2, 0, g, lre', lpo, rea', rpo, P', D', E', L', K', dn', c, x, ar', fi', la', nb', pa', ro', dp', dg', de', dd', ek', eo', es', ef', el', lc', lm', lp', lr', cpR (cpR n as 621) n' 621, hW, gW, b1, b2, b9, b14, b20, b21, nI l, nI C, at', 0, b3, b4, b5, b6, b7, b8, b10, b11, b12, b13, b15, b16, b17, b18, b19, b22, b23, b24, b25, wds', nms', cpR n as 621, nu2, ?_, ?_, fun q => absurd q (by decide), v3, hH, k3, hpo⟩
      · simp (config := {maxSteps := 8000000}) (disch := omega) only [m_L_read, m_X7_read, m_X7_read_J31, m_X7_read_J66, s1, hh, k1', hv, m_X7_checkArgument, m_X7_checkState, i20, i30, i40, i50, i60, i70, i80, i90, n0_0, n0_1, n0_2, n0_3, n0_4, n0_5, n0_6, n1_0, n1_1, n1_2, n1_3, n1_4, n1_5, n1_6, n2_0, n2_1, n2_2, n2_3, n2_4, n2_5, n2_6, n3_0, n3_1, n3_2, n3_3, n3_4, n3_5, n3_6, n4_0, n4_1, n4_2, n4_3, n4_4, n4_5, n4_6, n5_0, n5_1, n5_2, n5_3, n5_4, n5_5, n5_6, n6_0, n6_1, n6_2, n6_3, n6_4, n6_5, n6_6, nI_clamp, nI_1, bsm, nmd, gd_ix, gd_t, gd_bi, gd_b0, gd_b1, ite_b, ite_p, if_true, if_false, ite_true, ite_false, i10, i00, or0, add0, g0, g1, g2, g3, g4, g5, g6, c0, c1, c2, c3, c4, c5, c6, Bool.false_eq_true, decide_eq_true_eq]
      · rw [r1]
        simp (disch := omega) only [m_X8_read_J45, m_X8_read_J119, m_X8_read_J135, m_X8_fails, hca, k2', hcb, m_X7_checkArgument, m_X7_checkState, i20, i30, i40, i50, i60, i70, i80, i90, n0_0, n0_1, n0_2, n0_3, n0_4, n0_5, n0_6, n1_0, n1_1, n1_2, n1_3, n1_4, n1_5, n1_6, n2_0, n2_1, n2_2, n2_3, n2_4, n2_5, n2_6, n3_0, n3_1, n3_2, n3_3, n3_4, n3_5, n3_6, n4_0, n4_1, n4_2, n4_3, n4_4, n4_5, n4_6, n5_0, n5_1, n5_2, n5_3, n5_4, n5_5, n5_6, n6_0, n6_1, n6_2, n6_3, n6_4, n6_5, n6_6, nI_clamp, nI_1, bsm, nmd, gd_ix, gd_t, gd_bi, gd_b0, gd_b1, ite_b, ite_p, if_true, if_false, ite_true, ite_false, i10, i00, or0, add0, g0, g1, g2, g3, g4, g5, g6, c0, c1, c2, c3, c4, c5, c6, Bool.false_eq_true, decide_eq_true_eq]

