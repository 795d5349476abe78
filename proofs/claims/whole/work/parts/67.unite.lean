/-! A merge, on both sides. -/
set_option maxHeartbeats 8000000 in
theorem unite_same {P D E L K dn p q x y : Nat} {ar fi la nb pa ro dp dg de dd ek eo es ef el lc lm lp lr n : Nat → Int32} (h : WC P D E L K dn ar fi la nb pa ro dp dg de dd ek eo es ef el lc lm lp lr n) (hp : p < P) (hq : q < P) (hpq : p ≠ q) (hP2 : P < 24) (hx : ar p = nI x) (hy : ar q = nI y) (hx10 : 10 ≤ x) (hxy : x + y ≤ 9999) : ∃ ar' fi' la' nb' pa' ro' eo' es' el' lp' m,
    m_X6_unite (nI p) (nI q) (nI dn) (nI P) ar fi la nb pa ro (nI D) dp dg de dd (nI E) ek eo es el (nI K) lp lr = some (nI P, nI (P + 1), ar', fi', la', nb', pa', ro', eo', es', el', lp') ∧ m_X8_doMerge (nI p) (nI q) n = some (nI P, m) ∧ WC (P + 1) D E L K dn ar' fi' la' nb' pa' ro' dp dg de dd ek eo' es' ef el' lc lm lp' lr m := by
  obtain ⟨hI, hRD, hIE, hIL, hVP, hVE, hVL, hn0, hn6⟩ := h
  have hP := hI.le
  have hdl := hI.dl
  have hE := hIE.1
  obtain ⟨r, hr, er⟩ := hold_lt hRD.id2 (x := nI p) (hI.root hp) D (Nat.le_refl D)
  have hadd : nI x + nI y = nI (x + y) := nI_add x y
  have hmask : ((nb p ||| nb q) &&& (pw p ^^^ (-1))) &&& (pw q ^^^ (-1)) = (nb p ||| nb q) &&& ((pw p ||| pw q) ^^^ (-1)) := b_ext fun i hi => by
    rw [b_and, b_and, b_and, b_not _ hi, b_not _ hi, b_not _ hi, b_or (pw p)]
    cases bt (nb p ||| nb q) i <;> cases bt (pw p) i <;> cases bt (pw q) i <;> rfl
  have hpm : Low (pw p ||| pw q) P := (Low.pw hp (by omega)).or (Low.pw hq (by omega))
  have hpm0 : ¬ pw p ||| pw q = 0 := fun e => by
    have : bt (pw p ||| pw q) p = true := by rw [b_or, b_pw (by omega), decide_eq_true rfl]; rfl
    rw [e, b_0] at this
    cases this
  have ht0 : bt ((nb p ||| nb q) &&& ((pw p ||| pw q) ^^^ (-1))) P = false := by rw [b_and, b_or, hI.nbr hp P (Nat.le_refl P), hI.nbr hq P (Nat.le_refl P)]; rfl
  have i1 := hI.endP hp
  have i2 := i1.endP hq
  have i3 := i2.comeP (a := x + y) hP2 (by omega) hxy hpm hr
  have i4 := i3.lnkP (a := P) (by omega) ht0
  obtain ⟨m1, a1, v1, o1⟩ := X8_end hVP hI hp
  rw [hn0] at v1
  obtain ⟨m2, a2, v2, o2⟩ := X8_end v1 i1 hq
  have z1 := offP o1
  rw [z1.1, hn0] at v2
  have r9 := v2.ar hP hp
  have r10 := v2.ar hP hq
  rw [hx] at r9
  rw [hy] at r10
  obtain ⟨m3, a3, v3, o3⟩ := X8_newParcel v2 hP2 (nI (x + y)) (nI r) (pw p ||| pw q)
  have z2 := offP o2
  rw [z2.1, z1.1, hn0] at v3
  obtain ⟨m4, a4, v4, o4⟩ := X8_setBorders v3 (by omega) (show P < P + 1 by omega) ht0
  have o14 : Off rP n m4 := ((o1.tr o2).tr o3).tr o4
  have z4 := offP o14
  have hVE4 := hVE.keep hE z4.2.2.2.1
  have hVL4 := hVL.keep hIL.1 hIL.2.1 z4.2.2.2.2
  obtain ⟨m5, a5, v5, o5⟩ := X8_mergeEasements hIE hVE4 hdl hdl (z4.1.trans hn0) (nI p) (nI q) (nI P)
  have z5 := offE o5
  have hVL5 := hVL4.keep hIL.1 hIL.2.1 z5.2.2.2.2
  obtain ⟨m6, a6, v6, o6⟩ := X8_moveLiens hIL hVL5 (pw p ||| pw q) (pw P)
  have z6 := offL o6
  have c1 := X1_followMerge hE (nI p) (nI q) (nI P) (nI dn) ek eo es el
  refine ⟨upd ar P (nI (x + y)), upd fi P (nI dn), upd (upd (upd la p (nI dn)) q (nI dn)) P (-1), _, upd pa P (pw p ||| pw q), upd ro P (nI r), mF (nI p) (nI q) (nI P) el eo E, mF (nI p) (nI q) (nI P) el es E, mR E (nI p) (nI q) (nI P) (nI dn) ek eo es el E, foldN (sFo (pw p ||| pw q) (pw P) lr) lp K, m6, ?_, ?_, i4, hRD.keep (by omega) (Nat.le_refl dn) (fun j hj => (z6.2.2.1 j hj).trans ((z5.2.2.1 j hj).trans (z4.2.2.1 j hj))), hIE.merge (by omega) (Nat.le_refl dn) hdl, hIL, (v4.keep (by omega) z5.2.2.2.1).keep (by omega) z6.2.2.2.1, v5.keep hE z6.2.2.2.2, v6, ?_, ?_⟩
  · unfold m_X6_unite
    simp (disch := omega) only [X6_holderNow hRD hdl hP hp, er, neigh_of hp hP, neigh_of hq hP, areaOf2 hP hp hq hpq, hx, hy, hadd, X4_end hP hp, X4_end hP hq, X4_come hP2, X4_linkAll (show P + 1 ≤ 24 by omega) (show P < P + 1 by omega) ht0, c1, X3_follow hIL, bsm, nmd]
  · unfold m_X8_doMerge
    simp only [X8_holderOf hVP hP hp hRD.id2 hdl, er, hVP.nb hP hp, hVP.nb hP hq, a1, a2, m_X8_bit, r9, r10, hadd, a3, hmask, a4, a5, a6, bsm, nmd]
  · rw [z6.1, z5.1, z4.1, hn0]
  · rw [z6.2.1, z5.2.1, z4.2.1, hn6, added_s hpm0]

