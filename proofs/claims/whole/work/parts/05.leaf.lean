/-! parcels: models and walks, by program. -/
def m_X7_isFrom (p1 : Int32) (p2 : Int32) (p3 : Int32) : Option (Int32) := (if p1 < p2 then some (0 : Int32) else (if p3 < p1 then some (0 : Int32) else some (1 : Int32)))
abbrev k_X7_isFrom (cA : Nat → ClassId)  : va_W := []
set_option maxHeartbeats 4000000 in
set_option maxRecDepth 100000 in
/-- X7_isFrom: as its model -/
theorem c_X7_isFrom (l : Launch) (G : va_G) (cA : Nat → ClassId) (p1 : Int32) (p2 : Int32) (p3 : Int32) (R : Option (Int32)) (hR : m_X7_isFrom p1 p2 p3 = R) (hz : R ≠ none) : Met l yX7_isFrom wsX7_isFrom ({ frames := 0, cells := 0, slots := 0, locals := 0 } : Room) (va_Pc [.int p1, .int p2, .int p3] (PR G cA (k_X7_isFrom cA))) (vp_Si (fun r => R = some r ∧ (r = 0 ∨ r = 1))) 0 0 (fun _ => False) := by
  refine metR .boolean (by decide) rfl (Nat.le_of_ble_eq_true rfl) ?_
  intro p e s m av below meth c Q ls hx hb hml hts hown hP hK hl hret
  replace hl : lv_has ls 3 [(0, .int p1), (1, .int p2), (2, .int p3)] := hl
  have hm := hR
  unfold m_X7_isFrom at hm
  refine lv_iload_n hx hb dX7_isFrom_0 rfl (lv_at hl 0 rfl) ?_
  refine lv_iload_n hx hb dX7_isFrom_1 rfl (lv_at hl 1 rfl) ?_
  refine lv_icmp_lt (tgt := 14) hx hb dX7_isFrom_2 (by decide) (fun c_1 => ?_) (fun c_1 => ?_)
  · replace hm := it hm c_1
    refine lv_iconst (v := (0 : Int32)) hx hb dX7_isFrom_14 (by decide) ?_
    exact hret _ _ _ dX7_isFrom_15 rfl ⟨hm.symm, (by decide)⟩
  · replace hm := ie hm c_1
    refine lv_iload_n hx hb dX7_isFrom_5 rfl (lv_at hl 0 rfl) ?_
    refine lv_iload_n hx hb dX7_isFrom_6 rfl (lv_at hl 2 rfl) ?_
    refine lv_icmp_gt (tgt := 14) hx hb dX7_isFrom_7 (by decide) (fun c_2 => ?_) (fun c_2 => ?_)
    · replace hm := it hm c_2
      refine lv_iconst (v := (0 : Int32)) hx hb dX7_isFrom_14 (by decide) ?_
      exact hret _ _ _ dX7_isFrom_15 rfl ⟨hm.symm, (by decide)⟩
    · replace hm := ie hm c_2
      refine lv_iconst (v := (1 : Int32)) hx hb dX7_isFrom_10 (by decide) ?_
      refine lv_goto (tgt := 15) hx hb dX7_isFrom_11 (by decide) ?_
      exact hret _ _ _ dX7_isFrom_15 rfl ⟨hm.symm, (by decide)⟩
def m_X7_isPerson (p1 : Int32) : Option (Int32) := Option.bind (m_X7_isFrom p1 (0 : Int32) (9 : Int32)) (fun r_1 => gd (isb r_1) (some r_1))
abbrev k_X7_isPerson (cA : Nat → ClassId)  : va_W := []
set_option maxHeartbeats 4000000 in
set_option maxRecDepth 100000 in
/-- X7_isPerson: as its model -/
theorem c_X7_isPerson (l : Launch) (G : va_G) (cA : Nat → ClassId) (p1 : Int32) (R : Option (Int32)) (hR : m_X7_isPerson p1 = R) (hz : R ≠ none) : Met l yX7_isPerson wsX7_isPerson ({ frames := 1, cells := 0, slots := 0, locals := 22 } : Room) (va_Pc [.int p1] (PR G cA (k_X7_isPerson cA))) (vp_Si (fun r => R = some r ∧ (r = 0 ∨ r = 1))) 0 0 (fun _ => False) := by
  refine metR .boolean (by decide) rfl (Nat.le_of_ble_eq_true rfl) ?_
  intro p e s m av below meth c Q ls hx hb hml hts hown hP hK hl hret
  replace hl : lv_has ls 1 [(0, .int p1)] := hl
  have hm := hR
  unfold m_X7_isPerson at hm
  refine lv_iload_n hx hb dX7_isPerson_0 rfl (lv_at hl 0 rfl) ?_
  refine lv_iconst (v := (0 : Int32)) hx hb dX7_isPerson_1 (by decide) ?_
  refine lv_bipush (v := (9 : Int32)) hx hb dX7_isPerson_2 (by decide) ?_
  refine vp_callSi (va_Run.run (va_runS (As := [.int p1, .int (0 : Int32), .int (9 : Int32)]) (rest := []) ⟨hx, hb, hml, hown, hts⟩ (c_X7_isFrom l G cA p1 (0 : Int32) (9 : Int32) _ rfl (bnz hm hz)) (va_cwS 3 hts gX7_isPerson_X7_isFrom rfl rfl rfl (by decide +kernel) ⟨Nat.le_of_ble_eq_true rfl, Nat.le_of_ble_eq_true rfl⟩) (preRS (hP.sub [] rfl) hK) rfl rfl hl.1 rfl (lv_room (Nat.le_of_ble_eq_true rfl)) dX7_isPerson_4 ⟨Nat.zero_le _, Nat.zero_le _⟩)) (fun r_1 hw => ?_)
  replace hm := bst hm hw.1
  replace hm := gdo hm hz
  obtain ⟨gb_2, hm⟩ := hm
  exact hret _ _ _ dX7_isPerson_7 (nz (isbz gb_2)) ⟨hm.symm, (isbz gb_2)⟩
def m_X4_copyFrom (g_o_area : Nat → Int32) (g_o_firstDay : Nat → Int32) (g_o_lastDay : Nat → Int32) (g_o_neighbours : Nat → Int32) (g_o_parents : Nat → Int32) (g_o_root : Nat → Int32) (v_q1_count : Int32) (g_q1_area : Nat → Int32) (g_q1_firstDay : Nat → Int32) (g_q1_lastDay : Nat → Int32) (g_q1_neighbours : Nat → Int32) (g_q1_parents : Nat → Int32) (g_q1_root : Nat → Int32) : Option (Int32 × (Nat → Int32) × (Nat → Int32) × (Nat → Int32) × (Nat → Int32) × (Nat → Int32) × (Nat → Int32)) := some (v_q1_count, va_cpy g_q1_area g_o_area 0 0 24, va_cpy g_q1_firstDay g_o_firstDay 0 0 24, va_cpy g_q1_lastDay g_o_lastDay 0 0 24, va_cpy g_q1_neighbours g_o_neighbours 0 0 24, va_cpy g_q1_parents g_o_parents 0 0 24, va_cpy g_q1_root g_o_root 0 0 24)
abbrev k_X4_copyFrom (cA : Nat → ClassId) (o o_area o_firstDay o_lastDay o_neighbours o_parents o_root q1 q1_area q1_firstDay q1_lastDay q1_neighbours q1_parents q1_root : Nat) (v_o_count : Int32) (g_o_area : Nat → Int32) (g_o_firstDay : Nat → Int32) (g_o_lastDay : Nat → Int32) (g_o_neighbours : Nat → Int32) (g_o_parents : Nat → Int32) (g_o_root : Nat → Int32) (v_q1_count : Int32) (g_q1_area : Nat → Int32) (g_q1_firstDay : Nat → Int32) (g_q1_lastDay : Nat → Int32) (g_q1_neighbours : Nat → Int32) (g_q1_parents : Nat → Int32) (g_q1_root : Nat → Int32) : va_W := [(o, .inr (6, [.int v_o_count, .ref o_area, .ref o_firstDay, .ref o_lastDay, .ref o_neighbours, .ref o_parents, .ref o_root])), (o_area, .inl (cA 0, 24, .inl g_o_area)), (o_firstDay, .inl (cA 0, 24, .inl g_o_firstDay)), (o_lastDay, .inl (cA 0, 24, .inl g_o_lastDay)), (o_neighbours, .inl (cA 0, 24, .inl g_o_neighbours)), (o_parents, .inl (cA 0, 24, .inl g_o_parents)), (o_root, .inl (cA 0, 24, .inl g_o_root)), (q1, .inr (6, [.int v_q1_count, .ref q1_area, .ref q1_firstDay, .ref q1_lastDay, .ref q1_neighbours, .ref q1_parents, .ref q1_root])), (q1_area, .inl (cA 0, 24, .inl g_q1_area)), (q1_firstDay, .inl (cA 0, 24, .inl g_q1_firstDay)), (q1_lastDay, .inl (cA 0, 24, .inl g_q1_lastDay)), (q1_neighbours, .inl (cA 0, 24, .inl g_q1_neighbours)), (q1_parents, .inl (cA 0, 24, .inl g_q1_parents)), (q1_root, .inl (cA 0, 24, .inl g_q1_root))]
set_option maxHeartbeats 4000000 in
set_option maxRecDepth 100000 in
/-- X4_copyFrom: as its model -/
theorem c_X4_copyFrom (l : Launch) (G : va_G) (cA : Nat → ClassId) (o o_area o_firstDay o_lastDay o_neighbours o_parents o_root q1 q1_area q1_firstDay q1_lastDay q1_neighbours q1_parents q1_root : Nat) (sz : Nat) (v_o_count : Int32) (g_o_area : Nat → Int32) (g_o_firstDay : Nat → Int32) (g_o_lastDay : Nat → Int32) (g_o_neighbours : Nat → Int32) (g_o_parents : Nat → Int32) (g_o_root : Nat → Int32) (v_q1_count : Int32) (g_q1_area : Nat → Int32) (g_q1_firstDay : Nat → Int32) (g_q1_lastDay : Nat → Int32) (g_q1_neighbours : Nat → Int32) (g_q1_parents : Nat → Int32) (g_q1_root : Nat → Int32) (R : Option (Int32 × (Nat → Int32) × (Nat → Int32) × (Nat → Int32) × (Nat → Int32) × (Nat → Int32) × (Nat → Int32))) (hR : m_X4_copyFrom g_o_area g_o_firstDay g_o_lastDay g_o_neighbours g_o_parents g_o_root v_q1_count g_q1_area g_q1_firstDay g_q1_lastDay g_q1_neighbours g_q1_parents g_q1_root = R) (hz : R ≠ none) : Met l yX4_copyFrom wsX4_copyFrom ({ frames := 1, cells := 0, slots := 0, locals := 40 } : Room) (va_Pc [.ref o, .ref q1] (PM G cA (k_X4_copyFrom cA o o_area o_firstDay o_lastDay o_neighbours o_parents o_root q1 q1_area q1_firstDay q1_lastDay q1_neighbours q1_parents q1_root v_o_count g_o_area g_o_firstDay g_o_lastDay g_o_neighbours g_o_parents g_o_root v_q1_count g_q1_area g_q1_firstDay g_q1_lastDay g_q1_neighbours g_q1_parents g_q1_root) sz)) (va_Qv (fun (u : Int32 × (Nat → Int32) × (Nat → Int32) × (Nat → Int32) × (Nat → Int32) × (Nat → Int32) × (Nat → Int32)) => R = some u) (BM G (fun (u : Int32 × (Nat → Int32) × (Nat → Int32) × (Nat → Int32) × (Nat → Int32) × (Nat → Int32) × (Nat → Int32)) => (k_X4_copyFrom cA o o_area o_firstDay o_lastDay o_neighbours o_parents o_root q1 q1_area q1_firstDay q1_lastDay q1_neighbours q1_parents q1_root u.1 u.2.1 u.2.2.1 u.2.2.2.1 u.2.2.2.2.1 u.2.2.2.2.2.1 u.2.2.2.2.2.2 v_q1_count g_q1_area g_q1_firstDay g_q1_lastDay g_q1_neighbours g_q1_parents g_q1_root))) (va_A (k_X4_copyFrom cA o o_area o_firstDay o_lastDay o_neighbours o_parents o_root q1 q1_area q1_firstDay q1_lastDay q1_neighbours q1_parents q1_root v_o_count g_o_area g_o_firstDay g_o_lastDay g_o_neighbours g_o_parents g_o_root v_q1_count g_q1_area g_q1_firstDay g_q1_lastDay g_q1_neighbours g_q1_parents g_q1_root) sz)) 0 0 (va_A (k_X4_copyFrom cA o o_area o_firstDay o_lastDay o_neighbours o_parents o_root q1 q1_area q1_firstDay q1_lastDay q1_neighbours q1_parents q1_root v_o_count g_o_area g_o_firstDay g_o_lastDay g_o_neighbours g_o_parents g_o_root v_q1_count g_q1_area g_q1_firstDay g_q1_lastDay g_q1_neighbours g_q1_parents g_q1_root) sz) := by
  refine metV (by decide) rfl (Nat.le_of_ble_eq_true rfl) ?_
  intro p e s m av below meth c Q ls A H hx hb hml hts hown hP hK hD hA hS hl hret
  replace hl : lv_has ls 2 [(0, .ref o), (1, .ref q1)] := hl
  have w_0 := hts (.fieldLink RX4 9 "ParcelRegistry$Parcels" "count" "I") (by decide +kernel)
  have w_1 := hts (.fieldLink RX4 15 "ParcelRegistry$Parcels" "area" "[I") (by decide +kernel)
  have w_2 := hts (.methodLink RX4 34 arraycopyName) (by decide +kernel)
  have w_3 := hts (.native arraycopyName) (by decide +kernel)
  have w_4 := hts (.static arraycopyName) (by decide +kernel)
  have w_5 := hts (.initialized "java/lang/System") (by decide +kernel)
  have w_6 := hts (.fieldLink RX4 19 "ParcelRegistry$Parcels" "firstDay" "[I") (by decide +kernel)
  have w_7 := hts (.fieldLink RX4 22 "ParcelRegistry$Parcels" "lastDay" "[I") (by decide +kernel)
  have w_8 := hts (.fieldLink RX4 25 "ParcelRegistry$Parcels" "neighbours" "[I") (by decide +kernel)
  have w_9 := hts (.fieldLink RX4 28 "ParcelRegistry$Parcels" "parents" "[I") (by decide +kernel)
  have w_10 := hts (.fieldLink RX4 31 "ParcelRegistry$Parcels" "root" "[I") (by decide +kernel)
  have i_X4 : ∀ w ∈ wsX40, w ∈ wsX4_copyFrom := by decide +kernel
  have hm := hR
  unfold m_X4_copyFrom at hm
  refine lv_aload_n hx hb dX4_copyFrom_0 rfl (lv_at hl 0 rfl) ?_
  refine lv_aload_n hx hb dX4_copyFrom_1 rfl (lv_at hl 1 rfl) ?_
  refine va_get (D := G) (ci := 6) (v := .int v_q1_count) (C := RX4) (T := TX4) (N := 7) hx hb hts i_X4 hown hK.1 hP 7 rfl rfl 0 (by decide) w_0 (fun _ h9 => h9) rfl dX4_copyFrom_2 ?_
  refine va_put (D := G) (ci := 6) (v := .int v_q1_count) (ty := .int) (C := RX4) (T := TX4) (N := 7) hx hb hts i_X4 tyX4 tyX4_ok nmX4 hown hK.1 hP hD hS 0 rfl rfl 0 (by decide) w_0 (fun _ h9 => h9) rfl (by decide +kernel) rfl rfl (Nat.le_of_ble_eq_true rfl) dX4_copyFrom_5 (fun H locs hP' hD' hS' => ?_)
  replace hP : va_P G vwCl (k_X4_copyFrom cA o o_area o_firstDay o_lastDay o_neighbours o_parents o_root q1 q1_area q1_firstDay q1_lastDay q1_neighbours q1_parents q1_root v_q1_count g_o_area g_o_firstDay g_o_lastDay g_o_neighbours g_o_parents g_o_root v_q1_count g_q1_area g_q1_firstDay g_q1_lastDay g_q1_neighbours g_q1_parents g_q1_root) H := hP'
  replace hD : va_D A (k_X4_copyFrom cA o o_area o_firstDay o_lastDay o_neighbours o_parents o_root q1 q1_area q1_firstDay q1_lastDay q1_neighbours q1_parents q1_root v_q1_count g_o_area g_o_firstDay g_o_lastDay g_o_neighbours g_o_parents g_o_root v_q1_count g_q1_area g_q1_firstDay g_q1_lastDay g_q1_neighbours g_q1_parents g_q1_root) := hD'
  replace hS := hS'
  refine lv_aload_n hx hb dX4_copyFrom_8 rfl (lv_at hl 1 rfl) ?_
  refine va_get (D := G) (ci := 6) (v := .ref q1_area) (C := RX4) (T := TX4) (N := 7) hx hb hts i_X4 hown hK.1 hP 7 rfl rfl 1 (by decide) w_1 (fun _ h9 => h9) rfl dX4_copyFrom_9 ?_
  refine lv_iconst (v := (0 : Int32)) hx hb dX4_copyFrom_12 (by decide) ?_
  refine lv_aload_n hx hb dX4_copyFrom_13 rfl (lv_at hl 0 rfl) ?_
  refine va_get (D := G) (ci := 6) (v := .ref o_area) (C := RX4) (T := TX4) (N := 7) hx hb hts i_X4 hown hK.1 hP 0 rfl rfl 1 (by decide) w_1 (fun _ h9 => h9) rfl dX4_copyFrom_14 ?_
  refine lv_iconst (v := (0 : Int32)) hx hb dX4_copyFrom_17 (by decide) ?_
  refine lv_bipush (v := (24 : Int32)) hx hb dX4_copyFrom_18 (by decide) ?_
  refine va_copyi hx hb (hml.trans hl.1.symm) hown w_2 w_3 w_4 w_5 hK.1 hP hD hS 8 1 0 0 (c0 := cA 0) (c1 := cA 0) (n0 := 24) (n1 := 24) (f := g_q1_area) (g := g_o_area) (ty := .int) rfl rfl rfl rfl rfl (by decide) (by decide) (by decide) (by decide) (by decide) (fun _ _ => rfl) (Nat.le_of_ble_eq_true rfl) (Nat.le_of_ble_eq_true rfl) dX4_copyFrom_20 (fun H locs hP' hD' hS' => ?_)
  replace hP : va_P G vwCl (k_X4_copyFrom cA o o_area o_firstDay o_lastDay o_neighbours o_parents o_root q1 q1_area q1_firstDay q1_lastDay q1_neighbours q1_parents q1_root v_q1_count (va_cpy g_q1_area g_o_area 0 0 24) g_o_firstDay g_o_lastDay g_o_neighbours g_o_parents g_o_root v_q1_count g_q1_area g_q1_firstDay g_q1_lastDay g_q1_neighbours g_q1_parents g_q1_root) H := hP'
  replace hD : va_D A (k_X4_copyFrom cA o o_area o_firstDay o_lastDay o_neighbours o_parents o_root q1 q1_area q1_firstDay q1_lastDay q1_neighbours q1_parents q1_root v_q1_count (va_cpy g_q1_area g_o_area 0 0 24) g_o_firstDay g_o_lastDay g_o_neighbours g_o_parents g_o_root v_q1_count g_q1_area g_q1_firstDay g_q1_lastDay g_q1_neighbours g_q1_parents g_q1_root) := hD'
  replace hS := hS'
  refine lv_aload_n hx hb dX4_copyFrom_23 rfl (lv_at hl 1 rfl) ?_
  refine va_get (D := G) (ci := 6) (v := .ref q1_firstDay) (C := RX4) (T := TX4) (N := 7) hx hb hts i_X4 hown hK.1 hP 7 rfl rfl 2 (by decide) w_6 (fun _ h9 => h9) rfl dX4_copyFrom_24 ?_
  refine lv_iconst (v := (0 : Int32)) hx hb dX4_copyFrom_27 (by decide) ?_
  refine lv_aload_n hx hb dX4_copyFrom_28 rfl (lv_at hl 0 rfl) ?_
  refine va_get (D := G) (ci := 6) (v := .ref o_firstDay) (C := RX4) (T := TX4) (N := 7) hx hb hts i_X4 hown hK.1 hP 0 rfl rfl 2 (by decide) w_6 (fun _ h9 => h9) rfl dX4_copyFrom_29 ?_
  refine lv_iconst (v := (0 : Int32)) hx hb dX4_copyFrom_32 (by decide) ?_
  refine lv_bipush (v := (24 : Int32)) hx hb dX4_copyFrom_33 (by decide) ?_
  refine va_copyi hx hb (hml.trans hl.1.symm) hown w_2 w_3 w_4 w_5 hK.1 hP hD hS 9 2 0 0 (c0 := cA 0) (c1 := cA 0) (n0 := 24) (n1 := 24) (f := g_q1_firstDay) (g := g_o_firstDay) (ty := .int) rfl rfl rfl rfl rfl (by decide) (by decide) (by decide) (by decide) (by decide) (fun _ _ => rfl) (Nat.le_of_ble_eq_true rfl) (Nat.le_of_ble_eq_true rfl) dX4_copyFrom_35 (fun H locs hP' hD' hS' => ?_)
  replace hP : va_P G vwCl (k_X4_copyFrom cA o o_area o_firstDay o_lastDay o_neighbours o_parents o_root q1 q1_area q1_firstDay q1_lastDay q1_neighbours q1_parents q1_root v_q1_count (va_cpy g_q1_area g_o_area 0 0 24) (va_cpy g_q1_firstDay g_o_firstDay 0 0 24) g_o_lastDay g_o_neighbours g_o_parents g_o_root v_q1_count g_q1_area g_q1_firstDay g_q1_lastDay g_q1_neighbours g_q1_parents g_q1_root) H := hP'
  replace hD : va_D A (k_X4_copyFrom cA o o_area o_firstDay o_lastDay o_neighbours o_parents o_root q1 q1_area q1_firstDay q1_lastDay q1_neighbours q1_parents q1_root v_q1_count (va_cpy g_q1_area g_o_area 0 0 24) (va_cpy g_q1_firstDay g_o_firstDay 0 0 24) g_o_lastDay g_o_neighbours g_o_parents g_o_root v_q1_count g_q1_area g_q1_firstDay g_q1_lastDay g_q1_neighbours g_q1_parents g_q1_root) := hD'
  replace hS := hS'
  refine lv_aload_n hx hb dX4_copyFrom_38 rfl (lv_at hl 1 rfl) ?_
  refine va_get (D := G) (ci := 6) (v := .ref q1_lastDay) (C := RX4) (T := TX4) (N := 7) hx hb hts i_X4 hown hK.1 hP 7 rfl rfl 3 (by decide) w_7 (fun _ h9 => h9) rfl dX4_copyFrom_39 ?_
  refine lv_iconst (v := (0 : Int32)) hx hb dX4_copyFrom_42 (by decide) ?_
  refine lv_aload_n hx hb dX4_copyFrom_43 rfl (lv_at hl 0 rfl) ?_
  refine va_get (D := G) (ci := 6) (v := .ref o_lastDay) (C := RX4) (T := TX4) (N := 7) hx hb hts i_X4 hown hK.1 hP 0 rfl rfl 3 (by decide) w_7 (fun _ h9 => h9) rfl dX4_copyFrom_44 ?_
  refine lv_iconst (v := (0 : Int32)) hx hb dX4_copyFrom_47 (by decide) ?_
  refine lv_bipush (v := (24 : Int32)) hx hb dX4_copyFrom_48 (by decide) ?_
  refine va_copyi hx hb (hml.trans hl.1.symm) hown w_2 w_3 w_4 w_5 hK.1 hP hD hS 10 3 0 0 (c0 := cA 0) (c1 := cA 0) (n0 := 24) (n1 := 24) (f := g_q1_lastDay) (g := g_o_lastDay) (ty := .int) rfl rfl rfl rfl rfl (by decide) (by decide) (by decide) (by decide) (by decide) (fun _ _ => rfl) (Nat.le_of_ble_eq_true rfl) (Nat.le_of_ble_eq_true rfl) dX4_copyFrom_50 (fun H locs hP' hD' hS' => ?_)
  replace hP : va_P G vwCl (k_X4_copyFrom cA o o_area o_firstDay o_lastDay o_neighbours o_parents o_root q1 q1_area q1_firstDay q1_lastDay q1_neighbours q1_parents q1_root v_q1_count (va_cpy g_q1_area g_o_area 0 0 24) (va_cpy g_q1_firstDay g_o_firstDay 0 0 24) (va_cpy g_q1_lastDay g_o_lastDay 0 0 24) g_o_neighbours g_o_parents g_o_root v_q1_count g_q1_area g_q1_firstDay g_q1_lastDay g_q1_neighbours g_q1_parents g_q1_root) H := hP'
  replace hD : va_D A (k_X4_copyFrom cA o o_area o_firstDay o_lastDay o_neighbours o_parents o_root q1 q1_area q1_firstDay q1_lastDay q1_neighbours q1_parents q1_root v_q1_count (va_cpy g_q1_area g_o_area 0 0 24) (va_cpy g_q1_firstDay g_o_firstDay 0 0 24) (va_cpy g_q1_lastDay g_o_lastDay 0 0 24) g_o_neighbours g_o_parents g_o_root v_q1_count g_q1_area g_q1_firstDay g_q1_lastDay g_q1_neighbours g_q1_parents g_q1_root) := hD'
  replace hS := hS'
  refine lv_aload_n hx hb dX4_copyFrom_53 rfl (lv_at hl 1 rfl) ?_
  refine va_get (D := G) (ci := 6) (v := .ref q1_neighbours) (C := RX4) (T := TX4) (N := 7) hx hb hts i_X4 hown hK.1 hP 7 rfl rfl 4 (by decide) w_8 (fun _ h9 => h9) rfl dX4_copyFrom_54 ?_
  refine lv_iconst (v := (0 : Int32)) hx hb dX4_copyFrom_57 (by decide) ?_
  refine lv_aload_n hx hb dX4_copyFrom_58 rfl (lv_at hl 0 rfl) ?_
  refine va_get (D := G) (ci := 6) (v := .ref o_neighbours) (C := RX4) (T := TX4) (N := 7) hx hb hts i_X4 hown hK.1 hP 0 rfl rfl 4 (by decide) w_8 (fun _ h9 => h9) rfl dX4_copyFrom_59 ?_
  refine lv_iconst (v := (0 : Int32)) hx hb dX4_copyFrom_62 (by decide) ?_
  refine lv_bipush (v := (24 : Int32)) hx hb dX4_copyFrom_63 (by decide) ?_
  refine va_copyi hx hb (hml.trans hl.1.symm) hown w_2 w_3 w_4 w_5 hK.1 hP hD hS 11 4 0 0 (c0 := cA 0) (c1 := cA 0) (n0 := 24) (n1 := 24) (f := g_q1_neighbours) (g := g_o_neighbours) (ty := .int) rfl rfl rfl rfl rfl (by decide) (by decide) (by decide) (by decide) (by decide) (fun _ _ => rfl) (Nat.le_of_ble_eq_true rfl) (Nat.le_of_ble_eq_true rfl) dX4_copyFrom_65 (fun H locs hP' hD' hS' => ?_)
  replace hP : va_P G vwCl (k_X4_copyFrom cA o o_area o_firstDay o_lastDay o_neighbours o_parents o_root q1 q1_area q1_firstDay q1_lastDay q1_neighbours q1_parents q1_root v_q1_count (va_cpy g_q1_area g_o_area 0 0 24) (va_cpy g_q1_firstDay g_o_firstDay 0 0 24) (va_cpy g_q1_lastDay g_o_lastDay 0 0 24) (va_cpy g_q1_neighbours g_o_neighbours 0 0 24) g_o_parents g_o_root v_q1_count g_q1_area g_q1_firstDay g_q1_lastDay g_q1_neighbours g_q1_parents g_q1_root) H := hP'
  replace hD : va_D A (k_X4_copyFrom cA o o_area o_firstDay o_lastDay o_neighbours o_parents o_root q1 q1_area q1_firstDay q1_lastDay q1_neighbours q1_parents q1_root v_q1_count (va_cpy g_q1_area g_o_area 0 0 24) (va_cpy g_q1_firstDay g_o_firstDay 0 0 24) (va_cpy g_q1_lastDay g_o_lastDay 0 0 24) (va_cpy g_q1_neighbours g_o_neighbours 0 0 24) g_o_parents g_o_root v_q1_count g_q1_area g_q1_firstDay g_q1_lastDay g_q1_neighbours g_q1_parents g_q1_root) := hD'
  replace hS := hS'
  refine lv_aload_n hx hb dX4_copyFrom_68 rfl (lv_at hl 1 rfl) ?_
  refine va_get (D := G) (ci := 6) (v := .ref q1_parents) (C := RX4) (T := TX4) (N := 7) hx hb hts i_X4 hown hK.1 hP 7 rfl rfl 5 (by decide) w_9 (fun _ h9 => h9) rfl dX4_copyFrom_69 ?_
  refine lv_iconst (v := (0 : Int32)) hx hb dX4_copyFrom_72 (by decide) ?_
  refine lv_aload_n hx hb dX4_copyFrom_73 rfl (lv_at hl 0 rfl) ?_
  refine va_get (D := G) (ci := 6) (v := .ref o_parents) (C := RX4) (T := TX4) (N := 7) hx hb hts i_X4 hown hK.1 hP 0 rfl rfl 5 (by decide) w_9 (fun _ h9 => h9) rfl dX4_copyFrom_74 ?_
  refine lv_iconst (v := (0 : Int32)) hx hb dX4_copyFrom_77 (by decide) ?_
  refine lv_bipush (v := (24 : Int32)) hx hb dX4_copyFrom_78 (by decide) ?_
  refine va_copyi hx hb (hml.trans hl.1.symm) hown w_2 w_3 w_4 w_5 hK.1 hP hD hS 12 5 0 0 (c0 := cA 0) (c1 := cA 0) (n0 := 24) (n1 := 24) (f := g_q1_parents) (g := g_o_parents) (ty := .int) rfl rfl rfl rfl rfl (by decide) (by decide) (by decide) (by decide) (by decide) (fun _ _ => rfl) (Nat.le_of_ble_eq_true rfl) (Nat.le_of_ble_eq_true rfl) dX4_copyFrom_80 (fun H locs hP' hD' hS' => ?_)
  replace hP : va_P G vwCl (k_X4_copyFrom cA o o_area o_firstDay o_lastDay o_neighbours o_parents o_root q1 q1_area q1_firstDay q1_lastDay q1_neighbours q1_parents q1_root v_q1_count (va_cpy g_q1_area g_o_area 0 0 24) (va_cpy g_q1_firstDay g_o_firstDay 0 0 24) (va_cpy g_q1_lastDay g_o_lastDay 0 0 24) (va_cpy g_q1_neighbours g_o_neighbours 0 0 24) (va_cpy g_q1_parents g_o_parents 0 0 24) g_o_root v_q1_count g_q1_area g_q1_firstDay g_q1_lastDay g_q1_neighbours g_q1_parents g_q1_root) H := hP'
  replace hD : va_D A (k_X4_copyFrom cA o o_area o_firstDay o_lastDay o_neighbours o_parents o_root q1 q1_area q1_firstDay q1_lastDay q1_neighbours q1_parents q1_root v_q1_count (va_cpy g_q1_area g_o_area 0 0 24) (va_cpy g_q1_firstDay g_o_firstDay 0 0 24) (va_cpy g_q1_lastDay g_o_lastDay 0 0 24) (va_cpy g_q1_neighbours g_o_neighbours 0 0 24) (va_cpy g_q1_parents g_o_parents 0 0 24) g_o_root v_q1_count g_q1_area g_q1_firstDay g_q1_lastDay g_q1_neighbours g_q1_parents g_q1_root) := hD'
  replace hS := hS'
  refine lv_aload_n hx hb dX4_copyFrom_83 rfl (lv_at hl 1 rfl) ?_
  refine va_get (D := G) (ci := 6) (v := .ref q1_root) (C := RX4) (T := TX4) (N := 7) hx hb hts i_X4 hown hK.1 hP 7 rfl rfl 6 (by decide) w_10 (fun _ h9 => h9) rfl dX4_copyFrom_84 ?_
  refine lv_iconst (v := (0 : Int32)) hx hb dX4_copyFrom_87 (by decide) ?_
  refine lv_aload_n hx hb dX4_copyFrom_88 rfl (lv_at hl 0 rfl) ?_
  refine va_get (D := G) (ci := 6) (v := .ref o_root) (C := RX4) (T := TX4) (N := 7) hx hb hts i_X4 hown hK.1 hP 0 rfl rfl 6 (by decide) w_10 (fun _ h9 => h9) rfl dX4_copyFrom_89 ?_
  refine lv_iconst (v := (0 : Int32)) hx hb dX4_copyFrom_92 (by decide) ?_
  refine lv_bipush (v := (24 : Int32)) hx hb dX4_copyFrom_93 (by decide) ?_
  refine va_copyi hx hb (hml.trans hl.1.symm) hown w_2 w_3 w_4 w_5 hK.1 hP hD hS 13 6 0 0 (c0 := cA 0) (c1 := cA 0) (n0 := 24) (n1 := 24) (f := g_q1_root) (g := g_o_root) (ty := .int) rfl rfl rfl rfl rfl (by decide) (by decide) (by decide) (by decide) (by decide) (fun _ _ => rfl) (Nat.le_of_ble_eq_true rfl) (Nat.le_of_ble_eq_true rfl) dX4_copyFrom_95 (fun H locs hP' hD' hS' => ?_)
  replace hP : va_P G vwCl (k_X4_copyFrom cA o o_area o_firstDay o_lastDay o_neighbours o_parents o_root q1 q1_area q1_firstDay q1_lastDay q1_neighbours q1_parents q1_root v_q1_count (va_cpy g_q1_area g_o_area 0 0 24) (va_cpy g_q1_firstDay g_o_firstDay 0 0 24) (va_cpy g_q1_lastDay g_o_lastDay 0 0 24) (va_cpy g_q1_neighbours g_o_neighbours 0 0 24) (va_cpy g_q1_parents g_o_parents 0 0 24) (va_cpy g_q1_root g_o_root 0 0 24) v_q1_count g_q1_area g_q1_firstDay g_q1_lastDay g_q1_neighbours g_q1_parents g_q1_root) H := hP'
  replace hD : va_D A (k_X4_copyFrom cA o o_area o_firstDay o_lastDay o_neighbours o_parents o_root q1 q1_area q1_firstDay q1_lastDay q1_neighbours q1_parents q1_root v_q1_count (va_cpy g_q1_area g_o_area 0 0 24) (va_cpy g_q1_firstDay g_o_firstDay 0 0 24) (va_cpy g_q1_lastDay g_o_lastDay 0 0 24) (va_cpy g_q1_neighbours g_o_neighbours 0 0 24) (va_cpy g_q1_parents g_o_parents 0 0 24) (va_cpy g_q1_root g_o_root 0 0 24) v_q1_count g_q1_area g_q1_firstDay g_q1_lastDay g_q1_neighbours g_q1_parents g_q1_root) := hD'
  replace hS := hS'
  exact hret _ _ (v_q1_count, va_cpy g_q1_area g_o_area 0 0 24, va_cpy g_q1_firstDay g_o_firstDay 0 0 24, va_cpy g_q1_lastDay g_o_lastDay 0 0 24, va_cpy g_q1_neighbours g_o_neighbours 0 0 24, va_cpy g_q1_parents g_o_parents 0 0 24, va_cpy g_q1_root g_o_root 0 0 24) _ _ dX4_copyFrom_98 hP hS hm.symm
def m_X4_come (p1 : Int32) (p2 : Int32) (p3 : Int32) (p4 : Int32) (v_o_count : Int32) (g_o_area : Nat → Int32) (g_o_firstDay : Nat → Int32) (g_o_lastDay : Nat → Int32) (g_o_neighbours : Nat → Int32) (g_o_parents : Nat → Int32) (g_o_root : Nat → Int32) : Option (Int32 × Int32 × (Nat → Int32) × (Nat → Int32) × (Nat → Int32) × (Nat → Int32) × (Nat → Int32) × (Nat → Int32)) := (if v_o_count < (24 : Int32) then gd (ix v_o_count 24) (gd (ix v_o_count 24) (gd (ix v_o_count 24) (gd (ix v_o_count 24) (gd (ix v_o_count 24) (gd (ix v_o_count 24) (some ((v_o_count + (1 : Int32)) - (1 : Int32), v_o_count + (1 : Int32), upd g_o_area v_o_count.toNatClampNeg p1, upd g_o_firstDay v_o_count.toNatClampNeg p4, upd g_o_lastDay v_o_count.toNatClampNeg (-1 : Int32), upd g_o_neighbours v_o_count.toNatClampNeg (0 : Int32), upd g_o_parents v_o_count.toNatClampNeg p3, upd g_o_root v_o_count.toNatClampNeg p2))))))) else some ((-1 : Int32), v_o_count, g_o_area, g_o_firstDay, g_o_lastDay, g_o_neighbours, g_o_parents, g_o_root))
abbrev k_X4_come (cA : Nat → ClassId) (o o_area o_firstDay o_lastDay o_neighbours o_parents o_root : Nat) (v_o_count : Int32) (g_o_area : Nat → Int32) (g_o_firstDay : Nat → Int32) (g_o_lastDay : Nat → Int32) (g_o_neighbours : Nat → Int32) (g_o_parents : Nat → Int32) (g_o_root : Nat → Int32) : va_W := [(o, .inr (6, [.int v_o_count, .ref o_area, .ref o_firstDay, .ref o_lastDay, .ref o_neighbours, .ref o_parents, .ref o_root])), (o_area, .inl (cA 0, 24, .inl g_o_area)), (o_firstDay, .inl (cA 0, 24, .inl g_o_firstDay)), (o_lastDay, .inl (cA 0, 24, .inl g_o_lastDay)), (o_neighbours, .inl (cA 0, 24, .inl g_o_neighbours)), (o_parents, .inl (cA 0, 24, .inl g_o_parents)), (o_root, .inl (cA 0, 24, .inl g_o_root))]
set_option maxHeartbeats 4000000 in
set_option maxRecDepth 100000 in
/-- X4_come: as its model -/
theorem c_X4_come (l : Launch) (G : va_G) (cA : Nat → ClassId) (o o_area o_firstDay o_lastDay o_neighbours o_parents o_root : Nat) (sz : Nat) (p1 : Int32) (p2 : Int32) (p3 : Int32) (p4 : Int32) (v_o_count : Int32) (g_o_area : Nat → Int32) (g_o_firstDay : Nat → Int32) (g_o_lastDay : Nat → Int32) (g_o_neighbours : Nat → Int32) (g_o_parents : Nat → Int32) (g_o_root : Nat → Int32) (R : Option (Int32 × Int32 × (Nat → Int32) × (Nat → Int32) × (Nat → Int32) × (Nat → Int32) × (Nat → Int32) × (Nat → Int32))) (hR : m_X4_come p1 p2 p3 p4 v_o_count g_o_area g_o_firstDay g_o_lastDay g_o_neighbours g_o_parents g_o_root = R) (hz : R ≠ none) : Met l yX4_come wsX4_come ({ frames := 0, cells := 0, slots := 0, locals := 0 } : Room) (va_Pc [.ref o, .int p1, .int p2, .int p3, .int p4] (PM G cA (k_X4_come cA o o_area o_firstDay o_lastDay o_neighbours o_parents o_root v_o_count g_o_area g_o_firstDay g_o_lastDay g_o_neighbours g_o_parents g_o_root) sz)) (va_Qi (fun (r : Int32) (u : Int32 × (Nat → Int32) × (Nat → Int32) × (Nat → Int32) × (Nat → Int32) × (Nat → Int32) × (Nat → Int32)) => R = some (r, u)) (BM G (fun (u : Int32 × (Nat → Int32) × (Nat → Int32) × (Nat → Int32) × (Nat → Int32) × (Nat → Int32) × (Nat → Int32)) => (k_X4_come cA o o_area o_firstDay o_lastDay o_neighbours o_parents o_root u.1 u.2.1 u.2.2.1 u.2.2.2.1 u.2.2.2.2.1 u.2.2.2.2.2.1 u.2.2.2.2.2.2))) (va_A (k_X4_come cA o o_area o_firstDay o_lastDay o_neighbours o_parents o_root v_o_count g_o_area g_o_firstDay g_o_lastDay g_o_neighbours g_o_parents g_o_root) sz)) 0 0 (va_A (k_X4_come cA o o_area o_firstDay o_lastDay o_neighbours o_parents o_root v_o_count g_o_area g_o_firstDay g_o_lastDay g_o_neighbours g_o_parents g_o_root) sz) := by
  refine metM .int (by decide) rfl (Nat.le_of_ble_eq_true rfl) ?_
  intro p e s m av below meth c Q ls A H hx hb hml hts hown hP hK hD hA hS hl hret
  replace hl : lv_has ls 5 [(0, .ref o), (1, .int p1), (2, .int p2), (3, .int p3), (4, .int p4)] := hl
  have w_0 := hts (.fieldLink RX4 9 "ParcelRegistry$Parcels" "count" "I") (by decide +kernel)
  have w_1 := hts (.fieldLink RX4 15 "ParcelRegistry$Parcels" "area" "[I") (by decide +kernel)
  have w_2 := hts (.fieldLink RX4 19 "ParcelRegistry$Parcels" "firstDay" "[I") (by decide +kernel)
  have w_3 := hts (.fieldLink RX4 22 "ParcelRegistry$Parcels" "lastDay" "[I") (by decide +kernel)
  have w_4 := hts (.fieldLink RX4 25 "ParcelRegistry$Parcels" "neighbours" "[I") (by decide +kernel)
  have w_5 := hts (.fieldLink RX4 28 "ParcelRegistry$Parcels" "parents" "[I") (by decide +kernel)
  have w_6 := hts (.fieldLink RX4 31 "ParcelRegistry$Parcels" "root" "[I") (by decide +kernel)
  have i_X4 : ∀ w ∈ wsX40, w ∈ wsX4_come := by decide +kernel
  have hm := hR
  unfold m_X4_come at hm
  refine lv_aload_n hx hb dX4_come_0 rfl (lv_at hl 0 rfl) ?_
  refine va_get (D := G) (ci := 6) (v := .int v_o_count) (C := RX4) (T := TX4) (N := 7) hx hb hts i_X4 hown hK.1 hP 0 rfl rfl 0 (by decide) w_0 (fun _ h9 => h9) rfl dX4_come_1 ?_
  refine lv_bipush (v := (24 : Int32)) hx hb dX4_come_4 (by decide) ?_
  refine lv_icmp_lt (tgt := 11) hx hb dX4_come_6 (by decide) (fun c_1 => ?_) (fun c_1 => ?_)
  · replace hm := it hm c_1
    refine lv_aload_n hx hb dX4_come_11 rfl (lv_at hl 0 rfl) ?_
    refine va_get (D := G) (ci := 6) (v := .ref o_area) (C := RX4) (T := TX4) (N := 7) hx hb hts i_X4 hown hK.1 hP 0 rfl rfl 1 (by decide) w_1 (fun _ h9 => h9) rfl dX4_come_12 ?_
    refine lv_aload_n hx hb dX4_come_15 rfl (lv_at hl 0 rfl) ?_
    refine va_get (D := G) (ci := 6) (v := .int v_o_count) (C := RX4) (T := TX4) (N := 7) hx hb hts i_X4 hown hK.1 hP 0 rfl rfl 0 (by decide) w_0 (fun _ h9 => h9) rfl dX4_come_16 ?_
    refine lv_iload_n hx hb dX4_come_19 rfl (lv_at hl 1 rfl) ?_
    replace hm := gdo hm hz
    obtain ⟨gi_2, hm⟩ := hm
    refine va_iast hx hb hK.1 hP hD hS 1 0 (cA := cA 0) (n := 24) (f := g_o_area) rfl rfl (ixi gi_2) dX4_come_20 (fun H locs hP' hD' hS' => ?_)
    replace hP : va_P G vwCl (k_X4_come cA o o_area o_firstDay o_lastDay o_neighbours o_parents o_root v_o_count (upd g_o_area v_o_count.toNatClampNeg p1) g_o_firstDay g_o_lastDay g_o_neighbours g_o_parents g_o_root) H := hP'
    replace hD : va_D A (k_X4_come cA o o_area o_firstDay o_lastDay o_neighbours o_parents o_root v_o_count (upd g_o_area v_o_count.toNatClampNeg p1) g_o_firstDay g_o_lastDay g_o_neighbours g_o_parents g_o_root) := hD'
    replace hS := hS'
    refine lv_aload_n hx hb dX4_come_21 rfl (lv_at hl 0 rfl) ?_
    refine va_get (D := G) (ci := 6) (v := .ref o_firstDay) (C := RX4) (T := TX4) (N := 7) hx hb hts i_X4 hown hK.1 hP 0 rfl rfl 2 (by decide) w_2 (fun _ h9 => h9) rfl dX4_come_22 ?_
    refine lv_aload_n hx hb dX4_come_25 rfl (lv_at hl 0 rfl) ?_
    refine va_get (D := G) (ci := 6) (v := .int v_o_count) (C := RX4) (T := TX4) (N := 7) hx hb hts i_X4 hown hK.1 hP 0 rfl rfl 0 (by decide) w_0 (fun _ h9 => h9) rfl dX4_come_26 ?_
    refine lv_iload hx hb dX4_come_29 (lv_at hl 4 rfl) ?_
    replace hm := gdo hm hz
    obtain ⟨gi_3, hm⟩ := hm
    refine va_iast hx hb hK.1 hP hD hS 2 0 (cA := cA 0) (n := 24) (f := g_o_firstDay) rfl rfl (ixi gi_3) dX4_come_31 (fun H locs hP' hD' hS' => ?_)
    replace hP : va_P G vwCl (k_X4_come cA o o_area o_firstDay o_lastDay o_neighbours o_parents o_root v_o_count (upd g_o_area v_o_count.toNatClampNeg p1) (upd g_o_firstDay v_o_count.toNatClampNeg p4) g_o_lastDay g_o_neighbours g_o_parents g_o_root) H := hP'
    replace hD : va_D A (k_X4_come cA o o_area o_firstDay o_lastDay o_neighbours o_parents o_root v_o_count (upd g_o_area v_o_count.toNatClampNeg p1) (upd g_o_firstDay v_o_count.toNatClampNeg p4) g_o_lastDay g_o_neighbours g_o_parents g_o_root) := hD'
    replace hS := hS'
    refine lv_aload_n hx hb dX4_come_32 rfl (lv_at hl 0 rfl) ?_
    refine va_get (D := G) (ci := 6) (v := .ref o_lastDay) (C := RX4) (T := TX4) (N := 7) hx hb hts i_X4 hown hK.1 hP 0 rfl rfl 3 (by decide) w_3 (fun _ h9 => h9) rfl dX4_come_33 ?_
    refine lv_aload_n hx hb dX4_come_36 rfl (lv_at hl 0 rfl) ?_
    refine va_get (D := G) (ci := 6) (v := .int v_o_count) (C := RX4) (T := TX4) (N := 7) hx hb hts i_X4 hown hK.1 hP 0 rfl rfl 0 (by decide) w_0 (fun _ h9 => h9) rfl dX4_come_37 ?_
    refine lv_iconst (v := (-1 : Int32)) hx hb dX4_come_40 (by decide) ?_
    replace hm := gdo hm hz
    obtain ⟨gi_4, hm⟩ := hm
    refine va_iast hx hb hK.1 hP hD hS 3 0 (cA := cA 0) (n := 24) (f := g_o_lastDay) rfl rfl (ixi gi_4) dX4_come_41 (fun H locs hP' hD' hS' => ?_)
    replace hP : va_P G vwCl (k_X4_come cA o o_area o_firstDay o_lastDay o_neighbours o_parents o_root v_o_count (upd g_o_area v_o_count.toNatClampNeg p1) (upd g_o_firstDay v_o_count.toNatClampNeg p4) (upd g_o_lastDay v_o_count.toNatClampNeg (-1 : Int32)) g_o_neighbours g_o_parents g_o_root) H := hP'
    replace hD : va_D A (k_X4_come cA o o_area o_firstDay o_lastDay o_neighbours o_parents o_root v_o_count (upd g_o_area v_o_count.toNatClampNeg p1) (upd g_o_firstDay v_o_count.toNatClampNeg p4) (upd g_o_lastDay v_o_count.toNatClampNeg (-1 : Int32)) g_o_neighbours g_o_parents g_o_root) := hD'
    replace hS := hS'
    refine lv_aload_n hx hb dX4_come_42 rfl (lv_at hl 0 rfl) ?_
    refine va_get (D := G) (ci := 6) (v := .ref o_neighbours) (C := RX4) (T := TX4) (N := 7) hx hb hts i_X4 hown hK.1 hP 0 rfl rfl 4 (by decide) w_4 (fun _ h9 => h9) rfl dX4_come_43 ?_
    refine lv_aload_n hx hb dX4_come_46 rfl (lv_at hl 0 rfl) ?_
    refine va_get (D := G) (ci := 6) (v := .int v_o_count) (C := RX4) (T := TX4) (N := 7) hx hb hts i_X4 hown hK.1 hP 0 rfl rfl 0 (by decide) w_0 (fun _ h9 => h9) rfl dX4_come_47 ?_
    refine lv_iconst (v := (0 : Int32)) hx hb dX4_come_50 (by decide) ?_
    replace hm := gdo hm hz
    obtain ⟨gi_5, hm⟩ := hm
    refine va_iast hx hb hK.1 hP hD hS 4 0 (cA := cA 0) (n := 24) (f := g_o_neighbours) rfl rfl (ixi gi_5) dX4_come_51 (fun H locs hP' hD' hS' => ?_)
    replace hP : va_P G vwCl (k_X4_come cA o o_area o_firstDay o_lastDay o_neighbours o_parents o_root v_o_count (upd g_o_area v_o_count.toNatClampNeg p1) (upd g_o_firstDay v_o_count.toNatClampNeg p4) (upd g_o_lastDay v_o_count.toNatClampNeg (-1 : Int32)) (upd g_o_neighbours v_o_count.toNatClampNeg (0 : Int32)) g_o_parents g_o_root) H := hP'
    replace hD : va_D A (k_X4_come cA o o_area o_firstDay o_lastDay o_neighbours o_parents o_root v_o_count (upd g_o_area v_o_count.toNatClampNeg p1) (upd g_o_firstDay v_o_count.toNatClampNeg p4) (upd g_o_lastDay v_o_count.toNatClampNeg (-1 : Int32)) (upd g_o_neighbours v_o_count.toNatClampNeg (0 : Int32)) g_o_parents g_o_root) := hD'
    replace hS := hS'
    refine lv_aload_n hx hb dX4_come_52 rfl (lv_at hl 0 rfl) ?_
    refine va_get (D := G) (ci := 6) (v := .ref o_parents) (C := RX4) (T := TX4) (N := 7) hx hb hts i_X4 hown hK.1 hP 0 rfl rfl 5 (by decide) w_5 (fun _ h9 => h9) rfl dX4_come_53 ?_
    refine lv_aload_n hx hb dX4_come_56 rfl (lv_at hl 0 rfl) ?_
    refine va_get (D := G) (ci := 6) (v := .int v_o_count) (C := RX4) (T := TX4) (N := 7) hx hb hts i_X4 hown hK.1 hP 0 rfl rfl 0 (by decide) w_0 (fun _ h9 => h9) rfl dX4_come_57 ?_
    refine lv_iload_n hx hb dX4_come_60 rfl (lv_at hl 3 rfl) ?_
    replace hm := gdo hm hz
    obtain ⟨gi_6, hm⟩ := hm
    refine va_iast hx hb hK.1 hP hD hS 5 0 (cA := cA 0) (n := 24) (f := g_o_parents) rfl rfl (ixi gi_6) dX4_come_61 (fun H locs hP' hD' hS' => ?_)
    replace hP : va_P G vwCl (k_X4_come cA o o_area o_firstDay o_lastDay o_neighbours o_parents o_root v_o_count (upd g_o_area v_o_count.toNatClampNeg p1) (upd g_o_firstDay v_o_count.toNatClampNeg p4) (upd g_o_lastDay v_o_count.toNatClampNeg (-1 : Int32)) (upd g_o_neighbours v_o_count.toNatClampNeg (0 : Int32)) (upd g_o_parents v_o_count.toNatClampNeg p3) g_o_root) H := hP'
    replace hD : va_D A (k_X4_come cA o o_area o_firstDay o_lastDay o_neighbours o_parents o_root v_o_count (upd g_o_area v_o_count.toNatClampNeg p1) (upd g_o_firstDay v_o_count.toNatClampNeg p4) (upd g_o_lastDay v_o_count.toNatClampNeg (-1 : Int32)) (upd g_o_neighbours v_o_count.toNatClampNeg (0 : Int32)) (upd g_o_parents v_o_count.toNatClampNeg p3) g_o_root) := hD'
    replace hS := hS'
    refine lv_aload_n hx hb dX4_come_62 rfl (lv_at hl 0 rfl) ?_
    refine va_get (D := G) (ci := 6) (v := .ref o_root) (C := RX4) (T := TX4) (N := 7) hx hb hts i_X4 hown hK.1 hP 0 rfl rfl 6 (by decide) w_6 (fun _ h9 => h9) rfl dX4_come_63 ?_
    refine lv_aload_n hx hb dX4_come_66 rfl (lv_at hl 0 rfl) ?_
    refine va_get (D := G) (ci := 6) (v := .int v_o_count) (C := RX4) (T := TX4) (N := 7) hx hb hts i_X4 hown hK.1 hP 0 rfl rfl 0 (by decide) w_0 (fun _ h9 => h9) rfl dX4_come_67 ?_
    refine lv_iload_n hx hb dX4_come_70 rfl (lv_at hl 2 rfl) ?_
    replace hm := gdo hm hz
    obtain ⟨gi_7, hm⟩ := hm
    refine va_iast hx hb hK.1 hP hD hS 6 0 (cA := cA 0) (n := 24) (f := g_o_root) rfl rfl (ixi gi_7) dX4_come_71 (fun H locs hP' hD' hS' => ?_)
    replace hP : va_P G vwCl (k_X4_come cA o o_area o_firstDay o_lastDay o_neighbours o_parents o_root v_o_count (upd g_o_area v_o_count.toNatClampNeg p1) (upd g_o_firstDay v_o_count.toNatClampNeg p4) (upd g_o_lastDay v_o_count.toNatClampNeg (-1 : Int32)) (upd g_o_neighbours v_o_count.toNatClampNeg (0 : Int32)) (upd g_o_parents v_o_count.toNatClampNeg p3) (upd g_o_root v_o_count.toNatClampNeg p2)) H := hP'
    replace hD : va_D A (k_X4_come cA o o_area o_firstDay o_lastDay o_neighbours o_parents o_root v_o_count (upd g_o_area v_o_count.toNatClampNeg p1) (upd g_o_firstDay v_o_count.toNatClampNeg p4) (upd g_o_lastDay v_o_count.toNatClampNeg (-1 : Int32)) (upd g_o_neighbours v_o_count.toNatClampNeg (0 : Int32)) (upd g_o_parents v_o_count.toNatClampNeg p3) (upd g_o_root v_o_count.toNatClampNeg p2)) := hD'
    replace hS := hS'
    refine lv_aload_n hx hb dX4_come_72 rfl (lv_at hl 0 rfl) ?_
    refine lv_dup hx hb dX4_come_73 rfl ?_
    refine va_get (D := G) (ci := 6) (v := .int v_o_count) (C := RX4) (T := TX4) (N := 7) hx hb hts i_X4 hown hK.1 hP 0 rfl rfl 0 (by decide) w_0 (fun _ h9 => h9) rfl dX4_come_74 ?_
    refine lv_iconst (v := (1 : Int32)) hx hb dX4_come_77 (by decide) ?_
    refine lv_iadd hx hb dX4_come_78 ?_
    refine va_put (D := G) (ci := 6) (v := .int (v_o_count + (1 : Int32))) (ty := .int) (C := RX4) (T := TX4) (N := 7) hx hb hts i_X4 tyX4 tyX4_ok nmX4 hown hK.1 hP hD hS 0 rfl rfl 0 (by decide) w_0 (fun _ h9 => h9) rfl (by decide +kernel) rfl rfl (Nat.le_of_ble_eq_true rfl) dX4_come_79 (fun H locs hP' hD' hS' => ?_)
    replace hP : va_P G vwCl (k_X4_come cA o o_area o_firstDay o_lastDay o_neighbours o_parents o_root (v_o_count + (1 : Int32)) (upd g_o_area v_o_count.toNatClampNeg p1) (upd g_o_firstDay v_o_count.toNatClampNeg p4) (upd g_o_lastDay v_o_count.toNatClampNeg (-1 : Int32)) (upd g_o_neighbours v_o_count.toNatClampNeg (0 : Int32)) (upd g_o_parents v_o_count.toNatClampNeg p3) (upd g_o_root v_o_count.toNatClampNeg p2)) H := hP'
    replace hD : va_D A (k_X4_come cA o o_area o_firstDay o_lastDay o_neighbours o_parents o_root (v_o_count + (1 : Int32)) (upd g_o_area v_o_count.toNatClampNeg p1) (upd g_o_firstDay v_o_count.toNatClampNeg p4) (upd g_o_lastDay v_o_count.toNatClampNeg (-1 : Int32)) (upd g_o_neighbours v_o_count.toNatClampNeg (0 : Int32)) (upd g_o_parents v_o_count.toNatClampNeg p3) (upd g_o_root v_o_count.toNatClampNeg p2)) := hD'
    replace hS := hS'
    refine lv_aload_n hx hb dX4_come_82 rfl (lv_at hl 0 rfl) ?_
    refine va_get (D := G) (ci := 6) (v := .int (v_o_count + (1 : Int32))) (C := RX4) (T := TX4) (N := 7) hx hb hts i_X4 hown hK.1 hP 0 rfl rfl 0 (by decide) w_0 (fun _ h9 => h9) rfl dX4_come_83 ?_
    refine lv_iconst (v := (1 : Int32)) hx hb dX4_come_86 (by decide) ?_
    refine lv_isub hx hb dX4_come_87 ?_
    exact hret _ _ _ (v_o_count + (1 : Int32), upd g_o_area v_o_count.toNatClampNeg p1, upd g_o_firstDay v_o_count.toNatClampNeg p4, upd g_o_lastDay v_o_count.toNatClampNeg (-1 : Int32), upd g_o_neighbours v_o_count.toNatClampNeg (0 : Int32), upd g_o_parents v_o_count.toNatClampNeg p3, upd g_o_root v_o_count.toNatClampNeg p2) _ _ dX4_come_88 rfl hP hS hm.symm
  · replace hm := ie hm c_1
    refine lv_iconst (v := (-1 : Int32)) hx hb dX4_come_9 (by decide) ?_
    exact hret _ _ _ (v_o_count, g_o_area, g_o_firstDay, g_o_lastDay, g_o_neighbours, g_o_parents, g_o_root) _ _ dX4_come_10 rfl hP hS hm.symm
def m_X4_has (p1 : Int32) (v_o_count : Int32) : Option (Int32) := (if p1 < 0 then some (0 : Int32) else (if v_o_count ≤ p1 then some (0 : Int32) else some (1 : Int32)))
abbrev k_X4_has (cA : Nat → ClassId) (o o_area o_firstDay o_lastDay o_neighbours o_parents o_root : Nat) (v_o_count : Int32) : va_W := [(o, .inr (6, [.int v_o_count, .ref o_area, .ref o_firstDay, .ref o_lastDay, .ref o_neighbours, .ref o_parents, .ref o_root]))]
set_option maxHeartbeats 4000000 in
set_option maxRecDepth 100000 in
/-- X4_has: as its model -/
theorem c_X4_has (l : Launch) (G : va_G) (cA : Nat → ClassId) (o o_area o_firstDay o_lastDay o_neighbours o_parents o_root : Nat) (p1 : Int32) (v_o_count : Int32) (R : Option (Int32)) (hR : m_X4_has p1 v_o_count = R) (hz : R ≠ none) : Met l yX4_has wsX4_has ({ frames := 0, cells := 0, slots := 0, locals := 0 } : Room) (va_Pc [.ref o, .int p1] (PR G cA (k_X4_has cA o o_area o_firstDay o_lastDay o_neighbours o_parents o_root v_o_count))) (vp_Si (fun r => R = some r ∧ (r = 0 ∨ r = 1))) 0 0 (fun _ => False) := by
  refine metR .boolean (by decide) rfl (Nat.le_of_ble_eq_true rfl) ?_
  intro p e s m av below meth c Q ls hx hb hml hts hown hP hK hl hret
  replace hl : lv_has ls 2 [(0, .ref o), (1, .int p1)] := hl
  have w_0 := hts (.fieldLink RX4 9 "ParcelRegistry$Parcels" "count" "I") (by decide +kernel)
  have i_X4 : ∀ w ∈ wsX40, w ∈ wsX4_has := by decide +kernel
  have hm := hR
  unfold m_X4_has at hm
  refine lv_iload_n hx hb dX4_has_0 rfl (lv_at hl 1 rfl) ?_
  refine lv_if_lt (tgt := 16) hx hb dX4_has_1 (by decide) (fun c_1 => ?_) (fun c_1 => ?_)
  · replace hm := it hm c_1
    refine lv_iconst (v := (0 : Int32)) hx hb dX4_has_16 (by decide) ?_
    exact hret _ _ _ dX4_has_17 rfl ⟨hm.symm, (by decide)⟩
  · replace hm := ie hm c_1
    refine lv_iload_n hx hb dX4_has_4 rfl (lv_at hl 1 rfl) ?_
    refine lv_aload_n hx hb dX4_has_5 rfl (lv_at hl 0 rfl) ?_
    refine va_get (D := G) (ci := 6) (v := .int v_o_count) (C := RX4) (T := TX4) (N := 7) hx hb hts i_X4 hown hK.1 hP 0 rfl rfl 0 (by decide) w_0 (fun _ h9 => h9) rfl dX4_has_6 ?_
    refine lv_icmp_ge (tgt := 16) hx hb dX4_has_9 (by decide) (fun c_2 => ?_) (fun c_2 => ?_)
    · replace hm := it hm c_2
      refine lv_iconst (v := (0 : Int32)) hx hb dX4_has_16 (by decide) ?_
      exact hret _ _ _ dX4_has_17 rfl ⟨hm.symm, (by decide)⟩
    · replace hm := ie hm c_2
      refine lv_iconst (v := (1 : Int32)) hx hb dX4_has_12 (by decide) ?_
      refine lv_goto (tgt := 17) hx hb dX4_has_13 (by decide) ?_
      exact hret _ _ _ dX4_has_17 rfl ⟨hm.symm, (by decide)⟩
def m_X4_isPresent (p1 : Int32) (v_o_count : Int32) (g_o_lastDay : Nat → Int32) : Option (Int32) := Option.bind (m_X4_has p1 v_o_count) (fun r_1 => (if r_1 = 0 then some (0 : Int32) else gd (ix p1 24) ((if (g_o_lastDay p1.toNatClampNeg) = (-1 : Int32) then some (1 : Int32) else some (0 : Int32)))))
abbrev k_X4_isPresent (cA : Nat → ClassId) (o o_area o_firstDay o_lastDay o_neighbours o_parents o_root : Nat) (v_o_count : Int32) (g_o_lastDay : Nat → Int32) : va_W := [(o, .inr (6, [.int v_o_count, .ref o_area, .ref o_firstDay, .ref o_lastDay, .ref o_neighbours, .ref o_parents, .ref o_root])), (o_lastDay, .inl (cA 0, 24, .inl g_o_lastDay))]
set_option maxHeartbeats 4000000 in
set_option maxRecDepth 100000 in
/-- X4_isPresent: as its model -/
theorem c_X4_isPresent (l : Launch) (G : va_G) (cA : Nat → ClassId) (o o_area o_firstDay o_lastDay o_neighbours o_parents o_root : Nat) (p1 : Int32) (v_o_count : Int32) (g_o_lastDay : Nat → Int32) (R : Option (Int32)) (hR : m_X4_isPresent p1 v_o_count g_o_lastDay = R) (hz : R ≠ none) : Met l yX4_isPresent wsX4_isPresent ({ frames := 1, cells := 0, slots := 0, locals := 21 } : Room) (va_Pc [.ref o, .int p1] (PR G cA (k_X4_isPresent cA o o_area o_firstDay o_lastDay o_neighbours o_parents o_root v_o_count g_o_lastDay))) (vp_Si (fun r => R = some r ∧ (r = 0 ∨ r = 1))) 0 0 (fun _ => False) := by
  refine metR .boolean (by decide) rfl (Nat.le_of_ble_eq_true rfl) ?_
  intro p e s m av below meth c Q ls hx hb hml hts hown hP hK hl hret
  replace hl : lv_has ls 2 [(0, .ref o), (1, .int p1)] := hl
  have w_0 := hts (.fieldLink RX4 22 "ParcelRegistry$Parcels" "lastDay" "[I") (by decide +kernel)
  have i_X4 : ∀ w ∈ wsX40, w ∈ wsX4_isPresent := by decide +kernel
  have hm := hR
  unfold m_X4_isPresent at hm
  refine lv_aload_n hx hb dX4_isPresent_0 rfl (lv_at hl 0 rfl) ?_
  refine lv_iload_n hx hb dX4_isPresent_1 rfl (lv_at hl 1 rfl) ?_
  refine vp_callSi (va_Run.run (va_runV (As := [.int p1]) (rest := []) ⟨hx, hb, hml, hown, hts⟩ (c_X4_has l G cA o o_area o_firstDay o_lastDay o_neighbours o_parents o_root p1 v_o_count _ rfl (bnz hm hz)) (cwV 1 hts gX4_isPresent_X4_has rfl rfl rfl (by decide +kernel) ⟨Nat.le_of_ble_eq_true rfl, Nat.le_of_ble_eq_true rfl⟩) (preRV (q := (RX4, TX4, 7)) (hP.sub [0] rfl) hK 0 rfl rfl) rfl rfl hl.1 rfl (lv_room (Nat.le_of_ble_eq_true rfl)) dX4_isPresent_2 ⟨Nat.zero_le _, Nat.zero_le _⟩)) (fun r_1 hw => ?_)
  replace hm := bst hm hw.1
  refine lv_if_eq (tgt := 22) hx hb dX4_isPresent_5 (by decide) (fun c_2 => ?_) (fun c_2 => ?_)
  · replace hm := it hm c_2
    refine lv_iconst (v := (0 : Int32)) hx hb dX4_isPresent_22 (by decide) ?_
    exact hret _ _ _ dX4_isPresent_23 rfl ⟨hm.symm, (by decide)⟩
  · replace hm := ie hm c_2
    refine lv_aload_n hx hb dX4_isPresent_8 rfl (lv_at hl 0 rfl) ?_
    refine va_get (D := G) (ci := 6) (v := .ref o_lastDay) (C := RX4) (T := TX4) (N := 7) hx hb hts i_X4 hown hK.1 hP 0 rfl rfl 3 (by decide) w_0 (fun _ h9 => h9) rfl dX4_isPresent_9 ?_
    refine lv_iload_n hx hb dX4_isPresent_12 rfl (lv_at hl 1 rfl) ?_
    replace hm := gdo hm hz
    obtain ⟨gi_3, hm⟩ := hm
    refine va_iald hx hb hK.1 hP 1 0 (cA := cA 0) (n := 24) (f := g_o_lastDay) rfl rfl (ixi gi_3) dX4_isPresent_13 ?_
    refine lv_iconst (v := (-1 : Int32)) hx hb dX4_isPresent_14 (by decide) ?_
    refine lv_icmp_ne (tgt := 22) hx hb dX4_isPresent_15 (by decide) (fun c_4 => ?_) (fun c_4 => ?_)
    · replace hm := ie hm c_4
      refine lv_iconst (v := (0 : Int32)) hx hb dX4_isPresent_22 (by decide) ?_
      exact hret _ _ _ dX4_isPresent_23 rfl ⟨hm.symm, (by decide)⟩
    · replace hm := it hm c_4
      refine lv_iconst (v := (1 : Int32)) hx hb dX4_isPresent_18 (by decide) ?_
      refine lv_goto (tgt := 23) hx hb dX4_isPresent_19 (by decide) ?_
      exact hret _ _ _ dX4_isPresent_23 rfl ⟨hm.symm, (by decide)⟩
def m_X4_neighboursOf (p1 : Int32) (v_o_count : Int32) (g_o_neighbours : Nat → Int32) : Option (Int32) := Option.bind (m_X4_has p1 v_o_count) (fun r_1 => (if r_1 = 0 then some (0 : Int32) else gd (ix p1 24) (some (g_o_neighbours p1.toNatClampNeg))))
abbrev k_X4_neighboursOf (cA : Nat → ClassId) (o o_area o_firstDay o_lastDay o_neighbours o_parents o_root : Nat) (v_o_count : Int32) (g_o_neighbours : Nat → Int32) : va_W := [(o, .inr (6, [.int v_o_count, .ref o_area, .ref o_firstDay, .ref o_lastDay, .ref o_neighbours, .ref o_parents, .ref o_root])), (o_neighbours, .inl (cA 0, 24, .inl g_o_neighbours))]
set_option maxHeartbeats 4000000 in
set_option maxRecDepth 100000 in
/-- X4_neighboursOf: as its model -/
theorem c_X4_neighboursOf (l : Launch) (G : va_G) (cA : Nat → ClassId) (o o_area o_firstDay o_lastDay o_neighbours o_parents o_root : Nat) (p1 : Int32) (v_o_count : Int32) (g_o_neighbours : Nat → Int32) (R : Option (Int32)) (hR : m_X4_neighboursOf p1 v_o_count g_o_neighbours = R) (hz : R ≠ none) : Met l yX4_neighboursOf wsX4_neighboursOf ({ frames := 1, cells := 0, slots := 0, locals := 21 } : Room) (va_Pc [.ref o, .int p1] (PR G cA (k_X4_neighboursOf cA o o_area o_firstDay o_lastDay o_neighbours o_parents o_root v_o_count g_o_neighbours))) (vp_Si (fun r => R = some r)) 0 0 (fun _ => False) := by
  refine metR .int (by decide) rfl (Nat.le_of_ble_eq_true rfl) ?_
  intro p e s m av below meth c Q ls hx hb hml hts hown hP hK hl hret
  replace hl : lv_has ls 2 [(0, .ref o), (1, .int p1)] := hl
  have w_0 := hts (.fieldLink RX4 25 "ParcelRegistry$Parcels" "neighbours" "[I") (by decide +kernel)
  have i_X4 : ∀ w ∈ wsX40, w ∈ wsX4_neighboursOf := by decide +kernel
  have hm := hR
  unfold m_X4_neighboursOf at hm
  refine lv_aload_n hx hb dX4_neighboursOf_0 rfl (lv_at hl 0 rfl) ?_
  refine lv_iload_n hx hb dX4_neighboursOf_1 rfl (lv_at hl 1 rfl) ?_
  refine vp_callSi (va_Run.run (va_runV (As := [.int p1]) (rest := []) ⟨hx, hb, hml, hown, hts⟩ (c_X4_has l G cA o o_area o_firstDay o_lastDay o_neighbours o_parents o_root p1 v_o_count _ rfl (bnz hm hz)) (cwV 1 hts gX4_neighboursOf_X4_has rfl rfl rfl (by decide +kernel) ⟨Nat.le_of_ble_eq_true rfl, Nat.le_of_ble_eq_true rfl⟩) (preRV (q := (RX4, TX4, 7)) (hP.sub [0] rfl) hK 0 rfl rfl) rfl rfl hl.1 rfl (lv_room (Nat.le_of_ble_eq_true rfl)) dX4_neighboursOf_2 ⟨Nat.zero_le _, Nat.zero_le _⟩)) (fun r_1 hw => ?_)
  replace hm := bst hm hw.1
  refine lv_if_eq (tgt := 17) hx hb dX4_neighboursOf_5 (by decide) (fun c_2 => ?_) (fun c_2 => ?_)
  · replace hm := it hm c_2
    refine lv_iconst (v := (0 : Int32)) hx hb dX4_neighboursOf_17 (by decide) ?_
    exact hret _ _ _ dX4_neighboursOf_18 rfl hm.symm
  · replace hm := ie hm c_2
    refine lv_aload_n hx hb dX4_neighboursOf_8 rfl (lv_at hl 0 rfl) ?_
    refine va_get (D := G) (ci := 6) (v := .ref o_neighbours) (C := RX4) (T := TX4) (N := 7) hx hb hts i_X4 hown hK.1 hP 0 rfl rfl 4 (by decide) w_0 (fun _ h9 => h9) rfl dX4_neighboursOf_9 ?_
    refine lv_iload_n hx hb dX4_neighboursOf_12 rfl (lv_at hl 1 rfl) ?_
    replace hm := gdo hm hz
    obtain ⟨gi_3, hm⟩ := hm
    refine va_iald hx hb hK.1 hP 1 0 (cA := cA 0) (n := 24) (f := g_o_neighbours) rfl rfl (ixi gi_3) dX4_neighboursOf_13 ?_
    refine lv_goto (tgt := 18) hx hb dX4_neighboursOf_14 (by decide) ?_
    exact hret _ _ _ dX4_neighboursOf_18 rfl hm.symm
def m_X7_isIn (p1 : Int32) (p2 : Int32) : Option (Int32) := (if (((p1.toUInt32 >>> (p2.toUInt32 &&& Int32.toUInt32 31)).toInt32) &&& (1 : Int32)) = 0 then some (0 : Int32) else some (1 : Int32))
abbrev k_X7_isIn (cA : Nat → ClassId)  : va_W := []
set_option maxHeartbeats 4000000 in
set_option maxRecDepth 100000 in
/-- X7_isIn: as its model -/
theorem c_X7_isIn (l : Launch) (G : va_G) (cA : Nat → ClassId) (p1 : Int32) (p2 : Int32) (R : Option (Int32)) (hR : m_X7_isIn p1 p2 = R) (hz : R ≠ none) : Met l yX7_isIn wsX7_isIn ({ frames := 0, cells := 0, slots := 0, locals := 0 } : Room) (va_Pc [.int p1, .int p2] (PR G cA (k_X7_isIn cA))) (vp_Si (fun r => R = some r ∧ (r = 0 ∨ r = 1))) 0 0 (fun _ => False) := by
  refine metR .boolean (by decide) rfl (Nat.le_of_ble_eq_true rfl) ?_
  intro p e s m av below meth c Q ls hx hb hml hts hown hP hK hl hret
  replace hl : lv_has ls 2 [(0, .int p1), (1, .int p2)] := hl
  have hm := hR
  unfold m_X7_isIn at hm
  refine lv_iload_n hx hb dX7_isIn_0 rfl (lv_at hl 0 rfl) ?_
  refine lv_iload_n hx hb dX7_isIn_1 rfl (lv_at hl 1 rfl) ?_
  refine lv_iushr hx hb dX7_isIn_2 rfl ?_
  refine lv_iconst (v := (1 : Int32)) hx hb dX7_isIn_3 (by decide) ?_
  refine lv_iand hx hb dX7_isIn_4 ?_
  refine lv_if_eq (tgt := 12) hx hb dX7_isIn_5 (by decide) (fun c_1 => ?_) (fun c_1 => ?_)
  · replace hm := it hm c_1
    refine lv_iconst (v := (0 : Int32)) hx hb dX7_isIn_12 (by decide) ?_
    exact hret _ _ _ dX7_isIn_13 rfl ⟨hm.symm, (by decide)⟩
  · replace hm := ie hm c_1
    refine lv_iconst (v := (1 : Int32)) hx hb dX7_isIn_8 (by decide) ?_
    refine lv_goto (tgt := 13) hx hb dX7_isIn_9 (by decide) ?_
    exact hret _ _ _ dX7_isIn_13 rfl ⟨hm.symm, (by decide)⟩
def m_X4_areNeighbours (p1 : Int32) (p2 : Int32) (v_o_count : Int32) (g_o_neighbours : Nat → Int32) : Option (Int32) := Option.bind (m_X4_neighboursOf p1 v_o_count g_o_neighbours) (fun r_1 => Option.bind (m_X7_isIn r_1 p2) (fun r_2 => gd (isb r_2) (some r_2)))
abbrev k_X4_areNeighbours (cA : Nat → ClassId) (o o_area o_firstDay o_lastDay o_neighbours o_parents o_root : Nat) (v_o_count : Int32) (g_o_neighbours : Nat → Int32) : va_W := [(o, .inr (6, [.int v_o_count, .ref o_area, .ref o_firstDay, .ref o_lastDay, .ref o_neighbours, .ref o_parents, .ref o_root])), (o_neighbours, .inl (cA 0, 24, .inl g_o_neighbours))]
set_option maxHeartbeats 4000000 in
set_option maxRecDepth 100000 in
/-- X4_areNeighbours: as its model -/
theorem c_X4_areNeighbours (l : Launch) (G : va_G) (cA : Nat → ClassId) (o o_area o_firstDay o_lastDay o_neighbours o_parents o_root : Nat) (p1 : Int32) (p2 : Int32) (v_o_count : Int32) (g_o_neighbours : Nat → Int32) (R : Option (Int32)) (hR : m_X4_areNeighbours p1 p2 v_o_count g_o_neighbours = R) (hz : R ≠ none) : Met l yX4_areNeighbours wsX4_areNeighbours ({ frames := 2, cells := 0, slots := 0, locals := 42 } : Room) (va_Pc [.ref o, .int p1, .int p2] (PR G cA (k_X4_areNeighbours cA o o_area o_firstDay o_lastDay o_neighbours o_parents o_root v_o_count g_o_neighbours))) (vp_Si (fun r => R = some r ∧ (r = 0 ∨ r = 1))) 0 0 (fun _ => False) := by
  refine metR .boolean (by decide) rfl (Nat.le_of_ble_eq_true rfl) ?_
  intro p e s m av below meth c Q ls hx hb hml hts hown hP hK hl hret
  replace hl : lv_has ls 3 [(0, .ref o), (1, .int p1), (2, .int p2)] := hl
  have w_0 := hts (.initialized RX7) (by decide +kernel)
  have w_1 := hts (.static yX7_isIn) (by decide +kernel)
  have hm := hR
  unfold m_X4_areNeighbours at hm
  refine lv_aload_n hx hb dX4_areNeighbours_0 rfl (lv_at hl 0 rfl) ?_
  refine lv_iload_n hx hb dX4_areNeighbours_1 rfl (lv_at hl 1 rfl) ?_
  refine vp_callSi (va_Run.run (va_runV (As := [.int p1]) (rest := []) ⟨hx, hb, hml, hown, hts⟩ (c_X4_neighboursOf l G cA o o_area o_firstDay o_lastDay o_neighbours o_parents o_root p1 v_o_count g_o_neighbours _ rfl (bnz hm hz)) (cwV 1 hts gX4_areNeighbours_X4_neighboursOf rfl rfl rfl (by decide +kernel) ⟨Nat.le_of_ble_eq_true rfl, Nat.le_of_ble_eq_true rfl⟩) (preRV (q := (RX4, TX4, 7)) (hP.sub [0, 1] rfl) hK 0 rfl rfl) rfl rfl hl.1 rfl (lv_room (Nat.le_of_ble_eq_true rfl)) dX4_areNeighbours_2 ⟨Nat.zero_le _, Nat.zero_le _⟩)) (fun r_1 hw => ?_)
  replace hm := bst hm hw
  refine lv_iload_n hx hb dX4_areNeighbours_5 rfl (lv_at hl 2 rfl) ?_
  refine vp_callSi (va_Run.run (va_runSN (As := [.int r_1, .int p2]) (rest := []) ⟨hx, hb, hml, hown, hts⟩ (c_X7_isIn l G cA r_1 p2 _ rfl (bnz hm hz)) ⟨va_cnB (host := "ParcelRegistry") 2 hts gX4_areNeighbours_X7_isIn_n48 rfl rfl rfl (hK.2 (RX4, 48, yX7_isIn) (List.mem_of_getElem? (i := 9) rfl)) w_0 (by decide +kernel) ⟨Nat.le_of_ble_eq_true rfl, Nat.le_of_ble_eq_true rfl⟩, w_1, trivial⟩ (preRS (hP.sub [] rfl) hK) rfl rfl hl.1 rfl (lv_room (Nat.le_of_ble_eq_true rfl)) dX4_areNeighbours_6 ⟨Nat.zero_le _, Nat.zero_le _⟩)) (fun r_2 hw => ?_)
  replace hm := bst hm hw.1
  replace hm := gdo hm hz
  obtain ⟨gb_3, hm⟩ := hm
  exact hret _ _ _ dX4_areNeighbours_9 (nz (isbz gb_3)) ⟨hm.symm, (isbz gb_3)⟩
def m_X4_link (p1 : Int32) (p2 : Int32) (v_o_count : Int32) (g_o_neighbours : Nat → Int32) : Option ((Nat → Int32)) := Option.bind (m_X4_has p1 v_o_count) (fun r_1 => (if r_1 = 0 then some g_o_neighbours else Option.bind (m_X4_has p2 v_o_count) (fun r_3 => (if r_3 = 0 then some g_o_neighbours else gd (ix p1 24) (gd (ix p1 24) (gd (ix p2 24) (gd (ix p2 24) (some (upd (upd g_o_neighbours p1.toNatClampNeg ((g_o_neighbours p1.toNatClampNeg) ||| ((1 : Int32) <<< (p2 &&& 31)))) p2.toNatClampNeg (((upd g_o_neighbours p1.toNatClampNeg ((g_o_neighbours p1.toNatClampNeg) ||| ((1 : Int32) <<< (p2 &&& 31)))) p2.toNatClampNeg) ||| ((1 : Int32) <<< (p1 &&& 31))))))))))))
abbrev k_X4_link (cA : Nat → ClassId) (o o_area o_firstDay o_lastDay o_neighbours o_parents o_root : Nat) (v_o_count : Int32) (g_o_neighbours : Nat → Int32) : va_W := [(o, .inr (6, [.int v_o_count, .ref o_area, .ref o_firstDay, .ref o_lastDay, .ref o_neighbours, .ref o_parents, .ref o_root])), (o_neighbours, .inl (cA 0, 24, .inl g_o_neighbours))]
set_option maxHeartbeats 4000000 in
set_option maxRecDepth 100000 in
/-- X4_link: as its model -/
theorem c_X4_link (l : Launch) (G : va_G) (cA : Nat → ClassId) (o o_area o_firstDay o_lastDay o_neighbours o_parents o_root : Nat) (sz : Nat) (p1 : Int32) (p2 : Int32) (v_o_count : Int32) (g_o_neighbours : Nat → Int32) (R : Option ((Nat → Int32))) (hR : m_X4_link p1 p2 v_o_count g_o_neighbours = R) (hz : R ≠ none) : Met l yX4_link wsX4_link ({ frames := 1, cells := 0, slots := 0, locals := 21 } : Room) (va_Pc [.ref o, .int p1, .int p2] (PM G cA (k_X4_link cA o o_area o_firstDay o_lastDay o_neighbours o_parents o_root v_o_count g_o_neighbours) sz)) (va_Qv (fun (u : (Nat → Int32)) => R = some u) (BM G (fun (u : (Nat → Int32)) => (k_X4_link cA o o_area o_firstDay o_lastDay o_neighbours o_parents o_root v_o_count u))) (va_A (k_X4_link cA o o_area o_firstDay o_lastDay o_neighbours o_parents o_root v_o_count g_o_neighbours) sz)) 0 0 (va_A (k_X4_link cA o o_area o_firstDay o_lastDay o_neighbours o_parents o_root v_o_count g_o_neighbours) sz) := by
  refine metV (by decide) rfl (Nat.le_of_ble_eq_true rfl) ?_
  intro p e s m av below meth c Q ls A H hx hb hml hts hown hP hK hD hA hS hl hret
  replace hl : lv_has ls 3 [(0, .ref o), (1, .int p1), (2, .int p2)] := hl
  have w_0 := hts (.fieldLink RX4 25 "ParcelRegistry$Parcels" "neighbours" "[I") (by decide +kernel)
  have i_X4 : ∀ w ∈ wsX40, w ∈ wsX4_link := by decide +kernel
  have hm := hR
  unfold m_X4_link at hm
  refine lv_aload_n hx hb dX4_link_0 rfl (lv_at hl 0 rfl) ?_
  refine lv_iload_n hx hb dX4_link_1 rfl (lv_at hl 1 rfl) ?_
  refine vp_callSi (va_Run.run (va_runV (As := [.int p1]) (rest := []) ⟨hx, hb, hml, hown, hts⟩ (c_X4_has l G cA o o_area o_firstDay o_lastDay o_neighbours o_parents o_root p1 v_o_count _ rfl (bnz hm hz)) (cwV 1 hts gX4_link_X4_has rfl rfl rfl (by decide +kernel) ⟨Nat.le_of_ble_eq_true rfl, Nat.le_of_ble_eq_true rfl⟩) (preRV (q := (RX4, TX4, 7)) (hP.sub [0] rfl) hK 0 rfl rfl) rfl rfl hl.1 rfl (lv_room (Nat.le_of_ble_eq_true rfl)) dX4_link_2 ⟨Nat.zero_le _, Nat.zero_le _⟩)) (fun r_1 hw => ?_)
  replace hm := bst hm hw.1
  refine lv_if_eq (tgt := 40) hx hb dX4_link_5 (by decide) (fun c_2 => ?_) (fun c_2 => ?_)
  · replace hm := it hm c_2
    exact hret _ _ g_o_neighbours _ _ dX4_link_40 hP hS hm.symm
  · replace hm := ie hm c_2
    refine lv_aload_n hx hb dX4_link_8 rfl (lv_at hl 0 rfl) ?_
    refine lv_iload_n hx hb dX4_link_9 rfl (lv_at hl 2 rfl) ?_
    refine vp_callSi (va_Run.run (va_runV (As := [.int p2]) (rest := []) ⟨hx, hb, hml, hown, hts⟩ (c_X4_has l G cA o o_area o_firstDay o_lastDay o_neighbours o_parents o_root p2 v_o_count _ rfl (bnz hm hz)) (cwV 1 hts gX4_link_X4_has rfl rfl rfl (by decide +kernel) ⟨Nat.le_of_ble_eq_true rfl, Nat.le_of_ble_eq_true rfl⟩) (preRV (q := (RX4, TX4, 7)) (hP.sub [0] rfl) hK 0 rfl rfl) rfl rfl hl.1 rfl (lv_room (Nat.le_of_ble_eq_true rfl)) dX4_link_10 ⟨Nat.zero_le _, Nat.zero_le _⟩)) (fun r_3 hw => ?_)
    replace hm := bst hm hw.1
    refine lv_if_eq (tgt := 40) hx hb dX4_link_13 (by decide) (fun c_4 => ?_) (fun c_4 => ?_)
    · replace hm := it hm c_4
      exact hret _ _ g_o_neighbours _ _ dX4_link_40 hP hS hm.symm
    · replace hm := ie hm c_4
      refine lv_aload_n hx hb dX4_link_16 rfl (lv_at hl 0 rfl) ?_
      refine va_get (D := G) (ci := 6) (v := .ref o_neighbours) (C := RX4) (T := TX4) (N := 7) hx hb hts i_X4 hown hK.1 hP 0 rfl rfl 4 (by decide) w_0 (fun _ h9 => h9) rfl dX4_link_17 ?_
      refine lv_iload_n hx hb dX4_link_20 rfl (lv_at hl 1 rfl) ?_
      refine lv_dup2_11 hx hb dX4_link_21 rfl rfl ?_
      replace hm := gdo hm hz
      obtain ⟨gi_5, hm⟩ := hm
      refine va_iald hx hb hK.1 hP 1 0 (cA := cA 0) (n := 24) (f := g_o_neighbours) rfl rfl (ixi gi_5) dX4_link_22 ?_
      refine lv_iconst (v := (1 : Int32)) hx hb dX4_link_23 (by decide) ?_
      refine lv_iload_n hx hb dX4_link_24 rfl (lv_at hl 2 rfl) ?_
      refine lv_ishl hx hb dX4_link_25 ?_
      refine lv_ior hx hb dX4_link_26 ?_
      replace hm := gdo hm hz
      obtain ⟨gi_6, hm⟩ := hm
      refine va_iast hx hb hK.1 hP hD hS 1 0 (cA := cA 0) (n := 24) (f := g_o_neighbours) rfl rfl (ixi gi_6) dX4_link_27 (fun H locs hP' hD' hS' => ?_)
      replace hP : va_P G vwCl (k_X4_link cA o o_area o_firstDay o_lastDay o_neighbours o_parents o_root v_o_count (upd g_o_neighbours p1.toNatClampNeg ((g_o_neighbours p1.toNatClampNeg) ||| ((1 : Int32) <<< (p2 &&& 31))))) H := hP'
      replace hD : va_D A (k_X4_link cA o o_area o_firstDay o_lastDay o_neighbours o_parents o_root v_o_count (upd g_o_neighbours p1.toNatClampNeg ((g_o_neighbours p1.toNatClampNeg) ||| ((1 : Int32) <<< (p2 &&& 31))))) := hD'
      replace hS := hS'
      refine lv_aload_n hx hb dX4_link_28 rfl (lv_at hl 0 rfl) ?_
      refine va_get (D := G) (ci := 6) (v := .ref o_neighbours) (C := RX4) (T := TX4) (N := 7) hx hb hts i_X4 hown hK.1 hP 0 rfl rfl 4 (by decide) w_0 (fun _ h9 => h9) rfl dX4_link_29 ?_
      refine lv_iload_n hx hb dX4_link_32 rfl (lv_at hl 2 rfl) ?_
      refine lv_dup2_11 hx hb dX4_link_33 rfl rfl ?_
      replace hm := gdo hm hz
      obtain ⟨gi_7, hm⟩ := hm
      refine va_iald hx hb hK.1 hP 1 0 (cA := cA 0) (n := 24) (f := upd g_o_neighbours p1.toNatClampNeg ((g_o_neighbours p1.toNatClampNeg) ||| ((1 : Int32) <<< (p2 &&& 31)))) rfl rfl (ixi gi_7) dX4_link_34 ?_
      refine lv_iconst (v := (1 : Int32)) hx hb dX4_link_35 (by decide) ?_
      refine lv_iload_n hx hb dX4_link_36 rfl (lv_at hl 1 rfl) ?_
      refine lv_ishl hx hb dX4_link_37 ?_
      refine lv_ior hx hb dX4_link_38 ?_
      replace hm := gdo hm hz
      obtain ⟨gi_8, hm⟩ := hm
      refine va_iast hx hb hK.1 hP hD hS 1 0 (cA := cA 0) (n := 24) (f := upd g_o_neighbours p1.toNatClampNeg ((g_o_neighbours p1.toNatClampNeg) ||| ((1 : Int32) <<< (p2 &&& 31)))) rfl rfl (ixi gi_8) dX4_link_39 (fun H locs hP' hD' hS' => ?_)
      replace hP : va_P G vwCl (k_X4_link cA o o_area o_firstDay o_lastDay o_neighbours o_parents o_root v_o_count (upd (upd g_o_neighbours p1.toNatClampNeg ((g_o_neighbours p1.toNatClampNeg) ||| ((1 : Int32) <<< (p2 &&& 31)))) p2.toNatClampNeg (((upd g_o_neighbours p1.toNatClampNeg ((g_o_neighbours p1.toNatClampNeg) ||| ((1 : Int32) <<< (p2 &&& 31)))) p2.toNatClampNeg) ||| ((1 : Int32) <<< (p1 &&& 31))))) H := hP'
      replace hD : va_D A (k_X4_link cA o o_area o_firstDay o_lastDay o_neighbours o_parents o_root v_o_count (upd (upd g_o_neighbours p1.toNatClampNeg ((g_o_neighbours p1.toNatClampNeg) ||| ((1 : Int32) <<< (p2 &&& 31)))) p2.toNatClampNeg (((upd g_o_neighbours p1.toNatClampNeg ((g_o_neighbours p1.toNatClampNeg) ||| ((1 : Int32) <<< (p2 &&& 31)))) p2.toNatClampNeg) ||| ((1 : Int32) <<< (p1 &&& 31))))) := hD'
      replace hS := hS'
      exact hret _ _ (upd (upd g_o_neighbours p1.toNatClampNeg ((g_o_neighbours p1.toNatClampNeg) ||| ((1 : Int32) <<< (p2 &&& 31)))) p2.toNatClampNeg (((upd g_o_neighbours p1.toNatClampNeg ((g_o_neighbours p1.toNatClampNeg) ||| ((1 : Int32) <<< (p2 &&& 31)))) p2.toNatClampNeg) ||| ((1 : Int32) <<< (p1 &&& 31)))) _ _ dX4_link_40 hP hS hm.symm
def m_X4_unlink (p1 : Int32) (p2 : Int32) (v_o_count : Int32) (g_o_neighbours : Nat → Int32) : Option ((Nat → Int32)) := Option.bind (m_X4_has p1 v_o_count) (fun r_1 => (if r_1 = 0 then some g_o_neighbours else Option.bind (m_X4_has p2 v_o_count) (fun r_3 => (if r_3 = 0 then some g_o_neighbours else gd (ix p1 24) (gd (ix p1 24) (gd (ix p2 24) (gd (ix p2 24) (some (upd (upd g_o_neighbours p1.toNatClampNeg ((g_o_neighbours p1.toNatClampNeg) &&& (((1 : Int32) <<< (p2 &&& 31)) ^^^ (-1 : Int32)))) p2.toNatClampNeg (((upd g_o_neighbours p1.toNatClampNeg ((g_o_neighbours p1.toNatClampNeg) &&& (((1 : Int32) <<< (p2 &&& 31)) ^^^ (-1 : Int32)))) p2.toNatClampNeg) &&& (((1 : Int32) <<< (p1 &&& 31)) ^^^ (-1 : Int32))))))))))))
abbrev k_X4_unlink (cA : Nat → ClassId) (o o_area o_firstDay o_lastDay o_neighbours o_parents o_root : Nat) (v_o_count : Int32) (g_o_neighbours : Nat → Int32) : va_W := [(o, .inr (6, [.int v_o_count, .ref o_area, .ref o_firstDay, .ref o_lastDay, .ref o_neighbours, .ref o_parents, .ref o_root])), (o_neighbours, .inl (cA 0, 24, .inl g_o_neighbours))]
set_option maxHeartbeats 4000000 in
set_option maxRecDepth 100000 in
/-- X4_unlink: as its model -/
theorem c_X4_unlink (l : Launch) (G : va_G) (cA : Nat → ClassId) (o o_area o_firstDay o_lastDay o_neighbours o_parents o_root : Nat) (sz : Nat) (p1 : Int32) (p2 : Int32) (v_o_count : Int32) (g_o_neighbours : Nat → Int32) (R : Option ((Nat → Int32))) (hR : m_X4_unlink p1 p2 v_o_count g_o_neighbours = R) (hz : R ≠ none) : Met l yX4_unlink wsX4_unlink ({ frames := 1, cells := 0, slots := 0, locals := 21 } : Room) (va_Pc [.ref o, .int p1, .int p2] (PM G cA (k_X4_unlink cA o o_area o_firstDay o_lastDay o_neighbours o_parents o_root v_o_count g_o_neighbours) sz)) (va_Qv (fun (u : (Nat → Int32)) => R = some u) (BM G (fun (u : (Nat → Int32)) => (k_X4_unlink cA o o_area o_firstDay o_lastDay o_neighbours o_parents o_root v_o_count u))) (va_A (k_X4_unlink cA o o_area o_firstDay o_lastDay o_neighbours o_parents o_root v_o_count g_o_neighbours) sz)) 0 0 (va_A (k_X4_unlink cA o o_area o_firstDay o_lastDay o_neighbours o_parents o_root v_o_count g_o_neighbours) sz) := by
  refine metV (by decide) rfl (Nat.le_of_ble_eq_true rfl) ?_
  intro p e s m av below meth c Q ls A H hx hb hml hts hown hP hK hD hA hS hl hret
  replace hl : lv_has ls 3 [(0, .ref o), (1, .int p1), (2, .int p2)] := hl
  have w_0 := hts (.fieldLink RX4 25 "ParcelRegistry$Parcels" "neighbours" "[I") (by decide +kernel)
  have i_X4 : ∀ w ∈ wsX40, w ∈ wsX4_unlink := by decide +kernel
  have hm := hR
  unfold m_X4_unlink at hm
  refine lv_aload_n hx hb dX4_unlink_0 rfl (lv_at hl 0 rfl) ?_
  refine lv_iload_n hx hb dX4_unlink_1 rfl (lv_at hl 1 rfl) ?_
  refine vp_callSi (va_Run.run (va_runV (As := [.int p1]) (rest := []) ⟨hx, hb, hml, hown, hts⟩ (c_X4_has l G cA o o_area o_firstDay o_lastDay o_neighbours o_parents o_root p1 v_o_count _ rfl (bnz hm hz)) (cwV 1 hts gX4_unlink_X4_has rfl rfl rfl (by decide +kernel) ⟨Nat.le_of_ble_eq_true rfl, Nat.le_of_ble_eq_true rfl⟩) (preRV (q := (RX4, TX4, 7)) (hP.sub [0] rfl) hK 0 rfl rfl) rfl rfl hl.1 rfl (lv_room (Nat.le_of_ble_eq_true rfl)) dX4_unlink_2 ⟨Nat.zero_le _, Nat.zero_le _⟩)) (fun r_1 hw => ?_)
  replace hm := bst hm hw.1
  refine lv_if_eq (tgt := 44) hx hb dX4_unlink_5 (by decide) (fun c_2 => ?_) (fun c_2 => ?_)
  · replace hm := it hm c_2
    exact hret _ _ g_o_neighbours _ _ dX4_unlink_44 hP hS hm.symm
  · replace hm := ie hm c_2
    refine lv_aload_n hx hb dX4_unlink_8 rfl (lv_at hl 0 rfl) ?_
    refine lv_iload_n hx hb dX4_unlink_9 rfl (lv_at hl 2 rfl) ?_
    refine vp_callSi (va_Run.run (va_runV (As := [.int p2]) (rest := []) ⟨hx, hb, hml, hown, hts⟩ (c_X4_has l G cA o o_area o_firstDay o_lastDay o_neighbours o_parents o_root p2 v_o_count _ rfl (bnz hm hz)) (cwV 1 hts gX4_unlink_X4_has rfl rfl rfl (by decide +kernel) ⟨Nat.le_of_ble_eq_true rfl, Nat.le_of_ble_eq_true rfl⟩) (preRV (q := (RX4, TX4, 7)) (hP.sub [0] rfl) hK 0 rfl rfl) rfl rfl hl.1 rfl (lv_room (Nat.le_of_ble_eq_true rfl)) dX4_unlink_10 ⟨Nat.zero_le _, Nat.zero_le _⟩)) (fun r_3 hw => ?_)
    replace hm := bst hm hw.1
    refine lv_if_eq (tgt := 44) hx hb dX4_unlink_13 (by decide) (fun c_4 => ?_) (fun c_4 => ?_)
    · replace hm := it hm c_4
      exact hret _ _ g_o_neighbours _ _ dX4_unlink_44 hP hS hm.symm
    · replace hm := ie hm c_4
      refine lv_aload_n hx hb dX4_unlink_16 rfl (lv_at hl 0 rfl) ?_
      refine va_get (D := G) (ci := 6) (v := .ref o_neighbours) (C := RX4) (T := TX4) (N := 7) hx hb hts i_X4 hown hK.1 hP 0 rfl rfl 4 (by decide) w_0 (fun _ h9 => h9) rfl dX4_unlink_17 ?_
      refine lv_iload_n hx hb dX4_unlink_20 rfl (lv_at hl 1 rfl) ?_
      refine lv_dup2_11 hx hb dX4_unlink_21 rfl rfl ?_
      replace hm := gdo hm hz
      obtain ⟨gi_5, hm⟩ := hm
      refine va_iald hx hb hK.1 hP 1 0 (cA := cA 0) (n := 24) (f := g_o_neighbours) rfl rfl (ixi gi_5) dX4_unlink_22 ?_
      refine lv_iconst (v := (1 : Int32)) hx hb dX4_unlink_23 (by decide) ?_
      refine lv_iload_n hx hb dX4_unlink_24 rfl (lv_at hl 2 rfl) ?_
      refine lv_ishl hx hb dX4_unlink_25 ?_
      refine lv_iconst (v := (-1 : Int32)) hx hb dX4_unlink_26 (by decide) ?_
      refine lv_ixor hx hb dX4_unlink_27 ?_
      refine lv_iand hx hb dX4_unlink_28 ?_
      replace hm := gdo hm hz
      obtain ⟨gi_6, hm⟩ := hm
      refine va_iast hx hb hK.1 hP hD hS 1 0 (cA := cA 0) (n := 24) (f := g_o_neighbours) rfl rfl (ixi gi_6) dX4_unlink_29 (fun H locs hP' hD' hS' => ?_)
      replace hP : va_P G vwCl (k_X4_unlink cA o o_area o_firstDay o_lastDay o_neighbours o_parents o_root v_o_count (upd g_o_neighbours p1.toNatClampNeg ((g_o_neighbours p1.toNatClampNeg) &&& (((1 : Int32) <<< (p2 &&& 31)) ^^^ (-1 : Int32))))) H := hP'
      replace hD : va_D A (k_X4_unlink cA o o_area o_firstDay o_lastDay o_neighbours o_parents o_root v_o_count (upd g_o_neighbours p1.toNatClampNeg ((g_o_neighbours p1.toNatClampNeg) &&& (((1 : Int32) <<< (p2 &&& 31)) ^^^ (-1 : Int32))))) := hD'
      replace hS := hS'
      refine lv_aload_n hx hb dX4_unlink_30 rfl (lv_at hl 0 rfl) ?_
      refine va_get (D := G) (ci := 6) (v := .ref o_neighbours) (C := RX4) (T := TX4) (N := 7) hx hb hts i_X4 hown hK.1 hP 0 rfl rfl 4 (by decide) w_0 (fun _ h9 => h9) rfl dX4_unlink_31 ?_
      refine lv_iload_n hx hb dX4_unlink_34 rfl (lv_at hl 2 rfl) ?_
      refine lv_dup2_11 hx hb dX4_unlink_35 rfl rfl ?_
      replace hm := gdo hm hz
      obtain ⟨gi_7, hm⟩ := hm
      refine va_iald hx hb hK.1 hP 1 0 (cA := cA 0) (n := 24) (f := upd g_o_neighbours p1.toNatClampNeg ((g_o_neighbours p1.toNatClampNeg) &&& (((1 : Int32) <<< (p2 &&& 31)) ^^^ (-1 : Int32)))) rfl rfl (ixi gi_7) dX4_unlink_36 ?_
      refine lv_iconst (v := (1 : Int32)) hx hb dX4_unlink_37 (by decide) ?_
      refine lv_iload_n hx hb dX4_unlink_38 rfl (lv_at hl 1 rfl) ?_
      refine lv_ishl hx hb dX4_unlink_39 ?_
      refine lv_iconst (v := (-1 : Int32)) hx hb dX4_unlink_40 (by decide) ?_
      refine lv_ixor hx hb dX4_unlink_41 ?_
      refine lv_iand hx hb dX4_unlink_42 ?_
      replace hm := gdo hm hz
      obtain ⟨gi_8, hm⟩ := hm
      refine va_iast hx hb hK.1 hP hD hS 1 0 (cA := cA 0) (n := 24) (f := upd g_o_neighbours p1.toNatClampNeg ((g_o_neighbours p1.toNatClampNeg) &&& (((1 : Int32) <<< (p2 &&& 31)) ^^^ (-1 : Int32)))) rfl rfl (ixi gi_8) dX4_unlink_43 (fun H locs hP' hD' hS' => ?_)
      replace hP : va_P G vwCl (k_X4_unlink cA o o_area o_firstDay o_lastDay o_neighbours o_parents o_root v_o_count (upd (upd g_o_neighbours p1.toNatClampNeg ((g_o_neighbours p1.toNatClampNeg) &&& (((1 : Int32) <<< (p2 &&& 31)) ^^^ (-1 : Int32)))) p2.toNatClampNeg (((upd g_o_neighbours p1.toNatClampNeg ((g_o_neighbours p1.toNatClampNeg) &&& (((1 : Int32) <<< (p2 &&& 31)) ^^^ (-1 : Int32)))) p2.toNatClampNeg) &&& (((1 : Int32) <<< (p1 &&& 31)) ^^^ (-1 : Int32))))) H := hP'
      replace hD : va_D A (k_X4_unlink cA o o_area o_firstDay o_lastDay o_neighbours o_parents o_root v_o_count (upd (upd g_o_neighbours p1.toNatClampNeg ((g_o_neighbours p1.toNatClampNeg) &&& (((1 : Int32) <<< (p2 &&& 31)) ^^^ (-1 : Int32)))) p2.toNatClampNeg (((upd g_o_neighbours p1.toNatClampNeg ((g_o_neighbours p1.toNatClampNeg) &&& (((1 : Int32) <<< (p2 &&& 31)) ^^^ (-1 : Int32)))) p2.toNatClampNeg) &&& (((1 : Int32) <<< (p1 &&& 31)) ^^^ (-1 : Int32))))) := hD'
      replace hS := hS'
      exact hret _ _ (upd (upd g_o_neighbours p1.toNatClampNeg ((g_o_neighbours p1.toNatClampNeg) &&& (((1 : Int32) <<< (p2 &&& 31)) ^^^ (-1 : Int32)))) p2.toNatClampNeg (((upd g_o_neighbours p1.toNatClampNeg ((g_o_neighbours p1.toNatClampNeg) &&& (((1 : Int32) <<< (p2 &&& 31)) ^^^ (-1 : Int32)))) p2.toNatClampNeg) &&& (((1 : Int32) <<< (p1 &&& 31)) ^^^ (-1 : Int32)))) _ _ dX4_unlink_44 hP hS hm.symm
def m_X4_areaOf_L4 (v_o_count : Int32) (g_o_area : Nat → Int32) (p1 : Int32) : ((Int32 × Int32) → Option (Int32)) → (Int32 × Int32) → Option (Int32) := fun rec_3 v => match v with
  | (x_1, x_2) => (if v_o_count ≤ x_2 then some x_1 else Option.bind (m_X7_isIn p1 x_2) (fun r_5 => (if r_5 = 0 then rec_3 (x_1, x_2 + (1 : Int32)) else gd (ix x_2 24) (rec_3 (x_1 + (g_o_area x_2.toNatClampNeg), x_2 + (1 : Int32))))))
def m_X4_areaOf (p1 : Int32) (v_o_count : Int32) (g_o_area : Nat → Int32) : Option (Int32) := fuel (m_X4_areaOf_L4 v_o_count g_o_area p1) FU ((0 : Int32), (0 : Int32))
abbrev k_X4_areaOf (cA : Nat → ClassId) (o o_area o_firstDay o_lastDay o_neighbours o_parents o_root : Nat) (v_o_count : Int32) (g_o_area : Nat → Int32) : va_W := [(o, .inr (6, [.int v_o_count, .ref o_area, .ref o_firstDay, .ref o_lastDay, .ref o_neighbours, .ref o_parents, .ref o_root])), (o_area, .inl (cA 0, 24, .inl g_o_area))]
set_option maxHeartbeats 4000000 in
set_option maxRecDepth 100000 in
/-- X4_areaOf: as its model -/
theorem c_X4_areaOf (l : Launch) (G : va_G) (cA : Nat → ClassId) (o o_area o_firstDay o_lastDay o_neighbours o_parents o_root : Nat) (p1 : Int32) (v_o_count : Int32) (g_o_area : Nat → Int32) (R : Option (Int32)) (hR : m_X4_areaOf p1 v_o_count g_o_area = R) (hz : R ≠ none) : Met l yX4_areaOf wsX4_areaOf ({ frames := 1, cells := 0, slots := 0, locals := 21 } : Room) (va_Pc [.ref o, .int p1] (PR G cA (k_X4_areaOf cA o o_area o_firstDay o_lastDay o_neighbours o_parents o_root v_o_count g_o_area))) (vp_Si (fun r => R = some r)) 0 0 (fun _ => False) := by
  refine metR .int (by decide) rfl (Nat.le_of_ble_eq_true rfl) ?_
  intro p e s m av below meth c Q ls hx hb hml hts hown hP hK hl hret
  replace hl : lv_has ls 4 [(0, .ref o), (1, .int p1)] := hl
  have w_0 := hts (.fieldLink RX4 9 "ParcelRegistry$Parcels" "count" "I") (by decide +kernel)
  have w_1 := hts (.initialized RX7) (by decide +kernel)
  have w_2 := hts (.static yX7_isIn) (by decide +kernel)
  have w_3 := hts (.fieldLink RX4 15 "ParcelRegistry$Parcels" "area" "[I") (by decide +kernel)
  have i_X4 : ∀ w ∈ wsX40, w ∈ wsX4_areaOf := by decide +kernel
  have hm := hR
  unfold m_X4_areaOf at hm
  refine lv_iconst (v := (0 : Int32)) hx hb dX4_areaOf_0 (by decide) ?_
  refine lv_istore_n (lv' := [(2, .int (0 : Int32)), (0, .ref o), (1, .int p1)]) hx hb dX4_areaOf_1 rfl hl (by decide) rfl (fun ls hl => ?_)
  refine lv_iconst (v := (0 : Int32)) hx hb dX4_areaOf_2 (by decide) ?_
  refine lv_istore_n (lv' := [(3, .int (0 : Int32)), (2, .int (0 : Int32)), (0, .ref o), (1, .int p1)]) hx hb dX4_areaOf_3 rfl hl (by decide) rfl (fun ls hl => ?_)
  have L4_1 : ∀ (n : Nat), ∀ (x_1 : Int32) (x_2 : Int32), ∀ (ls : Array Slot), fuel (m_X4_areaOf_L4 v_o_count g_o_area p1) n (x_1, x_2) = R → lv_has ls 4 [(0, .ref o), (1, .int p1), (2, .int x_1), (3, .int x_2)] → W p l e ({ frames := 1, cells := 0, slots := 0, locals := 21 } : Room) s m av below meth c s.heap [] 0 0 Q (F0 m 4 ls []) := by
    intro n
    induction n with
    | zero =>
      intro x_1 x_2 ls hm hl
      exact (fu0 hm hz).elim
    | succ n ih4 =>
      intro x_1 x_2 ls hm hl
      replace hm := fus hm
      generalize fuel (m_X4_areaOf_L4 v_o_count g_o_area p1) n = rec_3 at hm ih4
      unfold m_X4_areaOf_L4 at hm
      refine lv_iload_n hx hb dX4_areaOf_4 rfl (lv_at hl 3 rfl) ?_
      refine lv_aload_n hx hb dX4_areaOf_5 rfl (lv_at hl 0 rfl) ?_
      refine va_get (D := G) (ci := 6) (v := .int v_o_count) (C := RX4) (T := TX4) (N := 7) hx hb hts i_X4 hown hK.1 hP 0 rfl rfl 0 (by decide) w_0 (fun _ h9 => h9) rfl dX4_areaOf_6 ?_
      refine lv_icmp_ge (tgt := 35) hx hb dX4_areaOf_9 (by decide) (fun c_4 => ?_) (fun c_4 => ?_)
      · replace hm := it hm c_4
        refine lv_iload_n hx hb dX4_areaOf_35 rfl (lv_at hl 2 rfl) ?_
        exact hret _ _ _ dX4_areaOf_36 rfl hm.symm
      · replace hm := ie hm c_4
        refine lv_iload_n hx hb dX4_areaOf_12 rfl (lv_at hl 1 rfl) ?_
        refine lv_iload_n hx hb dX4_areaOf_13 rfl (lv_at hl 3 rfl) ?_
        refine vp_callSi (va_Run.run (va_runSN (As := [.int p1, .int x_2]) (rest := []) ⟨hx, hb, hml, hown, hts⟩ (c_X7_isIn l G cA p1 x_2 _ rfl (bnz hm hz)) ⟨va_cnB (host := "ParcelRegistry") 2 hts gX4_areaOf_X7_isIn_n48 rfl rfl rfl (hK.2 (RX4, 48, yX7_isIn) (List.mem_of_getElem? (i := 9) rfl)) w_1 (by decide +kernel) ⟨Nat.le_of_ble_eq_true rfl, Nat.le_of_ble_eq_true rfl⟩, w_2, trivial⟩ (preRS (hP.sub [] rfl) hK) rfl rfl hl.1 rfl (lv_room (Nat.le_of_ble_eq_true rfl)) dX4_areaOf_14 ⟨Nat.zero_le _, Nat.zero_le _⟩)) (fun r_5 hw => ?_)
        replace hm := bst hm hw.1
        refine lv_if_eq (tgt := 29) hx hb dX4_areaOf_17 (by decide) (fun c_6 => ?_) (fun c_6 => ?_)
        · replace hm := it hm c_6
          refine lv_iinc (v := x_2 + (1 : Int32)) (lv' := [(3, .int (x_2 + (1 : Int32))), (0, .ref o), (1, .int p1), (2, .int x_1)]) hx hb dX4_areaOf_29 hl (k := 3) rfl rfl (by decide) rfl (fun ls hl => ?_)
          refine lv_goto (tgt := 4) hx hb dX4_areaOf_32 (by decide) ?_
          exact ih4 x_1 (x_2 + (1 : Int32)) _ hm (lv_sub hl [1, 2, 3, 0] rfl)
        · replace hm := ie hm c_6
          refine lv_iload_n hx hb dX4_areaOf_20 rfl (lv_at hl 2 rfl) ?_
          refine lv_aload_n hx hb dX4_areaOf_21 rfl (lv_at hl 0 rfl) ?_
          refine va_get (D := G) (ci := 6) (v := .ref o_area) (C := RX4) (T := TX4) (N := 7) hx hb hts i_X4 hown hK.1 hP 0 rfl rfl 1 (by decide) w_3 (fun _ h9 => h9) rfl dX4_areaOf_22 ?_
          refine lv_iload_n hx hb dX4_areaOf_25 rfl (lv_at hl 3 rfl) ?_
          replace hm := gdo hm hz
          obtain ⟨gi_7, hm⟩ := hm
          refine va_iald hx hb hK.1 hP 1 0 (cA := cA 0) (n := 24) (f := g_o_area) rfl rfl (ixi gi_7) dX4_areaOf_26 ?_
          refine lv_iadd hx hb dX4_areaOf_27 ?_
          refine lv_istore_n (lv' := [(2, .int (x_1 + (g_o_area x_2.toNatClampNeg))), (0, .ref o), (1, .int p1), (3, .int x_2)]) hx hb dX4_areaOf_28 rfl hl (by decide) rfl (fun ls hl => ?_)
          refine lv_iinc (v := x_2 + (1 : Int32)) (lv' := [(3, .int (x_2 + (1 : Int32))), (2, .int (x_1 + (g_o_area x_2.toNatClampNeg))), (0, .ref o), (1, .int p1)]) hx hb dX4_areaOf_29 hl (k := 3) rfl rfl (by decide) rfl (fun ls hl => ?_)
          refine lv_goto (tgt := 4) hx hb dX4_areaOf_32 (by decide) ?_
          exact ih4 (x_1 + (g_o_area x_2.toNatClampNeg)) (x_2 + (1 : Int32)) _ hm (lv_sub hl [2, 3, 1, 0] rfl)
  exact L4_1 _ (0 : Int32) (0 : Int32) _ hm (lv_sub hl [2, 3, 1, 0] rfl)
def m_X4_end_J39 (g_o_lastDay : Nat → Int32) (p1 : Int32) (p2 : Int32) : ((Nat → Int32)) → Option ((Nat → Int32) × (Nat → Int32)) := fun g_3 => gd (ix p1 24) (gd (ix p1 24) (some (upd g_o_lastDay p1.toNatClampNeg p2, upd g_3 p1.toNatClampNeg (0 : Int32))))
def m_X4_end_L11 (v_o_count : Int32) (g_o_lastDay : Nat → Int32) (p1 : Int32) (p2 : Int32) : ((Int32 × (Nat → Int32)) → Option ((Nat → Int32) × (Nat → Int32))) → (Int32 × (Nat → Int32)) → Option ((Nat → Int32) × (Nat → Int32)) := fun rec_8 v => match v with
  | (x_6, g_7) => (if v_o_count ≤ x_6 then m_X4_end_J39 g_o_lastDay p1 p2 g_7 else gd (ix x_6 24) (gd (ix x_6 24) (rec_8 (x_6 + (1 : Int32), upd g_7 x_6.toNatClampNeg ((g_7 x_6.toNatClampNeg) &&& (((1 : Int32) <<< (p1 &&& 31)) ^^^ (-1 : Int32)))))))
def m_X4_end (p1 : Int32) (p2 : Int32) (v_o_count : Int32) (g_o_lastDay : Nat → Int32) (g_o_neighbours : Nat → Int32) : Option ((Nat → Int32) × (Nat → Int32)) := Option.bind (m_X4_has p1 v_o_count) (fun r_1 => (if r_1 = 0 then some (g_o_lastDay, g_o_neighbours) else fuel (m_X4_end_L11 v_o_count g_o_lastDay p1 p2) FU ((0 : Int32), g_o_neighbours)))
abbrev k_X4_end (cA : Nat → ClassId) (o o_area o_firstDay o_lastDay o_neighbours o_parents o_root : Nat) (v_o_count : Int32) (g_o_lastDay : Nat → Int32) (g_o_neighbours : Nat → Int32) : va_W := [(o, .inr (6, [.int v_o_count, .ref o_area, .ref o_firstDay, .ref o_lastDay, .ref o_neighbours, .ref o_parents, .ref o_root])), (o_lastDay, .inl (cA 0, 24, .inl g_o_lastDay)), (o_neighbours, .inl (cA 0, 24, .inl g_o_neighbours))]
set_option maxHeartbeats 4000000 in
set_option maxRecDepth 100000 in
/-- X4_end: as its model -/
theorem c_X4_end (l : Launch) (G : va_G) (cA : Nat → ClassId) (o o_area o_firstDay o_lastDay o_neighbours o_parents o_root : Nat) (sz : Nat) (p1 : Int32) (p2 : Int32) (v_o_count : Int32) (g_o_lastDay : Nat → Int32) (g_o_neighbours : Nat → Int32) (R : Option ((Nat → Int32) × (Nat → Int32))) (hR : m_X4_end p1 p2 v_o_count g_o_lastDay g_o_neighbours = R) (hz : R ≠ none) : Met l yX4_end wsX4_end ({ frames := 1, cells := 0, slots := 0, locals := 21 } : Room) (va_Pc [.ref o, .int p1, .int p2] (PM G cA (k_X4_end cA o o_area o_firstDay o_lastDay o_neighbours o_parents o_root v_o_count g_o_lastDay g_o_neighbours) sz)) (va_Qv (fun (u : (Nat → Int32) × (Nat → Int32)) => R = some u) (BM G (fun (u : (Nat → Int32) × (Nat → Int32)) => (k_X4_end cA o o_area o_firstDay o_lastDay o_neighbours o_parents o_root v_o_count u.1 u.2))) (va_A (k_X4_end cA o o_area o_firstDay o_lastDay o_neighbours o_parents o_root v_o_count g_o_lastDay g_o_neighbours) sz)) 0 0 (va_A (k_X4_end cA o o_area o_firstDay o_lastDay o_neighbours o_parents o_root v_o_count g_o_lastDay g_o_neighbours) sz) := by
  refine metV (by decide) rfl (Nat.le_of_ble_eq_true rfl) ?_
  intro p e s m av below meth c Q ls A H hx hb hml hts hown hP hK hD hA hS hl hret
  replace hl : lv_has ls 4 [(0, .ref o), (1, .int p1), (2, .int p2)] := hl
  have w_0 := hts (.fieldLink RX4 25 "ParcelRegistry$Parcels" "neighbours" "[I") (by decide +kernel)
  have w_1 := hts (.fieldLink RX4 22 "ParcelRegistry$Parcels" "lastDay" "[I") (by decide +kernel)
  have w_2 := hts (.fieldLink RX4 9 "ParcelRegistry$Parcels" "count" "I") (by decide +kernel)
  have i_X4 : ∀ w ∈ wsX40, w ∈ wsX4_end := by decide +kernel
  have hm := hR
  unfold m_X4_end at hm
  refine lv_aload_n hx hb dX4_end_0 rfl (lv_at hl 0 rfl) ?_
  refine lv_iload_n hx hb dX4_end_1 rfl (lv_at hl 1 rfl) ?_
  refine vp_callSi (va_Run.run (va_runV (As := [.int p1]) (rest := []) ⟨hx, hb, hml, hown, hts⟩ (c_X4_has l G cA o o_area o_firstDay o_lastDay o_neighbours o_parents o_root p1 v_o_count _ rfl (bnz hm hz)) (cwV 1 hts gX4_end_X4_has rfl rfl rfl (by decide +kernel) ⟨Nat.le_of_ble_eq_true rfl, Nat.le_of_ble_eq_true rfl⟩) (preRV (q := (RX4, TX4, 7)) (hP.sub [0] rfl) hK 0 rfl rfl) rfl rfl hl.1 rfl (lv_room (Nat.le_of_ble_eq_true rfl)) dX4_end_2 ⟨Nat.zero_le _, Nat.zero_le _⟩)) (fun r_1 hw => ?_)
  replace hm := bst hm hw.1
  refine lv_if_ne (tgt := 9) hx hb dX4_end_5 (by decide) (fun c_2 => ?_) (fun c_2 => ?_)
  · replace hm := ie hm c_2
    refine lv_iconst (v := (0 : Int32)) hx hb dX4_end_9 (by decide) ?_
    refine lv_istore_n (lv' := [(3, .int (0 : Int32)), (0, .ref o), (1, .int p1), (2, .int p2)]) hx hb dX4_end_10 rfl hl (by decide) rfl (fun ls hl => ?_)
    have J39_1 : ∀ (g_3 : Nat → Int32), ∀ (H : Heap) (locs : List Loc) (ls : Array Slot), m_X4_end_J39 g_o_lastDay p1 p2 g_3 = R → va_P G vwCl (k_X4_end cA o o_area o_firstDay o_lastDay o_neighbours o_parents o_root v_o_count g_o_lastDay g_3) H → va_D A (k_X4_end cA o o_area o_firstDay o_lastDay o_neighbours o_parents o_root v_o_count g_o_lastDay g_3) → va_S A s.heap H locs → lv_has ls 4 [(0, .ref o), (1, .int p1), (2, .int p2)] → W p l e ({ frames := 1, cells := 0, slots := 0, locals := 21 } : Room) s m av below meth c H locs 0 0 Q (F0 m 39 ls []) := by
      intro g_3 H locs ls hm hP hD hS hl
      unfold m_X4_end_J39 at hm
      refine lv_aload_n hx hb dX4_end_39 rfl (lv_at hl 0 rfl) ?_
      refine va_get (D := G) (ci := 6) (v := .ref o_neighbours) (C := RX4) (T := TX4) (N := 7) hx hb hts i_X4 hown hK.1 hP 0 rfl rfl 4 (by decide) w_0 (fun _ h9 => h9) rfl dX4_end_40 ?_
      refine lv_iload_n hx hb dX4_end_43 rfl (lv_at hl 1 rfl) ?_
      refine lv_iconst (v := (0 : Int32)) hx hb dX4_end_44 (by decide) ?_
      replace hm := gdo hm hz
      obtain ⟨gi_4, hm⟩ := hm
      refine va_iast hx hb hK.1 hP hD hS 2 0 (cA := cA 0) (n := 24) (f := g_3) rfl rfl (ixi gi_4) dX4_end_45 (fun H locs hP' hD' hS' => ?_)
      replace hP : va_P G vwCl (k_X4_end cA o o_area o_firstDay o_lastDay o_neighbours o_parents o_root v_o_count g_o_lastDay (upd g_3 p1.toNatClampNeg (0 : Int32))) H := hP'
      replace hD : va_D A (k_X4_end cA o o_area o_firstDay o_lastDay o_neighbours o_parents o_root v_o_count g_o_lastDay (upd g_3 p1.toNatClampNeg (0 : Int32))) := hD'
      replace hS := hS'
      refine lv_aload_n hx hb dX4_end_46 rfl (lv_at hl 0 rfl) ?_
      refine va_get (D := G) (ci := 6) (v := .ref o_lastDay) (C := RX4) (T := TX4) (N := 7) hx hb hts i_X4 hown hK.1 hP 0 rfl rfl 3 (by decide) w_1 (fun _ h9 => h9) rfl dX4_end_47 ?_
      refine lv_iload_n hx hb dX4_end_50 rfl (lv_at hl 1 rfl) ?_
      refine lv_iload_n hx hb dX4_end_51 rfl (lv_at hl 2 rfl) ?_
      replace hm := gdo hm hz
      obtain ⟨gi_5, hm⟩ := hm
      refine va_iast hx hb hK.1 hP hD hS 1 0 (cA := cA 0) (n := 24) (f := g_o_lastDay) rfl rfl (ixi gi_5) dX4_end_52 (fun H locs hP' hD' hS' => ?_)
      replace hP : va_P G vwCl (k_X4_end cA o o_area o_firstDay o_lastDay o_neighbours o_parents o_root v_o_count (upd g_o_lastDay p1.toNatClampNeg p2) (upd g_3 p1.toNatClampNeg (0 : Int32))) H := hP'
      replace hD : va_D A (k_X4_end cA o o_area o_firstDay o_lastDay o_neighbours o_parents o_root v_o_count (upd g_o_lastDay p1.toNatClampNeg p2) (upd g_3 p1.toNatClampNeg (0 : Int32))) := hD'
      replace hS := hS'
      exact hret _ _ (upd g_o_lastDay p1.toNatClampNeg p2, upd g_3 p1.toNatClampNeg (0 : Int32)) _ _ dX4_end_53 hP hS hm.symm
    have L11_2 : ∀ (n : Nat), ∀ (x_6 : Int32) (g_7 : Nat → Int32), ∀ (H : Heap) (locs : List Loc) (ls : Array Slot), fuel (m_X4_end_L11 v_o_count g_o_lastDay p1 p2) n (x_6, g_7) = R → va_P G vwCl (k_X4_end cA o o_area o_firstDay o_lastDay o_neighbours o_parents o_root v_o_count g_o_lastDay g_7) H → va_D A (k_X4_end cA o o_area o_firstDay o_lastDay o_neighbours o_parents o_root v_o_count g_o_lastDay g_7) → va_S A s.heap H locs → lv_has ls 4 [(0, .ref o), (1, .int p1), (2, .int p2), (3, .int x_6)] → W p l e ({ frames := 1, cells := 0, slots := 0, locals := 21 } : Room) s m av below meth c H locs 0 0 Q (F0 m 11 ls []) := by
      intro n
      induction n with
      | zero =>
        intro x_6 g_7 H locs ls hm hP hD hS hl
        exact (fu0 hm hz).elim
      | succ n ih11 =>
        intro x_6 g_7 H locs ls hm hP hD hS hl
        replace hm := fus hm
        generalize fuel (m_X4_end_L11 v_o_count g_o_lastDay p1 p2) n = rec_8 at hm ih11
        unfold m_X4_end_L11 at hm
        refine lv_iload_n hx hb dX4_end_11 rfl (lv_at hl 3 rfl) ?_
        refine lv_aload_n hx hb dX4_end_12 rfl (lv_at hl 0 rfl) ?_
        refine va_get (D := G) (ci := 6) (v := .int v_o_count) (C := RX4) (T := TX4) (N := 7) hx hb hts i_X4 hown hK.1 hP 0 rfl rfl 0 (by decide) w_2 (fun _ h9 => h9) rfl dX4_end_13 ?_
        refine lv_icmp_ge (tgt := 39) hx hb dX4_end_16 (by decide) (fun c_9 => ?_) (fun c_9 => ?_)
        · replace hm := it hm c_9
          exact J39_1 g_7 _ _ _ hm hP hD hS (lv_sub hl [0, 1, 2] rfl)
        · replace hm := ie hm c_9
          refine lv_aload_n hx hb dX4_end_19 rfl (lv_at hl 0 rfl) ?_
          refine va_get (D := G) (ci := 6) (v := .ref o_neighbours) (C := RX4) (T := TX4) (N := 7) hx hb hts i_X4 hown hK.1 hP 0 rfl rfl 4 (by decide) w_0 (fun _ h9 => h9) rfl dX4_end_20 ?_
          refine lv_iload_n hx hb dX4_end_23 rfl (lv_at hl 3 rfl) ?_
          refine lv_dup2_11 hx hb dX4_end_24 rfl rfl ?_
          replace hm := gdo hm hz
          obtain ⟨gi_10, hm⟩ := hm
          refine va_iald hx hb hK.1 hP 2 0 (cA := cA 0) (n := 24) (f := g_7) rfl rfl (ixi gi_10) dX4_end_25 ?_
          refine lv_iconst (v := (1 : Int32)) hx hb dX4_end_26 (by decide) ?_
          refine lv_iload_n hx hb dX4_end_27 rfl (lv_at hl 1 rfl) ?_
          refine lv_ishl hx hb dX4_end_28 ?_
          refine lv_iconst (v := (-1 : Int32)) hx hb dX4_end_29 (by decide) ?_
          refine lv_ixor hx hb dX4_end_30 ?_
          refine lv_iand hx hb dX4_end_31 ?_
          replace hm := gdo hm hz
          obtain ⟨gi_11, hm⟩ := hm
          refine va_iast hx hb hK.1 hP hD hS 2 0 (cA := cA 0) (n := 24) (f := g_7) rfl rfl (ixi gi_11) dX4_end_32 (fun H locs hP' hD' hS' => ?_)
          replace hP : va_P G vwCl (k_X4_end cA o o_area o_firstDay o_lastDay o_neighbours o_parents o_root v_o_count g_o_lastDay (upd g_7 x_6.toNatClampNeg ((g_7 x_6.toNatClampNeg) &&& (((1 : Int32) <<< (p1 &&& 31)) ^^^ (-1 : Int32))))) H := hP'
          replace hD : va_D A (k_X4_end cA o o_area o_firstDay o_lastDay o_neighbours o_parents o_root v_o_count g_o_lastDay (upd g_7 x_6.toNatClampNeg ((g_7 x_6.toNatClampNeg) &&& (((1 : Int32) <<< (p1 &&& 31)) ^^^ (-1 : Int32))))) := hD'
          replace hS := hS'
          refine lv_iinc (v := x_6 + (1 : Int32)) (lv' := [(3, .int (x_6 + (1 : Int32))), (0, .ref o), (1, .int p1), (2, .int p2)]) hx hb dX4_end_33 hl (k := 3) rfl rfl (by decide) rfl (fun ls hl => ?_)
          refine lv_goto (tgt := 11) hx hb dX4_end_36 (by decide) ?_
          exact ih11 (x_6 + (1 : Int32)) (upd g_7 x_6.toNatClampNeg ((g_7 x_6.toNatClampNeg) &&& (((1 : Int32) <<< (p1 &&& 31)) ^^^ (-1 : Int32)))) _ _ _ hm hP hD hS (lv_sub hl [1, 2, 3, 0] rfl)
    exact L11_2 _ (0 : Int32) g_o_neighbours _ _ _ hm hP hD hS (lv_sub hl [1, 2, 3, 0] rfl)
  · replace hm := it hm c_2
    exact hret _ _ (g_o_lastDay, g_o_neighbours) _ _ dX4_end_8 hP hS hm.symm
def m_X4_linkAll_L2 (v_o_count : Int32) (p1 : Int32) (p2 : Int32) : ((Int32 × (Nat → Int32)) → Option ((Nat → Int32))) → (Int32 × (Nat → Int32)) → Option ((Nat → Int32)) := fun rec_3 v => match v with
  | (x_1, g_2) => (if v_o_count ≤ x_1 then some g_2 else Option.bind (m_X7_isIn p2 x_1) (fun r_5 => (if r_5 = 0 then rec_3 (x_1 + (1 : Int32), g_2) else Option.bind (m_X4_link p1 x_1 v_o_count g_2) (fun g_7 => rec_3 (x_1 + (1 : Int32), g_7)))))
def m_X4_linkAll (p1 : Int32) (p2 : Int32) (v_o_count : Int32) (g_o_neighbours : Nat → Int32) : Option ((Nat → Int32)) := fuel (m_X4_linkAll_L2 v_o_count p1 p2) FU ((0 : Int32), g_o_neighbours)
abbrev k_X4_linkAll (cA : Nat → ClassId) (o o_area o_firstDay o_lastDay o_neighbours o_parents o_root : Nat) (v_o_count : Int32) (g_o_neighbours : Nat → Int32) : va_W := [(o, .inr (6, [.int v_o_count, .ref o_area, .ref o_firstDay, .ref o_lastDay, .ref o_neighbours, .ref o_parents, .ref o_root])), (o_neighbours, .inl (cA 0, 24, .inl g_o_neighbours))]
set_option maxHeartbeats 4000000 in
set_option maxRecDepth 100000 in
/-- X4_linkAll: as its model -/
theorem c_X4_linkAll (l : Launch) (G : va_G) (cA : Nat → ClassId) (o o_area o_firstDay o_lastDay o_neighbours o_parents o_root : Nat) (sz : Nat) (p1 : Int32) (p2 : Int32) (v_o_count : Int32) (g_o_neighbours : Nat → Int32) (R : Option ((Nat → Int32))) (hR : m_X4_linkAll p1 p2 v_o_count g_o_neighbours = R) (hz : R ≠ none) : Met l yX4_linkAll wsX4_linkAll ({ frames := 2, cells := 0, slots := 0, locals := 43 } : Room) (va_Pc [.ref o, .int p1, .int p2] (PM G cA (k_X4_linkAll cA o o_area o_firstDay o_lastDay o_neighbours o_parents o_root v_o_count g_o_neighbours) sz)) (va_Qv (fun (u : (Nat → Int32)) => R = some u) (BM G (fun (u : (Nat → Int32)) => (k_X4_linkAll cA o o_area o_firstDay o_lastDay o_neighbours o_parents o_root v_o_count u))) (va_A (k_X4_linkAll cA o o_area o_firstDay o_lastDay o_neighbours o_parents o_root v_o_count g_o_neighbours) sz)) 0 0 (va_A (k_X4_linkAll cA o o_area o_firstDay o_lastDay o_neighbours o_parents o_root v_o_count g_o_neighbours) sz) := by
  refine metV (by decide) rfl (Nat.le_of_ble_eq_true rfl) ?_
  intro p e s m av below meth c Q ls A H hx hb hml hts hown hP hK hD hA hS hl hret
  replace hl : lv_has ls 4 [(0, .ref o), (1, .int p1), (2, .int p2)] := hl
  have w_0 := hts (.fieldLink RX4 9 "ParcelRegistry$Parcels" "count" "I") (by decide +kernel)
  have w_1 := hts (.initialized RX7) (by decide +kernel)
  have w_2 := hts (.static yX7_isIn) (by decide +kernel)
  have i_X4 : ∀ w ∈ wsX40, w ∈ wsX4_linkAll := by decide +kernel
  have hm := hR
  unfold m_X4_linkAll at hm
  refine lv_iconst (v := (0 : Int32)) hx hb dX4_linkAll_0 (by decide) ?_
  refine lv_istore_n (lv' := [(3, .int (0 : Int32)), (0, .ref o), (1, .int p1), (2, .int p2)]) hx hb dX4_linkAll_1 rfl hl (by decide) rfl (fun ls hl => ?_)
  have L2_1 : ∀ (n : Nat), ∀ (x_1 : Int32) (g_2 : Nat → Int32), ∀ (H : Heap) (locs : List Loc) (ls : Array Slot), fuel (m_X4_linkAll_L2 v_o_count p1 p2) n (x_1, g_2) = R → va_P G vwCl (k_X4_linkAll cA o o_area o_firstDay o_lastDay o_neighbours o_parents o_root v_o_count g_2) H → va_D A (k_X4_linkAll cA o o_area o_firstDay o_lastDay o_neighbours o_parents o_root v_o_count g_2) → va_S A s.heap H locs → lv_has ls 4 [(0, .ref o), (1, .int p1), (2, .int p2), (3, .int x_1)] → W p l e ({ frames := 2, cells := 0, slots := 0, locals := 43 } : Room) s m av below meth c H locs 0 0 Q (F0 m 2 ls []) := by
    intro n
    induction n with
    | zero =>
      intro x_1 g_2 H locs ls hm hP hD hS hl
      exact (fu0 hm hz).elim
    | succ n ih2 =>
      intro x_1 g_2 H locs ls hm hP hD hS hl
      replace hm := fus hm
      generalize fuel (m_X4_linkAll_L2 v_o_count p1 p2) n = rec_3 at hm ih2
      unfold m_X4_linkAll_L2 at hm
      refine lv_iload_n hx hb dX4_linkAll_2 rfl (lv_at hl 3 rfl) ?_
      refine lv_aload_n hx hb dX4_linkAll_3 rfl (lv_at hl 0 rfl) ?_
      refine va_get (D := G) (ci := 6) (v := .int v_o_count) (C := RX4) (T := TX4) (N := 7) hx hb hts i_X4 hown hK.1 hP 0 rfl rfl 0 (by decide) w_0 (fun _ h9 => h9) rfl dX4_linkAll_4 ?_
      refine lv_icmp_ge (tgt := 30) hx hb dX4_linkAll_7 (by decide) (fun c_4 => ?_) (fun c_4 => ?_)
      · replace hm := it hm c_4
        exact hret _ _ g_2 _ _ dX4_linkAll_30 hP hS hm.symm
      · replace hm := ie hm c_4
        refine lv_iload_n hx hb dX4_linkAll_10 rfl (lv_at hl 2 rfl) ?_
        refine lv_iload_n hx hb dX4_linkAll_11 rfl (lv_at hl 3 rfl) ?_
        refine vp_callSi (va_Run.run (va_runSN (As := [.int p2, .int x_1]) (rest := []) ⟨hx, hb, hml, hown, hts⟩ (c_X7_isIn l G cA p2 x_1 _ rfl (bnz hm hz)) ⟨va_cnB (host := "ParcelRegistry") 2 hts gX4_linkAll_X7_isIn_n48 rfl rfl rfl (hK.2 (RX4, 48, yX7_isIn) (List.mem_of_getElem? (i := 9) rfl)) w_1 (by decide +kernel) ⟨Nat.le_of_ble_eq_true rfl, Nat.le_of_ble_eq_true rfl⟩, w_2, trivial⟩ (preRS (hP.sub [] rfl) hK) rfl rfl hl.1 rfl (lv_room (Nat.le_of_ble_eq_true rfl)) dX4_linkAll_12 ⟨Nat.zero_le _, Nat.zero_le _⟩)) (fun r_5 hw => ?_)
        replace hm := bst hm hw.1
        refine lv_if_eq (tgt := 24) hx hb dX4_linkAll_15 (by decide) (fun c_6 => ?_) (fun c_6 => ?_)
        · replace hm := it hm c_6
          refine lv_iinc (v := x_1 + (1 : Int32)) (lv' := [(3, .int (x_1 + (1 : Int32))), (0, .ref o), (1, .int p1), (2, .int p2)]) hx hb dX4_linkAll_24 hl (k := 3) rfl rfl (by decide) rfl (fun ls hl => ?_)
          refine lv_goto (tgt := 2) hx hb dX4_linkAll_27 (by decide) ?_
          exact ih2 (x_1 + (1 : Int32)) g_2 _ _ _ hm hP hD hS (lv_sub hl [1, 2, 3, 0] rfl)
        · replace hm := ie hm c_6
          refine lv_aload_n hx hb dX4_linkAll_18 rfl (lv_at hl 0 rfl) ?_
          refine lv_iload_n hx hb dX4_linkAll_19 rfl (lv_at hl 1 rfl) ?_
          refine lv_iload_n hx hb dX4_linkAll_20 rfl (lv_at hl 3 rfl) ?_
          have hPc := hP.sub (ws' := (k_X4_link cA o o_area o_firstDay o_lastDay o_neighbours o_parents o_root v_o_count g_2)) [0, 1] rfl
          have hDc := hD.sub (ws' := (k_X4_link cA o o_area o_firstDay o_lastDay o_neighbours o_parents o_root v_o_count g_2)) [0, 1] (by decide) rfl
          have hFc := va_free (wc := (k_X4_link cA o o_area o_firstDay o_lastDay o_neighbours o_parents o_root v_o_count g_2)) hD hS hA [0, 1] rfl
          refine va_callv (va_runV (As := [.int p1, .int x_1]) (rest := []) ⟨hx, hb, hml, hown, hts⟩ (c_X4_link l G cA o o_area o_firstDay o_lastDay o_neighbours o_parents o_root H.size p1 x_1 v_o_count g_2 _ rfl (bnz hm hz)) (cwV 2 hts gX4_linkAll_X4_link rfl rfl rfl (by decide +kernel) ⟨Nat.le_of_ble_eq_true rfl, Nat.le_of_ble_eq_true rfl⟩) (preMV (q := (RX4, TX4, 7)) hPc hDc hK 0 rfl rfl) rfl rfl hl.1 rfl (lv_room (Nat.le_of_ble_eq_true rfl)) dX4_linkAll_21 ⟨Nat.zero_le _, Nat.zero_le _⟩) hS (fun q _ h => hFc q h) hFc (fun u_7 t H locs ht hvm hw hB hz1 hk1 hS' => ?_)
          obtain ⟨g_7, rfl⟩ : ∃ z, z = u_7 := ⟨_, rfl⟩
          replace hm := bst hm hw
          replace hB : va_P G vwCl _ _ := hB
          rw [ht] at hB
          have hj := va_back (ws' := (k_X4_linkAll cA o o_area o_firstDay o_lastDay o_neighbours o_parents o_root v_o_count g_7)) hP hD [0, 1] rfl hk1 hB [(true, 0), (true, 1)] rfl (by decide) rfl
          replace hP := hj.1
          replace hD := hj.2
          replace hS := hS'
          clear hj hPc hDc hFc hB
          refine lv_iinc (v := x_1 + (1 : Int32)) (lv' := [(3, .int (x_1 + (1 : Int32))), (0, .ref o), (1, .int p1), (2, .int p2)]) hx hb dX4_linkAll_24 hl (k := 3) rfl rfl (by decide) rfl (fun ls hl => ?_)
          refine lv_goto (tgt := 2) hx hb dX4_linkAll_27 (by decide) ?_
          exact ih2 (x_1 + (1 : Int32)) g_7 _ _ _ hm hP hD hS (lv_sub hl [1, 2, 3, 0] rfl)
  exact L2_1 _ (0 : Int32) g_o_neighbours _ _ _ hm hP hD hS (lv_sub hl [1, 2, 3, 0] rfl)
def m_X4_rowOf (p1 : Int32) (p2 : Int32) (v_o_count : Int32) (g_o_area : Nat → Int32) (g_o_firstDay : Nat → Int32) (g_o_lastDay : Nat → Int32) (g_o_neighbours : Nat → Int32) (g_o_parents : Nat → Int32) (g_o_root : Nat → Int32) : Option (Int32) := Option.bind (m_X4_has p1 v_o_count) (fun r_1 => (if r_1 = 0 then some (-1 : Int32) else (if p2 = 0 then gd (ix p1 24) (some (g_o_area p1.toNatClampNeg)) else if p2 = 1 then gd (ix p1 24) (some (g_o_firstDay p1.toNatClampNeg)) else if p2 = 2 then gd (ix p1 24) (some (g_o_lastDay p1.toNatClampNeg)) else if p2 = 3 then gd (ix p1 24) (some (g_o_neighbours p1.toNatClampNeg)) else if p2 = 4 then gd (ix p1 24) (some (g_o_parents p1.toNatClampNeg)) else gd (ix p1 24) (some (g_o_root p1.toNatClampNeg)))))
abbrev k_X4_rowOf (cA : Nat → ClassId) (o o_area o_firstDay o_lastDay o_neighbours o_parents o_root : Nat) (v_o_count : Int32) (g_o_area : Nat → Int32) (g_o_firstDay : Nat → Int32) (g_o_lastDay : Nat → Int32) (g_o_neighbours : Nat → Int32) (g_o_parents : Nat → Int32) (g_o_root : Nat → Int32) : va_W := [(o, .inr (6, [.int v_o_count, .ref o_area, .ref o_firstDay, .ref o_lastDay, .ref o_neighbours, .ref o_parents, .ref o_root])), (o_area, .inl (cA 0, 24, .inl g_o_area)), (o_firstDay, .inl (cA 0, 24, .inl g_o_firstDay)), (o_lastDay, .inl (cA 0, 24, .inl g_o_lastDay)), (o_neighbours, .inl (cA 0, 24, .inl g_o_neighbours)), (o_parents, .inl (cA 0, 24, .inl g_o_parents)), (o_root, .inl (cA 0, 24, .inl g_o_root))]
set_option maxHeartbeats 4000000 in
set_option maxRecDepth 100000 in
/-- X4_rowOf: as its model -/
theorem c_X4_rowOf (l : Launch) (G : va_G) (cA : Nat → ClassId) (o o_area o_firstDay o_lastDay o_neighbours o_parents o_root : Nat) (p1 : Int32) (p2 : Int32) (v_o_count : Int32) (g_o_area : Nat → Int32) (g_o_firstDay : Nat → Int32) (g_o_lastDay : Nat → Int32) (g_o_neighbours : Nat → Int32) (g_o_parents : Nat → Int32) (g_o_root : Nat → Int32) (R : Option (Int32)) (hR : m_X4_rowOf p1 p2 v_o_count g_o_area g_o_firstDay g_o_lastDay g_o_neighbours g_o_parents g_o_root = R) (hz : R ≠ none) : Met l yX4_rowOf wsX4_rowOf ({ frames := 1, cells := 0, slots := 0, locals := 21 } : Room) (va_Pc [.ref o, .int p1, .int p2] (PR G cA (k_X4_rowOf cA o o_area o_firstDay o_lastDay o_neighbours o_parents o_root v_o_count g_o_area g_o_firstDay g_o_lastDay g_o_neighbours g_o_parents g_o_root))) (vp_Si (fun r => R = some r)) 0 0 (fun _ => False) := by
  refine metR .int (by decide) rfl (Nat.le_of_ble_eq_true rfl) ?_
  intro p e s m av below meth c Q ls hx hb hml hts hown hP hK hl hret
  replace hl : lv_has ls 3 [(0, .ref o), (1, .int p1), (2, .int p2)] := hl
  have w_0 := hts (.fieldLink RX4 15 "ParcelRegistry$Parcels" "area" "[I") (by decide +kernel)
  have w_1 := hts (.fieldLink RX4 19 "ParcelRegistry$Parcels" "firstDay" "[I") (by decide +kernel)
  have w_2 := hts (.fieldLink RX4 22 "ParcelRegistry$Parcels" "lastDay" "[I") (by decide +kernel)
  have w_3 := hts (.fieldLink RX4 25 "ParcelRegistry$Parcels" "neighbours" "[I") (by decide +kernel)
  have w_4 := hts (.fieldLink RX4 28 "ParcelRegistry$Parcels" "parents" "[I") (by decide +kernel)
  have w_5 := hts (.fieldLink RX4 31 "ParcelRegistry$Parcels" "root" "[I") (by decide +kernel)
  have i_X4 : ∀ w ∈ wsX40, w ∈ wsX4_rowOf := by decide +kernel
  have hm := hR
  unfold m_X4_rowOf at hm
  refine lv_aload_n hx hb dX4_rowOf_0 rfl (lv_at hl 0 rfl) ?_
  refine lv_iload_n hx hb dX4_rowOf_1 rfl (lv_at hl 1 rfl) ?_
  refine vp_callSi (va_Run.run (va_runV (As := [.int p1]) (rest := []) ⟨hx, hb, hml, hown, hts⟩ (c_X4_has l G cA o o_area o_firstDay o_lastDay o_neighbours o_parents o_root p1 v_o_count _ rfl (bnz hm hz)) (cwV 1 hts gX4_rowOf_X4_has rfl rfl rfl (by decide +kernel) ⟨Nat.le_of_ble_eq_true rfl, Nat.le_of_ble_eq_true rfl⟩) (preRV (q := (RX4, TX4, 7)) (hP.sub [0] rfl) hK 0 rfl rfl) rfl rfl hl.1 rfl (lv_room (Nat.le_of_ble_eq_true rfl)) dX4_rowOf_2 ⟨Nat.zero_le _, Nat.zero_le _⟩)) (fun r_1 hw => ?_)
  replace hm := bst hm hw.1
  refine lv_if_ne (tgt := 10) hx hb dX4_rowOf_5 (by decide) (fun c_2 => ?_) (fun c_2 => ?_)
  · replace hm := ie hm c_2
    refine lv_iload_n hx hb dX4_rowOf_10 rfl (lv_at hl 2 rfl) ?_
    by_cases c_3 : p2 = 0
    · replace hm := it hm c_3
      refine lv_tableIn (off := 33) (tgt := 44) hx hb dX4_rowOf_11 (by rw [c_3]; decide) (by rw [c_3]; decide) (by rw [c_3]; rfl) (by decide) ?_
      refine lv_aload_n hx hb dX4_rowOf_44 rfl (lv_at hl 0 rfl) ?_
      refine va_get (D := G) (ci := 6) (v := .ref o_area) (C := RX4) (T := TX4) (N := 7) hx hb hts i_X4 hown hK.1 hP 0 rfl rfl 1 (by decide) w_0 (fun _ h9 => h9) rfl dX4_rowOf_45 ?_
      refine lv_iload_n hx hb dX4_rowOf_48 rfl (lv_at hl 1 rfl) ?_
      replace hm := gdo hm hz
      obtain ⟨gi_4, hm⟩ := hm
      refine va_iald hx hb hK.1 hP 1 0 (cA := cA 0) (n := 24) (f := g_o_area) rfl rfl (ixi gi_4) dX4_rowOf_49 ?_
      exact hret _ _ _ dX4_rowOf_50 rfl hm.symm
    · replace hm := ie hm c_3
      by_cases c_5 : p2 = 1
      · replace hm := it hm c_5
        refine lv_tableIn (off := 40) (tgt := 51) hx hb dX4_rowOf_11 (by rw [c_5]; decide) (by rw [c_5]; decide) (by rw [c_5]; rfl) (by decide) ?_
        refine lv_aload_n hx hb dX4_rowOf_51 rfl (lv_at hl 0 rfl) ?_
        refine va_get (D := G) (ci := 6) (v := .ref o_firstDay) (C := RX4) (T := TX4) (N := 7) hx hb hts i_X4 hown hK.1 hP 0 rfl rfl 2 (by decide) w_1 (fun _ h9 => h9) rfl dX4_rowOf_52 ?_
        refine lv_iload_n hx hb dX4_rowOf_55 rfl (lv_at hl 1 rfl) ?_
        replace hm := gdo hm hz
        obtain ⟨gi_6, hm⟩ := hm
        refine va_iald hx hb hK.1 hP 2 0 (cA := cA 0) (n := 24) (f := g_o_firstDay) rfl rfl (ixi gi_6) dX4_rowOf_56 ?_
        exact hret _ _ _ dX4_rowOf_57 rfl hm.symm
      · replace hm := ie hm c_5
        by_cases c_7 : p2 = 2
        · replace hm := it hm c_7
          refine lv_tableIn (off := 47) (tgt := 58) hx hb dX4_rowOf_11 (by rw [c_7]; decide) (by rw [c_7]; decide) (by rw [c_7]; rfl) (by decide) ?_
          refine lv_aload_n hx hb dX4_rowOf_58 rfl (lv_at hl 0 rfl) ?_
          refine va_get (D := G) (ci := 6) (v := .ref o_lastDay) (C := RX4) (T := TX4) (N := 7) hx hb hts i_X4 hown hK.1 hP 0 rfl rfl 3 (by decide) w_2 (fun _ h9 => h9) rfl dX4_rowOf_59 ?_
          refine lv_iload_n hx hb dX4_rowOf_62 rfl (lv_at hl 1 rfl) ?_
          replace hm := gdo hm hz
          obtain ⟨gi_8, hm⟩ := hm
          refine va_iald hx hb hK.1 hP 3 0 (cA := cA 0) (n := 24) (f := g_o_lastDay) rfl rfl (ixi gi_8) dX4_rowOf_63 ?_
          exact hret _ _ _ dX4_rowOf_64 rfl hm.symm
        · replace hm := ie hm c_7
          by_cases c_9 : p2 = 3
          · replace hm := it hm c_9
            refine lv_tableIn (off := 54) (tgt := 65) hx hb dX4_rowOf_11 (by rw [c_9]; decide) (by rw [c_9]; decide) (by rw [c_9]; rfl) (by decide) ?_
            refine lv_aload_n hx hb dX4_rowOf_65 rfl (lv_at hl 0 rfl) ?_
            refine va_get (D := G) (ci := 6) (v := .ref o_neighbours) (C := RX4) (T := TX4) (N := 7) hx hb hts i_X4 hown hK.1 hP 0 rfl rfl 4 (by decide) w_3 (fun _ h9 => h9) rfl dX4_rowOf_66 ?_
            refine lv_iload_n hx hb dX4_rowOf_69 rfl (lv_at hl 1 rfl) ?_
            replace hm := gdo hm hz
            obtain ⟨gi_10, hm⟩ := hm
            refine va_iald hx hb hK.1 hP 4 0 (cA := cA 0) (n := 24) (f := g_o_neighbours) rfl rfl (ixi gi_10) dX4_rowOf_70 ?_
            exact hret _ _ _ dX4_rowOf_71 rfl hm.symm
          · replace hm := ie hm c_9
            by_cases c_11 : p2 = 4
            · replace hm := it hm c_11
              refine lv_tableIn (off := 61) (tgt := 72) hx hb dX4_rowOf_11 (by rw [c_11]; decide) (by rw [c_11]; decide) (by rw [c_11]; rfl) (by decide) ?_
              refine lv_aload_n hx hb dX4_rowOf_72 rfl (lv_at hl 0 rfl) ?_
              refine va_get (D := G) (ci := 6) (v := .ref o_parents) (C := RX4) (T := TX4) (N := 7) hx hb hts i_X4 hown hK.1 hP 0 rfl rfl 5 (by decide) w_4 (fun _ h9 => h9) rfl dX4_rowOf_73 ?_
              refine lv_iload_n hx hb dX4_rowOf_76 rfl (lv_at hl 1 rfl) ?_
              replace hm := gdo hm hz
              obtain ⟨gi_12, hm⟩ := hm
              refine va_iald hx hb hK.1 hP 5 0 (cA := cA 0) (n := 24) (f := g_o_parents) rfl rfl (ixi gi_12) dX4_rowOf_77 ?_
              exact hret _ _ _ dX4_rowOf_78 rfl hm.symm
            · replace hm := ie hm c_11
              have tc_3 := lv_neT (a := 0) c_3 rfl
              have tc_5 := lv_neT (a := 1) c_5 rfl
              have tc_7 := lv_neT (a := 2) c_7 rfl
              have tc_9 := lv_neT (a := 3) c_9 rfl
              have tc_11 := lv_neT (a := 4) c_11 rfl
              refine lv_tableOut hx hb dX4_rowOf_11 (by omega) (tgt := 79) (by decide) ?_
              refine lv_aload_n hx hb dX4_rowOf_79 rfl (lv_at hl 0 rfl) ?_
              refine va_get (D := G) (ci := 6) (v := .ref o_root) (C := RX4) (T := TX4) (N := 7) hx hb hts i_X4 hown hK.1 hP 0 rfl rfl 6 (by decide) w_5 (fun _ h9 => h9) rfl dX4_rowOf_80 ?_
              refine lv_iload_n hx hb dX4_rowOf_83 rfl (lv_at hl 1 rfl) ?_
              replace hm := gdo hm hz
              obtain ⟨gi_13, hm⟩ := hm
              refine va_iald hx hb hK.1 hP 6 0 (cA := cA 0) (n := 24) (f := g_o_root) rfl rfl (ixi gi_13) dX4_rowOf_84 ?_
              exact hret _ _ _ dX4_rowOf_85 rfl hm.symm
  · replace hm := it hm c_2
    refine lv_iconst (v := (-1 : Int32)) hx hb dX4_rowOf_8 (by decide) ?_
    exact hret _ _ _ dX4_rowOf_9 rfl hm.symm
def m_X4_ancestorsOf_L21 (g_o_parents : Nat → Int32) : ((Int32 × Int32) → Option (Int32)) → (Int32 × Int32) → Option (Int32) := fun rec_6 v => match v with
  | (x_4, x_5) => (if x_5 < 0 then some x_4 else Option.bind (m_X7_isIn x_4 x_5) (fun r_8 => (if r_8 = 0 then rec_6 (x_4, x_5 + (-1 : Int32)) else gd (ix x_5 24) (rec_6 (x_4 ||| (g_o_parents x_5.toNatClampNeg), x_5 + (-1 : Int32))))))
def m_X4_ancestorsOf (p1 : Int32) (v_o_count : Int32) (g_o_parents : Nat → Int32) : Option (Int32) := Option.bind (m_X4_has p1 v_o_count) (fun r_1 => (if r_1 = 0 then some (0 : Int32) else gd (ix p1 24) (fuel (m_X4_ancestorsOf_L21 g_o_parents) FU (g_o_parents p1.toNatClampNeg, p1 - (1 : Int32)))))
abbrev k_X4_ancestorsOf (cA : Nat → ClassId) (o o_area o_firstDay o_lastDay o_neighbours o_parents o_root : Nat) (v_o_count : Int32) (g_o_parents : Nat → Int32) : va_W := [(o, .inr (6, [.int v_o_count, .ref o_area, .ref o_firstDay, .ref o_lastDay, .ref o_neighbours, .ref o_parents, .ref o_root])), (o_parents, .inl (cA 0, 24, .inl g_o_parents))]
set_option maxHeartbeats 4000000 in
set_option maxRecDepth 100000 in
/-- X4_ancestorsOf: as its model -/
theorem c_X4_ancestorsOf (l : Launch) (G : va_G) (cA : Nat → ClassId) (o o_area o_firstDay o_lastDay o_neighbours o_parents o_root : Nat) (p1 : Int32) (v_o_count : Int32) (g_o_parents : Nat → Int32) (R : Option (Int32)) (hR : m_X4_ancestorsOf p1 v_o_count g_o_parents = R) (hz : R ≠ none) : Met l yX4_ancestorsOf wsX4_ancestorsOf ({ frames := 1, cells := 0, slots := 0, locals := 21 } : Room) (va_Pc [.ref o, .int p1] (PR G cA (k_X4_ancestorsOf cA o o_area o_firstDay o_lastDay o_neighbours o_parents o_root v_o_count g_o_parents))) (vp_Si (fun r => R = some r)) 0 0 (fun _ => False) := by
  refine metR .int (by decide) rfl (Nat.le_of_ble_eq_true rfl) ?_
  intro p e s m av below meth c Q ls hx hb hml hts hown hP hK hl hret
  replace hl : lv_has ls 4 [(0, .ref o), (1, .int p1)] := hl
  have w_0 := hts (.fieldLink RX4 28 "ParcelRegistry$Parcels" "parents" "[I") (by decide +kernel)
  have w_1 := hts (.initialized RX7) (by decide +kernel)
  have w_2 := hts (.static yX7_isIn) (by decide +kernel)
  have i_X4 : ∀ w ∈ wsX40, w ∈ wsX4_ancestorsOf := by decide +kernel
  have hm := hR
  unfold m_X4_ancestorsOf at hm
  refine lv_aload_n hx hb dX4_ancestorsOf_0 rfl (lv_at hl 0 rfl) ?_
  refine lv_iload_n hx hb dX4_ancestorsOf_1 rfl (lv_at hl 1 rfl) ?_
  refine vp_callSi (va_Run.run (va_runV (As := [.int p1]) (rest := []) ⟨hx, hb, hml, hown, hts⟩ (c_X4_has l G cA o o_area o_firstDay o_lastDay o_neighbours o_parents o_root p1 v_o_count _ rfl (bnz hm hz)) (cwV 1 hts gX4_ancestorsOf_X4_has rfl rfl rfl (by decide +kernel) ⟨Nat.le_of_ble_eq_true rfl, Nat.le_of_ble_eq_true rfl⟩) (preRV (q := (RX4, TX4, 7)) (hP.sub [0] rfl) hK 0 rfl rfl) rfl rfl hl.1 rfl (lv_room (Nat.le_of_ble_eq_true rfl)) dX4_ancestorsOf_2 ⟨Nat.zero_le _, Nat.zero_le _⟩)) (fun r_1 hw => ?_)
  replace hm := bst hm hw.1
  refine lv_if_ne (tgt := 10) hx hb dX4_ancestorsOf_5 (by decide) (fun c_2 => ?_) (fun c_2 => ?_)
  · replace hm := ie hm c_2
    refine lv_aload_n hx hb dX4_ancestorsOf_10 rfl (lv_at hl 0 rfl) ?_
    refine va_get (D := G) (ci := 6) (v := .ref o_parents) (C := RX4) (T := TX4) (N := 7) hx hb hts i_X4 hown hK.1 hP 0 rfl rfl 5 (by decide) w_0 (fun _ h9 => h9) rfl dX4_ancestorsOf_11 ?_
    refine lv_iload_n hx hb dX4_ancestorsOf_14 rfl (lv_at hl 1 rfl) ?_
    replace hm := gdo hm hz
    obtain ⟨gi_3, hm⟩ := hm
    refine va_iald hx hb hK.1 hP 1 0 (cA := cA 0) (n := 24) (f := g_o_parents) rfl rfl (ixi gi_3) dX4_ancestorsOf_15 ?_
    refine lv_istore_n (lv' := [(2, .int (g_o_parents p1.toNatClampNeg)), (0, .ref o), (1, .int p1)]) hx hb dX4_ancestorsOf_16 rfl hl (by decide) rfl (fun ls hl => ?_)
    refine lv_iload_n hx hb dX4_ancestorsOf_17 rfl (lv_at hl 2 rfl) ?_
    refine lv_iconst (v := (1 : Int32)) hx hb dX4_ancestorsOf_18 (by decide) ?_
    refine lv_isub hx hb dX4_ancestorsOf_19 ?_
    refine lv_istore_n (lv' := [(3, .int (p1 - (1 : Int32))), (2, .int (g_o_parents p1.toNatClampNeg)), (0, .ref o), (1, .int p1)]) hx hb dX4_ancestorsOf_20 rfl hl (by decide) rfl (fun ls hl => ?_)
    have L21_1 : ∀ (n : Nat), ∀ (x_4 : Int32) (x_5 : Int32), ∀ (ls : Array Slot), fuel (m_X4_ancestorsOf_L21 g_o_parents) n (x_4, x_5) = R → lv_has ls 4 [(0, .ref o), (2, .int x_4), (3, .int x_5)] → W p l e ({ frames := 1, cells := 0, slots := 0, locals := 21 } : Room) s m av below meth c s.heap [] 0 0 Q (F0 m 21 ls []) := by
      intro n
      induction n with
      | zero =>
        intro x_4 x_5 ls hm hl
        exact (fu0 hm hz).elim
      | succ n ih21 =>
        intro x_4 x_5 ls hm hl
        replace hm := fus hm
        generalize fuel (m_X4_ancestorsOf_L21 g_o_parents) n = rec_6 at hm ih21
        unfold m_X4_ancestorsOf_L21 at hm
        refine lv_iload_n hx hb dX4_ancestorsOf_21 rfl (lv_at hl 2 rfl) ?_
        refine lv_if_lt (tgt := 48) hx hb dX4_ancestorsOf_22 (by decide) (fun c_7 => ?_) (fun c_7 => ?_)
        · replace hm := it hm c_7
          refine lv_iload_n hx hb dX4_ancestorsOf_48 rfl (lv_at hl 1 rfl) ?_
          exact hret _ _ _ dX4_ancestorsOf_49 rfl hm.symm
        · replace hm := ie hm c_7
          refine lv_iload_n hx hb dX4_ancestorsOf_25 rfl (lv_at hl 1 rfl) ?_
          refine lv_iload_n hx hb dX4_ancestorsOf_26 rfl (lv_at hl 2 rfl) ?_
          refine vp_callSi (va_Run.run (va_runSN (As := [.int x_4, .int x_5]) (rest := []) ⟨hx, hb, hml, hown, hts⟩ (c_X7_isIn l G cA x_4 x_5 _ rfl (bnz hm hz)) ⟨va_cnB (host := "ParcelRegistry") 2 hts gX4_ancestorsOf_X7_isIn_n48 rfl rfl rfl (hK.2 (RX4, 48, yX7_isIn) (List.mem_of_getElem? (i := 9) rfl)) w_1 (by decide +kernel) ⟨Nat.le_of_ble_eq_true rfl, Nat.le_of_ble_eq_true rfl⟩, w_2, trivial⟩ (preRS (hP.sub [] rfl) hK) rfl rfl hl.1 rfl (lv_room (Nat.le_of_ble_eq_true rfl)) dX4_ancestorsOf_27 ⟨Nat.zero_le _, Nat.zero_le _⟩)) (fun r_8 hw => ?_)
          replace hm := bst hm hw.1
          refine lv_if_eq (tgt := 42) hx hb dX4_ancestorsOf_30 (by decide) (fun c_9 => ?_) (fun c_9 => ?_)
          · replace hm := it hm c_9
            refine lv_iinc (v := x_5 + (-1 : Int32)) (lv' := [(3, .int (x_5 + (-1 : Int32))), (0, .ref o), (2, .int x_4)]) hx hb dX4_ancestorsOf_42 hl (k := 2) rfl rfl (by decide) rfl (fun ls hl => ?_)
            refine lv_goto (tgt := 21) hx hb dX4_ancestorsOf_45 (by decide) ?_
            exact ih21 x_4 (x_5 + (-1 : Int32)) _ hm (lv_sub hl [1, 2, 0] rfl)
          · replace hm := ie hm c_9
            refine lv_iload_n hx hb dX4_ancestorsOf_33 rfl (lv_at hl 1 rfl) ?_
            refine lv_aload_n hx hb dX4_ancestorsOf_34 rfl (lv_at hl 0 rfl) ?_
            refine va_get (D := G) (ci := 6) (v := .ref o_parents) (C := RX4) (T := TX4) (N := 7) hx hb hts i_X4 hown hK.1 hP 0 rfl rfl 5 (by decide) w_0 (fun _ h9 => h9) rfl dX4_ancestorsOf_35 ?_
            refine lv_iload_n hx hb dX4_ancestorsOf_38 rfl (lv_at hl 2 rfl) ?_
            replace hm := gdo hm hz
            obtain ⟨gi_10, hm⟩ := hm
            refine va_iald hx hb hK.1 hP 1 0 (cA := cA 0) (n := 24) (f := g_o_parents) rfl rfl (ixi gi_10) dX4_ancestorsOf_39 ?_
            refine lv_ior hx hb dX4_ancestorsOf_40 ?_
            refine lv_istore_n (lv' := [(2, .int (x_4 ||| (g_o_parents x_5.toNatClampNeg))), (0, .ref o), (3, .int x_5)]) hx hb dX4_ancestorsOf_41 rfl hl (by decide) rfl (fun ls hl => ?_)
            refine lv_iinc (v := x_5 + (-1 : Int32)) (lv' := [(3, .int (x_5 + (-1 : Int32))), (2, .int (x_4 ||| (g_o_parents x_5.toNatClampNeg))), (0, .ref o)]) hx hb dX4_ancestorsOf_42 hl (k := 2) rfl rfl (by decide) rfl (fun ls hl => ?_)
            refine lv_goto (tgt := 21) hx hb dX4_ancestorsOf_45 (by decide) ?_
            exact ih21 (x_4 ||| (g_o_parents x_5.toNatClampNeg)) (x_5 + (-1 : Int32)) _ hm (lv_sub hl [2, 1, 0] rfl)
    exact L21_1 _ (g_o_parents p1.toNatClampNeg) (p1 - (1 : Int32)) _ hm (lv_sub hl [2, 1, 0] rfl)
  · replace hm := it hm c_2
    refine lv_iconst (v := (0 : Int32)) hx hb dX4_ancestorsOf_8 (by decide) ?_
    exact hret _ _ _ dX4_ancestorsOf_9 rfl hm.symm
def m_X4_heirsOf_L18 (v_o_count : Int32) (g_o_parents : Nat → Int32) : ((Int32 × Int32) → Option (Int32)) → (Int32 × Int32) → Option (Int32) := fun rec_5 v => match v with
  | (x_3, x_4) => (if v_o_count ≤ x_4 then some x_3 else gd (ix x_4 24) ((if ((g_o_parents x_4.toNatClampNeg) &&& x_3) = 0 then rec_5 (x_3, x_4 + (1 : Int32)) else rec_5 (x_3 ||| ((1 : Int32) <<< (x_4 &&& 31)), x_4 + (1 : Int32)))))
def m_X4_heirsOf (p1 : Int32) (v_o_count : Int32) (g_o_parents : Nat → Int32) : Option (Int32) := Option.bind (m_X4_has p1 v_o_count) (fun r_1 => (if r_1 = 0 then some (0 : Int32) else fuel (m_X4_heirsOf_L18 v_o_count g_o_parents) FU ((1 : Int32) <<< (p1 &&& 31), p1 + (1 : Int32))))
abbrev k_X4_heirsOf (cA : Nat → ClassId) (o o_area o_firstDay o_lastDay o_neighbours o_parents o_root : Nat) (v_o_count : Int32) (g_o_parents : Nat → Int32) : va_W := [(o, .inr (6, [.int v_o_count, .ref o_area, .ref o_firstDay, .ref o_lastDay, .ref o_neighbours, .ref o_parents, .ref o_root])), (o_parents, .inl (cA 0, 24, .inl g_o_parents))]
set_option maxHeartbeats 4000000 in
set_option maxRecDepth 100000 in
/-- X4_heirsOf: as its model -/
theorem c_X4_heirsOf (l : Launch) (G : va_G) (cA : Nat → ClassId) (o o_area o_firstDay o_lastDay o_neighbours o_parents o_root : Nat) (p1 : Int32) (v_o_count : Int32) (g_o_parents : Nat → Int32) (R : Option (Int32)) (hR : m_X4_heirsOf p1 v_o_count g_o_parents = R) (hz : R ≠ none) : Met l yX4_heirsOf wsX4_heirsOf ({ frames := 1, cells := 0, slots := 0, locals := 21 } : Room) (va_Pc [.ref o, .int p1] (PR G cA (k_X4_heirsOf cA o o_area o_firstDay o_lastDay o_neighbours o_parents o_root v_o_count g_o_parents))) (vp_Si (fun r => R = some r)) 0 0 (fun _ => False) := by
  refine metR .int (by decide) rfl (Nat.le_of_ble_eq_true rfl) ?_
  intro p e s m av below meth c Q ls hx hb hml hts hown hP hK hl hret
  replace hl : lv_has ls 4 [(0, .ref o), (1, .int p1)] := hl
  have w_0 := hts (.fieldLink RX4 9 "ParcelRegistry$Parcels" "count" "I") (by decide +kernel)
  have w_1 := hts (.fieldLink RX4 28 "ParcelRegistry$Parcels" "parents" "[I") (by decide +kernel)
  have i_X4 : ∀ w ∈ wsX40, w ∈ wsX4_heirsOf := by decide +kernel
  have hm := hR
  unfold m_X4_heirsOf at hm
  refine lv_aload_n hx hb dX4_heirsOf_0 rfl (lv_at hl 0 rfl) ?_
  refine lv_iload_n hx hb dX4_heirsOf_1 rfl (lv_at hl 1 rfl) ?_
  refine vp_callSi (va_Run.run (va_runV (As := [.int p1]) (rest := []) ⟨hx, hb, hml, hown, hts⟩ (c_X4_has l G cA o o_area o_firstDay o_lastDay o_neighbours o_parents o_root p1 v_o_count _ rfl (bnz hm hz)) (cwV 1 hts gX4_heirsOf_X4_has rfl rfl rfl (by decide +kernel) ⟨Nat.le_of_ble_eq_true rfl, Nat.le_of_ble_eq_true rfl⟩) (preRV (q := (RX4, TX4, 7)) (hP.sub [0] rfl) hK 0 rfl rfl) rfl rfl hl.1 rfl (lv_room (Nat.le_of_ble_eq_true rfl)) dX4_heirsOf_2 ⟨Nat.zero_le _, Nat.zero_le _⟩)) (fun r_1 hw => ?_)
  replace hm := bst hm hw.1
  refine lv_if_ne (tgt := 10) hx hb dX4_heirsOf_5 (by decide) (fun c_2 => ?_) (fun c_2 => ?_)
  · replace hm := ie hm c_2
    refine lv_iconst (v := (1 : Int32)) hx hb dX4_heirsOf_10 (by decide) ?_
    refine lv_iload_n hx hb dX4_heirsOf_11 rfl (lv_at hl 1 rfl) ?_
    refine lv_ishl hx hb dX4_heirsOf_12 ?_
    refine lv_istore_n (lv' := [(2, .int ((1 : Int32) <<< (p1 &&& 31))), (0, .ref o), (1, .int p1)]) hx hb dX4_heirsOf_13 rfl hl (by decide) rfl (fun ls hl => ?_)
    refine lv_iload_n hx hb dX4_heirsOf_14 rfl (lv_at hl 2 rfl) ?_
    refine lv_iconst (v := (1 : Int32)) hx hb dX4_heirsOf_15 (by decide) ?_
    refine lv_iadd hx hb dX4_heirsOf_16 ?_
    refine lv_istore_n (lv' := [(3, .int (p1 + (1 : Int32))), (2, .int ((1 : Int32) <<< (p1 &&& 31))), (0, .ref o), (1, .int p1)]) hx hb dX4_heirsOf_17 rfl hl (by decide) rfl (fun ls hl => ?_)
    have L18_1 : ∀ (n : Nat), ∀ (x_3 : Int32) (x_4 : Int32), ∀ (ls : Array Slot), fuel (m_X4_heirsOf_L18 v_o_count g_o_parents) n (x_3, x_4) = R → lv_has ls 4 [(0, .ref o), (2, .int x_3), (3, .int x_4)] → W p l e ({ frames := 1, cells := 0, slots := 0, locals := 21 } : Room) s m av below meth c s.heap [] 0 0 Q (F0 m 18 ls []) := by
      intro n
      induction n with
      | zero =>
        intro x_3 x_4 ls hm hl
        exact (fu0 hm hz).elim
      | succ n ih18 =>
        intro x_3 x_4 ls hm hl
        replace hm := fus hm
        generalize fuel (m_X4_heirsOf_L18 v_o_count g_o_parents) n = rec_5 at hm ih18
        unfold m_X4_heirsOf_L18 at hm
        refine lv_iload_n hx hb dX4_heirsOf_18 rfl (lv_at hl 2 rfl) ?_
        refine lv_aload_n hx hb dX4_heirsOf_19 rfl (lv_at hl 0 rfl) ?_
        refine va_get (D := G) (ci := 6) (v := .int v_o_count) (C := RX4) (T := TX4) (N := 7) hx hb hts i_X4 hown hK.1 hP 0 rfl rfl 0 (by decide) w_0 (fun _ h9 => h9) rfl dX4_heirsOf_20 ?_
        refine lv_icmp_ge (tgt := 49) hx hb dX4_heirsOf_23 (by decide) (fun c_6 => ?_) (fun c_6 => ?_)
        · replace hm := it hm c_6
          refine lv_iload_n hx hb dX4_heirsOf_49 rfl (lv_at hl 1 rfl) ?_
          exact hret _ _ _ dX4_heirsOf_50 rfl hm.symm
        · replace hm := ie hm c_6
          refine lv_aload_n hx hb dX4_heirsOf_26 rfl (lv_at hl 0 rfl) ?_
          refine va_get (D := G) (ci := 6) (v := .ref o_parents) (C := RX4) (T := TX4) (N := 7) hx hb hts i_X4 hown hK.1 hP 0 rfl rfl 5 (by decide) w_1 (fun _ h9 => h9) rfl dX4_heirsOf_27 ?_
          refine lv_iload_n hx hb dX4_heirsOf_30 rfl (lv_at hl 2 rfl) ?_
          replace hm := gdo hm hz
          obtain ⟨gi_7, hm⟩ := hm
          refine va_iald hx hb hK.1 hP 1 0 (cA := cA 0) (n := 24) (f := g_o_parents) rfl rfl (ixi gi_7) dX4_heirsOf_31 ?_
          refine lv_iload_n hx hb dX4_heirsOf_32 rfl (lv_at hl 1 rfl) ?_
          refine lv_iand hx hb dX4_heirsOf_33 ?_
          refine lv_if_eq (tgt := 43) hx hb dX4_heirsOf_34 (by decide) (fun c_8 => ?_) (fun c_8 => ?_)
          · replace hm := it hm c_8
            refine lv_iinc (v := x_4 + (1 : Int32)) (lv' := [(3, .int (x_4 + (1 : Int32))), (0, .ref o), (2, .int x_3)]) hx hb dX4_heirsOf_43 hl (k := 2) rfl rfl (by decide) rfl (fun ls hl => ?_)
            refine lv_goto (tgt := 18) hx hb dX4_heirsOf_46 (by decide) ?_
            exact ih18 x_3 (x_4 + (1 : Int32)) _ hm (lv_sub hl [1, 2, 0] rfl)
          · replace hm := ie hm c_8
            refine lv_iload_n hx hb dX4_heirsOf_37 rfl (lv_at hl 1 rfl) ?_
            refine lv_iconst (v := (1 : Int32)) hx hb dX4_heirsOf_38 (by decide) ?_
            refine lv_iload_n hx hb dX4_heirsOf_39 rfl (lv_at hl 2 rfl) ?_
            refine lv_ishl hx hb dX4_heirsOf_40 ?_
            refine lv_ior hx hb dX4_heirsOf_41 ?_
            refine lv_istore_n (lv' := [(2, .int (x_3 ||| ((1 : Int32) <<< (x_4 &&& 31)))), (0, .ref o), (3, .int x_4)]) hx hb dX4_heirsOf_42 rfl hl (by decide) rfl (fun ls hl => ?_)
            refine lv_iinc (v := x_4 + (1 : Int32)) (lv' := [(3, .int (x_4 + (1 : Int32))), (2, .int (x_3 ||| ((1 : Int32) <<< (x_4 &&& 31)))), (0, .ref o)]) hx hb dX4_heirsOf_43 hl (k := 2) rfl rfl (by decide) rfl (fun ls hl => ?_)
            refine lv_goto (tgt := 18) hx hb dX4_heirsOf_46 (by decide) ?_
            exact ih18 (x_3 ||| ((1 : Int32) <<< (x_4 &&& 31))) (x_4 + (1 : Int32)) _ hm (lv_sub hl [2, 1, 0] rfl)
    exact L18_1 _ ((1 : Int32) <<< (p1 &&& 31)) (p1 + (1 : Int32)) _ hm (lv_sub hl [2, 1, 0] rfl)
  · replace hm := it hm c_2
    refine lv_iconst (v := (0 : Int32)) hx hb dX4_heirsOf_8 (by decide) ?_
    exact hret _ _ _ dX4_heirsOf_9 rfl hm.symm
def m_X4_presentOnes_L4 (v_o_count : Int32) (g_o_lastDay : Nat → Int32) : ((Int32 × Int32) → Option (Int32)) → (Int32 × Int32) → Option (Int32) := fun rec_3 v => match v with
  | (x_1, x_2) => (if v_o_count ≤ x_2 then some x_1 else gd (ix x_2 24) ((if (g_o_lastDay x_2.toNatClampNeg) = (-1 : Int32) then rec_3 (x_1 ||| ((1 : Int32) <<< (x_2 &&& 31)), x_2 + (1 : Int32)) else rec_3 (x_1, x_2 + (1 : Int32)))))
def m_X4_presentOnes (v_o_count : Int32) (g_o_lastDay : Nat → Int32) : Option (Int32) := fuel (m_X4_presentOnes_L4 v_o_count g_o_lastDay) FU ((0 : Int32), (0 : Int32))
abbrev k_X4_presentOnes (cA : Nat → ClassId) (o o_area o_firstDay o_lastDay o_neighbours o_parents o_root : Nat) (v_o_count : Int32) (g_o_lastDay : Nat → Int32) : va_W := [(o, .inr (6, [.int v_o_count, .ref o_area, .ref o_firstDay, .ref o_lastDay, .ref o_neighbours, .ref o_parents, .ref o_root])), (o_lastDay, .inl (cA 0, 24, .inl g_o_lastDay))]
set_option maxHeartbeats 4000000 in
set_option maxRecDepth 100000 in
/-- X4_presentOnes: as its model -/
theorem c_X4_presentOnes (l : Launch) (G : va_G) (cA : Nat → ClassId) (o o_area o_firstDay o_lastDay o_neighbours o_parents o_root : Nat) (v_o_count : Int32) (g_o_lastDay : Nat → Int32) (R : Option (Int32)) (hR : m_X4_presentOnes v_o_count g_o_lastDay = R) (hz : R ≠ none) : Met l yX4_presentOnes wsX4_presentOnes ({ frames := 0, cells := 0, slots := 0, locals := 0 } : Room) (va_Pc [.ref o] (PR G cA (k_X4_presentOnes cA o o_area o_firstDay o_lastDay o_neighbours o_parents o_root v_o_count g_o_lastDay))) (vp_Si (fun r => R = some r)) 0 0 (fun _ => False) := by
  refine metR .int (by decide) rfl (Nat.le_of_ble_eq_true rfl) ?_
  intro p e s m av below meth c Q ls hx hb hml hts hown hP hK hl hret
  replace hl : lv_has ls 3 [(0, .ref o)] := hl
  have w_0 := hts (.fieldLink RX4 9 "ParcelRegistry$Parcels" "count" "I") (by decide +kernel)
  have w_1 := hts (.fieldLink RX4 22 "ParcelRegistry$Parcels" "lastDay" "[I") (by decide +kernel)
  have i_X4 : ∀ w ∈ wsX40, w ∈ wsX4_presentOnes := by decide +kernel
  have hm := hR
  unfold m_X4_presentOnes at hm
  refine lv_iconst (v := (0 : Int32)) hx hb dX4_presentOnes_0 (by decide) ?_
  refine lv_istore_n (lv' := [(1, .int (0 : Int32)), (0, .ref o)]) hx hb dX4_presentOnes_1 rfl hl (by decide) rfl (fun ls hl => ?_)
  refine lv_iconst (v := (0 : Int32)) hx hb dX4_presentOnes_2 (by decide) ?_
  refine lv_istore_n (lv' := [(2, .int (0 : Int32)), (1, .int (0 : Int32)), (0, .ref o)]) hx hb dX4_presentOnes_3 rfl hl (by decide) rfl (fun ls hl => ?_)
  have L4_1 : ∀ (n : Nat), ∀ (x_1 : Int32) (x_2 : Int32), ∀ (ls : Array Slot), fuel (m_X4_presentOnes_L4 v_o_count g_o_lastDay) n (x_1, x_2) = R → lv_has ls 3 [(0, .ref o), (1, .int x_1), (2, .int x_2)] → W p l e ({ frames := 0, cells := 0, slots := 0, locals := 0 } : Room) s m av below meth c s.heap [] 0 0 Q (F0 m 4 ls []) := by
    intro n
    induction n with
    | zero =>
      intro x_1 x_2 ls hm hl
      exact (fu0 hm hz).elim
    | succ n ih4 =>
      intro x_1 x_2 ls hm hl
      replace hm := fus hm
      generalize fuel (m_X4_presentOnes_L4 v_o_count g_o_lastDay) n = rec_3 at hm ih4
      unfold m_X4_presentOnes_L4 at hm
      refine lv_iload_n hx hb dX4_presentOnes_4 rfl (lv_at hl 2 rfl) ?_
      refine lv_aload_n hx hb dX4_presentOnes_5 rfl (lv_at hl 0 rfl) ?_
      refine va_get (D := G) (ci := 6) (v := .int v_o_count) (C := RX4) (T := TX4) (N := 7) hx hb hts i_X4 hown hK.1 hP 0 rfl rfl 0 (by decide) w_0 (fun _ h9 => h9) rfl dX4_presentOnes_6 ?_
      refine lv_icmp_ge (tgt := 34) hx hb dX4_presentOnes_9 (by decide) (fun c_4 => ?_) (fun c_4 => ?_)
      · replace hm := it hm c_4
        refine lv_iload_n hx hb dX4_presentOnes_34 rfl (lv_at hl 1 rfl) ?_
        exact hret _ _ _ dX4_presentOnes_35 rfl hm.symm
      · replace hm := ie hm c_4
        refine lv_aload_n hx hb dX4_presentOnes_12 rfl (lv_at hl 0 rfl) ?_
        refine va_get (D := G) (ci := 6) (v := .ref o_lastDay) (C := RX4) (T := TX4) (N := 7) hx hb hts i_X4 hown hK.1 hP 0 rfl rfl 3 (by decide) w_1 (fun _ h9 => h9) rfl dX4_presentOnes_13 ?_
        refine lv_iload_n hx hb dX4_presentOnes_16 rfl (lv_at hl 2 rfl) ?_
        replace hm := gdo hm hz
        obtain ⟨gi_5, hm⟩ := hm
        refine va_iald hx hb hK.1 hP 1 0 (cA := cA 0) (n := 24) (f := g_o_lastDay) rfl rfl (ixi gi_5) dX4_presentOnes_17 ?_
        refine lv_iconst (v := (-1 : Int32)) hx hb dX4_presentOnes_18 (by decide) ?_
        refine lv_icmp_ne (tgt := 28) hx hb dX4_presentOnes_19 (by decide) (fun c_6 => ?_) (fun c_6 => ?_)
        · replace hm := ie hm c_6
          refine lv_iinc (v := x_2 + (1 : Int32)) (lv' := [(2, .int (x_2 + (1 : Int32))), (0, .ref o), (1, .int x_1)]) hx hb dX4_presentOnes_28 hl (k := 2) rfl rfl (by decide) rfl (fun ls hl => ?_)
          refine lv_goto (tgt := 4) hx hb dX4_presentOnes_31 (by decide) ?_
          exact ih4 x_1 (x_2 + (1 : Int32)) _ hm (lv_sub hl [1, 2, 0] rfl)
        · replace hm := it hm c_6
          refine lv_iload_n hx hb dX4_presentOnes_22 rfl (lv_at hl 1 rfl) ?_
          refine lv_iconst (v := (1 : Int32)) hx hb dX4_presentOnes_23 (by decide) ?_
          refine lv_iload_n hx hb dX4_presentOnes_24 rfl (lv_at hl 2 rfl) ?_
          refine lv_ishl hx hb dX4_presentOnes_25 ?_
          refine lv_ior hx hb dX4_presentOnes_26 ?_
          refine lv_istore_n (lv' := [(1, .int (x_1 ||| ((1 : Int32) <<< (x_2 &&& 31)))), (0, .ref o), (2, .int x_2)]) hx hb dX4_presentOnes_27 rfl hl (by decide) rfl (fun ls hl => ?_)
          refine lv_iinc (v := x_2 + (1 : Int32)) (lv' := [(2, .int (x_2 + (1 : Int32))), (1, .int (x_1 ||| ((1 : Int32) <<< (x_2 &&& 31)))), (0, .ref o)]) hx hb dX4_presentOnes_28 hl (k := 2) rfl rfl (by decide) rfl (fun ls hl => ?_)
          refine lv_goto (tgt := 4) hx hb dX4_presentOnes_31 (by decide) ?_
          exact ih4 (x_1 ||| ((1 : Int32) <<< (x_2 &&& 31))) (x_2 + (1 : Int32)) _ hm (lv_sub hl [2, 1, 0] rfl)
  exact L4_1 _ (0 : Int32) (0 : Int32) _ hm (lv_sub hl [2, 1, 0] rfl)
def m_X4_neighboursOfAll_L4 (v_o_count : Int32) (g_o_neighbours : Nat → Int32) (p1 : Int32) : ((Int32 × Int32) → Option (Int32)) → (Int32 × Int32) → Option (Int32) := fun rec_3 v => match v with
  | (x_1, x_2) => (if v_o_count ≤ x_2 then some x_1 else Option.bind (m_X7_isIn p1 x_2) (fun r_5 => (if r_5 = 0 then rec_3 (x_1, x_2 + (1 : Int32)) else gd (ix x_2 24) (rec_3 (x_1 ||| (g_o_neighbours x_2.toNatClampNeg), x_2 + (1 : Int32))))))
def m_X4_neighboursOfAll (p1 : Int32) (v_o_count : Int32) (g_o_neighbours : Nat → Int32) : Option (Int32) := fuel (m_X4_neighboursOfAll_L4 v_o_count g_o_neighbours p1) FU ((0 : Int32), (0 : Int32))
abbrev k_X4_neighboursOfAll (cA : Nat → ClassId) (o o_area o_firstDay o_lastDay o_neighbours o_parents o_root : Nat) (v_o_count : Int32) (g_o_neighbours : Nat → Int32) : va_W := [(o, .inr (6, [.int v_o_count, .ref o_area, .ref o_firstDay, .ref o_lastDay, .ref o_neighbours, .ref o_parents, .ref o_root])), (o_neighbours, .inl (cA 0, 24, .inl g_o_neighbours))]
set_option maxHeartbeats 4000000 in
set_option maxRecDepth 100000 in
/-- X4_neighboursOfAll: as its model -/
theorem c_X4_neighboursOfAll (l : Launch) (G : va_G) (cA : Nat → ClassId) (o o_area o_firstDay o_lastDay o_neighbours o_parents o_root : Nat) (p1 : Int32) (v_o_count : Int32) (g_o_neighbours : Nat → Int32) (R : Option (Int32)) (hR : m_X4_neighboursOfAll p1 v_o_count g_o_neighbours = R) (hz : R ≠ none) : Met l yX4_neighboursOfAll wsX4_neighboursOfAll ({ frames := 1, cells := 0, slots := 0, locals := 21 } : Room) (va_Pc [.ref o, .int p1] (PR G cA (k_X4_neighboursOfAll cA o o_area o_firstDay o_lastDay o_neighbours o_parents o_root v_o_count g_o_neighbours))) (vp_Si (fun r => R = some r)) 0 0 (fun _ => False) := by
  refine metR .int (by decide) rfl (Nat.le_of_ble_eq_true rfl) ?_
  intro p e s m av below meth c Q ls hx hb hml hts hown hP hK hl hret
  replace hl : lv_has ls 4 [(0, .ref o), (1, .int p1)] := hl
  have w_0 := hts (.fieldLink RX4 9 "ParcelRegistry$Parcels" "count" "I") (by decide +kernel)
  have w_1 := hts (.initialized RX7) (by decide +kernel)
  have w_2 := hts (.static yX7_isIn) (by decide +kernel)
  have w_3 := hts (.fieldLink RX4 25 "ParcelRegistry$Parcels" "neighbours" "[I") (by decide +kernel)
  have i_X4 : ∀ w ∈ wsX40, w ∈ wsX4_neighboursOfAll := by decide +kernel
  have hm := hR
  unfold m_X4_neighboursOfAll at hm
  refine lv_iconst (v := (0 : Int32)) hx hb dX4_neighboursOfAll_0 (by decide) ?_
  refine lv_istore_n (lv' := [(2, .int (0 : Int32)), (0, .ref o), (1, .int p1)]) hx hb dX4_neighboursOfAll_1 rfl hl (by decide) rfl (fun ls hl => ?_)
  refine lv_iconst (v := (0 : Int32)) hx hb dX4_neighboursOfAll_2 (by decide) ?_
  refine lv_istore_n (lv' := [(3, .int (0 : Int32)), (2, .int (0 : Int32)), (0, .ref o), (1, .int p1)]) hx hb dX4_neighboursOfAll_3 rfl hl (by decide) rfl (fun ls hl => ?_)
  have L4_1 : ∀ (n : Nat), ∀ (x_1 : Int32) (x_2 : Int32), ∀ (ls : Array Slot), fuel (m_X4_neighboursOfAll_L4 v_o_count g_o_neighbours p1) n (x_1, x_2) = R → lv_has ls 4 [(0, .ref o), (1, .int p1), (2, .int x_1), (3, .int x_2)] → W p l e ({ frames := 1, cells := 0, slots := 0, locals := 21 } : Room) s m av below meth c s.heap [] 0 0 Q (F0 m 4 ls []) := by
    intro n
    induction n with
    | zero =>
      intro x_1 x_2 ls hm hl
      exact (fu0 hm hz).elim
    | succ n ih4 =>
      intro x_1 x_2 ls hm hl
      replace hm := fus hm
      generalize fuel (m_X4_neighboursOfAll_L4 v_o_count g_o_neighbours p1) n = rec_3 at hm ih4
      unfold m_X4_neighboursOfAll_L4 at hm
      refine lv_iload_n hx hb dX4_neighboursOfAll_4 rfl (lv_at hl 3 rfl) ?_
      refine lv_aload_n hx hb dX4_neighboursOfAll_5 rfl (lv_at hl 0 rfl) ?_
      refine va_get (D := G) (ci := 6) (v := .int v_o_count) (C := RX4) (T := TX4) (N := 7) hx hb hts i_X4 hown hK.1 hP 0 rfl rfl 0 (by decide) w_0 (fun _ h9 => h9) rfl dX4_neighboursOfAll_6 ?_
      refine lv_icmp_ge (tgt := 35) hx hb dX4_neighboursOfAll_9 (by decide) (fun c_4 => ?_) (fun c_4 => ?_)
      · replace hm := it hm c_4
        refine lv_iload_n hx hb dX4_neighboursOfAll_35 rfl (lv_at hl 2 rfl) ?_
        exact hret _ _ _ dX4_neighboursOfAll_36 rfl hm.symm
      · replace hm := ie hm c_4
        refine lv_iload_n hx hb dX4_neighboursOfAll_12 rfl (lv_at hl 1 rfl) ?_
        refine lv_iload_n hx hb dX4_neighboursOfAll_13 rfl (lv_at hl 3 rfl) ?_
        refine vp_callSi (va_Run.run (va_runSN (As := [.int p1, .int x_2]) (rest := []) ⟨hx, hb, hml, hown, hts⟩ (c_X7_isIn l G cA p1 x_2 _ rfl (bnz hm hz)) ⟨va_cnB (host := "ParcelRegistry") 2 hts gX4_neighboursOfAll_X7_isIn_n48 rfl rfl rfl (hK.2 (RX4, 48, yX7_isIn) (List.mem_of_getElem? (i := 9) rfl)) w_1 (by decide +kernel) ⟨Nat.le_of_ble_eq_true rfl, Nat.le_of_ble_eq_true rfl⟩, w_2, trivial⟩ (preRS (hP.sub [] rfl) hK) rfl rfl hl.1 rfl (lv_room (Nat.le_of_ble_eq_true rfl)) dX4_neighboursOfAll_14 ⟨Nat.zero_le _, Nat.zero_le _⟩)) (fun r_5 hw => ?_)
        replace hm := bst hm hw.1
        refine lv_if_eq (tgt := 29) hx hb dX4_neighboursOfAll_17 (by decide) (fun c_6 => ?_) (fun c_6 => ?_)
        · replace hm := it hm c_6
          refine lv_iinc (v := x_2 + (1 : Int32)) (lv' := [(3, .int (x_2 + (1 : Int32))), (0, .ref o), (1, .int p1), (2, .int x_1)]) hx hb dX4_neighboursOfAll_29 hl (k := 3) rfl rfl (by decide) rfl (fun ls hl => ?_)
          refine lv_goto (tgt := 4) hx hb dX4_neighboursOfAll_32 (by decide) ?_
          exact ih4 x_1 (x_2 + (1 : Int32)) _ hm (lv_sub hl [1, 2, 3, 0] rfl)
        · replace hm := ie hm c_6
          refine lv_iload_n hx hb dX4_neighboursOfAll_20 rfl (lv_at hl 2 rfl) ?_
          refine lv_aload_n hx hb dX4_neighboursOfAll_21 rfl (lv_at hl 0 rfl) ?_
          refine va_get (D := G) (ci := 6) (v := .ref o_neighbours) (C := RX4) (T := TX4) (N := 7) hx hb hts i_X4 hown hK.1 hP 0 rfl rfl 4 (by decide) w_3 (fun _ h9 => h9) rfl dX4_neighboursOfAll_22 ?_
          refine lv_iload_n hx hb dX4_neighboursOfAll_25 rfl (lv_at hl 3 rfl) ?_
          replace hm := gdo hm hz
          obtain ⟨gi_7, hm⟩ := hm
          refine va_iald hx hb hK.1 hP 1 0 (cA := cA 0) (n := 24) (f := g_o_neighbours) rfl rfl (ixi gi_7) dX4_neighboursOfAll_26 ?_
          refine lv_ior hx hb dX4_neighboursOfAll_27 ?_
          refine lv_istore_n (lv' := [(2, .int (x_1 ||| (g_o_neighbours x_2.toNatClampNeg))), (0, .ref o), (1, .int p1), (3, .int x_2)]) hx hb dX4_neighboursOfAll_28 rfl hl (by decide) rfl (fun ls hl => ?_)
          refine lv_iinc (v := x_2 + (1 : Int32)) (lv' := [(3, .int (x_2 + (1 : Int32))), (2, .int (x_1 ||| (g_o_neighbours x_2.toNatClampNeg))), (0, .ref o), (1, .int p1)]) hx hb dX4_neighboursOfAll_29 hl (k := 3) rfl rfl (by decide) rfl (fun ls hl => ?_)
          refine lv_goto (tgt := 4) hx hb dX4_neighboursOfAll_32 (by decide) ?_
          exact ih4 (x_1 ||| (g_o_neighbours x_2.toNatClampNeg)) (x_2 + (1 : Int32)) _ hm (lv_sub hl [2, 3, 1, 0] rfl)
  exact L4_1 _ (0 : Int32) (0 : Int32) _ hm (lv_sub hl [2, 3, 1, 0] rfl)
def m_X4_stepsBetween_L7 (v_o_count : Int32) (g_o_neighbours : Nat → Int32) (p2 : Int32) : ((Int32 × Int32) → Option (Int32)) → (Int32 × Int32) → Option (Int32) := fun rec_3 v => match v with
  | (x_1, x_2) => (if (24 : Int32) ≤ x_2 then some (-1 : Int32) else Option.bind (m_X7_isIn x_1 p2) (fun r_5 => (if r_5 = 0 then Option.bind (m_X4_neighboursOfAll x_1 v_o_count g_o_neighbours) (fun r_7 => rec_3 (x_1 ||| r_7, x_2 + (1 : Int32))) else some x_2)))
def m_X4_stepsBetween (p1 : Int32) (p2 : Int32) (v_o_count : Int32) (g_o_neighbours : Nat → Int32) : Option (Int32) := fuel (m_X4_stepsBetween_L7 v_o_count g_o_neighbours p2) FU ((1 : Int32) <<< (p1 &&& 31), (0 : Int32))
abbrev k_X4_stepsBetween (cA : Nat → ClassId) (o o_area o_firstDay o_lastDay o_neighbours o_parents o_root : Nat) (v_o_count : Int32) (g_o_neighbours : Nat → Int32) : va_W := [(o, .inr (6, [.int v_o_count, .ref o_area, .ref o_firstDay, .ref o_lastDay, .ref o_neighbours, .ref o_parents, .ref o_root])), (o_neighbours, .inl (cA 0, 24, .inl g_o_neighbours))]
set_option maxHeartbeats 4000000 in
set_option maxRecDepth 100000 in
/-- X4_stepsBetween: as its model -/
theorem c_X4_stepsBetween (l : Launch) (G : va_G) (cA : Nat → ClassId) (o o_area o_firstDay o_lastDay o_neighbours o_parents o_root : Nat) (p1 : Int32) (p2 : Int32) (v_o_count : Int32) (g_o_neighbours : Nat → Int32) (R : Option (Int32)) (hR : m_X4_stepsBetween p1 p2 v_o_count g_o_neighbours = R) (hz : R ≠ none) : Met l yX4_stepsBetween wsX4_stepsBetween ({ frames := 2, cells := 0, slots := 0, locals := 44 } : Room) (va_Pc [.ref o, .int p1, .int p2] (PR G cA (k_X4_stepsBetween cA o o_area o_firstDay o_lastDay o_neighbours o_parents o_root v_o_count g_o_neighbours))) (vp_Si (fun r => R = some r)) 0 0 (fun _ => False) := by
  refine metR .int (by decide) rfl (Nat.le_of_ble_eq_true rfl) ?_
  intro p e s m av below meth c Q ls hx hb hml hts hown hP hK hl hret
  replace hl : lv_has ls 5 [(0, .ref o), (1, .int p1), (2, .int p2)] := hl
  have w_0 := hts (.initialized RX7) (by decide +kernel)
  have w_1 := hts (.static yX7_isIn) (by decide +kernel)
  have hm := hR
  unfold m_X4_stepsBetween at hm
  refine lv_iconst (v := (1 : Int32)) hx hb dX4_stepsBetween_0 (by decide) ?_
  refine lv_iload_n hx hb dX4_stepsBetween_1 rfl (lv_at hl 1 rfl) ?_
  refine lv_ishl hx hb dX4_stepsBetween_2 ?_
  refine lv_istore_n (lv' := [(3, .int ((1 : Int32) <<< (p1 &&& 31))), (0, .ref o), (1, .int p1), (2, .int p2)]) hx hb dX4_stepsBetween_3 rfl hl (by decide) rfl (fun ls hl => ?_)
  refine lv_iconst (v := (0 : Int32)) hx hb dX4_stepsBetween_4 (by decide) ?_
  refine lv_istore (lv' := [(4, .int (0 : Int32)), (3, .int ((1 : Int32) <<< (p1 &&& 31))), (0, .ref o), (1, .int p1), (2, .int p2)]) hx hb dX4_stepsBetween_5 hl (by decide) rfl (fun ls hl => ?_)
  have L7_1 : ∀ (n : Nat), ∀ (x_1 : Int32) (x_2 : Int32), ∀ (ls : Array Slot), fuel (m_X4_stepsBetween_L7 v_o_count g_o_neighbours p2) n (x_1, x_2) = R → lv_has ls 5 [(0, .ref o), (2, .int p2), (3, .int x_1), (4, .int x_2)] → W p l e ({ frames := 2, cells := 0, slots := 0, locals := 44 } : Room) s m av below meth c s.heap [] 0 0 Q (F0 m 7 ls []) := by
    intro n
    induction n with
    | zero =>
      intro x_1 x_2 ls hm hl
      exact (fu0 hm hz).elim
    | succ n ih7 =>
      intro x_1 x_2 ls hm hl
      replace hm := fus hm
      generalize fuel (m_X4_stepsBetween_L7 v_o_count g_o_neighbours p2) n = rec_3 at hm ih7
      unfold m_X4_stepsBetween_L7 at hm
      refine lv_iload hx hb dX4_stepsBetween_7 (lv_at hl 3 rfl) ?_
      refine lv_bipush (v := (24 : Int32)) hx hb dX4_stepsBetween_9 (by decide) ?_
      refine lv_icmp_ge (tgt := 39) hx hb dX4_stepsBetween_11 (by decide) (fun c_4 => ?_) (fun c_4 => ?_)
      · replace hm := it hm c_4
        refine lv_iconst (v := (-1 : Int32)) hx hb dX4_stepsBetween_39 (by decide) ?_
        exact hret _ _ _ dX4_stepsBetween_40 rfl hm.symm
      · replace hm := ie hm c_4
        refine lv_iload_n hx hb dX4_stepsBetween_14 rfl (lv_at hl 2 rfl) ?_
        refine lv_iload_n hx hb dX4_stepsBetween_15 rfl (lv_at hl 1 rfl) ?_
        refine vp_callSi (va_Run.run (va_runSN (As := [.int x_1, .int p2]) (rest := []) ⟨hx, hb, hml, hown, hts⟩ (c_X7_isIn l G cA x_1 p2 _ rfl (bnz hm hz)) ⟨va_cnB (host := "ParcelRegistry") 2 hts gX4_stepsBetween_X7_isIn_n48 rfl rfl rfl (hK.2 (RX4, 48, yX7_isIn) (List.mem_of_getElem? (i := 9) rfl)) w_0 (by decide +kernel) ⟨Nat.le_of_ble_eq_true rfl, Nat.le_of_ble_eq_true rfl⟩, w_1, trivial⟩ (preRS (hP.sub [] rfl) hK) rfl rfl hl.1 rfl (lv_room (Nat.le_of_ble_eq_true rfl)) dX4_stepsBetween_16 ⟨Nat.zero_le _, Nat.zero_le _⟩)) (fun r_5 hw => ?_)
        replace hm := bst hm hw.1
        refine lv_if_eq (tgt := 25) hx hb dX4_stepsBetween_19 (by decide) (fun c_6 => ?_) (fun c_6 => ?_)
        · replace hm := it hm c_6
          refine lv_iload_n hx hb dX4_stepsBetween_25 rfl (lv_at hl 2 rfl) ?_
          refine lv_aload_n hx hb dX4_stepsBetween_26 rfl (lv_at hl 0 rfl) ?_
          refine lv_iload_n hx hb dX4_stepsBetween_27 rfl (lv_at hl 2 rfl) ?_
          refine vp_callSi (va_Run.run (va_runV (As := [.int x_1]) (rest := [.int x_1]) ⟨hx, hb, hml, hown, hts⟩ (c_X4_neighboursOfAll l G cA o o_area o_firstDay o_lastDay o_neighbours o_parents o_root x_1 v_o_count g_o_neighbours _ rfl (bnz hm hz)) (cwV 1 hts gX4_stepsBetween_X4_neighboursOfAll rfl rfl rfl (by decide +kernel) ⟨Nat.le_of_ble_eq_true rfl, Nat.le_of_ble_eq_true rfl⟩) (preRV (q := (RX4, TX4, 7)) (hP.sub [0, 1] rfl) hK 0 rfl rfl) rfl rfl hl.1 rfl (lv_room (Nat.le_of_ble_eq_true rfl)) dX4_stepsBetween_28 ⟨Nat.zero_le _, Nat.zero_le _⟩)) (fun r_7 hw => ?_)
          replace hm := bst hm hw
          refine lv_ior hx hb dX4_stepsBetween_31 ?_
          refine lv_istore_n (lv' := [(3, .int (x_1 ||| r_7)), (0, .ref o), (2, .int p2), (4, .int x_2)]) hx hb dX4_stepsBetween_32 rfl hl (by decide) rfl (fun ls hl => ?_)
          refine lv_iinc (v := x_2 + (1 : Int32)) (lv' := [(4, .int (x_2 + (1 : Int32))), (3, .int (x_1 ||| r_7)), (0, .ref o), (2, .int p2)]) hx hb dX4_stepsBetween_33 hl (k := 3) rfl rfl (by decide) rfl (fun ls hl => ?_)
          refine lv_goto (tgt := 7) hx hb dX4_stepsBetween_36 (by decide) ?_
          exact ih7 (x_1 ||| r_7) (x_2 + (1 : Int32)) _ hm (lv_sub hl [2, 3, 1, 0] rfl)
        · replace hm := ie hm c_6
          refine lv_iload hx hb dX4_stepsBetween_22 (lv_at hl 3 rfl) ?_
          exact hret _ _ _ dX4_stepsBetween_24 rfl hm.symm
  exact L7_1 _ ((1 : Int32) <<< (p1 &&& 31)) (0 : Int32) _ hm (lv_sub hl [2, 4, 1, 0] rfl)
def m_J6_bitCount_0f7a4 (p1 : Int32) : Option (Int32) := nm (p1 - (((p1.toUInt32 >>> ((1 : Int32).toUInt32 &&& Int32.toUInt32 31)).toInt32) &&& (1431655765 : Int32))) (fun x_1 => nm ((x_1 &&& (858993459 : Int32)) + (((x_1.toUInt32 >>> ((2 : Int32).toUInt32 &&& Int32.toUInt32 31)).toInt32) &&& (858993459 : Int32))) (fun x_2 => nm ((x_2 + ((x_2.toUInt32 >>> ((4 : Int32).toUInt32 &&& Int32.toUInt32 31)).toInt32)) &&& (252645135 : Int32)) (fun x_3 => nm (x_3 + ((x_3.toUInt32 >>> ((8 : Int32).toUInt32 &&& Int32.toUInt32 31)).toInt32)) (fun x_4 => nm (x_4 + ((x_4.toUInt32 >>> ((16 : Int32).toUInt32 &&& Int32.toUInt32 31)).toInt32)) (fun x_5 => some (x_5 &&& (63 : Int32)))))))
abbrev k_J6_bitCount_0f7a4 (cA : Nat → ClassId)  : va_W := []
set_option maxHeartbeats 4000000 in
set_option maxRecDepth 100000 in
/-- J6_bitCount_0f7a4: as its model -/
theorem c_J6_bitCount_0f7a4 (l : Launch) (G : va_G) (cA : Nat → ClassId) (p1 : Int32) (R : Option (Int32)) (hR : m_J6_bitCount_0f7a4 p1 = R) (hz : R ≠ none) : Met l yJ6_bitCount_0f7a4 wsJ6_bitCount_0f7a4 ({ frames := 0, cells := 0, slots := 0, locals := 0 } : Room) (va_Pc [.int p1] (PR G cA (k_J6_bitCount_0f7a4 cA))) (vp_Si (fun r => R = some r)) 0 0 (fun _ => False) := by
  refine metR .int (by decide) rfl (Nat.le_of_ble_eq_true rfl) ?_
  intro p e s m av below meth c Q ls hx hb hml hts hown hP hK hl hret
  replace hl : lv_has ls 1 [(0, .int p1)] := hl
  have w_0 := hts (.constant RJ6 265 (1431655765)) (by decide +kernel)
  have w_1 := hts (.constant RJ6 266 (858993459)) (by decide +kernel)
  have w_2 := hts (.constant RJ6 267 (252645135)) (by decide +kernel)
  have hm := hR
  unfold m_J6_bitCount_0f7a4 at hm
  refine lv_iload_n hx hb dJ6_bitCount_0f7a4_0 rfl (lv_at hl 0 rfl) ?_
  refine lv_iload_n hx hb dJ6_bitCount_0f7a4_1 rfl (lv_at hl 0 rfl) ?_
  refine lv_iconst (v := (1 : Int32)) hx hb dJ6_bitCount_0f7a4_2 (by decide) ?_
  refine lv_iushr hx hb dJ6_bitCount_0f7a4_3 rfl ?_
  refine lv_ldcw (v := (1431655765 : Int32)) hx hb hown w_0 dJ6_bitCount_0f7a4_4 ?_
  refine lv_iand hx hb dJ6_bitCount_0f7a4_7 ?_
  refine lv_isub hx hb dJ6_bitCount_0f7a4_8 ?_
  refine lv_topi (fun x_1 e_x_1 => ?_)
  replace hm := nmo hm e_x_1
  refine lv_istore_n (lv' := [(0, .int x_1)]) hx hb dJ6_bitCount_0f7a4_9 rfl hl (by decide) rfl (fun ls hl => ?_)
  refine lv_iload_n hx hb dJ6_bitCount_0f7a4_10 rfl (lv_at hl 0 rfl) ?_
  refine lv_ldcw (v := (858993459 : Int32)) hx hb hown w_1 dJ6_bitCount_0f7a4_11 ?_
  refine lv_iand hx hb dJ6_bitCount_0f7a4_14 ?_
  refine lv_iload_n hx hb dJ6_bitCount_0f7a4_15 rfl (lv_at hl 0 rfl) ?_
  refine lv_iconst (v := (2 : Int32)) hx hb dJ6_bitCount_0f7a4_16 (by decide) ?_
  refine lv_iushr hx hb dJ6_bitCount_0f7a4_17 rfl ?_
  refine lv_ldcw (v := (858993459 : Int32)) hx hb hown w_1 dJ6_bitCount_0f7a4_18 ?_
  refine lv_iand hx hb dJ6_bitCount_0f7a4_21 ?_
  refine lv_iadd hx hb dJ6_bitCount_0f7a4_22 ?_
  refine lv_topi (fun x_2 e_x_2 => ?_)
  replace hm := nmo hm e_x_2
  refine lv_istore_n (lv' := [(0, .int x_2)]) hx hb dJ6_bitCount_0f7a4_23 rfl hl (by decide) rfl (fun ls hl => ?_)
  refine lv_iload_n hx hb dJ6_bitCount_0f7a4_24 rfl (lv_at hl 0 rfl) ?_
  refine lv_iload_n hx hb dJ6_bitCount_0f7a4_25 rfl (lv_at hl 0 rfl) ?_
  refine lv_iconst (v := (4 : Int32)) hx hb dJ6_bitCount_0f7a4_26 (by decide) ?_
  refine lv_iushr hx hb dJ6_bitCount_0f7a4_27 rfl ?_
  refine lv_iadd hx hb dJ6_bitCount_0f7a4_28 ?_
  refine lv_ldcw (v := (252645135 : Int32)) hx hb hown w_2 dJ6_bitCount_0f7a4_29 ?_
  refine lv_iand hx hb dJ6_bitCount_0f7a4_32 ?_
  refine lv_topi (fun x_3 e_x_3 => ?_)
  replace hm := nmo hm e_x_3
  refine lv_istore_n (lv' := [(0, .int x_3)]) hx hb dJ6_bitCount_0f7a4_33 rfl hl (by decide) rfl (fun ls hl => ?_)
  refine lv_iload_n hx hb dJ6_bitCount_0f7a4_34 rfl (lv_at hl 0 rfl) ?_
  refine lv_iload_n hx hb dJ6_bitCount_0f7a4_35 rfl (lv_at hl 0 rfl) ?_
  refine lv_bipush (v := (8 : Int32)) hx hb dJ6_bitCount_0f7a4_36 (by decide) ?_
  refine lv_iushr hx hb dJ6_bitCount_0f7a4_38 rfl ?_
  refine lv_iadd hx hb dJ6_bitCount_0f7a4_39 ?_
  refine lv_topi (fun x_4 e_x_4 => ?_)
  replace hm := nmo hm e_x_4
  refine lv_istore_n (lv' := [(0, .int x_4)]) hx hb dJ6_bitCount_0f7a4_40 rfl hl (by decide) rfl (fun ls hl => ?_)
  refine lv_iload_n hx hb dJ6_bitCount_0f7a4_41 rfl (lv_at hl 0 rfl) ?_
  refine lv_iload_n hx hb dJ6_bitCount_0f7a4_42 rfl (lv_at hl 0 rfl) ?_
  refine lv_bipush (v := (16 : Int32)) hx hb dJ6_bitCount_0f7a4_43 (by decide) ?_
  refine lv_iushr hx hb dJ6_bitCount_0f7a4_45 rfl ?_
  refine lv_iadd hx hb dJ6_bitCount_0f7a4_46 ?_
  refine lv_topi (fun x_5 e_x_5 => ?_)
  replace hm := nmo hm e_x_5
  refine lv_istore_n (lv' := [(0, .int x_5)]) hx hb dJ6_bitCount_0f7a4_47 rfl hl (by decide) rfl (fun ls hl => ?_)
  refine lv_iload_n hx hb dJ6_bitCount_0f7a4_48 rfl (lv_at hl 0 rfl) ?_
  refine lv_bipush (v := (63 : Int32)) hx hb dJ6_bitCount_0f7a4_49 (by decide) ?_
  refine lv_iand hx hb dJ6_bitCount_0f7a4_51 ?_
  exact hret _ _ _ dJ6_bitCount_0f7a4_52 rfl hm.symm
def m_X4_addedOnes_L4 (v_o_count : Int32) (g_o_parents : Nat → Int32) : ((Int32 × Int32) → Option (Int32)) → (Int32 × Int32) → Option (Int32) := fun rec_3 v => match v with
  | (x_1, x_2) => (if v_o_count ≤ x_2 then some x_1 else gd (ix x_2 24) ((if (g_o_parents x_2.toNatClampNeg) = 0 then rec_3 (x_1 ||| ((1 : Int32) <<< (x_2 &&& 31)), x_2 + (1 : Int32)) else rec_3 (x_1, x_2 + (1 : Int32)))))
def m_X4_addedOnes (v_o_count : Int32) (g_o_parents : Nat → Int32) : Option (Int32) := fuel (m_X4_addedOnes_L4 v_o_count g_o_parents) FU ((0 : Int32), (0 : Int32))
abbrev k_X4_addedOnes (cA : Nat → ClassId) (o o_area o_firstDay o_lastDay o_neighbours o_parents o_root : Nat) (v_o_count : Int32) (g_o_parents : Nat → Int32) : va_W := [(o, .inr (6, [.int v_o_count, .ref o_area, .ref o_firstDay, .ref o_lastDay, .ref o_neighbours, .ref o_parents, .ref o_root])), (o_parents, .inl (cA 0, 24, .inl g_o_parents))]
set_option maxHeartbeats 4000000 in
set_option maxRecDepth 100000 in
/-- X4_addedOnes: as its model -/
theorem c_X4_addedOnes (l : Launch) (G : va_G) (cA : Nat → ClassId) (o o_area o_firstDay o_lastDay o_neighbours o_parents o_root : Nat) (v_o_count : Int32) (g_o_parents : Nat → Int32) (R : Option (Int32)) (hR : m_X4_addedOnes v_o_count g_o_parents = R) (hz : R ≠ none) : Met l yX4_addedOnes wsX4_addedOnes ({ frames := 0, cells := 0, slots := 0, locals := 0 } : Room) (va_Pc [.ref o] (PR G cA (k_X4_addedOnes cA o o_area o_firstDay o_lastDay o_neighbours o_parents o_root v_o_count g_o_parents))) (vp_Si (fun r => R = some r)) 0 0 (fun _ => False) := by
  refine metR .int (by decide) rfl (Nat.le_of_ble_eq_true rfl) ?_
  intro p e s m av below meth c Q ls hx hb hml hts hown hP hK hl hret
  replace hl : lv_has ls 3 [(0, .ref o)] := hl
  have w_0 := hts (.fieldLink RX4 9 "ParcelRegistry$Parcels" "count" "I") (by decide +kernel)
  have w_1 := hts (.fieldLink RX4 28 "ParcelRegistry$Parcels" "parents" "[I") (by decide +kernel)
  have i_X4 : ∀ w ∈ wsX40, w ∈ wsX4_addedOnes := by decide +kernel
  have hm := hR
  unfold m_X4_addedOnes at hm
  refine lv_iconst (v := (0 : Int32)) hx hb dX4_addedOnes_0 (by decide) ?_
  refine lv_istore_n (lv' := [(1, .int (0 : Int32)), (0, .ref o)]) hx hb dX4_addedOnes_1 rfl hl (by decide) rfl (fun ls hl => ?_)
  refine lv_iconst (v := (0 : Int32)) hx hb dX4_addedOnes_2 (by decide) ?_
  refine lv_istore_n (lv' := [(2, .int (0 : Int32)), (1, .int (0 : Int32)), (0, .ref o)]) hx hb dX4_addedOnes_3 rfl hl (by decide) rfl (fun ls hl => ?_)
  have L4_1 : ∀ (n : Nat), ∀ (x_1 : Int32) (x_2 : Int32), ∀ (ls : Array Slot), fuel (m_X4_addedOnes_L4 v_o_count g_o_parents) n (x_1, x_2) = R → lv_has ls 3 [(0, .ref o), (1, .int x_1), (2, .int x_2)] → W p l e ({ frames := 0, cells := 0, slots := 0, locals := 0 } : Room) s m av below meth c s.heap [] 0 0 Q (F0 m 4 ls []) := by
    intro n
    induction n with
    | zero =>
      intro x_1 x_2 ls hm hl
      exact (fu0 hm hz).elim
    | succ n ih4 =>
      intro x_1 x_2 ls hm hl
      replace hm := fus hm
      generalize fuel (m_X4_addedOnes_L4 v_o_count g_o_parents) n = rec_3 at hm ih4
      unfold m_X4_addedOnes_L4 at hm
      refine lv_iload_n hx hb dX4_addedOnes_4 rfl (lv_at hl 2 rfl) ?_
      refine lv_aload_n hx hb dX4_addedOnes_5 rfl (lv_at hl 0 rfl) ?_
      refine va_get (D := G) (ci := 6) (v := .int v_o_count) (C := RX4) (T := TX4) (N := 7) hx hb hts i_X4 hown hK.1 hP 0 rfl rfl 0 (by decide) w_0 (fun _ h9 => h9) rfl dX4_addedOnes_6 ?_
      refine lv_icmp_ge (tgt := 33) hx hb dX4_addedOnes_9 (by decide) (fun c_4 => ?_) (fun c_4 => ?_)
      · replace hm := it hm c_4
        refine lv_iload_n hx hb dX4_addedOnes_33 rfl (lv_at hl 1 rfl) ?_
        exact hret _ _ _ dX4_addedOnes_34 rfl hm.symm
      · replace hm := ie hm c_4
        refine lv_aload_n hx hb dX4_addedOnes_12 rfl (lv_at hl 0 rfl) ?_
        refine va_get (D := G) (ci := 6) (v := .ref o_parents) (C := RX4) (T := TX4) (N := 7) hx hb hts i_X4 hown hK.1 hP 0 rfl rfl 5 (by decide) w_1 (fun _ h9 => h9) rfl dX4_addedOnes_13 ?_
        refine lv_iload_n hx hb dX4_addedOnes_16 rfl (lv_at hl 2 rfl) ?_
        replace hm := gdo hm hz
        obtain ⟨gi_5, hm⟩ := hm
        refine va_iald hx hb hK.1 hP 1 0 (cA := cA 0) (n := 24) (f := g_o_parents) rfl rfl (ixi gi_5) dX4_addedOnes_17 ?_
        refine lv_if_ne (tgt := 27) hx hb dX4_addedOnes_18 (by decide) (fun c_6 => ?_) (fun c_6 => ?_)
        · replace hm := ie hm c_6
          refine lv_iinc (v := x_2 + (1 : Int32)) (lv' := [(2, .int (x_2 + (1 : Int32))), (0, .ref o), (1, .int x_1)]) hx hb dX4_addedOnes_27 hl (k := 2) rfl rfl (by decide) rfl (fun ls hl => ?_)
          refine lv_goto (tgt := 4) hx hb dX4_addedOnes_30 (by decide) ?_
          exact ih4 x_1 (x_2 + (1 : Int32)) _ hm (lv_sub hl [1, 2, 0] rfl)
        · replace hm := it hm c_6
          refine lv_iload_n hx hb dX4_addedOnes_21 rfl (lv_at hl 1 rfl) ?_
          refine lv_iconst (v := (1 : Int32)) hx hb dX4_addedOnes_22 (by decide) ?_
          refine lv_iload_n hx hb dX4_addedOnes_23 rfl (lv_at hl 2 rfl) ?_
          refine lv_ishl hx hb dX4_addedOnes_24 ?_
          refine lv_ior hx hb dX4_addedOnes_25 ?_
          refine lv_istore_n (lv' := [(1, .int (x_1 ||| ((1 : Int32) <<< (x_2 &&& 31)))), (0, .ref o), (2, .int x_2)]) hx hb dX4_addedOnes_26 rfl hl (by decide) rfl (fun ls hl => ?_)
          refine lv_iinc (v := x_2 + (1 : Int32)) (lv' := [(2, .int (x_2 + (1 : Int32))), (1, .int (x_1 ||| ((1 : Int32) <<< (x_2 &&& 31)))), (0, .ref o)]) hx hb dX4_addedOnes_27 hl (k := 2) rfl rfl (by decide) rfl (fun ls hl => ?_)
          refine lv_goto (tgt := 4) hx hb dX4_addedOnes_30 (by decide) ?_
          exact ih4 (x_1 ||| ((1 : Int32) <<< (x_2 &&& 31))) (x_2 + (1 : Int32)) _ hm (lv_sub hl [2, 1, 0] rfl)
  exact L4_1 _ (0 : Int32) (0 : Int32) _ hm (lv_sub hl [2, 1, 0] rfl)
def m_X4_pairs_L4 (v_o_count : Int32) (g_o_neighbours : Nat → Int32) : ((Int32 × Int32) → Option (Int32)) → (Int32 × Int32) → Option (Int32) := fun rec_3 v => match v with
  | (x_1, x_2) => (if v_o_count ≤ x_2 then some (x_1 / (2 : Int32)) else gd (ix x_2 24) (Option.bind (m_J6_bitCount_0f7a4 (g_o_neighbours x_2.toNatClampNeg)) (fun r_6 => rec_3 (x_1 + r_6, x_2 + (1 : Int32)))))
def m_X4_pairs (v_o_count : Int32) (g_o_neighbours : Nat → Int32) : Option (Int32) := fuel (m_X4_pairs_L4 v_o_count g_o_neighbours) FU ((0 : Int32), (0 : Int32))
abbrev k_X4_pairs (cA : Nat → ClassId) (o o_area o_firstDay o_lastDay o_neighbours o_parents o_root : Nat) (v_o_count : Int32) (g_o_neighbours : Nat → Int32) : va_W := [(o, .inr (6, [.int v_o_count, .ref o_area, .ref o_firstDay, .ref o_lastDay, .ref o_neighbours, .ref o_parents, .ref o_root])), (o_neighbours, .inl (cA 0, 24, .inl g_o_neighbours))]
set_option maxHeartbeats 4000000 in
set_option maxRecDepth 100000 in
/-- X4_pairs: as its model -/
theorem c_X4_pairs (l : Launch) (G : va_G) (cA : Nat → ClassId) (o o_area o_firstDay o_lastDay o_neighbours o_parents o_root : Nat) (v_o_count : Int32) (g_o_neighbours : Nat → Int32) (R : Option (Int32)) (hR : m_X4_pairs v_o_count g_o_neighbours = R) (hz : R ≠ none) : Met l yX4_pairs wsX4_pairs ({ frames := 1, cells := 0, slots := 0, locals := 20 } : Room) (va_Pc [.ref o] (PR G cA (k_X4_pairs cA o o_area o_firstDay o_lastDay o_neighbours o_parents o_root v_o_count g_o_neighbours))) (vp_Si (fun r => R = some r)) 0 0 (fun _ => False) := by
  refine metR .int (by decide) rfl (Nat.le_of_ble_eq_true rfl) ?_
  intro p e s m av below meth c Q ls hx hb hml hts hown hP hK hl hret
  replace hl : lv_has ls 3 [(0, .ref o)] := hl
  have w_0 := hts (.fieldLink RX4 9 "ParcelRegistry$Parcels" "count" "I") (by decide +kernel)
  have w_1 := hts (.fieldLink RX4 25 "ParcelRegistry$Parcels" "neighbours" "[I") (by decide +kernel)
  have i_X4 : ∀ w ∈ wsX40, w ∈ wsX4_pairs := by decide +kernel
  have hm := hR
  unfold m_X4_pairs at hm
  refine lv_iconst (v := (0 : Int32)) hx hb dX4_pairs_0 (by decide) ?_
  refine lv_istore_n (lv' := [(1, .int (0 : Int32)), (0, .ref o)]) hx hb dX4_pairs_1 rfl hl (by decide) rfl (fun ls hl => ?_)
  refine lv_iconst (v := (0 : Int32)) hx hb dX4_pairs_2 (by decide) ?_
  refine lv_istore_n (lv' := [(2, .int (0 : Int32)), (1, .int (0 : Int32)), (0, .ref o)]) hx hb dX4_pairs_3 rfl hl (by decide) rfl (fun ls hl => ?_)
  have L4_1 : ∀ (n : Nat), ∀ (x_1 : Int32) (x_2 : Int32), ∀ (ls : Array Slot), fuel (m_X4_pairs_L4 v_o_count g_o_neighbours) n (x_1, x_2) = R → lv_has ls 3 [(0, .ref o), (1, .int x_1), (2, .int x_2)] → W p l e ({ frames := 1, cells := 0, slots := 0, locals := 20 } : Room) s m av below meth c s.heap [] 0 0 Q (F0 m 4 ls []) := by
    intro n
    induction n with
    | zero =>
      intro x_1 x_2 ls hm hl
      exact (fu0 hm hz).elim
    | succ n ih4 =>
      intro x_1 x_2 ls hm hl
      replace hm := fus hm
      generalize fuel (m_X4_pairs_L4 v_o_count g_o_neighbours) n = rec_3 at hm ih4
      unfold m_X4_pairs_L4 at hm
      refine lv_iload_n hx hb dX4_pairs_4 rfl (lv_at hl 2 rfl) ?_
      refine lv_aload_n hx hb dX4_pairs_5 rfl (lv_at hl 0 rfl) ?_
      refine va_get (D := G) (ci := 6) (v := .int v_o_count) (C := RX4) (T := TX4) (N := 7) hx hb hts i_X4 hown hK.1 hP 0 rfl rfl 0 (by decide) w_0 (fun _ h9 => h9) rfl dX4_pairs_6 ?_
      refine lv_icmp_ge (tgt := 30) hx hb dX4_pairs_9 (by decide) (fun c_4 => ?_) (fun c_4 => ?_)
      · replace hm := it hm c_4
        refine lv_iload_n hx hb dX4_pairs_30 rfl (lv_at hl 1 rfl) ?_
        refine lv_iconst (v := (2 : Int32)) hx hb dX4_pairs_31 (by decide) ?_
        refine lv_idiv hx hb dX4_pairs_32 (by decide) ?_
        exact hret _ _ _ dX4_pairs_33 rfl hm.symm
      · replace hm := ie hm c_4
        refine lv_iload_n hx hb dX4_pairs_12 rfl (lv_at hl 1 rfl) ?_
        refine lv_aload_n hx hb dX4_pairs_13 rfl (lv_at hl 0 rfl) ?_
        refine va_get (D := G) (ci := 6) (v := .ref o_neighbours) (C := RX4) (T := TX4) (N := 7) hx hb hts i_X4 hown hK.1 hP 0 rfl rfl 4 (by decide) w_1 (fun _ h9 => h9) rfl dX4_pairs_14 ?_
        refine lv_iload_n hx hb dX4_pairs_17 rfl (lv_at hl 2 rfl) ?_
        replace hm := gdo hm hz
        obtain ⟨gi_5, hm⟩ := hm
        refine va_iald hx hb hK.1 hP 1 0 (cA := cA 0) (n := 24) (f := g_o_neighbours) rfl rfl (ixi gi_5) dX4_pairs_18 ?_
        refine vp_callSi (va_Run.run (va_runS (As := [.int (g_o_neighbours x_2.toNatClampNeg)]) (rest := [.int x_1]) ⟨hx, hb, hml, hown, hts⟩ (c_J6_bitCount_0f7a4 l G cA (g_o_neighbours x_2.toNatClampNeg) _ rfl (bnz hm hz)) (va_cwS 1 hts gX4_pairs_J6_bitCount_0f7a4 rfl rfl rfl (by decide +kernel) ⟨Nat.le_of_ble_eq_true rfl, Nat.le_of_ble_eq_true rfl⟩) (preRS (hP.sub [] rfl) hK) rfl rfl hl.1 rfl (lv_room (Nat.le_of_ble_eq_true rfl)) dX4_pairs_19 ⟨Nat.zero_le _, Nat.zero_le _⟩)) (fun r_6 hw => ?_)
        replace hm := bst hm hw
        refine lv_iadd hx hb dX4_pairs_22 ?_
        refine lv_istore_n (lv' := [(1, .int (x_1 + r_6)), (0, .ref o), (2, .int x_2)]) hx hb dX4_pairs_23 rfl hl (by decide) rfl (fun ls hl => ?_)
        refine lv_iinc (v := x_2 + (1 : Int32)) (lv' := [(2, .int (x_2 + (1 : Int32))), (1, .int (x_1 + r_6)), (0, .ref o)]) hx hb dX4_pairs_24 hl (k := 2) rfl rfl (by decide) rfl (fun ls hl => ?_)
        refine lv_goto (tgt := 4) hx hb dX4_pairs_27 (by decide) ?_
        exact ih4 (x_1 + r_6) (x_2 + (1 : Int32)) _ hm (lv_sub hl [2, 1, 0] rfl)
  exact L4_1 _ (0 : Int32) (0 : Int32) _ hm (lv_sub hl [2, 1, 0] rfl)
