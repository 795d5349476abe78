/-! world: models and walks, by program. -/
def m_X6_empty  : Option (Int32 × Int32 × Int32 × Int32 × Int32 × Int32) := some ((0 : Int32), (0 : Int32), (0 : Int32), (0 : Int32), (0 : Int32), (0 : Int32))
abbrev k_X6_empty (cA : Nat → ClassId) (o o_parcels o_deeds o_easements o_liens o_parcels_area o_parcels_firstDay o_parcels_lastDay o_parcels_neighbours o_parcels_parents o_parcels_root o_deeds_parcelOf o_deeds_grantor o_deeds_grantee o_deeds_dayOf o_deeds_most o_easements_kind o_easements_on o_easements_serves o_easements_firstDay o_easements_lastDay o_liens_creditor o_liens_amount o_liens_parcels o_liens_ranking : Nat) (v_o_day : Int32) (v_o_parcels_count : Int32) (v_o_deeds_count : Int32) (v_o_easements_count : Int32) (v_o_liens_count : Int32) (v_o_liens_ranked : Int32) : va_W := [(o, .inr (8, [.int v_o_day, .ref o_parcels, .ref o_deeds, .ref o_easements, .ref o_liens])), (o_parcels, .inr (6, [.int v_o_parcels_count, .ref o_parcels_area, .ref o_parcels_firstDay, .ref o_parcels_lastDay, .ref o_parcels_neighbours, .ref o_parcels_parents, .ref o_parcels_root])), (o_deeds, .inr (2, [.int v_o_deeds_count, .ref o_deeds_parcelOf, .ref o_deeds_grantor, .ref o_deeds_grantee, .ref o_deeds_dayOf, .ref o_deeds_most])), (o_easements, .inr (3, [.int v_o_easements_count, .ref o_easements_kind, .ref o_easements_on, .ref o_easements_serves, .ref o_easements_firstDay, .ref o_easements_lastDay])), (o_liens, .inr (5, [.int v_o_liens_count, .int v_o_liens_ranked, .ref o_liens_creditor, .ref o_liens_amount, .ref o_liens_parcels, .ref o_liens_ranking]))]
set_option maxHeartbeats 4000000 in
set_option maxRecDepth 100000 in
/-- X6_empty: as its model -/
theorem c_X6_empty (l : Launch) (G : va_G) (cA : Nat → ClassId) (o o_parcels o_deeds o_easements o_liens o_parcels_area o_parcels_firstDay o_parcels_lastDay o_parcels_neighbours o_parcels_parents o_parcels_root o_deeds_parcelOf o_deeds_grantor o_deeds_grantee o_deeds_dayOf o_deeds_most o_easements_kind o_easements_on o_easements_serves o_easements_firstDay o_easements_lastDay o_liens_creditor o_liens_amount o_liens_parcels o_liens_ranking : Nat) (sz : Nat) (v_o_day : Int32) (v_o_parcels_count : Int32) (v_o_deeds_count : Int32) (v_o_easements_count : Int32) (v_o_liens_count : Int32) (v_o_liens_ranked : Int32) (R : Option (Int32 × Int32 × Int32 × Int32 × Int32 × Int32)) (hR : m_X6_empty = R) (hz : R ≠ none) : Met l yX6_empty wsX6_empty ({ frames := 0, cells := 0, slots := 0, locals := 0 } : Room) (va_Pc [.ref o] (PM G cA (k_X6_empty cA o o_parcels o_deeds o_easements o_liens o_parcels_area o_parcels_firstDay o_parcels_lastDay o_parcels_neighbours o_parcels_parents o_parcels_root o_deeds_parcelOf o_deeds_grantor o_deeds_grantee o_deeds_dayOf o_deeds_most o_easements_kind o_easements_on o_easements_serves o_easements_firstDay o_easements_lastDay o_liens_creditor o_liens_amount o_liens_parcels o_liens_ranking v_o_day v_o_parcels_count v_o_deeds_count v_o_easements_count v_o_liens_count v_o_liens_ranked) sz)) (va_Qv (fun (u : Int32 × Int32 × Int32 × Int32 × Int32 × Int32) => R = some u) (BM G (fun (u : Int32 × Int32 × Int32 × Int32 × Int32 × Int32) => (k_X6_empty cA o o_parcels o_deeds o_easements o_liens o_parcels_area o_parcels_firstDay o_parcels_lastDay o_parcels_neighbours o_parcels_parents o_parcels_root o_deeds_parcelOf o_deeds_grantor o_deeds_grantee o_deeds_dayOf o_deeds_most o_easements_kind o_easements_on o_easements_serves o_easements_firstDay o_easements_lastDay o_liens_creditor o_liens_amount o_liens_parcels o_liens_ranking u.1 u.2.1 u.2.2.1 u.2.2.2.1 u.2.2.2.2.1 u.2.2.2.2.2))) (va_A (k_X6_empty cA o o_parcels o_deeds o_easements o_liens o_parcels_area o_parcels_firstDay o_parcels_lastDay o_parcels_neighbours o_parcels_parents o_parcels_root o_deeds_parcelOf o_deeds_grantor o_deeds_grantee o_deeds_dayOf o_deeds_most o_easements_kind o_easements_on o_easements_serves o_easements_firstDay o_easements_lastDay o_liens_creditor o_liens_amount o_liens_parcels o_liens_ranking v_o_day v_o_parcels_count v_o_deeds_count v_o_easements_count v_o_liens_count v_o_liens_ranked) sz)) 0 0 (va_A (k_X6_empty cA o o_parcels o_deeds o_easements o_liens o_parcels_area o_parcels_firstDay o_parcels_lastDay o_parcels_neighbours o_parcels_parents o_parcels_root o_deeds_parcelOf o_deeds_grantor o_deeds_grantee o_deeds_dayOf o_deeds_most o_easements_kind o_easements_on o_easements_serves o_easements_firstDay o_easements_lastDay o_liens_creditor o_liens_amount o_liens_parcels o_liens_ranking v_o_day v_o_parcels_count v_o_deeds_count v_o_easements_count v_o_liens_count v_o_liens_ranked) sz) := by
  refine metV (by decide) rfl (Nat.le_of_ble_eq_true rfl) ?_
  intro p e s m av below meth c Q ls A H hx hb hml hts hown hP hK hD hA hS hl hret
  replace hl : lv_has ls 1 [(0, .ref o)] := hl
  have w_0 := hts (.fieldLink RX6 9 "ParcelRegistry$World" "day" "I") (by decide +kernel)
  have w_1 := hts (.fieldLink RX6 18 "ParcelRegistry$World" "parcels" "LParcelRegistry$Parcels;") (by decide +kernel)
  have w_2 := hts (.fieldLink RX6 56 "ParcelRegistry$Parcels" "count" "I") (by decide +kernel)
  have w_3 := hts (.fieldLink RX6 25 "ParcelRegistry$World" "deeds" "LParcelRegistry$Deeds;") (by decide +kernel)
  have w_4 := hts (.fieldLink RX6 59 "ParcelRegistry$Deeds" "count" "I") (by decide +kernel)
  have w_5 := hts (.fieldLink RX6 32 "ParcelRegistry$World" "easements" "LParcelRegistry$Easements;") (by decide +kernel)
  have w_6 := hts (.fieldLink RX6 60 "ParcelRegistry$Easements" "count" "I") (by decide +kernel)
  have w_7 := hts (.fieldLink RX6 39 "ParcelRegistry$World" "liens" "LParcelRegistry$Liens;") (by decide +kernel)
  have w_8 := hts (.fieldLink RX6 61 "ParcelRegistry$Liens" "count" "I") (by decide +kernel)
  have w_9 := hts (.fieldLink RX6 62 "ParcelRegistry$Liens" "ranked" "I") (by decide +kernel)
  have i_X0 : ∀ w ∈ wsX00, w ∈ wsX6_empty := by decide +kernel
  have i_X1 : ∀ w ∈ wsX10, w ∈ wsX6_empty := by decide +kernel
  have i_X3 : ∀ w ∈ wsX30, w ∈ wsX6_empty := by decide +kernel
  have i_X4 : ∀ w ∈ wsX40, w ∈ wsX6_empty := by decide +kernel
  have i_X6 : ∀ w ∈ wsX60, w ∈ wsX6_empty := by decide +kernel
  have hm := hR
  unfold m_X6_empty at hm
  refine lv_aload_n hx hb dX6_empty_0 rfl (lv_at hl 0 rfl) ?_
  refine lv_iconst (v := (0 : Int32)) hx hb dX6_empty_1 (by decide) ?_
  refine va_put (D := G) (ci := 8) (v := .int (0 : Int32)) (ty := .int) (C := RX6) (T := TX6) (N := 5) hx hb hts i_X6 tyX6 tyX6_ok nmX6 hown hK.1 hP hD hS 0 rfl rfl 0 (by decide) w_0 (fun _ h9 => h9) rfl (by decide +kernel) rfl rfl (Nat.le_of_ble_eq_true rfl) dX6_empty_2 (fun H locs hP' hD' hS' => ?_)
  replace hP : va_P G vwCl (k_X6_empty cA o o_parcels o_deeds o_easements o_liens o_parcels_area o_parcels_firstDay o_parcels_lastDay o_parcels_neighbours o_parcels_parents o_parcels_root o_deeds_parcelOf o_deeds_grantor o_deeds_grantee o_deeds_dayOf o_deeds_most o_easements_kind o_easements_on o_easements_serves o_easements_firstDay o_easements_lastDay o_liens_creditor o_liens_amount o_liens_parcels o_liens_ranking (0 : Int32) v_o_parcels_count v_o_deeds_count v_o_easements_count v_o_liens_count v_o_liens_ranked) H := hP'
  replace hD : va_D A (k_X6_empty cA o o_parcels o_deeds o_easements o_liens o_parcels_area o_parcels_firstDay o_parcels_lastDay o_parcels_neighbours o_parcels_parents o_parcels_root o_deeds_parcelOf o_deeds_grantor o_deeds_grantee o_deeds_dayOf o_deeds_most o_easements_kind o_easements_on o_easements_serves o_easements_firstDay o_easements_lastDay o_liens_creditor o_liens_amount o_liens_parcels o_liens_ranking (0 : Int32) v_o_parcels_count v_o_deeds_count v_o_easements_count v_o_liens_count v_o_liens_ranked) := hD'
  replace hS := hS'
  refine lv_aload_n hx hb dX6_empty_5 rfl (lv_at hl 0 rfl) ?_
  refine va_get (D := G) (ci := 8) (v := .ref o_parcels) (C := RX6) (T := TX6) (N := 5) hx hb hts i_X6 hown hK.1 hP 0 rfl rfl 1 (by decide) w_1 (fun _ h9 => h9) rfl dX6_empty_6 ?_
  refine lv_iconst (v := (0 : Int32)) hx hb dX6_empty_9 (by decide) ?_
  refine va_put (D := G) (ci := 6) (v := .int (0 : Int32)) (ty := .int) (C := RX4) (T := TX4) (N := 7) hx hb hts i_X4 tyX4 tyX4_ok nmX4 hown hK.1 hP hD hS 1 rfl rfl 0 (by decide) w_2 (fun _ h9 => h9) rfl (by decide +kernel) rfl rfl (Nat.le_of_ble_eq_true rfl) dX6_empty_10 (fun H locs hP' hD' hS' => ?_)
  replace hP : va_P G vwCl (k_X6_empty cA o o_parcels o_deeds o_easements o_liens o_parcels_area o_parcels_firstDay o_parcels_lastDay o_parcels_neighbours o_parcels_parents o_parcels_root o_deeds_parcelOf o_deeds_grantor o_deeds_grantee o_deeds_dayOf o_deeds_most o_easements_kind o_easements_on o_easements_serves o_easements_firstDay o_easements_lastDay o_liens_creditor o_liens_amount o_liens_parcels o_liens_ranking (0 : Int32) (0 : Int32) v_o_deeds_count v_o_easements_count v_o_liens_count v_o_liens_ranked) H := hP'
  replace hD : va_D A (k_X6_empty cA o o_parcels o_deeds o_easements o_liens o_parcels_area o_parcels_firstDay o_parcels_lastDay o_parcels_neighbours o_parcels_parents o_parcels_root o_deeds_parcelOf o_deeds_grantor o_deeds_grantee o_deeds_dayOf o_deeds_most o_easements_kind o_easements_on o_easements_serves o_easements_firstDay o_easements_lastDay o_liens_creditor o_liens_amount o_liens_parcels o_liens_ranking (0 : Int32) (0 : Int32) v_o_deeds_count v_o_easements_count v_o_liens_count v_o_liens_ranked) := hD'
  replace hS := hS'
  refine lv_aload_n hx hb dX6_empty_13 rfl (lv_at hl 0 rfl) ?_
  refine va_get (D := G) (ci := 8) (v := .ref o_deeds) (C := RX6) (T := TX6) (N := 5) hx hb hts i_X6 hown hK.1 hP 0 rfl rfl 2 (by decide) w_3 (fun _ h9 => h9) rfl dX6_empty_14 ?_
  refine lv_iconst (v := (0 : Int32)) hx hb dX6_empty_17 (by decide) ?_
  refine va_put (D := G) (ci := 2) (v := .int (0 : Int32)) (ty := .int) (C := RX0) (T := TX0) (N := 6) hx hb hts i_X0 tyX0 tyX0_ok nmX0 hown hK.1 hP hD hS 2 rfl rfl 0 (by decide) w_4 (fun _ h9 => h9) rfl (by decide +kernel) rfl rfl (Nat.le_of_ble_eq_true rfl) dX6_empty_18 (fun H locs hP' hD' hS' => ?_)
  replace hP : va_P G vwCl (k_X6_empty cA o o_parcels o_deeds o_easements o_liens o_parcels_area o_parcels_firstDay o_parcels_lastDay o_parcels_neighbours o_parcels_parents o_parcels_root o_deeds_parcelOf o_deeds_grantor o_deeds_grantee o_deeds_dayOf o_deeds_most o_easements_kind o_easements_on o_easements_serves o_easements_firstDay o_easements_lastDay o_liens_creditor o_liens_amount o_liens_parcels o_liens_ranking (0 : Int32) (0 : Int32) (0 : Int32) v_o_easements_count v_o_liens_count v_o_liens_ranked) H := hP'
  replace hD : va_D A (k_X6_empty cA o o_parcels o_deeds o_easements o_liens o_parcels_area o_parcels_firstDay o_parcels_lastDay o_parcels_neighbours o_parcels_parents o_parcels_root o_deeds_parcelOf o_deeds_grantor o_deeds_grantee o_deeds_dayOf o_deeds_most o_easements_kind o_easements_on o_easements_serves o_easements_firstDay o_easements_lastDay o_liens_creditor o_liens_amount o_liens_parcels o_liens_ranking (0 : Int32) (0 : Int32) (0 : Int32) v_o_easements_count v_o_liens_count v_o_liens_ranked) := hD'
  replace hS := hS'
  refine lv_aload_n hx hb dX6_empty_21 rfl (lv_at hl 0 rfl) ?_
  refine va_get (D := G) (ci := 8) (v := .ref o_easements) (C := RX6) (T := TX6) (N := 5) hx hb hts i_X6 hown hK.1 hP 0 rfl rfl 3 (by decide) w_5 (fun _ h9 => h9) rfl dX6_empty_22 ?_
  refine lv_iconst (v := (0 : Int32)) hx hb dX6_empty_25 (by decide) ?_
  refine va_put (D := G) (ci := 3) (v := .int (0 : Int32)) (ty := .int) (C := RX1) (T := TX1) (N := 6) hx hb hts i_X1 tyX1 tyX1_ok nmX1 hown hK.1 hP hD hS 3 rfl rfl 0 (by decide) w_6 (fun _ h9 => h9) rfl (by decide +kernel) rfl rfl (Nat.le_of_ble_eq_true rfl) dX6_empty_26 (fun H locs hP' hD' hS' => ?_)
  replace hP : va_P G vwCl (k_X6_empty cA o o_parcels o_deeds o_easements o_liens o_parcels_area o_parcels_firstDay o_parcels_lastDay o_parcels_neighbours o_parcels_parents o_parcels_root o_deeds_parcelOf o_deeds_grantor o_deeds_grantee o_deeds_dayOf o_deeds_most o_easements_kind o_easements_on o_easements_serves o_easements_firstDay o_easements_lastDay o_liens_creditor o_liens_amount o_liens_parcels o_liens_ranking (0 : Int32) (0 : Int32) (0 : Int32) (0 : Int32) v_o_liens_count v_o_liens_ranked) H := hP'
  replace hD : va_D A (k_X6_empty cA o o_parcels o_deeds o_easements o_liens o_parcels_area o_parcels_firstDay o_parcels_lastDay o_parcels_neighbours o_parcels_parents o_parcels_root o_deeds_parcelOf o_deeds_grantor o_deeds_grantee o_deeds_dayOf o_deeds_most o_easements_kind o_easements_on o_easements_serves o_easements_firstDay o_easements_lastDay o_liens_creditor o_liens_amount o_liens_parcels o_liens_ranking (0 : Int32) (0 : Int32) (0 : Int32) (0 : Int32) v_o_liens_count v_o_liens_ranked) := hD'
  replace hS := hS'
  refine lv_aload_n hx hb dX6_empty_29 rfl (lv_at hl 0 rfl) ?_
  refine va_get (D := G) (ci := 8) (v := .ref o_liens) (C := RX6) (T := TX6) (N := 5) hx hb hts i_X6 hown hK.1 hP 0 rfl rfl 4 (by decide) w_7 (fun _ h9 => h9) rfl dX6_empty_30 ?_
  refine lv_iconst (v := (0 : Int32)) hx hb dX6_empty_33 (by decide) ?_
  refine va_put (D := G) (ci := 5) (v := .int (0 : Int32)) (ty := .int) (C := RX3) (T := TX3) (N := 6) hx hb hts i_X3 tyX3 tyX3_ok nmX3 hown hK.1 hP hD hS 4 rfl rfl 0 (by decide) w_8 (fun _ h9 => h9) rfl (by decide +kernel) rfl rfl (Nat.le_of_ble_eq_true rfl) dX6_empty_34 (fun H locs hP' hD' hS' => ?_)
  replace hP : va_P G vwCl (k_X6_empty cA o o_parcels o_deeds o_easements o_liens o_parcels_area o_parcels_firstDay o_parcels_lastDay o_parcels_neighbours o_parcels_parents o_parcels_root o_deeds_parcelOf o_deeds_grantor o_deeds_grantee o_deeds_dayOf o_deeds_most o_easements_kind o_easements_on o_easements_serves o_easements_firstDay o_easements_lastDay o_liens_creditor o_liens_amount o_liens_parcels o_liens_ranking (0 : Int32) (0 : Int32) (0 : Int32) (0 : Int32) (0 : Int32) v_o_liens_ranked) H := hP'
  replace hD : va_D A (k_X6_empty cA o o_parcels o_deeds o_easements o_liens o_parcels_area o_parcels_firstDay o_parcels_lastDay o_parcels_neighbours o_parcels_parents o_parcels_root o_deeds_parcelOf o_deeds_grantor o_deeds_grantee o_deeds_dayOf o_deeds_most o_easements_kind o_easements_on o_easements_serves o_easements_firstDay o_easements_lastDay o_liens_creditor o_liens_amount o_liens_parcels o_liens_ranking (0 : Int32) (0 : Int32) (0 : Int32) (0 : Int32) (0 : Int32) v_o_liens_ranked) := hD'
  replace hS := hS'
  refine lv_aload_n hx hb dX6_empty_37 rfl (lv_at hl 0 rfl) ?_
  refine va_get (D := G) (ci := 8) (v := .ref o_liens) (C := RX6) (T := TX6) (N := 5) hx hb hts i_X6 hown hK.1 hP 0 rfl rfl 4 (by decide) w_7 (fun _ h9 => h9) rfl dX6_empty_38 ?_
  refine lv_iconst (v := (0 : Int32)) hx hb dX6_empty_41 (by decide) ?_
  refine va_put (D := G) (ci := 5) (v := .int (0 : Int32)) (ty := .int) (C := RX3) (T := TX3) (N := 6) hx hb hts i_X3 tyX3 tyX3_ok nmX3 hown hK.1 hP hD hS 4 rfl rfl 1 (by decide) w_9 (fun _ h9 => h9) rfl (by decide +kernel) rfl rfl (Nat.le_of_ble_eq_true rfl) dX6_empty_42 (fun H locs hP' hD' hS' => ?_)
  replace hP : va_P G vwCl (k_X6_empty cA o o_parcels o_deeds o_easements o_liens o_parcels_area o_parcels_firstDay o_parcels_lastDay o_parcels_neighbours o_parcels_parents o_parcels_root o_deeds_parcelOf o_deeds_grantor o_deeds_grantee o_deeds_dayOf o_deeds_most o_easements_kind o_easements_on o_easements_serves o_easements_firstDay o_easements_lastDay o_liens_creditor o_liens_amount o_liens_parcels o_liens_ranking (0 : Int32) (0 : Int32) (0 : Int32) (0 : Int32) (0 : Int32) (0 : Int32)) H := hP'
  replace hD : va_D A (k_X6_empty cA o o_parcels o_deeds o_easements o_liens o_parcels_area o_parcels_firstDay o_parcels_lastDay o_parcels_neighbours o_parcels_parents o_parcels_root o_deeds_parcelOf o_deeds_grantor o_deeds_grantee o_deeds_dayOf o_deeds_most o_easements_kind o_easements_on o_easements_serves o_easements_firstDay o_easements_lastDay o_liens_creditor o_liens_amount o_liens_parcels o_liens_ranking (0 : Int32) (0 : Int32) (0 : Int32) (0 : Int32) (0 : Int32) (0 : Int32)) := hD'
  replace hS := hS'
  exact hret _ _ ((0 : Int32), (0 : Int32), (0 : Int32), (0 : Int32), (0 : Int32), (0 : Int32)) _ _ dX6_empty_45 hP hS hm.symm
def m_X6_faultOfParcel (p1 : Int32) (p2 : Int32) (v_o_parcels_count : Int32) : Option (Int32) := Option.bind (m_X7_isFrom p1 (10 : Int32) (9999 : Int32)) (fun r_1 => (if r_1 = 0 then some (8 : Int32) else Option.bind (m_X7_isPerson p2) (fun r_3 => (if r_3 = 0 then some (8 : Int32) else (if (24 : Int32) ≤ v_o_parcels_count then some (9 : Int32) else some (0 : Int32))))))
abbrev k_X6_faultOfParcel (cA : Nat → ClassId) (o o_parcels o_deeds o_easements o_liens o_parcels_area o_parcels_firstDay o_parcels_lastDay o_parcels_neighbours o_parcels_parents o_parcels_root : Nat) (v_o_day : Int32) (v_o_parcels_count : Int32) : va_W := [(o, .inr (8, [.int v_o_day, .ref o_parcels, .ref o_deeds, .ref o_easements, .ref o_liens])), (o_parcels, .inr (6, [.int v_o_parcels_count, .ref o_parcels_area, .ref o_parcels_firstDay, .ref o_parcels_lastDay, .ref o_parcels_neighbours, .ref o_parcels_parents, .ref o_parcels_root]))]
set_option maxHeartbeats 4000000 in
set_option maxRecDepth 100000 in
/-- X6_faultOfParcel: as its model -/
theorem c_X6_faultOfParcel (l : Launch) (G : va_G) (cA : Nat → ClassId) (o o_parcels o_deeds o_easements o_liens o_parcels_area o_parcels_firstDay o_parcels_lastDay o_parcels_neighbours o_parcels_parents o_parcels_root : Nat) (p1 : Int32) (p2 : Int32) (v_o_day : Int32) (v_o_parcels_count : Int32) (R : Option (Int32)) (hR : m_X6_faultOfParcel p1 p2 v_o_parcels_count = R) (hz : R ≠ none) : Met l yX6_faultOfParcel wsX6_faultOfParcel ({ frames := 2, cells := 0, slots := 0, locals := 42 } : Room) (va_Pc [.ref o, .int p1, .int p2] (PR G cA (k_X6_faultOfParcel cA o o_parcels o_deeds o_easements o_liens o_parcels_area o_parcels_firstDay o_parcels_lastDay o_parcels_neighbours o_parcels_parents o_parcels_root v_o_day v_o_parcels_count))) (vp_Si (fun r => R = some r)) 0 0 (fun _ => False) := by
  refine metR .int (by decide) rfl (Nat.le_of_ble_eq_true rfl) ?_
  intro p e s m av below meth c Q ls hx hb hml hts hown hP hK hl hret
  replace hl : lv_has ls 3 [(0, .ref o), (1, .int p1), (2, .int p2)] := hl
  have w_0 := hts (.initialized RX7) (by decide +kernel)
  have w_1 := hts (.static yX7_isFrom) (by decide +kernel)
  have w_2 := hts (.static yX7_isPerson) (by decide +kernel)
  have w_3 := hts (.fieldLink RX6 18 "ParcelRegistry$World" "parcels" "LParcelRegistry$Parcels;") (by decide +kernel)
  have w_4 := hts (.fieldLink RX6 56 "ParcelRegistry$Parcels" "count" "I") (by decide +kernel)
  have i_X4 : ∀ w ∈ wsX40, w ∈ wsX6_faultOfParcel := by decide +kernel
  have i_X6 : ∀ w ∈ wsX60, w ∈ wsX6_faultOfParcel := by decide +kernel
  have hm := hR
  unfold m_X6_faultOfParcel at hm
  refine lv_iload_n hx hb dX6_faultOfParcel_0 rfl (lv_at hl 1 rfl) ?_
  refine lv_bipush (v := (10 : Int32)) hx hb dX6_faultOfParcel_1 (by decide) ?_
  refine lv_sipush (v := (9999 : Int32)) hx hb dX6_faultOfParcel_3 (by decide) ?_
  refine vp_callSi (va_Run.run (va_runSN (As := [.int p1, .int (10 : Int32), .int (9999 : Int32)]) (rest := []) ⟨hx, hb, hml, hown, hts⟩ (c_X7_isFrom l G cA p1 (10 : Int32) (9999 : Int32) _ rfl (bnz hm hz)) ⟨va_cnB (host := "ParcelRegistry") 3 hts gX6_faultOfParcel_X7_isFrom_n94 rfl rfl rfl (hK.2 (RX6, 94, yX7_isFrom) (List.mem_of_getElem? (i := 7) rfl)) w_0 (by decide +kernel) ⟨Nat.le_of_ble_eq_true rfl, Nat.le_of_ble_eq_true rfl⟩, w_1, trivial⟩ (preRS (hP.sub [] rfl) hK) rfl rfl hl.1 rfl (lv_room (Nat.le_of_ble_eq_true rfl)) dX6_faultOfParcel_6 ⟨Nat.zero_le _, Nat.zero_le _⟩)) (fun r_1 hw => ?_)
  replace hm := bst hm hw.1
  refine lv_if_eq (tgt := 19) hx hb dX6_faultOfParcel_9 (by decide) (fun c_2 => ?_) (fun c_2 => ?_)
  · replace hm := it hm c_2
    refine lv_bipush (v := (8 : Int32)) hx hb dX6_faultOfParcel_19 (by decide) ?_
    exact hret _ _ _ dX6_faultOfParcel_21 rfl hm.symm
  · replace hm := ie hm c_2
    refine lv_iload_n hx hb dX6_faultOfParcel_12 rfl (lv_at hl 2 rfl) ?_
    refine vp_callSi (va_Run.run (va_runSN (As := [.int p2]) (rest := []) ⟨hx, hb, hml, hown, hts⟩ (c_X7_isPerson l G cA p2 _ rfl (bnz hm hz)) ⟨va_cnB (host := "ParcelRegistry") 1 hts gX6_faultOfParcel_X7_isPerson_n104 rfl rfl rfl (hK.2 (RX6, 104, yX7_isPerson) (List.mem_of_getElem? (i := 8) rfl)) w_0 (by decide +kernel) ⟨Nat.le_of_ble_eq_true rfl, Nat.le_of_ble_eq_true rfl⟩, w_2, trivial⟩ (preRS (hP.sub [] rfl) hK) rfl rfl hl.1 rfl (lv_room (Nat.le_of_ble_eq_true rfl)) dX6_faultOfParcel_13 ⟨Nat.zero_le _, Nat.zero_le _⟩)) (fun r_3 hw => ?_)
    replace hm := bst hm hw.1
    refine lv_if_ne (tgt := 22) hx hb dX6_faultOfParcel_16 (by decide) (fun c_4 => ?_) (fun c_4 => ?_)
    · replace hm := ie hm c_4
      refine lv_aload_n hx hb dX6_faultOfParcel_22 rfl (lv_at hl 0 rfl) ?_
      refine va_get (D := G) (ci := 8) (v := .ref o_parcels) (C := RX6) (T := TX6) (N := 5) hx hb hts i_X6 hown hK.1 hP 0 rfl rfl 1 (by decide) w_3 (fun _ h9 => h9) rfl dX6_faultOfParcel_23 ?_
      refine va_get (D := G) (ci := 6) (v := .int v_o_parcels_count) (C := RX4) (T := TX4) (N := 7) hx hb hts i_X4 hown hK.1 hP 1 rfl rfl 0 (by decide) w_4 (fun _ h9 => h9) rfl dX6_faultOfParcel_26 ?_
      refine lv_bipush (v := (24 : Int32)) hx hb dX6_faultOfParcel_29 (by decide) ?_
      refine lv_icmp_ge (tgt := 38) hx hb dX6_faultOfParcel_31 (by decide) (fun c_5 => ?_) (fun c_5 => ?_)
      · replace hm := it hm c_5
        refine lv_bipush (v := (9 : Int32)) hx hb dX6_faultOfParcel_38 (by decide) ?_
        exact hret _ _ _ dX6_faultOfParcel_40 rfl hm.symm
      · replace hm := ie hm c_5
        refine lv_iconst (v := (0 : Int32)) hx hb dX6_faultOfParcel_34 (by decide) ?_
        refine lv_goto (tgt := 40) hx hb dX6_faultOfParcel_35 (by decide) ?_
        exact hret _ _ _ dX6_faultOfParcel_40 rfl hm.symm
    · replace hm := it hm c_4
      refine lv_bipush (v := (8 : Int32)) hx hb dX6_faultOfParcel_19 (by decide) ?_
      exact hret _ _ _ dX6_faultOfParcel_21 rfl hm.symm
def m_X6_copyFrom (g_o_parcels_area : Nat → Int32) (g_o_parcels_firstDay : Nat → Int32) (g_o_parcels_lastDay : Nat → Int32) (g_o_parcels_neighbours : Nat → Int32) (g_o_parcels_parents : Nat → Int32) (g_o_parcels_root : Nat → Int32) (g_o_deeds_parcelOf : Nat → Int32) (g_o_deeds_grantor : Nat → Int32) (g_o_deeds_grantee : Nat → Int32) (g_o_deeds_dayOf : Nat → Int32) (g_o_easements_kind : Nat → Int32) (g_o_easements_on : Nat → Int32) (g_o_easements_serves : Nat → Int32) (g_o_easements_firstDay : Nat → Int32) (g_o_easements_lastDay : Nat → Int32) (g_o_liens_creditor : Nat → Int32) (g_o_liens_amount : Nat → Int32) (g_o_liens_parcels : Nat → Int32) (g_o_liens_ranking : Nat → Int32) (v_q1_day : Int32) (v_q1_parcels_count : Int32) (g_q1_parcels_area : Nat → Int32) (g_q1_parcels_firstDay : Nat → Int32) (g_q1_parcels_lastDay : Nat → Int32) (g_q1_parcels_neighbours : Nat → Int32) (g_q1_parcels_parents : Nat → Int32) (g_q1_parcels_root : Nat → Int32) (v_q1_deeds_count : Int32) (g_q1_deeds_parcelOf : Nat → Int32) (g_q1_deeds_grantor : Nat → Int32) (g_q1_deeds_grantee : Nat → Int32) (g_q1_deeds_dayOf : Nat → Int32) (v_q1_easements_count : Int32) (g_q1_easements_kind : Nat → Int32) (g_q1_easements_on : Nat → Int32) (g_q1_easements_serves : Nat → Int32) (g_q1_easements_firstDay : Nat → Int32) (g_q1_easements_lastDay : Nat → Int32) (v_q1_liens_count : Int32) (v_q1_liens_ranked : Int32) (g_q1_liens_creditor : Nat → Int32) (g_q1_liens_amount : Nat → Int32) (g_q1_liens_parcels : Nat → Int32) (g_q1_liens_ranking : Nat → Int32) : Option (Int32 × Int32 × (Nat → Int32) × (Nat → Int32) × (Nat → Int32) × (Nat → Int32) × (Nat → Int32) × (Nat → Int32) × Int32 × (Nat → Int32) × (Nat → Int32) × (Nat → Int32) × (Nat → Int32) × Int32 × (Nat → Int32) × (Nat → Int32) × (Nat → Int32) × (Nat → Int32) × (Nat → Int32) × Int32 × Int32 × (Nat → Int32) × (Nat → Int32) × (Nat → Int32) × (Nat → Int32)) := Option.bind (m_X4_copyFrom g_o_parcels_area g_o_parcels_firstDay g_o_parcels_lastDay g_o_parcels_neighbours g_o_parcels_parents g_o_parcels_root v_q1_parcels_count g_q1_parcels_area g_q1_parcels_firstDay g_q1_parcels_lastDay g_q1_parcels_neighbours g_q1_parcels_parents g_q1_parcels_root) (fun q => match q with
  | (v_1, g_2, g_3, g_4, g_5, g_6, g_7) => Option.bind (m_X0_copyFrom g_o_deeds_parcelOf g_o_deeds_grantor g_o_deeds_grantee g_o_deeds_dayOf v_q1_deeds_count g_q1_deeds_parcelOf g_q1_deeds_grantor g_q1_deeds_grantee g_q1_deeds_dayOf) (fun q => match q with
  | (v_8, g_9, g_10, g_11, g_12) => Option.bind (m_X1_copyFrom g_o_easements_kind g_o_easements_on g_o_easements_serves g_o_easements_firstDay g_o_easements_lastDay v_q1_easements_count g_q1_easements_kind g_q1_easements_on g_q1_easements_serves g_q1_easements_firstDay g_q1_easements_lastDay) (fun q => match q with
  | (v_13, g_14, g_15, g_16, g_17, g_18) => Option.bind (m_X3_copyFrom g_o_liens_creditor g_o_liens_amount g_o_liens_parcels g_o_liens_ranking v_q1_liens_count v_q1_liens_ranked g_q1_liens_creditor g_q1_liens_amount g_q1_liens_parcels g_q1_liens_ranking) (fun q => match q with
  | (v_19, v_20, g_21, g_22, g_23, g_24) => some (v_q1_day, v_1, g_2, g_3, g_4, g_5, g_6, g_7, v_8, g_9, g_10, g_11, g_12, v_13, g_14, g_15, g_16, g_17, g_18, v_19, v_20, g_21, g_22, g_23, g_24)))))
abbrev k_X6_copyFrom (cA : Nat → ClassId) (o o_parcels o_deeds o_easements o_liens o_parcels_area o_parcels_firstDay o_parcels_lastDay o_parcels_neighbours o_parcels_parents o_parcels_root o_deeds_parcelOf o_deeds_grantor o_deeds_grantee o_deeds_dayOf o_deeds_most o_easements_kind o_easements_on o_easements_serves o_easements_firstDay o_easements_lastDay o_liens_creditor o_liens_amount o_liens_parcels o_liens_ranking q1 q1_parcels q1_deeds q1_easements q1_liens q1_parcels_area q1_parcels_firstDay q1_parcels_lastDay q1_parcels_neighbours q1_parcels_parents q1_parcels_root q1_deeds_parcelOf q1_deeds_grantor q1_deeds_grantee q1_deeds_dayOf q1_deeds_most q1_easements_kind q1_easements_on q1_easements_serves q1_easements_firstDay q1_easements_lastDay q1_liens_creditor q1_liens_amount q1_liens_parcels q1_liens_ranking : Nat) (v_o_day : Int32) (v_o_parcels_count : Int32) (g_o_parcels_area : Nat → Int32) (g_o_parcels_firstDay : Nat → Int32) (g_o_parcels_lastDay : Nat → Int32) (g_o_parcels_neighbours : Nat → Int32) (g_o_parcels_parents : Nat → Int32) (g_o_parcels_root : Nat → Int32) (v_o_deeds_count : Int32) (g_o_deeds_parcelOf : Nat → Int32) (g_o_deeds_grantor : Nat → Int32) (g_o_deeds_grantee : Nat → Int32) (g_o_deeds_dayOf : Nat → Int32) (v_o_easements_count : Int32) (g_o_easements_kind : Nat → Int32) (g_o_easements_on : Nat → Int32) (g_o_easements_serves : Nat → Int32) (g_o_easements_firstDay : Nat → Int32) (g_o_easements_lastDay : Nat → Int32) (v_o_liens_count : Int32) (v_o_liens_ranked : Int32) (g_o_liens_creditor : Nat → Int32) (g_o_liens_amount : Nat → Int32) (g_o_liens_parcels : Nat → Int32) (g_o_liens_ranking : Nat → Int32) (v_q1_day : Int32) (v_q1_parcels_count : Int32) (g_q1_parcels_area : Nat → Int32) (g_q1_parcels_firstDay : Nat → Int32) (g_q1_parcels_lastDay : Nat → Int32) (g_q1_parcels_neighbours : Nat → Int32) (g_q1_parcels_parents : Nat → Int32) (g_q1_parcels_root : Nat → Int32) (v_q1_deeds_count : Int32) (g_q1_deeds_parcelOf : Nat → Int32) (g_q1_deeds_grantor : Nat → Int32) (g_q1_deeds_grantee : Nat → Int32) (g_q1_deeds_dayOf : Nat → Int32) (v_q1_easements_count : Int32) (g_q1_easements_kind : Nat → Int32) (g_q1_easements_on : Nat → Int32) (g_q1_easements_serves : Nat → Int32) (g_q1_easements_firstDay : Nat → Int32) (g_q1_easements_lastDay : Nat → Int32) (v_q1_liens_count : Int32) (v_q1_liens_ranked : Int32) (g_q1_liens_creditor : Nat → Int32) (g_q1_liens_amount : Nat → Int32) (g_q1_liens_parcels : Nat → Int32) (g_q1_liens_ranking : Nat → Int32) : va_W := [(o, .inr (8, [.int v_o_day, .ref o_parcels, .ref o_deeds, .ref o_easements, .ref o_liens])), (o_parcels, .inr (6, [.int v_o_parcels_count, .ref o_parcels_area, .ref o_parcels_firstDay, .ref o_parcels_lastDay, .ref o_parcels_neighbours, .ref o_parcels_parents, .ref o_parcels_root])), (o_parcels_area, .inl (cA 0, 24, .inl g_o_parcels_area)), (o_parcels_firstDay, .inl (cA 0, 24, .inl g_o_parcels_firstDay)), (o_parcels_lastDay, .inl (cA 0, 24, .inl g_o_parcels_lastDay)), (o_parcels_neighbours, .inl (cA 0, 24, .inl g_o_parcels_neighbours)), (o_parcels_parents, .inl (cA 0, 24, .inl g_o_parcels_parents)), (o_parcels_root, .inl (cA 0, 24, .inl g_o_parcels_root)), (o_deeds, .inr (2, [.int v_o_deeds_count, .ref o_deeds_parcelOf, .ref o_deeds_grantor, .ref o_deeds_grantee, .ref o_deeds_dayOf, .ref o_deeds_most])), (o_deeds_parcelOf, .inl (cA 0, 60, .inl g_o_deeds_parcelOf)), (o_deeds_grantor, .inl (cA 0, 60, .inl g_o_deeds_grantor)), (o_deeds_grantee, .inl (cA 0, 60, .inl g_o_deeds_grantee)), (o_deeds_dayOf, .inl (cA 0, 60, .inl g_o_deeds_dayOf)), (o_easements, .inr (3, [.int v_o_easements_count, .ref o_easements_kind, .ref o_easements_on, .ref o_easements_serves, .ref o_easements_firstDay, .ref o_easements_lastDay])), (o_easements_kind, .inl (cA 0, 30, .inl g_o_easements_kind)), (o_easements_on, .inl (cA 0, 30, .inl g_o_easements_on)), (o_easements_serves, .inl (cA 0, 30, .inl g_o_easements_serves)), (o_easements_firstDay, .inl (cA 0, 30, .inl g_o_easements_firstDay)), (o_easements_lastDay, .inl (cA 0, 30, .inl g_o_easements_lastDay)), (o_liens, .inr (5, [.int v_o_liens_count, .int v_o_liens_ranked, .ref o_liens_creditor, .ref o_liens_amount, .ref o_liens_parcels, .ref o_liens_ranking])), (o_liens_creditor, .inl (cA 0, 20, .inl g_o_liens_creditor)), (o_liens_amount, .inl (cA 0, 20, .inl g_o_liens_amount)), (o_liens_parcels, .inl (cA 0, 20, .inl g_o_liens_parcels)), (o_liens_ranking, .inl (cA 0, 20, .inl g_o_liens_ranking)), (q1, .inr (8, [.int v_q1_day, .ref q1_parcels, .ref q1_deeds, .ref q1_easements, .ref q1_liens])), (q1_parcels, .inr (6, [.int v_q1_parcels_count, .ref q1_parcels_area, .ref q1_parcels_firstDay, .ref q1_parcels_lastDay, .ref q1_parcels_neighbours, .ref q1_parcels_parents, .ref q1_parcels_root])), (q1_parcels_area, .inl (cA 0, 24, .inl g_q1_parcels_area)), (q1_parcels_firstDay, .inl (cA 0, 24, .inl g_q1_parcels_firstDay)), (q1_parcels_lastDay, .inl (cA 0, 24, .inl g_q1_parcels_lastDay)), (q1_parcels_neighbours, .inl (cA 0, 24, .inl g_q1_parcels_neighbours)), (q1_parcels_parents, .inl (cA 0, 24, .inl g_q1_parcels_parents)), (q1_parcels_root, .inl (cA 0, 24, .inl g_q1_parcels_root)), (q1_deeds, .inr (2, [.int v_q1_deeds_count, .ref q1_deeds_parcelOf, .ref q1_deeds_grantor, .ref q1_deeds_grantee, .ref q1_deeds_dayOf, .ref q1_deeds_most])), (q1_deeds_parcelOf, .inl (cA 0, 60, .inl g_q1_deeds_parcelOf)), (q1_deeds_grantor, .inl (cA 0, 60, .inl g_q1_deeds_grantor)), (q1_deeds_grantee, .inl (cA 0, 60, .inl g_q1_deeds_grantee)), (q1_deeds_dayOf, .inl (cA 0, 60, .inl g_q1_deeds_dayOf)), (q1_easements, .inr (3, [.int v_q1_easements_count, .ref q1_easements_kind, .ref q1_easements_on, .ref q1_easements_serves, .ref q1_easements_firstDay, .ref q1_easements_lastDay])), (q1_easements_kind, .inl (cA 0, 30, .inl g_q1_easements_kind)), (q1_easements_on, .inl (cA 0, 30, .inl g_q1_easements_on)), (q1_easements_serves, .inl (cA 0, 30, .inl g_q1_easements_serves)), (q1_easements_firstDay, .inl (cA 0, 30, .inl g_q1_easements_firstDay)), (q1_easements_lastDay, .inl (cA 0, 30, .inl g_q1_easements_lastDay)), (q1_liens, .inr (5, [.int v_q1_liens_count, .int v_q1_liens_ranked, .ref q1_liens_creditor, .ref q1_liens_amount, .ref q1_liens_parcels, .ref q1_liens_ranking])), (q1_liens_creditor, .inl (cA 0, 20, .inl g_q1_liens_creditor)), (q1_liens_amount, .inl (cA 0, 20, .inl g_q1_liens_amount)), (q1_liens_parcels, .inl (cA 0, 20, .inl g_q1_liens_parcels)), (q1_liens_ranking, .inl (cA 0, 20, .inl g_q1_liens_ranking))]
set_option maxHeartbeats 4000000 in
set_option maxRecDepth 100000 in
/-- X6_copyFrom: as its model -/
theorem c_X6_copyFrom (l : Launch) (G : va_G) (cA : Nat → ClassId) (o o_parcels o_deeds o_easements o_liens o_parcels_area o_parcels_firstDay o_parcels_lastDay o_parcels_neighbours o_parcels_parents o_parcels_root o_deeds_parcelOf o_deeds_grantor o_deeds_grantee o_deeds_dayOf o_deeds_most o_easements_kind o_easements_on o_easements_serves o_easements_firstDay o_easements_lastDay o_liens_creditor o_liens_amount o_liens_parcels o_liens_ranking q1 q1_parcels q1_deeds q1_easements q1_liens q1_parcels_area q1_parcels_firstDay q1_parcels_lastDay q1_parcels_neighbours q1_parcels_parents q1_parcels_root q1_deeds_parcelOf q1_deeds_grantor q1_deeds_grantee q1_deeds_dayOf q1_deeds_most q1_easements_kind q1_easements_on q1_easements_serves q1_easements_firstDay q1_easements_lastDay q1_liens_creditor q1_liens_amount q1_liens_parcels q1_liens_ranking : Nat) (sz : Nat) (v_o_day : Int32) (v_o_parcels_count : Int32) (g_o_parcels_area : Nat → Int32) (g_o_parcels_firstDay : Nat → Int32) (g_o_parcels_lastDay : Nat → Int32) (g_o_parcels_neighbours : Nat → Int32) (g_o_parcels_parents : Nat → Int32) (g_o_parcels_root : Nat → Int32) (v_o_deeds_count : Int32) (g_o_deeds_parcelOf : Nat → Int32) (g_o_deeds_grantor : Nat → Int32) (g_o_deeds_grantee : Nat → Int32) (g_o_deeds_dayOf : Nat → Int32) (v_o_easements_count : Int32) (g_o_easements_kind : Nat → Int32) (g_o_easements_on : Nat → Int32) (g_o_easements_serves : Nat → Int32) (g_o_easements_firstDay : Nat → Int32) (g_o_easements_lastDay : Nat → Int32) (v_o_liens_count : Int32) (v_o_liens_ranked : Int32) (g_o_liens_creditor : Nat → Int32) (g_o_liens_amount : Nat → Int32) (g_o_liens_parcels : Nat → Int32) (g_o_liens_ranking : Nat → Int32) (v_q1_day : Int32) (v_q1_parcels_count : Int32) (g_q1_parcels_area : Nat → Int32) (g_q1_parcels_firstDay : Nat → Int32) (g_q1_parcels_lastDay : Nat → Int32) (g_q1_parcels_neighbours : Nat → Int32) (g_q1_parcels_parents : Nat → Int32) (g_q1_parcels_root : Nat → Int32) (v_q1_deeds_count : Int32) (g_q1_deeds_parcelOf : Nat → Int32) (g_q1_deeds_grantor : Nat → Int32) (g_q1_deeds_grantee : Nat → Int32) (g_q1_deeds_dayOf : Nat → Int32) (v_q1_easements_count : Int32) (g_q1_easements_kind : Nat → Int32) (g_q1_easements_on : Nat → Int32) (g_q1_easements_serves : Nat → Int32) (g_q1_easements_firstDay : Nat → Int32) (g_q1_easements_lastDay : Nat → Int32) (v_q1_liens_count : Int32) (v_q1_liens_ranked : Int32) (g_q1_liens_creditor : Nat → Int32) (g_q1_liens_amount : Nat → Int32) (g_q1_liens_parcels : Nat → Int32) (g_q1_liens_ranking : Nat → Int32) (R : Option (Int32 × Int32 × (Nat → Int32) × (Nat → Int32) × (Nat → Int32) × (Nat → Int32) × (Nat → Int32) × (Nat → Int32) × Int32 × (Nat → Int32) × (Nat → Int32) × (Nat → Int32) × (Nat → Int32) × Int32 × (Nat → Int32) × (Nat → Int32) × (Nat → Int32) × (Nat → Int32) × (Nat → Int32) × Int32 × Int32 × (Nat → Int32) × (Nat → Int32) × (Nat → Int32) × (Nat → Int32))) (hR : m_X6_copyFrom g_o_parcels_area g_o_parcels_firstDay g_o_parcels_lastDay g_o_parcels_neighbours g_o_parcels_parents g_o_parcels_root g_o_deeds_parcelOf g_o_deeds_grantor g_o_deeds_grantee g_o_deeds_dayOf g_o_easements_kind g_o_easements_on g_o_easements_serves g_o_easements_firstDay g_o_easements_lastDay g_o_liens_creditor g_o_liens_amount g_o_liens_parcels g_o_liens_ranking v_q1_day v_q1_parcels_count g_q1_parcels_area g_q1_parcels_firstDay g_q1_parcels_lastDay g_q1_parcels_neighbours g_q1_parcels_parents g_q1_parcels_root v_q1_deeds_count g_q1_deeds_parcelOf g_q1_deeds_grantor g_q1_deeds_grantee g_q1_deeds_dayOf v_q1_easements_count g_q1_easements_kind g_q1_easements_on g_q1_easements_serves g_q1_easements_firstDay g_q1_easements_lastDay v_q1_liens_count v_q1_liens_ranked g_q1_liens_creditor g_q1_liens_amount g_q1_liens_parcels g_q1_liens_ranking = R) (hz : R ≠ none) : Met l yX6_copyFrom wsX6_copyFrom ({ frames := 2, cells := 0, slots := 0, locals := 61 } : Room) (va_Pc [.ref o, .ref q1] (PM G cA (k_X6_copyFrom cA o o_parcels o_deeds o_easements o_liens o_parcels_area o_parcels_firstDay o_parcels_lastDay o_parcels_neighbours o_parcels_parents o_parcels_root o_deeds_parcelOf o_deeds_grantor o_deeds_grantee o_deeds_dayOf o_deeds_most o_easements_kind o_easements_on o_easements_serves o_easements_firstDay o_easements_lastDay o_liens_creditor o_liens_amount o_liens_parcels o_liens_ranking q1 q1_parcels q1_deeds q1_easements q1_liens q1_parcels_area q1_parcels_firstDay q1_parcels_lastDay q1_parcels_neighbours q1_parcels_parents q1_parcels_root q1_deeds_parcelOf q1_deeds_grantor q1_deeds_grantee q1_deeds_dayOf q1_deeds_most q1_easements_kind q1_easements_on q1_easements_serves q1_easements_firstDay q1_easements_lastDay q1_liens_creditor q1_liens_amount q1_liens_parcels q1_liens_ranking v_o_day v_o_parcels_count g_o_parcels_area g_o_parcels_firstDay g_o_parcels_lastDay g_o_parcels_neighbours g_o_parcels_parents g_o_parcels_root v_o_deeds_count g_o_deeds_parcelOf g_o_deeds_grantor g_o_deeds_grantee g_o_deeds_dayOf v_o_easements_count g_o_easements_kind g_o_easements_on g_o_easements_serves g_o_easements_firstDay g_o_easements_lastDay v_o_liens_count v_o_liens_ranked g_o_liens_creditor g_o_liens_amount g_o_liens_parcels g_o_liens_ranking v_q1_day v_q1_parcels_count g_q1_parcels_area g_q1_parcels_firstDay g_q1_parcels_lastDay g_q1_parcels_neighbours g_q1_parcels_parents g_q1_parcels_root v_q1_deeds_count g_q1_deeds_parcelOf g_q1_deeds_grantor g_q1_deeds_grantee g_q1_deeds_dayOf v_q1_easements_count g_q1_easements_kind g_q1_easements_on g_q1_easements_serves g_q1_easements_firstDay g_q1_easements_lastDay v_q1_liens_count v_q1_liens_ranked g_q1_liens_creditor g_q1_liens_amount g_q1_liens_parcels g_q1_liens_ranking) sz)) (va_Qv (fun (u : Int32 × Int32 × (Nat → Int32) × (Nat → Int32) × (Nat → Int32) × (Nat → Int32) × (Nat → Int32) × (Nat → Int32) × Int32 × (Nat → Int32) × (Nat → Int32) × (Nat → Int32) × (Nat → Int32) × Int32 × (Nat → Int32) × (Nat → Int32) × (Nat → Int32) × (Nat → Int32) × (Nat → Int32) × Int32 × Int32 × (Nat → Int32) × (Nat → Int32) × (Nat → Int32) × (Nat → Int32)) => R = some u) (BM G (fun (u : Int32 × Int32 × (Nat → Int32) × (Nat → Int32) × (Nat → Int32) × (Nat → Int32) × (Nat → Int32) × (Nat → Int32) × Int32 × (Nat → Int32) × (Nat → Int32) × (Nat → Int32) × (Nat → Int32) × Int32 × (Nat → Int32) × (Nat → Int32) × (Nat → Int32) × (Nat → Int32) × (Nat → Int32) × Int32 × Int32 × (Nat → Int32) × (Nat → Int32) × (Nat → Int32) × (Nat → Int32)) => (k_X6_copyFrom cA o o_parcels o_deeds o_easements o_liens o_parcels_area o_parcels_firstDay o_parcels_lastDay o_parcels_neighbours o_parcels_parents o_parcels_root o_deeds_parcelOf o_deeds_grantor o_deeds_grantee o_deeds_dayOf o_deeds_most o_easements_kind o_easements_on o_easements_serves o_easements_firstDay o_easements_lastDay o_liens_creditor o_liens_amount o_liens_parcels o_liens_ranking q1 q1_parcels q1_deeds q1_easements q1_liens q1_parcels_area q1_parcels_firstDay q1_parcels_lastDay q1_parcels_neighbours q1_parcels_parents q1_parcels_root q1_deeds_parcelOf q1_deeds_grantor q1_deeds_grantee q1_deeds_dayOf q1_deeds_most q1_easements_kind q1_easements_on q1_easements_serves q1_easements_firstDay q1_easements_lastDay q1_liens_creditor q1_liens_amount q1_liens_parcels q1_liens_ranking u.1 u.2.1 u.2.2.1 u.2.2.2.1 u.2.2.2.2.1 u.2.2.2.2.2.1 u.2.2.2.2.2.2.1 u.2.2.2.2.2.2.2.1 u.2.2.2.2.2.2.2.2.1 u.2.2.2.2.2.2.2.2.2.1 u.2.2.2.2.2.2.2.2.2.2.1 u.2.2.2.2.2.2.2.2.2.2.2.1 u.2.2.2.2.2.2.2.2.2.2.2.2.1 u.2.2.2.2.2.2.2.2.2.2.2.2.2.1 u.2.2.2.2.2.2.2.2.2.2.2.2.2.2.1 u.2.2.2.2.2.2.2.2.2.2.2.2.2.2.2.1 u.2.2.2.2.2.2.2.2.2.2.2.2.2.2.2.2.1 u.2.2.2.2.2.2.2.2.2.2.2.2.2.2.2.2.2.1 u.2.2.2.2.2.2.2.2.2.2.2.2.2.2.2.2.2.2.1 u.2.2.2.2.2.2.2.2.2.2.2.2.2.2.2.2.2.2.2.1 u.2.2.2.2.2.2.2.2.2.2.2.2.2.2.2.2.2.2.2.2.1 u.2.2.2.2.2.2.2.2.2.2.2.2.2.2.2.2.2.2.2.2.2.1 u.2.2.2.2.2.2.2.2.2.2.2.2.2.2.2.2.2.2.2.2.2.2.1 u.2.2.2.2.2.2.2.2.2.2.2.2.2.2.2.2.2.2.2.2.2.2.2.1 u.2.2.2.2.2.2.2.2.2.2.2.2.2.2.2.2.2.2.2.2.2.2.2.2 v_q1_day v_q1_parcels_count g_q1_parcels_area g_q1_parcels_firstDay g_q1_parcels_lastDay g_q1_parcels_neighbours g_q1_parcels_parents g_q1_parcels_root v_q1_deeds_count g_q1_deeds_parcelOf g_q1_deeds_grantor g_q1_deeds_grantee g_q1_deeds_dayOf v_q1_easements_count g_q1_easements_kind g_q1_easements_on g_q1_easements_serves g_q1_easements_firstDay g_q1_easements_lastDay v_q1_liens_count v_q1_liens_ranked g_q1_liens_creditor g_q1_liens_amount g_q1_liens_parcels g_q1_liens_ranking))) (va_A (k_X6_copyFrom cA o o_parcels o_deeds o_easements o_liens o_parcels_area o_parcels_firstDay o_parcels_lastDay o_parcels_neighbours o_parcels_parents o_parcels_root o_deeds_parcelOf o_deeds_grantor o_deeds_grantee o_deeds_dayOf o_deeds_most o_easements_kind o_easements_on o_easements_serves o_easements_firstDay o_easements_lastDay o_liens_creditor o_liens_amount o_liens_parcels o_liens_ranking q1 q1_parcels q1_deeds q1_easements q1_liens q1_parcels_area q1_parcels_firstDay q1_parcels_lastDay q1_parcels_neighbours q1_parcels_parents q1_parcels_root q1_deeds_parcelOf q1_deeds_grantor q1_deeds_grantee q1_deeds_dayOf q1_deeds_most q1_easements_kind q1_easements_on q1_easements_serves q1_easements_firstDay q1_easements_lastDay q1_liens_creditor q1_liens_amount q1_liens_parcels q1_liens_ranking v_o_day v_o_parcels_count g_o_parcels_area g_o_parcels_firstDay g_o_parcels_lastDay g_o_parcels_neighbours g_o_parcels_parents g_o_parcels_root v_o_deeds_count g_o_deeds_parcelOf g_o_deeds_grantor g_o_deeds_grantee g_o_deeds_dayOf v_o_easements_count g_o_easements_kind g_o_easements_on g_o_easements_serves g_o_easements_firstDay g_o_easements_lastDay v_o_liens_count v_o_liens_ranked g_o_liens_creditor g_o_liens_amount g_o_liens_parcels g_o_liens_ranking v_q1_day v_q1_parcels_count g_q1_parcels_area g_q1_parcels_firstDay g_q1_parcels_lastDay g_q1_parcels_neighbours g_q1_parcels_parents g_q1_parcels_root v_q1_deeds_count g_q1_deeds_parcelOf g_q1_deeds_grantor g_q1_deeds_grantee g_q1_deeds_dayOf v_q1_easements_count g_q1_easements_kind g_q1_easements_on g_q1_easements_serves g_q1_easements_firstDay g_q1_easements_lastDay v_q1_liens_count v_q1_liens_ranked g_q1_liens_creditor g_q1_liens_amount g_q1_liens_parcels g_q1_liens_ranking) sz)) 0 0 (va_A (k_X6_copyFrom cA o o_parcels o_deeds o_easements o_liens o_parcels_area o_parcels_firstDay o_parcels_lastDay o_parcels_neighbours o_parcels_parents o_parcels_root o_deeds_parcelOf o_deeds_grantor o_deeds_grantee o_deeds_dayOf o_deeds_most o_easements_kind o_easements_on o_easements_serves o_easements_firstDay o_easements_lastDay o_liens_creditor o_liens_amount o_liens_parcels o_liens_ranking q1 q1_parcels q1_deeds q1_easements q1_liens q1_parcels_area q1_parcels_firstDay q1_parcels_lastDay q1_parcels_neighbours q1_parcels_parents q1_parcels_root q1_deeds_parcelOf q1_deeds_grantor q1_deeds_grantee q1_deeds_dayOf q1_deeds_most q1_easements_kind q1_easements_on q1_easements_serves q1_easements_firstDay q1_easements_lastDay q1_liens_creditor q1_liens_amount q1_liens_parcels q1_liens_ranking v_o_day v_o_parcels_count g_o_parcels_area g_o_parcels_firstDay g_o_parcels_lastDay g_o_parcels_neighbours g_o_parcels_parents g_o_parcels_root v_o_deeds_count g_o_deeds_parcelOf g_o_deeds_grantor g_o_deeds_grantee g_o_deeds_dayOf v_o_easements_count g_o_easements_kind g_o_easements_on g_o_easements_serves g_o_easements_firstDay g_o_easements_lastDay v_o_liens_count v_o_liens_ranked g_o_liens_creditor g_o_liens_amount g_o_liens_parcels g_o_liens_ranking v_q1_day v_q1_parcels_count g_q1_parcels_area g_q1_parcels_firstDay g_q1_parcels_lastDay g_q1_parcels_neighbours g_q1_parcels_parents g_q1_parcels_root v_q1_deeds_count g_q1_deeds_parcelOf g_q1_deeds_grantor g_q1_deeds_grantee g_q1_deeds_dayOf v_q1_easements_count g_q1_easements_kind g_q1_easements_on g_q1_easements_serves g_q1_easements_firstDay g_q1_easements_lastDay v_q1_liens_count v_q1_liens_ranked g_q1_liens_creditor g_q1_liens_amount g_q1_liens_parcels g_q1_liens_ranking) sz) := by
  refine metV (by decide) rfl (Nat.le_of_ble_eq_true rfl) ?_
  intro p e s m av below meth c Q ls A H hx hb hml hts hown hP hK hD hA hS hl hret
  replace hl : lv_has ls 2 [(0, .ref o), (1, .ref q1)] := hl
  have w_0 := hts (.fieldLink RX6 9 "ParcelRegistry$World" "day" "I") (by decide +kernel)
  have w_1 := hts (.fieldLink RX6 18 "ParcelRegistry$World" "parcels" "LParcelRegistry$Parcels;") (by decide +kernel)
  have w_2 := hts (.fieldLink RX6 25 "ParcelRegistry$World" "deeds" "LParcelRegistry$Deeds;") (by decide +kernel)
  have w_3 := hts (.fieldLink RX6 32 "ParcelRegistry$World" "easements" "LParcelRegistry$Easements;") (by decide +kernel)
  have w_4 := hts (.fieldLink RX6 39 "ParcelRegistry$World" "liens" "LParcelRegistry$Liens;") (by decide +kernel)
  have i_X6 : ∀ w ∈ wsX60, w ∈ wsX6_copyFrom := by decide +kernel
  have hm := hR
  unfold m_X6_copyFrom at hm
  refine lv_aload_n hx hb dX6_copyFrom_0 rfl (lv_at hl 0 rfl) ?_
  refine lv_aload_n hx hb dX6_copyFrom_1 rfl (lv_at hl 1 rfl) ?_
  refine va_get (D := G) (ci := 8) (v := .int v_q1_day) (C := RX6) (T := TX6) (N := 5) hx hb hts i_X6 hown hK.1 hP 24 rfl rfl 0 (by decide) w_0 (fun _ h9 => h9) rfl dX6_copyFrom_2 ?_
  refine va_put (D := G) (ci := 8) (v := .int v_q1_day) (ty := .int) (C := RX6) (T := TX6) (N := 5) hx hb hts i_X6 tyX6 tyX6_ok nmX6 hown hK.1 hP hD hS 0 rfl rfl 0 (by decide) w_0 (fun _ h9 => h9) rfl (by decide +kernel) rfl rfl (Nat.le_of_ble_eq_true rfl) dX6_copyFrom_5 (fun H locs hP' hD' hS' => ?_)
  replace hP : va_P G vwCl (k_X6_copyFrom cA o o_parcels o_deeds o_easements o_liens o_parcels_area o_parcels_firstDay o_parcels_lastDay o_parcels_neighbours o_parcels_parents o_parcels_root o_deeds_parcelOf o_deeds_grantor o_deeds_grantee o_deeds_dayOf o_deeds_most o_easements_kind o_easements_on o_easements_serves o_easements_firstDay o_easements_lastDay o_liens_creditor o_liens_amount o_liens_parcels o_liens_ranking q1 q1_parcels q1_deeds q1_easements q1_liens q1_parcels_area q1_parcels_firstDay q1_parcels_lastDay q1_parcels_neighbours q1_parcels_parents q1_parcels_root q1_deeds_parcelOf q1_deeds_grantor q1_deeds_grantee q1_deeds_dayOf q1_deeds_most q1_easements_kind q1_easements_on q1_easements_serves q1_easements_firstDay q1_easements_lastDay q1_liens_creditor q1_liens_amount q1_liens_parcels q1_liens_ranking v_q1_day v_o_parcels_count g_o_parcels_area g_o_parcels_firstDay g_o_parcels_lastDay g_o_parcels_neighbours g_o_parcels_parents g_o_parcels_root v_o_deeds_count g_o_deeds_parcelOf g_o_deeds_grantor g_o_deeds_grantee g_o_deeds_dayOf v_o_easements_count g_o_easements_kind g_o_easements_on g_o_easements_serves g_o_easements_firstDay g_o_easements_lastDay v_o_liens_count v_o_liens_ranked g_o_liens_creditor g_o_liens_amount g_o_liens_parcels g_o_liens_ranking v_q1_day v_q1_parcels_count g_q1_parcels_area g_q1_parcels_firstDay g_q1_parcels_lastDay g_q1_parcels_neighbours g_q1_parcels_parents g_q1_parcels_root v_q1_deeds_count g_q1_deeds_parcelOf g_q1_deeds_grantor g_q1_deeds_grantee g_q1_deeds_dayOf v_q1_easements_count g_q1_easements_kind g_q1_easements_on g_q1_easements_serves g_q1_easements_firstDay g_q1_easements_lastDay v_q1_liens_count v_q1_liens_ranked g_q1_liens_creditor g_q1_liens_amount g_q1_liens_parcels g_q1_liens_ranking) H := hP'
  replace hD : va_D A (k_X6_copyFrom cA o o_parcels o_deeds o_easements o_liens o_parcels_area o_parcels_firstDay o_parcels_lastDay o_parcels_neighbours o_parcels_parents o_parcels_root o_deeds_parcelOf o_deeds_grantor o_deeds_grantee o_deeds_dayOf o_deeds_most o_easements_kind o_easements_on o_easements_serves o_easements_firstDay o_easements_lastDay o_liens_creditor o_liens_amount o_liens_parcels o_liens_ranking q1 q1_parcels q1_deeds q1_easements q1_liens q1_parcels_area q1_parcels_firstDay q1_parcels_lastDay q1_parcels_neighbours q1_parcels_parents q1_parcels_root q1_deeds_parcelOf q1_deeds_grantor q1_deeds_grantee q1_deeds_dayOf q1_deeds_most q1_easements_kind q1_easements_on q1_easements_serves q1_easements_firstDay q1_easements_lastDay q1_liens_creditor q1_liens_amount q1_liens_parcels q1_liens_ranking v_q1_day v_o_parcels_count g_o_parcels_area g_o_parcels_firstDay g_o_parcels_lastDay g_o_parcels_neighbours g_o_parcels_parents g_o_parcels_root v_o_deeds_count g_o_deeds_parcelOf g_o_deeds_grantor g_o_deeds_grantee g_o_deeds_dayOf v_o_easements_count g_o_easements_kind g_o_easements_on g_o_easements_serves g_o_easements_firstDay g_o_easements_lastDay v_o_liens_count v_o_liens_ranked g_o_liens_creditor g_o_liens_amount g_o_liens_parcels g_o_liens_ranking v_q1_day v_q1_parcels_count g_q1_parcels_area g_q1_parcels_firstDay g_q1_parcels_lastDay g_q1_parcels_neighbours g_q1_parcels_parents g_q1_parcels_root v_q1_deeds_count g_q1_deeds_parcelOf g_q1_deeds_grantor g_q1_deeds_grantee g_q1_deeds_dayOf v_q1_easements_count g_q1_easements_kind g_q1_easements_on g_q1_easements_serves g_q1_easements_firstDay g_q1_easements_lastDay v_q1_liens_count v_q1_liens_ranked g_q1_liens_creditor g_q1_liens_amount g_q1_liens_parcels g_q1_liens_ranking) := hD'
  replace hS := hS'
  refine lv_aload_n hx hb dX6_copyFrom_8 rfl (lv_at hl 0 rfl) ?_
  refine va_get (D := G) (ci := 8) (v := .ref o_parcels) (C := RX6) (T := TX6) (N := 5) hx hb hts i_X6 hown hK.1 hP 0 rfl rfl 1 (by decide) w_1 (fun _ h9 => h9) rfl dX6_copyFrom_9 ?_
  refine lv_aload_n hx hb dX6_copyFrom_12 rfl (lv_at hl 1 rfl) ?_
  refine va_get (D := G) (ci := 8) (v := .ref q1_parcels) (C := RX6) (T := TX6) (N := 5) hx hb hts i_X6 hown hK.1 hP 24 rfl rfl 1 (by decide) w_1 (fun _ h9 => h9) rfl dX6_copyFrom_13 ?_
  have hPc := hP.sub (ws' := (k_X4_copyFrom cA o_parcels o_parcels_area o_parcels_firstDay o_parcels_lastDay o_parcels_neighbours o_parcels_parents o_parcels_root q1_parcels q1_parcels_area q1_parcels_firstDay q1_parcels_lastDay q1_parcels_neighbours q1_parcels_parents q1_parcels_root v_o_parcels_count g_o_parcels_area g_o_parcels_firstDay g_o_parcels_lastDay g_o_parcels_neighbours g_o_parcels_parents g_o_parcels_root v_q1_parcels_count g_q1_parcels_area g_q1_parcels_firstDay g_q1_parcels_lastDay g_q1_parcels_neighbours g_q1_parcels_parents g_q1_parcels_root)) [1, 2, 3, 4, 5, 6, 7, 25, 26, 27, 28, 29, 30, 31] rfl
  have hDc := hD.sub (ws' := (k_X4_copyFrom cA o_parcels o_parcels_area o_parcels_firstDay o_parcels_lastDay o_parcels_neighbours o_parcels_parents o_parcels_root q1_parcels q1_parcels_area q1_parcels_firstDay q1_parcels_lastDay q1_parcels_neighbours q1_parcels_parents q1_parcels_root v_o_parcels_count g_o_parcels_area g_o_parcels_firstDay g_o_parcels_lastDay g_o_parcels_neighbours g_o_parcels_parents g_o_parcels_root v_q1_parcels_count g_q1_parcels_area g_q1_parcels_firstDay g_q1_parcels_lastDay g_q1_parcels_neighbours g_q1_parcels_parents g_q1_parcels_root)) [1, 2, 3, 4, 5, 6, 7, 25, 26, 27, 28, 29, 30, 31] (by decide) rfl
  have hFc := va_free (wc := (k_X4_copyFrom cA o_parcels o_parcels_area o_parcels_firstDay o_parcels_lastDay o_parcels_neighbours o_parcels_parents o_parcels_root q1_parcels q1_parcels_area q1_parcels_firstDay q1_parcels_lastDay q1_parcels_neighbours q1_parcels_parents q1_parcels_root v_o_parcels_count g_o_parcels_area g_o_parcels_firstDay g_o_parcels_lastDay g_o_parcels_neighbours g_o_parcels_parents g_o_parcels_root v_q1_parcels_count g_q1_parcels_area g_q1_parcels_firstDay g_q1_parcels_lastDay g_q1_parcels_neighbours g_q1_parcels_parents g_q1_parcels_root)) hD hS hA [1, 2, 3, 4, 5, 6, 7, 25, 26, 27, 28, 29, 30, 31] rfl
  refine va_callv (va_runV (As := [.ref q1_parcels]) (rest := []) ⟨hx, hb, hml, hown, hts⟩ (c_X4_copyFrom l G cA o_parcels o_parcels_area o_parcels_firstDay o_parcels_lastDay o_parcels_neighbours o_parcels_parents o_parcels_root q1_parcels q1_parcels_area q1_parcels_firstDay q1_parcels_lastDay q1_parcels_neighbours q1_parcels_parents q1_parcels_root H.size v_o_parcels_count g_o_parcels_area g_o_parcels_firstDay g_o_parcels_lastDay g_o_parcels_neighbours g_o_parcels_parents g_o_parcels_root v_q1_parcels_count g_q1_parcels_area g_q1_parcels_firstDay g_q1_parcels_lastDay g_q1_parcels_neighbours g_q1_parcels_parents g_q1_parcels_root _ rfl (bnz hm hz)) (cwV 1 hts gX6_copyFrom_X4_copyFrom rfl rfl rfl (by decide +kernel) ⟨Nat.le_of_ble_eq_true rfl, Nat.le_of_ble_eq_true rfl⟩) (preMV (q := (RX4, TX4, 7)) hPc hDc hK 0 rfl rfl) rfl rfl hl.1 rfl (lv_room (Nat.le_of_ble_eq_true rfl)) dX6_copyFrom_16 ⟨Nat.zero_le _, Nat.zero_le _⟩) hS (fun q _ h => hFc q h) hFc (fun u_7 t H locs ht hvm hw hB hz1 hk1 hS' => ?_)
  obtain ⟨v_1, g_2, g_3, g_4, g_5, g_6, g_7⟩ := u_7
  replace hm := bst hm hw
  replace hB : va_P G vwCl _ _ := hB
  rw [ht] at hB
  have hj := va_back (ws' := (k_X6_copyFrom cA o o_parcels o_deeds o_easements o_liens o_parcels_area o_parcels_firstDay o_parcels_lastDay o_parcels_neighbours o_parcels_parents o_parcels_root o_deeds_parcelOf o_deeds_grantor o_deeds_grantee o_deeds_dayOf o_deeds_most o_easements_kind o_easements_on o_easements_serves o_easements_firstDay o_easements_lastDay o_liens_creditor o_liens_amount o_liens_parcels o_liens_ranking q1 q1_parcels q1_deeds q1_easements q1_liens q1_parcels_area q1_parcels_firstDay q1_parcels_lastDay q1_parcels_neighbours q1_parcels_parents q1_parcels_root q1_deeds_parcelOf q1_deeds_grantor q1_deeds_grantee q1_deeds_dayOf q1_deeds_most q1_easements_kind q1_easements_on q1_easements_serves q1_easements_firstDay q1_easements_lastDay q1_liens_creditor q1_liens_amount q1_liens_parcels q1_liens_ranking v_q1_day v_1 g_2 g_3 g_4 g_5 g_6 g_7 v_o_deeds_count g_o_deeds_parcelOf g_o_deeds_grantor g_o_deeds_grantee g_o_deeds_dayOf v_o_easements_count g_o_easements_kind g_o_easements_on g_o_easements_serves g_o_easements_firstDay g_o_easements_lastDay v_o_liens_count v_o_liens_ranked g_o_liens_creditor g_o_liens_amount g_o_liens_parcels g_o_liens_ranking v_q1_day v_q1_parcels_count g_q1_parcels_area g_q1_parcels_firstDay g_q1_parcels_lastDay g_q1_parcels_neighbours g_q1_parcels_parents g_q1_parcels_root v_q1_deeds_count g_q1_deeds_parcelOf g_q1_deeds_grantor g_q1_deeds_grantee g_q1_deeds_dayOf v_q1_easements_count g_q1_easements_kind g_q1_easements_on g_q1_easements_serves g_q1_easements_firstDay g_q1_easements_lastDay v_q1_liens_count v_q1_liens_ranked g_q1_liens_creditor g_q1_liens_amount g_q1_liens_parcels g_q1_liens_ranking)) hP hD [1, 2, 3, 4, 5, 6, 7, 25, 26, 27, 28, 29, 30, 31] rfl hk1 hB [(false, 0), (true, 0), (true, 1), (true, 2), (true, 3), (true, 4), (true, 5), (true, 6), (false, 8), (false, 9), (false, 10), (false, 11), (false, 12), (false, 13), (false, 14), (false, 15), (false, 16), (false, 17), (false, 18), (false, 19), (false, 20), (false, 21), (false, 22), (false, 23), (false, 24), (true, 7), (true, 8), (true, 9), (true, 10), (true, 11), (true, 12), (true, 13), (false, 32), (false, 33), (false, 34), (false, 35), (false, 36), (false, 37), (false, 38), (false, 39), (false, 40), (false, 41), (false, 42), (false, 43), (false, 44), (false, 45), (false, 46), (false, 47)] rfl (by decide) rfl
  replace hP := hj.1
  replace hD := hj.2
  replace hS := hS'
  clear hj hPc hDc hFc hB
  refine lv_aload_n hx hb dX6_copyFrom_19 rfl (lv_at hl 0 rfl) ?_
  refine va_get (D := G) (ci := 8) (v := .ref o_deeds) (C := RX6) (T := TX6) (N := 5) hx hb hts i_X6 hown hK.1 hP 0 rfl rfl 2 (by decide) w_2 (fun _ h9 => h9) rfl dX6_copyFrom_20 ?_
  refine lv_aload_n hx hb dX6_copyFrom_23 rfl (lv_at hl 1 rfl) ?_
  refine va_get (D := G) (ci := 8) (v := .ref q1_deeds) (C := RX6) (T := TX6) (N := 5) hx hb hts i_X6 hown hK.1 hP 24 rfl rfl 2 (by decide) w_2 (fun _ h9 => h9) rfl dX6_copyFrom_24 ?_
  have hPc := hP.sub (ws' := (k_X0_copyFrom cA o_deeds o_deeds_parcelOf o_deeds_grantor o_deeds_grantee o_deeds_dayOf o_deeds_most q1_deeds q1_deeds_parcelOf q1_deeds_grantor q1_deeds_grantee q1_deeds_dayOf q1_deeds_most v_o_deeds_count g_o_deeds_parcelOf g_o_deeds_grantor g_o_deeds_grantee g_o_deeds_dayOf v_q1_deeds_count g_q1_deeds_parcelOf g_q1_deeds_grantor g_q1_deeds_grantee g_q1_deeds_dayOf)) [8, 9, 10, 11, 12, 32, 33, 34, 35, 36] rfl
  have hDc := hD.sub (ws' := (k_X0_copyFrom cA o_deeds o_deeds_parcelOf o_deeds_grantor o_deeds_grantee o_deeds_dayOf o_deeds_most q1_deeds q1_deeds_parcelOf q1_deeds_grantor q1_deeds_grantee q1_deeds_dayOf q1_deeds_most v_o_deeds_count g_o_deeds_parcelOf g_o_deeds_grantor g_o_deeds_grantee g_o_deeds_dayOf v_q1_deeds_count g_q1_deeds_parcelOf g_q1_deeds_grantor g_q1_deeds_grantee g_q1_deeds_dayOf)) [8, 9, 10, 11, 12, 32, 33, 34, 35, 36] (by decide) rfl
  have hFc := va_free (wc := (k_X0_copyFrom cA o_deeds o_deeds_parcelOf o_deeds_grantor o_deeds_grantee o_deeds_dayOf o_deeds_most q1_deeds q1_deeds_parcelOf q1_deeds_grantor q1_deeds_grantee q1_deeds_dayOf q1_deeds_most v_o_deeds_count g_o_deeds_parcelOf g_o_deeds_grantor g_o_deeds_grantee g_o_deeds_dayOf v_q1_deeds_count g_q1_deeds_parcelOf g_q1_deeds_grantor g_q1_deeds_grantee g_q1_deeds_dayOf)) hD hS hA [8, 9, 10, 11, 12, 32, 33, 34, 35, 36] rfl
  refine va_callv (va_runV (As := [.ref q1_deeds]) (rest := []) ⟨hx, hb, hml, hown, hts⟩ (c_X0_copyFrom l G cA o_deeds o_deeds_parcelOf o_deeds_grantor o_deeds_grantee o_deeds_dayOf o_deeds_most q1_deeds q1_deeds_parcelOf q1_deeds_grantor q1_deeds_grantee q1_deeds_dayOf q1_deeds_most H.size v_o_deeds_count g_o_deeds_parcelOf g_o_deeds_grantor g_o_deeds_grantee g_o_deeds_dayOf v_q1_deeds_count g_q1_deeds_parcelOf g_q1_deeds_grantor g_q1_deeds_grantee g_q1_deeds_dayOf _ rfl (bnz hm hz)) (cwV 1 hts gX6_copyFrom_X0_copyFrom rfl rfl rfl (by decide +kernel) ⟨Nat.le_of_ble_eq_true rfl, Nat.le_of_ble_eq_true rfl⟩) (preMV (q := (RX0, TX0, 6)) hPc hDc hK 0 rfl rfl) rfl rfl hl.1 rfl (lv_room (Nat.le_of_ble_eq_true rfl)) dX6_copyFrom_27 ⟨Nat.zero_le _, Nat.zero_le _⟩) hS (fun q _ h => hFc q h) hFc (fun u_12 t H locs ht hvm hw hB hz1 hk1 hS' => ?_)
  obtain ⟨v_8, g_9, g_10, g_11, g_12⟩ := u_12
  replace hm := bst hm hw
  replace hB : va_P G vwCl _ _ := hB
  rw [ht] at hB
  have hj := va_back (ws' := (k_X6_copyFrom cA o o_parcels o_deeds o_easements o_liens o_parcels_area o_parcels_firstDay o_parcels_lastDay o_parcels_neighbours o_parcels_parents o_parcels_root o_deeds_parcelOf o_deeds_grantor o_deeds_grantee o_deeds_dayOf o_deeds_most o_easements_kind o_easements_on o_easements_serves o_easements_firstDay o_easements_lastDay o_liens_creditor o_liens_amount o_liens_parcels o_liens_ranking q1 q1_parcels q1_deeds q1_easements q1_liens q1_parcels_area q1_parcels_firstDay q1_parcels_lastDay q1_parcels_neighbours q1_parcels_parents q1_parcels_root q1_deeds_parcelOf q1_deeds_grantor q1_deeds_grantee q1_deeds_dayOf q1_deeds_most q1_easements_kind q1_easements_on q1_easements_serves q1_easements_firstDay q1_easements_lastDay q1_liens_creditor q1_liens_amount q1_liens_parcels q1_liens_ranking v_q1_day v_1 g_2 g_3 g_4 g_5 g_6 g_7 v_8 g_9 g_10 g_11 g_12 v_o_easements_count g_o_easements_kind g_o_easements_on g_o_easements_serves g_o_easements_firstDay g_o_easements_lastDay v_o_liens_count v_o_liens_ranked g_o_liens_creditor g_o_liens_amount g_o_liens_parcels g_o_liens_ranking v_q1_day v_q1_parcels_count g_q1_parcels_area g_q1_parcels_firstDay g_q1_parcels_lastDay g_q1_parcels_neighbours g_q1_parcels_parents g_q1_parcels_root v_q1_deeds_count g_q1_deeds_parcelOf g_q1_deeds_grantor g_q1_deeds_grantee g_q1_deeds_dayOf v_q1_easements_count g_q1_easements_kind g_q1_easements_on g_q1_easements_serves g_q1_easements_firstDay g_q1_easements_lastDay v_q1_liens_count v_q1_liens_ranked g_q1_liens_creditor g_q1_liens_amount g_q1_liens_parcels g_q1_liens_ranking)) hP hD [8, 9, 10, 11, 12, 32, 33, 34, 35, 36] rfl hk1 hB [(false, 0), (false, 1), (false, 2), (false, 3), (false, 4), (false, 5), (false, 6), (false, 7), (true, 0), (true, 1), (true, 2), (true, 3), (true, 4), (false, 13), (false, 14), (false, 15), (false, 16), (false, 17), (false, 18), (false, 19), (false, 20), (false, 21), (false, 22), (false, 23), (false, 24), (false, 25), (false, 26), (false, 27), (false, 28), (false, 29), (false, 30), (false, 31), (true, 5), (true, 6), (true, 7), (true, 8), (true, 9), (false, 37), (false, 38), (false, 39), (false, 40), (false, 41), (false, 42), (false, 43), (false, 44), (false, 45), (false, 46), (false, 47)] rfl (by decide) rfl
  replace hP := hj.1
  replace hD := hj.2
  replace hS := hS'
  clear hj hPc hDc hFc hB
  refine lv_aload_n hx hb dX6_copyFrom_30 rfl (lv_at hl 0 rfl) ?_
  refine va_get (D := G) (ci := 8) (v := .ref o_easements) (C := RX6) (T := TX6) (N := 5) hx hb hts i_X6 hown hK.1 hP 0 rfl rfl 3 (by decide) w_3 (fun _ h9 => h9) rfl dX6_copyFrom_31 ?_
  refine lv_aload_n hx hb dX6_copyFrom_34 rfl (lv_at hl 1 rfl) ?_
  refine va_get (D := G) (ci := 8) (v := .ref q1_easements) (C := RX6) (T := TX6) (N := 5) hx hb hts i_X6 hown hK.1 hP 24 rfl rfl 3 (by decide) w_3 (fun _ h9 => h9) rfl dX6_copyFrom_35 ?_
  have hPc := hP.sub (ws' := (k_X1_copyFrom cA o_easements o_easements_kind o_easements_on o_easements_serves o_easements_firstDay o_easements_lastDay q1_easements q1_easements_kind q1_easements_on q1_easements_serves q1_easements_firstDay q1_easements_lastDay v_o_easements_count g_o_easements_kind g_o_easements_on g_o_easements_serves g_o_easements_firstDay g_o_easements_lastDay v_q1_easements_count g_q1_easements_kind g_q1_easements_on g_q1_easements_serves g_q1_easements_firstDay g_q1_easements_lastDay)) [13, 14, 15, 16, 17, 18, 37, 38, 39, 40, 41, 42] rfl
  have hDc := hD.sub (ws' := (k_X1_copyFrom cA o_easements o_easements_kind o_easements_on o_easements_serves o_easements_firstDay o_easements_lastDay q1_easements q1_easements_kind q1_easements_on q1_easements_serves q1_easements_firstDay q1_easements_lastDay v_o_easements_count g_o_easements_kind g_o_easements_on g_o_easements_serves g_o_easements_firstDay g_o_easements_lastDay v_q1_easements_count g_q1_easements_kind g_q1_easements_on g_q1_easements_serves g_q1_easements_firstDay g_q1_easements_lastDay)) [13, 14, 15, 16, 17, 18, 37, 38, 39, 40, 41, 42] (by decide) rfl
  have hFc := va_free (wc := (k_X1_copyFrom cA o_easements o_easements_kind o_easements_on o_easements_serves o_easements_firstDay o_easements_lastDay q1_easements q1_easements_kind q1_easements_on q1_easements_serves q1_easements_firstDay q1_easements_lastDay v_o_easements_count g_o_easements_kind g_o_easements_on g_o_easements_serves g_o_easements_firstDay g_o_easements_lastDay v_q1_easements_count g_q1_easements_kind g_q1_easements_on g_q1_easements_serves g_q1_easements_firstDay g_q1_easements_lastDay)) hD hS hA [13, 14, 15, 16, 17, 18, 37, 38, 39, 40, 41, 42] rfl
  refine va_callv (va_runV (As := [.ref q1_easements]) (rest := []) ⟨hx, hb, hml, hown, hts⟩ (c_X1_copyFrom l G cA o_easements o_easements_kind o_easements_on o_easements_serves o_easements_firstDay o_easements_lastDay q1_easements q1_easements_kind q1_easements_on q1_easements_serves q1_easements_firstDay q1_easements_lastDay H.size v_o_easements_count g_o_easements_kind g_o_easements_on g_o_easements_serves g_o_easements_firstDay g_o_easements_lastDay v_q1_easements_count g_q1_easements_kind g_q1_easements_on g_q1_easements_serves g_q1_easements_firstDay g_q1_easements_lastDay _ rfl (bnz hm hz)) (cwV 1 hts gX6_copyFrom_X1_copyFrom rfl rfl rfl (by decide +kernel) ⟨Nat.le_of_ble_eq_true rfl, Nat.le_of_ble_eq_true rfl⟩) (preMV (q := (RX1, TX1, 6)) hPc hDc hK 0 rfl rfl) rfl rfl hl.1 rfl (lv_room (Nat.le_of_ble_eq_true rfl)) dX6_copyFrom_38 ⟨Nat.zero_le _, Nat.zero_le _⟩) hS (fun q _ h => hFc q h) hFc (fun u_18 t H locs ht hvm hw hB hz1 hk1 hS' => ?_)
  obtain ⟨v_13, g_14, g_15, g_16, g_17, g_18⟩ := u_18
  replace hm := bst hm hw
  replace hB : va_P G vwCl _ _ := hB
  rw [ht] at hB
  have hj := va_back (ws' := (k_X6_copyFrom cA o o_parcels o_deeds o_easements o_liens o_parcels_area o_parcels_firstDay o_parcels_lastDay o_parcels_neighbours o_parcels_parents o_parcels_root o_deeds_parcelOf o_deeds_grantor o_deeds_grantee o_deeds_dayOf o_deeds_most o_easements_kind o_easements_on o_easements_serves o_easements_firstDay o_easements_lastDay o_liens_creditor o_liens_amount o_liens_parcels o_liens_ranking q1 q1_parcels q1_deeds q1_easements q1_liens q1_parcels_area q1_parcels_firstDay q1_parcels_lastDay q1_parcels_neighbours q1_parcels_parents q1_parcels_root q1_deeds_parcelOf q1_deeds_grantor q1_deeds_grantee q1_deeds_dayOf q1_deeds_most q1_easements_kind q1_easements_on q1_easements_serves q1_easements_firstDay q1_easements_lastDay q1_liens_creditor q1_liens_amount q1_liens_parcels q1_liens_ranking v_q1_day v_1 g_2 g_3 g_4 g_5 g_6 g_7 v_8 g_9 g_10 g_11 g_12 v_13 g_14 g_15 g_16 g_17 g_18 v_o_liens_count v_o_liens_ranked g_o_liens_creditor g_o_liens_amount g_o_liens_parcels g_o_liens_ranking v_q1_day v_q1_parcels_count g_q1_parcels_area g_q1_parcels_firstDay g_q1_parcels_lastDay g_q1_parcels_neighbours g_q1_parcels_parents g_q1_parcels_root v_q1_deeds_count g_q1_deeds_parcelOf g_q1_deeds_grantor g_q1_deeds_grantee g_q1_deeds_dayOf v_q1_easements_count g_q1_easements_kind g_q1_easements_on g_q1_easements_serves g_q1_easements_firstDay g_q1_easements_lastDay v_q1_liens_count v_q1_liens_ranked g_q1_liens_creditor g_q1_liens_amount g_q1_liens_parcels g_q1_liens_ranking)) hP hD [13, 14, 15, 16, 17, 18, 37, 38, 39, 40, 41, 42] rfl hk1 hB [(false, 0), (false, 1), (false, 2), (false, 3), (false, 4), (false, 5), (false, 6), (false, 7), (false, 8), (false, 9), (false, 10), (false, 11), (false, 12), (true, 0), (true, 1), (true, 2), (true, 3), (true, 4), (true, 5), (false, 19), (false, 20), (false, 21), (false, 22), (false, 23), (false, 24), (false, 25), (false, 26), (false, 27), (false, 28), (false, 29), (false, 30), (false, 31), (false, 32), (false, 33), (false, 34), (false, 35), (false, 36), (true, 6), (true, 7), (true, 8), (true, 9), (true, 10), (true, 11), (false, 43), (false, 44), (false, 45), (false, 46), (false, 47)] rfl (by decide) rfl
  replace hP := hj.1
  replace hD := hj.2
  replace hS := hS'
  clear hj hPc hDc hFc hB
  refine lv_aload_n hx hb dX6_copyFrom_41 rfl (lv_at hl 0 rfl) ?_
  refine va_get (D := G) (ci := 8) (v := .ref o_liens) (C := RX6) (T := TX6) (N := 5) hx hb hts i_X6 hown hK.1 hP 0 rfl rfl 4 (by decide) w_4 (fun _ h9 => h9) rfl dX6_copyFrom_42 ?_
  refine lv_aload_n hx hb dX6_copyFrom_45 rfl (lv_at hl 1 rfl) ?_
  refine va_get (D := G) (ci := 8) (v := .ref q1_liens) (C := RX6) (T := TX6) (N := 5) hx hb hts i_X6 hown hK.1 hP 24 rfl rfl 4 (by decide) w_4 (fun _ h9 => h9) rfl dX6_copyFrom_46 ?_
  have hPc := hP.sub (ws' := (k_X3_copyFrom cA o_liens o_liens_creditor o_liens_amount o_liens_parcels o_liens_ranking q1_liens q1_liens_creditor q1_liens_amount q1_liens_parcels q1_liens_ranking v_o_liens_count v_o_liens_ranked g_o_liens_creditor g_o_liens_amount g_o_liens_parcels g_o_liens_ranking v_q1_liens_count v_q1_liens_ranked g_q1_liens_creditor g_q1_liens_amount g_q1_liens_parcels g_q1_liens_ranking)) [19, 20, 21, 22, 23, 43, 44, 45, 46, 47] rfl
  have hDc := hD.sub (ws' := (k_X3_copyFrom cA o_liens o_liens_creditor o_liens_amount o_liens_parcels o_liens_ranking q1_liens q1_liens_creditor q1_liens_amount q1_liens_parcels q1_liens_ranking v_o_liens_count v_o_liens_ranked g_o_liens_creditor g_o_liens_amount g_o_liens_parcels g_o_liens_ranking v_q1_liens_count v_q1_liens_ranked g_q1_liens_creditor g_q1_liens_amount g_q1_liens_parcels g_q1_liens_ranking)) [19, 20, 21, 22, 23, 43, 44, 45, 46, 47] (by decide) rfl
  have hFc := va_free (wc := (k_X3_copyFrom cA o_liens o_liens_creditor o_liens_amount o_liens_parcels o_liens_ranking q1_liens q1_liens_creditor q1_liens_amount q1_liens_parcels q1_liens_ranking v_o_liens_count v_o_liens_ranked g_o_liens_creditor g_o_liens_amount g_o_liens_parcels g_o_liens_ranking v_q1_liens_count v_q1_liens_ranked g_q1_liens_creditor g_q1_liens_amount g_q1_liens_parcels g_q1_liens_ranking)) hD hS hA [19, 20, 21, 22, 23, 43, 44, 45, 46, 47] rfl
  refine va_callv (va_runV (As := [.ref q1_liens]) (rest := []) ⟨hx, hb, hml, hown, hts⟩ (c_X3_copyFrom l G cA o_liens o_liens_creditor o_liens_amount o_liens_parcels o_liens_ranking q1_liens q1_liens_creditor q1_liens_amount q1_liens_parcels q1_liens_ranking H.size v_o_liens_count v_o_liens_ranked g_o_liens_creditor g_o_liens_amount g_o_liens_parcels g_o_liens_ranking v_q1_liens_count v_q1_liens_ranked g_q1_liens_creditor g_q1_liens_amount g_q1_liens_parcels g_q1_liens_ranking _ rfl (bnz hm hz)) (cwV 1 hts gX6_copyFrom_X3_copyFrom rfl rfl rfl (by decide +kernel) ⟨Nat.le_of_ble_eq_true rfl, Nat.le_of_ble_eq_true rfl⟩) (preMV (q := (RX3, TX3, 6)) hPc hDc hK 0 rfl rfl) rfl rfl hl.1 rfl (lv_room (Nat.le_of_ble_eq_true rfl)) dX6_copyFrom_49 ⟨Nat.zero_le _, Nat.zero_le _⟩) hS (fun q _ h => hFc q h) hFc (fun u_24 t H locs ht hvm hw hB hz1 hk1 hS' => ?_)
  obtain ⟨v_19, v_20, g_21, g_22, g_23, g_24⟩ := u_24
  replace hm := bst hm hw
  replace hB : va_P G vwCl _ _ := hB
  rw [ht] at hB
  have hj := va_back (ws' := (k_X6_copyFrom cA o o_parcels o_deeds o_easements o_liens o_parcels_area o_parcels_firstDay o_parcels_lastDay o_parcels_neighbours o_parcels_parents o_parcels_root o_deeds_parcelOf o_deeds_grantor o_deeds_grantee o_deeds_dayOf o_deeds_most o_easements_kind o_easements_on o_easements_serves o_easements_firstDay o_easements_lastDay o_liens_creditor o_liens_amount o_liens_parcels o_liens_ranking q1 q1_parcels q1_deeds q1_easements q1_liens q1_parcels_area q1_parcels_firstDay q1_parcels_lastDay q1_parcels_neighbours q1_parcels_parents q1_parcels_root q1_deeds_parcelOf q1_deeds_grantor q1_deeds_grantee q1_deeds_dayOf q1_deeds_most q1_easements_kind q1_easements_on q1_easements_serves q1_easements_firstDay q1_easements_lastDay q1_liens_creditor q1_liens_amount q1_liens_parcels q1_liens_ranking v_q1_day v_1 g_2 g_3 g_4 g_5 g_6 g_7 v_8 g_9 g_10 g_11 g_12 v_13 g_14 g_15 g_16 g_17 g_18 v_19 v_20 g_21 g_22 g_23 g_24 v_q1_day v_q1_parcels_count g_q1_parcels_area g_q1_parcels_firstDay g_q1_parcels_lastDay g_q1_parcels_neighbours g_q1_parcels_parents g_q1_parcels_root v_q1_deeds_count g_q1_deeds_parcelOf g_q1_deeds_grantor g_q1_deeds_grantee g_q1_deeds_dayOf v_q1_easements_count g_q1_easements_kind g_q1_easements_on g_q1_easements_serves g_q1_easements_firstDay g_q1_easements_lastDay v_q1_liens_count v_q1_liens_ranked g_q1_liens_creditor g_q1_liens_amount g_q1_liens_parcels g_q1_liens_ranking)) hP hD [19, 20, 21, 22, 23, 43, 44, 45, 46, 47] rfl hk1 hB [(false, 0), (false, 1), (false, 2), (false, 3), (false, 4), (false, 5), (false, 6), (false, 7), (false, 8), (false, 9), (false, 10), (false, 11), (false, 12), (false, 13), (false, 14), (false, 15), (false, 16), (false, 17), (false, 18), (true, 0), (true, 1), (true, 2), (true, 3), (true, 4), (false, 24), (false, 25), (false, 26), (false, 27), (false, 28), (false, 29), (false, 30), (false, 31), (false, 32), (false, 33), (false, 34), (false, 35), (false, 36), (false, 37), (false, 38), (false, 39), (false, 40), (false, 41), (false, 42), (true, 5), (true, 6), (true, 7), (true, 8), (true, 9)] rfl (by decide) rfl
  replace hP := hj.1
  replace hD := hj.2
  replace hS := hS'
  clear hj hPc hDc hFc hB
  exact hret _ _ (v_q1_day, v_1, g_2, g_3, g_4, g_5, g_6, g_7, v_8, g_9, g_10, g_11, g_12, v_13, g_14, g_15, g_16, g_17, g_18, v_19, v_20, g_21, g_22, g_23, g_24) _ _ dX6_copyFrom_52 hP hS hm.symm
def m_X6_faultOfBorder (p1 : Int32) (p2 : Int32) (v_o_parcels_count : Int32) (g_o_parcels_lastDay : Nat → Int32) : Option (Int32) := Option.bind (m_X4_has p1 v_o_parcels_count) (fun r_1 => (if r_1 = 0 then some (7 : Int32) else Option.bind (m_X4_has p2 v_o_parcels_count) (fun r_3 => (if r_3 = 0 then some (7 : Int32) else (if p1 = p2 then some (8 : Int32) else Option.bind (m_X4_isPresent p1 v_o_parcels_count g_o_parcels_lastDay) (fun r_6 => (if r_6 = 0 then some (9 : Int32) else Option.bind (m_X4_isPresent p2 v_o_parcels_count g_o_parcels_lastDay) (fun r_8 => (if r_8 = 0 then some (9 : Int32) else some (0 : Int32))))))))))
abbrev k_X6_faultOfBorder (cA : Nat → ClassId) (o o_parcels o_deeds o_easements o_liens o_parcels_area o_parcels_firstDay o_parcels_lastDay o_parcels_neighbours o_parcels_parents o_parcels_root : Nat) (v_o_day : Int32) (v_o_parcels_count : Int32) (g_o_parcels_lastDay : Nat → Int32) : va_W := [(o, .inr (8, [.int v_o_day, .ref o_parcels, .ref o_deeds, .ref o_easements, .ref o_liens])), (o_parcels, .inr (6, [.int v_o_parcels_count, .ref o_parcels_area, .ref o_parcels_firstDay, .ref o_parcels_lastDay, .ref o_parcels_neighbours, .ref o_parcels_parents, .ref o_parcels_root])), (o_parcels_lastDay, .inl (cA 0, 24, .inl g_o_parcels_lastDay))]
set_option maxHeartbeats 4000000 in
set_option maxRecDepth 100000 in
/-- X6_faultOfBorder: as its model -/
theorem c_X6_faultOfBorder (l : Launch) (G : va_G) (cA : Nat → ClassId) (o o_parcels o_deeds o_easements o_liens o_parcels_area o_parcels_firstDay o_parcels_lastDay o_parcels_neighbours o_parcels_parents o_parcels_root : Nat) (p1 : Int32) (p2 : Int32) (v_o_day : Int32) (v_o_parcels_count : Int32) (g_o_parcels_lastDay : Nat → Int32) (R : Option (Int32)) (hR : m_X6_faultOfBorder p1 p2 v_o_parcels_count g_o_parcels_lastDay = R) (hz : R ≠ none) : Met l yX6_faultOfBorder wsX6_faultOfBorder ({ frames := 2, cells := 0, slots := 0, locals := 42 } : Room) (va_Pc [.ref o, .int p1, .int p2] (PR G cA (k_X6_faultOfBorder cA o o_parcels o_deeds o_easements o_liens o_parcels_area o_parcels_firstDay o_parcels_lastDay o_parcels_neighbours o_parcels_parents o_parcels_root v_o_day v_o_parcels_count g_o_parcels_lastDay))) (vp_Si (fun r => R = some r)) 0 0 (fun _ => False) := by
  refine metR .int (by decide) rfl (Nat.le_of_ble_eq_true rfl) ?_
  intro p e s m av below meth c Q ls hx hb hml hts hown hP hK hl hret
  replace hl : lv_has ls 3 [(0, .ref o), (1, .int p1), (2, .int p2)] := hl
  have w_0 := hts (.fieldLink RX6 18 "ParcelRegistry$World" "parcels" "LParcelRegistry$Parcels;") (by decide +kernel)
  have i_X6 : ∀ w ∈ wsX60, w ∈ wsX6_faultOfBorder := by decide +kernel
  have hm := hR
  unfold m_X6_faultOfBorder at hm
  refine lv_aload_n hx hb dX6_faultOfBorder_0 rfl (lv_at hl 0 rfl) ?_
  refine va_get (D := G) (ci := 8) (v := .ref o_parcels) (C := RX6) (T := TX6) (N := 5) hx hb hts i_X6 hown hK.1 hP 0 rfl rfl 1 (by decide) w_0 (fun _ h9 => h9) rfl dX6_faultOfBorder_1 ?_
  refine lv_iload_n hx hb dX6_faultOfBorder_4 rfl (lv_at hl 1 rfl) ?_
  refine vp_callSi (va_Run.run (va_runV (As := [.int p1]) (rest := []) ⟨hx, hb, hml, hown, hts⟩ (c_X4_has l G cA o_parcels o_parcels_area o_parcels_firstDay o_parcels_lastDay o_parcels_neighbours o_parcels_parents o_parcels_root p1 v_o_parcels_count _ rfl (bnz hm hz)) (cwV 1 hts gX6_faultOfBorder_X4_has rfl rfl rfl (by decide +kernel) ⟨Nat.le_of_ble_eq_true rfl, Nat.le_of_ble_eq_true rfl⟩) (preRV (q := (RX4, TX4, 7)) (hP.sub [1] rfl) hK 0 rfl rfl) rfl rfl hl.1 rfl (lv_room (Nat.le_of_ble_eq_true rfl)) dX6_faultOfBorder_5 ⟨Nat.zero_le _, Nat.zero_le _⟩)) (fun r_1 hw => ?_)
  replace hm := bst hm hw.1
  refine lv_if_eq (tgt := 22) hx hb dX6_faultOfBorder_8 (by decide) (fun c_2 => ?_) (fun c_2 => ?_)
  · replace hm := it hm c_2
    refine lv_bipush (v := (7 : Int32)) hx hb dX6_faultOfBorder_22 (by decide) ?_
    exact hret _ _ _ dX6_faultOfBorder_24 rfl hm.symm
  · replace hm := ie hm c_2
    refine lv_aload_n hx hb dX6_faultOfBorder_11 rfl (lv_at hl 0 rfl) ?_
    refine va_get (D := G) (ci := 8) (v := .ref o_parcels) (C := RX6) (T := TX6) (N := 5) hx hb hts i_X6 hown hK.1 hP 0 rfl rfl 1 (by decide) w_0 (fun _ h9 => h9) rfl dX6_faultOfBorder_12 ?_
    refine lv_iload_n hx hb dX6_faultOfBorder_15 rfl (lv_at hl 2 rfl) ?_
    refine vp_callSi (va_Run.run (va_runV (As := [.int p2]) (rest := []) ⟨hx, hb, hml, hown, hts⟩ (c_X4_has l G cA o_parcels o_parcels_area o_parcels_firstDay o_parcels_lastDay o_parcels_neighbours o_parcels_parents o_parcels_root p2 v_o_parcels_count _ rfl (bnz hm hz)) (cwV 1 hts gX6_faultOfBorder_X4_has rfl rfl rfl (by decide +kernel) ⟨Nat.le_of_ble_eq_true rfl, Nat.le_of_ble_eq_true rfl⟩) (preRV (q := (RX4, TX4, 7)) (hP.sub [1] rfl) hK 0 rfl rfl) rfl rfl hl.1 rfl (lv_room (Nat.le_of_ble_eq_true rfl)) dX6_faultOfBorder_16 ⟨Nat.zero_le _, Nat.zero_le _⟩)) (fun r_3 hw => ?_)
    replace hm := bst hm hw.1
    refine lv_if_ne (tgt := 25) hx hb dX6_faultOfBorder_19 (by decide) (fun c_4 => ?_) (fun c_4 => ?_)
    · replace hm := ie hm c_4
      refine lv_iload_n hx hb dX6_faultOfBorder_25 rfl (lv_at hl 1 rfl) ?_
      refine lv_iload_n hx hb dX6_faultOfBorder_26 rfl (lv_at hl 2 rfl) ?_
      refine lv_icmp_ne (tgt := 33) hx hb dX6_faultOfBorder_27 (by decide) (fun c_5 => ?_) (fun c_5 => ?_)
      · replace hm := ie hm c_5
        refine lv_aload_n hx hb dX6_faultOfBorder_33 rfl (lv_at hl 0 rfl) ?_
        refine va_get (D := G) (ci := 8) (v := .ref o_parcels) (C := RX6) (T := TX6) (N := 5) hx hb hts i_X6 hown hK.1 hP 0 rfl rfl 1 (by decide) w_0 (fun _ h9 => h9) rfl dX6_faultOfBorder_34 ?_
        refine lv_iload_n hx hb dX6_faultOfBorder_37 rfl (lv_at hl 1 rfl) ?_
        refine vp_callSi (va_Run.run (va_runV (As := [.int p1]) (rest := []) ⟨hx, hb, hml, hown, hts⟩ (c_X4_isPresent l G cA o_parcels o_parcels_area o_parcels_firstDay o_parcels_lastDay o_parcels_neighbours o_parcels_parents o_parcels_root p1 v_o_parcels_count g_o_parcels_lastDay _ rfl (bnz hm hz)) (cwV 1 hts gX6_faultOfBorder_X4_isPresent rfl rfl rfl (by decide +kernel) ⟨Nat.le_of_ble_eq_true rfl, Nat.le_of_ble_eq_true rfl⟩) (preRV (q := (RX4, TX4, 7)) (hP.sub [1, 2] rfl) hK 0 rfl rfl) rfl rfl hl.1 rfl (lv_room (Nat.le_of_ble_eq_true rfl)) dX6_faultOfBorder_38 ⟨Nat.zero_le _, Nat.zero_le _⟩)) (fun r_6 hw => ?_)
        replace hm := bst hm hw.1
        refine lv_if_eq (tgt := 59) hx hb dX6_faultOfBorder_41 (by decide) (fun c_7 => ?_) (fun c_7 => ?_)
        · replace hm := it hm c_7
          refine lv_bipush (v := (9 : Int32)) hx hb dX6_faultOfBorder_59 (by decide) ?_
          exact hret _ _ _ dX6_faultOfBorder_61 rfl hm.symm
        · replace hm := ie hm c_7
          refine lv_aload_n hx hb dX6_faultOfBorder_44 rfl (lv_at hl 0 rfl) ?_
          refine va_get (D := G) (ci := 8) (v := .ref o_parcels) (C := RX6) (T := TX6) (N := 5) hx hb hts i_X6 hown hK.1 hP 0 rfl rfl 1 (by decide) w_0 (fun _ h9 => h9) rfl dX6_faultOfBorder_45 ?_
          refine lv_iload_n hx hb dX6_faultOfBorder_48 rfl (lv_at hl 2 rfl) ?_
          refine vp_callSi (va_Run.run (va_runV (As := [.int p2]) (rest := []) ⟨hx, hb, hml, hown, hts⟩ (c_X4_isPresent l G cA o_parcels o_parcels_area o_parcels_firstDay o_parcels_lastDay o_parcels_neighbours o_parcels_parents o_parcels_root p2 v_o_parcels_count g_o_parcels_lastDay _ rfl (bnz hm hz)) (cwV 1 hts gX6_faultOfBorder_X4_isPresent rfl rfl rfl (by decide +kernel) ⟨Nat.le_of_ble_eq_true rfl, Nat.le_of_ble_eq_true rfl⟩) (preRV (q := (RX4, TX4, 7)) (hP.sub [1, 2] rfl) hK 0 rfl rfl) rfl rfl hl.1 rfl (lv_room (Nat.le_of_ble_eq_true rfl)) dX6_faultOfBorder_49 ⟨Nat.zero_le _, Nat.zero_le _⟩)) (fun r_8 hw => ?_)
          replace hm := bst hm hw.1
          refine lv_if_eq (tgt := 59) hx hb dX6_faultOfBorder_52 (by decide) (fun c_9 => ?_) (fun c_9 => ?_)
          · replace hm := it hm c_9
            refine lv_bipush (v := (9 : Int32)) hx hb dX6_faultOfBorder_59 (by decide) ?_
            exact hret _ _ _ dX6_faultOfBorder_61 rfl hm.symm
          · replace hm := ie hm c_9
            refine lv_iconst (v := (0 : Int32)) hx hb dX6_faultOfBorder_55 (by decide) ?_
            refine lv_goto (tgt := 61) hx hb dX6_faultOfBorder_56 (by decide) ?_
            exact hret _ _ _ dX6_faultOfBorder_61 rfl hm.symm
      · replace hm := it hm c_5
        refine lv_bipush (v := (8 : Int32)) hx hb dX6_faultOfBorder_30 (by decide) ?_
        exact hret _ _ _ dX6_faultOfBorder_32 rfl hm.symm
    · replace hm := it hm c_4
      refine lv_bipush (v := (7 : Int32)) hx hb dX6_faultOfBorder_22 (by decide) ?_
      exact hret _ _ _ dX6_faultOfBorder_24 rfl hm.symm
def m_X6_faultOfSplit (p1 : Int32) (p2 : Int32) (p3 : Int32) (v_o_parcels_count : Int32) (g_o_parcels_area : Nat → Int32) (g_o_parcels_lastDay : Nat → Int32) (g_o_parcels_neighbours : Nat → Int32) : Option (Int32) := Option.bind (m_X4_has p1 v_o_parcels_count) (fun r_1 => (if r_1 = 0 then some (7 : Int32) else Option.bind (m_X4_isPresent p1 v_o_parcels_count g_o_parcels_lastDay) (fun r_3 => (if r_3 = 0 then some (1 : Int32) else gd (ix p1 24) (Option.bind (m_X7_isFrom p2 (10 : Int32) ((g_o_parcels_area p1.toNatClampNeg) - (10 : Int32))) (fun r_6 => (if r_6 = 0 then some (2 : Int32) else gd (ix p1 24) ((if (p3 &&& ((g_o_parcels_neighbours p1.toNatClampNeg) ^^^ (-1 : Int32))) = 0 then (if (22 : Int32) < v_o_parcels_count then some (6 : Int32) else some (0 : Int32)) else some (3 : Int32))))))))))
abbrev k_X6_faultOfSplit (cA : Nat → ClassId) (o o_parcels o_deeds o_easements o_liens o_parcels_area o_parcels_firstDay o_parcels_lastDay o_parcels_neighbours o_parcels_parents o_parcels_root : Nat) (v_o_day : Int32) (v_o_parcels_count : Int32) (g_o_parcels_area : Nat → Int32) (g_o_parcels_lastDay : Nat → Int32) (g_o_parcels_neighbours : Nat → Int32) : va_W := [(o, .inr (8, [.int v_o_day, .ref o_parcels, .ref o_deeds, .ref o_easements, .ref o_liens])), (o_parcels, .inr (6, [.int v_o_parcels_count, .ref o_parcels_area, .ref o_parcels_firstDay, .ref o_parcels_lastDay, .ref o_parcels_neighbours, .ref o_parcels_parents, .ref o_parcels_root])), (o_parcels_area, .inl (cA 0, 24, .inl g_o_parcels_area)), (o_parcels_lastDay, .inl (cA 0, 24, .inl g_o_parcels_lastDay)), (o_parcels_neighbours, .inl (cA 0, 24, .inl g_o_parcels_neighbours))]
set_option maxHeartbeats 4000000 in
set_option maxRecDepth 100000 in
/-- X6_faultOfSplit: as its model -/
theorem c_X6_faultOfSplit (l : Launch) (G : va_G) (cA : Nat → ClassId) (o o_parcels o_deeds o_easements o_liens o_parcels_area o_parcels_firstDay o_parcels_lastDay o_parcels_neighbours o_parcels_parents o_parcels_root : Nat) (p1 : Int32) (p2 : Int32) (p3 : Int32) (v_o_day : Int32) (v_o_parcels_count : Int32) (g_o_parcels_area : Nat → Int32) (g_o_parcels_lastDay : Nat → Int32) (g_o_parcels_neighbours : Nat → Int32) (R : Option (Int32)) (hR : m_X6_faultOfSplit p1 p2 p3 v_o_parcels_count g_o_parcels_area g_o_parcels_lastDay g_o_parcels_neighbours = R) (hz : R ≠ none) : Met l yX6_faultOfSplit wsX6_faultOfSplit ({ frames := 2, cells := 0, slots := 0, locals := 42 } : Room) (va_Pc [.ref o, .int p1, .int p2, .int p3] (PR G cA (k_X6_faultOfSplit cA o o_parcels o_deeds o_easements o_liens o_parcels_area o_parcels_firstDay o_parcels_lastDay o_parcels_neighbours o_parcels_parents o_parcels_root v_o_day v_o_parcels_count g_o_parcels_area g_o_parcels_lastDay g_o_parcels_neighbours))) (vp_Si (fun r => R = some r)) 0 0 (fun _ => False) := by
  refine metR .int (by decide) rfl (Nat.le_of_ble_eq_true rfl) ?_
  intro p e s m av below meth c Q ls hx hb hml hts hown hP hK hl hret
  replace hl : lv_has ls 5 [(0, .ref o), (1, .int p1), (2, .int p2), (3, .int p3)] := hl
  have w_0 := hts (.fieldLink RX6 18 "ParcelRegistry$World" "parcels" "LParcelRegistry$Parcels;") (by decide +kernel)
  have w_1 := hts (.fieldLink RX6 107 "ParcelRegistry$Parcels" "area" "[I") (by decide +kernel)
  have w_2 := hts (.initialized RX7) (by decide +kernel)
  have w_3 := hts (.static yX7_isFrom) (by decide +kernel)
  have w_4 := hts (.fieldLink RX6 110 "ParcelRegistry$Parcels" "neighbours" "[I") (by decide +kernel)
  have w_5 := hts (.fieldLink RX6 56 "ParcelRegistry$Parcels" "count" "I") (by decide +kernel)
  have i_X4 : ∀ w ∈ wsX40, w ∈ wsX6_faultOfSplit := by decide +kernel
  have i_X6 : ∀ w ∈ wsX60, w ∈ wsX6_faultOfSplit := by decide +kernel
  have hm := hR
  unfold m_X6_faultOfSplit at hm
  refine lv_aload_n hx hb dX6_faultOfSplit_0 rfl (lv_at hl 0 rfl) ?_
  refine va_get (D := G) (ci := 8) (v := .ref o_parcels) (C := RX6) (T := TX6) (N := 5) hx hb hts i_X6 hown hK.1 hP 0 rfl rfl 1 (by decide) w_0 (fun _ h9 => h9) rfl dX6_faultOfSplit_1 ?_
  refine lv_iload_n hx hb dX6_faultOfSplit_4 rfl (lv_at hl 1 rfl) ?_
  refine vp_callSi (va_Run.run (va_runV (As := [.int p1]) (rest := []) ⟨hx, hb, hml, hown, hts⟩ (c_X4_has l G cA o_parcels o_parcels_area o_parcels_firstDay o_parcels_lastDay o_parcels_neighbours o_parcels_parents o_parcels_root p1 v_o_parcels_count _ rfl (bnz hm hz)) (cwV 1 hts gX6_faultOfSplit_X4_has rfl rfl rfl (by decide +kernel) ⟨Nat.le_of_ble_eq_true rfl, Nat.le_of_ble_eq_true rfl⟩) (preRV (q := (RX4, TX4, 7)) (hP.sub [1] rfl) hK 0 rfl rfl) rfl rfl hl.1 rfl (lv_room (Nat.le_of_ble_eq_true rfl)) dX6_faultOfSplit_5 ⟨Nat.zero_le _, Nat.zero_le _⟩)) (fun r_1 hw => ?_)
  replace hm := bst hm hw.1
  refine lv_if_ne (tgt := 14) hx hb dX6_faultOfSplit_8 (by decide) (fun c_2 => ?_) (fun c_2 => ?_)
  · replace hm := ie hm c_2
    refine lv_aload_n hx hb dX6_faultOfSplit_14 rfl (lv_at hl 0 rfl) ?_
    refine va_get (D := G) (ci := 8) (v := .ref o_parcels) (C := RX6) (T := TX6) (N := 5) hx hb hts i_X6 hown hK.1 hP 0 rfl rfl 1 (by decide) w_0 (fun _ h9 => h9) rfl dX6_faultOfSplit_15 ?_
    refine lv_iload_n hx hb dX6_faultOfSplit_18 rfl (lv_at hl 1 rfl) ?_
    refine vp_callSi (va_Run.run (va_runV (As := [.int p1]) (rest := []) ⟨hx, hb, hml, hown, hts⟩ (c_X4_isPresent l G cA o_parcels o_parcels_area o_parcels_firstDay o_parcels_lastDay o_parcels_neighbours o_parcels_parents o_parcels_root p1 v_o_parcels_count g_o_parcels_lastDay _ rfl (bnz hm hz)) (cwV 1 hts gX6_faultOfSplit_X4_isPresent rfl rfl rfl (by decide +kernel) ⟨Nat.le_of_ble_eq_true rfl, Nat.le_of_ble_eq_true rfl⟩) (preRV (q := (RX4, TX4, 7)) (hP.sub [1, 3] rfl) hK 0 rfl rfl) rfl rfl hl.1 rfl (lv_room (Nat.le_of_ble_eq_true rfl)) dX6_faultOfSplit_19 ⟨Nat.zero_le _, Nat.zero_le _⟩)) (fun r_3 hw => ?_)
    replace hm := bst hm hw.1
    refine lv_if_ne (tgt := 27) hx hb dX6_faultOfSplit_22 (by decide) (fun c_4 => ?_) (fun c_4 => ?_)
    · replace hm := ie hm c_4
      refine lv_aload_n hx hb dX6_faultOfSplit_27 rfl (lv_at hl 0 rfl) ?_
      refine va_get (D := G) (ci := 8) (v := .ref o_parcels) (C := RX6) (T := TX6) (N := 5) hx hb hts i_X6 hown hK.1 hP 0 rfl rfl 1 (by decide) w_0 (fun _ h9 => h9) rfl dX6_faultOfSplit_28 ?_
      refine va_get (D := G) (ci := 6) (v := .ref o_parcels_area) (C := RX4) (T := TX4) (N := 7) hx hb hts i_X4 hown hK.1 hP 1 rfl rfl 1 (by decide) w_1 (fun _ h9 => h9) rfl dX6_faultOfSplit_31 ?_
      refine lv_iload_n hx hb dX6_faultOfSplit_34 rfl (lv_at hl 1 rfl) ?_
      replace hm := gdo hm hz
      obtain ⟨gi_5, hm⟩ := hm
      refine va_iald hx hb hK.1 hP 2 0 (cA := cA 0) (n := 24) (f := g_o_parcels_area) rfl rfl (ixi gi_5) dX6_faultOfSplit_35 ?_
      refine lv_bipush (v := (10 : Int32)) hx hb dX6_faultOfSplit_36 (by decide) ?_
      refine lv_isub hx hb dX6_faultOfSplit_38 ?_
      refine lv_istore (lv' := [(4, .int ((g_o_parcels_area p1.toNatClampNeg) - (10 : Int32))), (0, .ref o), (1, .int p1), (2, .int p2), (3, .int p3)]) hx hb dX6_faultOfSplit_39 hl (by decide) rfl (fun ls hl => ?_)
      refine lv_iload_n hx hb dX6_faultOfSplit_41 rfl (lv_at hl 3 rfl) ?_
      refine lv_bipush (v := (10 : Int32)) hx hb dX6_faultOfSplit_42 (by decide) ?_
      refine lv_iload hx hb dX6_faultOfSplit_44 (lv_at hl 0 rfl) ?_
      refine vp_callSi (va_Run.run (va_runSN (As := [.int p2, .int (10 : Int32), .int ((g_o_parcels_area p1.toNatClampNeg) - (10 : Int32))]) (rest := []) ⟨hx, hb, hml, hown, hts⟩ (c_X7_isFrom l G cA p2 (10 : Int32) ((g_o_parcels_area p1.toNatClampNeg) - (10 : Int32)) _ rfl (bnz hm hz)) ⟨va_cnB (host := "ParcelRegistry") 3 hts gX6_faultOfSplit_X7_isFrom_n94 rfl rfl rfl (hK.2 (RX6, 94, yX7_isFrom) (List.mem_of_getElem? (i := 7) rfl)) w_2 (by decide +kernel) ⟨Nat.le_of_ble_eq_true rfl, Nat.le_of_ble_eq_true rfl⟩, w_3, trivial⟩ (preRS (hP.sub [] rfl) hK) rfl rfl hl.1 rfl (lv_room (Nat.le_of_ble_eq_true rfl)) dX6_faultOfSplit_46 ⟨Nat.zero_le _, Nat.zero_le _⟩)) (fun r_6 hw => ?_)
      replace hm := bst hm hw.1
      refine lv_if_ne (tgt := 54) hx hb dX6_faultOfSplit_49 (by decide) (fun c_7 => ?_) (fun c_7 => ?_)
      · replace hm := ie hm c_7
        refine lv_iload_n hx hb dX6_faultOfSplit_54 rfl (lv_at hl 4 rfl) ?_
        refine lv_aload_n hx hb dX6_faultOfSplit_55 rfl (lv_at hl 1 rfl) ?_
        refine va_get (D := G) (ci := 8) (v := .ref o_parcels) (C := RX6) (T := TX6) (N := 5) hx hb hts i_X6 hown hK.1 hP 0 rfl rfl 1 (by decide) w_0 (fun _ h9 => h9) rfl dX6_faultOfSplit_56 ?_
        refine va_get (D := G) (ci := 6) (v := .ref o_parcels_neighbours) (C := RX4) (T := TX4) (N := 7) hx hb hts i_X4 hown hK.1 hP 1 rfl rfl 4 (by decide) w_4 (fun _ h9 => h9) rfl dX6_faultOfSplit_59 ?_
        refine lv_iload_n hx hb dX6_faultOfSplit_62 rfl (lv_at hl 2 rfl) ?_
        replace hm := gdo hm hz
        obtain ⟨gi_8, hm⟩ := hm
        refine va_iald hx hb hK.1 hP 4 0 (cA := cA 0) (n := 24) (f := g_o_parcels_neighbours) rfl rfl (ixi gi_8) dX6_faultOfSplit_63 ?_
        refine lv_iconst (v := (-1 : Int32)) hx hb dX6_faultOfSplit_64 (by decide) ?_
        refine lv_ixor hx hb dX6_faultOfSplit_65 ?_
        refine lv_iand hx hb dX6_faultOfSplit_66 ?_
        refine lv_if_eq (tgt := 72) hx hb dX6_faultOfSplit_67 (by decide) (fun c_9 => ?_) (fun c_9 => ?_)
        · replace hm := it hm c_9
          refine lv_aload_n hx hb dX6_faultOfSplit_72 rfl (lv_at hl 1 rfl) ?_
          refine va_get (D := G) (ci := 8) (v := .ref o_parcels) (C := RX6) (T := TX6) (N := 5) hx hb hts i_X6 hown hK.1 hP 0 rfl rfl 1 (by decide) w_0 (fun _ h9 => h9) rfl dX6_faultOfSplit_73 ?_
          refine va_get (D := G) (ci := 6) (v := .int v_o_parcels_count) (C := RX4) (T := TX4) (N := 7) hx hb hts i_X4 hown hK.1 hP 1 rfl rfl 0 (by decide) w_5 (fun _ h9 => h9) rfl dX6_faultOfSplit_76 ?_
          refine lv_bipush (v := (22 : Int32)) hx hb dX6_faultOfSplit_79 (by decide) ?_
          refine lv_icmp_gt (tgt := 88) hx hb dX6_faultOfSplit_81 (by decide) (fun c_10 => ?_) (fun c_10 => ?_)
          · replace hm := it hm c_10
            refine lv_bipush (v := (6 : Int32)) hx hb dX6_faultOfSplit_88 (by decide) ?_
            exact hret _ _ _ dX6_faultOfSplit_90 rfl hm.symm
          · replace hm := ie hm c_10
            refine lv_iconst (v := (0 : Int32)) hx hb dX6_faultOfSplit_84 (by decide) ?_
            refine lv_goto (tgt := 90) hx hb dX6_faultOfSplit_85 (by decide) ?_
            exact hret _ _ _ dX6_faultOfSplit_90 rfl hm.symm
        · replace hm := ie hm c_9
          refine lv_iconst (v := (3 : Int32)) hx hb dX6_faultOfSplit_70 (by decide) ?_
          exact hret _ _ _ dX6_faultOfSplit_71 rfl hm.symm
      · replace hm := it hm c_7
        refine lv_iconst (v := (2 : Int32)) hx hb dX6_faultOfSplit_52 (by decide) ?_
        exact hret _ _ _ dX6_faultOfSplit_53 rfl hm.symm
    · replace hm := it hm c_4
      refine lv_iconst (v := (1 : Int32)) hx hb dX6_faultOfSplit_25 (by decide) ?_
      exact hret _ _ _ dX6_faultOfSplit_26 rfl hm.symm
  · replace hm := it hm c_2
    refine lv_bipush (v := (7 : Int32)) hx hb dX6_faultOfSplit_11 (by decide) ?_
    exact hret _ _ _ dX6_faultOfSplit_13 rfl hm.symm
def m_X6_holderAt (p1 : Int32) (p2 : Int32) (v_o_parcels_count : Int32) (g_o_parcels_root : Nat → Int32) (v_o_deeds_count : Int32) (g_o_deeds_parcelOf : Nat → Int32) (g_o_deeds_grantor : Nat → Int32) (g_o_deeds_grantee : Nat → Int32) (g_o_deeds_dayOf : Nat → Int32) : Option (Int32) := Option.bind (m_X4_has p1 v_o_parcels_count) (fun r_1 => (if r_1 = 0 then some (-1 : Int32) else gd (ix p1 24) (Option.bind (m_X0_rowsUpTo p2 v_o_deeds_count g_o_deeds_dayOf) (fun r_4 => Option.bind (m_X0_holderBehind p1 (g_o_parcels_root p1.toNatClampNeg) r_4 v_o_deeds_count g_o_deeds_parcelOf g_o_deeds_grantor g_o_deeds_grantee) (fun r_5 => some r_5)))))
abbrev k_X6_holderAt (cA : Nat → ClassId) (o o_parcels o_deeds o_easements o_liens o_parcels_area o_parcels_firstDay o_parcels_lastDay o_parcels_neighbours o_parcels_parents o_parcels_root o_deeds_parcelOf o_deeds_grantor o_deeds_grantee o_deeds_dayOf o_deeds_most : Nat) (v_o_day : Int32) (v_o_parcels_count : Int32) (g_o_parcels_root : Nat → Int32) (v_o_deeds_count : Int32) (g_o_deeds_parcelOf : Nat → Int32) (g_o_deeds_grantor : Nat → Int32) (g_o_deeds_grantee : Nat → Int32) (g_o_deeds_dayOf : Nat → Int32) : va_W := [(o, .inr (8, [.int v_o_day, .ref o_parcels, .ref o_deeds, .ref o_easements, .ref o_liens])), (o_parcels, .inr (6, [.int v_o_parcels_count, .ref o_parcels_area, .ref o_parcels_firstDay, .ref o_parcels_lastDay, .ref o_parcels_neighbours, .ref o_parcels_parents, .ref o_parcels_root])), (o_parcels_root, .inl (cA 0, 24, .inl g_o_parcels_root)), (o_deeds, .inr (2, [.int v_o_deeds_count, .ref o_deeds_parcelOf, .ref o_deeds_grantor, .ref o_deeds_grantee, .ref o_deeds_dayOf, .ref o_deeds_most])), (o_deeds_parcelOf, .inl (cA 0, 60, .inl g_o_deeds_parcelOf)), (o_deeds_grantor, .inl (cA 0, 60, .inl g_o_deeds_grantor)), (o_deeds_grantee, .inl (cA 0, 60, .inl g_o_deeds_grantee)), (o_deeds_dayOf, .inl (cA 0, 60, .inl g_o_deeds_dayOf))]
set_option maxHeartbeats 4000000 in
set_option maxRecDepth 100000 in
/-- X6_holderAt: as its model -/
theorem c_X6_holderAt (l : Launch) (G : va_G) (cA : Nat → ClassId) (o o_parcels o_deeds o_easements o_liens o_parcels_area o_parcels_firstDay o_parcels_lastDay o_parcels_neighbours o_parcels_parents o_parcels_root o_deeds_parcelOf o_deeds_grantor o_deeds_grantee o_deeds_dayOf o_deeds_most : Nat) (p1 : Int32) (p2 : Int32) (v_o_day : Int32) (v_o_parcels_count : Int32) (g_o_parcels_root : Nat → Int32) (v_o_deeds_count : Int32) (g_o_deeds_parcelOf : Nat → Int32) (g_o_deeds_grantor : Nat → Int32) (g_o_deeds_grantee : Nat → Int32) (g_o_deeds_dayOf : Nat → Int32) (R : Option (Int32)) (hR : m_X6_holderAt p1 p2 v_o_parcels_count g_o_parcels_root v_o_deeds_count g_o_deeds_parcelOf g_o_deeds_grantor g_o_deeds_grantee g_o_deeds_dayOf = R) (hz : R ≠ none) : Met l yX6_holderAt wsX6_holderAt ({ frames := 1, cells := 0, slots := 0, locals := 25 } : Room) (va_Pc [.ref o, .int p1, .int p2] (PR G cA (k_X6_holderAt cA o o_parcels o_deeds o_easements o_liens o_parcels_area o_parcels_firstDay o_parcels_lastDay o_parcels_neighbours o_parcels_parents o_parcels_root o_deeds_parcelOf o_deeds_grantor o_deeds_grantee o_deeds_dayOf o_deeds_most v_o_day v_o_parcels_count g_o_parcels_root v_o_deeds_count g_o_deeds_parcelOf g_o_deeds_grantor g_o_deeds_grantee g_o_deeds_dayOf))) (vp_Si (fun r => R = some r)) 0 0 (fun _ => False) := by
  refine metR .int (by decide) rfl (Nat.le_of_ble_eq_true rfl) ?_
  intro p e s m av below meth c Q ls hx hb hml hts hown hP hK hl hret
  replace hl : lv_has ls 3 [(0, .ref o), (1, .int p1), (2, .int p2)] := hl
  have w_0 := hts (.fieldLink RX6 18 "ParcelRegistry$World" "parcels" "LParcelRegistry$Parcels;") (by decide +kernel)
  have w_1 := hts (.fieldLink RX6 25 "ParcelRegistry$World" "deeds" "LParcelRegistry$Deeds;") (by decide +kernel)
  have w_2 := hts (.fieldLink RX6 69 "ParcelRegistry$Parcels" "root" "[I") (by decide +kernel)
  have i_X4 : ∀ w ∈ wsX40, w ∈ wsX6_holderAt := by decide +kernel
  have i_X6 : ∀ w ∈ wsX60, w ∈ wsX6_holderAt := by decide +kernel
  have hm := hR
  unfold m_X6_holderAt at hm
  refine lv_aload_n hx hb dX6_holderAt_0 rfl (lv_at hl 0 rfl) ?_
  refine va_get (D := G) (ci := 8) (v := .ref o_parcels) (C := RX6) (T := TX6) (N := 5) hx hb hts i_X6 hown hK.1 hP 0 rfl rfl 1 (by decide) w_0 (fun _ h9 => h9) rfl dX6_holderAt_1 ?_
  refine lv_iload_n hx hb dX6_holderAt_4 rfl (lv_at hl 1 rfl) ?_
  refine vp_callSi (va_Run.run (va_runV (As := [.int p1]) (rest := []) ⟨hx, hb, hml, hown, hts⟩ (c_X4_has l G cA o_parcels o_parcels_area o_parcels_firstDay o_parcels_lastDay o_parcels_neighbours o_parcels_parents o_parcels_root p1 v_o_parcels_count _ rfl (bnz hm hz)) (cwV 1 hts gX6_holderAt_X4_has rfl rfl rfl (by decide +kernel) ⟨Nat.le_of_ble_eq_true rfl, Nat.le_of_ble_eq_true rfl⟩) (preRV (q := (RX4, TX4, 7)) (hP.sub [1] rfl) hK 0 rfl rfl) rfl rfl hl.1 rfl (lv_room (Nat.le_of_ble_eq_true rfl)) dX6_holderAt_5 ⟨Nat.zero_le _, Nat.zero_le _⟩)) (fun r_1 hw => ?_)
  replace hm := bst hm hw.1
  refine lv_if_ne (tgt := 13) hx hb dX6_holderAt_8 (by decide) (fun c_2 => ?_) (fun c_2 => ?_)
  · replace hm := ie hm c_2
    refine lv_aload_n hx hb dX6_holderAt_13 rfl (lv_at hl 0 rfl) ?_
    refine va_get (D := G) (ci := 8) (v := .ref o_deeds) (C := RX6) (T := TX6) (N := 5) hx hb hts i_X6 hown hK.1 hP 0 rfl rfl 2 (by decide) w_1 (fun _ h9 => h9) rfl dX6_holderAt_14 ?_
    refine lv_iload_n hx hb dX6_holderAt_17 rfl (lv_at hl 1 rfl) ?_
    refine lv_aload_n hx hb dX6_holderAt_18 rfl (lv_at hl 0 rfl) ?_
    refine va_get (D := G) (ci := 8) (v := .ref o_parcels) (C := RX6) (T := TX6) (N := 5) hx hb hts i_X6 hown hK.1 hP 0 rfl rfl 1 (by decide) w_0 (fun _ h9 => h9) rfl dX6_holderAt_19 ?_
    refine va_get (D := G) (ci := 6) (v := .ref o_parcels_root) (C := RX4) (T := TX4) (N := 7) hx hb hts i_X4 hown hK.1 hP 1 rfl rfl 6 (by decide) w_2 (fun _ h9 => h9) rfl dX6_holderAt_22 ?_
    refine lv_iload_n hx hb dX6_holderAt_25 rfl (lv_at hl 1 rfl) ?_
    replace hm := gdo hm hz
    obtain ⟨gi_3, hm⟩ := hm
    refine va_iald hx hb hK.1 hP 2 0 (cA := cA 0) (n := 24) (f := g_o_parcels_root) rfl rfl (ixi gi_3) dX6_holderAt_26 ?_
    refine lv_aload_n hx hb dX6_holderAt_27 rfl (lv_at hl 0 rfl) ?_
    refine va_get (D := G) (ci := 8) (v := .ref o_deeds) (C := RX6) (T := TX6) (N := 5) hx hb hts i_X6 hown hK.1 hP 0 rfl rfl 2 (by decide) w_1 (fun _ h9 => h9) rfl dX6_holderAt_28 ?_
    refine lv_iload_n hx hb dX6_holderAt_31 rfl (lv_at hl 2 rfl) ?_
    refine vp_callSi (va_Run.run (va_runV (As := [.int p2]) (rest := [.int (g_o_parcels_root p1.toNatClampNeg), .int p1, .ref o_deeds]) ⟨hx, hb, hml, hown, hts⟩ (c_X0_rowsUpTo l G cA o_deeds o_deeds_parcelOf o_deeds_grantor o_deeds_grantee o_deeds_dayOf o_deeds_most p2 v_o_deeds_count g_o_deeds_dayOf _ rfl (bnz hm hz)) (cwV 1 hts gX6_holderAt_X0_rowsUpTo rfl rfl rfl (by decide +kernel) ⟨Nat.le_of_ble_eq_true rfl, Nat.le_of_ble_eq_true rfl⟩) (preRV (q := (RX0, TX0, 6)) (hP.sub [3, 7] rfl) hK 0 rfl rfl) rfl rfl hl.1 rfl (lv_room (Nat.le_of_ble_eq_true rfl)) dX6_holderAt_32 ⟨Nat.zero_le _, Nat.zero_le _⟩)) (fun r_4 hw => ?_)
    replace hm := bst hm hw
    refine vp_callSi (va_Run.run (va_runV (As := [.int p1, .int (g_o_parcels_root p1.toNatClampNeg), .int r_4]) (rest := []) ⟨hx, hb, hml, hown, hts⟩ (c_X0_holderBehind l G cA o_deeds o_deeds_parcelOf o_deeds_grantor o_deeds_grantee o_deeds_dayOf o_deeds_most p1 (g_o_parcels_root p1.toNatClampNeg) r_4 v_o_deeds_count g_o_deeds_parcelOf g_o_deeds_grantor g_o_deeds_grantee _ rfl (bnz hm hz)) (cwV 3 hts gX6_holderAt_X0_holderBehind rfl rfl rfl (by decide +kernel) ⟨Nat.le_of_ble_eq_true rfl, Nat.le_of_ble_eq_true rfl⟩) (preRV (q := (RX0, TX0, 6)) (hP.sub [3, 4, 5, 6] rfl) hK 0 rfl rfl) rfl rfl hl.1 rfl (lv_room (Nat.le_of_ble_eq_true rfl)) dX6_holderAt_35 ⟨Nat.zero_le _, Nat.zero_le _⟩)) (fun r_5 hw => ?_)
    replace hm := bst hm hw
    exact hret _ _ _ dX6_holderAt_38 rfl hm.symm
  · replace hm := it hm c_2
    refine lv_iconst (v := (-1 : Int32)) hx hb dX6_holderAt_11 (by decide) ?_
    exact hret _ _ _ dX6_holderAt_12 rfl hm.symm
def m_X6_holderNow (p1 : Int32) (v_o_parcels_count : Int32) (g_o_parcels_root : Nat → Int32) (v_o_deeds_count : Int32) (g_o_deeds_parcelOf : Nat → Int32) (g_o_deeds_grantor : Nat → Int32) (g_o_deeds_grantee : Nat → Int32) (g_o_deeds_dayOf : Nat → Int32) : Option (Int32) := Option.bind (m_X6_holderAt p1 (9999 : Int32) v_o_parcels_count g_o_parcels_root v_o_deeds_count g_o_deeds_parcelOf g_o_deeds_grantor g_o_deeds_grantee g_o_deeds_dayOf) (fun r_1 => some r_1)
abbrev k_X6_holderNow (cA : Nat → ClassId) (o o_parcels o_deeds o_easements o_liens o_parcels_area o_parcels_firstDay o_parcels_lastDay o_parcels_neighbours o_parcels_parents o_parcels_root o_deeds_parcelOf o_deeds_grantor o_deeds_grantee o_deeds_dayOf o_deeds_most : Nat) (v_o_day : Int32) (v_o_parcels_count : Int32) (g_o_parcels_root : Nat → Int32) (v_o_deeds_count : Int32) (g_o_deeds_parcelOf : Nat → Int32) (g_o_deeds_grantor : Nat → Int32) (g_o_deeds_grantee : Nat → Int32) (g_o_deeds_dayOf : Nat → Int32) : va_W := [(o, .inr (8, [.int v_o_day, .ref o_parcels, .ref o_deeds, .ref o_easements, .ref o_liens])), (o_parcels, .inr (6, [.int v_o_parcels_count, .ref o_parcels_area, .ref o_parcels_firstDay, .ref o_parcels_lastDay, .ref o_parcels_neighbours, .ref o_parcels_parents, .ref o_parcels_root])), (o_parcels_root, .inl (cA 0, 24, .inl g_o_parcels_root)), (o_deeds, .inr (2, [.int v_o_deeds_count, .ref o_deeds_parcelOf, .ref o_deeds_grantor, .ref o_deeds_grantee, .ref o_deeds_dayOf, .ref o_deeds_most])), (o_deeds_parcelOf, .inl (cA 0, 60, .inl g_o_deeds_parcelOf)), (o_deeds_grantor, .inl (cA 0, 60, .inl g_o_deeds_grantor)), (o_deeds_grantee, .inl (cA 0, 60, .inl g_o_deeds_grantee)), (o_deeds_dayOf, .inl (cA 0, 60, .inl g_o_deeds_dayOf))]
set_option maxHeartbeats 4000000 in
set_option maxRecDepth 100000 in
/-- X6_holderNow: as its model -/
theorem c_X6_holderNow (l : Launch) (G : va_G) (cA : Nat → ClassId) (o o_parcels o_deeds o_easements o_liens o_parcels_area o_parcels_firstDay o_parcels_lastDay o_parcels_neighbours o_parcels_parents o_parcels_root o_deeds_parcelOf o_deeds_grantor o_deeds_grantee o_deeds_dayOf o_deeds_most : Nat) (p1 : Int32) (v_o_day : Int32) (v_o_parcels_count : Int32) (g_o_parcels_root : Nat → Int32) (v_o_deeds_count : Int32) (g_o_deeds_parcelOf : Nat → Int32) (g_o_deeds_grantor : Nat → Int32) (g_o_deeds_grantee : Nat → Int32) (g_o_deeds_dayOf : Nat → Int32) (R : Option (Int32)) (hR : m_X6_holderNow p1 v_o_parcels_count g_o_parcels_root v_o_deeds_count g_o_deeds_parcelOf g_o_deeds_grantor g_o_deeds_grantee g_o_deeds_dayOf = R) (hz : R ≠ none) : Met l yX6_holderNow wsX6_holderNow ({ frames := 2, cells := 0, slots := 0, locals := 47 } : Room) (va_Pc [.ref o, .int p1] (PR G cA (k_X6_holderNow cA o o_parcels o_deeds o_easements o_liens o_parcels_area o_parcels_firstDay o_parcels_lastDay o_parcels_neighbours o_parcels_parents o_parcels_root o_deeds_parcelOf o_deeds_grantor o_deeds_grantee o_deeds_dayOf o_deeds_most v_o_day v_o_parcels_count g_o_parcels_root v_o_deeds_count g_o_deeds_parcelOf g_o_deeds_grantor g_o_deeds_grantee g_o_deeds_dayOf))) (vp_Si (fun r => R = some r)) 0 0 (fun _ => False) := by
  refine metR .int (by decide) rfl (Nat.le_of_ble_eq_true rfl) ?_
  intro p e s m av below meth c Q ls hx hb hml hts hown hP hK hl hret
  replace hl : lv_has ls 2 [(0, .ref o), (1, .int p1)] := hl
  have hm := hR
  unfold m_X6_holderNow at hm
  refine lv_aload_n hx hb dX6_holderNow_0 rfl (lv_at hl 0 rfl) ?_
  refine lv_iload_n hx hb dX6_holderNow_1 rfl (lv_at hl 1 rfl) ?_
  refine lv_sipush (v := (9999 : Int32)) hx hb dX6_holderNow_2 (by decide) ?_
  refine vp_callSi (va_Run.run (va_runV (As := [.int p1, .int (9999 : Int32)]) (rest := []) ⟨hx, hb, hml, hown, hts⟩ (c_X6_holderAt l G cA o o_parcels o_deeds o_easements o_liens o_parcels_area o_parcels_firstDay o_parcels_lastDay o_parcels_neighbours o_parcels_parents o_parcels_root o_deeds_parcelOf o_deeds_grantor o_deeds_grantee o_deeds_dayOf o_deeds_most p1 (9999 : Int32) v_o_day v_o_parcels_count g_o_parcels_root v_o_deeds_count g_o_deeds_parcelOf g_o_deeds_grantor g_o_deeds_grantee g_o_deeds_dayOf _ rfl (bnz hm hz)) (cwV 2 hts gX6_holderNow_X6_holderAt rfl rfl rfl (by decide +kernel) ⟨Nat.le_of_ble_eq_true rfl, Nat.le_of_ble_eq_true rfl⟩) (preRV (q := (RX6, TX6, 5)) (hP.sub [0, 1, 2, 3, 4, 5, 6, 7] rfl) hK 0 rfl rfl) rfl rfl hl.1 rfl (lv_room (Nat.le_of_ble_eq_true rfl)) dX6_holderNow_5 ⟨Nat.zero_le _, Nat.zero_le _⟩)) (fun r_1 hw => ?_)
  replace hm := bst hm hw
  exact hret _ _ _ dX6_holderNow_8 rfl hm.symm
def m_X6_divide (p1 : Int32) (p2 : Int32) (p3 : Int32) (v_o_day : Int32) (v_o_parcels_count : Int32) (g_o_parcels_area : Nat → Int32) (g_o_parcels_firstDay : Nat → Int32) (g_o_parcels_lastDay : Nat → Int32) (g_o_parcels_neighbours : Nat → Int32) (g_o_parcels_parents : Nat → Int32) (g_o_parcels_root : Nat → Int32) (v_o_deeds_count : Int32) (g_o_deeds_parcelOf : Nat → Int32) (g_o_deeds_grantor : Nat → Int32) (g_o_deeds_grantee : Nat → Int32) (g_o_deeds_dayOf : Nat → Int32) (v_o_easements_count : Int32) (g_o_easements_kind : Nat → Int32) (g_o_easements_on : Nat → Int32) (g_o_easements_serves : Nat → Int32) (g_o_easements_firstDay : Nat → Int32) (g_o_easements_lastDay : Nat → Int32) (v_o_liens_ranked : Int32) (g_o_liens_parcels : Nat → Int32) (g_o_liens_ranking : Nat → Int32) : Option (Int32 × Int32 × (Nat → Int32) × (Nat → Int32) × (Nat → Int32) × (Nat → Int32) × (Nat → Int32) × (Nat → Int32) × Int32 × (Nat → Int32) × (Nat → Int32) × (Nat → Int32) × (Nat → Int32) × (Nat → Int32) × (Nat → Int32)) := Option.bind (m_X6_holderNow p1 v_o_parcels_count g_o_parcels_root v_o_deeds_count g_o_deeds_parcelOf g_o_deeds_grantor g_o_deeds_grantee g_o_deeds_dayOf) (fun r_1 => Option.bind (m_X4_neighboursOf p1 v_o_parcels_count g_o_parcels_neighbours) (fun r_2 => Option.bind (m_X4_areaOf ((1 : Int32) <<< (p1 &&& 31)) v_o_parcels_count g_o_parcels_area) (fun r_3 => Option.bind (m_X4_end p1 v_o_day v_o_parcels_count g_o_parcels_lastDay g_o_parcels_neighbours) (fun q => match q with
  | (g_4, g_5) => Option.bind (m_X4_come p2 r_1 ((1 : Int32) <<< (p1 &&& 31)) v_o_day v_o_parcels_count g_o_parcels_area g_o_parcels_firstDay g_4 g_5 g_o_parcels_parents g_o_parcels_root) (fun q => match q with
  | (r_6, v_7, g_8, g_9, g_10, g_11, g_12, g_13) => Option.bind (m_X4_come (r_3 - p2) r_1 ((1 : Int32) <<< (p1 &&& 31)) v_o_day v_7 g_8 g_9 g_10 g_11 g_12 g_13) (fun q => match q with
  | (r_14, v_15, g_16, g_17, g_18, g_19, g_20, g_21) => Option.bind (m_X4_link r_6 r_14 v_15 g_19) (fun g_22 => Option.bind (m_X4_linkAll r_6 p3 v_15 g_22) (fun g_23 => Option.bind (m_X4_linkAll r_14 (r_2 &&& (p3 ^^^ (-1 : Int32))) v_15 g_23) (fun g_24 => Option.bind (m_X1_followSplit p1 r_6 r_14 v_o_day v_o_easements_count g_o_easements_kind g_o_easements_on g_o_easements_serves g_o_easements_firstDay g_o_easements_lastDay) (fun q => match q with
  | (v_25, g_26, g_27, g_28, g_29, g_30) => Option.bind (m_X3_follow ((1 : Int32) <<< (p1 &&& 31)) (((1 : Int32) <<< (r_6 &&& 31)) ||| ((1 : Int32) <<< (r_14 &&& 31))) v_o_liens_ranked g_o_liens_parcels g_o_liens_ranking) (fun g_31 => some (r_6, v_15, g_16, g_17, g_18, g_24, g_20, g_21, v_25, g_26, g_27, g_28, g_29, g_30, g_31))))))))))))
abbrev k_X6_divide (cA : Nat → ClassId) (o o_parcels o_deeds o_easements o_liens o_parcels_area o_parcels_firstDay o_parcels_lastDay o_parcels_neighbours o_parcels_parents o_parcels_root o_deeds_parcelOf o_deeds_grantor o_deeds_grantee o_deeds_dayOf o_deeds_most o_easements_kind o_easements_on o_easements_serves o_easements_firstDay o_easements_lastDay o_liens_creditor o_liens_amount o_liens_parcels o_liens_ranking : Nat) (v_o_day : Int32) (v_o_parcels_count : Int32) (g_o_parcels_area : Nat → Int32) (g_o_parcels_firstDay : Nat → Int32) (g_o_parcels_lastDay : Nat → Int32) (g_o_parcels_neighbours : Nat → Int32) (g_o_parcels_parents : Nat → Int32) (g_o_parcels_root : Nat → Int32) (v_o_deeds_count : Int32) (g_o_deeds_parcelOf : Nat → Int32) (g_o_deeds_grantor : Nat → Int32) (g_o_deeds_grantee : Nat → Int32) (g_o_deeds_dayOf : Nat → Int32) (v_o_easements_count : Int32) (g_o_easements_kind : Nat → Int32) (g_o_easements_on : Nat → Int32) (g_o_easements_serves : Nat → Int32) (g_o_easements_firstDay : Nat → Int32) (g_o_easements_lastDay : Nat → Int32) (v_o_liens_count : Int32) (v_o_liens_ranked : Int32) (g_o_liens_parcels : Nat → Int32) (g_o_liens_ranking : Nat → Int32) : va_W := [(o, .inr (8, [.int v_o_day, .ref o_parcels, .ref o_deeds, .ref o_easements, .ref o_liens])), (o_parcels, .inr (6, [.int v_o_parcels_count, .ref o_parcels_area, .ref o_parcels_firstDay, .ref o_parcels_lastDay, .ref o_parcels_neighbours, .ref o_parcels_parents, .ref o_parcels_root])), (o_parcels_area, .inl (cA 0, 24, .inl g_o_parcels_area)), (o_parcels_firstDay, .inl (cA 0, 24, .inl g_o_parcels_firstDay)), (o_parcels_lastDay, .inl (cA 0, 24, .inl g_o_parcels_lastDay)), (o_parcels_neighbours, .inl (cA 0, 24, .inl g_o_parcels_neighbours)), (o_parcels_parents, .inl (cA 0, 24, .inl g_o_parcels_parents)), (o_parcels_root, .inl (cA 0, 24, .inl g_o_parcels_root)), (o_deeds, .inr (2, [.int v_o_deeds_count, .ref o_deeds_parcelOf, .ref o_deeds_grantor, .ref o_deeds_grantee, .ref o_deeds_dayOf, .ref o_deeds_most])), (o_deeds_parcelOf, .inl (cA 0, 60, .inl g_o_deeds_parcelOf)), (o_deeds_grantor, .inl (cA 0, 60, .inl g_o_deeds_grantor)), (o_deeds_grantee, .inl (cA 0, 60, .inl g_o_deeds_grantee)), (o_deeds_dayOf, .inl (cA 0, 60, .inl g_o_deeds_dayOf)), (o_easements, .inr (3, [.int v_o_easements_count, .ref o_easements_kind, .ref o_easements_on, .ref o_easements_serves, .ref o_easements_firstDay, .ref o_easements_lastDay])), (o_easements_kind, .inl (cA 0, 30, .inl g_o_easements_kind)), (o_easements_on, .inl (cA 0, 30, .inl g_o_easements_on)), (o_easements_serves, .inl (cA 0, 30, .inl g_o_easements_serves)), (o_easements_firstDay, .inl (cA 0, 30, .inl g_o_easements_firstDay)), (o_easements_lastDay, .inl (cA 0, 30, .inl g_o_easements_lastDay)), (o_liens, .inr (5, [.int v_o_liens_count, .int v_o_liens_ranked, .ref o_liens_creditor, .ref o_liens_amount, .ref o_liens_parcels, .ref o_liens_ranking])), (o_liens_parcels, .inl (cA 0, 20, .inl g_o_liens_parcels)), (o_liens_ranking, .inl (cA 0, 20, .inl g_o_liens_ranking))]
set_option maxHeartbeats 4000000 in
set_option maxRecDepth 100000 in
/-- X6_divide: as its model -/
theorem c_X6_divide (l : Launch) (G : va_G) (cA : Nat → ClassId) (o o_parcels o_deeds o_easements o_liens o_parcels_area o_parcels_firstDay o_parcels_lastDay o_parcels_neighbours o_parcels_parents o_parcels_root o_deeds_parcelOf o_deeds_grantor o_deeds_grantee o_deeds_dayOf o_deeds_most o_easements_kind o_easements_on o_easements_serves o_easements_firstDay o_easements_lastDay o_liens_creditor o_liens_amount o_liens_parcels o_liens_ranking : Nat) (sz : Nat) (p1 : Int32) (p2 : Int32) (p3 : Int32) (v_o_day : Int32) (v_o_parcels_count : Int32) (g_o_parcels_area : Nat → Int32) (g_o_parcels_firstDay : Nat → Int32) (g_o_parcels_lastDay : Nat → Int32) (g_o_parcels_neighbours : Nat → Int32) (g_o_parcels_parents : Nat → Int32) (g_o_parcels_root : Nat → Int32) (v_o_deeds_count : Int32) (g_o_deeds_parcelOf : Nat → Int32) (g_o_deeds_grantor : Nat → Int32) (g_o_deeds_grantee : Nat → Int32) (g_o_deeds_dayOf : Nat → Int32) (v_o_easements_count : Int32) (g_o_easements_kind : Nat → Int32) (g_o_easements_on : Nat → Int32) (g_o_easements_serves : Nat → Int32) (g_o_easements_firstDay : Nat → Int32) (g_o_easements_lastDay : Nat → Int32) (v_o_liens_count : Int32) (v_o_liens_ranked : Int32) (g_o_liens_parcels : Nat → Int32) (g_o_liens_ranking : Nat → Int32) (R : Option (Int32 × Int32 × (Nat → Int32) × (Nat → Int32) × (Nat → Int32) × (Nat → Int32) × (Nat → Int32) × (Nat → Int32) × Int32 × (Nat → Int32) × (Nat → Int32) × (Nat → Int32) × (Nat → Int32) × (Nat → Int32) × (Nat → Int32))) (hR : m_X6_divide p1 p2 p3 v_o_day v_o_parcels_count g_o_parcels_area g_o_parcels_firstDay g_o_parcels_lastDay g_o_parcels_neighbours g_o_parcels_parents g_o_parcels_root v_o_deeds_count g_o_deeds_parcelOf g_o_deeds_grantor g_o_deeds_grantee g_o_deeds_dayOf v_o_easements_count g_o_easements_kind g_o_easements_on g_o_easements_serves g_o_easements_firstDay g_o_easements_lastDay v_o_liens_ranked g_o_liens_parcels g_o_liens_ranking = R) (hz : R ≠ none) : Met l yX6_divide wsX6_divide ({ frames := 3, cells := 0, slots := 0, locals := 68 } : Room) (va_Pc [.ref o, .int p1, .int p2, .int p3] (PM G cA (k_X6_divide cA o o_parcels o_deeds o_easements o_liens o_parcels_area o_parcels_firstDay o_parcels_lastDay o_parcels_neighbours o_parcels_parents o_parcels_root o_deeds_parcelOf o_deeds_grantor o_deeds_grantee o_deeds_dayOf o_deeds_most o_easements_kind o_easements_on o_easements_serves o_easements_firstDay o_easements_lastDay o_liens_creditor o_liens_amount o_liens_parcels o_liens_ranking v_o_day v_o_parcels_count g_o_parcels_area g_o_parcels_firstDay g_o_parcels_lastDay g_o_parcels_neighbours g_o_parcels_parents g_o_parcels_root v_o_deeds_count g_o_deeds_parcelOf g_o_deeds_grantor g_o_deeds_grantee g_o_deeds_dayOf v_o_easements_count g_o_easements_kind g_o_easements_on g_o_easements_serves g_o_easements_firstDay g_o_easements_lastDay v_o_liens_count v_o_liens_ranked g_o_liens_parcels g_o_liens_ranking) sz)) (va_Qi (fun (r : Int32) (u : Int32 × (Nat → Int32) × (Nat → Int32) × (Nat → Int32) × (Nat → Int32) × (Nat → Int32) × (Nat → Int32) × Int32 × (Nat → Int32) × (Nat → Int32) × (Nat → Int32) × (Nat → Int32) × (Nat → Int32) × (Nat → Int32)) => R = some (r, u)) (BM G (fun (u : Int32 × (Nat → Int32) × (Nat → Int32) × (Nat → Int32) × (Nat → Int32) × (Nat → Int32) × (Nat → Int32) × Int32 × (Nat → Int32) × (Nat → Int32) × (Nat → Int32) × (Nat → Int32) × (Nat → Int32) × (Nat → Int32)) => (k_X6_divide cA o o_parcels o_deeds o_easements o_liens o_parcels_area o_parcels_firstDay o_parcels_lastDay o_parcels_neighbours o_parcels_parents o_parcels_root o_deeds_parcelOf o_deeds_grantor o_deeds_grantee o_deeds_dayOf o_deeds_most o_easements_kind o_easements_on o_easements_serves o_easements_firstDay o_easements_lastDay o_liens_creditor o_liens_amount o_liens_parcels o_liens_ranking v_o_day u.1 u.2.1 u.2.2.1 u.2.2.2.1 u.2.2.2.2.1 u.2.2.2.2.2.1 u.2.2.2.2.2.2.1 v_o_deeds_count g_o_deeds_parcelOf g_o_deeds_grantor g_o_deeds_grantee g_o_deeds_dayOf u.2.2.2.2.2.2.2.1 u.2.2.2.2.2.2.2.2.1 u.2.2.2.2.2.2.2.2.2.1 u.2.2.2.2.2.2.2.2.2.2.1 u.2.2.2.2.2.2.2.2.2.2.2.1 u.2.2.2.2.2.2.2.2.2.2.2.2.1 v_o_liens_count v_o_liens_ranked u.2.2.2.2.2.2.2.2.2.2.2.2.2 g_o_liens_ranking))) (va_A (k_X6_divide cA o o_parcels o_deeds o_easements o_liens o_parcels_area o_parcels_firstDay o_parcels_lastDay o_parcels_neighbours o_parcels_parents o_parcels_root o_deeds_parcelOf o_deeds_grantor o_deeds_grantee o_deeds_dayOf o_deeds_most o_easements_kind o_easements_on o_easements_serves o_easements_firstDay o_easements_lastDay o_liens_creditor o_liens_amount o_liens_parcels o_liens_ranking v_o_day v_o_parcels_count g_o_parcels_area g_o_parcels_firstDay g_o_parcels_lastDay g_o_parcels_neighbours g_o_parcels_parents g_o_parcels_root v_o_deeds_count g_o_deeds_parcelOf g_o_deeds_grantor g_o_deeds_grantee g_o_deeds_dayOf v_o_easements_count g_o_easements_kind g_o_easements_on g_o_easements_serves g_o_easements_firstDay g_o_easements_lastDay v_o_liens_count v_o_liens_ranked g_o_liens_parcels g_o_liens_ranking) sz)) 0 0 (va_A (k_X6_divide cA o o_parcels o_deeds o_easements o_liens o_parcels_area o_parcels_firstDay o_parcels_lastDay o_parcels_neighbours o_parcels_parents o_parcels_root o_deeds_parcelOf o_deeds_grantor o_deeds_grantee o_deeds_dayOf o_deeds_most o_easements_kind o_easements_on o_easements_serves o_easements_firstDay o_easements_lastDay o_liens_creditor o_liens_amount o_liens_parcels o_liens_ranking v_o_day v_o_parcels_count g_o_parcels_area g_o_parcels_firstDay g_o_parcels_lastDay g_o_parcels_neighbours g_o_parcels_parents g_o_parcels_root v_o_deeds_count g_o_deeds_parcelOf g_o_deeds_grantor g_o_deeds_grantee g_o_deeds_dayOf v_o_easements_count g_o_easements_kind g_o_easements_on g_o_easements_serves g_o_easements_firstDay g_o_easements_lastDay v_o_liens_count v_o_liens_ranked g_o_liens_parcels g_o_liens_ranking) sz) := by
  refine metM .int (by decide) rfl (Nat.le_of_ble_eq_true rfl) ?_
  intro p e s m av below meth c Q ls A H hx hb hml hts hown hP hK hD hA hS hl hret
  replace hl : lv_has ls 9 [(0, .ref o), (1, .int p1), (2, .int p2), (3, .int p3)] := hl
  have w_0 := hts (.fieldLink RX6 18 "ParcelRegistry$World" "parcels" "LParcelRegistry$Parcels;") (by decide +kernel)
  have w_1 := hts (.fieldLink RX6 9 "ParcelRegistry$World" "day" "I") (by decide +kernel)
  have w_2 := hts (.fieldLink RX6 32 "ParcelRegistry$World" "easements" "LParcelRegistry$Easements;") (by decide +kernel)
  have w_3 := hts (.fieldLink RX6 39 "ParcelRegistry$World" "liens" "LParcelRegistry$Liens;") (by decide +kernel)
  have i_X6 : ∀ w ∈ wsX60, w ∈ wsX6_divide := by decide +kernel
  have hm := hR
  unfold m_X6_divide at hm
  refine lv_aload_n hx hb dX6_divide_0 rfl (lv_at hl 0 rfl) ?_
  refine lv_iload_n hx hb dX6_divide_1 rfl (lv_at hl 1 rfl) ?_
  refine vp_callSi (va_Run.run (va_runV (As := [.int p1]) (rest := []) ⟨hx, hb, hml, hown, hts⟩ (c_X6_holderNow l G cA o o_parcels o_deeds o_easements o_liens o_parcels_area o_parcels_firstDay o_parcels_lastDay o_parcels_neighbours o_parcels_parents o_parcels_root o_deeds_parcelOf o_deeds_grantor o_deeds_grantee o_deeds_dayOf o_deeds_most p1 v_o_day v_o_parcels_count g_o_parcels_root v_o_deeds_count g_o_deeds_parcelOf g_o_deeds_grantor g_o_deeds_grantee g_o_deeds_dayOf _ rfl (bnz hm hz)) (cwV 1 hts gX6_divide_X6_holderNow rfl rfl rfl (by decide +kernel) ⟨Nat.le_of_ble_eq_true rfl, Nat.le_of_ble_eq_true rfl⟩) (preRV (q := (RX6, TX6, 5)) (hP.sub [0, 1, 7, 8, 9, 10, 11, 12] rfl) hK 0 rfl rfl) rfl rfl hl.1 rfl (lv_room (Nat.le_of_ble_eq_true rfl)) dX6_divide_2 ⟨Nat.zero_le _, Nat.zero_le _⟩)) (fun r_1 hw => ?_)
  replace hm := bst hm hw
  refine lv_istore (lv' := [(4, .int r_1), (0, .ref o), (1, .int p1), (2, .int p2), (3, .int p3)]) hx hb dX6_divide_5 hl (by decide) rfl (fun ls hl => ?_)
  refine lv_aload_n hx hb dX6_divide_7 rfl (lv_at hl 1 rfl) ?_
  refine va_get (D := G) (ci := 8) (v := .ref o_parcels) (C := RX6) (T := TX6) (N := 5) hx hb hts i_X6 hown hK.1 hP 0 rfl rfl 1 (by decide) w_0 (fun _ h9 => h9) rfl dX6_divide_8 ?_
  refine lv_iload_n hx hb dX6_divide_11 rfl (lv_at hl 2 rfl) ?_
  refine vp_callSi (va_Run.run (va_runV (As := [.int p1]) (rest := []) ⟨hx, hb, hml, hown, hts⟩ (c_X4_neighboursOf l G cA o_parcels o_parcels_area o_parcels_firstDay o_parcels_lastDay o_parcels_neighbours o_parcels_parents o_parcels_root p1 v_o_parcels_count g_o_parcels_neighbours _ rfl (bnz hm hz)) (cwV 1 hts gX6_divide_X4_neighboursOf rfl rfl rfl (by decide +kernel) ⟨Nat.le_of_ble_eq_true rfl, Nat.le_of_ble_eq_true rfl⟩) (preRV (q := (RX4, TX4, 7)) (hP.sub [1, 5] rfl) hK 0 rfl rfl) rfl rfl hl.1 rfl (lv_room (Nat.le_of_ble_eq_true rfl)) dX6_divide_12 ⟨Nat.zero_le _, Nat.zero_le _⟩)) (fun r_2 hw => ?_)
  replace hm := bst hm hw
  refine lv_iload_n hx hb dX6_divide_15 rfl (lv_at hl 4 rfl) ?_
  refine lv_iconst (v := (-1 : Int32)) hx hb dX6_divide_16 (by decide) ?_
  refine lv_ixor hx hb dX6_divide_17 ?_
  refine lv_iand hx hb dX6_divide_18 ?_
  refine lv_istore (lv' := [(5, .int (r_2 &&& (p3 ^^^ (-1 : Int32)))), (4, .int r_1), (0, .ref o), (1, .int p1), (2, .int p2), (3, .int p3)]) hx hb dX6_divide_19 hl (by decide) rfl (fun ls hl => ?_)
  refine lv_aload_n hx hb dX6_divide_21 rfl (lv_at hl 2 rfl) ?_
  refine va_get (D := G) (ci := 8) (v := .ref o_parcels) (C := RX6) (T := TX6) (N := 5) hx hb hts i_X6 hown hK.1 hP 0 rfl rfl 1 (by decide) w_0 (fun _ h9 => h9) rfl dX6_divide_22 ?_
  refine lv_iconst (v := (1 : Int32)) hx hb dX6_divide_25 (by decide) ?_
  refine lv_iload_n hx hb dX6_divide_26 rfl (lv_at hl 3 rfl) ?_
  refine lv_ishl hx hb dX6_divide_27 ?_
  refine vp_callSi (va_Run.run (va_runV (As := [.int ((1 : Int32) <<< (p1 &&& 31))]) (rest := []) ⟨hx, hb, hml, hown, hts⟩ (c_X4_areaOf l G cA o_parcels o_parcels_area o_parcels_firstDay o_parcels_lastDay o_parcels_neighbours o_parcels_parents o_parcels_root ((1 : Int32) <<< (p1 &&& 31)) v_o_parcels_count g_o_parcels_area _ rfl (bnz hm hz)) (cwV 1 hts gX6_divide_X4_areaOf rfl rfl rfl (by decide +kernel) ⟨Nat.le_of_ble_eq_true rfl, Nat.le_of_ble_eq_true rfl⟩) (preRV (q := (RX4, TX4, 7)) (hP.sub [1, 2] rfl) hK 0 rfl rfl) rfl rfl hl.1 rfl (lv_room (Nat.le_of_ble_eq_true rfl)) dX6_divide_28 ⟨Nat.zero_le _, Nat.zero_le _⟩)) (fun r_3 hw => ?_)
  replace hm := bst hm hw
  refine lv_iload_n hx hb dX6_divide_31 rfl (lv_at hl 4 rfl) ?_
  refine lv_isub hx hb dX6_divide_32 ?_
  refine lv_istore (lv' := [(6, .int (r_3 - p2)), (5, .int (r_2 &&& (p3 ^^^ (-1 : Int32)))), (4, .int r_1), (0, .ref o), (1, .int p1), (2, .int p2), (3, .int p3)]) hx hb dX6_divide_33 hl (by decide) rfl (fun ls hl => ?_)
  refine lv_aload_n hx hb dX6_divide_35 rfl (lv_at hl 3 rfl) ?_
  refine va_get (D := G) (ci := 8) (v := .ref o_parcels) (C := RX6) (T := TX6) (N := 5) hx hb hts i_X6 hown hK.1 hP 0 rfl rfl 1 (by decide) w_0 (fun _ h9 => h9) rfl dX6_divide_36 ?_
  refine lv_iload_n hx hb dX6_divide_39 rfl (lv_at hl 4 rfl) ?_
  refine lv_aload_n hx hb dX6_divide_40 rfl (lv_at hl 3 rfl) ?_
  refine va_get (D := G) (ci := 8) (v := .int v_o_day) (C := RX6) (T := TX6) (N := 5) hx hb hts i_X6 hown hK.1 hP 0 rfl rfl 0 (by decide) w_1 (fun _ h9 => h9) rfl dX6_divide_41 ?_
  have hPc := hP.sub (ws' := (k_X4_end cA o_parcels o_parcels_area o_parcels_firstDay o_parcels_lastDay o_parcels_neighbours o_parcels_parents o_parcels_root v_o_parcels_count g_o_parcels_lastDay g_o_parcels_neighbours)) [1, 4, 5] rfl
  have hDc := hD.sub (ws' := (k_X4_end cA o_parcels o_parcels_area o_parcels_firstDay o_parcels_lastDay o_parcels_neighbours o_parcels_parents o_parcels_root v_o_parcels_count g_o_parcels_lastDay g_o_parcels_neighbours)) [1, 4, 5] (by decide) rfl
  have hFc := va_free (wc := (k_X4_end cA o_parcels o_parcels_area o_parcels_firstDay o_parcels_lastDay o_parcels_neighbours o_parcels_parents o_parcels_root v_o_parcels_count g_o_parcels_lastDay g_o_parcels_neighbours)) hD hS hA [1, 4, 5] rfl
  refine va_callv (va_runV (As := [.int p1, .int v_o_day]) (rest := []) ⟨hx, hb, hml, hown, hts⟩ (c_X4_end l G cA o_parcels o_parcels_area o_parcels_firstDay o_parcels_lastDay o_parcels_neighbours o_parcels_parents o_parcels_root H.size p1 v_o_day v_o_parcels_count g_o_parcels_lastDay g_o_parcels_neighbours _ rfl (bnz hm hz)) (cwV 2 hts gX6_divide_X4_end rfl rfl rfl (by decide +kernel) ⟨Nat.le_of_ble_eq_true rfl, Nat.le_of_ble_eq_true rfl⟩) (preMV (q := (RX4, TX4, 7)) hPc hDc hK 0 rfl rfl) rfl rfl hl.1 rfl (lv_room (Nat.le_of_ble_eq_true rfl)) dX6_divide_44 ⟨Nat.zero_le _, Nat.zero_le _⟩) hS (fun q _ h => hFc q h) hFc (fun u_5 t H locs ht hvm hw hB hz1 hk1 hS' => ?_)
  obtain ⟨g_4, g_5⟩ := u_5
  replace hm := bst hm hw
  replace hB : va_P G vwCl _ _ := hB
  rw [ht] at hB
  have hj := va_back (ws' := (k_X6_divide cA o o_parcels o_deeds o_easements o_liens o_parcels_area o_parcels_firstDay o_parcels_lastDay o_parcels_neighbours o_parcels_parents o_parcels_root o_deeds_parcelOf o_deeds_grantor o_deeds_grantee o_deeds_dayOf o_deeds_most o_easements_kind o_easements_on o_easements_serves o_easements_firstDay o_easements_lastDay o_liens_creditor o_liens_amount o_liens_parcels o_liens_ranking v_o_day v_o_parcels_count g_o_parcels_area g_o_parcels_firstDay g_4 g_5 g_o_parcels_parents g_o_parcels_root v_o_deeds_count g_o_deeds_parcelOf g_o_deeds_grantor g_o_deeds_grantee g_o_deeds_dayOf v_o_easements_count g_o_easements_kind g_o_easements_on g_o_easements_serves g_o_easements_firstDay g_o_easements_lastDay v_o_liens_count v_o_liens_ranked g_o_liens_parcels g_o_liens_ranking)) hP hD [1, 4, 5] rfl hk1 hB [(false, 0), (true, 0), (false, 2), (false, 3), (true, 1), (true, 2), (false, 6), (false, 7), (false, 8), (false, 9), (false, 10), (false, 11), (false, 12), (false, 13), (false, 14), (false, 15), (false, 16), (false, 17), (false, 18), (false, 19), (false, 20), (false, 21)] rfl (by decide) rfl
  replace hP := hj.1
  replace hD := hj.2
  replace hS := hS'
  clear hj hPc hDc hFc hB
  refine lv_aload_n hx hb dX6_divide_47 rfl (lv_at hl 3 rfl) ?_
  refine va_get (D := G) (ci := 8) (v := .ref o_parcels) (C := RX6) (T := TX6) (N := 5) hx hb hts i_X6 hown hK.1 hP 0 rfl rfl 1 (by decide) w_0 (fun _ h9 => h9) rfl dX6_divide_48 ?_
  refine lv_iload_n hx hb dX6_divide_51 rfl (lv_at hl 5 rfl) ?_
  refine lv_iload hx hb dX6_divide_52 (lv_at hl 2 rfl) ?_
  refine lv_iconst (v := (1 : Int32)) hx hb dX6_divide_54 (by decide) ?_
  refine lv_iload_n hx hb dX6_divide_55 rfl (lv_at hl 4 rfl) ?_
  refine lv_ishl hx hb dX6_divide_56 ?_
  refine lv_aload_n hx hb dX6_divide_57 rfl (lv_at hl 3 rfl) ?_
  refine va_get (D := G) (ci := 8) (v := .int v_o_day) (C := RX6) (T := TX6) (N := 5) hx hb hts i_X6 hown hK.1 hP 0 rfl rfl 0 (by decide) w_1 (fun _ h9 => h9) rfl dX6_divide_58 ?_
  have hPc := hP.sub (ws' := (k_X4_come cA o_parcels o_parcels_area o_parcels_firstDay o_parcels_lastDay o_parcels_neighbours o_parcels_parents o_parcels_root v_o_parcels_count g_o_parcels_area g_o_parcels_firstDay g_4 g_5 g_o_parcels_parents g_o_parcels_root)) [1, 2, 3, 4, 5, 6, 7] rfl
  have hDc := hD.sub (ws' := (k_X4_come cA o_parcels o_parcels_area o_parcels_firstDay o_parcels_lastDay o_parcels_neighbours o_parcels_parents o_parcels_root v_o_parcels_count g_o_parcels_area g_o_parcels_firstDay g_4 g_5 g_o_parcels_parents g_o_parcels_root)) [1, 2, 3, 4, 5, 6, 7] (by decide) rfl
  have hFc := va_free (wc := (k_X4_come cA o_parcels o_parcels_area o_parcels_firstDay o_parcels_lastDay o_parcels_neighbours o_parcels_parents o_parcels_root v_o_parcels_count g_o_parcels_area g_o_parcels_firstDay g_4 g_5 g_o_parcels_parents g_o_parcels_root)) hD hS hA [1, 2, 3, 4, 5, 6, 7] rfl
  refine va_calli (va_runV (As := [.int p2, .int r_1, .int ((1 : Int32) <<< (p1 &&& 31)), .int v_o_day]) (rest := []) ⟨hx, hb, hml, hown, hts⟩ (c_X4_come l G cA o_parcels o_parcels_area o_parcels_firstDay o_parcels_lastDay o_parcels_neighbours o_parcels_parents o_parcels_root H.size p2 r_1 ((1 : Int32) <<< (p1 &&& 31)) v_o_day v_o_parcels_count g_o_parcels_area g_o_parcels_firstDay g_4 g_5 g_o_parcels_parents g_o_parcels_root _ rfl (bnz hm hz)) (cwV 4 hts gX6_divide_X4_come rfl rfl rfl (by decide +kernel) ⟨Nat.le_of_ble_eq_true rfl, Nat.le_of_ble_eq_true rfl⟩) (preMV (q := (RX4, TX4, 7)) hPc hDc hK 0 rfl rfl) rfl rfl hl.1 rfl (lv_room (Nat.le_of_ble_eq_true rfl)) dX6_divide_61 ⟨Nat.zero_le _, Nat.zero_le _⟩) hS (fun q _ h => hFc q h) hFc (fun r_6 u_13 t H locs ht hvm hw hB hz1 hk1 hS' => ?_)
  obtain ⟨v_7, g_8, g_9, g_10, g_11, g_12, g_13⟩ := u_13
  replace hm := bst hm hw
  replace hB : va_P G vwCl _ _ := hB
  rw [ht] at hB
  have hj := va_back (ws' := (k_X6_divide cA o o_parcels o_deeds o_easements o_liens o_parcels_area o_parcels_firstDay o_parcels_lastDay o_parcels_neighbours o_parcels_parents o_parcels_root o_deeds_parcelOf o_deeds_grantor o_deeds_grantee o_deeds_dayOf o_deeds_most o_easements_kind o_easements_on o_easements_serves o_easements_firstDay o_easements_lastDay o_liens_creditor o_liens_amount o_liens_parcels o_liens_ranking v_o_day v_7 g_8 g_9 g_10 g_11 g_12 g_13 v_o_deeds_count g_o_deeds_parcelOf g_o_deeds_grantor g_o_deeds_grantee g_o_deeds_dayOf v_o_easements_count g_o_easements_kind g_o_easements_on g_o_easements_serves g_o_easements_firstDay g_o_easements_lastDay v_o_liens_count v_o_liens_ranked g_o_liens_parcels g_o_liens_ranking)) hP hD [1, 2, 3, 4, 5, 6, 7] rfl hk1 hB [(false, 0), (true, 0), (true, 1), (true, 2), (true, 3), (true, 4), (true, 5), (true, 6), (false, 8), (false, 9), (false, 10), (false, 11), (false, 12), (false, 13), (false, 14), (false, 15), (false, 16), (false, 17), (false, 18), (false, 19), (false, 20), (false, 21)] rfl (by decide) rfl
  replace hP := hj.1
  replace hD := hj.2
  replace hS := hS'
  clear hj hPc hDc hFc hB
  refine lv_istore (lv' := [(7, .int r_6), (6, .int (r_3 - p2)), (5, .int (r_2 &&& (p3 ^^^ (-1 : Int32)))), (4, .int r_1), (0, .ref o), (1, .int p1), (2, .int p2), (3, .int p3)]) hx hb dX6_divide_64 hl (by decide) rfl (fun ls hl => ?_)
  refine lv_aload_n hx hb dX6_divide_66 rfl (lv_at hl 4 rfl) ?_
  refine va_get (D := G) (ci := 8) (v := .ref o_parcels) (C := RX6) (T := TX6) (N := 5) hx hb hts i_X6 hown hK.1 hP 0 rfl rfl 1 (by decide) w_0 (fun _ h9 => h9) rfl dX6_divide_67 ?_
  refine lv_iload hx hb dX6_divide_70 (lv_at hl 1 rfl) ?_
  refine lv_iload hx hb dX6_divide_72 (lv_at hl 3 rfl) ?_
  refine lv_iconst (v := (1 : Int32)) hx hb dX6_divide_74 (by decide) ?_
  refine lv_iload_n hx hb dX6_divide_75 rfl (lv_at hl 5 rfl) ?_
  refine lv_ishl hx hb dX6_divide_76 ?_
  refine lv_aload_n hx hb dX6_divide_77 rfl (lv_at hl 4 rfl) ?_
  refine va_get (D := G) (ci := 8) (v := .int v_o_day) (C := RX6) (T := TX6) (N := 5) hx hb hts i_X6 hown hK.1 hP 0 rfl rfl 0 (by decide) w_1 (fun _ h9 => h9) rfl dX6_divide_78 ?_
  have hPc := hP.sub (ws' := (k_X4_come cA o_parcels o_parcels_area o_parcels_firstDay o_parcels_lastDay o_parcels_neighbours o_parcels_parents o_parcels_root v_7 g_8 g_9 g_10 g_11 g_12 g_13)) [1, 2, 3, 4, 5, 6, 7] rfl
  have hDc := hD.sub (ws' := (k_X4_come cA o_parcels o_parcels_area o_parcels_firstDay o_parcels_lastDay o_parcels_neighbours o_parcels_parents o_parcels_root v_7 g_8 g_9 g_10 g_11 g_12 g_13)) [1, 2, 3, 4, 5, 6, 7] (by decide) rfl
  have hFc := va_free (wc := (k_X4_come cA o_parcels o_parcels_area o_parcels_firstDay o_parcels_lastDay o_parcels_neighbours o_parcels_parents o_parcels_root v_7 g_8 g_9 g_10 g_11 g_12 g_13)) hD hS hA [1, 2, 3, 4, 5, 6, 7] rfl
  refine va_calli (va_runV (As := [.int (r_3 - p2), .int r_1, .int ((1 : Int32) <<< (p1 &&& 31)), .int v_o_day]) (rest := []) ⟨hx, hb, hml, hown, hts⟩ (c_X4_come l G cA o_parcels o_parcels_area o_parcels_firstDay o_parcels_lastDay o_parcels_neighbours o_parcels_parents o_parcels_root H.size (r_3 - p2) r_1 ((1 : Int32) <<< (p1 &&& 31)) v_o_day v_7 g_8 g_9 g_10 g_11 g_12 g_13 _ rfl (bnz hm hz)) (cwV 4 hts gX6_divide_X4_come rfl rfl rfl (by decide +kernel) ⟨Nat.le_of_ble_eq_true rfl, Nat.le_of_ble_eq_true rfl⟩) (preMV (q := (RX4, TX4, 7)) hPc hDc hK 0 rfl rfl) rfl rfl hl.1 rfl (lv_room (Nat.le_of_ble_eq_true rfl)) dX6_divide_81 ⟨Nat.zero_le _, Nat.zero_le _⟩) hS (fun q _ h => hFc q h) hFc (fun r_14 u_21 t H locs ht hvm hw hB hz1 hk1 hS' => ?_)
  obtain ⟨v_15, g_16, g_17, g_18, g_19, g_20, g_21⟩ := u_21
  replace hm := bst hm hw
  replace hB : va_P G vwCl _ _ := hB
  rw [ht] at hB
  have hj := va_back (ws' := (k_X6_divide cA o o_parcels o_deeds o_easements o_liens o_parcels_area o_parcels_firstDay o_parcels_lastDay o_parcels_neighbours o_parcels_parents o_parcels_root o_deeds_parcelOf o_deeds_grantor o_deeds_grantee o_deeds_dayOf o_deeds_most o_easements_kind o_easements_on o_easements_serves o_easements_firstDay o_easements_lastDay o_liens_creditor o_liens_amount o_liens_parcels o_liens_ranking v_o_day v_15 g_16 g_17 g_18 g_19 g_20 g_21 v_o_deeds_count g_o_deeds_parcelOf g_o_deeds_grantor g_o_deeds_grantee g_o_deeds_dayOf v_o_easements_count g_o_easements_kind g_o_easements_on g_o_easements_serves g_o_easements_firstDay g_o_easements_lastDay v_o_liens_count v_o_liens_ranked g_o_liens_parcels g_o_liens_ranking)) hP hD [1, 2, 3, 4, 5, 6, 7] rfl hk1 hB [(false, 0), (true, 0), (true, 1), (true, 2), (true, 3), (true, 4), (true, 5), (true, 6), (false, 8), (false, 9), (false, 10), (false, 11), (false, 12), (false, 13), (false, 14), (false, 15), (false, 16), (false, 17), (false, 18), (false, 19), (false, 20), (false, 21)] rfl (by decide) rfl
  replace hP := hj.1
  replace hD := hj.2
  replace hS := hS'
  clear hj hPc hDc hFc hB
  refine lv_istore (lv' := [(8, .int r_14), (7, .int r_6), (6, .int (r_3 - p2)), (5, .int (r_2 &&& (p3 ^^^ (-1 : Int32)))), (4, .int r_1), (0, .ref o), (1, .int p1), (2, .int p2), (3, .int p3)]) hx hb dX6_divide_84 hl (by decide) rfl (fun ls hl => ?_)
  refine lv_aload_n hx hb dX6_divide_86 rfl (lv_at hl 5 rfl) ?_
  refine va_get (D := G) (ci := 8) (v := .ref o_parcels) (C := RX6) (T := TX6) (N := 5) hx hb hts i_X6 hown hK.1 hP 0 rfl rfl 1 (by decide) w_0 (fun _ h9 => h9) rfl dX6_divide_87 ?_
  refine lv_iload hx hb dX6_divide_90 (lv_at hl 1 rfl) ?_
  refine lv_iload hx hb dX6_divide_92 (lv_at hl 0 rfl) ?_
  have hPc := hP.sub (ws' := (k_X4_link cA o_parcels o_parcels_area o_parcels_firstDay o_parcels_lastDay o_parcels_neighbours o_parcels_parents o_parcels_root v_15 g_19)) [1, 5] rfl
  have hDc := hD.sub (ws' := (k_X4_link cA o_parcels o_parcels_area o_parcels_firstDay o_parcels_lastDay o_parcels_neighbours o_parcels_parents o_parcels_root v_15 g_19)) [1, 5] (by decide) rfl
  have hFc := va_free (wc := (k_X4_link cA o_parcels o_parcels_area o_parcels_firstDay o_parcels_lastDay o_parcels_neighbours o_parcels_parents o_parcels_root v_15 g_19)) hD hS hA [1, 5] rfl
  refine va_callv (va_runV (As := [.int r_6, .int r_14]) (rest := []) ⟨hx, hb, hml, hown, hts⟩ (c_X4_link l G cA o_parcels o_parcels_area o_parcels_firstDay o_parcels_lastDay o_parcels_neighbours o_parcels_parents o_parcels_root H.size r_6 r_14 v_15 g_19 _ rfl (bnz hm hz)) (cwV 2 hts gX6_divide_X4_link rfl rfl rfl (by decide +kernel) ⟨Nat.le_of_ble_eq_true rfl, Nat.le_of_ble_eq_true rfl⟩) (preMV (q := (RX4, TX4, 7)) hPc hDc hK 0 rfl rfl) rfl rfl hl.1 rfl (lv_room (Nat.le_of_ble_eq_true rfl)) dX6_divide_94 ⟨Nat.zero_le _, Nat.zero_le _⟩) hS (fun q _ h => hFc q h) hFc (fun u_22 t H locs ht hvm hw hB hz1 hk1 hS' => ?_)
  obtain ⟨g_22, rfl⟩ : ∃ z, z = u_22 := ⟨_, rfl⟩
  replace hm := bst hm hw
  replace hB : va_P G vwCl _ _ := hB
  rw [ht] at hB
  have hj := va_back (ws' := (k_X6_divide cA o o_parcels o_deeds o_easements o_liens o_parcels_area o_parcels_firstDay o_parcels_lastDay o_parcels_neighbours o_parcels_parents o_parcels_root o_deeds_parcelOf o_deeds_grantor o_deeds_grantee o_deeds_dayOf o_deeds_most o_easements_kind o_easements_on o_easements_serves o_easements_firstDay o_easements_lastDay o_liens_creditor o_liens_amount o_liens_parcels o_liens_ranking v_o_day v_15 g_16 g_17 g_18 g_22 g_20 g_21 v_o_deeds_count g_o_deeds_parcelOf g_o_deeds_grantor g_o_deeds_grantee g_o_deeds_dayOf v_o_easements_count g_o_easements_kind g_o_easements_on g_o_easements_serves g_o_easements_firstDay g_o_easements_lastDay v_o_liens_count v_o_liens_ranked g_o_liens_parcels g_o_liens_ranking)) hP hD [1, 5] rfl hk1 hB [(false, 0), (true, 0), (false, 2), (false, 3), (false, 4), (true, 1), (false, 6), (false, 7), (false, 8), (false, 9), (false, 10), (false, 11), (false, 12), (false, 13), (false, 14), (false, 15), (false, 16), (false, 17), (false, 18), (false, 19), (false, 20), (false, 21)] rfl (by decide) rfl
  replace hP := hj.1
  replace hD := hj.2
  replace hS := hS'
  clear hj hPc hDc hFc hB
  refine lv_aload_n hx hb dX6_divide_97 rfl (lv_at hl 5 rfl) ?_
  refine va_get (D := G) (ci := 8) (v := .ref o_parcels) (C := RX6) (T := TX6) (N := 5) hx hb hts i_X6 hown hK.1 hP 0 rfl rfl 1 (by decide) w_0 (fun _ h9 => h9) rfl dX6_divide_98 ?_
  refine lv_iload hx hb dX6_divide_101 (lv_at hl 1 rfl) ?_
  refine lv_iload_n hx hb dX6_divide_103 rfl (lv_at hl 8 rfl) ?_
  have hPc := hP.sub (ws' := (k_X4_linkAll cA o_parcels o_parcels_area o_parcels_firstDay o_parcels_lastDay o_parcels_neighbours o_parcels_parents o_parcels_root v_15 g_22)) [1, 5] rfl
  have hDc := hD.sub (ws' := (k_X4_linkAll cA o_parcels o_parcels_area o_parcels_firstDay o_parcels_lastDay o_parcels_neighbours o_parcels_parents o_parcels_root v_15 g_22)) [1, 5] (by decide) rfl
  have hFc := va_free (wc := (k_X4_linkAll cA o_parcels o_parcels_area o_parcels_firstDay o_parcels_lastDay o_parcels_neighbours o_parcels_parents o_parcels_root v_15 g_22)) hD hS hA [1, 5] rfl
  refine va_callv (va_runV (As := [.int r_6, .int p3]) (rest := []) ⟨hx, hb, hml, hown, hts⟩ (c_X4_linkAll l G cA o_parcels o_parcels_area o_parcels_firstDay o_parcels_lastDay o_parcels_neighbours o_parcels_parents o_parcels_root H.size r_6 p3 v_15 g_22 _ rfl (bnz hm hz)) (cwV 2 hts gX6_divide_X4_linkAll rfl rfl rfl (by decide +kernel) ⟨Nat.le_of_ble_eq_true rfl, Nat.le_of_ble_eq_true rfl⟩) (preMV (q := (RX4, TX4, 7)) hPc hDc hK 0 rfl rfl) rfl rfl hl.1 rfl (lv_room (Nat.le_of_ble_eq_true rfl)) dX6_divide_104 ⟨Nat.zero_le _, Nat.zero_le _⟩) hS (fun q _ h => hFc q h) hFc (fun u_23 t H locs ht hvm hw hB hz1 hk1 hS' => ?_)
  obtain ⟨g_23, rfl⟩ : ∃ z, z = u_23 := ⟨_, rfl⟩
  replace hm := bst hm hw
  replace hB : va_P G vwCl _ _ := hB
  rw [ht] at hB
  have hj := va_back (ws' := (k_X6_divide cA o o_parcels o_deeds o_easements o_liens o_parcels_area o_parcels_firstDay o_parcels_lastDay o_parcels_neighbours o_parcels_parents o_parcels_root o_deeds_parcelOf o_deeds_grantor o_deeds_grantee o_deeds_dayOf o_deeds_most o_easements_kind o_easements_on o_easements_serves o_easements_firstDay o_easements_lastDay o_liens_creditor o_liens_amount o_liens_parcels o_liens_ranking v_o_day v_15 g_16 g_17 g_18 g_23 g_20 g_21 v_o_deeds_count g_o_deeds_parcelOf g_o_deeds_grantor g_o_deeds_grantee g_o_deeds_dayOf v_o_easements_count g_o_easements_kind g_o_easements_on g_o_easements_serves g_o_easements_firstDay g_o_easements_lastDay v_o_liens_count v_o_liens_ranked g_o_liens_parcels g_o_liens_ranking)) hP hD [1, 5] rfl hk1 hB [(false, 0), (true, 0), (false, 2), (false, 3), (false, 4), (true, 1), (false, 6), (false, 7), (false, 8), (false, 9), (false, 10), (false, 11), (false, 12), (false, 13), (false, 14), (false, 15), (false, 16), (false, 17), (false, 18), (false, 19), (false, 20), (false, 21)] rfl (by decide) rfl
  replace hP := hj.1
  replace hD := hj.2
  replace hS := hS'
  clear hj hPc hDc hFc hB
  refine lv_aload_n hx hb dX6_divide_107 rfl (lv_at hl 5 rfl) ?_
  refine va_get (D := G) (ci := 8) (v := .ref o_parcels) (C := RX6) (T := TX6) (N := 5) hx hb hts i_X6 hown hK.1 hP 0 rfl rfl 1 (by decide) w_0 (fun _ h9 => h9) rfl dX6_divide_108 ?_
  refine lv_iload hx hb dX6_divide_111 (lv_at hl 0 rfl) ?_
  refine lv_iload hx hb dX6_divide_113 (lv_at hl 3 rfl) ?_
  have hPc := hP.sub (ws' := (k_X4_linkAll cA o_parcels o_parcels_area o_parcels_firstDay o_parcels_lastDay o_parcels_neighbours o_parcels_parents o_parcels_root v_15 g_23)) [1, 5] rfl
  have hDc := hD.sub (ws' := (k_X4_linkAll cA o_parcels o_parcels_area o_parcels_firstDay o_parcels_lastDay o_parcels_neighbours o_parcels_parents o_parcels_root v_15 g_23)) [1, 5] (by decide) rfl
  have hFc := va_free (wc := (k_X4_linkAll cA o_parcels o_parcels_area o_parcels_firstDay o_parcels_lastDay o_parcels_neighbours o_parcels_parents o_parcels_root v_15 g_23)) hD hS hA [1, 5] rfl
  refine va_callv (va_runV (As := [.int r_14, .int (r_2 &&& (p3 ^^^ (-1 : Int32)))]) (rest := []) ⟨hx, hb, hml, hown, hts⟩ (c_X4_linkAll l G cA o_parcels o_parcels_area o_parcels_firstDay o_parcels_lastDay o_parcels_neighbours o_parcels_parents o_parcels_root H.size r_14 (r_2 &&& (p3 ^^^ (-1 : Int32))) v_15 g_23 _ rfl (bnz hm hz)) (cwV 2 hts gX6_divide_X4_linkAll rfl rfl rfl (by decide +kernel) ⟨Nat.le_of_ble_eq_true rfl, Nat.le_of_ble_eq_true rfl⟩) (preMV (q := (RX4, TX4, 7)) hPc hDc hK 0 rfl rfl) rfl rfl hl.1 rfl (lv_room (Nat.le_of_ble_eq_true rfl)) dX6_divide_115 ⟨Nat.zero_le _, Nat.zero_le _⟩) hS (fun q _ h => hFc q h) hFc (fun u_24 t H locs ht hvm hw hB hz1 hk1 hS' => ?_)
  obtain ⟨g_24, rfl⟩ : ∃ z, z = u_24 := ⟨_, rfl⟩
  replace hm := bst hm hw
  replace hB : va_P G vwCl _ _ := hB
  rw [ht] at hB
  have hj := va_back (ws' := (k_X6_divide cA o o_parcels o_deeds o_easements o_liens o_parcels_area o_parcels_firstDay o_parcels_lastDay o_parcels_neighbours o_parcels_parents o_parcels_root o_deeds_parcelOf o_deeds_grantor o_deeds_grantee o_deeds_dayOf o_deeds_most o_easements_kind o_easements_on o_easements_serves o_easements_firstDay o_easements_lastDay o_liens_creditor o_liens_amount o_liens_parcels o_liens_ranking v_o_day v_15 g_16 g_17 g_18 g_24 g_20 g_21 v_o_deeds_count g_o_deeds_parcelOf g_o_deeds_grantor g_o_deeds_grantee g_o_deeds_dayOf v_o_easements_count g_o_easements_kind g_o_easements_on g_o_easements_serves g_o_easements_firstDay g_o_easements_lastDay v_o_liens_count v_o_liens_ranked g_o_liens_parcels g_o_liens_ranking)) hP hD [1, 5] rfl hk1 hB [(false, 0), (true, 0), (false, 2), (false, 3), (false, 4), (true, 1), (false, 6), (false, 7), (false, 8), (false, 9), (false, 10), (false, 11), (false, 12), (false, 13), (false, 14), (false, 15), (false, 16), (false, 17), (false, 18), (false, 19), (false, 20), (false, 21)] rfl (by decide) rfl
  replace hP := hj.1
  replace hD := hj.2
  replace hS := hS'
  clear hj hPc hDc hFc hB
  refine lv_aload_n hx hb dX6_divide_118 rfl (lv_at hl 5 rfl) ?_
  refine va_get (D := G) (ci := 8) (v := .ref o_easements) (C := RX6) (T := TX6) (N := 5) hx hb hts i_X6 hown hK.1 hP 0 rfl rfl 3 (by decide) w_2 (fun _ h9 => h9) rfl dX6_divide_119 ?_
  refine lv_iload_n hx hb dX6_divide_122 rfl (lv_at hl 6 rfl) ?_
  refine lv_iload hx hb dX6_divide_123 (lv_at hl 1 rfl) ?_
  refine lv_iload hx hb dX6_divide_125 (lv_at hl 0 rfl) ?_
  refine lv_aload_n hx hb dX6_divide_127 rfl (lv_at hl 5 rfl) ?_
  refine va_get (D := G) (ci := 8) (v := .int v_o_day) (C := RX6) (T := TX6) (N := 5) hx hb hts i_X6 hown hK.1 hP 0 rfl rfl 0 (by decide) w_1 (fun _ h9 => h9) rfl dX6_divide_128 ?_
  have hPc := hP.sub (ws' := (k_X1_followSplit cA o_easements o_easements_kind o_easements_on o_easements_serves o_easements_firstDay o_easements_lastDay v_o_easements_count g_o_easements_kind g_o_easements_on g_o_easements_serves g_o_easements_firstDay g_o_easements_lastDay)) [13, 14, 15, 16, 17, 18] rfl
  have hDc := hD.sub (ws' := (k_X1_followSplit cA o_easements o_easements_kind o_easements_on o_easements_serves o_easements_firstDay o_easements_lastDay v_o_easements_count g_o_easements_kind g_o_easements_on g_o_easements_serves g_o_easements_firstDay g_o_easements_lastDay)) [13, 14, 15, 16, 17, 18] (by decide) rfl
  have hFc := va_free (wc := (k_X1_followSplit cA o_easements o_easements_kind o_easements_on o_easements_serves o_easements_firstDay o_easements_lastDay v_o_easements_count g_o_easements_kind g_o_easements_on g_o_easements_serves g_o_easements_firstDay g_o_easements_lastDay)) hD hS hA [13, 14, 15, 16, 17, 18] rfl
  refine va_callv (va_runV (As := [.int p1, .int r_6, .int r_14, .int v_o_day]) (rest := []) ⟨hx, hb, hml, hown, hts⟩ (c_X1_followSplit l G cA o_easements o_easements_kind o_easements_on o_easements_serves o_easements_firstDay o_easements_lastDay H.size p1 r_6 r_14 v_o_day v_o_easements_count g_o_easements_kind g_o_easements_on g_o_easements_serves g_o_easements_firstDay g_o_easements_lastDay _ rfl (bnz hm hz)) (cwV 4 hts gX6_divide_X1_followSplit rfl rfl rfl (by decide +kernel) ⟨Nat.le_of_ble_eq_true rfl, Nat.le_of_ble_eq_true rfl⟩) (preMV (q := (RX1, TX1, 6)) hPc hDc hK 0 rfl rfl) rfl rfl hl.1 rfl (lv_room (Nat.le_of_ble_eq_true rfl)) dX6_divide_131 ⟨Nat.zero_le _, Nat.zero_le _⟩) hS (fun q _ h => hFc q h) hFc (fun u_30 t H locs ht hvm hw hB hz1 hk1 hS' => ?_)
  obtain ⟨v_25, g_26, g_27, g_28, g_29, g_30⟩ := u_30
  replace hm := bst hm hw
  replace hB : va_P G vwCl _ _ := hB
  rw [ht] at hB
  have hj := va_back (ws' := (k_X6_divide cA o o_parcels o_deeds o_easements o_liens o_parcels_area o_parcels_firstDay o_parcels_lastDay o_parcels_neighbours o_parcels_parents o_parcels_root o_deeds_parcelOf o_deeds_grantor o_deeds_grantee o_deeds_dayOf o_deeds_most o_easements_kind o_easements_on o_easements_serves o_easements_firstDay o_easements_lastDay o_liens_creditor o_liens_amount o_liens_parcels o_liens_ranking v_o_day v_15 g_16 g_17 g_18 g_24 g_20 g_21 v_o_deeds_count g_o_deeds_parcelOf g_o_deeds_grantor g_o_deeds_grantee g_o_deeds_dayOf v_25 g_26 g_27 g_28 g_29 g_30 v_o_liens_count v_o_liens_ranked g_o_liens_parcels g_o_liens_ranking)) hP hD [13, 14, 15, 16, 17, 18] rfl hk1 hB [(false, 0), (false, 1), (false, 2), (false, 3), (false, 4), (false, 5), (false, 6), (false, 7), (false, 8), (false, 9), (false, 10), (false, 11), (false, 12), (true, 0), (true, 1), (true, 2), (true, 3), (true, 4), (true, 5), (false, 19), (false, 20), (false, 21)] rfl (by decide) rfl
  replace hP := hj.1
  replace hD := hj.2
  replace hS := hS'
  clear hj hPc hDc hFc hB
  refine lv_aload_n hx hb dX6_divide_134 rfl (lv_at hl 5 rfl) ?_
  refine va_get (D := G) (ci := 8) (v := .ref o_liens) (C := RX6) (T := TX6) (N := 5) hx hb hts i_X6 hown hK.1 hP 0 rfl rfl 4 (by decide) w_3 (fun _ h9 => h9) rfl dX6_divide_135 ?_
  refine lv_iconst (v := (1 : Int32)) hx hb dX6_divide_138 (by decide) ?_
  refine lv_iload_n hx hb dX6_divide_139 rfl (lv_at hl 6 rfl) ?_
  refine lv_ishl hx hb dX6_divide_140 ?_
  refine lv_iconst (v := (1 : Int32)) hx hb dX6_divide_141 (by decide) ?_
  refine lv_iload hx hb dX6_divide_142 (lv_at hl 1 rfl) ?_
  refine lv_ishl hx hb dX6_divide_144 ?_
  refine lv_iconst (v := (1 : Int32)) hx hb dX6_divide_145 (by decide) ?_
  refine lv_iload hx hb dX6_divide_146 (lv_at hl 0 rfl) ?_
  refine lv_ishl hx hb dX6_divide_148 ?_
  refine lv_ior hx hb dX6_divide_149 ?_
  have hPc := hP.sub (ws' := (k_X3_follow cA o_liens o_liens_creditor o_liens_amount o_liens_parcels o_liens_ranking v_o_liens_count v_o_liens_ranked g_o_liens_parcels g_o_liens_ranking)) [19, 20, 21] rfl
  have hDc := hD.sub (ws' := (k_X3_follow cA o_liens o_liens_creditor o_liens_amount o_liens_parcels o_liens_ranking v_o_liens_count v_o_liens_ranked g_o_liens_parcels g_o_liens_ranking)) [19, 20, 21] (by decide) rfl
  have hFc := va_free (wc := (k_X3_follow cA o_liens o_liens_creditor o_liens_amount o_liens_parcels o_liens_ranking v_o_liens_count v_o_liens_ranked g_o_liens_parcels g_o_liens_ranking)) hD hS hA [19, 20, 21] rfl
  refine va_callv (va_runV (As := [.int ((1 : Int32) <<< (p1 &&& 31)), .int (((1 : Int32) <<< (r_6 &&& 31)) ||| ((1 : Int32) <<< (r_14 &&& 31)))]) (rest := []) ⟨hx, hb, hml, hown, hts⟩ (c_X3_follow l G cA o_liens o_liens_creditor o_liens_amount o_liens_parcels o_liens_ranking H.size ((1 : Int32) <<< (p1 &&& 31)) (((1 : Int32) <<< (r_6 &&& 31)) ||| ((1 : Int32) <<< (r_14 &&& 31))) v_o_liens_count v_o_liens_ranked g_o_liens_parcels g_o_liens_ranking _ rfl (bnz hm hz)) (cwV 2 hts gX6_divide_X3_follow rfl rfl rfl (by decide +kernel) ⟨Nat.le_of_ble_eq_true rfl, Nat.le_of_ble_eq_true rfl⟩) (preMV (q := (RX3, TX3, 6)) hPc hDc hK 0 rfl rfl) rfl rfl hl.1 rfl (lv_room (Nat.le_of_ble_eq_true rfl)) dX6_divide_150 ⟨Nat.zero_le _, Nat.zero_le _⟩) hS (fun q _ h => hFc q h) hFc (fun u_31 t H locs ht hvm hw hB hz1 hk1 hS' => ?_)
  obtain ⟨g_31, rfl⟩ : ∃ z, z = u_31 := ⟨_, rfl⟩
  replace hm := bst hm hw
  replace hB : va_P G vwCl _ _ := hB
  rw [ht] at hB
  have hj := va_back (ws' := (k_X6_divide cA o o_parcels o_deeds o_easements o_liens o_parcels_area o_parcels_firstDay o_parcels_lastDay o_parcels_neighbours o_parcels_parents o_parcels_root o_deeds_parcelOf o_deeds_grantor o_deeds_grantee o_deeds_dayOf o_deeds_most o_easements_kind o_easements_on o_easements_serves o_easements_firstDay o_easements_lastDay o_liens_creditor o_liens_amount o_liens_parcels o_liens_ranking v_o_day v_15 g_16 g_17 g_18 g_24 g_20 g_21 v_o_deeds_count g_o_deeds_parcelOf g_o_deeds_grantor g_o_deeds_grantee g_o_deeds_dayOf v_25 g_26 g_27 g_28 g_29 g_30 v_o_liens_count v_o_liens_ranked g_31 g_o_liens_ranking)) hP hD [19, 20, 21] rfl hk1 hB [(false, 0), (false, 1), (false, 2), (false, 3), (false, 4), (false, 5), (false, 6), (false, 7), (false, 8), (false, 9), (false, 10), (false, 11), (false, 12), (false, 13), (false, 14), (false, 15), (false, 16), (false, 17), (false, 18), (true, 0), (true, 1), (true, 2)] rfl (by decide) rfl
  replace hP := hj.1
  replace hD := hj.2
  replace hS := hS'
  clear hj hPc hDc hFc hB
  refine lv_iload hx hb dX6_divide_153 (lv_at hl 1 rfl) ?_
  exact hret _ _ _ (v_15, g_16, g_17, g_18, g_24, g_20, g_21, v_25, g_26, g_27, g_28, g_29, g_30, g_31) _ _ dX6_divide_155 rfl hP hS hm.symm
def m_X6_faultOfMerge (p1 : Int32) (p2 : Int32) (v_o_parcels_count : Int32) (g_o_parcels_area : Nat → Int32) (g_o_parcels_lastDay : Nat → Int32) (g_o_parcels_neighbours : Nat → Int32) (g_o_parcels_root : Nat → Int32) (v_o_deeds_count : Int32) (g_o_deeds_parcelOf : Nat → Int32) (g_o_deeds_grantor : Nat → Int32) (g_o_deeds_grantee : Nat → Int32) (g_o_deeds_dayOf : Nat → Int32) : Option (Int32) := Option.bind (m_X4_has p1 v_o_parcels_count) (fun r_1 => (if r_1 = 0 then some (7 : Int32) else Option.bind (m_X4_has p2 v_o_parcels_count) (fun r_3 => (if r_3 = 0 then some (7 : Int32) else (if p1 = p2 then some (8 : Int32) else Option.bind (m_X4_isPresent p1 v_o_parcels_count g_o_parcels_lastDay) (fun r_6 => (if r_6 = 0 then some (1 : Int32) else Option.bind (m_X4_isPresent p2 v_o_parcels_count g_o_parcels_lastDay) (fun r_8 => (if r_8 = 0 then some (1 : Int32) else Option.bind (m_X4_areNeighbours p1 p2 v_o_parcels_count g_o_parcels_neighbours) (fun r_10 => (if r_10 = 0 then some (4 : Int32) else Option.bind (m_X6_holderNow p1 v_o_parcels_count g_o_parcels_root v_o_deeds_count g_o_deeds_parcelOf g_o_deeds_grantor g_o_deeds_grantee g_o_deeds_dayOf) (fun r_12 => Option.bind (m_X6_holderNow p2 v_o_parcels_count g_o_parcels_root v_o_deeds_count g_o_deeds_parcelOf g_o_deeds_grantor g_o_deeds_grantee g_o_deeds_dayOf) (fun r_13 => (if r_12 = r_13 then gd (ix p1 24) (gd (ix p2 24) ((if ((g_o_parcels_area p1.toNatClampNeg) + (g_o_parcels_area p2.toNatClampNeg)) ≤ (9999 : Int32) then (if (24 : Int32) ≤ v_o_parcels_count then some (6 : Int32) else some (0 : Int32)) else some (2 : Int32)))) else some (5 : Int32)))))))))))))))
abbrev k_X6_faultOfMerge (cA : Nat → ClassId) (o o_parcels o_deeds o_easements o_liens o_parcels_area o_parcels_firstDay o_parcels_lastDay o_parcels_neighbours o_parcels_parents o_parcels_root o_deeds_parcelOf o_deeds_grantor o_deeds_grantee o_deeds_dayOf o_deeds_most : Nat) (v_o_day : Int32) (v_o_parcels_count : Int32) (g_o_parcels_area : Nat → Int32) (g_o_parcels_lastDay : Nat → Int32) (g_o_parcels_neighbours : Nat → Int32) (g_o_parcels_root : Nat → Int32) (v_o_deeds_count : Int32) (g_o_deeds_parcelOf : Nat → Int32) (g_o_deeds_grantor : Nat → Int32) (g_o_deeds_grantee : Nat → Int32) (g_o_deeds_dayOf : Nat → Int32) : va_W := [(o, .inr (8, [.int v_o_day, .ref o_parcels, .ref o_deeds, .ref o_easements, .ref o_liens])), (o_parcels, .inr (6, [.int v_o_parcels_count, .ref o_parcels_area, .ref o_parcels_firstDay, .ref o_parcels_lastDay, .ref o_parcels_neighbours, .ref o_parcels_parents, .ref o_parcels_root])), (o_parcels_area, .inl (cA 0, 24, .inl g_o_parcels_area)), (o_parcels_lastDay, .inl (cA 0, 24, .inl g_o_parcels_lastDay)), (o_parcels_neighbours, .inl (cA 0, 24, .inl g_o_parcels_neighbours)), (o_parcels_root, .inl (cA 0, 24, .inl g_o_parcels_root)), (o_deeds, .inr (2, [.int v_o_deeds_count, .ref o_deeds_parcelOf, .ref o_deeds_grantor, .ref o_deeds_grantee, .ref o_deeds_dayOf, .ref o_deeds_most])), (o_deeds_parcelOf, .inl (cA 0, 60, .inl g_o_deeds_parcelOf)), (o_deeds_grantor, .inl (cA 0, 60, .inl g_o_deeds_grantor)), (o_deeds_grantee, .inl (cA 0, 60, .inl g_o_deeds_grantee)), (o_deeds_dayOf, .inl (cA 0, 60, .inl g_o_deeds_dayOf))]
set_option maxHeartbeats 4000000 in
set_option maxRecDepth 100000 in
/-- X6_faultOfMerge: as its model -/
theorem c_X6_faultOfMerge (l : Launch) (G : va_G) (cA : Nat → ClassId) (o o_parcels o_deeds o_easements o_liens o_parcels_area o_parcels_firstDay o_parcels_lastDay o_parcels_neighbours o_parcels_parents o_parcels_root o_deeds_parcelOf o_deeds_grantor o_deeds_grantee o_deeds_dayOf o_deeds_most : Nat) (p1 : Int32) (p2 : Int32) (v_o_day : Int32) (v_o_parcels_count : Int32) (g_o_parcels_area : Nat → Int32) (g_o_parcels_lastDay : Nat → Int32) (g_o_parcels_neighbours : Nat → Int32) (g_o_parcels_root : Nat → Int32) (v_o_deeds_count : Int32) (g_o_deeds_parcelOf : Nat → Int32) (g_o_deeds_grantor : Nat → Int32) (g_o_deeds_grantee : Nat → Int32) (g_o_deeds_dayOf : Nat → Int32) (R : Option (Int32)) (hR : m_X6_faultOfMerge p1 p2 v_o_parcels_count g_o_parcels_area g_o_parcels_lastDay g_o_parcels_neighbours g_o_parcels_root v_o_deeds_count g_o_deeds_parcelOf g_o_deeds_grantor g_o_deeds_grantee g_o_deeds_dayOf = R) (hz : R ≠ none) : Met l yX6_faultOfMerge wsX6_faultOfMerge ({ frames := 3, cells := 0, slots := 0, locals := 68 } : Room) (va_Pc [.ref o, .int p1, .int p2] (PR G cA (k_X6_faultOfMerge cA o o_parcels o_deeds o_easements o_liens o_parcels_area o_parcels_firstDay o_parcels_lastDay o_parcels_neighbours o_parcels_parents o_parcels_root o_deeds_parcelOf o_deeds_grantor o_deeds_grantee o_deeds_dayOf o_deeds_most v_o_day v_o_parcels_count g_o_parcels_area g_o_parcels_lastDay g_o_parcels_neighbours g_o_parcels_root v_o_deeds_count g_o_deeds_parcelOf g_o_deeds_grantor g_o_deeds_grantee g_o_deeds_dayOf))) (vp_Si (fun r => R = some r)) 0 0 (fun _ => False) := by
  refine metR .int (by decide) rfl (Nat.le_of_ble_eq_true rfl) ?_
  intro p e s m av below meth c Q ls hx hb hml hts hown hP hK hl hret
  replace hl : lv_has ls 3 [(0, .ref o), (1, .int p1), (2, .int p2)] := hl
  have w_0 := hts (.fieldLink RX6 18 "ParcelRegistry$World" "parcels" "LParcelRegistry$Parcels;") (by decide +kernel)
  have w_1 := hts (.fieldLink RX6 107 "ParcelRegistry$Parcels" "area" "[I") (by decide +kernel)
  have w_2 := hts (.fieldLink RX6 56 "ParcelRegistry$Parcels" "count" "I") (by decide +kernel)
  have i_X4 : ∀ w ∈ wsX40, w ∈ wsX6_faultOfMerge := by decide +kernel
  have i_X6 : ∀ w ∈ wsX60, w ∈ wsX6_faultOfMerge := by decide +kernel
  have hm := hR
  unfold m_X6_faultOfMerge at hm
  refine lv_aload_n hx hb dX6_faultOfMerge_0 rfl (lv_at hl 0 rfl) ?_
  refine va_get (D := G) (ci := 8) (v := .ref o_parcels) (C := RX6) (T := TX6) (N := 5) hx hb hts i_X6 hown hK.1 hP 0 rfl rfl 1 (by decide) w_0 (fun _ h9 => h9) rfl dX6_faultOfMerge_1 ?_
  refine lv_iload_n hx hb dX6_faultOfMerge_4 rfl (lv_at hl 1 rfl) ?_
  refine vp_callSi (va_Run.run (va_runV (As := [.int p1]) (rest := []) ⟨hx, hb, hml, hown, hts⟩ (c_X4_has l G cA o_parcels o_parcels_area o_parcels_firstDay o_parcels_lastDay o_parcels_neighbours o_parcels_parents o_parcels_root p1 v_o_parcels_count _ rfl (bnz hm hz)) (cwV 1 hts gX6_faultOfMerge_X4_has rfl rfl rfl (by decide +kernel) ⟨Nat.le_of_ble_eq_true rfl, Nat.le_of_ble_eq_true rfl⟩) (preRV (q := (RX4, TX4, 7)) (hP.sub [1] rfl) hK 0 rfl rfl) rfl rfl hl.1 rfl (lv_room (Nat.le_of_ble_eq_true rfl)) dX6_faultOfMerge_5 ⟨Nat.zero_le _, Nat.zero_le _⟩)) (fun r_1 hw => ?_)
  replace hm := bst hm hw.1
  refine lv_if_eq (tgt := 22) hx hb dX6_faultOfMerge_8 (by decide) (fun c_2 => ?_) (fun c_2 => ?_)
  · replace hm := it hm c_2
    refine lv_bipush (v := (7 : Int32)) hx hb dX6_faultOfMerge_22 (by decide) ?_
    exact hret _ _ _ dX6_faultOfMerge_24 rfl hm.symm
  · replace hm := ie hm c_2
    refine lv_aload_n hx hb dX6_faultOfMerge_11 rfl (lv_at hl 0 rfl) ?_
    refine va_get (D := G) (ci := 8) (v := .ref o_parcels) (C := RX6) (T := TX6) (N := 5) hx hb hts i_X6 hown hK.1 hP 0 rfl rfl 1 (by decide) w_0 (fun _ h9 => h9) rfl dX6_faultOfMerge_12 ?_
    refine lv_iload_n hx hb dX6_faultOfMerge_15 rfl (lv_at hl 2 rfl) ?_
    refine vp_callSi (va_Run.run (va_runV (As := [.int p2]) (rest := []) ⟨hx, hb, hml, hown, hts⟩ (c_X4_has l G cA o_parcels o_parcels_area o_parcels_firstDay o_parcels_lastDay o_parcels_neighbours o_parcels_parents o_parcels_root p2 v_o_parcels_count _ rfl (bnz hm hz)) (cwV 1 hts gX6_faultOfMerge_X4_has rfl rfl rfl (by decide +kernel) ⟨Nat.le_of_ble_eq_true rfl, Nat.le_of_ble_eq_true rfl⟩) (preRV (q := (RX4, TX4, 7)) (hP.sub [1] rfl) hK 0 rfl rfl) rfl rfl hl.1 rfl (lv_room (Nat.le_of_ble_eq_true rfl)) dX6_faultOfMerge_16 ⟨Nat.zero_le _, Nat.zero_le _⟩)) (fun r_3 hw => ?_)
    replace hm := bst hm hw.1
    refine lv_if_ne (tgt := 25) hx hb dX6_faultOfMerge_19 (by decide) (fun c_4 => ?_) (fun c_4 => ?_)
    · replace hm := ie hm c_4
      refine lv_iload_n hx hb dX6_faultOfMerge_25 rfl (lv_at hl 1 rfl) ?_
      refine lv_iload_n hx hb dX6_faultOfMerge_26 rfl (lv_at hl 2 rfl) ?_
      refine lv_icmp_ne (tgt := 33) hx hb dX6_faultOfMerge_27 (by decide) (fun c_5 => ?_) (fun c_5 => ?_)
      · replace hm := ie hm c_5
        refine lv_aload_n hx hb dX6_faultOfMerge_33 rfl (lv_at hl 0 rfl) ?_
        refine va_get (D := G) (ci := 8) (v := .ref o_parcels) (C := RX6) (T := TX6) (N := 5) hx hb hts i_X6 hown hK.1 hP 0 rfl rfl 1 (by decide) w_0 (fun _ h9 => h9) rfl dX6_faultOfMerge_34 ?_
        refine lv_iload_n hx hb dX6_faultOfMerge_37 rfl (lv_at hl 1 rfl) ?_
        refine vp_callSi (va_Run.run (va_runV (As := [.int p1]) (rest := []) ⟨hx, hb, hml, hown, hts⟩ (c_X4_isPresent l G cA o_parcels o_parcels_area o_parcels_firstDay o_parcels_lastDay o_parcels_neighbours o_parcels_parents o_parcels_root p1 v_o_parcels_count g_o_parcels_lastDay _ rfl (bnz hm hz)) (cwV 1 hts gX6_faultOfMerge_X4_isPresent rfl rfl rfl (by decide +kernel) ⟨Nat.le_of_ble_eq_true rfl, Nat.le_of_ble_eq_true rfl⟩) (preRV (q := (RX4, TX4, 7)) (hP.sub [1, 3] rfl) hK 0 rfl rfl) rfl rfl hl.1 rfl (lv_room (Nat.le_of_ble_eq_true rfl)) dX6_faultOfMerge_38 ⟨Nat.zero_le _, Nat.zero_le _⟩)) (fun r_6 hw => ?_)
        replace hm := bst hm hw.1
        refine lv_if_eq (tgt := 55) hx hb dX6_faultOfMerge_41 (by decide) (fun c_7 => ?_) (fun c_7 => ?_)
        · replace hm := it hm c_7
          refine lv_iconst (v := (1 : Int32)) hx hb dX6_faultOfMerge_55 (by decide) ?_
          exact hret _ _ _ dX6_faultOfMerge_56 rfl hm.symm
        · replace hm := ie hm c_7
          refine lv_aload_n hx hb dX6_faultOfMerge_44 rfl (lv_at hl 0 rfl) ?_
          refine va_get (D := G) (ci := 8) (v := .ref o_parcels) (C := RX6) (T := TX6) (N := 5) hx hb hts i_X6 hown hK.1 hP 0 rfl rfl 1 (by decide) w_0 (fun _ h9 => h9) rfl dX6_faultOfMerge_45 ?_
          refine lv_iload_n hx hb dX6_faultOfMerge_48 rfl (lv_at hl 2 rfl) ?_
          refine vp_callSi (va_Run.run (va_runV (As := [.int p2]) (rest := []) ⟨hx, hb, hml, hown, hts⟩ (c_X4_isPresent l G cA o_parcels o_parcels_area o_parcels_firstDay o_parcels_lastDay o_parcels_neighbours o_parcels_parents o_parcels_root p2 v_o_parcels_count g_o_parcels_lastDay _ rfl (bnz hm hz)) (cwV 1 hts gX6_faultOfMerge_X4_isPresent rfl rfl rfl (by decide +kernel) ⟨Nat.le_of_ble_eq_true rfl, Nat.le_of_ble_eq_true rfl⟩) (preRV (q := (RX4, TX4, 7)) (hP.sub [1, 3] rfl) hK 0 rfl rfl) rfl rfl hl.1 rfl (lv_room (Nat.le_of_ble_eq_true rfl)) dX6_faultOfMerge_49 ⟨Nat.zero_le _, Nat.zero_le _⟩)) (fun r_8 hw => ?_)
          replace hm := bst hm hw.1
          refine lv_if_ne (tgt := 57) hx hb dX6_faultOfMerge_52 (by decide) (fun c_9 => ?_) (fun c_9 => ?_)
          · replace hm := ie hm c_9
            refine lv_aload_n hx hb dX6_faultOfMerge_57 rfl (lv_at hl 0 rfl) ?_
            refine va_get (D := G) (ci := 8) (v := .ref o_parcels) (C := RX6) (T := TX6) (N := 5) hx hb hts i_X6 hown hK.1 hP 0 rfl rfl 1 (by decide) w_0 (fun _ h9 => h9) rfl dX6_faultOfMerge_58 ?_
            refine lv_iload_n hx hb dX6_faultOfMerge_61 rfl (lv_at hl 1 rfl) ?_
            refine lv_iload_n hx hb dX6_faultOfMerge_62 rfl (lv_at hl 2 rfl) ?_
            refine vp_callSi (va_Run.run (va_runV (As := [.int p1, .int p2]) (rest := []) ⟨hx, hb, hml, hown, hts⟩ (c_X4_areNeighbours l G cA o_parcels o_parcels_area o_parcels_firstDay o_parcels_lastDay o_parcels_neighbours o_parcels_parents o_parcels_root p1 p2 v_o_parcels_count g_o_parcels_neighbours _ rfl (bnz hm hz)) (cwV 2 hts gX6_faultOfMerge_X4_areNeighbours rfl rfl rfl (by decide +kernel) ⟨Nat.le_of_ble_eq_true rfl, Nat.le_of_ble_eq_true rfl⟩) (preRV (q := (RX4, TX4, 7)) (hP.sub [1, 4] rfl) hK 0 rfl rfl) rfl rfl hl.1 rfl (lv_room (Nat.le_of_ble_eq_true rfl)) dX6_faultOfMerge_63 ⟨Nat.zero_le _, Nat.zero_le _⟩)) (fun r_10 hw => ?_)
            replace hm := bst hm hw.1
            refine lv_if_ne (tgt := 71) hx hb dX6_faultOfMerge_66 (by decide) (fun c_11 => ?_) (fun c_11 => ?_)
            · replace hm := ie hm c_11
              refine lv_aload_n hx hb dX6_faultOfMerge_71 rfl (lv_at hl 0 rfl) ?_
              refine lv_iload_n hx hb dX6_faultOfMerge_72 rfl (lv_at hl 1 rfl) ?_
              refine vp_callSi (va_Run.run (va_runV (As := [.int p1]) (rest := []) ⟨hx, hb, hml, hown, hts⟩ (c_X6_holderNow l G cA o o_parcels o_deeds o_easements o_liens o_parcels_area o_parcels_firstDay o_parcels_lastDay o_parcels_neighbours o_parcels_parents o_parcels_root o_deeds_parcelOf o_deeds_grantor o_deeds_grantee o_deeds_dayOf o_deeds_most p1 v_o_day v_o_parcels_count g_o_parcels_root v_o_deeds_count g_o_deeds_parcelOf g_o_deeds_grantor g_o_deeds_grantee g_o_deeds_dayOf _ rfl (bnz hm hz)) (cwV 1 hts gX6_faultOfMerge_X6_holderNow rfl rfl rfl (by decide +kernel) ⟨Nat.le_of_ble_eq_true rfl, Nat.le_of_ble_eq_true rfl⟩) (preRV (q := (RX6, TX6, 5)) (hP.sub [0, 1, 5, 6, 7, 8, 9, 10] rfl) hK 0 rfl rfl) rfl rfl hl.1 rfl (lv_room (Nat.le_of_ble_eq_true rfl)) dX6_faultOfMerge_73 ⟨Nat.zero_le _, Nat.zero_le _⟩)) (fun r_12 hw => ?_)
              replace hm := bst hm hw
              refine lv_aload_n hx hb dX6_faultOfMerge_76 rfl (lv_at hl 0 rfl) ?_
              refine lv_iload_n hx hb dX6_faultOfMerge_77 rfl (lv_at hl 2 rfl) ?_
              refine vp_callSi (va_Run.run (va_runV (As := [.int p2]) (rest := [.int r_12]) ⟨hx, hb, hml, hown, hts⟩ (c_X6_holderNow l G cA o o_parcels o_deeds o_easements o_liens o_parcels_area o_parcels_firstDay o_parcels_lastDay o_parcels_neighbours o_parcels_parents o_parcels_root o_deeds_parcelOf o_deeds_grantor o_deeds_grantee o_deeds_dayOf o_deeds_most p2 v_o_day v_o_parcels_count g_o_parcels_root v_o_deeds_count g_o_deeds_parcelOf g_o_deeds_grantor g_o_deeds_grantee g_o_deeds_dayOf _ rfl (bnz hm hz)) (cwV 1 hts gX6_faultOfMerge_X6_holderNow rfl rfl rfl (by decide +kernel) ⟨Nat.le_of_ble_eq_true rfl, Nat.le_of_ble_eq_true rfl⟩) (preRV (q := (RX6, TX6, 5)) (hP.sub [0, 1, 5, 6, 7, 8, 9, 10] rfl) hK 0 rfl rfl) rfl rfl hl.1 rfl (lv_room (Nat.le_of_ble_eq_true rfl)) dX6_faultOfMerge_78 ⟨Nat.zero_le _, Nat.zero_le _⟩)) (fun r_13 hw => ?_)
              replace hm := bst hm hw
              refine lv_icmp_eq (tgt := 86) hx hb dX6_faultOfMerge_81 (by decide) (fun c_14 => ?_) (fun c_14 => ?_)
              · replace hm := it hm c_14
                refine lv_aload_n hx hb dX6_faultOfMerge_86 rfl (lv_at hl 0 rfl) ?_
                refine va_get (D := G) (ci := 8) (v := .ref o_parcels) (C := RX6) (T := TX6) (N := 5) hx hb hts i_X6 hown hK.1 hP 0 rfl rfl 1 (by decide) w_0 (fun _ h9 => h9) rfl dX6_faultOfMerge_87 ?_
                refine va_get (D := G) (ci := 6) (v := .ref o_parcels_area) (C := RX4) (T := TX4) (N := 7) hx hb hts i_X4 hown hK.1 hP 1 rfl rfl 1 (by decide) w_1 (fun _ h9 => h9) rfl dX6_faultOfMerge_90 ?_
                refine lv_iload_n hx hb dX6_faultOfMerge_93 rfl (lv_at hl 1 rfl) ?_
                replace hm := gdo hm hz
                obtain ⟨gi_15, hm⟩ := hm
                refine va_iald hx hb hK.1 hP 2 0 (cA := cA 0) (n := 24) (f := g_o_parcels_area) rfl rfl (ixi gi_15) dX6_faultOfMerge_94 ?_
                refine lv_aload_n hx hb dX6_faultOfMerge_95 rfl (lv_at hl 0 rfl) ?_
                refine va_get (D := G) (ci := 8) (v := .ref o_parcels) (C := RX6) (T := TX6) (N := 5) hx hb hts i_X6 hown hK.1 hP 0 rfl rfl 1 (by decide) w_0 (fun _ h9 => h9) rfl dX6_faultOfMerge_96 ?_
                refine va_get (D := G) (ci := 6) (v := .ref o_parcels_area) (C := RX4) (T := TX4) (N := 7) hx hb hts i_X4 hown hK.1 hP 1 rfl rfl 1 (by decide) w_1 (fun _ h9 => h9) rfl dX6_faultOfMerge_99 ?_
                refine lv_iload_n hx hb dX6_faultOfMerge_102 rfl (lv_at hl 2 rfl) ?_
                replace hm := gdo hm hz
                obtain ⟨gi_16, hm⟩ := hm
                refine va_iald hx hb hK.1 hP 2 0 (cA := cA 0) (n := 24) (f := g_o_parcels_area) rfl rfl (ixi gi_16) dX6_faultOfMerge_103 ?_
                refine lv_iadd hx hb dX6_faultOfMerge_104 ?_
                refine lv_sipush (v := (9999 : Int32)) hx hb dX6_faultOfMerge_105 (by decide) ?_
                refine lv_icmp_le (tgt := 113) hx hb dX6_faultOfMerge_108 (by decide) (fun c_17 => ?_) (fun c_17 => ?_)
                · replace hm := it hm c_17
                  refine lv_aload_n hx hb dX6_faultOfMerge_113 rfl (lv_at hl 0 rfl) ?_
                  refine va_get (D := G) (ci := 8) (v := .ref o_parcels) (C := RX6) (T := TX6) (N := 5) hx hb hts i_X6 hown hK.1 hP 0 rfl rfl 1 (by decide) w_0 (fun _ h9 => h9) rfl dX6_faultOfMerge_114 ?_
                  refine va_get (D := G) (ci := 6) (v := .int v_o_parcels_count) (C := RX4) (T := TX4) (N := 7) hx hb hts i_X4 hown hK.1 hP 1 rfl rfl 0 (by decide) w_2 (fun _ h9 => h9) rfl dX6_faultOfMerge_117 ?_
                  refine lv_bipush (v := (24 : Int32)) hx hb dX6_faultOfMerge_120 (by decide) ?_
                  refine lv_icmp_ge (tgt := 129) hx hb dX6_faultOfMerge_122 (by decide) (fun c_18 => ?_) (fun c_18 => ?_)
                  · replace hm := it hm c_18
                    refine lv_bipush (v := (6 : Int32)) hx hb dX6_faultOfMerge_129 (by decide) ?_
                    exact hret _ _ _ dX6_faultOfMerge_131 rfl hm.symm
                  · replace hm := ie hm c_18
                    refine lv_iconst (v := (0 : Int32)) hx hb dX6_faultOfMerge_125 (by decide) ?_
                    refine lv_goto (tgt := 131) hx hb dX6_faultOfMerge_126 (by decide) ?_
                    exact hret _ _ _ dX6_faultOfMerge_131 rfl hm.symm
                · replace hm := ie hm c_17
                  refine lv_iconst (v := (2 : Int32)) hx hb dX6_faultOfMerge_111 (by decide) ?_
                  exact hret _ _ _ dX6_faultOfMerge_112 rfl hm.symm
              · replace hm := ie hm c_14
                refine lv_iconst (v := (5 : Int32)) hx hb dX6_faultOfMerge_84 (by decide) ?_
                exact hret _ _ _ dX6_faultOfMerge_85 rfl hm.symm
            · replace hm := it hm c_11
              refine lv_iconst (v := (4 : Int32)) hx hb dX6_faultOfMerge_69 (by decide) ?_
              exact hret _ _ _ dX6_faultOfMerge_70 rfl hm.symm
          · replace hm := it hm c_9
            refine lv_iconst (v := (1 : Int32)) hx hb dX6_faultOfMerge_55 (by decide) ?_
            exact hret _ _ _ dX6_faultOfMerge_56 rfl hm.symm
      · replace hm := it hm c_5
        refine lv_bipush (v := (8 : Int32)) hx hb dX6_faultOfMerge_30 (by decide) ?_
        exact hret _ _ _ dX6_faultOfMerge_32 rfl hm.symm
    · replace hm := it hm c_4
      refine lv_bipush (v := (7 : Int32)) hx hb dX6_faultOfMerge_22 (by decide) ?_
      exact hret _ _ _ dX6_faultOfMerge_24 rfl hm.symm
def m_X6_unite (p1 : Int32) (p2 : Int32) (v_o_day : Int32) (v_o_parcels_count : Int32) (g_o_parcels_area : Nat → Int32) (g_o_parcels_firstDay : Nat → Int32) (g_o_parcels_lastDay : Nat → Int32) (g_o_parcels_neighbours : Nat → Int32) (g_o_parcels_parents : Nat → Int32) (g_o_parcels_root : Nat → Int32) (v_o_deeds_count : Int32) (g_o_deeds_parcelOf : Nat → Int32) (g_o_deeds_grantor : Nat → Int32) (g_o_deeds_grantee : Nat → Int32) (g_o_deeds_dayOf : Nat → Int32) (v_o_easements_count : Int32) (g_o_easements_kind : Nat → Int32) (g_o_easements_on : Nat → Int32) (g_o_easements_serves : Nat → Int32) (g_o_easements_lastDay : Nat → Int32) (v_o_liens_ranked : Int32) (g_o_liens_parcels : Nat → Int32) (g_o_liens_ranking : Nat → Int32) : Option (Int32 × Int32 × (Nat → Int32) × (Nat → Int32) × (Nat → Int32) × (Nat → Int32) × (Nat → Int32) × (Nat → Int32) × (Nat → Int32) × (Nat → Int32) × (Nat → Int32) × (Nat → Int32)) := Option.bind (m_X6_holderNow p1 v_o_parcels_count g_o_parcels_root v_o_deeds_count g_o_deeds_parcelOf g_o_deeds_grantor g_o_deeds_grantee g_o_deeds_dayOf) (fun r_1 => nm (((1 : Int32) <<< (p1 &&& 31)) ||| ((1 : Int32) <<< (p2 &&& 31))) (fun x_2 => Option.bind (m_X4_neighboursOf p1 v_o_parcels_count g_o_parcels_neighbours) (fun r_3 => Option.bind (m_X4_neighboursOf p2 v_o_parcels_count g_o_parcels_neighbours) (fun r_4 => Option.bind (m_X4_end p1 v_o_day v_o_parcels_count g_o_parcels_lastDay g_o_parcels_neighbours) (fun q => match q with
  | (g_5, g_6) => Option.bind (m_X4_end p2 v_o_day v_o_parcels_count g_5 g_6) (fun q => match q with
  | (g_7, g_8) => Option.bind (m_X4_areaOf x_2 v_o_parcels_count g_o_parcels_area) (fun r_9 => Option.bind (m_X4_come r_9 r_1 x_2 v_o_day v_o_parcels_count g_o_parcels_area g_o_parcels_firstDay g_7 g_8 g_o_parcels_parents g_o_parcels_root) (fun q => match q with
  | (r_10, v_11, g_12, g_13, g_14, g_15, g_16, g_17) => Option.bind (m_X4_linkAll r_10 ((r_3 ||| r_4) &&& (x_2 ^^^ (-1 : Int32))) v_11 g_15) (fun g_18 => Option.bind (m_X1_followMerge p1 p2 r_10 v_o_day v_o_easements_count g_o_easements_kind g_o_easements_on g_o_easements_serves g_o_easements_lastDay) (fun q => match q with
  | (g_19, g_20, g_21) => Option.bind (m_X3_follow x_2 ((1 : Int32) <<< (r_10 &&& 31)) v_o_liens_ranked g_o_liens_parcels g_o_liens_ranking) (fun g_22 => some (r_10, v_11, g_12, g_13, g_14, g_18, g_16, g_17, g_19, g_20, g_21, g_22))))))))))))
abbrev k_X6_unite (cA : Nat → ClassId) (o o_parcels o_deeds o_easements o_liens o_parcels_area o_parcels_firstDay o_parcels_lastDay o_parcels_neighbours o_parcels_parents o_parcels_root o_deeds_parcelOf o_deeds_grantor o_deeds_grantee o_deeds_dayOf o_deeds_most o_easements_kind o_easements_on o_easements_serves o_easements_firstDay o_easements_lastDay o_liens_creditor o_liens_amount o_liens_parcels o_liens_ranking : Nat) (v_o_day : Int32) (v_o_parcels_count : Int32) (g_o_parcels_area : Nat → Int32) (g_o_parcels_firstDay : Nat → Int32) (g_o_parcels_lastDay : Nat → Int32) (g_o_parcels_neighbours : Nat → Int32) (g_o_parcels_parents : Nat → Int32) (g_o_parcels_root : Nat → Int32) (v_o_deeds_count : Int32) (g_o_deeds_parcelOf : Nat → Int32) (g_o_deeds_grantor : Nat → Int32) (g_o_deeds_grantee : Nat → Int32) (g_o_deeds_dayOf : Nat → Int32) (v_o_easements_count : Int32) (g_o_easements_kind : Nat → Int32) (g_o_easements_on : Nat → Int32) (g_o_easements_serves : Nat → Int32) (g_o_easements_lastDay : Nat → Int32) (v_o_liens_count : Int32) (v_o_liens_ranked : Int32) (g_o_liens_parcels : Nat → Int32) (g_o_liens_ranking : Nat → Int32) : va_W := [(o, .inr (8, [.int v_o_day, .ref o_parcels, .ref o_deeds, .ref o_easements, .ref o_liens])), (o_parcels, .inr (6, [.int v_o_parcels_count, .ref o_parcels_area, .ref o_parcels_firstDay, .ref o_parcels_lastDay, .ref o_parcels_neighbours, .ref o_parcels_parents, .ref o_parcels_root])), (o_parcels_area, .inl (cA 0, 24, .inl g_o_parcels_area)), (o_parcels_firstDay, .inl (cA 0, 24, .inl g_o_parcels_firstDay)), (o_parcels_lastDay, .inl (cA 0, 24, .inl g_o_parcels_lastDay)), (o_parcels_neighbours, .inl (cA 0, 24, .inl g_o_parcels_neighbours)), (o_parcels_parents, .inl (cA 0, 24, .inl g_o_parcels_parents)), (o_parcels_root, .inl (cA 0, 24, .inl g_o_parcels_root)), (o_deeds, .inr (2, [.int v_o_deeds_count, .ref o_deeds_parcelOf, .ref o_deeds_grantor, .ref o_deeds_grantee, .ref o_deeds_dayOf, .ref o_deeds_most])), (o_deeds_parcelOf, .inl (cA 0, 60, .inl g_o_deeds_parcelOf)), (o_deeds_grantor, .inl (cA 0, 60, .inl g_o_deeds_grantor)), (o_deeds_grantee, .inl (cA 0, 60, .inl g_o_deeds_grantee)), (o_deeds_dayOf, .inl (cA 0, 60, .inl g_o_deeds_dayOf)), (o_easements, .inr (3, [.int v_o_easements_count, .ref o_easements_kind, .ref o_easements_on, .ref o_easements_serves, .ref o_easements_firstDay, .ref o_easements_lastDay])), (o_easements_kind, .inl (cA 0, 30, .inl g_o_easements_kind)), (o_easements_on, .inl (cA 0, 30, .inl g_o_easements_on)), (o_easements_serves, .inl (cA 0, 30, .inl g_o_easements_serves)), (o_easements_lastDay, .inl (cA 0, 30, .inl g_o_easements_lastDay)), (o_liens, .inr (5, [.int v_o_liens_count, .int v_o_liens_ranked, .ref o_liens_creditor, .ref o_liens_amount, .ref o_liens_parcels, .ref o_liens_ranking])), (o_liens_parcels, .inl (cA 0, 20, .inl g_o_liens_parcels)), (o_liens_ranking, .inl (cA 0, 20, .inl g_o_liens_ranking))]
set_option maxHeartbeats 4000000 in
set_option maxRecDepth 100000 in
/-- X6_unite: as its model -/
theorem c_X6_unite (l : Launch) (G : va_G) (cA : Nat → ClassId) (o o_parcels o_deeds o_easements o_liens o_parcels_area o_parcels_firstDay o_parcels_lastDay o_parcels_neighbours o_parcels_parents o_parcels_root o_deeds_parcelOf o_deeds_grantor o_deeds_grantee o_deeds_dayOf o_deeds_most o_easements_kind o_easements_on o_easements_serves o_easements_firstDay o_easements_lastDay o_liens_creditor o_liens_amount o_liens_parcels o_liens_ranking : Nat) (sz : Nat) (p1 : Int32) (p2 : Int32) (v_o_day : Int32) (v_o_parcels_count : Int32) (g_o_parcels_area : Nat → Int32) (g_o_parcels_firstDay : Nat → Int32) (g_o_parcels_lastDay : Nat → Int32) (g_o_parcels_neighbours : Nat → Int32) (g_o_parcels_parents : Nat → Int32) (g_o_parcels_root : Nat → Int32) (v_o_deeds_count : Int32) (g_o_deeds_parcelOf : Nat → Int32) (g_o_deeds_grantor : Nat → Int32) (g_o_deeds_grantee : Nat → Int32) (g_o_deeds_dayOf : Nat → Int32) (v_o_easements_count : Int32) (g_o_easements_kind : Nat → Int32) (g_o_easements_on : Nat → Int32) (g_o_easements_serves : Nat → Int32) (g_o_easements_lastDay : Nat → Int32) (v_o_liens_count : Int32) (v_o_liens_ranked : Int32) (g_o_liens_parcels : Nat → Int32) (g_o_liens_ranking : Nat → Int32) (R : Option (Int32 × Int32 × (Nat → Int32) × (Nat → Int32) × (Nat → Int32) × (Nat → Int32) × (Nat → Int32) × (Nat → Int32) × (Nat → Int32) × (Nat → Int32) × (Nat → Int32) × (Nat → Int32))) (hR : m_X6_unite p1 p2 v_o_day v_o_parcels_count g_o_parcels_area g_o_parcels_firstDay g_o_parcels_lastDay g_o_parcels_neighbours g_o_parcels_parents g_o_parcels_root v_o_deeds_count g_o_deeds_parcelOf g_o_deeds_grantor g_o_deeds_grantee g_o_deeds_dayOf v_o_easements_count g_o_easements_kind g_o_easements_on g_o_easements_serves g_o_easements_lastDay v_o_liens_ranked g_o_liens_parcels g_o_liens_ranking = R) (hz : R ≠ none) : Met l yX6_unite wsX6_unite ({ frames := 3, cells := 0, slots := 0, locals := 70 } : Room) (va_Pc [.ref o, .int p1, .int p2] (PM G cA (k_X6_unite cA o o_parcels o_deeds o_easements o_liens o_parcels_area o_parcels_firstDay o_parcels_lastDay o_parcels_neighbours o_parcels_parents o_parcels_root o_deeds_parcelOf o_deeds_grantor o_deeds_grantee o_deeds_dayOf o_deeds_most o_easements_kind o_easements_on o_easements_serves o_easements_firstDay o_easements_lastDay o_liens_creditor o_liens_amount o_liens_parcels o_liens_ranking v_o_day v_o_parcels_count g_o_parcels_area g_o_parcels_firstDay g_o_parcels_lastDay g_o_parcels_neighbours g_o_parcels_parents g_o_parcels_root v_o_deeds_count g_o_deeds_parcelOf g_o_deeds_grantor g_o_deeds_grantee g_o_deeds_dayOf v_o_easements_count g_o_easements_kind g_o_easements_on g_o_easements_serves g_o_easements_lastDay v_o_liens_count v_o_liens_ranked g_o_liens_parcels g_o_liens_ranking) sz)) (va_Qi (fun (r : Int32) (u : Int32 × (Nat → Int32) × (Nat → Int32) × (Nat → Int32) × (Nat → Int32) × (Nat → Int32) × (Nat → Int32) × (Nat → Int32) × (Nat → Int32) × (Nat → Int32) × (Nat → Int32)) => R = some (r, u)) (BM G (fun (u : Int32 × (Nat → Int32) × (Nat → Int32) × (Nat → Int32) × (Nat → Int32) × (Nat → Int32) × (Nat → Int32) × (Nat → Int32) × (Nat → Int32) × (Nat → Int32) × (Nat → Int32)) => (k_X6_unite cA o o_parcels o_deeds o_easements o_liens o_parcels_area o_parcels_firstDay o_parcels_lastDay o_parcels_neighbours o_parcels_parents o_parcels_root o_deeds_parcelOf o_deeds_grantor o_deeds_grantee o_deeds_dayOf o_deeds_most o_easements_kind o_easements_on o_easements_serves o_easements_firstDay o_easements_lastDay o_liens_creditor o_liens_amount o_liens_parcels o_liens_ranking v_o_day u.1 u.2.1 u.2.2.1 u.2.2.2.1 u.2.2.2.2.1 u.2.2.2.2.2.1 u.2.2.2.2.2.2.1 v_o_deeds_count g_o_deeds_parcelOf g_o_deeds_grantor g_o_deeds_grantee g_o_deeds_dayOf v_o_easements_count g_o_easements_kind u.2.2.2.2.2.2.2.1 u.2.2.2.2.2.2.2.2.1 u.2.2.2.2.2.2.2.2.2.1 v_o_liens_count v_o_liens_ranked u.2.2.2.2.2.2.2.2.2.2 g_o_liens_ranking))) (va_A (k_X6_unite cA o o_parcels o_deeds o_easements o_liens o_parcels_area o_parcels_firstDay o_parcels_lastDay o_parcels_neighbours o_parcels_parents o_parcels_root o_deeds_parcelOf o_deeds_grantor o_deeds_grantee o_deeds_dayOf o_deeds_most o_easements_kind o_easements_on o_easements_serves o_easements_firstDay o_easements_lastDay o_liens_creditor o_liens_amount o_liens_parcels o_liens_ranking v_o_day v_o_parcels_count g_o_parcels_area g_o_parcels_firstDay g_o_parcels_lastDay g_o_parcels_neighbours g_o_parcels_parents g_o_parcels_root v_o_deeds_count g_o_deeds_parcelOf g_o_deeds_grantor g_o_deeds_grantee g_o_deeds_dayOf v_o_easements_count g_o_easements_kind g_o_easements_on g_o_easements_serves g_o_easements_lastDay v_o_liens_count v_o_liens_ranked g_o_liens_parcels g_o_liens_ranking) sz)) 0 0 (va_A (k_X6_unite cA o o_parcels o_deeds o_easements o_liens o_parcels_area o_parcels_firstDay o_parcels_lastDay o_parcels_neighbours o_parcels_parents o_parcels_root o_deeds_parcelOf o_deeds_grantor o_deeds_grantee o_deeds_dayOf o_deeds_most o_easements_kind o_easements_on o_easements_serves o_easements_firstDay o_easements_lastDay o_liens_creditor o_liens_amount o_liens_parcels o_liens_ranking v_o_day v_o_parcels_count g_o_parcels_area g_o_parcels_firstDay g_o_parcels_lastDay g_o_parcels_neighbours g_o_parcels_parents g_o_parcels_root v_o_deeds_count g_o_deeds_parcelOf g_o_deeds_grantor g_o_deeds_grantee g_o_deeds_dayOf v_o_easements_count g_o_easements_kind g_o_easements_on g_o_easements_serves g_o_easements_lastDay v_o_liens_count v_o_liens_ranked g_o_liens_parcels g_o_liens_ranking) sz) := by
  refine metM .int (by decide) rfl (Nat.le_of_ble_eq_true rfl) ?_
  intro p e s m av below meth c Q ls A H hx hb hml hts hown hP hK hD hA hS hl hret
  replace hl : lv_has ls 7 [(0, .ref o), (1, .int p1), (2, .int p2)] := hl
  have w_0 := hts (.fieldLink RX6 18 "ParcelRegistry$World" "parcels" "LParcelRegistry$Parcels;") (by decide +kernel)
  have w_1 := hts (.fieldLink RX6 9 "ParcelRegistry$World" "day" "I") (by decide +kernel)
  have w_2 := hts (.fieldLink RX6 32 "ParcelRegistry$World" "easements" "LParcelRegistry$Easements;") (by decide +kernel)
  have w_3 := hts (.fieldLink RX6 39 "ParcelRegistry$World" "liens" "LParcelRegistry$Liens;") (by decide +kernel)
  have i_X6 : ∀ w ∈ wsX60, w ∈ wsX6_unite := by decide +kernel
  have hm := hR
  unfold m_X6_unite at hm
  refine lv_aload_n hx hb dX6_unite_0 rfl (lv_at hl 0 rfl) ?_
  refine lv_iload_n hx hb dX6_unite_1 rfl (lv_at hl 1 rfl) ?_
  refine vp_callSi (va_Run.run (va_runV (As := [.int p1]) (rest := []) ⟨hx, hb, hml, hown, hts⟩ (c_X6_holderNow l G cA o o_parcels o_deeds o_easements o_liens o_parcels_area o_parcels_firstDay o_parcels_lastDay o_parcels_neighbours o_parcels_parents o_parcels_root o_deeds_parcelOf o_deeds_grantor o_deeds_grantee o_deeds_dayOf o_deeds_most p1 v_o_day v_o_parcels_count g_o_parcels_root v_o_deeds_count g_o_deeds_parcelOf g_o_deeds_grantor g_o_deeds_grantee g_o_deeds_dayOf _ rfl (bnz hm hz)) (cwV 1 hts gX6_unite_X6_holderNow rfl rfl rfl (by decide +kernel) ⟨Nat.le_of_ble_eq_true rfl, Nat.le_of_ble_eq_true rfl⟩) (preRV (q := (RX6, TX6, 5)) (hP.sub [0, 1, 7, 8, 9, 10, 11, 12] rfl) hK 0 rfl rfl) rfl rfl hl.1 rfl (lv_room (Nat.le_of_ble_eq_true rfl)) dX6_unite_2 ⟨Nat.zero_le _, Nat.zero_le _⟩)) (fun r_1 hw => ?_)
  replace hm := bst hm hw
  refine lv_istore_n (lv' := [(3, .int r_1), (0, .ref o), (1, .int p1), (2, .int p2)]) hx hb dX6_unite_5 rfl hl (by decide) rfl (fun ls hl => ?_)
  refine lv_iconst (v := (1 : Int32)) hx hb dX6_unite_6 (by decide) ?_
  refine lv_iload_n hx hb dX6_unite_7 rfl (lv_at hl 2 rfl) ?_
  refine lv_ishl hx hb dX6_unite_8 ?_
  refine lv_iconst (v := (1 : Int32)) hx hb dX6_unite_9 (by decide) ?_
  refine lv_iload_n hx hb dX6_unite_10 rfl (lv_at hl 3 rfl) ?_
  refine lv_ishl hx hb dX6_unite_11 ?_
  refine lv_ior hx hb dX6_unite_12 ?_
  refine lv_topi (fun x_2 e_x_2 => ?_)
  replace hm := nmo hm e_x_2
  refine lv_istore (lv' := [(4, .int x_2), (3, .int r_1), (0, .ref o), (1, .int p1), (2, .int p2)]) hx hb dX6_unite_13 hl (by decide) rfl (fun ls hl => ?_)
  refine lv_aload_n hx hb dX6_unite_15 rfl (lv_at hl 2 rfl) ?_
  refine va_get (D := G) (ci := 8) (v := .ref o_parcels) (C := RX6) (T := TX6) (N := 5) hx hb hts i_X6 hown hK.1 hP 0 rfl rfl 1 (by decide) w_0 (fun _ h9 => h9) rfl dX6_unite_16 ?_
  refine lv_iload_n hx hb dX6_unite_19 rfl (lv_at hl 3 rfl) ?_
  refine vp_callSi (va_Run.run (va_runV (As := [.int p1]) (rest := []) ⟨hx, hb, hml, hown, hts⟩ (c_X4_neighboursOf l G cA o_parcels o_parcels_area o_parcels_firstDay o_parcels_lastDay o_parcels_neighbours o_parcels_parents o_parcels_root p1 v_o_parcels_count g_o_parcels_neighbours _ rfl (bnz hm hz)) (cwV 1 hts gX6_unite_X4_neighboursOf rfl rfl rfl (by decide +kernel) ⟨Nat.le_of_ble_eq_true rfl, Nat.le_of_ble_eq_true rfl⟩) (preRV (q := (RX4, TX4, 7)) (hP.sub [1, 5] rfl) hK 0 rfl rfl) rfl rfl hl.1 rfl (lv_room (Nat.le_of_ble_eq_true rfl)) dX6_unite_20 ⟨Nat.zero_le _, Nat.zero_le _⟩)) (fun r_3 hw => ?_)
  replace hm := bst hm hw
  refine lv_aload_n hx hb dX6_unite_23 rfl (lv_at hl 2 rfl) ?_
  refine va_get (D := G) (ci := 8) (v := .ref o_parcels) (C := RX6) (T := TX6) (N := 5) hx hb hts i_X6 hown hK.1 hP 0 rfl rfl 1 (by decide) w_0 (fun _ h9 => h9) rfl dX6_unite_24 ?_
  refine lv_iload_n hx hb dX6_unite_27 rfl (lv_at hl 4 rfl) ?_
  refine vp_callSi (va_Run.run (va_runV (As := [.int p2]) (rest := [.int r_3]) ⟨hx, hb, hml, hown, hts⟩ (c_X4_neighboursOf l G cA o_parcels o_parcels_area o_parcels_firstDay o_parcels_lastDay o_parcels_neighbours o_parcels_parents o_parcels_root p2 v_o_parcels_count g_o_parcels_neighbours _ rfl (bnz hm hz)) (cwV 1 hts gX6_unite_X4_neighboursOf rfl rfl rfl (by decide +kernel) ⟨Nat.le_of_ble_eq_true rfl, Nat.le_of_ble_eq_true rfl⟩) (preRV (q := (RX4, TX4, 7)) (hP.sub [1, 5] rfl) hK 0 rfl rfl) rfl rfl hl.1 rfl (lv_room (Nat.le_of_ble_eq_true rfl)) dX6_unite_28 ⟨Nat.zero_le _, Nat.zero_le _⟩)) (fun r_4 hw => ?_)
  replace hm := bst hm hw
  refine lv_ior hx hb dX6_unite_31 ?_
  refine lv_iload hx hb dX6_unite_32 (lv_at hl 0 rfl) ?_
  refine lv_iconst (v := (-1 : Int32)) hx hb dX6_unite_34 (by decide) ?_
  refine lv_ixor hx hb dX6_unite_35 ?_
  refine lv_iand hx hb dX6_unite_36 ?_
  refine lv_istore (lv' := [(5, .int ((r_3 ||| r_4) &&& (x_2 ^^^ (-1 : Int32)))), (4, .int x_2), (3, .int r_1), (0, .ref o), (1, .int p1), (2, .int p2)]) hx hb dX6_unite_37 hl (by decide) rfl (fun ls hl => ?_)
  refine lv_aload_n hx hb dX6_unite_39 rfl (lv_at hl 3 rfl) ?_
  refine va_get (D := G) (ci := 8) (v := .ref o_parcels) (C := RX6) (T := TX6) (N := 5) hx hb hts i_X6 hown hK.1 hP 0 rfl rfl 1 (by decide) w_0 (fun _ h9 => h9) rfl dX6_unite_40 ?_
  refine lv_iload_n hx hb dX6_unite_43 rfl (lv_at hl 4 rfl) ?_
  refine lv_aload_n hx hb dX6_unite_44 rfl (lv_at hl 3 rfl) ?_
  refine va_get (D := G) (ci := 8) (v := .int v_o_day) (C := RX6) (T := TX6) (N := 5) hx hb hts i_X6 hown hK.1 hP 0 rfl rfl 0 (by decide) w_1 (fun _ h9 => h9) rfl dX6_unite_45 ?_
  have hPc := hP.sub (ws' := (k_X4_end cA o_parcels o_parcels_area o_parcels_firstDay o_parcels_lastDay o_parcels_neighbours o_parcels_parents o_parcels_root v_o_parcels_count g_o_parcels_lastDay g_o_parcels_neighbours)) [1, 4, 5] rfl
  have hDc := hD.sub (ws' := (k_X4_end cA o_parcels o_parcels_area o_parcels_firstDay o_parcels_lastDay o_parcels_neighbours o_parcels_parents o_parcels_root v_o_parcels_count g_o_parcels_lastDay g_o_parcels_neighbours)) [1, 4, 5] (by decide) rfl
  have hFc := va_free (wc := (k_X4_end cA o_parcels o_parcels_area o_parcels_firstDay o_parcels_lastDay o_parcels_neighbours o_parcels_parents o_parcels_root v_o_parcels_count g_o_parcels_lastDay g_o_parcels_neighbours)) hD hS hA [1, 4, 5] rfl
  refine va_callv (va_runV (As := [.int p1, .int v_o_day]) (rest := []) ⟨hx, hb, hml, hown, hts⟩ (c_X4_end l G cA o_parcels o_parcels_area o_parcels_firstDay o_parcels_lastDay o_parcels_neighbours o_parcels_parents o_parcels_root H.size p1 v_o_day v_o_parcels_count g_o_parcels_lastDay g_o_parcels_neighbours _ rfl (bnz hm hz)) (cwV 2 hts gX6_unite_X4_end rfl rfl rfl (by decide +kernel) ⟨Nat.le_of_ble_eq_true rfl, Nat.le_of_ble_eq_true rfl⟩) (preMV (q := (RX4, TX4, 7)) hPc hDc hK 0 rfl rfl) rfl rfl hl.1 rfl (lv_room (Nat.le_of_ble_eq_true rfl)) dX6_unite_48 ⟨Nat.zero_le _, Nat.zero_le _⟩) hS (fun q _ h => hFc q h) hFc (fun u_6 t H locs ht hvm hw hB hz1 hk1 hS' => ?_)
  obtain ⟨g_5, g_6⟩ := u_6
  replace hm := bst hm hw
  replace hB : va_P G vwCl _ _ := hB
  rw [ht] at hB
  have hj := va_back (ws' := (k_X6_unite cA o o_parcels o_deeds o_easements o_liens o_parcels_area o_parcels_firstDay o_parcels_lastDay o_parcels_neighbours o_parcels_parents o_parcels_root o_deeds_parcelOf o_deeds_grantor o_deeds_grantee o_deeds_dayOf o_deeds_most o_easements_kind o_easements_on o_easements_serves o_easements_firstDay o_easements_lastDay o_liens_creditor o_liens_amount o_liens_parcels o_liens_ranking v_o_day v_o_parcels_count g_o_parcels_area g_o_parcels_firstDay g_5 g_6 g_o_parcels_parents g_o_parcels_root v_o_deeds_count g_o_deeds_parcelOf g_o_deeds_grantor g_o_deeds_grantee g_o_deeds_dayOf v_o_easements_count g_o_easements_kind g_o_easements_on g_o_easements_serves g_o_easements_lastDay v_o_liens_count v_o_liens_ranked g_o_liens_parcels g_o_liens_ranking)) hP hD [1, 4, 5] rfl hk1 hB [(false, 0), (true, 0), (false, 2), (false, 3), (true, 1), (true, 2), (false, 6), (false, 7), (false, 8), (false, 9), (false, 10), (false, 11), (false, 12), (false, 13), (false, 14), (false, 15), (false, 16), (false, 17), (false, 18), (false, 19), (false, 20)] rfl (by decide) rfl
  replace hP := hj.1
  replace hD := hj.2
  replace hS := hS'
  clear hj hPc hDc hFc hB
  refine lv_aload_n hx hb dX6_unite_51 rfl (lv_at hl 3 rfl) ?_
  refine va_get (D := G) (ci := 8) (v := .ref o_parcels) (C := RX6) (T := TX6) (N := 5) hx hb hts i_X6 hown hK.1 hP 0 rfl rfl 1 (by decide) w_0 (fun _ h9 => h9) rfl dX6_unite_52 ?_
  refine lv_iload_n hx hb dX6_unite_55 rfl (lv_at hl 5 rfl) ?_
  refine lv_aload_n hx hb dX6_unite_56 rfl (lv_at hl 3 rfl) ?_
  refine va_get (D := G) (ci := 8) (v := .int v_o_day) (C := RX6) (T := TX6) (N := 5) hx hb hts i_X6 hown hK.1 hP 0 rfl rfl 0 (by decide) w_1 (fun _ h9 => h9) rfl dX6_unite_57 ?_
  have hPc := hP.sub (ws' := (k_X4_end cA o_parcels o_parcels_area o_parcels_firstDay o_parcels_lastDay o_parcels_neighbours o_parcels_parents o_parcels_root v_o_parcels_count g_5 g_6)) [1, 4, 5] rfl
  have hDc := hD.sub (ws' := (k_X4_end cA o_parcels o_parcels_area o_parcels_firstDay o_parcels_lastDay o_parcels_neighbours o_parcels_parents o_parcels_root v_o_parcels_count g_5 g_6)) [1, 4, 5] (by decide) rfl
  have hFc := va_free (wc := (k_X4_end cA o_parcels o_parcels_area o_parcels_firstDay o_parcels_lastDay o_parcels_neighbours o_parcels_parents o_parcels_root v_o_parcels_count g_5 g_6)) hD hS hA [1, 4, 5] rfl
  refine va_callv (va_runV (As := [.int p2, .int v_o_day]) (rest := []) ⟨hx, hb, hml, hown, hts⟩ (c_X4_end l G cA o_parcels o_parcels_area o_parcels_firstDay o_parcels_lastDay o_parcels_neighbours o_parcels_parents o_parcels_root H.size p2 v_o_day v_o_parcels_count g_5 g_6 _ rfl (bnz hm hz)) (cwV 2 hts gX6_unite_X4_end rfl rfl rfl (by decide +kernel) ⟨Nat.le_of_ble_eq_true rfl, Nat.le_of_ble_eq_true rfl⟩) (preMV (q := (RX4, TX4, 7)) hPc hDc hK 0 rfl rfl) rfl rfl hl.1 rfl (lv_room (Nat.le_of_ble_eq_true rfl)) dX6_unite_60 ⟨Nat.zero_le _, Nat.zero_le _⟩) hS (fun q _ h => hFc q h) hFc (fun u_8 t H locs ht hvm hw hB hz1 hk1 hS' => ?_)
  obtain ⟨g_7, g_8⟩ := u_8
  replace hm := bst hm hw
  replace hB : va_P G vwCl _ _ := hB
  rw [ht] at hB
  have hj := va_back (ws' := (k_X6_unite cA o o_parcels o_deeds o_easements o_liens o_parcels_area o_parcels_firstDay o_parcels_lastDay o_parcels_neighbours o_parcels_parents o_parcels_root o_deeds_parcelOf o_deeds_grantor o_deeds_grantee o_deeds_dayOf o_deeds_most o_easements_kind o_easements_on o_easements_serves o_easements_firstDay o_easements_lastDay o_liens_creditor o_liens_amount o_liens_parcels o_liens_ranking v_o_day v_o_parcels_count g_o_parcels_area g_o_parcels_firstDay g_7 g_8 g_o_parcels_parents g_o_parcels_root v_o_deeds_count g_o_deeds_parcelOf g_o_deeds_grantor g_o_deeds_grantee g_o_deeds_dayOf v_o_easements_count g_o_easements_kind g_o_easements_on g_o_easements_serves g_o_easements_lastDay v_o_liens_count v_o_liens_ranked g_o_liens_parcels g_o_liens_ranking)) hP hD [1, 4, 5] rfl hk1 hB [(false, 0), (true, 0), (false, 2), (false, 3), (true, 1), (true, 2), (false, 6), (false, 7), (false, 8), (false, 9), (false, 10), (false, 11), (false, 12), (false, 13), (false, 14), (false, 15), (false, 16), (false, 17), (false, 18), (false, 19), (false, 20)] rfl (by decide) rfl
  replace hP := hj.1
  replace hD := hj.2
  replace hS := hS'
  clear hj hPc hDc hFc hB
  refine lv_aload_n hx hb dX6_unite_63 rfl (lv_at hl 3 rfl) ?_
  refine va_get (D := G) (ci := 8) (v := .ref o_parcels) (C := RX6) (T := TX6) (N := 5) hx hb hts i_X6 hown hK.1 hP 0 rfl rfl 1 (by decide) w_0 (fun _ h9 => h9) rfl dX6_unite_64 ?_
  refine lv_aload_n hx hb dX6_unite_67 rfl (lv_at hl 3 rfl) ?_
  refine va_get (D := G) (ci := 8) (v := .ref o_parcels) (C := RX6) (T := TX6) (N := 5) hx hb hts i_X6 hown hK.1 hP 0 rfl rfl 1 (by decide) w_0 (fun _ h9 => h9) rfl dX6_unite_68 ?_
  refine lv_iload hx hb dX6_unite_71 (lv_at hl 1 rfl) ?_
  refine vp_callSi (va_Run.run (va_runV (As := [.int x_2]) (rest := [.ref o_parcels]) ⟨hx, hb, hml, hown, hts⟩ (c_X4_areaOf l G cA o_parcels o_parcels_area o_parcels_firstDay o_parcels_lastDay o_parcels_neighbours o_parcels_parents o_parcels_root x_2 v_o_parcels_count g_o_parcels_area _ rfl (bnz hm hz)) (cwV 1 hts gX6_unite_X4_areaOf rfl rfl rfl (by decide +kernel) ⟨Nat.le_of_ble_eq_true rfl, Nat.le_of_ble_eq_true rfl⟩) (preRV (q := (RX4, TX4, 7)) (hP.sub [1, 2] rfl) hK 0 rfl rfl) rfl rfl hl.1 rfl (lv_room (Nat.le_of_ble_eq_true rfl)) dX6_unite_73 ⟨Nat.zero_le _, Nat.zero_le _⟩)) (fun r_9 hw => ?_)
  replace hm := bst hm hw
  refine lv_iload_n hx hb dX6_unite_76 rfl (lv_at hl 2 rfl) ?_
  refine lv_iload hx hb dX6_unite_77 (lv_at hl 1 rfl) ?_
  refine lv_aload_n hx hb dX6_unite_79 rfl (lv_at hl 3 rfl) ?_
  refine va_get (D := G) (ci := 8) (v := .int v_o_day) (C := RX6) (T := TX6) (N := 5) hx hb hts i_X6 hown hK.1 hP 0 rfl rfl 0 (by decide) w_1 (fun _ h9 => h9) rfl dX6_unite_80 ?_
  have hPc := hP.sub (ws' := (k_X4_come cA o_parcels o_parcels_area o_parcels_firstDay o_parcels_lastDay o_parcels_neighbours o_parcels_parents o_parcels_root v_o_parcels_count g_o_parcels_area g_o_parcels_firstDay g_7 g_8 g_o_parcels_parents g_o_parcels_root)) [1, 2, 3, 4, 5, 6, 7] rfl
  have hDc := hD.sub (ws' := (k_X4_come cA o_parcels o_parcels_area o_parcels_firstDay o_parcels_lastDay o_parcels_neighbours o_parcels_parents o_parcels_root v_o_parcels_count g_o_parcels_area g_o_parcels_firstDay g_7 g_8 g_o_parcels_parents g_o_parcels_root)) [1, 2, 3, 4, 5, 6, 7] (by decide) rfl
  have hFc := va_free (wc := (k_X4_come cA o_parcels o_parcels_area o_parcels_firstDay o_parcels_lastDay o_parcels_neighbours o_parcels_parents o_parcels_root v_o_parcels_count g_o_parcels_area g_o_parcels_firstDay g_7 g_8 g_o_parcels_parents g_o_parcels_root)) hD hS hA [1, 2, 3, 4, 5, 6, 7] rfl
  refine va_calli (va_runV (As := [.int r_9, .int r_1, .int x_2, .int v_o_day]) (rest := []) ⟨hx, hb, hml, hown, hts⟩ (c_X4_come l G cA o_parcels o_parcels_area o_parcels_firstDay o_parcels_lastDay o_parcels_neighbours o_parcels_parents o_parcels_root H.size r_9 r_1 x_2 v_o_day v_o_parcels_count g_o_parcels_area g_o_parcels_firstDay g_7 g_8 g_o_parcels_parents g_o_parcels_root _ rfl (bnz hm hz)) (cwV 4 hts gX6_unite_X4_come rfl rfl rfl (by decide +kernel) ⟨Nat.le_of_ble_eq_true rfl, Nat.le_of_ble_eq_true rfl⟩) (preMV (q := (RX4, TX4, 7)) hPc hDc hK 0 rfl rfl) rfl rfl hl.1 rfl (lv_room (Nat.le_of_ble_eq_true rfl)) dX6_unite_83 ⟨Nat.zero_le _, Nat.zero_le _⟩) hS (fun q _ h => hFc q h) hFc (fun r_10 u_17 t H locs ht hvm hw hB hz1 hk1 hS' => ?_)
  obtain ⟨v_11, g_12, g_13, g_14, g_15, g_16, g_17⟩ := u_17
  replace hm := bst hm hw
  replace hB : va_P G vwCl _ _ := hB
  rw [ht] at hB
  have hj := va_back (ws' := (k_X6_unite cA o o_parcels o_deeds o_easements o_liens o_parcels_area o_parcels_firstDay o_parcels_lastDay o_parcels_neighbours o_parcels_parents o_parcels_root o_deeds_parcelOf o_deeds_grantor o_deeds_grantee o_deeds_dayOf o_deeds_most o_easements_kind o_easements_on o_easements_serves o_easements_firstDay o_easements_lastDay o_liens_creditor o_liens_amount o_liens_parcels o_liens_ranking v_o_day v_11 g_12 g_13 g_14 g_15 g_16 g_17 v_o_deeds_count g_o_deeds_parcelOf g_o_deeds_grantor g_o_deeds_grantee g_o_deeds_dayOf v_o_easements_count g_o_easements_kind g_o_easements_on g_o_easements_serves g_o_easements_lastDay v_o_liens_count v_o_liens_ranked g_o_liens_parcels g_o_liens_ranking)) hP hD [1, 2, 3, 4, 5, 6, 7] rfl hk1 hB [(false, 0), (true, 0), (true, 1), (true, 2), (true, 3), (true, 4), (true, 5), (true, 6), (false, 8), (false, 9), (false, 10), (false, 11), (false, 12), (false, 13), (false, 14), (false, 15), (false, 16), (false, 17), (false, 18), (false, 19), (false, 20)] rfl (by decide) rfl
  replace hP := hj.1
  replace hD := hj.2
  replace hS := hS'
  clear hj hPc hDc hFc hB
  refine lv_istore (lv' := [(6, .int r_10), (5, .int ((r_3 ||| r_4) &&& (x_2 ^^^ (-1 : Int32)))), (4, .int x_2), (3, .int r_1), (0, .ref o), (1, .int p1), (2, .int p2)]) hx hb dX6_unite_86 hl (by decide) rfl (fun ls hl => ?_)
  refine lv_aload_n hx hb dX6_unite_88 rfl (lv_at hl 4 rfl) ?_
  refine va_get (D := G) (ci := 8) (v := .ref o_parcels) (C := RX6) (T := TX6) (N := 5) hx hb hts i_X6 hown hK.1 hP 0 rfl rfl 1 (by decide) w_0 (fun _ h9 => h9) rfl dX6_unite_89 ?_
  refine lv_iload hx hb dX6_unite_92 (lv_at hl 0 rfl) ?_
  refine lv_iload hx hb dX6_unite_94 (lv_at hl 1 rfl) ?_
  have hPc := hP.sub (ws' := (k_X4_linkAll cA o_parcels o_parcels_area o_parcels_firstDay o_parcels_lastDay o_parcels_neighbours o_parcels_parents o_parcels_root v_11 g_15)) [1, 5] rfl
  have hDc := hD.sub (ws' := (k_X4_linkAll cA o_parcels o_parcels_area o_parcels_firstDay o_parcels_lastDay o_parcels_neighbours o_parcels_parents o_parcels_root v_11 g_15)) [1, 5] (by decide) rfl
  have hFc := va_free (wc := (k_X4_linkAll cA o_parcels o_parcels_area o_parcels_firstDay o_parcels_lastDay o_parcels_neighbours o_parcels_parents o_parcels_root v_11 g_15)) hD hS hA [1, 5] rfl
  refine va_callv (va_runV (As := [.int r_10, .int ((r_3 ||| r_4) &&& (x_2 ^^^ (-1 : Int32)))]) (rest := []) ⟨hx, hb, hml, hown, hts⟩ (c_X4_linkAll l G cA o_parcels o_parcels_area o_parcels_firstDay o_parcels_lastDay o_parcels_neighbours o_parcels_parents o_parcels_root H.size r_10 ((r_3 ||| r_4) &&& (x_2 ^^^ (-1 : Int32))) v_11 g_15 _ rfl (bnz hm hz)) (cwV 2 hts gX6_unite_X4_linkAll rfl rfl rfl (by decide +kernel) ⟨Nat.le_of_ble_eq_true rfl, Nat.le_of_ble_eq_true rfl⟩) (preMV (q := (RX4, TX4, 7)) hPc hDc hK 0 rfl rfl) rfl rfl hl.1 rfl (lv_room (Nat.le_of_ble_eq_true rfl)) dX6_unite_96 ⟨Nat.zero_le _, Nat.zero_le _⟩) hS (fun q _ h => hFc q h) hFc (fun u_18 t H locs ht hvm hw hB hz1 hk1 hS' => ?_)
  obtain ⟨g_18, rfl⟩ : ∃ z, z = u_18 := ⟨_, rfl⟩
  replace hm := bst hm hw
  replace hB : va_P G vwCl _ _ := hB
  rw [ht] at hB
  have hj := va_back (ws' := (k_X6_unite cA o o_parcels o_deeds o_easements o_liens o_parcels_area o_parcels_firstDay o_parcels_lastDay o_parcels_neighbours o_parcels_parents o_parcels_root o_deeds_parcelOf o_deeds_grantor o_deeds_grantee o_deeds_dayOf o_deeds_most o_easements_kind o_easements_on o_easements_serves o_easements_firstDay o_easements_lastDay o_liens_creditor o_liens_amount o_liens_parcels o_liens_ranking v_o_day v_11 g_12 g_13 g_14 g_18 g_16 g_17 v_o_deeds_count g_o_deeds_parcelOf g_o_deeds_grantor g_o_deeds_grantee g_o_deeds_dayOf v_o_easements_count g_o_easements_kind g_o_easements_on g_o_easements_serves g_o_easements_lastDay v_o_liens_count v_o_liens_ranked g_o_liens_parcels g_o_liens_ranking)) hP hD [1, 5] rfl hk1 hB [(false, 0), (true, 0), (false, 2), (false, 3), (false, 4), (true, 1), (false, 6), (false, 7), (false, 8), (false, 9), (false, 10), (false, 11), (false, 12), (false, 13), (false, 14), (false, 15), (false, 16), (false, 17), (false, 18), (false, 19), (false, 20)] rfl (by decide) rfl
  replace hP := hj.1
  replace hD := hj.2
  replace hS := hS'
  clear hj hPc hDc hFc hB
  refine lv_aload_n hx hb dX6_unite_99 rfl (lv_at hl 4 rfl) ?_
  refine va_get (D := G) (ci := 8) (v := .ref o_easements) (C := RX6) (T := TX6) (N := 5) hx hb hts i_X6 hown hK.1 hP 0 rfl rfl 3 (by decide) w_2 (fun _ h9 => h9) rfl dX6_unite_100 ?_
  refine lv_iload_n hx hb dX6_unite_103 rfl (lv_at hl 5 rfl) ?_
  refine lv_iload_n hx hb dX6_unite_104 rfl (lv_at hl 6 rfl) ?_
  refine lv_iload hx hb dX6_unite_105 (lv_at hl 0 rfl) ?_
  refine lv_aload_n hx hb dX6_unite_107 rfl (lv_at hl 4 rfl) ?_
  refine va_get (D := G) (ci := 8) (v := .int v_o_day) (C := RX6) (T := TX6) (N := 5) hx hb hts i_X6 hown hK.1 hP 0 rfl rfl 0 (by decide) w_1 (fun _ h9 => h9) rfl dX6_unite_108 ?_
  have hPc := hP.sub (ws' := (k_X1_followMerge cA o_easements o_easements_kind o_easements_on o_easements_serves o_easements_firstDay o_easements_lastDay v_o_easements_count g_o_easements_kind g_o_easements_on g_o_easements_serves g_o_easements_lastDay)) [13, 14, 15, 16, 17] rfl
  have hDc := hD.sub (ws' := (k_X1_followMerge cA o_easements o_easements_kind o_easements_on o_easements_serves o_easements_firstDay o_easements_lastDay v_o_easements_count g_o_easements_kind g_o_easements_on g_o_easements_serves g_o_easements_lastDay)) [13, 14, 15, 16, 17] (by decide) rfl
  have hFc := va_free (wc := (k_X1_followMerge cA o_easements o_easements_kind o_easements_on o_easements_serves o_easements_firstDay o_easements_lastDay v_o_easements_count g_o_easements_kind g_o_easements_on g_o_easements_serves g_o_easements_lastDay)) hD hS hA [13, 14, 15, 16, 17] rfl
  refine va_callv (va_runV (As := [.int p1, .int p2, .int r_10, .int v_o_day]) (rest := []) ⟨hx, hb, hml, hown, hts⟩ (c_X1_followMerge l G cA o_easements o_easements_kind o_easements_on o_easements_serves o_easements_firstDay o_easements_lastDay H.size p1 p2 r_10 v_o_day v_o_easements_count g_o_easements_kind g_o_easements_on g_o_easements_serves g_o_easements_lastDay _ rfl (bnz hm hz)) (cwV 4 hts gX6_unite_X1_followMerge rfl rfl rfl (by decide +kernel) ⟨Nat.le_of_ble_eq_true rfl, Nat.le_of_ble_eq_true rfl⟩) (preMV (q := (RX1, TX1, 6)) hPc hDc hK 0 rfl rfl) rfl rfl hl.1 rfl (lv_room (Nat.le_of_ble_eq_true rfl)) dX6_unite_111 ⟨Nat.zero_le _, Nat.zero_le _⟩) hS (fun q _ h => hFc q h) hFc (fun u_21 t H locs ht hvm hw hB hz1 hk1 hS' => ?_)
  obtain ⟨g_19, g_20, g_21⟩ := u_21
  replace hm := bst hm hw
  replace hB : va_P G vwCl _ _ := hB
  rw [ht] at hB
  have hj := va_back (ws' := (k_X6_unite cA o o_parcels o_deeds o_easements o_liens o_parcels_area o_parcels_firstDay o_parcels_lastDay o_parcels_neighbours o_parcels_parents o_parcels_root o_deeds_parcelOf o_deeds_grantor o_deeds_grantee o_deeds_dayOf o_deeds_most o_easements_kind o_easements_on o_easements_serves o_easements_firstDay o_easements_lastDay o_liens_creditor o_liens_amount o_liens_parcels o_liens_ranking v_o_day v_11 g_12 g_13 g_14 g_18 g_16 g_17 v_o_deeds_count g_o_deeds_parcelOf g_o_deeds_grantor g_o_deeds_grantee g_o_deeds_dayOf v_o_easements_count g_o_easements_kind g_19 g_20 g_21 v_o_liens_count v_o_liens_ranked g_o_liens_parcels g_o_liens_ranking)) hP hD [13, 14, 15, 16, 17] rfl hk1 hB [(false, 0), (false, 1), (false, 2), (false, 3), (false, 4), (false, 5), (false, 6), (false, 7), (false, 8), (false, 9), (false, 10), (false, 11), (false, 12), (true, 0), (true, 1), (true, 2), (true, 3), (true, 4), (false, 18), (false, 19), (false, 20)] rfl (by decide) rfl
  replace hP := hj.1
  replace hD := hj.2
  replace hS := hS'
  clear hj hPc hDc hFc hB
  refine lv_aload_n hx hb dX6_unite_114 rfl (lv_at hl 4 rfl) ?_
  refine va_get (D := G) (ci := 8) (v := .ref o_liens) (C := RX6) (T := TX6) (N := 5) hx hb hts i_X6 hown hK.1 hP 0 rfl rfl 4 (by decide) w_3 (fun _ h9 => h9) rfl dX6_unite_115 ?_
  refine lv_iload hx hb dX6_unite_118 (lv_at hl 2 rfl) ?_
  refine lv_iconst (v := (1 : Int32)) hx hb dX6_unite_120 (by decide) ?_
  refine lv_iload hx hb dX6_unite_121 (lv_at hl 0 rfl) ?_
  refine lv_ishl hx hb dX6_unite_123 ?_
  have hPc := hP.sub (ws' := (k_X3_follow cA o_liens o_liens_creditor o_liens_amount o_liens_parcels o_liens_ranking v_o_liens_count v_o_liens_ranked g_o_liens_parcels g_o_liens_ranking)) [18, 19, 20] rfl
  have hDc := hD.sub (ws' := (k_X3_follow cA o_liens o_liens_creditor o_liens_amount o_liens_parcels o_liens_ranking v_o_liens_count v_o_liens_ranked g_o_liens_parcels g_o_liens_ranking)) [18, 19, 20] (by decide) rfl
  have hFc := va_free (wc := (k_X3_follow cA o_liens o_liens_creditor o_liens_amount o_liens_parcels o_liens_ranking v_o_liens_count v_o_liens_ranked g_o_liens_parcels g_o_liens_ranking)) hD hS hA [18, 19, 20] rfl
  refine va_callv (va_runV (As := [.int x_2, .int ((1 : Int32) <<< (r_10 &&& 31))]) (rest := []) ⟨hx, hb, hml, hown, hts⟩ (c_X3_follow l G cA o_liens o_liens_creditor o_liens_amount o_liens_parcels o_liens_ranking H.size x_2 ((1 : Int32) <<< (r_10 &&& 31)) v_o_liens_count v_o_liens_ranked g_o_liens_parcels g_o_liens_ranking _ rfl (bnz hm hz)) (cwV 2 hts gX6_unite_X3_follow rfl rfl rfl (by decide +kernel) ⟨Nat.le_of_ble_eq_true rfl, Nat.le_of_ble_eq_true rfl⟩) (preMV (q := (RX3, TX3, 6)) hPc hDc hK 0 rfl rfl) rfl rfl hl.1 rfl (lv_room (Nat.le_of_ble_eq_true rfl)) dX6_unite_124 ⟨Nat.zero_le _, Nat.zero_le _⟩) hS (fun q _ h => hFc q h) hFc (fun u_22 t H locs ht hvm hw hB hz1 hk1 hS' => ?_)
  obtain ⟨g_22, rfl⟩ : ∃ z, z = u_22 := ⟨_, rfl⟩
  replace hm := bst hm hw
  replace hB : va_P G vwCl _ _ := hB
  rw [ht] at hB
  have hj := va_back (ws' := (k_X6_unite cA o o_parcels o_deeds o_easements o_liens o_parcels_area o_parcels_firstDay o_parcels_lastDay o_parcels_neighbours o_parcels_parents o_parcels_root o_deeds_parcelOf o_deeds_grantor o_deeds_grantee o_deeds_dayOf o_deeds_most o_easements_kind o_easements_on o_easements_serves o_easements_firstDay o_easements_lastDay o_liens_creditor o_liens_amount o_liens_parcels o_liens_ranking v_o_day v_11 g_12 g_13 g_14 g_18 g_16 g_17 v_o_deeds_count g_o_deeds_parcelOf g_o_deeds_grantor g_o_deeds_grantee g_o_deeds_dayOf v_o_easements_count g_o_easements_kind g_19 g_20 g_21 v_o_liens_count v_o_liens_ranked g_22 g_o_liens_ranking)) hP hD [18, 19, 20] rfl hk1 hB [(false, 0), (false, 1), (false, 2), (false, 3), (false, 4), (false, 5), (false, 6), (false, 7), (false, 8), (false, 9), (false, 10), (false, 11), (false, 12), (false, 13), (false, 14), (false, 15), (false, 16), (false, 17), (true, 0), (true, 1), (true, 2)] rfl (by decide) rfl
  replace hP := hj.1
  replace hD := hj.2
  replace hS := hS'
  clear hj hPc hDc hFc hB
  refine lv_iload hx hb dX6_unite_127 (lv_at hl 0 rfl) ?_
  exact hret _ _ _ (v_11, g_12, g_13, g_14, g_18, g_16, g_17, g_19, g_20, g_21, g_22) _ _ dX6_unite_129 rfl hP hS hm.symm
def m_X6_faultOfDeed (p1 : Int32) (p2 : Int32) (p3 : Int32) (p4 : Int32) (v_o_day : Int32) (v_o_parcels_count : Int32) (g_o_parcels_firstDay : Nat → Int32) (g_o_parcels_lastDay : Nat → Int32) (v_o_deeds_count : Int32) : Option (Int32) := Option.bind (m_X4_has p1 v_o_parcels_count) (fun r_1 => (if r_1 = 0 then some (7 : Int32) else Option.bind (m_X7_isPerson p2) (fun r_3 => (if r_3 = 0 then some (8 : Int32) else Option.bind (m_X7_isPerson p3) (fun r_5 => (if r_5 = 0 then some (8 : Int32) else gd (ix p1 24) (Option.bind (m_X7_isFrom p4 (g_o_parcels_firstDay p1.toNatClampNeg) v_o_day) (fun r_8 => (if r_8 = 0 then some (8 : Int32) else Option.bind (m_X4_isPresent p1 v_o_parcels_count g_o_parcels_lastDay) (fun r_10 => (if r_10 = 0 then some (9 : Int32) else (if (60 : Int32) ≤ v_o_deeds_count then some (9 : Int32) else some (0 : Int32)))))))))))))
abbrev k_X6_faultOfDeed (cA : Nat → ClassId) (o o_parcels o_deeds o_easements o_liens o_parcels_area o_parcels_firstDay o_parcels_lastDay o_parcels_neighbours o_parcels_parents o_parcels_root o_deeds_parcelOf o_deeds_grantor o_deeds_grantee o_deeds_dayOf o_deeds_most : Nat) (v_o_day : Int32) (v_o_parcels_count : Int32) (g_o_parcels_firstDay : Nat → Int32) (g_o_parcels_lastDay : Nat → Int32) (v_o_deeds_count : Int32) : va_W := [(o, .inr (8, [.int v_o_day, .ref o_parcels, .ref o_deeds, .ref o_easements, .ref o_liens])), (o_parcels, .inr (6, [.int v_o_parcels_count, .ref o_parcels_area, .ref o_parcels_firstDay, .ref o_parcels_lastDay, .ref o_parcels_neighbours, .ref o_parcels_parents, .ref o_parcels_root])), (o_parcels_firstDay, .inl (cA 0, 24, .inl g_o_parcels_firstDay)), (o_parcels_lastDay, .inl (cA 0, 24, .inl g_o_parcels_lastDay)), (o_deeds, .inr (2, [.int v_o_deeds_count, .ref o_deeds_parcelOf, .ref o_deeds_grantor, .ref o_deeds_grantee, .ref o_deeds_dayOf, .ref o_deeds_most]))]
set_option maxHeartbeats 4000000 in
set_option maxRecDepth 100000 in
/-- X6_faultOfDeed: as its model -/
theorem c_X6_faultOfDeed (l : Launch) (G : va_G) (cA : Nat → ClassId) (o o_parcels o_deeds o_easements o_liens o_parcels_area o_parcels_firstDay o_parcels_lastDay o_parcels_neighbours o_parcels_parents o_parcels_root o_deeds_parcelOf o_deeds_grantor o_deeds_grantee o_deeds_dayOf o_deeds_most : Nat) (p1 : Int32) (p2 : Int32) (p3 : Int32) (p4 : Int32) (v_o_day : Int32) (v_o_parcels_count : Int32) (g_o_parcels_firstDay : Nat → Int32) (g_o_parcels_lastDay : Nat → Int32) (v_o_deeds_count : Int32) (R : Option (Int32)) (hR : m_X6_faultOfDeed p1 p2 p3 p4 v_o_day v_o_parcels_count g_o_parcels_firstDay g_o_parcels_lastDay v_o_deeds_count = R) (hz : R ≠ none) : Met l yX6_faultOfDeed wsX6_faultOfDeed ({ frames := 2, cells := 0, slots := 0, locals := 42 } : Room) (va_Pc [.ref o, .int p1, .int p2, .int p3, .int p4] (PR G cA (k_X6_faultOfDeed cA o o_parcels o_deeds o_easements o_liens o_parcels_area o_parcels_firstDay o_parcels_lastDay o_parcels_neighbours o_parcels_parents o_parcels_root o_deeds_parcelOf o_deeds_grantor o_deeds_grantee o_deeds_dayOf o_deeds_most v_o_day v_o_parcels_count g_o_parcels_firstDay g_o_parcels_lastDay v_o_deeds_count))) (vp_Si (fun r => R = some r)) 0 0 (fun _ => False) := by
  refine metR .int (by decide) rfl (Nat.le_of_ble_eq_true rfl) ?_
  intro p e s m av below meth c Q ls hx hb hml hts hown hP hK hl hret
  replace hl : lv_has ls 5 [(0, .ref o), (1, .int p1), (2, .int p2), (3, .int p3), (4, .int p4)] := hl
  have w_0 := hts (.fieldLink RX6 18 "ParcelRegistry$World" "parcels" "LParcelRegistry$Parcels;") (by decide +kernel)
  have w_1 := hts (.initialized RX7) (by decide +kernel)
  have w_2 := hts (.static yX7_isPerson) (by decide +kernel)
  have w_3 := hts (.fieldLink RX6 91 "ParcelRegistry$Parcels" "firstDay" "[I") (by decide +kernel)
  have w_4 := hts (.fieldLink RX6 9 "ParcelRegistry$World" "day" "I") (by decide +kernel)
  have w_5 := hts (.static yX7_isFrom) (by decide +kernel)
  have w_6 := hts (.fieldLink RX6 25 "ParcelRegistry$World" "deeds" "LParcelRegistry$Deeds;") (by decide +kernel)
  have w_7 := hts (.fieldLink RX6 59 "ParcelRegistry$Deeds" "count" "I") (by decide +kernel)
  have i_X0 : ∀ w ∈ wsX00, w ∈ wsX6_faultOfDeed := by decide +kernel
  have i_X4 : ∀ w ∈ wsX40, w ∈ wsX6_faultOfDeed := by decide +kernel
  have i_X6 : ∀ w ∈ wsX60, w ∈ wsX6_faultOfDeed := by decide +kernel
  have hm := hR
  unfold m_X6_faultOfDeed at hm
  refine lv_aload_n hx hb dX6_faultOfDeed_0 rfl (lv_at hl 0 rfl) ?_
  refine va_get (D := G) (ci := 8) (v := .ref o_parcels) (C := RX6) (T := TX6) (N := 5) hx hb hts i_X6 hown hK.1 hP 0 rfl rfl 1 (by decide) w_0 (fun _ h9 => h9) rfl dX6_faultOfDeed_1 ?_
  refine lv_iload_n hx hb dX6_faultOfDeed_4 rfl (lv_at hl 1 rfl) ?_
  refine vp_callSi (va_Run.run (va_runV (As := [.int p1]) (rest := []) ⟨hx, hb, hml, hown, hts⟩ (c_X4_has l G cA o_parcels o_parcels_area o_parcels_firstDay o_parcels_lastDay o_parcels_neighbours o_parcels_parents o_parcels_root p1 v_o_parcels_count _ rfl (bnz hm hz)) (cwV 1 hts gX6_faultOfDeed_X4_has rfl rfl rfl (by decide +kernel) ⟨Nat.le_of_ble_eq_true rfl, Nat.le_of_ble_eq_true rfl⟩) (preRV (q := (RX4, TX4, 7)) (hP.sub [1] rfl) hK 0 rfl rfl) rfl rfl hl.1 rfl (lv_room (Nat.le_of_ble_eq_true rfl)) dX6_faultOfDeed_5 ⟨Nat.zero_le _, Nat.zero_le _⟩)) (fun r_1 hw => ?_)
  replace hm := bst hm hw.1
  refine lv_if_ne (tgt := 14) hx hb dX6_faultOfDeed_8 (by decide) (fun c_2 => ?_) (fun c_2 => ?_)
  · replace hm := ie hm c_2
    refine lv_iload_n hx hb dX6_faultOfDeed_14 rfl (lv_at hl 2 rfl) ?_
    refine vp_callSi (va_Run.run (va_runSN (As := [.int p2]) (rest := []) ⟨hx, hb, hml, hown, hts⟩ (c_X7_isPerson l G cA p2 _ rfl (bnz hm hz)) ⟨va_cnB (host := "ParcelRegistry") 1 hts gX6_faultOfDeed_X7_isPerson_n104 rfl rfl rfl (hK.2 (RX6, 104, yX7_isPerson) (List.mem_of_getElem? (i := 8) rfl)) w_1 (by decide +kernel) ⟨Nat.le_of_ble_eq_true rfl, Nat.le_of_ble_eq_true rfl⟩, w_2, trivial⟩ (preRS (hP.sub [] rfl) hK) rfl rfl hl.1 rfl (lv_room (Nat.le_of_ble_eq_true rfl)) dX6_faultOfDeed_15 ⟨Nat.zero_le _, Nat.zero_le _⟩)) (fun r_3 hw => ?_)
    replace hm := bst hm hw.1
    refine lv_if_eq (tgt := 49) hx hb dX6_faultOfDeed_18 (by decide) (fun c_4 => ?_) (fun c_4 => ?_)
    · replace hm := it hm c_4
      refine lv_bipush (v := (8 : Int32)) hx hb dX6_faultOfDeed_49 (by decide) ?_
      exact hret _ _ _ dX6_faultOfDeed_51 rfl hm.symm
    · replace hm := ie hm c_4
      refine lv_iload_n hx hb dX6_faultOfDeed_21 rfl (lv_at hl 3 rfl) ?_
      refine vp_callSi (va_Run.run (va_runSN (As := [.int p3]) (rest := []) ⟨hx, hb, hml, hown, hts⟩ (c_X7_isPerson l G cA p3 _ rfl (bnz hm hz)) ⟨va_cnB (host := "ParcelRegistry") 1 hts gX6_faultOfDeed_X7_isPerson_n104 rfl rfl rfl (hK.2 (RX6, 104, yX7_isPerson) (List.mem_of_getElem? (i := 8) rfl)) w_1 (by decide +kernel) ⟨Nat.le_of_ble_eq_true rfl, Nat.le_of_ble_eq_true rfl⟩, w_2, trivial⟩ (preRS (hP.sub [] rfl) hK) rfl rfl hl.1 rfl (lv_room (Nat.le_of_ble_eq_true rfl)) dX6_faultOfDeed_22 ⟨Nat.zero_le _, Nat.zero_le _⟩)) (fun r_5 hw => ?_)
      replace hm := bst hm hw.1
      refine lv_if_eq (tgt := 49) hx hb dX6_faultOfDeed_25 (by decide) (fun c_6 => ?_) (fun c_6 => ?_)
      · replace hm := it hm c_6
        refine lv_bipush (v := (8 : Int32)) hx hb dX6_faultOfDeed_49 (by decide) ?_
        exact hret _ _ _ dX6_faultOfDeed_51 rfl hm.symm
      · replace hm := ie hm c_6
        refine lv_iload hx hb dX6_faultOfDeed_28 (lv_at hl 4 rfl) ?_
        refine lv_aload_n hx hb dX6_faultOfDeed_30 rfl (lv_at hl 0 rfl) ?_
        refine va_get (D := G) (ci := 8) (v := .ref o_parcels) (C := RX6) (T := TX6) (N := 5) hx hb hts i_X6 hown hK.1 hP 0 rfl rfl 1 (by decide) w_0 (fun _ h9 => h9) rfl dX6_faultOfDeed_31 ?_
        refine va_get (D := G) (ci := 6) (v := .ref o_parcels_firstDay) (C := RX4) (T := TX4) (N := 7) hx hb hts i_X4 hown hK.1 hP 1 rfl rfl 2 (by decide) w_3 (fun _ h9 => h9) rfl dX6_faultOfDeed_34 ?_
        refine lv_iload_n hx hb dX6_faultOfDeed_37 rfl (lv_at hl 1 rfl) ?_
        replace hm := gdo hm hz
        obtain ⟨gi_7, hm⟩ := hm
        refine va_iald hx hb hK.1 hP 2 0 (cA := cA 0) (n := 24) (f := g_o_parcels_firstDay) rfl rfl (ixi gi_7) dX6_faultOfDeed_38 ?_
        refine lv_aload_n hx hb dX6_faultOfDeed_39 rfl (lv_at hl 0 rfl) ?_
        refine va_get (D := G) (ci := 8) (v := .int v_o_day) (C := RX6) (T := TX6) (N := 5) hx hb hts i_X6 hown hK.1 hP 0 rfl rfl 0 (by decide) w_4 (fun _ h9 => h9) rfl dX6_faultOfDeed_40 ?_
        refine vp_callSi (va_Run.run (va_runSN (As := [.int p4, .int (g_o_parcels_firstDay p1.toNatClampNeg), .int v_o_day]) (rest := []) ⟨hx, hb, hml, hown, hts⟩ (c_X7_isFrom l G cA p4 (g_o_parcels_firstDay p1.toNatClampNeg) v_o_day _ rfl (bnz hm hz)) ⟨va_cnB (host := "ParcelRegistry") 3 hts gX6_faultOfDeed_X7_isFrom_n94 rfl rfl rfl (hK.2 (RX6, 94, yX7_isFrom) (List.mem_of_getElem? (i := 7) rfl)) w_1 (by decide +kernel) ⟨Nat.le_of_ble_eq_true rfl, Nat.le_of_ble_eq_true rfl⟩, w_5, trivial⟩ (preRS (hP.sub [] rfl) hK) rfl rfl hl.1 rfl (lv_room (Nat.le_of_ble_eq_true rfl)) dX6_faultOfDeed_43 ⟨Nat.zero_le _, Nat.zero_le _⟩)) (fun r_8 hw => ?_)
        replace hm := bst hm hw.1
        refine lv_if_ne (tgt := 52) hx hb dX6_faultOfDeed_46 (by decide) (fun c_9 => ?_) (fun c_9 => ?_)
        · replace hm := ie hm c_9
          refine lv_aload_n hx hb dX6_faultOfDeed_52 rfl (lv_at hl 0 rfl) ?_
          refine va_get (D := G) (ci := 8) (v := .ref o_parcels) (C := RX6) (T := TX6) (N := 5) hx hb hts i_X6 hown hK.1 hP 0 rfl rfl 1 (by decide) w_0 (fun _ h9 => h9) rfl dX6_faultOfDeed_53 ?_
          refine lv_iload_n hx hb dX6_faultOfDeed_56 rfl (lv_at hl 1 rfl) ?_
          refine vp_callSi (va_Run.run (va_runV (As := [.int p1]) (rest := []) ⟨hx, hb, hml, hown, hts⟩ (c_X4_isPresent l G cA o_parcels o_parcels_area o_parcels_firstDay o_parcels_lastDay o_parcels_neighbours o_parcels_parents o_parcels_root p1 v_o_parcels_count g_o_parcels_lastDay _ rfl (bnz hm hz)) (cwV 1 hts gX6_faultOfDeed_X4_isPresent rfl rfl rfl (by decide +kernel) ⟨Nat.le_of_ble_eq_true rfl, Nat.le_of_ble_eq_true rfl⟩) (preRV (q := (RX4, TX4, 7)) (hP.sub [1, 3] rfl) hK 0 rfl rfl) rfl rfl hl.1 rfl (lv_room (Nat.le_of_ble_eq_true rfl)) dX6_faultOfDeed_57 ⟨Nat.zero_le _, Nat.zero_le _⟩)) (fun r_10 hw => ?_)
          replace hm := bst hm hw.1
          refine lv_if_eq (tgt := 79) hx hb dX6_faultOfDeed_60 (by decide) (fun c_11 => ?_) (fun c_11 => ?_)
          · replace hm := it hm c_11
            refine lv_bipush (v := (9 : Int32)) hx hb dX6_faultOfDeed_79 (by decide) ?_
            exact hret _ _ _ dX6_faultOfDeed_81 rfl hm.symm
          · replace hm := ie hm c_11
            refine lv_aload_n hx hb dX6_faultOfDeed_63 rfl (lv_at hl 0 rfl) ?_
            refine va_get (D := G) (ci := 8) (v := .ref o_deeds) (C := RX6) (T := TX6) (N := 5) hx hb hts i_X6 hown hK.1 hP 0 rfl rfl 2 (by decide) w_6 (fun _ h9 => h9) rfl dX6_faultOfDeed_64 ?_
            refine va_get (D := G) (ci := 2) (v := .int v_o_deeds_count) (C := RX0) (T := TX0) (N := 6) hx hb hts i_X0 hown hK.1 hP 4 rfl rfl 0 (by decide) w_7 (fun _ h9 => h9) rfl dX6_faultOfDeed_67 ?_
            refine lv_bipush (v := (60 : Int32)) hx hb dX6_faultOfDeed_70 (by decide) ?_
            refine lv_icmp_ge (tgt := 79) hx hb dX6_faultOfDeed_72 (by decide) (fun c_12 => ?_) (fun c_12 => ?_)
            · replace hm := it hm c_12
              refine lv_bipush (v := (9 : Int32)) hx hb dX6_faultOfDeed_79 (by decide) ?_
              exact hret _ _ _ dX6_faultOfDeed_81 rfl hm.symm
            · replace hm := ie hm c_12
              refine lv_iconst (v := (0 : Int32)) hx hb dX6_faultOfDeed_75 (by decide) ?_
              refine lv_goto (tgt := 81) hx hb dX6_faultOfDeed_76 (by decide) ?_
              exact hret _ _ _ dX6_faultOfDeed_81 rfl hm.symm
        · replace hm := it hm c_9
          refine lv_bipush (v := (8 : Int32)) hx hb dX6_faultOfDeed_49 (by decide) ?_
          exact hret _ _ _ dX6_faultOfDeed_51 rfl hm.symm
  · replace hm := it hm c_2
    refine lv_bipush (v := (7 : Int32)) hx hb dX6_faultOfDeed_11 (by decide) ?_
    exact hret _ _ _ dX6_faultOfDeed_13 rfl hm.symm
def m_X6_wasThere_J42 (v_o_day : Int32) (g_o_parcels_firstDay : Nat → Int32) (p1 : Int32) (p2 : Int32) : (Int32) → Option (Int32) := fun y_4 => (if y_4 = 0 then some (0 : Int32) else gd (ix p1 24) (Option.bind (m_X7_isFrom p2 (g_o_parcels_firstDay p1.toNatClampNeg) v_o_day) (fun r_7 => (if r_7 = 0 then some (0 : Int32) else some (1 : Int32)))))
def m_X6_wasThere (p1 : Int32) (p2 : Int32) (v_o_day : Int32) (v_o_parcels_count : Int32) (g_o_parcels_firstDay : Nat → Int32) (g_o_parcels_lastDay : Nat → Int32) : Option (Int32) := Option.bind (m_X4_has p1 v_o_parcels_count) (fun r_1 => (if r_1 = 0 then some (0 : Int32) else Option.bind (m_X4_isPresent p1 v_o_parcels_count g_o_parcels_lastDay) (fun r_3 => (if r_3 = 0 then gd (ix p1 24) ((if (g_o_parcels_lastDay p1.toNatClampNeg) ≤ p2 then m_X6_wasThere_J42 v_o_day g_o_parcels_firstDay p1 p2 (0 : Int32) else m_X6_wasThere_J42 v_o_day g_o_parcels_firstDay p1 p2 (1 : Int32))) else m_X6_wasThere_J42 v_o_day g_o_parcels_firstDay p1 p2 (1 : Int32)))))
abbrev k_X6_wasThere (cA : Nat → ClassId) (o o_parcels o_deeds o_easements o_liens o_parcels_area o_parcels_firstDay o_parcels_lastDay o_parcels_neighbours o_parcels_parents o_parcels_root : Nat) (v_o_day : Int32) (v_o_parcels_count : Int32) (g_o_parcels_firstDay : Nat → Int32) (g_o_parcels_lastDay : Nat → Int32) : va_W := [(o, .inr (8, [.int v_o_day, .ref o_parcels, .ref o_deeds, .ref o_easements, .ref o_liens])), (o_parcels, .inr (6, [.int v_o_parcels_count, .ref o_parcels_area, .ref o_parcels_firstDay, .ref o_parcels_lastDay, .ref o_parcels_neighbours, .ref o_parcels_parents, .ref o_parcels_root])), (o_parcels_firstDay, .inl (cA 0, 24, .inl g_o_parcels_firstDay)), (o_parcels_lastDay, .inl (cA 0, 24, .inl g_o_parcels_lastDay))]
set_option maxHeartbeats 4000000 in
set_option maxRecDepth 100000 in
/-- X6_wasThere: as its model -/
theorem c_X6_wasThere (l : Launch) (G : va_G) (cA : Nat → ClassId) (o o_parcels o_deeds o_easements o_liens o_parcels_area o_parcels_firstDay o_parcels_lastDay o_parcels_neighbours o_parcels_parents o_parcels_root : Nat) (p1 : Int32) (p2 : Int32) (v_o_day : Int32) (v_o_parcels_count : Int32) (g_o_parcels_firstDay : Nat → Int32) (g_o_parcels_lastDay : Nat → Int32) (R : Option (Int32)) (hR : m_X6_wasThere p1 p2 v_o_day v_o_parcels_count g_o_parcels_firstDay g_o_parcels_lastDay = R) (hz : R ≠ none) : Met l yX6_wasThere wsX6_wasThere ({ frames := 2, cells := 0, slots := 0, locals := 42 } : Room) (va_Pc [.ref o, .int p1, .int p2] (PR G cA (k_X6_wasThere cA o o_parcels o_deeds o_easements o_liens o_parcels_area o_parcels_firstDay o_parcels_lastDay o_parcels_neighbours o_parcels_parents o_parcels_root v_o_day v_o_parcels_count g_o_parcels_firstDay g_o_parcels_lastDay))) (vp_Si (fun r => R = some r ∧ (r = 0 ∨ r = 1))) 0 0 (fun _ => False) := by
  refine metR .boolean (by decide) rfl (Nat.le_of_ble_eq_true rfl) ?_
  intro p e s m av below meth c Q ls hx hb hml hts hown hP hK hl hret
  replace hl : lv_has ls 4 [(0, .ref o), (1, .int p1), (2, .int p2)] := hl
  have w_0 := hts (.fieldLink RX6 18 "ParcelRegistry$World" "parcels" "LParcelRegistry$Parcels;") (by decide +kernel)
  have w_1 := hts (.fieldLink RX6 91 "ParcelRegistry$Parcels" "firstDay" "[I") (by decide +kernel)
  have w_2 := hts (.fieldLink RX6 9 "ParcelRegistry$World" "day" "I") (by decide +kernel)
  have w_3 := hts (.initialized RX7) (by decide +kernel)
  have w_4 := hts (.static yX7_isFrom) (by decide +kernel)
  have w_5 := hts (.fieldLink RX6 88 "ParcelRegistry$Parcels" "lastDay" "[I") (by decide +kernel)
  have i_X4 : ∀ w ∈ wsX40, w ∈ wsX6_wasThere := by decide +kernel
  have i_X6 : ∀ w ∈ wsX60, w ∈ wsX6_wasThere := by decide +kernel
  have hm := hR
  unfold m_X6_wasThere at hm
  refine lv_aload_n hx hb dX6_wasThere_0 rfl (lv_at hl 0 rfl) ?_
  refine va_get (D := G) (ci := 8) (v := .ref o_parcels) (C := RX6) (T := TX6) (N := 5) hx hb hts i_X6 hown hK.1 hP 0 rfl rfl 1 (by decide) w_0 (fun _ h9 => h9) rfl dX6_wasThere_1 ?_
  refine lv_iload_n hx hb dX6_wasThere_4 rfl (lv_at hl 1 rfl) ?_
  refine vp_callSi (va_Run.run (va_runV (As := [.int p1]) (rest := []) ⟨hx, hb, hml, hown, hts⟩ (c_X4_has l G cA o_parcels o_parcels_area o_parcels_firstDay o_parcels_lastDay o_parcels_neighbours o_parcels_parents o_parcels_root p1 v_o_parcels_count _ rfl (bnz hm hz)) (cwV 1 hts gX6_wasThere_X4_has rfl rfl rfl (by decide +kernel) ⟨Nat.le_of_ble_eq_true rfl, Nat.le_of_ble_eq_true rfl⟩) (preRV (q := (RX4, TX4, 7)) (hP.sub [1] rfl) hK 0 rfl rfl) rfl rfl hl.1 rfl (lv_room (Nat.le_of_ble_eq_true rfl)) dX6_wasThere_5 ⟨Nat.zero_le _, Nat.zero_le _⟩)) (fun r_1 hw => ?_)
  replace hm := bst hm hw.1
  refine lv_if_ne (tgt := 13) hx hb dX6_wasThere_8 (by decide) (fun c_2 => ?_) (fun c_2 => ?_)
  · replace hm := ie hm c_2
    refine lv_aload_n hx hb dX6_wasThere_13 rfl (lv_at hl 0 rfl) ?_
    refine va_get (D := G) (ci := 8) (v := .ref o_parcels) (C := RX6) (T := TX6) (N := 5) hx hb hts i_X6 hown hK.1 hP 0 rfl rfl 1 (by decide) w_0 (fun _ h9 => h9) rfl dX6_wasThere_14 ?_
    refine lv_iload_n hx hb dX6_wasThere_17 rfl (lv_at hl 1 rfl) ?_
    refine vp_callSi (va_Run.run (va_runV (As := [.int p1]) (rest := []) ⟨hx, hb, hml, hown, hts⟩ (c_X4_isPresent l G cA o_parcels o_parcels_area o_parcels_firstDay o_parcels_lastDay o_parcels_neighbours o_parcels_parents o_parcels_root p1 v_o_parcels_count g_o_parcels_lastDay _ rfl (bnz hm hz)) (cwV 1 hts gX6_wasThere_X4_isPresent rfl rfl rfl (by decide +kernel) ⟨Nat.le_of_ble_eq_true rfl, Nat.le_of_ble_eq_true rfl⟩) (preRV (q := (RX4, TX4, 7)) (hP.sub [1, 3] rfl) hK 0 rfl rfl) rfl rfl hl.1 rfl (lv_room (Nat.le_of_ble_eq_true rfl)) dX6_wasThere_18 ⟨Nat.zero_le _, Nat.zero_le _⟩)) (fun r_3 hw => ?_)
    replace hm := bst hm hw.1
    have J42_1 : ∀ (y_4 : Int32), ∀ (ls : Array Slot), m_X6_wasThere_J42 v_o_day g_o_parcels_firstDay p1 p2 y_4 = R → lv_has ls 4 [(0, .ref o), (1, .int p1), (2, .int p2)] → W p l e ({ frames := 2, cells := 0, slots := 0, locals := 42 } : Room) s m av below meth c s.heap [] 0 0 Q (F0 m 42 ls [.int y_4]) := by
      intro y_4 ls hm hl
      unfold m_X6_wasThere_J42 at hm
      refine lv_istore_n (lv' := [(3, .int y_4), (0, .ref o), (1, .int p1), (2, .int p2)]) hx hb dX6_wasThere_42 rfl hl (by decide) rfl (fun ls hl => ?_)
      refine lv_iload_n hx hb dX6_wasThere_43 rfl (lv_at hl 0 rfl) ?_
      refine lv_if_eq (tgt := 71) hx hb dX6_wasThere_44 (by decide) (fun c_5 => ?_) (fun c_5 => ?_)
      · replace hm := it hm c_5
        refine lv_iconst (v := (0 : Int32)) hx hb dX6_wasThere_71 (by decide) ?_
        exact hret _ _ _ dX6_wasThere_72 rfl ⟨hm.symm, (by decide)⟩
      · replace hm := ie hm c_5
        refine lv_iload_n hx hb dX6_wasThere_47 rfl (lv_at hl 3 rfl) ?_
        refine lv_aload_n hx hb dX6_wasThere_48 rfl (lv_at hl 1 rfl) ?_
        refine va_get (D := G) (ci := 8) (v := .ref o_parcels) (C := RX6) (T := TX6) (N := 5) hx hb hts i_X6 hown hK.1 hP 0 rfl rfl 1 (by decide) w_0 (fun _ h9 => h9) rfl dX6_wasThere_49 ?_
        refine va_get (D := G) (ci := 6) (v := .ref o_parcels_firstDay) (C := RX4) (T := TX4) (N := 7) hx hb hts i_X4 hown hK.1 hP 1 rfl rfl 2 (by decide) w_1 (fun _ h9 => h9) rfl dX6_wasThere_52 ?_
        refine lv_iload_n hx hb dX6_wasThere_55 rfl (lv_at hl 2 rfl) ?_
        replace hm := gdo hm hz
        obtain ⟨gi_6, hm⟩ := hm
        refine va_iald hx hb hK.1 hP 2 0 (cA := cA 0) (n := 24) (f := g_o_parcels_firstDay) rfl rfl (ixi gi_6) dX6_wasThere_56 ?_
        refine lv_aload_n hx hb dX6_wasThere_57 rfl (lv_at hl 1 rfl) ?_
        refine va_get (D := G) (ci := 8) (v := .int v_o_day) (C := RX6) (T := TX6) (N := 5) hx hb hts i_X6 hown hK.1 hP 0 rfl rfl 0 (by decide) w_2 (fun _ h9 => h9) rfl dX6_wasThere_58 ?_
        refine vp_callSi (va_Run.run (va_runSN (As := [.int p2, .int (g_o_parcels_firstDay p1.toNatClampNeg), .int v_o_day]) (rest := []) ⟨hx, hb, hml, hown, hts⟩ (c_X7_isFrom l G cA p2 (g_o_parcels_firstDay p1.toNatClampNeg) v_o_day _ rfl (bnz hm hz)) ⟨va_cnB (host := "ParcelRegistry") 3 hts gX6_wasThere_X7_isFrom_n94 rfl rfl rfl (hK.2 (RX6, 94, yX7_isFrom) (List.mem_of_getElem? (i := 7) rfl)) w_3 (by decide +kernel) ⟨Nat.le_of_ble_eq_true rfl, Nat.le_of_ble_eq_true rfl⟩, w_4, trivial⟩ (preRS (hP.sub [] rfl) hK) rfl rfl hl.1 rfl (lv_room (Nat.le_of_ble_eq_true rfl)) dX6_wasThere_61 ⟨Nat.zero_le _, Nat.zero_le _⟩)) (fun r_7 hw => ?_)
        replace hm := bst hm hw.1
        refine lv_if_eq (tgt := 71) hx hb dX6_wasThere_64 (by decide) (fun c_8 => ?_) (fun c_8 => ?_)
        · replace hm := it hm c_8
          refine lv_iconst (v := (0 : Int32)) hx hb dX6_wasThere_71 (by decide) ?_
          exact hret _ _ _ dX6_wasThere_72 rfl ⟨hm.symm, (by decide)⟩
        · replace hm := ie hm c_8
          refine lv_iconst (v := (1 : Int32)) hx hb dX6_wasThere_67 (by decide) ?_
          refine lv_goto (tgt := 72) hx hb dX6_wasThere_68 (by decide) ?_
          exact hret _ _ _ dX6_wasThere_72 rfl ⟨hm.symm, (by decide)⟩
    refine lv_if_ne (tgt := 37) hx hb dX6_wasThere_21 (by decide) (fun c_9 => ?_) (fun c_9 => ?_)
    · replace hm := ie hm c_9
      refine lv_iconst (v := (1 : Int32)) hx hb dX6_wasThere_37 (by decide) ?_
      refine lv_goto (tgt := 42) hx hb dX6_wasThere_38 (by decide) ?_
      exact J42_1 (1 : Int32) _ hm (lv_sub hl [0, 1, 2] rfl)
    · replace hm := it hm c_9
      refine lv_iload_n hx hb dX6_wasThere_24 rfl (lv_at hl 2 rfl) ?_
      refine lv_aload_n hx hb dX6_wasThere_25 rfl (lv_at hl 0 rfl) ?_
      refine va_get (D := G) (ci := 8) (v := .ref o_parcels) (C := RX6) (T := TX6) (N := 5) hx hb hts i_X6 hown hK.1 hP 0 rfl rfl 1 (by decide) w_0 (fun _ h9 => h9) rfl dX6_wasThere_26 ?_
      refine va_get (D := G) (ci := 6) (v := .ref o_parcels_lastDay) (C := RX4) (T := TX4) (N := 7) hx hb hts i_X4 hown hK.1 hP 1 rfl rfl 3 (by decide) w_5 (fun _ h9 => h9) rfl dX6_wasThere_29 ?_
      refine lv_iload_n hx hb dX6_wasThere_32 rfl (lv_at hl 1 rfl) ?_
      replace hm := gdo hm hz
      obtain ⟨gi_10, hm⟩ := hm
      refine va_iald hx hb hK.1 hP 3 0 (cA := cA 0) (n := 24) (f := g_o_parcels_lastDay) rfl rfl (ixi gi_10) dX6_wasThere_33 ?_
      refine lv_icmp_ge (tgt := 41) hx hb dX6_wasThere_34 (by decide) (fun c_11 => ?_) (fun c_11 => ?_)
      · replace hm := it hm c_11
        refine lv_iconst (v := (0 : Int32)) hx hb dX6_wasThere_41 (by decide) ?_
        exact J42_1 (0 : Int32) _ hm (lv_sub hl [0, 1, 2] rfl)
      · replace hm := ie hm c_11
        refine lv_iconst (v := (1 : Int32)) hx hb dX6_wasThere_37 (by decide) ?_
        refine lv_goto (tgt := 42) hx hb dX6_wasThere_38 (by decide) ?_
        exact J42_1 (1 : Int32) _ hm (lv_sub hl [0, 1, 2] rfl)
  · replace hm := it hm c_2
    refine lv_iconst (v := (0 : Int32)) hx hb dX6_wasThere_11 (by decide) ?_
    exact hret _ _ _ dX6_wasThere_12 rfl ⟨hm.symm, (by decide)⟩
def m_X6_presentOf_L4 (v_o_parcels_count : Int32) (g_o_parcels_lastDay : Nat → Int32) (g_o_parcels_root : Nat → Int32) (v_o_deeds_count : Int32) (g_o_deeds_parcelOf : Nat → Int32) (g_o_deeds_grantor : Nat → Int32) (g_o_deeds_grantee : Nat → Int32) (g_o_deeds_dayOf : Nat → Int32) (p1 : Int32) : ((Int32 × Int32) → Option (Int32)) → (Int32 × Int32) → Option (Int32) := fun rec_3 v => match v with
  | (x_1, x_2) => (if v_o_parcels_count ≤ x_2 then some x_1 else Option.bind (m_X4_isPresent x_2 v_o_parcels_count g_o_parcels_lastDay) (fun r_5 => (if r_5 = 0 then rec_3 (x_1, x_2 + (1 : Int32)) else Option.bind (m_X6_holderNow x_2 v_o_parcels_count g_o_parcels_root v_o_deeds_count g_o_deeds_parcelOf g_o_deeds_grantor g_o_deeds_grantee g_o_deeds_dayOf) (fun r_7 => (if r_7 = p1 then rec_3 (x_1 ||| ((1 : Int32) <<< (x_2 &&& 31)), x_2 + (1 : Int32)) else rec_3 (x_1, x_2 + (1 : Int32)))))))
def m_X6_presentOf (p1 : Int32) (v_o_parcels_count : Int32) (g_o_parcels_lastDay : Nat → Int32) (g_o_parcels_root : Nat → Int32) (v_o_deeds_count : Int32) (g_o_deeds_parcelOf : Nat → Int32) (g_o_deeds_grantor : Nat → Int32) (g_o_deeds_grantee : Nat → Int32) (g_o_deeds_dayOf : Nat → Int32) : Option (Int32) := fuel (m_X6_presentOf_L4 v_o_parcels_count g_o_parcels_lastDay g_o_parcels_root v_o_deeds_count g_o_deeds_parcelOf g_o_deeds_grantor g_o_deeds_grantee g_o_deeds_dayOf p1) FU ((0 : Int32), (0 : Int32))
abbrev k_X6_presentOf (cA : Nat → ClassId) (o o_parcels o_deeds o_easements o_liens o_parcels_area o_parcels_firstDay o_parcels_lastDay o_parcels_neighbours o_parcels_parents o_parcels_root o_deeds_parcelOf o_deeds_grantor o_deeds_grantee o_deeds_dayOf o_deeds_most : Nat) (v_o_day : Int32) (v_o_parcels_count : Int32) (g_o_parcels_lastDay : Nat → Int32) (g_o_parcels_root : Nat → Int32) (v_o_deeds_count : Int32) (g_o_deeds_parcelOf : Nat → Int32) (g_o_deeds_grantor : Nat → Int32) (g_o_deeds_grantee : Nat → Int32) (g_o_deeds_dayOf : Nat → Int32) : va_W := [(o, .inr (8, [.int v_o_day, .ref o_parcels, .ref o_deeds, .ref o_easements, .ref o_liens])), (o_parcels, .inr (6, [.int v_o_parcels_count, .ref o_parcels_area, .ref o_parcels_firstDay, .ref o_parcels_lastDay, .ref o_parcels_neighbours, .ref o_parcels_parents, .ref o_parcels_root])), (o_parcels_lastDay, .inl (cA 0, 24, .inl g_o_parcels_lastDay)), (o_parcels_root, .inl (cA 0, 24, .inl g_o_parcels_root)), (o_deeds, .inr (2, [.int v_o_deeds_count, .ref o_deeds_parcelOf, .ref o_deeds_grantor, .ref o_deeds_grantee, .ref o_deeds_dayOf, .ref o_deeds_most])), (o_deeds_parcelOf, .inl (cA 0, 60, .inl g_o_deeds_parcelOf)), (o_deeds_grantor, .inl (cA 0, 60, .inl g_o_deeds_grantor)), (o_deeds_grantee, .inl (cA 0, 60, .inl g_o_deeds_grantee)), (o_deeds_dayOf, .inl (cA 0, 60, .inl g_o_deeds_dayOf))]
set_option maxHeartbeats 4000000 in
set_option maxRecDepth 100000 in
/-- X6_presentOf: as its model -/
theorem c_X6_presentOf (l : Launch) (G : va_G) (cA : Nat → ClassId) (o o_parcels o_deeds o_easements o_liens o_parcels_area o_parcels_firstDay o_parcels_lastDay o_parcels_neighbours o_parcels_parents o_parcels_root o_deeds_parcelOf o_deeds_grantor o_deeds_grantee o_deeds_dayOf o_deeds_most : Nat) (p1 : Int32) (v_o_day : Int32) (v_o_parcels_count : Int32) (g_o_parcels_lastDay : Nat → Int32) (g_o_parcels_root : Nat → Int32) (v_o_deeds_count : Int32) (g_o_deeds_parcelOf : Nat → Int32) (g_o_deeds_grantor : Nat → Int32) (g_o_deeds_grantee : Nat → Int32) (g_o_deeds_dayOf : Nat → Int32) (R : Option (Int32)) (hR : m_X6_presentOf p1 v_o_parcels_count g_o_parcels_lastDay g_o_parcels_root v_o_deeds_count g_o_deeds_parcelOf g_o_deeds_grantor g_o_deeds_grantee g_o_deeds_dayOf = R) (hz : R ≠ none) : Met l yX6_presentOf wsX6_presentOf ({ frames := 3, cells := 0, slots := 0, locals := 68 } : Room) (va_Pc [.ref o, .int p1] (PR G cA (k_X6_presentOf cA o o_parcels o_deeds o_easements o_liens o_parcels_area o_parcels_firstDay o_parcels_lastDay o_parcels_neighbours o_parcels_parents o_parcels_root o_deeds_parcelOf o_deeds_grantor o_deeds_grantee o_deeds_dayOf o_deeds_most v_o_day v_o_parcels_count g_o_parcels_lastDay g_o_parcels_root v_o_deeds_count g_o_deeds_parcelOf g_o_deeds_grantor g_o_deeds_grantee g_o_deeds_dayOf))) (vp_Si (fun r => R = some r)) 0 0 (fun _ => False) := by
  refine metR .int (by decide) rfl (Nat.le_of_ble_eq_true rfl) ?_
  intro p e s m av below meth c Q ls hx hb hml hts hown hP hK hl hret
  replace hl : lv_has ls 4 [(0, .ref o), (1, .int p1)] := hl
  have w_0 := hts (.fieldLink RX6 18 "ParcelRegistry$World" "parcels" "LParcelRegistry$Parcels;") (by decide +kernel)
  have w_1 := hts (.fieldLink RX6 56 "ParcelRegistry$Parcels" "count" "I") (by decide +kernel)
  have i_X4 : ∀ w ∈ wsX40, w ∈ wsX6_presentOf := by decide +kernel
  have i_X6 : ∀ w ∈ wsX60, w ∈ wsX6_presentOf := by decide +kernel
  have hm := hR
  unfold m_X6_presentOf at hm
  refine lv_iconst (v := (0 : Int32)) hx hb dX6_presentOf_0 (by decide) ?_
  refine lv_istore_n (lv' := [(2, .int (0 : Int32)), (0, .ref o), (1, .int p1)]) hx hb dX6_presentOf_1 rfl hl (by decide) rfl (fun ls hl => ?_)
  refine lv_iconst (v := (0 : Int32)) hx hb dX6_presentOf_2 (by decide) ?_
  refine lv_istore_n (lv' := [(3, .int (0 : Int32)), (2, .int (0 : Int32)), (0, .ref o), (1, .int p1)]) hx hb dX6_presentOf_3 rfl hl (by decide) rfl (fun ls hl => ?_)
  have L4_1 : ∀ (n : Nat), ∀ (x_1 : Int32) (x_2 : Int32), ∀ (ls : Array Slot), fuel (m_X6_presentOf_L4 v_o_parcels_count g_o_parcels_lastDay g_o_parcels_root v_o_deeds_count g_o_deeds_parcelOf g_o_deeds_grantor g_o_deeds_grantee g_o_deeds_dayOf p1) n (x_1, x_2) = R → lv_has ls 4 [(0, .ref o), (1, .int p1), (2, .int x_1), (3, .int x_2)] → W p l e ({ frames := 3, cells := 0, slots := 0, locals := 68 } : Room) s m av below meth c s.heap [] 0 0 Q (F0 m 4 ls []) := by
    intro n
    induction n with
    | zero =>
      intro x_1 x_2 ls hm hl
      exact (fu0 hm hz).elim
    | succ n ih4 =>
      intro x_1 x_2 ls hm hl
      replace hm := fus hm
      generalize fuel (m_X6_presentOf_L4 v_o_parcels_count g_o_parcels_lastDay g_o_parcels_root v_o_deeds_count g_o_deeds_parcelOf g_o_deeds_grantor g_o_deeds_grantee g_o_deeds_dayOf p1) n = rec_3 at hm ih4
      unfold m_X6_presentOf_L4 at hm
      refine lv_iload_n hx hb dX6_presentOf_4 rfl (lv_at hl 3 rfl) ?_
      refine lv_aload_n hx hb dX6_presentOf_5 rfl (lv_at hl 0 rfl) ?_
      refine va_get (D := G) (ci := 8) (v := .ref o_parcels) (C := RX6) (T := TX6) (N := 5) hx hb hts i_X6 hown hK.1 hP 0 rfl rfl 1 (by decide) w_0 (fun _ h9 => h9) rfl dX6_presentOf_6 ?_
      refine va_get (D := G) (ci := 6) (v := .int v_o_parcels_count) (C := RX4) (T := TX4) (N := 7) hx hb hts i_X4 hown hK.1 hP 1 rfl rfl 0 (by decide) w_1 (fun _ h9 => h9) rfl dX6_presentOf_9 ?_
      refine lv_icmp_ge (tgt := 47) hx hb dX6_presentOf_12 (by decide) (fun c_4 => ?_) (fun c_4 => ?_)
      · replace hm := it hm c_4
        refine lv_iload_n hx hb dX6_presentOf_47 rfl (lv_at hl 2 rfl) ?_
        exact hret _ _ _ dX6_presentOf_48 rfl hm.symm
      · replace hm := ie hm c_4
        refine lv_aload_n hx hb dX6_presentOf_15 rfl (lv_at hl 0 rfl) ?_
        refine va_get (D := G) (ci := 8) (v := .ref o_parcels) (C := RX6) (T := TX6) (N := 5) hx hb hts i_X6 hown hK.1 hP 0 rfl rfl 1 (by decide) w_0 (fun _ h9 => h9) rfl dX6_presentOf_16 ?_
        refine lv_iload_n hx hb dX6_presentOf_19 rfl (lv_at hl 3 rfl) ?_
        refine vp_callSi (va_Run.run (va_runV (As := [.int x_2]) (rest := []) ⟨hx, hb, hml, hown, hts⟩ (c_X4_isPresent l G cA o_parcels o_parcels_area o_parcels_firstDay o_parcels_lastDay o_parcels_neighbours o_parcels_parents o_parcels_root x_2 v_o_parcels_count g_o_parcels_lastDay _ rfl (bnz hm hz)) (cwV 1 hts gX6_presentOf_X4_isPresent rfl rfl rfl (by decide +kernel) ⟨Nat.le_of_ble_eq_true rfl, Nat.le_of_ble_eq_true rfl⟩) (preRV (q := (RX4, TX4, 7)) (hP.sub [1, 2] rfl) hK 0 rfl rfl) rfl rfl hl.1 rfl (lv_room (Nat.le_of_ble_eq_true rfl)) dX6_presentOf_20 ⟨Nat.zero_le _, Nat.zero_le _⟩)) (fun r_5 hw => ?_)
        replace hm := bst hm hw.1
        refine lv_if_eq (tgt := 41) hx hb dX6_presentOf_23 (by decide) (fun c_6 => ?_) (fun c_6 => ?_)
        · replace hm := it hm c_6
          refine lv_iinc (v := x_2 + (1 : Int32)) (lv' := [(3, .int (x_2 + (1 : Int32))), (0, .ref o), (1, .int p1), (2, .int x_1)]) hx hb dX6_presentOf_41 hl (k := 3) rfl rfl (by decide) rfl (fun ls hl => ?_)
          refine lv_goto (tgt := 4) hx hb dX6_presentOf_44 (by decide) ?_
          exact ih4 x_1 (x_2 + (1 : Int32)) _ hm (lv_sub hl [1, 2, 3, 0] rfl)
        · replace hm := ie hm c_6
          refine lv_aload_n hx hb dX6_presentOf_26 rfl (lv_at hl 0 rfl) ?_
          refine lv_iload_n hx hb dX6_presentOf_27 rfl (lv_at hl 3 rfl) ?_
          refine vp_callSi (va_Run.run (va_runV (As := [.int x_2]) (rest := []) ⟨hx, hb, hml, hown, hts⟩ (c_X6_holderNow l G cA o o_parcels o_deeds o_easements o_liens o_parcels_area o_parcels_firstDay o_parcels_lastDay o_parcels_neighbours o_parcels_parents o_parcels_root o_deeds_parcelOf o_deeds_grantor o_deeds_grantee o_deeds_dayOf o_deeds_most x_2 v_o_day v_o_parcels_count g_o_parcels_root v_o_deeds_count g_o_deeds_parcelOf g_o_deeds_grantor g_o_deeds_grantee g_o_deeds_dayOf _ rfl (bnz hm hz)) (cwV 1 hts gX6_presentOf_X6_holderNow rfl rfl rfl (by decide +kernel) ⟨Nat.le_of_ble_eq_true rfl, Nat.le_of_ble_eq_true rfl⟩) (preRV (q := (RX6, TX6, 5)) (hP.sub [0, 1, 3, 4, 5, 6, 7, 8] rfl) hK 0 rfl rfl) rfl rfl hl.1 rfl (lv_room (Nat.le_of_ble_eq_true rfl)) dX6_presentOf_28 ⟨Nat.zero_le _, Nat.zero_le _⟩)) (fun r_7 hw => ?_)
          replace hm := bst hm hw
          refine lv_iload_n hx hb dX6_presentOf_31 rfl (lv_at hl 1 rfl) ?_
          refine lv_icmp_ne (tgt := 41) hx hb dX6_presentOf_32 (by decide) (fun c_8 => ?_) (fun c_8 => ?_)
          · replace hm := ie hm c_8
            refine lv_iinc (v := x_2 + (1 : Int32)) (lv' := [(3, .int (x_2 + (1 : Int32))), (0, .ref o), (1, .int p1), (2, .int x_1)]) hx hb dX6_presentOf_41 hl (k := 3) rfl rfl (by decide) rfl (fun ls hl => ?_)
            refine lv_goto (tgt := 4) hx hb dX6_presentOf_44 (by decide) ?_
            exact ih4 x_1 (x_2 + (1 : Int32)) _ hm (lv_sub hl [1, 2, 3, 0] rfl)
          · replace hm := it hm c_8
            refine lv_iload_n hx hb dX6_presentOf_35 rfl (lv_at hl 2 rfl) ?_
            refine lv_iconst (v := (1 : Int32)) hx hb dX6_presentOf_36 (by decide) ?_
            refine lv_iload_n hx hb dX6_presentOf_37 rfl (lv_at hl 3 rfl) ?_
            refine lv_ishl hx hb dX6_presentOf_38 ?_
            refine lv_ior hx hb dX6_presentOf_39 ?_
            refine lv_istore_n (lv' := [(2, .int (x_1 ||| ((1 : Int32) <<< (x_2 &&& 31)))), (0, .ref o), (1, .int p1), (3, .int x_2)]) hx hb dX6_presentOf_40 rfl hl (by decide) rfl (fun ls hl => ?_)
            refine lv_iinc (v := x_2 + (1 : Int32)) (lv' := [(3, .int (x_2 + (1 : Int32))), (2, .int (x_1 ||| ((1 : Int32) <<< (x_2 &&& 31)))), (0, .ref o), (1, .int p1)]) hx hb dX6_presentOf_41 hl (k := 3) rfl rfl (by decide) rfl (fun ls hl => ?_)
            refine lv_goto (tgt := 4) hx hb dX6_presentOf_44 (by decide) ?_
            exact ih4 (x_1 ||| ((1 : Int32) <<< (x_2 &&& 31))) (x_2 + (1 : Int32)) _ hm (lv_sub hl [2, 3, 1, 0] rfl)
  exact L4_1 _ (0 : Int32) (0 : Int32) _ hm (lv_sub hl [2, 3, 1, 0] rfl)
def m_X6_faultOfEasement (p1 : Int32) (p2 : Int32) (p3 : Int32) (v_o_parcels_count : Int32) (g_o_parcels_lastDay : Nat → Int32) (v_o_easements_count : Int32) : Option (Int32) := Option.bind (m_X4_has p2 v_o_parcels_count) (fun r_1 => (if r_1 = 0 then some (7 : Int32) else Option.bind (m_X4_has p3 v_o_parcels_count) (fun r_3 => (if r_3 = 0 then some (7 : Int32) else Option.bind (m_X7_isFrom p1 (0 : Int32) (3 : Int32)) (fun r_5 => (if r_5 = 0 then some (8 : Int32) else (if p2 = p3 then some (8 : Int32) else Option.bind (m_X4_isPresent p2 v_o_parcels_count g_o_parcels_lastDay) (fun r_8 => (if r_8 = 0 then some (9 : Int32) else Option.bind (m_X4_isPresent p3 v_o_parcels_count g_o_parcels_lastDay) (fun r_10 => (if r_10 = 0 then some (9 : Int32) else (if (30 : Int32) ≤ v_o_easements_count then some (9 : Int32) else some (0 : Int32)))))))))))))
abbrev k_X6_faultOfEasement (cA : Nat → ClassId) (o o_parcels o_deeds o_easements o_liens o_parcels_area o_parcels_firstDay o_parcels_lastDay o_parcels_neighbours o_parcels_parents o_parcels_root o_easements_kind o_easements_on o_easements_serves o_easements_firstDay o_easements_lastDay : Nat) (v_o_day : Int32) (v_o_parcels_count : Int32) (g_o_parcels_lastDay : Nat → Int32) (v_o_easements_count : Int32) : va_W := [(o, .inr (8, [.int v_o_day, .ref o_parcels, .ref o_deeds, .ref o_easements, .ref o_liens])), (o_parcels, .inr (6, [.int v_o_parcels_count, .ref o_parcels_area, .ref o_parcels_firstDay, .ref o_parcels_lastDay, .ref o_parcels_neighbours, .ref o_parcels_parents, .ref o_parcels_root])), (o_parcels_lastDay, .inl (cA 0, 24, .inl g_o_parcels_lastDay)), (o_easements, .inr (3, [.int v_o_easements_count, .ref o_easements_kind, .ref o_easements_on, .ref o_easements_serves, .ref o_easements_firstDay, .ref o_easements_lastDay]))]
set_option maxHeartbeats 4000000 in
set_option maxRecDepth 100000 in
/-- X6_faultOfEasement: as its model -/
theorem c_X6_faultOfEasement (l : Launch) (G : va_G) (cA : Nat → ClassId) (o o_parcels o_deeds o_easements o_liens o_parcels_area o_parcels_firstDay o_parcels_lastDay o_parcels_neighbours o_parcels_parents o_parcels_root o_easements_kind o_easements_on o_easements_serves o_easements_firstDay o_easements_lastDay : Nat) (p1 : Int32) (p2 : Int32) (p3 : Int32) (v_o_day : Int32) (v_o_parcels_count : Int32) (g_o_parcels_lastDay : Nat → Int32) (v_o_easements_count : Int32) (R : Option (Int32)) (hR : m_X6_faultOfEasement p1 p2 p3 v_o_parcels_count g_o_parcels_lastDay v_o_easements_count = R) (hz : R ≠ none) : Met l yX6_faultOfEasement wsX6_faultOfEasement ({ frames := 2, cells := 0, slots := 0, locals := 42 } : Room) (va_Pc [.ref o, .int p1, .int p2, .int p3] (PR G cA (k_X6_faultOfEasement cA o o_parcels o_deeds o_easements o_liens o_parcels_area o_parcels_firstDay o_parcels_lastDay o_parcels_neighbours o_parcels_parents o_parcels_root o_easements_kind o_easements_on o_easements_serves o_easements_firstDay o_easements_lastDay v_o_day v_o_parcels_count g_o_parcels_lastDay v_o_easements_count))) (vp_Si (fun r => R = some r)) 0 0 (fun _ => False) := by
  refine metR .int (by decide) rfl (Nat.le_of_ble_eq_true rfl) ?_
  intro p e s m av below meth c Q ls hx hb hml hts hown hP hK hl hret
  replace hl : lv_has ls 4 [(0, .ref o), (1, .int p1), (2, .int p2), (3, .int p3)] := hl
  have w_0 := hts (.fieldLink RX6 18 "ParcelRegistry$World" "parcels" "LParcelRegistry$Parcels;") (by decide +kernel)
  have w_1 := hts (.initialized RX7) (by decide +kernel)
  have w_2 := hts (.static yX7_isFrom) (by decide +kernel)
  have w_3 := hts (.fieldLink RX6 32 "ParcelRegistry$World" "easements" "LParcelRegistry$Easements;") (by decide +kernel)
  have w_4 := hts (.fieldLink RX6 60 "ParcelRegistry$Easements" "count" "I") (by decide +kernel)
  have i_X1 : ∀ w ∈ wsX10, w ∈ wsX6_faultOfEasement := by decide +kernel
  have i_X6 : ∀ w ∈ wsX60, w ∈ wsX6_faultOfEasement := by decide +kernel
  have hm := hR
  unfold m_X6_faultOfEasement at hm
  refine lv_aload_n hx hb dX6_faultOfEasement_0 rfl (lv_at hl 0 rfl) ?_
  refine va_get (D := G) (ci := 8) (v := .ref o_parcels) (C := RX6) (T := TX6) (N := 5) hx hb hts i_X6 hown hK.1 hP 0 rfl rfl 1 (by decide) w_0 (fun _ h9 => h9) rfl dX6_faultOfEasement_1 ?_
  refine lv_iload_n hx hb dX6_faultOfEasement_4 rfl (lv_at hl 2 rfl) ?_
  refine vp_callSi (va_Run.run (va_runV (As := [.int p2]) (rest := []) ⟨hx, hb, hml, hown, hts⟩ (c_X4_has l G cA o_parcels o_parcels_area o_parcels_firstDay o_parcels_lastDay o_parcels_neighbours o_parcels_parents o_parcels_root p2 v_o_parcels_count _ rfl (bnz hm hz)) (cwV 1 hts gX6_faultOfEasement_X4_has rfl rfl rfl (by decide +kernel) ⟨Nat.le_of_ble_eq_true rfl, Nat.le_of_ble_eq_true rfl⟩) (preRV (q := (RX4, TX4, 7)) (hP.sub [1] rfl) hK 0 rfl rfl) rfl rfl hl.1 rfl (lv_room (Nat.le_of_ble_eq_true rfl)) dX6_faultOfEasement_5 ⟨Nat.zero_le _, Nat.zero_le _⟩)) (fun r_1 hw => ?_)
  replace hm := bst hm hw.1
  refine lv_if_eq (tgt := 22) hx hb dX6_faultOfEasement_8 (by decide) (fun c_2 => ?_) (fun c_2 => ?_)
  · replace hm := it hm c_2
    refine lv_bipush (v := (7 : Int32)) hx hb dX6_faultOfEasement_22 (by decide) ?_
    exact hret _ _ _ dX6_faultOfEasement_24 rfl hm.symm
  · replace hm := ie hm c_2
    refine lv_aload_n hx hb dX6_faultOfEasement_11 rfl (lv_at hl 0 rfl) ?_
    refine va_get (D := G) (ci := 8) (v := .ref o_parcels) (C := RX6) (T := TX6) (N := 5) hx hb hts i_X6 hown hK.1 hP 0 rfl rfl 1 (by decide) w_0 (fun _ h9 => h9) rfl dX6_faultOfEasement_12 ?_
    refine lv_iload_n hx hb dX6_faultOfEasement_15 rfl (lv_at hl 3 rfl) ?_
    refine vp_callSi (va_Run.run (va_runV (As := [.int p3]) (rest := []) ⟨hx, hb, hml, hown, hts⟩ (c_X4_has l G cA o_parcels o_parcels_area o_parcels_firstDay o_parcels_lastDay o_parcels_neighbours o_parcels_parents o_parcels_root p3 v_o_parcels_count _ rfl (bnz hm hz)) (cwV 1 hts gX6_faultOfEasement_X4_has rfl rfl rfl (by decide +kernel) ⟨Nat.le_of_ble_eq_true rfl, Nat.le_of_ble_eq_true rfl⟩) (preRV (q := (RX4, TX4, 7)) (hP.sub [1] rfl) hK 0 rfl rfl) rfl rfl hl.1 rfl (lv_room (Nat.le_of_ble_eq_true rfl)) dX6_faultOfEasement_16 ⟨Nat.zero_le _, Nat.zero_le _⟩)) (fun r_3 hw => ?_)
    replace hm := bst hm hw.1
    refine lv_if_ne (tgt := 25) hx hb dX6_faultOfEasement_19 (by decide) (fun c_4 => ?_) (fun c_4 => ?_)
    · replace hm := ie hm c_4
      refine lv_iload_n hx hb dX6_faultOfEasement_25 rfl (lv_at hl 1 rfl) ?_
      refine lv_iconst (v := (0 : Int32)) hx hb dX6_faultOfEasement_26 (by decide) ?_
      refine lv_iconst (v := (3 : Int32)) hx hb dX6_faultOfEasement_27 (by decide) ?_
      refine vp_callSi (va_Run.run (va_runSN (As := [.int p1, .int (0 : Int32), .int (3 : Int32)]) (rest := []) ⟨hx, hb, hml, hown, hts⟩ (c_X7_isFrom l G cA p1 (0 : Int32) (3 : Int32) _ rfl (bnz hm hz)) ⟨va_cnB (host := "ParcelRegistry") 3 hts gX6_faultOfEasement_X7_isFrom_n94 rfl rfl rfl (hK.2 (RX6, 94, yX7_isFrom) (List.mem_of_getElem? (i := 7) rfl)) w_1 (by decide +kernel) ⟨Nat.le_of_ble_eq_true rfl, Nat.le_of_ble_eq_true rfl⟩, w_2, trivial⟩ (preRS (hP.sub [] rfl) hK) rfl rfl hl.1 rfl (lv_room (Nat.le_of_ble_eq_true rfl)) dX6_faultOfEasement_28 ⟨Nat.zero_le _, Nat.zero_le _⟩)) (fun r_5 hw => ?_)
      replace hm := bst hm hw.1
      refine lv_if_eq (tgt := 39) hx hb dX6_faultOfEasement_31 (by decide) (fun c_6 => ?_) (fun c_6 => ?_)
      · replace hm := it hm c_6
        refine lv_bipush (v := (8 : Int32)) hx hb dX6_faultOfEasement_39 (by decide) ?_
        exact hret _ _ _ dX6_faultOfEasement_41 rfl hm.symm
      · replace hm := ie hm c_6
        refine lv_iload_n hx hb dX6_faultOfEasement_34 rfl (lv_at hl 2 rfl) ?_
        refine lv_iload_n hx hb dX6_faultOfEasement_35 rfl (lv_at hl 3 rfl) ?_
        refine lv_icmp_ne (tgt := 42) hx hb dX6_faultOfEasement_36 (by decide) (fun c_7 => ?_) (fun c_7 => ?_)
        · replace hm := ie hm c_7
          refine lv_aload_n hx hb dX6_faultOfEasement_42 rfl (lv_at hl 0 rfl) ?_
          refine va_get (D := G) (ci := 8) (v := .ref o_parcels) (C := RX6) (T := TX6) (N := 5) hx hb hts i_X6 hown hK.1 hP 0 rfl rfl 1 (by decide) w_0 (fun _ h9 => h9) rfl dX6_faultOfEasement_43 ?_
          refine lv_iload_n hx hb dX6_faultOfEasement_46 rfl (lv_at hl 2 rfl) ?_
          refine vp_callSi (va_Run.run (va_runV (As := [.int p2]) (rest := []) ⟨hx, hb, hml, hown, hts⟩ (c_X4_isPresent l G cA o_parcels o_parcels_area o_parcels_firstDay o_parcels_lastDay o_parcels_neighbours o_parcels_parents o_parcels_root p2 v_o_parcels_count g_o_parcels_lastDay _ rfl (bnz hm hz)) (cwV 1 hts gX6_faultOfEasement_X4_isPresent rfl rfl rfl (by decide +kernel) ⟨Nat.le_of_ble_eq_true rfl, Nat.le_of_ble_eq_true rfl⟩) (preRV (q := (RX4, TX4, 7)) (hP.sub [1, 2] rfl) hK 0 rfl rfl) rfl rfl hl.1 rfl (lv_room (Nat.le_of_ble_eq_true rfl)) dX6_faultOfEasement_47 ⟨Nat.zero_le _, Nat.zero_le _⟩)) (fun r_8 hw => ?_)
          replace hm := bst hm hw.1
          refine lv_if_eq (tgt := 64) hx hb dX6_faultOfEasement_50 (by decide) (fun c_9 => ?_) (fun c_9 => ?_)
          · replace hm := it hm c_9
            refine lv_bipush (v := (9 : Int32)) hx hb dX6_faultOfEasement_64 (by decide) ?_
            exact hret _ _ _ dX6_faultOfEasement_66 rfl hm.symm
          · replace hm := ie hm c_9
            refine lv_aload_n hx hb dX6_faultOfEasement_53 rfl (lv_at hl 0 rfl) ?_
            refine va_get (D := G) (ci := 8) (v := .ref o_parcels) (C := RX6) (T := TX6) (N := 5) hx hb hts i_X6 hown hK.1 hP 0 rfl rfl 1 (by decide) w_0 (fun _ h9 => h9) rfl dX6_faultOfEasement_54 ?_
            refine lv_iload_n hx hb dX6_faultOfEasement_57 rfl (lv_at hl 3 rfl) ?_
            refine vp_callSi (va_Run.run (va_runV (As := [.int p3]) (rest := []) ⟨hx, hb, hml, hown, hts⟩ (c_X4_isPresent l G cA o_parcels o_parcels_area o_parcels_firstDay o_parcels_lastDay o_parcels_neighbours o_parcels_parents o_parcels_root p3 v_o_parcels_count g_o_parcels_lastDay _ rfl (bnz hm hz)) (cwV 1 hts gX6_faultOfEasement_X4_isPresent rfl rfl rfl (by decide +kernel) ⟨Nat.le_of_ble_eq_true rfl, Nat.le_of_ble_eq_true rfl⟩) (preRV (q := (RX4, TX4, 7)) (hP.sub [1, 2] rfl) hK 0 rfl rfl) rfl rfl hl.1 rfl (lv_room (Nat.le_of_ble_eq_true rfl)) dX6_faultOfEasement_58 ⟨Nat.zero_le _, Nat.zero_le _⟩)) (fun r_10 hw => ?_)
            replace hm := bst hm hw.1
            refine lv_if_ne (tgt := 67) hx hb dX6_faultOfEasement_61 (by decide) (fun c_11 => ?_) (fun c_11 => ?_)
            · replace hm := ie hm c_11
              refine lv_aload_n hx hb dX6_faultOfEasement_67 rfl (lv_at hl 0 rfl) ?_
              refine va_get (D := G) (ci := 8) (v := .ref o_easements) (C := RX6) (T := TX6) (N := 5) hx hb hts i_X6 hown hK.1 hP 0 rfl rfl 3 (by decide) w_3 (fun _ h9 => h9) rfl dX6_faultOfEasement_68 ?_
              refine va_get (D := G) (ci := 3) (v := .int v_o_easements_count) (C := RX1) (T := TX1) (N := 6) hx hb hts i_X1 hown hK.1 hP 3 rfl rfl 0 (by decide) w_4 (fun _ h9 => h9) rfl dX6_faultOfEasement_71 ?_
              refine lv_bipush (v := (30 : Int32)) hx hb dX6_faultOfEasement_74 (by decide) ?_
              refine lv_icmp_ge (tgt := 83) hx hb dX6_faultOfEasement_76 (by decide) (fun c_12 => ?_) (fun c_12 => ?_)
              · replace hm := it hm c_12
                refine lv_bipush (v := (9 : Int32)) hx hb dX6_faultOfEasement_83 (by decide) ?_
                exact hret _ _ _ dX6_faultOfEasement_85 rfl hm.symm
              · replace hm := ie hm c_12
                refine lv_iconst (v := (0 : Int32)) hx hb dX6_faultOfEasement_79 (by decide) ?_
                refine lv_goto (tgt := 85) hx hb dX6_faultOfEasement_80 (by decide) ?_
                exact hret _ _ _ dX6_faultOfEasement_85 rfl hm.symm
            · replace hm := it hm c_11
              refine lv_bipush (v := (9 : Int32)) hx hb dX6_faultOfEasement_64 (by decide) ?_
              exact hret _ _ _ dX6_faultOfEasement_66 rfl hm.symm
        · replace hm := it hm c_7
          refine lv_bipush (v := (8 : Int32)) hx hb dX6_faultOfEasement_39 (by decide) ?_
          exact hret _ _ _ dX6_faultOfEasement_41 rfl hm.symm
    · replace hm := it hm c_4
      refine lv_bipush (v := (7 : Int32)) hx hb dX6_faultOfEasement_22 (by decide) ?_
      exact hret _ _ _ dX6_faultOfEasement_24 rfl hm.symm
def m_X6_faultOfLien (p1 : Int32) (p2 : Int32) (p3 : Int32) (v_o_parcels_count : Int32) (g_o_parcels_lastDay : Nat → Int32) (v_o_liens_count : Int32) : Option (Int32) := Option.bind (m_X4_has p1 v_o_parcels_count) (fun r_1 => (if r_1 = 0 then some (7 : Int32) else Option.bind (m_X7_isPerson p2) (fun r_3 => (if r_3 = 0 then some (8 : Int32) else Option.bind (m_X7_isFrom p3 (1 : Int32) (9999 : Int32)) (fun r_5 => (if r_5 = 0 then some (8 : Int32) else Option.bind (m_X4_isPresent p1 v_o_parcels_count g_o_parcels_lastDay) (fun r_7 => (if r_7 = 0 then some (9 : Int32) else (if (20 : Int32) ≤ v_o_liens_count then some (9 : Int32) else some (0 : Int32))))))))))
abbrev k_X6_faultOfLien (cA : Nat → ClassId) (o o_parcels o_deeds o_easements o_liens o_parcels_area o_parcels_firstDay o_parcels_lastDay o_parcels_neighbours o_parcels_parents o_parcels_root o_liens_creditor o_liens_amount o_liens_parcels o_liens_ranking : Nat) (v_o_day : Int32) (v_o_parcels_count : Int32) (g_o_parcels_lastDay : Nat → Int32) (v_o_liens_count : Int32) (v_o_liens_ranked : Int32) : va_W := [(o, .inr (8, [.int v_o_day, .ref o_parcels, .ref o_deeds, .ref o_easements, .ref o_liens])), (o_parcels, .inr (6, [.int v_o_parcels_count, .ref o_parcels_area, .ref o_parcels_firstDay, .ref o_parcels_lastDay, .ref o_parcels_neighbours, .ref o_parcels_parents, .ref o_parcels_root])), (o_parcels_lastDay, .inl (cA 0, 24, .inl g_o_parcels_lastDay)), (o_liens, .inr (5, [.int v_o_liens_count, .int v_o_liens_ranked, .ref o_liens_creditor, .ref o_liens_amount, .ref o_liens_parcels, .ref o_liens_ranking]))]
set_option maxHeartbeats 4000000 in
set_option maxRecDepth 100000 in
/-- X6_faultOfLien: as its model -/
theorem c_X6_faultOfLien (l : Launch) (G : va_G) (cA : Nat → ClassId) (o o_parcels o_deeds o_easements o_liens o_parcels_area o_parcels_firstDay o_parcels_lastDay o_parcels_neighbours o_parcels_parents o_parcels_root o_liens_creditor o_liens_amount o_liens_parcels o_liens_ranking : Nat) (p1 : Int32) (p2 : Int32) (p3 : Int32) (v_o_day : Int32) (v_o_parcels_count : Int32) (g_o_parcels_lastDay : Nat → Int32) (v_o_liens_count : Int32) (v_o_liens_ranked : Int32) (R : Option (Int32)) (hR : m_X6_faultOfLien p1 p2 p3 v_o_parcels_count g_o_parcels_lastDay v_o_liens_count = R) (hz : R ≠ none) : Met l yX6_faultOfLien wsX6_faultOfLien ({ frames := 2, cells := 0, slots := 0, locals := 42 } : Room) (va_Pc [.ref o, .int p1, .int p2, .int p3] (PR G cA (k_X6_faultOfLien cA o o_parcels o_deeds o_easements o_liens o_parcels_area o_parcels_firstDay o_parcels_lastDay o_parcels_neighbours o_parcels_parents o_parcels_root o_liens_creditor o_liens_amount o_liens_parcels o_liens_ranking v_o_day v_o_parcels_count g_o_parcels_lastDay v_o_liens_count v_o_liens_ranked))) (vp_Si (fun r => R = some r)) 0 0 (fun _ => False) := by
  refine metR .int (by decide) rfl (Nat.le_of_ble_eq_true rfl) ?_
  intro p e s m av below meth c Q ls hx hb hml hts hown hP hK hl hret
  replace hl : lv_has ls 4 [(0, .ref o), (1, .int p1), (2, .int p2), (3, .int p3)] := hl
  have w_0 := hts (.fieldLink RX6 18 "ParcelRegistry$World" "parcels" "LParcelRegistry$Parcels;") (by decide +kernel)
  have w_1 := hts (.initialized RX7) (by decide +kernel)
  have w_2 := hts (.static yX7_isPerson) (by decide +kernel)
  have w_3 := hts (.static yX7_isFrom) (by decide +kernel)
  have w_4 := hts (.fieldLink RX6 39 "ParcelRegistry$World" "liens" "LParcelRegistry$Liens;") (by decide +kernel)
  have w_5 := hts (.fieldLink RX6 61 "ParcelRegistry$Liens" "count" "I") (by decide +kernel)
  have i_X3 : ∀ w ∈ wsX30, w ∈ wsX6_faultOfLien := by decide +kernel
  have i_X6 : ∀ w ∈ wsX60, w ∈ wsX6_faultOfLien := by decide +kernel
  have hm := hR
  unfold m_X6_faultOfLien at hm
  refine lv_aload_n hx hb dX6_faultOfLien_0 rfl (lv_at hl 0 rfl) ?_
  refine va_get (D := G) (ci := 8) (v := .ref o_parcels) (C := RX6) (T := TX6) (N := 5) hx hb hts i_X6 hown hK.1 hP 0 rfl rfl 1 (by decide) w_0 (fun _ h9 => h9) rfl dX6_faultOfLien_1 ?_
  refine lv_iload_n hx hb dX6_faultOfLien_4 rfl (lv_at hl 1 rfl) ?_
  refine vp_callSi (va_Run.run (va_runV (As := [.int p1]) (rest := []) ⟨hx, hb, hml, hown, hts⟩ (c_X4_has l G cA o_parcels o_parcels_area o_parcels_firstDay o_parcels_lastDay o_parcels_neighbours o_parcels_parents o_parcels_root p1 v_o_parcels_count _ rfl (bnz hm hz)) (cwV 1 hts gX6_faultOfLien_X4_has rfl rfl rfl (by decide +kernel) ⟨Nat.le_of_ble_eq_true rfl, Nat.le_of_ble_eq_true rfl⟩) (preRV (q := (RX4, TX4, 7)) (hP.sub [1] rfl) hK 0 rfl rfl) rfl rfl hl.1 rfl (lv_room (Nat.le_of_ble_eq_true rfl)) dX6_faultOfLien_5 ⟨Nat.zero_le _, Nat.zero_le _⟩)) (fun r_1 hw => ?_)
  replace hm := bst hm hw.1
  refine lv_if_ne (tgt := 14) hx hb dX6_faultOfLien_8 (by decide) (fun c_2 => ?_) (fun c_2 => ?_)
  · replace hm := ie hm c_2
    refine lv_iload_n hx hb dX6_faultOfLien_14 rfl (lv_at hl 2 rfl) ?_
    refine vp_callSi (va_Run.run (va_runSN (As := [.int p2]) (rest := []) ⟨hx, hb, hml, hown, hts⟩ (c_X7_isPerson l G cA p2 _ rfl (bnz hm hz)) ⟨va_cnB (host := "ParcelRegistry") 1 hts gX6_faultOfLien_X7_isPerson_n104 rfl rfl rfl (hK.2 (RX6, 104, yX7_isPerson) (List.mem_of_getElem? (i := 8) rfl)) w_1 (by decide +kernel) ⟨Nat.le_of_ble_eq_true rfl, Nat.le_of_ble_eq_true rfl⟩, w_2, trivial⟩ (preRS (hP.sub [] rfl) hK) rfl rfl hl.1 rfl (lv_room (Nat.le_of_ble_eq_true rfl)) dX6_faultOfLien_15 ⟨Nat.zero_le _, Nat.zero_le _⟩)) (fun r_3 hw => ?_)
    replace hm := bst hm hw.1
    refine lv_if_eq (tgt := 32) hx hb dX6_faultOfLien_18 (by decide) (fun c_4 => ?_) (fun c_4 => ?_)
    · replace hm := it hm c_4
      refine lv_bipush (v := (8 : Int32)) hx hb dX6_faultOfLien_32 (by decide) ?_
      exact hret _ _ _ dX6_faultOfLien_34 rfl hm.symm
    · replace hm := ie hm c_4
      refine lv_iload_n hx hb dX6_faultOfLien_21 rfl (lv_at hl 3 rfl) ?_
      refine lv_iconst (v := (1 : Int32)) hx hb dX6_faultOfLien_22 (by decide) ?_
      refine lv_sipush (v := (9999 : Int32)) hx hb dX6_faultOfLien_23 (by decide) ?_
      refine vp_callSi (va_Run.run (va_runSN (As := [.int p3, .int (1 : Int32), .int (9999 : Int32)]) (rest := []) ⟨hx, hb, hml, hown, hts⟩ (c_X7_isFrom l G cA p3 (1 : Int32) (9999 : Int32) _ rfl (bnz hm hz)) ⟨va_cnB (host := "ParcelRegistry") 3 hts gX6_faultOfLien_X7_isFrom_n94 rfl rfl rfl (hK.2 (RX6, 94, yX7_isFrom) (List.mem_of_getElem? (i := 7) rfl)) w_1 (by decide +kernel) ⟨Nat.le_of_ble_eq_true rfl, Nat.le_of_ble_eq_true rfl⟩, w_3, trivial⟩ (preRS (hP.sub [] rfl) hK) rfl rfl hl.1 rfl (lv_room (Nat.le_of_ble_eq_true rfl)) dX6_faultOfLien_26 ⟨Nat.zero_le _, Nat.zero_le _⟩)) (fun r_5 hw => ?_)
      replace hm := bst hm hw.1
      refine lv_if_ne (tgt := 35) hx hb dX6_faultOfLien_29 (by decide) (fun c_6 => ?_) (fun c_6 => ?_)
      · replace hm := ie hm c_6
        refine lv_aload_n hx hb dX6_faultOfLien_35 rfl (lv_at hl 0 rfl) ?_
        refine va_get (D := G) (ci := 8) (v := .ref o_parcels) (C := RX6) (T := TX6) (N := 5) hx hb hts i_X6 hown hK.1 hP 0 rfl rfl 1 (by decide) w_0 (fun _ h9 => h9) rfl dX6_faultOfLien_36 ?_
        refine lv_iload_n hx hb dX6_faultOfLien_39 rfl (lv_at hl 1 rfl) ?_
        refine vp_callSi (va_Run.run (va_runV (As := [.int p1]) (rest := []) ⟨hx, hb, hml, hown, hts⟩ (c_X4_isPresent l G cA o_parcels o_parcels_area o_parcels_firstDay o_parcels_lastDay o_parcels_neighbours o_parcels_parents o_parcels_root p1 v_o_parcels_count g_o_parcels_lastDay _ rfl (bnz hm hz)) (cwV 1 hts gX6_faultOfLien_X4_isPresent rfl rfl rfl (by decide +kernel) ⟨Nat.le_of_ble_eq_true rfl, Nat.le_of_ble_eq_true rfl⟩) (preRV (q := (RX4, TX4, 7)) (hP.sub [1, 2] rfl) hK 0 rfl rfl) rfl rfl hl.1 rfl (lv_room (Nat.le_of_ble_eq_true rfl)) dX6_faultOfLien_40 ⟨Nat.zero_le _, Nat.zero_le _⟩)) (fun r_7 hw => ?_)
        replace hm := bst hm hw.1
        refine lv_if_eq (tgt := 62) hx hb dX6_faultOfLien_43 (by decide) (fun c_8 => ?_) (fun c_8 => ?_)
        · replace hm := it hm c_8
          refine lv_bipush (v := (9 : Int32)) hx hb dX6_faultOfLien_62 (by decide) ?_
          exact hret _ _ _ dX6_faultOfLien_64 rfl hm.symm
        · replace hm := ie hm c_8
          refine lv_aload_n hx hb dX6_faultOfLien_46 rfl (lv_at hl 0 rfl) ?_
          refine va_get (D := G) (ci := 8) (v := .ref o_liens) (C := RX6) (T := TX6) (N := 5) hx hb hts i_X6 hown hK.1 hP 0 rfl rfl 4 (by decide) w_4 (fun _ h9 => h9) rfl dX6_faultOfLien_47 ?_
          refine va_get (D := G) (ci := 5) (v := .int v_o_liens_count) (C := RX3) (T := TX3) (N := 6) hx hb hts i_X3 hown hK.1 hP 3 rfl rfl 0 (by decide) w_5 (fun _ h9 => h9) rfl dX6_faultOfLien_50 ?_
          refine lv_bipush (v := (20 : Int32)) hx hb dX6_faultOfLien_53 (by decide) ?_
          refine lv_icmp_ge (tgt := 62) hx hb dX6_faultOfLien_55 (by decide) (fun c_9 => ?_) (fun c_9 => ?_)
          · replace hm := it hm c_9
            refine lv_bipush (v := (9 : Int32)) hx hb dX6_faultOfLien_62 (by decide) ?_
            exact hret _ _ _ dX6_faultOfLien_64 rfl hm.symm
          · replace hm := ie hm c_9
            refine lv_iconst (v := (0 : Int32)) hx hb dX6_faultOfLien_58 (by decide) ?_
            refine lv_goto (tgt := 64) hx hb dX6_faultOfLien_59 (by decide) ?_
            exact hret _ _ _ dX6_faultOfLien_64 rfl hm.symm
      · replace hm := it hm c_6
        refine lv_bipush (v := (8 : Int32)) hx hb dX6_faultOfLien_32 (by decide) ?_
        exact hret _ _ _ dX6_faultOfLien_34 rfl hm.symm
  · replace hm := it hm c_2
    refine lv_bipush (v := (7 : Int32)) hx hb dX6_faultOfLien_11 (by decide) ?_
    exact hret _ _ _ dX6_faultOfLien_13 rfl hm.symm
def m_X6_faultOfDays (p1 : Int32) (v_o_day : Int32) : Option (Int32) := Option.bind (m_X7_isFrom p1 (0 : Int32) (999 : Int32)) (fun r_1 => (if r_1 = 0 then some (8 : Int32) else (if (9999 : Int32) < (v_o_day + p1) then some (9 : Int32) else some (0 : Int32))))
abbrev k_X6_faultOfDays (cA : Nat → ClassId) (o o_parcels o_deeds o_easements o_liens : Nat) (v_o_day : Int32) : va_W := [(o, .inr (8, [.int v_o_day, .ref o_parcels, .ref o_deeds, .ref o_easements, .ref o_liens]))]
set_option maxHeartbeats 4000000 in
set_option maxRecDepth 100000 in
/-- X6_faultOfDays: as its model -/
theorem c_X6_faultOfDays (l : Launch) (G : va_G) (cA : Nat → ClassId) (o o_parcels o_deeds o_easements o_liens : Nat) (p1 : Int32) (v_o_day : Int32) (R : Option (Int32)) (hR : m_X6_faultOfDays p1 v_o_day = R) (hz : R ≠ none) : Met l yX6_faultOfDays wsX6_faultOfDays ({ frames := 1, cells := 0, slots := 0, locals := 22 } : Room) (va_Pc [.ref o, .int p1] (PR G cA (k_X6_faultOfDays cA o o_parcels o_deeds o_easements o_liens v_o_day))) (vp_Si (fun r => R = some r)) 0 0 (fun _ => False) := by
  refine metR .int (by decide) rfl (Nat.le_of_ble_eq_true rfl) ?_
  intro p e s m av below meth c Q ls hx hb hml hts hown hP hK hl hret
  replace hl : lv_has ls 2 [(0, .ref o), (1, .int p1)] := hl
  have w_0 := hts (.initialized RX7) (by decide +kernel)
  have w_1 := hts (.static yX7_isFrom) (by decide +kernel)
  have w_2 := hts (.fieldLink RX6 9 "ParcelRegistry$World" "day" "I") (by decide +kernel)
  have i_X6 : ∀ w ∈ wsX60, w ∈ wsX6_faultOfDays := by decide +kernel
  have hm := hR
  unfold m_X6_faultOfDays at hm
  refine lv_iload_n hx hb dX6_faultOfDays_0 rfl (lv_at hl 1 rfl) ?_
  refine lv_iconst (v := (0 : Int32)) hx hb dX6_faultOfDays_1 (by decide) ?_
  refine lv_sipush (v := (999 : Int32)) hx hb dX6_faultOfDays_2 (by decide) ?_
  refine vp_callSi (va_Run.run (va_runSN (As := [.int p1, .int (0 : Int32), .int (999 : Int32)]) (rest := []) ⟨hx, hb, hml, hown, hts⟩ (c_X7_isFrom l G cA p1 (0 : Int32) (999 : Int32) _ rfl (bnz hm hz)) ⟨va_cnB (host := "ParcelRegistry") 3 hts gX6_faultOfDays_X7_isFrom_n94 rfl rfl rfl (hK.2 (RX6, 94, yX7_isFrom) (List.mem_of_getElem? (i := 7) rfl)) w_0 (by decide +kernel) ⟨Nat.le_of_ble_eq_true rfl, Nat.le_of_ble_eq_true rfl⟩, w_1, trivial⟩ (preRS (hP.sub [] rfl) hK) rfl rfl hl.1 rfl (lv_room (Nat.le_of_ble_eq_true rfl)) dX6_faultOfDays_5 ⟨Nat.zero_le _, Nat.zero_le _⟩)) (fun r_1 hw => ?_)
  replace hm := bst hm hw.1
  refine lv_if_ne (tgt := 14) hx hb dX6_faultOfDays_8 (by decide) (fun c_2 => ?_) (fun c_2 => ?_)
  · replace hm := ie hm c_2
    refine lv_aload_n hx hb dX6_faultOfDays_14 rfl (lv_at hl 0 rfl) ?_
    refine va_get (D := G) (ci := 8) (v := .int v_o_day) (C := RX6) (T := TX6) (N := 5) hx hb hts i_X6 hown hK.1 hP 0 rfl rfl 0 (by decide) w_2 (fun _ h9 => h9) rfl dX6_faultOfDays_15 ?_
    refine lv_iload_n hx hb dX6_faultOfDays_18 rfl (lv_at hl 1 rfl) ?_
    refine lv_iadd hx hb dX6_faultOfDays_19 ?_
    refine lv_sipush (v := (9999 : Int32)) hx hb dX6_faultOfDays_20 (by decide) ?_
    refine lv_icmp_gt (tgt := 30) hx hb dX6_faultOfDays_23 (by decide) (fun c_3 => ?_) (fun c_3 => ?_)
    · replace hm := it hm c_3
      refine lv_bipush (v := (9 : Int32)) hx hb dX6_faultOfDays_30 (by decide) ?_
      exact hret _ _ _ dX6_faultOfDays_32 rfl hm.symm
    · replace hm := ie hm c_3
      refine lv_iconst (v := (0 : Int32)) hx hb dX6_faultOfDays_26 (by decide) ?_
      refine lv_goto (tgt := 32) hx hb dX6_faultOfDays_27 (by decide) ?_
      exact hret _ _ _ dX6_faultOfDays_32 rfl hm.symm
  · replace hm := it hm c_2
    refine lv_bipush (v := (8 : Int32)) hx hb dX6_faultOfDays_11 (by decide) ?_
    exact hret _ _ _ dX6_faultOfDays_13 rfl hm.symm
def m_X6_allGaps_L4 (v_o_parcels_count : Int32) (g_o_parcels_root : Nat → Int32) (v_o_deeds_count : Int32) (g_o_deeds_parcelOf : Nat → Int32) (g_o_deeds_grantor : Nat → Int32) (g_o_deeds_grantee : Nat → Int32) : ((Int32 × Int32) → Option (Int32)) → (Int32 × Int32) → Option (Int32) := fun rec_3 v => match v with
  | (x_1, x_2) => (if v_o_parcels_count ≤ x_2 then some x_1 else gd (ix x_2 24) (Option.bind (m_X0_gapsOf x_2 (g_o_parcels_root x_2.toNatClampNeg) v_o_deeds_count g_o_deeds_parcelOf g_o_deeds_grantor g_o_deeds_grantee) (fun r_6 => rec_3 (x_1 + r_6, x_2 + (1 : Int32)))))
def m_X6_allGaps (v_o_parcels_count : Int32) (g_o_parcels_root : Nat → Int32) (v_o_deeds_count : Int32) (g_o_deeds_parcelOf : Nat → Int32) (g_o_deeds_grantor : Nat → Int32) (g_o_deeds_grantee : Nat → Int32) : Option (Int32) := fuel (m_X6_allGaps_L4 v_o_parcels_count g_o_parcels_root v_o_deeds_count g_o_deeds_parcelOf g_o_deeds_grantor g_o_deeds_grantee) FU ((0 : Int32), (0 : Int32))
abbrev k_X6_allGaps (cA : Nat → ClassId) (o o_parcels o_deeds o_easements o_liens o_parcels_area o_parcels_firstDay o_parcels_lastDay o_parcels_neighbours o_parcels_parents o_parcels_root o_deeds_parcelOf o_deeds_grantor o_deeds_grantee o_deeds_dayOf o_deeds_most : Nat) (v_o_day : Int32) (v_o_parcels_count : Int32) (g_o_parcels_root : Nat → Int32) (v_o_deeds_count : Int32) (g_o_deeds_parcelOf : Nat → Int32) (g_o_deeds_grantor : Nat → Int32) (g_o_deeds_grantee : Nat → Int32) : va_W := [(o, .inr (8, [.int v_o_day, .ref o_parcels, .ref o_deeds, .ref o_easements, .ref o_liens])), (o_parcels, .inr (6, [.int v_o_parcels_count, .ref o_parcels_area, .ref o_parcels_firstDay, .ref o_parcels_lastDay, .ref o_parcels_neighbours, .ref o_parcels_parents, .ref o_parcels_root])), (o_parcels_root, .inl (cA 0, 24, .inl g_o_parcels_root)), (o_deeds, .inr (2, [.int v_o_deeds_count, .ref o_deeds_parcelOf, .ref o_deeds_grantor, .ref o_deeds_grantee, .ref o_deeds_dayOf, .ref o_deeds_most])), (o_deeds_parcelOf, .inl (cA 0, 60, .inl g_o_deeds_parcelOf)), (o_deeds_grantor, .inl (cA 0, 60, .inl g_o_deeds_grantor)), (o_deeds_grantee, .inl (cA 0, 60, .inl g_o_deeds_grantee))]
set_option maxHeartbeats 4000000 in
set_option maxRecDepth 100000 in
/-- X6_allGaps: as its model -/
theorem c_X6_allGaps (l : Launch) (G : va_G) (cA : Nat → ClassId) (o o_parcels o_deeds o_easements o_liens o_parcels_area o_parcels_firstDay o_parcels_lastDay o_parcels_neighbours o_parcels_parents o_parcels_root o_deeds_parcelOf o_deeds_grantor o_deeds_grantee o_deeds_dayOf o_deeds_most : Nat) (v_o_day : Int32) (v_o_parcels_count : Int32) (g_o_parcels_root : Nat → Int32) (v_o_deeds_count : Int32) (g_o_deeds_parcelOf : Nat → Int32) (g_o_deeds_grantor : Nat → Int32) (g_o_deeds_grantee : Nat → Int32) (R : Option (Int32)) (hR : m_X6_allGaps v_o_parcels_count g_o_parcels_root v_o_deeds_count g_o_deeds_parcelOf g_o_deeds_grantor g_o_deeds_grantee = R) (hz : R ≠ none) : Met l yX6_allGaps wsX6_allGaps ({ frames := 1, cells := 0, slots := 0, locals := 25 } : Room) (va_Pc [.ref o] (PR G cA (k_X6_allGaps cA o o_parcels o_deeds o_easements o_liens o_parcels_area o_parcels_firstDay o_parcels_lastDay o_parcels_neighbours o_parcels_parents o_parcels_root o_deeds_parcelOf o_deeds_grantor o_deeds_grantee o_deeds_dayOf o_deeds_most v_o_day v_o_parcels_count g_o_parcels_root v_o_deeds_count g_o_deeds_parcelOf g_o_deeds_grantor g_o_deeds_grantee))) (vp_Si (fun r => R = some r)) 0 0 (fun _ => False) := by
  refine metR .int (by decide) rfl (Nat.le_of_ble_eq_true rfl) ?_
  intro p e s m av below meth c Q ls hx hb hml hts hown hP hK hl hret
  replace hl : lv_has ls 3 [(0, .ref o)] := hl
  have w_0 := hts (.fieldLink RX6 18 "ParcelRegistry$World" "parcels" "LParcelRegistry$Parcels;") (by decide +kernel)
  have w_1 := hts (.fieldLink RX6 56 "ParcelRegistry$Parcels" "count" "I") (by decide +kernel)
  have w_2 := hts (.fieldLink RX6 25 "ParcelRegistry$World" "deeds" "LParcelRegistry$Deeds;") (by decide +kernel)
  have w_3 := hts (.fieldLink RX6 69 "ParcelRegistry$Parcels" "root" "[I") (by decide +kernel)
  have i_X4 : ∀ w ∈ wsX40, w ∈ wsX6_allGaps := by decide +kernel
  have i_X6 : ∀ w ∈ wsX60, w ∈ wsX6_allGaps := by decide +kernel
  have hm := hR
  unfold m_X6_allGaps at hm
  refine lv_iconst (v := (0 : Int32)) hx hb dX6_allGaps_0 (by decide) ?_
  refine lv_istore_n (lv' := [(1, .int (0 : Int32)), (0, .ref o)]) hx hb dX6_allGaps_1 rfl hl (by decide) rfl (fun ls hl => ?_)
  refine lv_iconst (v := (0 : Int32)) hx hb dX6_allGaps_2 (by decide) ?_
  refine lv_istore_n (lv' := [(2, .int (0 : Int32)), (1, .int (0 : Int32)), (0, .ref o)]) hx hb dX6_allGaps_3 rfl hl (by decide) rfl (fun ls hl => ?_)
  have L4_1 : ∀ (n : Nat), ∀ (x_1 : Int32) (x_2 : Int32), ∀ (ls : Array Slot), fuel (m_X6_allGaps_L4 v_o_parcels_count g_o_parcels_root v_o_deeds_count g_o_deeds_parcelOf g_o_deeds_grantor g_o_deeds_grantee) n (x_1, x_2) = R → lv_has ls 3 [(0, .ref o), (1, .int x_1), (2, .int x_2)] → W p l e ({ frames := 1, cells := 0, slots := 0, locals := 25 } : Room) s m av below meth c s.heap [] 0 0 Q (F0 m 4 ls []) := by
    intro n
    induction n with
    | zero =>
      intro x_1 x_2 ls hm hl
      exact (fu0 hm hz).elim
    | succ n ih4 =>
      intro x_1 x_2 ls hm hl
      replace hm := fus hm
      generalize fuel (m_X6_allGaps_L4 v_o_parcels_count g_o_parcels_root v_o_deeds_count g_o_deeds_parcelOf g_o_deeds_grantor g_o_deeds_grantee) n = rec_3 at hm ih4
      unfold m_X6_allGaps_L4 at hm
      refine lv_iload_n hx hb dX6_allGaps_4 rfl (lv_at hl 2 rfl) ?_
      refine lv_aload_n hx hb dX6_allGaps_5 rfl (lv_at hl 0 rfl) ?_
      refine va_get (D := G) (ci := 8) (v := .ref o_parcels) (C := RX6) (T := TX6) (N := 5) hx hb hts i_X6 hown hK.1 hP 0 rfl rfl 1 (by decide) w_0 (fun _ h9 => h9) rfl dX6_allGaps_6 ?_
      refine va_get (D := G) (ci := 6) (v := .int v_o_parcels_count) (C := RX4) (T := TX4) (N := 7) hx hb hts i_X4 hown hK.1 hP 1 rfl rfl 0 (by decide) w_1 (fun _ h9 => h9) rfl dX6_allGaps_9 ?_
      refine lv_icmp_ge (tgt := 41) hx hb dX6_allGaps_12 (by decide) (fun c_4 => ?_) (fun c_4 => ?_)
      · replace hm := it hm c_4
        refine lv_iload_n hx hb dX6_allGaps_41 rfl (lv_at hl 1 rfl) ?_
        exact hret _ _ _ dX6_allGaps_42 rfl hm.symm
      · replace hm := ie hm c_4
        refine lv_iload_n hx hb dX6_allGaps_15 rfl (lv_at hl 1 rfl) ?_
        refine lv_aload_n hx hb dX6_allGaps_16 rfl (lv_at hl 0 rfl) ?_
        refine va_get (D := G) (ci := 8) (v := .ref o_deeds) (C := RX6) (T := TX6) (N := 5) hx hb hts i_X6 hown hK.1 hP 0 rfl rfl 2 (by decide) w_2 (fun _ h9 => h9) rfl dX6_allGaps_17 ?_
        refine lv_iload_n hx hb dX6_allGaps_20 rfl (lv_at hl 2 rfl) ?_
        refine lv_aload_n hx hb dX6_allGaps_21 rfl (lv_at hl 0 rfl) ?_
        refine va_get (D := G) (ci := 8) (v := .ref o_parcels) (C := RX6) (T := TX6) (N := 5) hx hb hts i_X6 hown hK.1 hP 0 rfl rfl 1 (by decide) w_0 (fun _ h9 => h9) rfl dX6_allGaps_22 ?_
        refine va_get (D := G) (ci := 6) (v := .ref o_parcels_root) (C := RX4) (T := TX4) (N := 7) hx hb hts i_X4 hown hK.1 hP 1 rfl rfl 6 (by decide) w_3 (fun _ h9 => h9) rfl dX6_allGaps_25 ?_
        refine lv_iload_n hx hb dX6_allGaps_28 rfl (lv_at hl 2 rfl) ?_
        replace hm := gdo hm hz
        obtain ⟨gi_5, hm⟩ := hm
        refine va_iald hx hb hK.1 hP 2 0 (cA := cA 0) (n := 24) (f := g_o_parcels_root) rfl rfl (ixi gi_5) dX6_allGaps_29 ?_
        refine vp_callSi (va_Run.run (va_runV (As := [.int x_2, .int (g_o_parcels_root x_2.toNatClampNeg)]) (rest := [.int x_1]) ⟨hx, hb, hml, hown, hts⟩ (c_X0_gapsOf l G cA o_deeds o_deeds_parcelOf o_deeds_grantor o_deeds_grantee o_deeds_dayOf o_deeds_most x_2 (g_o_parcels_root x_2.toNatClampNeg) v_o_deeds_count g_o_deeds_parcelOf g_o_deeds_grantor g_o_deeds_grantee _ rfl (bnz hm hz)) (cwV 2 hts gX6_allGaps_X0_gapsOf rfl rfl rfl (by decide +kernel) ⟨Nat.le_of_ble_eq_true rfl, Nat.le_of_ble_eq_true rfl⟩) (preRV (q := (RX0, TX0, 6)) (hP.sub [3, 4, 5, 6] rfl) hK 0 rfl rfl) rfl rfl hl.1 rfl (lv_room (Nat.le_of_ble_eq_true rfl)) dX6_allGaps_30 ⟨Nat.zero_le _, Nat.zero_le _⟩)) (fun r_6 hw => ?_)
        replace hm := bst hm hw
        refine lv_iadd hx hb dX6_allGaps_33 ?_
        refine lv_istore_n (lv' := [(1, .int (x_1 + r_6)), (0, .ref o), (2, .int x_2)]) hx hb dX6_allGaps_34 rfl hl (by decide) rfl (fun ls hl => ?_)
        refine lv_iinc (v := x_2 + (1 : Int32)) (lv' := [(2, .int (x_2 + (1 : Int32))), (1, .int (x_1 + r_6)), (0, .ref o)]) hx hb dX6_allGaps_35 hl (k := 2) rfl rfl (by decide) rfl (fun ls hl => ?_)
        refine lv_goto (tgt := 4) hx hb dX6_allGaps_38 (by decide) ?_
        exact ih4 (x_1 + r_6) (x_2 + (1 : Int32)) _ hm (lv_sub hl [2, 1, 0] rfl)
  exact L4_1 _ (0 : Int32) (0 : Int32) _ hm (lv_sub hl [2, 1, 0] rfl)
