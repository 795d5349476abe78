/-! deeds: models and walks, by program. -/
def m_X0_copyFrom (g_o_parcelOf : Nat → Int32) (g_o_grantor : Nat → Int32) (g_o_grantee : Nat → Int32) (g_o_dayOf : Nat → Int32) (v_q1_count : Int32) (g_q1_parcelOf : Nat → Int32) (g_q1_grantor : Nat → Int32) (g_q1_grantee : Nat → Int32) (g_q1_dayOf : Nat → Int32) : Option (Int32 × (Nat → Int32) × (Nat → Int32) × (Nat → Int32) × (Nat → Int32)) := some (v_q1_count, va_cpy g_q1_parcelOf g_o_parcelOf 0 0 60, va_cpy g_q1_grantor g_o_grantor 0 0 60, va_cpy g_q1_grantee g_o_grantee 0 0 60, va_cpy g_q1_dayOf g_o_dayOf 0 0 60)
abbrev k_X0_copyFrom (cA : Nat → ClassId) (o o_parcelOf o_grantor o_grantee o_dayOf o_most q1 q1_parcelOf q1_grantor q1_grantee q1_dayOf q1_most : Nat) (v_o_count : Int32) (g_o_parcelOf : Nat → Int32) (g_o_grantor : Nat → Int32) (g_o_grantee : Nat → Int32) (g_o_dayOf : Nat → Int32) (v_q1_count : Int32) (g_q1_parcelOf : Nat → Int32) (g_q1_grantor : Nat → Int32) (g_q1_grantee : Nat → Int32) (g_q1_dayOf : Nat → Int32) : va_W := [(o, .inr (2, [.int v_o_count, .ref o_parcelOf, .ref o_grantor, .ref o_grantee, .ref o_dayOf, .ref o_most])), (o_parcelOf, .inl (cA 0, 60, .inl g_o_parcelOf)), (o_grantor, .inl (cA 0, 60, .inl g_o_grantor)), (o_grantee, .inl (cA 0, 60, .inl g_o_grantee)), (o_dayOf, .inl (cA 0, 60, .inl g_o_dayOf)), (q1, .inr (2, [.int v_q1_count, .ref q1_parcelOf, .ref q1_grantor, .ref q1_grantee, .ref q1_dayOf, .ref q1_most])), (q1_parcelOf, .inl (cA 0, 60, .inl g_q1_parcelOf)), (q1_grantor, .inl (cA 0, 60, .inl g_q1_grantor)), (q1_grantee, .inl (cA 0, 60, .inl g_q1_grantee)), (q1_dayOf, .inl (cA 0, 60, .inl g_q1_dayOf))]
set_option maxHeartbeats 4000000 in
set_option maxRecDepth 100000 in
/-- X0_copyFrom: as its model -/
theorem c_X0_copyFrom (l : Launch) (G : va_G) (cA : Nat → ClassId) (o o_parcelOf o_grantor o_grantee o_dayOf o_most q1 q1_parcelOf q1_grantor q1_grantee q1_dayOf q1_most : Nat) (sz : Nat) (v_o_count : Int32) (g_o_parcelOf : Nat → Int32) (g_o_grantor : Nat → Int32) (g_o_grantee : Nat → Int32) (g_o_dayOf : Nat → Int32) (v_q1_count : Int32) (g_q1_parcelOf : Nat → Int32) (g_q1_grantor : Nat → Int32) (g_q1_grantee : Nat → Int32) (g_q1_dayOf : Nat → Int32) (R : Option (Int32 × (Nat → Int32) × (Nat → Int32) × (Nat → Int32) × (Nat → Int32))) (hR : m_X0_copyFrom g_o_parcelOf g_o_grantor g_o_grantee g_o_dayOf v_q1_count g_q1_parcelOf g_q1_grantor g_q1_grantee g_q1_dayOf = R) (hz : R ≠ none) : Met l yX0_copyFrom wsX0_copyFrom ({ frames := 1, cells := 0, slots := 0, locals := 40 } : Room) (va_Pc [.ref o, .ref q1] (PM G cA (k_X0_copyFrom cA o o_parcelOf o_grantor o_grantee o_dayOf o_most q1 q1_parcelOf q1_grantor q1_grantee q1_dayOf q1_most v_o_count g_o_parcelOf g_o_grantor g_o_grantee g_o_dayOf v_q1_count g_q1_parcelOf g_q1_grantor g_q1_grantee g_q1_dayOf) sz)) (va_Qv (fun (u : Int32 × (Nat → Int32) × (Nat → Int32) × (Nat → Int32) × (Nat → Int32)) => R = some u) (BM G (fun (u : Int32 × (Nat → Int32) × (Nat → Int32) × (Nat → Int32) × (Nat → Int32)) => (k_X0_copyFrom cA o o_parcelOf o_grantor o_grantee o_dayOf o_most q1 q1_parcelOf q1_grantor q1_grantee q1_dayOf q1_most u.1 u.2.1 u.2.2.1 u.2.2.2.1 u.2.2.2.2 v_q1_count g_q1_parcelOf g_q1_grantor g_q1_grantee g_q1_dayOf))) (va_A (k_X0_copyFrom cA o o_parcelOf o_grantor o_grantee o_dayOf o_most q1 q1_parcelOf q1_grantor q1_grantee q1_dayOf q1_most v_o_count g_o_parcelOf g_o_grantor g_o_grantee g_o_dayOf v_q1_count g_q1_parcelOf g_q1_grantor g_q1_grantee g_q1_dayOf) sz)) 0 0 (va_A (k_X0_copyFrom cA o o_parcelOf o_grantor o_grantee o_dayOf o_most q1 q1_parcelOf q1_grantor q1_grantee q1_dayOf q1_most v_o_count g_o_parcelOf g_o_grantor g_o_grantee g_o_dayOf v_q1_count g_q1_parcelOf g_q1_grantor g_q1_grantee g_q1_dayOf) sz) := by
  refine metV (by decide) rfl (Nat.le_of_ble_eq_true rfl) ?_
  intro p e s m av below meth c Q ls A H hx hb hml hts hown hP hK hD hA hS hl hret
  replace hl : lv_has ls 2 [(0, .ref o), (1, .ref q1)] := hl
  have w_0 := hts (.fieldLink RX0 9 "ParcelRegistry$Deeds" "count" "I") (by decide +kernel)
  have w_1 := hts (.fieldLink RX0 15 "ParcelRegistry$Deeds" "parcelOf" "[I") (by decide +kernel)
  have w_2 := hts (.methodLink RX0 31 arraycopyName) (by decide +kernel)
  have w_3 := hts (.native arraycopyName) (by decide +kernel)
  have w_4 := hts (.static arraycopyName) (by decide +kernel)
  have w_5 := hts (.initialized "java/lang/System") (by decide +kernel)
  have w_6 := hts (.fieldLink RX0 19 "ParcelRegistry$Deeds" "grantor" "[I") (by decide +kernel)
  have w_7 := hts (.fieldLink RX0 22 "ParcelRegistry$Deeds" "grantee" "[I") (by decide +kernel)
  have w_8 := hts (.fieldLink RX0 25 "ParcelRegistry$Deeds" "dayOf" "[I") (by decide +kernel)
  have i_X0 : ∀ w ∈ wsX00, w ∈ wsX0_copyFrom := by decide +kernel
  have hm := hR
  unfold m_X0_copyFrom at hm
  refine lv_aload_n hx hb dX0_copyFrom_0 rfl (lv_at hl 0 rfl) ?_
  refine lv_aload_n hx hb dX0_copyFrom_1 rfl (lv_at hl 1 rfl) ?_
  refine va_get (D := G) (ci := 2) (v := .int v_q1_count) (C := RX0) (T := TX0) (N := 6) hx hb hts i_X0 hown hK.1 hP 5 rfl rfl 0 (by decide) w_0 (fun _ h9 => h9) rfl dX0_copyFrom_2 ?_
  refine va_put (D := G) (ci := 2) (v := .int v_q1_count) (ty := .int) (C := RX0) (T := TX0) (N := 6) hx hb hts i_X0 tyX0 tyX0_ok nmX0 hown hK.1 hP hD hS 0 rfl rfl 0 (by decide) w_0 (fun _ h9 => h9) rfl (by decide +kernel) rfl rfl (Nat.le_of_ble_eq_true rfl) dX0_copyFrom_5 (fun H locs hP' hD' hS' => ?_)
  replace hP : va_P G vwCl (k_X0_copyFrom cA o o_parcelOf o_grantor o_grantee o_dayOf o_most q1 q1_parcelOf q1_grantor q1_grantee q1_dayOf q1_most v_q1_count g_o_parcelOf g_o_grantor g_o_grantee g_o_dayOf v_q1_count g_q1_parcelOf g_q1_grantor g_q1_grantee g_q1_dayOf) H := hP'
  replace hD : va_D A (k_X0_copyFrom cA o o_parcelOf o_grantor o_grantee o_dayOf o_most q1 q1_parcelOf q1_grantor q1_grantee q1_dayOf q1_most v_q1_count g_o_parcelOf g_o_grantor g_o_grantee g_o_dayOf v_q1_count g_q1_parcelOf g_q1_grantor g_q1_grantee g_q1_dayOf) := hD'
  replace hS := hS'
  refine lv_aload_n hx hb dX0_copyFrom_8 rfl (lv_at hl 1 rfl) ?_
  refine va_get (D := G) (ci := 2) (v := .ref q1_parcelOf) (C := RX0) (T := TX0) (N := 6) hx hb hts i_X0 hown hK.1 hP 5 rfl rfl 1 (by decide) w_1 (fun _ h9 => h9) rfl dX0_copyFrom_9 ?_
  refine lv_iconst (v := (0 : Int32)) hx hb dX0_copyFrom_12 (by decide) ?_
  refine lv_aload_n hx hb dX0_copyFrom_13 rfl (lv_at hl 0 rfl) ?_
  refine va_get (D := G) (ci := 2) (v := .ref o_parcelOf) (C := RX0) (T := TX0) (N := 6) hx hb hts i_X0 hown hK.1 hP 0 rfl rfl 1 (by decide) w_1 (fun _ h9 => h9) rfl dX0_copyFrom_14 ?_
  refine lv_iconst (v := (0 : Int32)) hx hb dX0_copyFrom_17 (by decide) ?_
  refine lv_bipush (v := (60 : Int32)) hx hb dX0_copyFrom_18 (by decide) ?_
  refine va_copyi hx hb (hml.trans hl.1.symm) hown w_2 w_3 w_4 w_5 hK.1 hP hD hS 6 1 0 0 (c0 := cA 0) (c1 := cA 0) (n0 := 60) (n1 := 60) (f := g_q1_parcelOf) (g := g_o_parcelOf) (ty := .int) rfl rfl rfl rfl rfl (by decide) (by decide) (by decide) (by decide) (by decide) (fun _ _ => rfl) (Nat.le_of_ble_eq_true rfl) (Nat.le_of_ble_eq_true rfl) dX0_copyFrom_20 (fun H locs hP' hD' hS' => ?_)
  replace hP : va_P G vwCl (k_X0_copyFrom cA o o_parcelOf o_grantor o_grantee o_dayOf o_most q1 q1_parcelOf q1_grantor q1_grantee q1_dayOf q1_most v_q1_count (va_cpy g_q1_parcelOf g_o_parcelOf 0 0 60) g_o_grantor g_o_grantee g_o_dayOf v_q1_count g_q1_parcelOf g_q1_grantor g_q1_grantee g_q1_dayOf) H := hP'
  replace hD : va_D A (k_X0_copyFrom cA o o_parcelOf o_grantor o_grantee o_dayOf o_most q1 q1_parcelOf q1_grantor q1_grantee q1_dayOf q1_most v_q1_count (va_cpy g_q1_parcelOf g_o_parcelOf 0 0 60) g_o_grantor g_o_grantee g_o_dayOf v_q1_count g_q1_parcelOf g_q1_grantor g_q1_grantee g_q1_dayOf) := hD'
  replace hS := hS'
  refine lv_aload_n hx hb dX0_copyFrom_23 rfl (lv_at hl 1 rfl) ?_
  refine va_get (D := G) (ci := 2) (v := .ref q1_grantor) (C := RX0) (T := TX0) (N := 6) hx hb hts i_X0 hown hK.1 hP 5 rfl rfl 2 (by decide) w_6 (fun _ h9 => h9) rfl dX0_copyFrom_24 ?_
  refine lv_iconst (v := (0 : Int32)) hx hb dX0_copyFrom_27 (by decide) ?_
  refine lv_aload_n hx hb dX0_copyFrom_28 rfl (lv_at hl 0 rfl) ?_
  refine va_get (D := G) (ci := 2) (v := .ref o_grantor) (C := RX0) (T := TX0) (N := 6) hx hb hts i_X0 hown hK.1 hP 0 rfl rfl 2 (by decide) w_6 (fun _ h9 => h9) rfl dX0_copyFrom_29 ?_
  refine lv_iconst (v := (0 : Int32)) hx hb dX0_copyFrom_32 (by decide) ?_
  refine lv_bipush (v := (60 : Int32)) hx hb dX0_copyFrom_33 (by decide) ?_
  refine va_copyi hx hb (hml.trans hl.1.symm) hown w_2 w_3 w_4 w_5 hK.1 hP hD hS 7 2 0 0 (c0 := cA 0) (c1 := cA 0) (n0 := 60) (n1 := 60) (f := g_q1_grantor) (g := g_o_grantor) (ty := .int) rfl rfl rfl rfl rfl (by decide) (by decide) (by decide) (by decide) (by decide) (fun _ _ => rfl) (Nat.le_of_ble_eq_true rfl) (Nat.le_of_ble_eq_true rfl) dX0_copyFrom_35 (fun H locs hP' hD' hS' => ?_)
  replace hP : va_P G vwCl (k_X0_copyFrom cA o o_parcelOf o_grantor o_grantee o_dayOf o_most q1 q1_parcelOf q1_grantor q1_grantee q1_dayOf q1_most v_q1_count (va_cpy g_q1_parcelOf g_o_parcelOf 0 0 60) (va_cpy g_q1_grantor g_o_grantor 0 0 60) g_o_grantee g_o_dayOf v_q1_count g_q1_parcelOf g_q1_grantor g_q1_grantee g_q1_dayOf) H := hP'
  replace hD : va_D A (k_X0_copyFrom cA o o_parcelOf o_grantor o_grantee o_dayOf o_most q1 q1_parcelOf q1_grantor q1_grantee q1_dayOf q1_most v_q1_count (va_cpy g_q1_parcelOf g_o_parcelOf 0 0 60) (va_cpy g_q1_grantor g_o_grantor 0 0 60) g_o_grantee g_o_dayOf v_q1_count g_q1_parcelOf g_q1_grantor g_q1_grantee g_q1_dayOf) := hD'
  replace hS := hS'
  refine lv_aload_n hx hb dX0_copyFrom_38 rfl (lv_at hl 1 rfl) ?_
  refine va_get (D := G) (ci := 2) (v := .ref q1_grantee) (C := RX0) (T := TX0) (N := 6) hx hb hts i_X0 hown hK.1 hP 5 rfl rfl 3 (by decide) w_7 (fun _ h9 => h9) rfl dX0_copyFrom_39 ?_
  refine lv_iconst (v := (0 : Int32)) hx hb dX0_copyFrom_42 (by decide) ?_
  refine lv_aload_n hx hb dX0_copyFrom_43 rfl (lv_at hl 0 rfl) ?_
  refine va_get (D := G) (ci := 2) (v := .ref o_grantee) (C := RX0) (T := TX0) (N := 6) hx hb hts i_X0 hown hK.1 hP 0 rfl rfl 3 (by decide) w_7 (fun _ h9 => h9) rfl dX0_copyFrom_44 ?_
  refine lv_iconst (v := (0 : Int32)) hx hb dX0_copyFrom_47 (by decide) ?_
  refine lv_bipush (v := (60 : Int32)) hx hb dX0_copyFrom_48 (by decide) ?_
  refine va_copyi hx hb (hml.trans hl.1.symm) hown w_2 w_3 w_4 w_5 hK.1 hP hD hS 8 3 0 0 (c0 := cA 0) (c1 := cA 0) (n0 := 60) (n1 := 60) (f := g_q1_grantee) (g := g_o_grantee) (ty := .int) rfl rfl rfl rfl rfl (by decide) (by decide) (by decide) (by decide) (by decide) (fun _ _ => rfl) (Nat.le_of_ble_eq_true rfl) (Nat.le_of_ble_eq_true rfl) dX0_copyFrom_50 (fun H locs hP' hD' hS' => ?_)
  replace hP : va_P G vwCl (k_X0_copyFrom cA o o_parcelOf o_grantor o_grantee o_dayOf o_most q1 q1_parcelOf q1_grantor q1_grantee q1_dayOf q1_most v_q1_count (va_cpy g_q1_parcelOf g_o_parcelOf 0 0 60) (va_cpy g_q1_grantor g_o_grantor 0 0 60) (va_cpy g_q1_grantee g_o_grantee 0 0 60) g_o_dayOf v_q1_count g_q1_parcelOf g_q1_grantor g_q1_grantee g_q1_dayOf) H := hP'
  replace hD : va_D A (k_X0_copyFrom cA o o_parcelOf o_grantor o_grantee o_dayOf o_most q1 q1_parcelOf q1_grantor q1_grantee q1_dayOf q1_most v_q1_count (va_cpy g_q1_parcelOf g_o_parcelOf 0 0 60) (va_cpy g_q1_grantor g_o_grantor 0 0 60) (va_cpy g_q1_grantee g_o_grantee 0 0 60) g_o_dayOf v_q1_count g_q1_parcelOf g_q1_grantor g_q1_grantee g_q1_dayOf) := hD'
  replace hS := hS'
  refine lv_aload_n hx hb dX0_copyFrom_53 rfl (lv_at hl 1 rfl) ?_
  refine va_get (D := G) (ci := 2) (v := .ref q1_dayOf) (C := RX0) (T := TX0) (N := 6) hx hb hts i_X0 hown hK.1 hP 5 rfl rfl 4 (by decide) w_8 (fun _ h9 => h9) rfl dX0_copyFrom_54 ?_
  refine lv_iconst (v := (0 : Int32)) hx hb dX0_copyFrom_57 (by decide) ?_
  refine lv_aload_n hx hb dX0_copyFrom_58 rfl (lv_at hl 0 rfl) ?_
  refine va_get (D := G) (ci := 2) (v := .ref o_dayOf) (C := RX0) (T := TX0) (N := 6) hx hb hts i_X0 hown hK.1 hP 0 rfl rfl 4 (by decide) w_8 (fun _ h9 => h9) rfl dX0_copyFrom_59 ?_
  refine lv_iconst (v := (0 : Int32)) hx hb dX0_copyFrom_62 (by decide) ?_
  refine lv_bipush (v := (60 : Int32)) hx hb dX0_copyFrom_63 (by decide) ?_
  refine va_copyi hx hb (hml.trans hl.1.symm) hown w_2 w_3 w_4 w_5 hK.1 hP hD hS 9 4 0 0 (c0 := cA 0) (c1 := cA 0) (n0 := 60) (n1 := 60) (f := g_q1_dayOf) (g := g_o_dayOf) (ty := .int) rfl rfl rfl rfl rfl (by decide) (by decide) (by decide) (by decide) (by decide) (fun _ _ => rfl) (Nat.le_of_ble_eq_true rfl) (Nat.le_of_ble_eq_true rfl) dX0_copyFrom_65 (fun H locs hP' hD' hS' => ?_)
  replace hP : va_P G vwCl (k_X0_copyFrom cA o o_parcelOf o_grantor o_grantee o_dayOf o_most q1 q1_parcelOf q1_grantor q1_grantee q1_dayOf q1_most v_q1_count (va_cpy g_q1_parcelOf g_o_parcelOf 0 0 60) (va_cpy g_q1_grantor g_o_grantor 0 0 60) (va_cpy g_q1_grantee g_o_grantee 0 0 60) (va_cpy g_q1_dayOf g_o_dayOf 0 0 60) v_q1_count g_q1_parcelOf g_q1_grantor g_q1_grantee g_q1_dayOf) H := hP'
  replace hD : va_D A (k_X0_copyFrom cA o o_parcelOf o_grantor o_grantee o_dayOf o_most q1 q1_parcelOf q1_grantor q1_grantee q1_dayOf q1_most v_q1_count (va_cpy g_q1_parcelOf g_o_parcelOf 0 0 60) (va_cpy g_q1_grantor g_o_grantor 0 0 60) (va_cpy g_q1_grantee g_o_grantee 0 0 60) (va_cpy g_q1_dayOf g_o_dayOf 0 0 60) v_q1_count g_q1_parcelOf g_q1_grantor g_q1_grantee g_q1_dayOf) := hD'
  replace hS := hS'
  exact hret _ _ (v_q1_count, va_cpy g_q1_parcelOf g_o_parcelOf 0 0 60, va_cpy g_q1_grantor g_o_grantor 0 0 60, va_cpy g_q1_grantee g_o_grantee 0 0 60, va_cpy g_q1_dayOf g_o_dayOf 0 0 60) _ _ dX0_copyFrom_68 hP hS hm.symm
def m_X0_rowsUpTo_L4 (v_o_count : Int32) (g_o_dayOf : Nat → Int32) (p1 : Int32) : ((Int32 × Int32) → Option (Int32)) → (Int32 × Int32) → Option (Int32) := fun rec_3 v => match v with
  | (x_1, x_2) => (if v_o_count ≤ x_2 then some x_1 else gd (ix x_2 60) ((if p1 < (g_o_dayOf x_2.toNatClampNeg) then rec_3 (x_1, x_2 + (1 : Int32)) else rec_3 (x_1 + (1 : Int32), x_2 + (1 : Int32)))))
def m_X0_rowsUpTo (p1 : Int32) (v_o_count : Int32) (g_o_dayOf : Nat → Int32) : Option (Int32) := fuel (m_X0_rowsUpTo_L4 v_o_count g_o_dayOf p1) FU ((0 : Int32), (0 : Int32))
abbrev k_X0_rowsUpTo (cA : Nat → ClassId) (o o_parcelOf o_grantor o_grantee o_dayOf o_most : Nat) (v_o_count : Int32) (g_o_dayOf : Nat → Int32) : va_W := [(o, .inr (2, [.int v_o_count, .ref o_parcelOf, .ref o_grantor, .ref o_grantee, .ref o_dayOf, .ref o_most])), (o_dayOf, .inl (cA 0, 60, .inl g_o_dayOf))]
set_option maxHeartbeats 4000000 in
set_option maxRecDepth 100000 in
/-- X0_rowsUpTo: as its model -/
theorem c_X0_rowsUpTo (l : Launch) (G : va_G) (cA : Nat → ClassId) (o o_parcelOf o_grantor o_grantee o_dayOf o_most : Nat) (p1 : Int32) (v_o_count : Int32) (g_o_dayOf : Nat → Int32) (R : Option (Int32)) (hR : m_X0_rowsUpTo p1 v_o_count g_o_dayOf = R) (hz : R ≠ none) : Met l yX0_rowsUpTo wsX0_rowsUpTo ({ frames := 0, cells := 0, slots := 0, locals := 0 } : Room) (va_Pc [.ref o, .int p1] (PR G cA (k_X0_rowsUpTo cA o o_parcelOf o_grantor o_grantee o_dayOf o_most v_o_count g_o_dayOf))) (vp_Si (fun r => R = some r)) 0 0 (fun _ => False) := by
  refine metR .int (by decide) rfl (Nat.le_of_ble_eq_true rfl) ?_
  intro p e s m av below meth c Q ls hx hb hml hts hown hP hK hl hret
  replace hl : lv_has ls 4 [(0, .ref o), (1, .int p1)] := hl
  have w_0 := hts (.fieldLink RX0 9 "ParcelRegistry$Deeds" "count" "I") (by decide +kernel)
  have w_1 := hts (.fieldLink RX0 25 "ParcelRegistry$Deeds" "dayOf" "[I") (by decide +kernel)
  have i_X0 : ∀ w ∈ wsX00, w ∈ wsX0_rowsUpTo := by decide +kernel
  have hm := hR
  unfold m_X0_rowsUpTo at hm
  refine lv_iconst (v := (0 : Int32)) hx hb dX0_rowsUpTo_0 (by decide) ?_
  refine lv_istore_n (lv' := [(2, .int (0 : Int32)), (0, .ref o), (1, .int p1)]) hx hb dX0_rowsUpTo_1 rfl hl (by decide) rfl (fun ls hl => ?_)
  refine lv_iconst (v := (0 : Int32)) hx hb dX0_rowsUpTo_2 (by decide) ?_
  refine lv_istore_n (lv' := [(3, .int (0 : Int32)), (2, .int (0 : Int32)), (0, .ref o), (1, .int p1)]) hx hb dX0_rowsUpTo_3 rfl hl (by decide) rfl (fun ls hl => ?_)
  have L4_1 : ∀ (n : Nat), ∀ (x_1 : Int32) (x_2 : Int32), ∀ (ls : Array Slot), fuel (m_X0_rowsUpTo_L4 v_o_count g_o_dayOf p1) n (x_1, x_2) = R → lv_has ls 4 [(0, .ref o), (1, .int p1), (2, .int x_1), (3, .int x_2)] → W p l e ({ frames := 0, cells := 0, slots := 0, locals := 0 } : Room) s m av below meth c s.heap [] 0 0 Q (F0 m 4 ls []) := by
    intro n
    induction n with
    | zero =>
      intro x_1 x_2 ls hm hl
      exact (fu0 hm hz).elim
    | succ n ih4 =>
      intro x_1 x_2 ls hm hl
      replace hm := fus hm
      generalize fuel (m_X0_rowsUpTo_L4 v_o_count g_o_dayOf p1) n = rec_3 at hm ih4
      unfold m_X0_rowsUpTo_L4 at hm
      refine lv_iload_n hx hb dX0_rowsUpTo_4 rfl (lv_at hl 3 rfl) ?_
      refine lv_aload_n hx hb dX0_rowsUpTo_5 rfl (lv_at hl 0 rfl) ?_
      refine va_get (D := G) (ci := 2) (v := .int v_o_count) (C := RX0) (T := TX0) (N := 6) hx hb hts i_X0 hown hK.1 hP 0 rfl rfl 0 (by decide) w_0 (fun _ h9 => h9) rfl dX0_rowsUpTo_6 ?_
      refine lv_icmp_ge (tgt := 31) hx hb dX0_rowsUpTo_9 (by decide) (fun c_4 => ?_) (fun c_4 => ?_)
      · replace hm := it hm c_4
        refine lv_iload_n hx hb dX0_rowsUpTo_31 rfl (lv_at hl 2 rfl) ?_
        exact hret _ _ _ dX0_rowsUpTo_32 rfl hm.symm
      · replace hm := ie hm c_4
        refine lv_aload_n hx hb dX0_rowsUpTo_12 rfl (lv_at hl 0 rfl) ?_
        refine va_get (D := G) (ci := 2) (v := .ref o_dayOf) (C := RX0) (T := TX0) (N := 6) hx hb hts i_X0 hown hK.1 hP 0 rfl rfl 4 (by decide) w_1 (fun _ h9 => h9) rfl dX0_rowsUpTo_13 ?_
        refine lv_iload_n hx hb dX0_rowsUpTo_16 rfl (lv_at hl 3 rfl) ?_
        replace hm := gdo hm hz
        obtain ⟨gi_5, hm⟩ := hm
        refine va_iald hx hb hK.1 hP 1 0 (cA := cA 0) (n := 60) (f := g_o_dayOf) rfl rfl (ixi gi_5) dX0_rowsUpTo_17 ?_
        refine lv_iload_n hx hb dX0_rowsUpTo_18 rfl (lv_at hl 1 rfl) ?_
        refine lv_icmp_gt (tgt := 25) hx hb dX0_rowsUpTo_19 (by decide) (fun c_6 => ?_) (fun c_6 => ?_)
        · replace hm := it hm c_6
          refine lv_iinc (v := x_2 + (1 : Int32)) (lv' := [(3, .int (x_2 + (1 : Int32))), (0, .ref o), (1, .int p1), (2, .int x_1)]) hx hb dX0_rowsUpTo_25 hl (k := 3) rfl rfl (by decide) rfl (fun ls hl => ?_)
          refine lv_goto (tgt := 4) hx hb dX0_rowsUpTo_28 (by decide) ?_
          exact ih4 x_1 (x_2 + (1 : Int32)) _ hm (lv_sub hl [1, 2, 3, 0] rfl)
        · replace hm := ie hm c_6
          refine lv_iinc (v := x_1 + (1 : Int32)) (lv' := [(2, .int (x_1 + (1 : Int32))), (0, .ref o), (1, .int p1), (3, .int x_2)]) hx hb dX0_rowsUpTo_22 hl (k := 2) rfl rfl (by decide) rfl (fun ls hl => ?_)
          refine lv_iinc (v := x_2 + (1 : Int32)) (lv' := [(3, .int (x_2 + (1 : Int32))), (2, .int (x_1 + (1 : Int32))), (0, .ref o), (1, .int p1)]) hx hb dX0_rowsUpTo_25 hl (k := 3) rfl rfl (by decide) rfl (fun ls hl => ?_)
          refine lv_goto (tgt := 4) hx hb dX0_rowsUpTo_28 (by decide) ?_
          exact ih4 (x_1 + (1 : Int32)) (x_2 + (1 : Int32)) _ hm (lv_sub hl [2, 3, 1, 0] rfl)
  exact L4_1 _ (0 : Int32) (0 : Int32) _ hm (lv_sub hl [2, 3, 1, 0] rfl)
def m_X0_holderBehind_L6 (v_o_count : Int32) (g_o_parcelOf : Nat → Int32) (g_o_grantor : Nat → Int32) (g_o_grantee : Nat → Int32) (p1 : Int32) (p3 : Int32) : ((Int32 × Int32) → Option (Int32)) → (Int32 × Int32) → Option (Int32) := fun rec_3 v => match v with
  | (x_1, x_2) => (if p3 ≤ x_2 then some x_1 else (if v_o_count ≤ x_2 then some x_1 else gd (ix x_2 60) ((if (g_o_parcelOf x_2.toNatClampNeg) = p1 then gd (ix x_2 60) ((if (g_o_grantor x_2.toNatClampNeg) = x_1 then gd (ix x_2 60) (rec_3 (g_o_grantee x_2.toNatClampNeg, x_2 + (1 : Int32))) else rec_3 (x_1, x_2 + (1 : Int32)))) else rec_3 (x_1, x_2 + (1 : Int32))))))
def m_X0_holderBehind (p1 : Int32) (p2 : Int32) (p3 : Int32) (v_o_count : Int32) (g_o_parcelOf : Nat → Int32) (g_o_grantor : Nat → Int32) (g_o_grantee : Nat → Int32) : Option (Int32) := fuel (m_X0_holderBehind_L6 v_o_count g_o_parcelOf g_o_grantor g_o_grantee p1 p3) FU (p2, (0 : Int32))
abbrev k_X0_holderBehind (cA : Nat → ClassId) (o o_parcelOf o_grantor o_grantee o_dayOf o_most : Nat) (v_o_count : Int32) (g_o_parcelOf : Nat → Int32) (g_o_grantor : Nat → Int32) (g_o_grantee : Nat → Int32) : va_W := [(o, .inr (2, [.int v_o_count, .ref o_parcelOf, .ref o_grantor, .ref o_grantee, .ref o_dayOf, .ref o_most])), (o_parcelOf, .inl (cA 0, 60, .inl g_o_parcelOf)), (o_grantor, .inl (cA 0, 60, .inl g_o_grantor)), (o_grantee, .inl (cA 0, 60, .inl g_o_grantee))]
set_option maxHeartbeats 4000000 in
set_option maxRecDepth 100000 in
/-- X0_holderBehind: as its model -/
theorem c_X0_holderBehind (l : Launch) (G : va_G) (cA : Nat → ClassId) (o o_parcelOf o_grantor o_grantee o_dayOf o_most : Nat) (p1 : Int32) (p2 : Int32) (p3 : Int32) (v_o_count : Int32) (g_o_parcelOf : Nat → Int32) (g_o_grantor : Nat → Int32) (g_o_grantee : Nat → Int32) (R : Option (Int32)) (hR : m_X0_holderBehind p1 p2 p3 v_o_count g_o_parcelOf g_o_grantor g_o_grantee = R) (hz : R ≠ none) : Met l yX0_holderBehind wsX0_holderBehind ({ frames := 0, cells := 0, slots := 0, locals := 0 } : Room) (va_Pc [.ref o, .int p1, .int p2, .int p3] (PR G cA (k_X0_holderBehind cA o o_parcelOf o_grantor o_grantee o_dayOf o_most v_o_count g_o_parcelOf g_o_grantor g_o_grantee))) (vp_Si (fun r => R = some r)) 0 0 (fun _ => False) := by
  refine metR .int (by decide) rfl (Nat.le_of_ble_eq_true rfl) ?_
  intro p e s m av below meth c Q ls hx hb hml hts hown hP hK hl hret
  replace hl : lv_has ls 6 [(0, .ref o), (1, .int p1), (2, .int p2), (3, .int p3)] := hl
  have w_0 := hts (.fieldLink RX0 9 "ParcelRegistry$Deeds" "count" "I") (by decide +kernel)
  have w_1 := hts (.fieldLink RX0 15 "ParcelRegistry$Deeds" "parcelOf" "[I") (by decide +kernel)
  have w_2 := hts (.fieldLink RX0 19 "ParcelRegistry$Deeds" "grantor" "[I") (by decide +kernel)
  have w_3 := hts (.fieldLink RX0 22 "ParcelRegistry$Deeds" "grantee" "[I") (by decide +kernel)
  have i_X0 : ∀ w ∈ wsX00, w ∈ wsX0_holderBehind := by decide +kernel
  have hm := hR
  unfold m_X0_holderBehind at hm
  refine lv_iload_n hx hb dX0_holderBehind_0 rfl (lv_at hl 2 rfl) ?_
  refine lv_istore (lv' := [(4, .int p2), (0, .ref o), (1, .int p1), (2, .int p2), (3, .int p3)]) hx hb dX0_holderBehind_1 hl (by decide) rfl (fun ls hl => ?_)
  refine lv_iconst (v := (0 : Int32)) hx hb dX0_holderBehind_3 (by decide) ?_
  refine lv_istore (lv' := [(5, .int (0 : Int32)), (4, .int p2), (0, .ref o), (1, .int p1), (2, .int p2), (3, .int p3)]) hx hb dX0_holderBehind_4 hl (by decide) rfl (fun ls hl => ?_)
  have L6_1 : ∀ (n : Nat), ∀ (x_1 : Int32) (x_2 : Int32), ∀ (ls : Array Slot), fuel (m_X0_holderBehind_L6 v_o_count g_o_parcelOf g_o_grantor g_o_grantee p1 p3) n (x_1, x_2) = R → lv_has ls 6 [(0, .ref o), (1, .int p1), (3, .int p3), (4, .int x_1), (5, .int x_2)] → W p l e ({ frames := 0, cells := 0, slots := 0, locals := 0 } : Room) s m av below meth c s.heap [] 0 0 Q (F0 m 6 ls []) := by
    intro n
    induction n with
    | zero =>
      intro x_1 x_2 ls hm hl
      exact (fu0 hm hz).elim
    | succ n ih6 =>
      intro x_1 x_2 ls hm hl
      replace hm := fus hm
      generalize fuel (m_X0_holderBehind_L6 v_o_count g_o_parcelOf g_o_grantor g_o_grantee p1 p3) n = rec_3 at hm ih6
      unfold m_X0_holderBehind_L6 at hm
      refine lv_iload hx hb dX0_holderBehind_6 (lv_at hl 4 rfl) ?_
      refine lv_iload_n hx hb dX0_holderBehind_8 rfl (lv_at hl 2 rfl) ?_
      refine lv_icmp_ge (tgt := 59) hx hb dX0_holderBehind_9 (by decide) (fun c_4 => ?_) (fun c_4 => ?_)
      · replace hm := it hm c_4
        refine lv_iload hx hb dX0_holderBehind_59 (lv_at hl 3 rfl) ?_
        exact hret _ _ _ dX0_holderBehind_61 rfl hm.symm
      · replace hm := ie hm c_4
        refine lv_iload hx hb dX0_holderBehind_12 (lv_at hl 4 rfl) ?_
        refine lv_aload_n hx hb dX0_holderBehind_14 rfl (lv_at hl 0 rfl) ?_
        refine va_get (D := G) (ci := 2) (v := .int v_o_count) (C := RX0) (T := TX0) (N := 6) hx hb hts i_X0 hown hK.1 hP 0 rfl rfl 0 (by decide) w_0 (fun _ h9 => h9) rfl dX0_holderBehind_15 ?_
        refine lv_icmp_ge (tgt := 59) hx hb dX0_holderBehind_18 (by decide) (fun c_5 => ?_) (fun c_5 => ?_)
        · replace hm := it hm c_5
          refine lv_iload hx hb dX0_holderBehind_59 (lv_at hl 3 rfl) ?_
          exact hret _ _ _ dX0_holderBehind_61 rfl hm.symm
        · replace hm := ie hm c_5
          refine lv_aload_n hx hb dX0_holderBehind_21 rfl (lv_at hl 0 rfl) ?_
          refine va_get (D := G) (ci := 2) (v := .ref o_parcelOf) (C := RX0) (T := TX0) (N := 6) hx hb hts i_X0 hown hK.1 hP 0 rfl rfl 1 (by decide) w_1 (fun _ h9 => h9) rfl dX0_holderBehind_22 ?_
          refine lv_iload hx hb dX0_holderBehind_25 (lv_at hl 4 rfl) ?_
          replace hm := gdo hm hz
          obtain ⟨gi_6, hm⟩ := hm
          refine va_iald hx hb hK.1 hP 1 0 (cA := cA 0) (n := 60) (f := g_o_parcelOf) rfl rfl (ixi gi_6) dX0_holderBehind_27 ?_
          refine lv_iload_n hx hb dX0_holderBehind_28 rfl (lv_at hl 1 rfl) ?_
          refine lv_icmp_ne (tgt := 53) hx hb dX0_holderBehind_29 (by decide) (fun c_7 => ?_) (fun c_7 => ?_)
          · replace hm := ie hm c_7
            refine lv_iinc (v := x_2 + (1 : Int32)) (lv' := [(5, .int (x_2 + (1 : Int32))), (0, .ref o), (1, .int p1), (3, .int p3), (4, .int x_1)]) hx hb dX0_holderBehind_53 hl (k := 4) rfl rfl (by decide) rfl (fun ls hl => ?_)
            refine lv_goto (tgt := 6) hx hb dX0_holderBehind_56 (by decide) ?_
            exact ih6 x_1 (x_2 + (1 : Int32)) _ hm (lv_sub hl [1, 2, 3, 4, 0] rfl)
          · replace hm := it hm c_7
            refine lv_aload_n hx hb dX0_holderBehind_32 rfl (lv_at hl 0 rfl) ?_
            refine va_get (D := G) (ci := 2) (v := .ref o_grantor) (C := RX0) (T := TX0) (N := 6) hx hb hts i_X0 hown hK.1 hP 0 rfl rfl 2 (by decide) w_2 (fun _ h9 => h9) rfl dX0_holderBehind_33 ?_
            refine lv_iload hx hb dX0_holderBehind_36 (lv_at hl 4 rfl) ?_
            replace hm := gdo hm hz
            obtain ⟨gi_8, hm⟩ := hm
            refine va_iald hx hb hK.1 hP 2 0 (cA := cA 0) (n := 60) (f := g_o_grantor) rfl rfl (ixi gi_8) dX0_holderBehind_38 ?_
            refine lv_iload hx hb dX0_holderBehind_39 (lv_at hl 3 rfl) ?_
            refine lv_icmp_ne (tgt := 53) hx hb dX0_holderBehind_41 (by decide) (fun c_9 => ?_) (fun c_9 => ?_)
            · replace hm := ie hm c_9
              refine lv_iinc (v := x_2 + (1 : Int32)) (lv' := [(5, .int (x_2 + (1 : Int32))), (0, .ref o), (1, .int p1), (3, .int p3), (4, .int x_1)]) hx hb dX0_holderBehind_53 hl (k := 4) rfl rfl (by decide) rfl (fun ls hl => ?_)
              refine lv_goto (tgt := 6) hx hb dX0_holderBehind_56 (by decide) ?_
              exact ih6 x_1 (x_2 + (1 : Int32)) _ hm (lv_sub hl [1, 2, 3, 4, 0] rfl)
            · replace hm := it hm c_9
              refine lv_aload_n hx hb dX0_holderBehind_44 rfl (lv_at hl 0 rfl) ?_
              refine va_get (D := G) (ci := 2) (v := .ref o_grantee) (C := RX0) (T := TX0) (N := 6) hx hb hts i_X0 hown hK.1 hP 0 rfl rfl 3 (by decide) w_3 (fun _ h9 => h9) rfl dX0_holderBehind_45 ?_
              refine lv_iload hx hb dX0_holderBehind_48 (lv_at hl 4 rfl) ?_
              replace hm := gdo hm hz
              obtain ⟨gi_10, hm⟩ := hm
              refine va_iald hx hb hK.1 hP 3 0 (cA := cA 0) (n := 60) (f := g_o_grantee) rfl rfl (ixi gi_10) dX0_holderBehind_50 ?_
              refine lv_istore (lv' := [(4, .int (g_o_grantee x_2.toNatClampNeg)), (0, .ref o), (1, .int p1), (3, .int p3), (5, .int x_2)]) hx hb dX0_holderBehind_51 hl (by decide) rfl (fun ls hl => ?_)
              refine lv_iinc (v := x_2 + (1 : Int32)) (lv' := [(5, .int (x_2 + (1 : Int32))), (4, .int (g_o_grantee x_2.toNatClampNeg)), (0, .ref o), (1, .int p1), (3, .int p3)]) hx hb dX0_holderBehind_53 hl (k := 4) rfl rfl (by decide) rfl (fun ls hl => ?_)
              refine lv_goto (tgt := 6) hx hb dX0_holderBehind_56 (by decide) ?_
              exact ih6 (g_o_grantee x_2.toNatClampNeg) (x_2 + (1 : Int32)) _ hm (lv_sub hl [2, 3, 4, 1, 0] rfl)
  exact L6_1 _ p2 (0 : Int32) _ hm (lv_sub hl [2, 3, 5, 1, 0] rfl)
def m_X0_countOf_L4 (v_o_count : Int32) (g_o_parcelOf : Nat → Int32) (p1 : Int32) : ((Int32 × Int32) → Option (Int32)) → (Int32 × Int32) → Option (Int32) := fun rec_3 v => match v with
  | (x_1, x_2) => (if v_o_count ≤ x_2 then some x_1 else gd (ix x_2 60) ((if (g_o_parcelOf x_2.toNatClampNeg) = p1 then rec_3 (x_1 + (1 : Int32), x_2 + (1 : Int32)) else rec_3 (x_1, x_2 + (1 : Int32)))))
def m_X0_countOf (p1 : Int32) (v_o_count : Int32) (g_o_parcelOf : Nat → Int32) : Option (Int32) := fuel (m_X0_countOf_L4 v_o_count g_o_parcelOf p1) FU ((0 : Int32), (0 : Int32))
abbrev k_X0_countOf (cA : Nat → ClassId) (o o_parcelOf o_grantor o_grantee o_dayOf o_most : Nat) (v_o_count : Int32) (g_o_parcelOf : Nat → Int32) : va_W := [(o, .inr (2, [.int v_o_count, .ref o_parcelOf, .ref o_grantor, .ref o_grantee, .ref o_dayOf, .ref o_most])), (o_parcelOf, .inl (cA 0, 60, .inl g_o_parcelOf))]
set_option maxHeartbeats 4000000 in
set_option maxRecDepth 100000 in
/-- X0_countOf: as its model -/
theorem c_X0_countOf (l : Launch) (G : va_G) (cA : Nat → ClassId) (o o_parcelOf o_grantor o_grantee o_dayOf o_most : Nat) (p1 : Int32) (v_o_count : Int32) (g_o_parcelOf : Nat → Int32) (R : Option (Int32)) (hR : m_X0_countOf p1 v_o_count g_o_parcelOf = R) (hz : R ≠ none) : Met l yX0_countOf wsX0_countOf ({ frames := 0, cells := 0, slots := 0, locals := 0 } : Room) (va_Pc [.ref o, .int p1] (PR G cA (k_X0_countOf cA o o_parcelOf o_grantor o_grantee o_dayOf o_most v_o_count g_o_parcelOf))) (vp_Si (fun r => R = some r)) 0 0 (fun _ => False) := by
  refine metR .int (by decide) rfl (Nat.le_of_ble_eq_true rfl) ?_
  intro p e s m av below meth c Q ls hx hb hml hts hown hP hK hl hret
  replace hl : lv_has ls 4 [(0, .ref o), (1, .int p1)] := hl
  have w_0 := hts (.fieldLink RX0 9 "ParcelRegistry$Deeds" "count" "I") (by decide +kernel)
  have w_1 := hts (.fieldLink RX0 15 "ParcelRegistry$Deeds" "parcelOf" "[I") (by decide +kernel)
  have i_X0 : ∀ w ∈ wsX00, w ∈ wsX0_countOf := by decide +kernel
  have hm := hR
  unfold m_X0_countOf at hm
  refine lv_iconst (v := (0 : Int32)) hx hb dX0_countOf_0 (by decide) ?_
  refine lv_istore_n (lv' := [(2, .int (0 : Int32)), (0, .ref o), (1, .int p1)]) hx hb dX0_countOf_1 rfl hl (by decide) rfl (fun ls hl => ?_)
  refine lv_iconst (v := (0 : Int32)) hx hb dX0_countOf_2 (by decide) ?_
  refine lv_istore_n (lv' := [(3, .int (0 : Int32)), (2, .int (0 : Int32)), (0, .ref o), (1, .int p1)]) hx hb dX0_countOf_3 rfl hl (by decide) rfl (fun ls hl => ?_)
  have L4_1 : ∀ (n : Nat), ∀ (x_1 : Int32) (x_2 : Int32), ∀ (ls : Array Slot), fuel (m_X0_countOf_L4 v_o_count g_o_parcelOf p1) n (x_1, x_2) = R → lv_has ls 4 [(0, .ref o), (1, .int p1), (2, .int x_1), (3, .int x_2)] → W p l e ({ frames := 0, cells := 0, slots := 0, locals := 0 } : Room) s m av below meth c s.heap [] 0 0 Q (F0 m 4 ls []) := by
    intro n
    induction n with
    | zero =>
      intro x_1 x_2 ls hm hl
      exact (fu0 hm hz).elim
    | succ n ih4 =>
      intro x_1 x_2 ls hm hl
      replace hm := fus hm
      generalize fuel (m_X0_countOf_L4 v_o_count g_o_parcelOf p1) n = rec_3 at hm ih4
      unfold m_X0_countOf_L4 at hm
      refine lv_iload_n hx hb dX0_countOf_4 rfl (lv_at hl 3 rfl) ?_
      refine lv_aload_n hx hb dX0_countOf_5 rfl (lv_at hl 0 rfl) ?_
      refine va_get (D := G) (ci := 2) (v := .int v_o_count) (C := RX0) (T := TX0) (N := 6) hx hb hts i_X0 hown hK.1 hP 0 rfl rfl 0 (by decide) w_0 (fun _ h9 => h9) rfl dX0_countOf_6 ?_
      refine lv_icmp_ge (tgt := 31) hx hb dX0_countOf_9 (by decide) (fun c_4 => ?_) (fun c_4 => ?_)
      · replace hm := it hm c_4
        refine lv_iload_n hx hb dX0_countOf_31 rfl (lv_at hl 2 rfl) ?_
        exact hret _ _ _ dX0_countOf_32 rfl hm.symm
      · replace hm := ie hm c_4
        refine lv_aload_n hx hb dX0_countOf_12 rfl (lv_at hl 0 rfl) ?_
        refine va_get (D := G) (ci := 2) (v := .ref o_parcelOf) (C := RX0) (T := TX0) (N := 6) hx hb hts i_X0 hown hK.1 hP 0 rfl rfl 1 (by decide) w_1 (fun _ h9 => h9) rfl dX0_countOf_13 ?_
        refine lv_iload_n hx hb dX0_countOf_16 rfl (lv_at hl 3 rfl) ?_
        replace hm := gdo hm hz
        obtain ⟨gi_5, hm⟩ := hm
        refine va_iald hx hb hK.1 hP 1 0 (cA := cA 0) (n := 60) (f := g_o_parcelOf) rfl rfl (ixi gi_5) dX0_countOf_17 ?_
        refine lv_iload_n hx hb dX0_countOf_18 rfl (lv_at hl 1 rfl) ?_
        refine lv_icmp_ne (tgt := 25) hx hb dX0_countOf_19 (by decide) (fun c_6 => ?_) (fun c_6 => ?_)
        · replace hm := ie hm c_6
          refine lv_iinc (v := x_2 + (1 : Int32)) (lv' := [(3, .int (x_2 + (1 : Int32))), (0, .ref o), (1, .int p1), (2, .int x_1)]) hx hb dX0_countOf_25 hl (k := 3) rfl rfl (by decide) rfl (fun ls hl => ?_)
          refine lv_goto (tgt := 4) hx hb dX0_countOf_28 (by decide) ?_
          exact ih4 x_1 (x_2 + (1 : Int32)) _ hm (lv_sub hl [1, 2, 3, 0] rfl)
        · replace hm := it hm c_6
          refine lv_iinc (v := x_1 + (1 : Int32)) (lv' := [(2, .int (x_1 + (1 : Int32))), (0, .ref o), (1, .int p1), (3, .int x_2)]) hx hb dX0_countOf_22 hl (k := 2) rfl rfl (by decide) rfl (fun ls hl => ?_)
          refine lv_iinc (v := x_2 + (1 : Int32)) (lv' := [(3, .int (x_2 + (1 : Int32))), (2, .int (x_1 + (1 : Int32))), (0, .ref o), (1, .int p1)]) hx hb dX0_countOf_25 hl (k := 3) rfl rfl (by decide) rfl (fun ls hl => ?_)
          refine lv_goto (tgt := 4) hx hb dX0_countOf_28 (by decide) ?_
          exact ih4 (x_1 + (1 : Int32)) (x_2 + (1 : Int32)) _ hm (lv_sub hl [2, 3, 1, 0] rfl)
  exact L4_1 _ (0 : Int32) (0 : Int32) _ hm (lv_sub hl [2, 3, 1, 0] rfl)
def m_X0_gapsOf_L8 (v_o_count : Int32) (g_o_parcelOf : Nat → Int32) (g_o_grantor : Nat → Int32) (g_o_grantee : Nat → Int32) (p1 : Int32) : ((Int32 × Int32 × Int32) → Option (Int32)) → (Int32 × Int32 × Int32) → Option (Int32) := fun rec_4 v => match v with
  | (x_1, x_2, x_3) => (if v_o_count ≤ x_3 then some x_1 else gd (ix x_3 60) ((if (g_o_parcelOf x_3.toNatClampNeg) = p1 then gd (ix x_3 60) ((if (g_o_grantor x_3.toNatClampNeg) = x_2 then gd (ix x_3 60) (rec_4 (x_1, g_o_grantee x_3.toNatClampNeg, x_3 + (1 : Int32))) else rec_4 (x_1 + (1 : Int32), x_2, x_3 + (1 : Int32)))) else rec_4 (x_1, x_2, x_3 + (1 : Int32)))))
def m_X0_gapsOf (p1 : Int32) (p2 : Int32) (v_o_count : Int32) (g_o_parcelOf : Nat → Int32) (g_o_grantor : Nat → Int32) (g_o_grantee : Nat → Int32) : Option (Int32) := fuel (m_X0_gapsOf_L8 v_o_count g_o_parcelOf g_o_grantor g_o_grantee p1) FU ((0 : Int32), p2, (0 : Int32))
abbrev k_X0_gapsOf (cA : Nat → ClassId) (o o_parcelOf o_grantor o_grantee o_dayOf o_most : Nat) (v_o_count : Int32) (g_o_parcelOf : Nat → Int32) (g_o_grantor : Nat → Int32) (g_o_grantee : Nat → Int32) : va_W := [(o, .inr (2, [.int v_o_count, .ref o_parcelOf, .ref o_grantor, .ref o_grantee, .ref o_dayOf, .ref o_most])), (o_parcelOf, .inl (cA 0, 60, .inl g_o_parcelOf)), (o_grantor, .inl (cA 0, 60, .inl g_o_grantor)), (o_grantee, .inl (cA 0, 60, .inl g_o_grantee))]
set_option maxHeartbeats 4000000 in
set_option maxRecDepth 100000 in
/-- X0_gapsOf: as its model -/
theorem c_X0_gapsOf (l : Launch) (G : va_G) (cA : Nat → ClassId) (o o_parcelOf o_grantor o_grantee o_dayOf o_most : Nat) (p1 : Int32) (p2 : Int32) (v_o_count : Int32) (g_o_parcelOf : Nat → Int32) (g_o_grantor : Nat → Int32) (g_o_grantee : Nat → Int32) (R : Option (Int32)) (hR : m_X0_gapsOf p1 p2 v_o_count g_o_parcelOf g_o_grantor g_o_grantee = R) (hz : R ≠ none) : Met l yX0_gapsOf wsX0_gapsOf ({ frames := 0, cells := 0, slots := 0, locals := 0 } : Room) (va_Pc [.ref o, .int p1, .int p2] (PR G cA (k_X0_gapsOf cA o o_parcelOf o_grantor o_grantee o_dayOf o_most v_o_count g_o_parcelOf g_o_grantor g_o_grantee))) (vp_Si (fun r => R = some r)) 0 0 (fun _ => False) := by
  refine metR .int (by decide) rfl (Nat.le_of_ble_eq_true rfl) ?_
  intro p e s m av below meth c Q ls hx hb hml hts hown hP hK hl hret
  replace hl : lv_has ls 6 [(0, .ref o), (1, .int p1), (2, .int p2)] := hl
  have w_0 := hts (.fieldLink RX0 9 "ParcelRegistry$Deeds" "count" "I") (by decide +kernel)
  have w_1 := hts (.fieldLink RX0 15 "ParcelRegistry$Deeds" "parcelOf" "[I") (by decide +kernel)
  have w_2 := hts (.fieldLink RX0 19 "ParcelRegistry$Deeds" "grantor" "[I") (by decide +kernel)
  have w_3 := hts (.fieldLink RX0 22 "ParcelRegistry$Deeds" "grantee" "[I") (by decide +kernel)
  have i_X0 : ∀ w ∈ wsX00, w ∈ wsX0_gapsOf := by decide +kernel
  have hm := hR
  unfold m_X0_gapsOf at hm
  refine lv_iconst (v := (0 : Int32)) hx hb dX0_gapsOf_0 (by decide) ?_
  refine lv_istore_n (lv' := [(3, .int (0 : Int32)), (0, .ref o), (1, .int p1), (2, .int p2)]) hx hb dX0_gapsOf_1 rfl hl (by decide) rfl (fun ls hl => ?_)
  refine lv_iload_n hx hb dX0_gapsOf_2 rfl (lv_at hl 3 rfl) ?_
  refine lv_istore (lv' := [(4, .int p2), (3, .int (0 : Int32)), (0, .ref o), (1, .int p1), (2, .int p2)]) hx hb dX0_gapsOf_3 hl (by decide) rfl (fun ls hl => ?_)
  refine lv_iconst (v := (0 : Int32)) hx hb dX0_gapsOf_5 (by decide) ?_
  refine lv_istore (lv' := [(5, .int (0 : Int32)), (4, .int p2), (3, .int (0 : Int32)), (0, .ref o), (1, .int p1), (2, .int p2)]) hx hb dX0_gapsOf_6 hl (by decide) rfl (fun ls hl => ?_)
  have L8_1 : ∀ (n : Nat), ∀ (x_1 : Int32) (x_2 : Int32) (x_3 : Int32), ∀ (ls : Array Slot), fuel (m_X0_gapsOf_L8 v_o_count g_o_parcelOf g_o_grantor g_o_grantee p1) n (x_1, x_2, x_3) = R → lv_has ls 6 [(0, .ref o), (1, .int p1), (3, .int x_1), (4, .int x_2), (5, .int x_3)] → W p l e ({ frames := 0, cells := 0, slots := 0, locals := 0 } : Room) s m av below meth c s.heap [] 0 0 Q (F0 m 8 ls []) := by
    intro n
    induction n with
    | zero =>
      intro x_1 x_2 x_3 ls hm hl
      exact (fu0 hm hz).elim
    | succ n ih8 =>
      intro x_1 x_2 x_3 ls hm hl
      replace hm := fus hm
      generalize fuel (m_X0_gapsOf_L8 v_o_count g_o_parcelOf g_o_grantor g_o_grantee p1) n = rec_4 at hm ih8
      unfold m_X0_gapsOf_L8 at hm
      refine lv_iload hx hb dX0_gapsOf_8 (lv_at hl 4 rfl) ?_
      refine lv_aload_n hx hb dX0_gapsOf_10 rfl (lv_at hl 0 rfl) ?_
      refine va_get (D := G) (ci := 2) (v := .int v_o_count) (C := RX0) (T := TX0) (N := 6) hx hb hts i_X0 hown hK.1 hP 0 rfl rfl 0 (by decide) w_0 (fun _ h9 => h9) rfl dX0_gapsOf_11 ?_
      refine lv_icmp_ge (tgt := 61) hx hb dX0_gapsOf_14 (by decide) (fun c_5 => ?_) (fun c_5 => ?_)
      · replace hm := it hm c_5
        refine lv_iload_n hx hb dX0_gapsOf_61 rfl (lv_at hl 2 rfl) ?_
        exact hret _ _ _ dX0_gapsOf_62 rfl hm.symm
      · replace hm := ie hm c_5
        refine lv_aload_n hx hb dX0_gapsOf_17 rfl (lv_at hl 0 rfl) ?_
        refine va_get (D := G) (ci := 2) (v := .ref o_parcelOf) (C := RX0) (T := TX0) (N := 6) hx hb hts i_X0 hown hK.1 hP 0 rfl rfl 1 (by decide) w_1 (fun _ h9 => h9) rfl dX0_gapsOf_18 ?_
        refine lv_iload hx hb dX0_gapsOf_21 (lv_at hl 4 rfl) ?_
        replace hm := gdo hm hz
        obtain ⟨gi_6, hm⟩ := hm
        refine va_iald hx hb hK.1 hP 1 0 (cA := cA 0) (n := 60) (f := g_o_parcelOf) rfl rfl (ixi gi_6) dX0_gapsOf_23 ?_
        refine lv_iload_n hx hb dX0_gapsOf_24 rfl (lv_at hl 1 rfl) ?_
        refine lv_icmp_ne (tgt := 55) hx hb dX0_gapsOf_25 (by decide) (fun c_7 => ?_) (fun c_7 => ?_)
        · replace hm := ie hm c_7
          refine lv_iinc (v := x_3 + (1 : Int32)) (lv' := [(5, .int (x_3 + (1 : Int32))), (0, .ref o), (1, .int p1), (3, .int x_1), (4, .int x_2)]) hx hb dX0_gapsOf_55 hl (k := 4) rfl rfl (by decide) rfl (fun ls hl => ?_)
          refine lv_goto (tgt := 8) hx hb dX0_gapsOf_58 (by decide) ?_
          exact ih8 x_1 x_2 (x_3 + (1 : Int32)) _ hm (lv_sub hl [1, 2, 3, 4, 0] rfl)
        · replace hm := it hm c_7
          refine lv_aload_n hx hb dX0_gapsOf_28 rfl (lv_at hl 0 rfl) ?_
          refine va_get (D := G) (ci := 2) (v := .ref o_grantor) (C := RX0) (T := TX0) (N := 6) hx hb hts i_X0 hown hK.1 hP 0 rfl rfl 2 (by decide) w_2 (fun _ h9 => h9) rfl dX0_gapsOf_29 ?_
          refine lv_iload hx hb dX0_gapsOf_32 (lv_at hl 4 rfl) ?_
          replace hm := gdo hm hz
          obtain ⟨gi_8, hm⟩ := hm
          refine va_iald hx hb hK.1 hP 2 0 (cA := cA 0) (n := 60) (f := g_o_grantor) rfl rfl (ixi gi_8) dX0_gapsOf_34 ?_
          refine lv_iload hx hb dX0_gapsOf_35 (lv_at hl 3 rfl) ?_
          refine lv_icmp_ne (tgt := 52) hx hb dX0_gapsOf_37 (by decide) (fun c_9 => ?_) (fun c_9 => ?_)
          · replace hm := ie hm c_9
            refine lv_iinc (v := x_1 + (1 : Int32)) (lv' := [(3, .int (x_1 + (1 : Int32))), (0, .ref o), (1, .int p1), (4, .int x_2), (5, .int x_3)]) hx hb dX0_gapsOf_52 hl (k := 2) rfl rfl (by decide) rfl (fun ls hl => ?_)
            refine lv_iinc (v := x_3 + (1 : Int32)) (lv' := [(5, .int (x_3 + (1 : Int32))), (3, .int (x_1 + (1 : Int32))), (0, .ref o), (1, .int p1), (4, .int x_2)]) hx hb dX0_gapsOf_55 hl (k := 4) rfl rfl (by decide) rfl (fun ls hl => ?_)
            refine lv_goto (tgt := 8) hx hb dX0_gapsOf_58 (by decide) ?_
            exact ih8 (x_1 + (1 : Int32)) x_2 (x_3 + (1 : Int32)) _ hm (lv_sub hl [2, 3, 1, 4, 0] rfl)
          · replace hm := it hm c_9
            refine lv_aload_n hx hb dX0_gapsOf_40 rfl (lv_at hl 0 rfl) ?_
            refine va_get (D := G) (ci := 2) (v := .ref o_grantee) (C := RX0) (T := TX0) (N := 6) hx hb hts i_X0 hown hK.1 hP 0 rfl rfl 3 (by decide) w_3 (fun _ h9 => h9) rfl dX0_gapsOf_41 ?_
            refine lv_iload hx hb dX0_gapsOf_44 (lv_at hl 4 rfl) ?_
            replace hm := gdo hm hz
            obtain ⟨gi_10, hm⟩ := hm
            refine va_iald hx hb hK.1 hP 3 0 (cA := cA 0) (n := 60) (f := g_o_grantee) rfl rfl (ixi gi_10) dX0_gapsOf_46 ?_
            refine lv_istore (lv' := [(4, .int (g_o_grantee x_3.toNatClampNeg)), (0, .ref o), (1, .int p1), (3, .int x_1), (5, .int x_3)]) hx hb dX0_gapsOf_47 hl (by decide) rfl (fun ls hl => ?_)
            refine lv_goto (tgt := 55) hx hb dX0_gapsOf_49 (by decide) ?_
            refine lv_iinc (v := x_3 + (1 : Int32)) (lv' := [(5, .int (x_3 + (1 : Int32))), (4, .int (g_o_grantee x_3.toNatClampNeg)), (0, .ref o), (1, .int p1), (3, .int x_1)]) hx hb dX0_gapsOf_55 hl (k := 4) rfl rfl (by decide) rfl (fun ls hl => ?_)
            refine lv_goto (tgt := 8) hx hb dX0_gapsOf_58 (by decide) ?_
            exact ih8 x_1 (g_o_grantee x_3.toNatClampNeg) (x_3 + (1 : Int32)) _ hm (lv_sub hl [2, 3, 4, 1, 0] rfl)
  exact L8_1 _ (0 : Int32) p2 (0 : Int32) _ hm (lv_sub hl [3, 4, 2, 1, 0] rfl)
def m_X0_record_J102 (v_o_count : Int32) (p1 : Int32) (p2 : Int32) (p3 : Int32) (p4 : Int32) (r_2 : Int32) : ((Nat → Int32) × (Nat → Int32) × (Nat → Int32) × (Nat → Int32)) → Option (Int32 × Int32 × (Nat → Int32) × (Nat → Int32) × (Nat → Int32) × (Nat → Int32)) := fun v => match v with
  | (g_3, g_4, g_5, g_6) => gd (ix r_2 60) (gd (ix r_2 60) (gd (ix r_2 60) (gd (ix r_2 60) (some (r_2, v_o_count + (1 : Int32), upd g_3 r_2.toNatClampNeg p1, upd g_4 r_2.toNatClampNeg p2, upd g_5 r_2.toNatClampNeg p3, upd g_6 r_2.toNatClampNeg p4)))))
def m_X0_record_L25 (v_o_count : Int32) (p1 : Int32) (p2 : Int32) (p3 : Int32) (p4 : Int32) (r_2 : Int32) : ((Int32 × (Nat → Int32) × (Nat → Int32) × (Nat → Int32) × (Nat → Int32)) → Option (Int32 × Int32 × (Nat → Int32) × (Nat → Int32) × (Nat → Int32) × (Nat → Int32))) → (Int32 × (Nat → Int32) × (Nat → Int32) × (Nat → Int32) × (Nat → Int32)) → Option (Int32 × Int32 × (Nat → Int32) × (Nat → Int32) × (Nat → Int32) × (Nat → Int32)) := fun rec_16 v => match v with
  | (x_11, g_12, g_13, g_14, g_15) => (if x_11 ≤ r_2 then m_X0_record_J102 v_o_count p1 p2 p3 p4 r_2 (g_12, g_13, g_14, g_15) else gd (ix (x_11 - (1 : Int32)) 60) (gd (ix x_11 60) (gd (ix (x_11 - (1 : Int32)) 60) (gd (ix x_11 60) (gd (ix (x_11 - (1 : Int32)) 60) (gd (ix x_11 60) (gd (ix (x_11 - (1 : Int32)) 60) (gd (ix x_11 60) (rec_16 (x_11 + (-1 : Int32), upd g_12 x_11.toNatClampNeg (g_12 (x_11 - (1 : Int32)).toNatClampNeg), upd g_13 x_11.toNatClampNeg (g_13 (x_11 - (1 : Int32)).toNatClampNeg), upd g_14 x_11.toNatClampNeg (g_14 (x_11 - (1 : Int32)).toNatClampNeg), upd g_15 x_11.toNatClampNeg (g_15 (x_11 - (1 : Int32)).toNatClampNeg)))))))))))
def m_X0_record (p1 : Int32) (p2 : Int32) (p3 : Int32) (p4 : Int32) (v_o_count : Int32) (g_o_parcelOf : Nat → Int32) (g_o_grantor : Nat → Int32) (g_o_grantee : Nat → Int32) (g_o_dayOf : Nat → Int32) : Option (Int32 × Int32 × (Nat → Int32) × (Nat → Int32) × (Nat → Int32) × (Nat → Int32)) := (if v_o_count < (60 : Int32) then Option.bind (m_X0_rowsUpTo p4 v_o_count g_o_dayOf) (fun r_2 => fuel (m_X0_record_L25 v_o_count p1 p2 p3 p4 r_2) FU (v_o_count, g_o_parcelOf, g_o_grantor, g_o_grantee, g_o_dayOf)) else some ((-1 : Int32), v_o_count, g_o_parcelOf, g_o_grantor, g_o_grantee, g_o_dayOf))
abbrev k_X0_record (cA : Nat → ClassId) (o o_parcelOf o_grantor o_grantee o_dayOf o_most : Nat) (v_o_count : Int32) (g_o_parcelOf : Nat → Int32) (g_o_grantor : Nat → Int32) (g_o_grantee : Nat → Int32) (g_o_dayOf : Nat → Int32) : va_W := [(o, .inr (2, [.int v_o_count, .ref o_parcelOf, .ref o_grantor, .ref o_grantee, .ref o_dayOf, .ref o_most])), (o_parcelOf, .inl (cA 0, 60, .inl g_o_parcelOf)), (o_grantor, .inl (cA 0, 60, .inl g_o_grantor)), (o_grantee, .inl (cA 0, 60, .inl g_o_grantee)), (o_dayOf, .inl (cA 0, 60, .inl g_o_dayOf))]
set_option maxHeartbeats 4000000 in
set_option maxRecDepth 100000 in
/-- X0_record: as its model -/
theorem c_X0_record (l : Launch) (G : va_G) (cA : Nat → ClassId) (o o_parcelOf o_grantor o_grantee o_dayOf o_most : Nat) (sz : Nat) (p1 : Int32) (p2 : Int32) (p3 : Int32) (p4 : Int32) (v_o_count : Int32) (g_o_parcelOf : Nat → Int32) (g_o_grantor : Nat → Int32) (g_o_grantee : Nat → Int32) (g_o_dayOf : Nat → Int32) (R : Option (Int32 × Int32 × (Nat → Int32) × (Nat → Int32) × (Nat → Int32) × (Nat → Int32))) (hR : m_X0_record p1 p2 p3 p4 v_o_count g_o_parcelOf g_o_grantor g_o_grantee g_o_dayOf = R) (hz : R ≠ none) : Met l yX0_record wsX0_record ({ frames := 1, cells := 0, slots := 0, locals := 23 } : Room) (va_Pc [.ref o, .int p1, .int p2, .int p3, .int p4] (PM G cA (k_X0_record cA o o_parcelOf o_grantor o_grantee o_dayOf o_most v_o_count g_o_parcelOf g_o_grantor g_o_grantee g_o_dayOf) sz)) (va_Qi (fun (r : Int32) (u : Int32 × (Nat → Int32) × (Nat → Int32) × (Nat → Int32) × (Nat → Int32)) => R = some (r, u)) (BM G (fun (u : Int32 × (Nat → Int32) × (Nat → Int32) × (Nat → Int32) × (Nat → Int32)) => (k_X0_record cA o o_parcelOf o_grantor o_grantee o_dayOf o_most u.1 u.2.1 u.2.2.1 u.2.2.2.1 u.2.2.2.2))) (va_A (k_X0_record cA o o_parcelOf o_grantor o_grantee o_dayOf o_most v_o_count g_o_parcelOf g_o_grantor g_o_grantee g_o_dayOf) sz)) 0 0 (va_A (k_X0_record cA o o_parcelOf o_grantor o_grantee o_dayOf o_most v_o_count g_o_parcelOf g_o_grantor g_o_grantee g_o_dayOf) sz) := by
  refine metM .int (by decide) rfl (Nat.le_of_ble_eq_true rfl) ?_
  intro p e s m av below meth c Q ls A H hx hb hml hts hown hP hK hD hA hS hl hret
  replace hl : lv_has ls 7 [(0, .ref o), (1, .int p1), (2, .int p2), (3, .int p3), (4, .int p4)] := hl
  have w_0 := hts (.fieldLink RX0 9 "ParcelRegistry$Deeds" "count" "I") (by decide +kernel)
  have w_1 := hts (.fieldLink RX0 15 "ParcelRegistry$Deeds" "parcelOf" "[I") (by decide +kernel)
  have w_2 := hts (.fieldLink RX0 19 "ParcelRegistry$Deeds" "grantor" "[I") (by decide +kernel)
  have w_3 := hts (.fieldLink RX0 22 "ParcelRegistry$Deeds" "grantee" "[I") (by decide +kernel)
  have w_4 := hts (.fieldLink RX0 25 "ParcelRegistry$Deeds" "dayOf" "[I") (by decide +kernel)
  have i_X0 : ∀ w ∈ wsX00, w ∈ wsX0_record := by decide +kernel
  have hm := hR
  unfold m_X0_record at hm
  refine lv_aload_n hx hb dX0_record_0 rfl (lv_at hl 0 rfl) ?_
  refine va_get (D := G) (ci := 2) (v := .int v_o_count) (C := RX0) (T := TX0) (N := 6) hx hb hts i_X0 hown hK.1 hP 0 rfl rfl 0 (by decide) w_0 (fun _ h9 => h9) rfl dX0_record_1 ?_
  refine lv_bipush (v := (60 : Int32)) hx hb dX0_record_4 (by decide) ?_
  refine lv_icmp_lt (tgt := 11) hx hb dX0_record_6 (by decide) (fun c_1 => ?_) (fun c_1 => ?_)
  · replace hm := it hm c_1
    refine lv_aload_n hx hb dX0_record_11 rfl (lv_at hl 0 rfl) ?_
    refine lv_iload hx hb dX0_record_12 (lv_at hl 4 rfl) ?_
    refine vp_callSi (va_Run.run (va_runV (As := [.int p4]) (rest := []) ⟨hx, hb, hml, hown, hts⟩ (c_X0_rowsUpTo l G cA o o_parcelOf o_grantor o_grantee o_dayOf o_most p4 v_o_count g_o_dayOf _ rfl (bnz hm hz)) (cwV 1 hts gX0_record_X0_rowsUpTo rfl rfl rfl (by decide +kernel) ⟨Nat.le_of_ble_eq_true rfl, Nat.le_of_ble_eq_true rfl⟩) (preRV (q := (RX0, TX0, 6)) (hP.sub [0, 4] rfl) hK 0 rfl rfl) rfl rfl hl.1 rfl (lv_room (Nat.le_of_ble_eq_true rfl)) dX0_record_14 ⟨Nat.zero_le _, Nat.zero_le _⟩)) (fun r_2 hw => ?_)
    replace hm := bst hm hw
    refine lv_istore (lv' := [(5, .int r_2), (0, .ref o), (1, .int p1), (2, .int p2), (3, .int p3), (4, .int p4)]) hx hb dX0_record_17 hl (by decide) rfl (fun ls hl => ?_)
    refine lv_aload_n hx hb dX0_record_19 rfl (lv_at hl 1 rfl) ?_
    refine va_get (D := G) (ci := 2) (v := .int v_o_count) (C := RX0) (T := TX0) (N := 6) hx hb hts i_X0 hown hK.1 hP 0 rfl rfl 0 (by decide) w_0 (fun _ h9 => h9) rfl dX0_record_20 ?_
    refine lv_istore (lv' := [(6, .int v_o_count), (5, .int r_2), (0, .ref o), (1, .int p1), (2, .int p2), (3, .int p3), (4, .int p4)]) hx hb dX0_record_23 hl (by decide) rfl (fun ls hl => ?_)
    have J102_1 : ∀ (g_3 : Nat → Int32) (g_4 : Nat → Int32) (g_5 : Nat → Int32) (g_6 : Nat → Int32), ∀ (H : Heap) (locs : List Loc) (ls : Array Slot), m_X0_record_J102 v_o_count p1 p2 p3 p4 r_2 (g_3, g_4, g_5, g_6) = R → va_P G vwCl (k_X0_record cA o o_parcelOf o_grantor o_grantee o_dayOf o_most v_o_count g_3 g_4 g_5 g_6) H → va_D A (k_X0_record cA o o_parcelOf o_grantor o_grantee o_dayOf o_most v_o_count g_3 g_4 g_5 g_6) → va_S A s.heap H locs → lv_has ls 7 [(0, .ref o), (1, .int p1), (2, .int p2), (3, .int p3), (4, .int p4), (5, .int r_2)] → W p l e ({ frames := 1, cells := 0, slots := 0, locals := 23 } : Room) s m av below meth c H locs 0 0 Q (F0 m 102 ls []) := by
      intro g_3 g_4 g_5 g_6 H locs ls hm hP hD hS hl
      unfold m_X0_record_J102 at hm
      refine lv_aload_n hx hb dX0_record_102 rfl (lv_at hl 0 rfl) ?_
      refine va_get (D := G) (ci := 2) (v := .ref o_parcelOf) (C := RX0) (T := TX0) (N := 6) hx hb hts i_X0 hown hK.1 hP 0 rfl rfl 1 (by decide) w_1 (fun _ h9 => h9) rfl dX0_record_103 ?_
      refine lv_iload hx hb dX0_record_106 (lv_at hl 5 rfl) ?_
      refine lv_iload_n hx hb dX0_record_108 rfl (lv_at hl 1 rfl) ?_
      replace hm := gdo hm hz
      obtain ⟨gi_7, hm⟩ := hm
      refine va_iast hx hb hK.1 hP hD hS 1 0 (cA := cA 0) (n := 60) (f := g_3) rfl rfl (ixi gi_7) dX0_record_109 (fun H locs hP' hD' hS' => ?_)
      replace hP : va_P G vwCl (k_X0_record cA o o_parcelOf o_grantor o_grantee o_dayOf o_most v_o_count (upd g_3 r_2.toNatClampNeg p1) g_4 g_5 g_6) H := hP'
      replace hD : va_D A (k_X0_record cA o o_parcelOf o_grantor o_grantee o_dayOf o_most v_o_count (upd g_3 r_2.toNatClampNeg p1) g_4 g_5 g_6) := hD'
      replace hS := hS'
      refine lv_aload_n hx hb dX0_record_110 rfl (lv_at hl 0 rfl) ?_
      refine va_get (D := G) (ci := 2) (v := .ref o_grantor) (C := RX0) (T := TX0) (N := 6) hx hb hts i_X0 hown hK.1 hP 0 rfl rfl 2 (by decide) w_2 (fun _ h9 => h9) rfl dX0_record_111 ?_
      refine lv_iload hx hb dX0_record_114 (lv_at hl 5 rfl) ?_
      refine lv_iload_n hx hb dX0_record_116 rfl (lv_at hl 2 rfl) ?_
      replace hm := gdo hm hz
      obtain ⟨gi_8, hm⟩ := hm
      refine va_iast hx hb hK.1 hP hD hS 2 0 (cA := cA 0) (n := 60) (f := g_4) rfl rfl (ixi gi_8) dX0_record_117 (fun H locs hP' hD' hS' => ?_)
      replace hP : va_P G vwCl (k_X0_record cA o o_parcelOf o_grantor o_grantee o_dayOf o_most v_o_count (upd g_3 r_2.toNatClampNeg p1) (upd g_4 r_2.toNatClampNeg p2) g_5 g_6) H := hP'
      replace hD : va_D A (k_X0_record cA o o_parcelOf o_grantor o_grantee o_dayOf o_most v_o_count (upd g_3 r_2.toNatClampNeg p1) (upd g_4 r_2.toNatClampNeg p2) g_5 g_6) := hD'
      replace hS := hS'
      refine lv_aload_n hx hb dX0_record_118 rfl (lv_at hl 0 rfl) ?_
      refine va_get (D := G) (ci := 2) (v := .ref o_grantee) (C := RX0) (T := TX0) (N := 6) hx hb hts i_X0 hown hK.1 hP 0 rfl rfl 3 (by decide) w_3 (fun _ h9 => h9) rfl dX0_record_119 ?_
      refine lv_iload hx hb dX0_record_122 (lv_at hl 5 rfl) ?_
      refine lv_iload_n hx hb dX0_record_124 rfl (lv_at hl 3 rfl) ?_
      replace hm := gdo hm hz
      obtain ⟨gi_9, hm⟩ := hm
      refine va_iast hx hb hK.1 hP hD hS 3 0 (cA := cA 0) (n := 60) (f := g_5) rfl rfl (ixi gi_9) dX0_record_125 (fun H locs hP' hD' hS' => ?_)
      replace hP : va_P G vwCl (k_X0_record cA o o_parcelOf o_grantor o_grantee o_dayOf o_most v_o_count (upd g_3 r_2.toNatClampNeg p1) (upd g_4 r_2.toNatClampNeg p2) (upd g_5 r_2.toNatClampNeg p3) g_6) H := hP'
      replace hD : va_D A (k_X0_record cA o o_parcelOf o_grantor o_grantee o_dayOf o_most v_o_count (upd g_3 r_2.toNatClampNeg p1) (upd g_4 r_2.toNatClampNeg p2) (upd g_5 r_2.toNatClampNeg p3) g_6) := hD'
      replace hS := hS'
      refine lv_aload_n hx hb dX0_record_126 rfl (lv_at hl 0 rfl) ?_
      refine va_get (D := G) (ci := 2) (v := .ref o_dayOf) (C := RX0) (T := TX0) (N := 6) hx hb hts i_X0 hown hK.1 hP 0 rfl rfl 4 (by decide) w_4 (fun _ h9 => h9) rfl dX0_record_127 ?_
      refine lv_iload hx hb dX0_record_130 (lv_at hl 5 rfl) ?_
      refine lv_iload hx hb dX0_record_132 (lv_at hl 4 rfl) ?_
      replace hm := gdo hm hz
      obtain ⟨gi_10, hm⟩ := hm
      refine va_iast hx hb hK.1 hP hD hS 4 0 (cA := cA 0) (n := 60) (f := g_6) rfl rfl (ixi gi_10) dX0_record_134 (fun H locs hP' hD' hS' => ?_)
      replace hP : va_P G vwCl (k_X0_record cA o o_parcelOf o_grantor o_grantee o_dayOf o_most v_o_count (upd g_3 r_2.toNatClampNeg p1) (upd g_4 r_2.toNatClampNeg p2) (upd g_5 r_2.toNatClampNeg p3) (upd g_6 r_2.toNatClampNeg p4)) H := hP'
      replace hD : va_D A (k_X0_record cA o o_parcelOf o_grantor o_grantee o_dayOf o_most v_o_count (upd g_3 r_2.toNatClampNeg p1) (upd g_4 r_2.toNatClampNeg p2) (upd g_5 r_2.toNatClampNeg p3) (upd g_6 r_2.toNatClampNeg p4)) := hD'
      replace hS := hS'
      refine lv_aload_n hx hb dX0_record_135 rfl (lv_at hl 0 rfl) ?_
      refine lv_dup hx hb dX0_record_136 rfl ?_
      refine va_get (D := G) (ci := 2) (v := .int v_o_count) (C := RX0) (T := TX0) (N := 6) hx hb hts i_X0 hown hK.1 hP 0 rfl rfl 0 (by decide) w_0 (fun _ h9 => h9) rfl dX0_record_137 ?_
      refine lv_iconst (v := (1 : Int32)) hx hb dX0_record_140 (by decide) ?_
      refine lv_iadd hx hb dX0_record_141 ?_
      refine va_put (D := G) (ci := 2) (v := .int (v_o_count + (1 : Int32))) (ty := .int) (C := RX0) (T := TX0) (N := 6) hx hb hts i_X0 tyX0 tyX0_ok nmX0 hown hK.1 hP hD hS 0 rfl rfl 0 (by decide) w_0 (fun _ h9 => h9) rfl (by decide +kernel) rfl rfl (Nat.le_of_ble_eq_true rfl) dX0_record_142 (fun H locs hP' hD' hS' => ?_)
      replace hP : va_P G vwCl (k_X0_record cA o o_parcelOf o_grantor o_grantee o_dayOf o_most (v_o_count + (1 : Int32)) (upd g_3 r_2.toNatClampNeg p1) (upd g_4 r_2.toNatClampNeg p2) (upd g_5 r_2.toNatClampNeg p3) (upd g_6 r_2.toNatClampNeg p4)) H := hP'
      replace hD : va_D A (k_X0_record cA o o_parcelOf o_grantor o_grantee o_dayOf o_most (v_o_count + (1 : Int32)) (upd g_3 r_2.toNatClampNeg p1) (upd g_4 r_2.toNatClampNeg p2) (upd g_5 r_2.toNatClampNeg p3) (upd g_6 r_2.toNatClampNeg p4)) := hD'
      replace hS := hS'
      refine lv_iload hx hb dX0_record_145 (lv_at hl 5 rfl) ?_
      exact hret _ _ _ (v_o_count + (1 : Int32), upd g_3 r_2.toNatClampNeg p1, upd g_4 r_2.toNatClampNeg p2, upd g_5 r_2.toNatClampNeg p3, upd g_6 r_2.toNatClampNeg p4) _ _ dX0_record_147 rfl hP hS hm.symm
    have L25_2 : ∀ (n : Nat), ∀ (x_11 : Int32) (g_12 : Nat → Int32) (g_13 : Nat → Int32) (g_14 : Nat → Int32) (g_15 : Nat → Int32), ∀ (H : Heap) (locs : List Loc) (ls : Array Slot), fuel (m_X0_record_L25 v_o_count p1 p2 p3 p4 r_2) n (x_11, g_12, g_13, g_14, g_15) = R → va_P G vwCl (k_X0_record cA o o_parcelOf o_grantor o_grantee o_dayOf o_most v_o_count g_12 g_13 g_14 g_15) H → va_D A (k_X0_record cA o o_parcelOf o_grantor o_grantee o_dayOf o_most v_o_count g_12 g_13 g_14 g_15) → va_S A s.heap H locs → lv_has ls 7 [(0, .ref o), (1, .int p1), (2, .int p2), (3, .int p3), (4, .int p4), (5, .int r_2), (6, .int x_11)] → W p l e ({ frames := 1, cells := 0, slots := 0, locals := 23 } : Room) s m av below meth c H locs 0 0 Q (F0 m 25 ls []) := by
      intro n
      induction n with
      | zero =>
        intro x_11 g_12 g_13 g_14 g_15 H locs ls hm hP hD hS hl
        exact (fu0 hm hz).elim
      | succ n ih25 =>
        intro x_11 g_12 g_13 g_14 g_15 H locs ls hm hP hD hS hl
        replace hm := fus hm
        generalize fuel (m_X0_record_L25 v_o_count p1 p2 p3 p4 r_2) n = rec_16 at hm ih25
        unfold m_X0_record_L25 at hm
        refine lv_iload hx hb dX0_record_25 (lv_at hl 6 rfl) ?_
        refine lv_iload hx hb dX0_record_27 (lv_at hl 5 rfl) ?_
        refine lv_icmp_le (tgt := 102) hx hb dX0_record_29 (by decide) (fun c_17 => ?_) (fun c_17 => ?_)
        · replace hm := it hm c_17
          exact J102_1 g_12 g_13 g_14 g_15 _ _ _ hm hP hD hS (lv_sub hl [0, 1, 2, 3, 4, 5] rfl)
        · replace hm := ie hm c_17
          refine lv_aload_n hx hb dX0_record_32 rfl (lv_at hl 0 rfl) ?_
          refine va_get (D := G) (ci := 2) (v := .ref o_parcelOf) (C := RX0) (T := TX0) (N := 6) hx hb hts i_X0 hown hK.1 hP 0 rfl rfl 1 (by decide) w_1 (fun _ h9 => h9) rfl dX0_record_33 ?_
          refine lv_iload hx hb dX0_record_36 (lv_at hl 6 rfl) ?_
          refine lv_aload_n hx hb dX0_record_38 rfl (lv_at hl 0 rfl) ?_
          refine va_get (D := G) (ci := 2) (v := .ref o_parcelOf) (C := RX0) (T := TX0) (N := 6) hx hb hts i_X0 hown hK.1 hP 0 rfl rfl 1 (by decide) w_1 (fun _ h9 => h9) rfl dX0_record_39 ?_
          refine lv_iload hx hb dX0_record_42 (lv_at hl 6 rfl) ?_
          refine lv_iconst (v := (1 : Int32)) hx hb dX0_record_44 (by decide) ?_
          refine lv_isub hx hb dX0_record_45 ?_
          replace hm := gdo hm hz
          obtain ⟨gi_18, hm⟩ := hm
          refine va_iald hx hb hK.1 hP 1 0 (cA := cA 0) (n := 60) (f := g_12) rfl rfl (ixi gi_18) dX0_record_46 ?_
          replace hm := gdo hm hz
          obtain ⟨gi_19, hm⟩ := hm
          refine va_iast hx hb hK.1 hP hD hS 1 0 (cA := cA 0) (n := 60) (f := g_12) rfl rfl (ixi gi_19) dX0_record_47 (fun H locs hP' hD' hS' => ?_)
          replace hP : va_P G vwCl (k_X0_record cA o o_parcelOf o_grantor o_grantee o_dayOf o_most v_o_count (upd g_12 x_11.toNatClampNeg (g_12 (x_11 - (1 : Int32)).toNatClampNeg)) g_13 g_14 g_15) H := hP'
          replace hD : va_D A (k_X0_record cA o o_parcelOf o_grantor o_grantee o_dayOf o_most v_o_count (upd g_12 x_11.toNatClampNeg (g_12 (x_11 - (1 : Int32)).toNatClampNeg)) g_13 g_14 g_15) := hD'
          replace hS := hS'
          refine lv_aload_n hx hb dX0_record_48 rfl (lv_at hl 0 rfl) ?_
          refine va_get (D := G) (ci := 2) (v := .ref o_grantor) (C := RX0) (T := TX0) (N := 6) hx hb hts i_X0 hown hK.1 hP 0 rfl rfl 2 (by decide) w_2 (fun _ h9 => h9) rfl dX0_record_49 ?_
          refine lv_iload hx hb dX0_record_52 (lv_at hl 6 rfl) ?_
          refine lv_aload_n hx hb dX0_record_54 rfl (lv_at hl 0 rfl) ?_
          refine va_get (D := G) (ci := 2) (v := .ref o_grantor) (C := RX0) (T := TX0) (N := 6) hx hb hts i_X0 hown hK.1 hP 0 rfl rfl 2 (by decide) w_2 (fun _ h9 => h9) rfl dX0_record_55 ?_
          refine lv_iload hx hb dX0_record_58 (lv_at hl 6 rfl) ?_
          refine lv_iconst (v := (1 : Int32)) hx hb dX0_record_60 (by decide) ?_
          refine lv_isub hx hb dX0_record_61 ?_
          replace hm := gdo hm hz
          obtain ⟨gi_20, hm⟩ := hm
          refine va_iald hx hb hK.1 hP 2 0 (cA := cA 0) (n := 60) (f := g_13) rfl rfl (ixi gi_20) dX0_record_62 ?_
          replace hm := gdo hm hz
          obtain ⟨gi_21, hm⟩ := hm
          refine va_iast hx hb hK.1 hP hD hS 2 0 (cA := cA 0) (n := 60) (f := g_13) rfl rfl (ixi gi_21) dX0_record_63 (fun H locs hP' hD' hS' => ?_)
          replace hP : va_P G vwCl (k_X0_record cA o o_parcelOf o_grantor o_grantee o_dayOf o_most v_o_count (upd g_12 x_11.toNatClampNeg (g_12 (x_11 - (1 : Int32)).toNatClampNeg)) (upd g_13 x_11.toNatClampNeg (g_13 (x_11 - (1 : Int32)).toNatClampNeg)) g_14 g_15) H := hP'
          replace hD : va_D A (k_X0_record cA o o_parcelOf o_grantor o_grantee o_dayOf o_most v_o_count (upd g_12 x_11.toNatClampNeg (g_12 (x_11 - (1 : Int32)).toNatClampNeg)) (upd g_13 x_11.toNatClampNeg (g_13 (x_11 - (1 : Int32)).toNatClampNeg)) g_14 g_15) := hD'
          replace hS := hS'
          refine lv_aload_n hx hb dX0_record_64 rfl (lv_at hl 0 rfl) ?_
          refine va_get (D := G) (ci := 2) (v := .ref o_grantee) (C := RX0) (T := TX0) (N := 6) hx hb hts i_X0 hown hK.1 hP 0 rfl rfl 3 (by decide) w_3 (fun _ h9 => h9) rfl dX0_record_65 ?_
          refine lv_iload hx hb dX0_record_68 (lv_at hl 6 rfl) ?_
          refine lv_aload_n hx hb dX0_record_70 rfl (lv_at hl 0 rfl) ?_
          refine va_get (D := G) (ci := 2) (v := .ref o_grantee) (C := RX0) (T := TX0) (N := 6) hx hb hts i_X0 hown hK.1 hP 0 rfl rfl 3 (by decide) w_3 (fun _ h9 => h9) rfl dX0_record_71 ?_
          refine lv_iload hx hb dX0_record_74 (lv_at hl 6 rfl) ?_
          refine lv_iconst (v := (1 : Int32)) hx hb dX0_record_76 (by decide) ?_
          refine lv_isub hx hb dX0_record_77 ?_
          replace hm := gdo hm hz
          obtain ⟨gi_22, hm⟩ := hm
          refine va_iald hx hb hK.1 hP 3 0 (cA := cA 0) (n := 60) (f := g_14) rfl rfl (ixi gi_22) dX0_record_78 ?_
          replace hm := gdo hm hz
          obtain ⟨gi_23, hm⟩ := hm
          refine va_iast hx hb hK.1 hP hD hS 3 0 (cA := cA 0) (n := 60) (f := g_14) rfl rfl (ixi gi_23) dX0_record_79 (fun H locs hP' hD' hS' => ?_)
          replace hP : va_P G vwCl (k_X0_record cA o o_parcelOf o_grantor o_grantee o_dayOf o_most v_o_count (upd g_12 x_11.toNatClampNeg (g_12 (x_11 - (1 : Int32)).toNatClampNeg)) (upd g_13 x_11.toNatClampNeg (g_13 (x_11 - (1 : Int32)).toNatClampNeg)) (upd g_14 x_11.toNatClampNeg (g_14 (x_11 - (1 : Int32)).toNatClampNeg)) g_15) H := hP'
          replace hD : va_D A (k_X0_record cA o o_parcelOf o_grantor o_grantee o_dayOf o_most v_o_count (upd g_12 x_11.toNatClampNeg (g_12 (x_11 - (1 : Int32)).toNatClampNeg)) (upd g_13 x_11.toNatClampNeg (g_13 (x_11 - (1 : Int32)).toNatClampNeg)) (upd g_14 x_11.toNatClampNeg (g_14 (x_11 - (1 : Int32)).toNatClampNeg)) g_15) := hD'
          replace hS := hS'
          refine lv_aload_n hx hb dX0_record_80 rfl (lv_at hl 0 rfl) ?_
          refine va_get (D := G) (ci := 2) (v := .ref o_dayOf) (C := RX0) (T := TX0) (N := 6) hx hb hts i_X0 hown hK.1 hP 0 rfl rfl 4 (by decide) w_4 (fun _ h9 => h9) rfl dX0_record_81 ?_
          refine lv_iload hx hb dX0_record_84 (lv_at hl 6 rfl) ?_
          refine lv_aload_n hx hb dX0_record_86 rfl (lv_at hl 0 rfl) ?_
          refine va_get (D := G) (ci := 2) (v := .ref o_dayOf) (C := RX0) (T := TX0) (N := 6) hx hb hts i_X0 hown hK.1 hP 0 rfl rfl 4 (by decide) w_4 (fun _ h9 => h9) rfl dX0_record_87 ?_
          refine lv_iload hx hb dX0_record_90 (lv_at hl 6 rfl) ?_
          refine lv_iconst (v := (1 : Int32)) hx hb dX0_record_92 (by decide) ?_
          refine lv_isub hx hb dX0_record_93 ?_
          replace hm := gdo hm hz
          obtain ⟨gi_24, hm⟩ := hm
          refine va_iald hx hb hK.1 hP 4 0 (cA := cA 0) (n := 60) (f := g_15) rfl rfl (ixi gi_24) dX0_record_94 ?_
          replace hm := gdo hm hz
          obtain ⟨gi_25, hm⟩ := hm
          refine va_iast hx hb hK.1 hP hD hS 4 0 (cA := cA 0) (n := 60) (f := g_15) rfl rfl (ixi gi_25) dX0_record_95 (fun H locs hP' hD' hS' => ?_)
          replace hP : va_P G vwCl (k_X0_record cA o o_parcelOf o_grantor o_grantee o_dayOf o_most v_o_count (upd g_12 x_11.toNatClampNeg (g_12 (x_11 - (1 : Int32)).toNatClampNeg)) (upd g_13 x_11.toNatClampNeg (g_13 (x_11 - (1 : Int32)).toNatClampNeg)) (upd g_14 x_11.toNatClampNeg (g_14 (x_11 - (1 : Int32)).toNatClampNeg)) (upd g_15 x_11.toNatClampNeg (g_15 (x_11 - (1 : Int32)).toNatClampNeg))) H := hP'
          replace hD : va_D A (k_X0_record cA o o_parcelOf o_grantor o_grantee o_dayOf o_most v_o_count (upd g_12 x_11.toNatClampNeg (g_12 (x_11 - (1 : Int32)).toNatClampNeg)) (upd g_13 x_11.toNatClampNeg (g_13 (x_11 - (1 : Int32)).toNatClampNeg)) (upd g_14 x_11.toNatClampNeg (g_14 (x_11 - (1 : Int32)).toNatClampNeg)) (upd g_15 x_11.toNatClampNeg (g_15 (x_11 - (1 : Int32)).toNatClampNeg))) := hD'
          replace hS := hS'
          refine lv_iinc (v := x_11 + (-1 : Int32)) (lv' := [(6, .int (x_11 + (-1 : Int32))), (0, .ref o), (1, .int p1), (2, .int p2), (3, .int p3), (4, .int p4), (5, .int r_2)]) hx hb dX0_record_96 hl (k := 6) rfl rfl (by decide) rfl (fun ls hl => ?_)
          refine lv_goto (tgt := 25) hx hb dX0_record_99 (by decide) ?_
          exact ih25 (x_11 + (-1 : Int32)) (upd g_12 x_11.toNatClampNeg (g_12 (x_11 - (1 : Int32)).toNatClampNeg)) (upd g_13 x_11.toNatClampNeg (g_13 (x_11 - (1 : Int32)).toNatClampNeg)) (upd g_14 x_11.toNatClampNeg (g_14 (x_11 - (1 : Int32)).toNatClampNeg)) (upd g_15 x_11.toNatClampNeg (g_15 (x_11 - (1 : Int32)).toNatClampNeg)) _ _ _ hm hP hD hS (lv_sub hl [1, 2, 3, 4, 5, 6, 0] rfl)
    exact L25_2 _ v_o_count g_o_parcelOf g_o_grantor g_o_grantee g_o_dayOf _ _ _ hm hP hD hS (lv_sub hl [2, 3, 4, 5, 6, 1, 0] rfl)
  · replace hm := ie hm c_1
    refine lv_iconst (v := (-1 : Int32)) hx hb dX0_record_9 (by decide) ?_
    exact hret _ _ _ (v_o_count, g_o_parcelOf, g_o_grantor, g_o_grantee, g_o_dayOf) _ _ dX0_record_10 rfl hP hS hm.symm
def m_X0_isGood (p1 : Int32) (p2 : Int32) (v_o_count : Int32) (g_o_parcelOf : Nat → Int32) (g_o_grantor : Nat → Int32) (g_o_grantee : Nat → Int32) : Option (Int32) := (if p1 < 0 then some (0 : Int32) else (if p1 < v_o_count then gd (ix p1 60) (Option.bind (m_X0_holderBehind (g_o_parcelOf p1.toNatClampNeg) p2 p1 v_o_count g_o_parcelOf g_o_grantor g_o_grantee) (fun r_4 => gd (ix p1 60) ((if r_4 = (g_o_grantor p1.toNatClampNeg) then some (1 : Int32) else some (0 : Int32))))) else some (0 : Int32)))
abbrev k_X0_isGood (cA : Nat → ClassId) (o o_parcelOf o_grantor o_grantee o_dayOf o_most : Nat) (v_o_count : Int32) (g_o_parcelOf : Nat → Int32) (g_o_grantor : Nat → Int32) (g_o_grantee : Nat → Int32) : va_W := [(o, .inr (2, [.int v_o_count, .ref o_parcelOf, .ref o_grantor, .ref o_grantee, .ref o_dayOf, .ref o_most])), (o_parcelOf, .inl (cA 0, 60, .inl g_o_parcelOf)), (o_grantor, .inl (cA 0, 60, .inl g_o_grantor)), (o_grantee, .inl (cA 0, 60, .inl g_o_grantee))]
set_option maxHeartbeats 4000000 in
set_option maxRecDepth 100000 in
/-- X0_isGood: as its model -/
theorem c_X0_isGood (l : Launch) (G : va_G) (cA : Nat → ClassId) (o o_parcelOf o_grantor o_grantee o_dayOf o_most : Nat) (p1 : Int32) (p2 : Int32) (v_o_count : Int32) (g_o_parcelOf : Nat → Int32) (g_o_grantor : Nat → Int32) (g_o_grantee : Nat → Int32) (R : Option (Int32)) (hR : m_X0_isGood p1 p2 v_o_count g_o_parcelOf g_o_grantor g_o_grantee = R) (hz : R ≠ none) : Met l yX0_isGood wsX0_isGood ({ frames := 1, cells := 0, slots := 0, locals := 25 } : Room) (va_Pc [.ref o, .int p1, .int p2] (PR G cA (k_X0_isGood cA o o_parcelOf o_grantor o_grantee o_dayOf o_most v_o_count g_o_parcelOf g_o_grantor g_o_grantee))) (vp_Si (fun r => R = some r ∧ (r = 0 ∨ r = 1))) 0 0 (fun _ => False) := by
  refine metR .boolean (by decide) rfl (Nat.le_of_ble_eq_true rfl) ?_
  intro p e s m av below meth c Q ls hx hb hml hts hown hP hK hl hret
  replace hl : lv_has ls 3 [(0, .ref o), (1, .int p1), (2, .int p2)] := hl
  have w_0 := hts (.fieldLink RX0 9 "ParcelRegistry$Deeds" "count" "I") (by decide +kernel)
  have w_1 := hts (.fieldLink RX0 15 "ParcelRegistry$Deeds" "parcelOf" "[I") (by decide +kernel)
  have w_2 := hts (.fieldLink RX0 19 "ParcelRegistry$Deeds" "grantor" "[I") (by decide +kernel)
  have i_X0 : ∀ w ∈ wsX00, w ∈ wsX0_isGood := by decide +kernel
  have hm := hR
  unfold m_X0_isGood at hm
  refine lv_iload_n hx hb dX0_isGood_0 rfl (lv_at hl 1 rfl) ?_
  refine lv_if_lt (tgt := 12) hx hb dX0_isGood_1 (by decide) (fun c_1 => ?_) (fun c_1 => ?_)
  · replace hm := it hm c_1
    refine lv_iconst (v := (0 : Int32)) hx hb dX0_isGood_12 (by decide) ?_
    exact hret _ _ _ dX0_isGood_13 rfl ⟨hm.symm, (by decide)⟩
  · replace hm := ie hm c_1
    refine lv_iload_n hx hb dX0_isGood_4 rfl (lv_at hl 1 rfl) ?_
    refine lv_aload_n hx hb dX0_isGood_5 rfl (lv_at hl 0 rfl) ?_
    refine va_get (D := G) (ci := 2) (v := .int v_o_count) (C := RX0) (T := TX0) (N := 6) hx hb hts i_X0 hown hK.1 hP 0 rfl rfl 0 (by decide) w_0 (fun _ h9 => h9) rfl dX0_isGood_6 ?_
    refine lv_icmp_lt (tgt := 14) hx hb dX0_isGood_9 (by decide) (fun c_2 => ?_) (fun c_2 => ?_)
    · replace hm := it hm c_2
      refine lv_aload_n hx hb dX0_isGood_14 rfl (lv_at hl 0 rfl) ?_
      refine lv_aload_n hx hb dX0_isGood_15 rfl (lv_at hl 0 rfl) ?_
      refine va_get (D := G) (ci := 2) (v := .ref o_parcelOf) (C := RX0) (T := TX0) (N := 6) hx hb hts i_X0 hown hK.1 hP 0 rfl rfl 1 (by decide) w_1 (fun _ h9 => h9) rfl dX0_isGood_16 ?_
      refine lv_iload_n hx hb dX0_isGood_19 rfl (lv_at hl 1 rfl) ?_
      replace hm := gdo hm hz
      obtain ⟨gi_3, hm⟩ := hm
      refine va_iald hx hb hK.1 hP 1 0 (cA := cA 0) (n := 60) (f := g_o_parcelOf) rfl rfl (ixi gi_3) dX0_isGood_20 ?_
      refine lv_iload_n hx hb dX0_isGood_21 rfl (lv_at hl 2 rfl) ?_
      refine lv_iload_n hx hb dX0_isGood_22 rfl (lv_at hl 1 rfl) ?_
      refine vp_callSi (va_Run.run (va_runV (As := [.int (g_o_parcelOf p1.toNatClampNeg), .int p2, .int p1]) (rest := []) ⟨hx, hb, hml, hown, hts⟩ (c_X0_holderBehind l G cA o o_parcelOf o_grantor o_grantee o_dayOf o_most (g_o_parcelOf p1.toNatClampNeg) p2 p1 v_o_count g_o_parcelOf g_o_grantor g_o_grantee _ rfl (bnz hm hz)) (cwV 3 hts gX0_isGood_X0_holderBehind rfl rfl rfl (by decide +kernel) ⟨Nat.le_of_ble_eq_true rfl, Nat.le_of_ble_eq_true rfl⟩) (preRV (q := (RX0, TX0, 6)) (hP.sub [0, 1, 2, 3] rfl) hK 0 rfl rfl) rfl rfl hl.1 rfl (lv_room (Nat.le_of_ble_eq_true rfl)) dX0_isGood_23 ⟨Nat.zero_le _, Nat.zero_le _⟩)) (fun r_4 hw => ?_)
      replace hm := bst hm hw
      refine lv_aload_n hx hb dX0_isGood_26 rfl (lv_at hl 0 rfl) ?_
      refine va_get (D := G) (ci := 2) (v := .ref o_grantor) (C := RX0) (T := TX0) (N := 6) hx hb hts i_X0 hown hK.1 hP 0 rfl rfl 2 (by decide) w_2 (fun _ h9 => h9) rfl dX0_isGood_27 ?_
      refine lv_iload_n hx hb dX0_isGood_30 rfl (lv_at hl 1 rfl) ?_
      replace hm := gdo hm hz
      obtain ⟨gi_5, hm⟩ := hm
      refine va_iald hx hb hK.1 hP 2 0 (cA := cA 0) (n := 60) (f := g_o_grantor) rfl rfl (ixi gi_5) dX0_isGood_31 ?_
      refine lv_icmp_ne (tgt := 39) hx hb dX0_isGood_32 (by decide) (fun c_6 => ?_) (fun c_6 => ?_)
      · replace hm := ie hm c_6
        refine lv_iconst (v := (0 : Int32)) hx hb dX0_isGood_39 (by decide) ?_
        exact hret _ _ _ dX0_isGood_40 rfl ⟨hm.symm, (by decide)⟩
      · replace hm := it hm c_6
        refine lv_iconst (v := (1 : Int32)) hx hb dX0_isGood_35 (by decide) ?_
        refine lv_goto (tgt := 40) hx hb dX0_isGood_36 (by decide) ?_
        exact hret _ _ _ dX0_isGood_40 rfl ⟨hm.symm, (by decide)⟩
    · replace hm := ie hm c_2
      refine lv_iconst (v := (0 : Int32)) hx hb dX0_isGood_12 (by decide) ?_
      exact hret _ _ _ dX0_isGood_13 rfl ⟨hm.symm, (by decide)⟩
def m_X0_rowAt_L5 (v_o_count : Int32) (g_o_parcelOf : Nat → Int32) (p1 : Int32) (p2 : Int32) : ((Int32 × Int32) → Option (Int32)) → (Int32 × Int32) → Option (Int32) := fun rec_3 v => match v with
  | (x_1, x_2) => (if v_o_count ≤ x_2 then some (-1 : Int32) else gd (ix x_2 60) ((if (g_o_parcelOf x_2.toNatClampNeg) = p1 then (if x_1 = p2 then some x_2 else rec_3 (x_1 + (1 : Int32), x_2 + (1 : Int32))) else rec_3 (x_1, x_2 + (1 : Int32)))))
def m_X0_rowAt (p1 : Int32) (p2 : Int32) (v_o_count : Int32) (g_o_parcelOf : Nat → Int32) : Option (Int32) := fuel (m_X0_rowAt_L5 v_o_count g_o_parcelOf p1 p2) FU ((0 : Int32), (0 : Int32))
abbrev k_X0_rowAt (cA : Nat → ClassId) (o o_parcelOf o_grantor o_grantee o_dayOf o_most : Nat) (v_o_count : Int32) (g_o_parcelOf : Nat → Int32) : va_W := [(o, .inr (2, [.int v_o_count, .ref o_parcelOf, .ref o_grantor, .ref o_grantee, .ref o_dayOf, .ref o_most])), (o_parcelOf, .inl (cA 0, 60, .inl g_o_parcelOf))]
set_option maxHeartbeats 4000000 in
set_option maxRecDepth 100000 in
/-- X0_rowAt: as its model -/
theorem c_X0_rowAt (l : Launch) (G : va_G) (cA : Nat → ClassId) (o o_parcelOf o_grantor o_grantee o_dayOf o_most : Nat) (p1 : Int32) (p2 : Int32) (v_o_count : Int32) (g_o_parcelOf : Nat → Int32) (R : Option (Int32)) (hR : m_X0_rowAt p1 p2 v_o_count g_o_parcelOf = R) (hz : R ≠ none) : Met l yX0_rowAt wsX0_rowAt ({ frames := 0, cells := 0, slots := 0, locals := 0 } : Room) (va_Pc [.ref o, .int p1, .int p2] (PR G cA (k_X0_rowAt cA o o_parcelOf o_grantor o_grantee o_dayOf o_most v_o_count g_o_parcelOf))) (vp_Si (fun r => R = some r)) 0 0 (fun _ => False) := by
  refine metR .int (by decide) rfl (Nat.le_of_ble_eq_true rfl) ?_
  intro p e s m av below meth c Q ls hx hb hml hts hown hP hK hl hret
  replace hl : lv_has ls 5 [(0, .ref o), (1, .int p1), (2, .int p2)] := hl
  have w_0 := hts (.fieldLink RX0 9 "ParcelRegistry$Deeds" "count" "I") (by decide +kernel)
  have w_1 := hts (.fieldLink RX0 15 "ParcelRegistry$Deeds" "parcelOf" "[I") (by decide +kernel)
  have i_X0 : ∀ w ∈ wsX00, w ∈ wsX0_rowAt := by decide +kernel
  have hm := hR
  unfold m_X0_rowAt at hm
  refine lv_iconst (v := (0 : Int32)) hx hb dX0_rowAt_0 (by decide) ?_
  refine lv_istore_n (lv' := [(3, .int (0 : Int32)), (0, .ref o), (1, .int p1), (2, .int p2)]) hx hb dX0_rowAt_1 rfl hl (by decide) rfl (fun ls hl => ?_)
  refine lv_iconst (v := (0 : Int32)) hx hb dX0_rowAt_2 (by decide) ?_
  refine lv_istore (lv' := [(4, .int (0 : Int32)), (3, .int (0 : Int32)), (0, .ref o), (1, .int p1), (2, .int p2)]) hx hb dX0_rowAt_3 hl (by decide) rfl (fun ls hl => ?_)
  have L5_1 : ∀ (n : Nat), ∀ (x_1 : Int32) (x_2 : Int32), ∀ (ls : Array Slot), fuel (m_X0_rowAt_L5 v_o_count g_o_parcelOf p1 p2) n (x_1, x_2) = R → lv_has ls 5 [(0, .ref o), (1, .int p1), (2, .int p2), (3, .int x_1), (4, .int x_2)] → W p l e ({ frames := 0, cells := 0, slots := 0, locals := 0 } : Room) s m av below meth c s.heap [] 0 0 Q (F0 m 5 ls []) := by
    intro n
    induction n with
    | zero =>
      intro x_1 x_2 ls hm hl
      exact (fu0 hm hz).elim
    | succ n ih5 =>
      intro x_1 x_2 ls hm hl
      replace hm := fus hm
      generalize fuel (m_X0_rowAt_L5 v_o_count g_o_parcelOf p1 p2) n = rec_3 at hm ih5
      unfold m_X0_rowAt_L5 at hm
      refine lv_iload hx hb dX0_rowAt_5 (lv_at hl 4 rfl) ?_
      refine lv_aload_n hx hb dX0_rowAt_7 rfl (lv_at hl 0 rfl) ?_
      refine va_get (D := G) (ci := 2) (v := .int v_o_count) (C := RX0) (T := TX0) (N := 6) hx hb hts i_X0 hown hK.1 hP 0 rfl rfl 0 (by decide) w_0 (fun _ h9 => h9) rfl dX0_rowAt_8 ?_
      refine lv_icmp_ge (tgt := 42) hx hb dX0_rowAt_11 (by decide) (fun c_4 => ?_) (fun c_4 => ?_)
      · replace hm := it hm c_4
        refine lv_iconst (v := (-1 : Int32)) hx hb dX0_rowAt_42 (by decide) ?_
        exact hret _ _ _ dX0_rowAt_43 rfl hm.symm
      · replace hm := ie hm c_4
        refine lv_aload_n hx hb dX0_rowAt_14 rfl (lv_at hl 0 rfl) ?_
        refine va_get (D := G) (ci := 2) (v := .ref o_parcelOf) (C := RX0) (T := TX0) (N := 6) hx hb hts i_X0 hown hK.1 hP 0 rfl rfl 1 (by decide) w_1 (fun _ h9 => h9) rfl dX0_rowAt_15 ?_
        refine lv_iload hx hb dX0_rowAt_18 (lv_at hl 4 rfl) ?_
        replace hm := gdo hm hz
        obtain ⟨gi_5, hm⟩ := hm
        refine va_iald hx hb hK.1 hP 1 0 (cA := cA 0) (n := 60) (f := g_o_parcelOf) rfl rfl (ixi gi_5) dX0_rowAt_20 ?_
        refine lv_iload_n hx hb dX0_rowAt_21 rfl (lv_at hl 1 rfl) ?_
        refine lv_icmp_ne (tgt := 36) hx hb dX0_rowAt_22 (by decide) (fun c_6 => ?_) (fun c_6 => ?_)
        · replace hm := ie hm c_6
          refine lv_iinc (v := x_2 + (1 : Int32)) (lv' := [(4, .int (x_2 + (1 : Int32))), (0, .ref o), (1, .int p1), (2, .int p2), (3, .int x_1)]) hx hb dX0_rowAt_36 hl (k := 4) rfl rfl (by decide) rfl (fun ls hl => ?_)
          refine lv_goto (tgt := 5) hx hb dX0_rowAt_39 (by decide) ?_
          exact ih5 x_1 (x_2 + (1 : Int32)) _ hm (lv_sub hl [1, 2, 3, 4, 0] rfl)
        · replace hm := it hm c_6
          refine lv_iload_n hx hb dX0_rowAt_25 rfl (lv_at hl 3 rfl) ?_
          refine lv_iload_n hx hb dX0_rowAt_26 rfl (lv_at hl 2 rfl) ?_
          refine lv_icmp_ne (tgt := 33) hx hb dX0_rowAt_27 (by decide) (fun c_7 => ?_) (fun c_7 => ?_)
          · replace hm := ie hm c_7
            refine lv_iinc (v := x_1 + (1 : Int32)) (lv' := [(3, .int (x_1 + (1 : Int32))), (0, .ref o), (1, .int p1), (2, .int p2), (4, .int x_2)]) hx hb dX0_rowAt_33 hl (k := 3) rfl rfl (by decide) rfl (fun ls hl => ?_)
            refine lv_iinc (v := x_2 + (1 : Int32)) (lv' := [(4, .int (x_2 + (1 : Int32))), (3, .int (x_1 + (1 : Int32))), (0, .ref o), (1, .int p1), (2, .int p2)]) hx hb dX0_rowAt_36 hl (k := 4) rfl rfl (by decide) rfl (fun ls hl => ?_)
            refine lv_goto (tgt := 5) hx hb dX0_rowAt_39 (by decide) ?_
            exact ih5 (x_1 + (1 : Int32)) (x_2 + (1 : Int32)) _ hm (lv_sub hl [2, 3, 4, 1, 0] rfl)
          · replace hm := it hm c_7
            refine lv_iload hx hb dX0_rowAt_30 (lv_at hl 4 rfl) ?_
            exact hret _ _ _ dX0_rowAt_32 rfl hm.symm
  exact L5_1 _ (0 : Int32) (0 : Int32) _ hm (lv_sub hl [2, 3, 4, 1, 0] rfl)
def m_X0_everHolding_L10 (v_o_count : Int32) (g_o_parcelOf : Nat → Int32) (g_o_grantor : Nat → Int32) (g_o_grantee : Nat → Int32) (p1 : Int32) : ((Int32 × Int32 × Int32) → Option (Int32)) → (Int32 × Int32 × Int32) → Option (Int32) := fun rec_4 v => match v with
  | (x_1, x_2, x_3) => (if v_o_count ≤ x_3 then some x_1 else gd (ix x_3 60) ((if (g_o_parcelOf x_3.toNatClampNeg) = p1 then gd (ix x_3 60) ((if (g_o_grantor x_3.toNatClampNeg) = x_2 then gd (ix x_3 60) (nm (x_1 ||| ((1 : Int32) <<< ((g_o_grantee x_3.toNatClampNeg) &&& 31))) (fun x_11 => rec_4 (x_11, g_o_grantee x_3.toNatClampNeg, x_3 + (1 : Int32)))) else rec_4 (x_1, x_2, x_3 + (1 : Int32)))) else rec_4 (x_1, x_2, x_3 + (1 : Int32)))))
def m_X0_everHolding (p1 : Int32) (p2 : Int32) (v_o_count : Int32) (g_o_parcelOf : Nat → Int32) (g_o_grantor : Nat → Int32) (g_o_grantee : Nat → Int32) : Option (Int32) := fuel (m_X0_everHolding_L10 v_o_count g_o_parcelOf g_o_grantor g_o_grantee p1) FU ((1 : Int32) <<< (p2 &&& 31), p2, (0 : Int32))
abbrev k_X0_everHolding (cA : Nat → ClassId) (o o_parcelOf o_grantor o_grantee o_dayOf o_most : Nat) (v_o_count : Int32) (g_o_parcelOf : Nat → Int32) (g_o_grantor : Nat → Int32) (g_o_grantee : Nat → Int32) : va_W := [(o, .inr (2, [.int v_o_count, .ref o_parcelOf, .ref o_grantor, .ref o_grantee, .ref o_dayOf, .ref o_most])), (o_parcelOf, .inl (cA 0, 60, .inl g_o_parcelOf)), (o_grantor, .inl (cA 0, 60, .inl g_o_grantor)), (o_grantee, .inl (cA 0, 60, .inl g_o_grantee))]
set_option maxHeartbeats 4000000 in
set_option maxRecDepth 100000 in
/-- X0_everHolding: as its model -/
theorem c_X0_everHolding (l : Launch) (G : va_G) (cA : Nat → ClassId) (o o_parcelOf o_grantor o_grantee o_dayOf o_most : Nat) (p1 : Int32) (p2 : Int32) (v_o_count : Int32) (g_o_parcelOf : Nat → Int32) (g_o_grantor : Nat → Int32) (g_o_grantee : Nat → Int32) (R : Option (Int32)) (hR : m_X0_everHolding p1 p2 v_o_count g_o_parcelOf g_o_grantor g_o_grantee = R) (hz : R ≠ none) : Met l yX0_everHolding wsX0_everHolding ({ frames := 0, cells := 0, slots := 0, locals := 0 } : Room) (va_Pc [.ref o, .int p1, .int p2] (PR G cA (k_X0_everHolding cA o o_parcelOf o_grantor o_grantee o_dayOf o_most v_o_count g_o_parcelOf g_o_grantor g_o_grantee))) (vp_Si (fun r => R = some r)) 0 0 (fun _ => False) := by
  refine metR .int (by decide) rfl (Nat.le_of_ble_eq_true rfl) ?_
  intro p e s m av below meth c Q ls hx hb hml hts hown hP hK hl hret
  replace hl : lv_has ls 6 [(0, .ref o), (1, .int p1), (2, .int p2)] := hl
  have w_0 := hts (.fieldLink RX0 9 "ParcelRegistry$Deeds" "count" "I") (by decide +kernel)
  have w_1 := hts (.fieldLink RX0 15 "ParcelRegistry$Deeds" "parcelOf" "[I") (by decide +kernel)
  have w_2 := hts (.fieldLink RX0 19 "ParcelRegistry$Deeds" "grantor" "[I") (by decide +kernel)
  have w_3 := hts (.fieldLink RX0 22 "ParcelRegistry$Deeds" "grantee" "[I") (by decide +kernel)
  have i_X0 : ∀ w ∈ wsX00, w ∈ wsX0_everHolding := by decide +kernel
  have hm := hR
  unfold m_X0_everHolding at hm
  refine lv_iconst (v := (1 : Int32)) hx hb dX0_everHolding_0 (by decide) ?_
  refine lv_iload_n hx hb dX0_everHolding_1 rfl (lv_at hl 2 rfl) ?_
  refine lv_ishl hx hb dX0_everHolding_2 ?_
  refine lv_istore_n (lv' := [(3, .int ((1 : Int32) <<< (p2 &&& 31))), (0, .ref o), (1, .int p1), (2, .int p2)]) hx hb dX0_everHolding_3 rfl hl (by decide) rfl (fun ls hl => ?_)
  refine lv_iload_n hx hb dX0_everHolding_4 rfl (lv_at hl 3 rfl) ?_
  refine lv_istore (lv' := [(4, .int p2), (3, .int ((1 : Int32) <<< (p2 &&& 31))), (0, .ref o), (1, .int p1), (2, .int p2)]) hx hb dX0_everHolding_5 hl (by decide) rfl (fun ls hl => ?_)
  refine lv_iconst (v := (0 : Int32)) hx hb dX0_everHolding_7 (by decide) ?_
  refine lv_istore (lv' := [(5, .int (0 : Int32)), (4, .int p2), (3, .int ((1 : Int32) <<< (p2 &&& 31))), (0, .ref o), (1, .int p1), (2, .int p2)]) hx hb dX0_everHolding_8 hl (by decide) rfl (fun ls hl => ?_)
  have L10_1 : ∀ (n : Nat), ∀ (x_1 : Int32) (x_2 : Int32) (x_3 : Int32), ∀ (ls : Array Slot), fuel (m_X0_everHolding_L10 v_o_count g_o_parcelOf g_o_grantor g_o_grantee p1) n (x_1, x_2, x_3) = R → lv_has ls 6 [(0, .ref o), (1, .int p1), (3, .int x_1), (4, .int x_2), (5, .int x_3)] → W p l e ({ frames := 0, cells := 0, slots := 0, locals := 0 } : Room) s m av below meth c s.heap [] 0 0 Q (F0 m 10 ls []) := by
    intro n
    induction n with
    | zero =>
      intro x_1 x_2 x_3 ls hm hl
      exact (fu0 hm hz).elim
    | succ n ih10 =>
      intro x_1 x_2 x_3 ls hm hl
      replace hm := fus hm
      generalize fuel (m_X0_everHolding_L10 v_o_count g_o_parcelOf g_o_grantor g_o_grantee p1) n = rec_4 at hm ih10
      unfold m_X0_everHolding_L10 at hm
      refine lv_iload hx hb dX0_everHolding_10 (lv_at hl 4 rfl) ?_
      refine lv_aload_n hx hb dX0_everHolding_12 rfl (lv_at hl 0 rfl) ?_
      refine va_get (D := G) (ci := 2) (v := .int v_o_count) (C := RX0) (T := TX0) (N := 6) hx hb hts i_X0 hown hK.1 hP 0 rfl rfl 0 (by decide) w_0 (fun _ h9 => h9) rfl dX0_everHolding_13 ?_
      refine lv_icmp_ge (tgt := 64) hx hb dX0_everHolding_16 (by decide) (fun c_5 => ?_) (fun c_5 => ?_)
      · replace hm := it hm c_5
        refine lv_iload_n hx hb dX0_everHolding_64 rfl (lv_at hl 2 rfl) ?_
        exact hret _ _ _ dX0_everHolding_65 rfl hm.symm
      · replace hm := ie hm c_5
        refine lv_aload_n hx hb dX0_everHolding_19 rfl (lv_at hl 0 rfl) ?_
        refine va_get (D := G) (ci := 2) (v := .ref o_parcelOf) (C := RX0) (T := TX0) (N := 6) hx hb hts i_X0 hown hK.1 hP 0 rfl rfl 1 (by decide) w_1 (fun _ h9 => h9) rfl dX0_everHolding_20 ?_
        refine lv_iload hx hb dX0_everHolding_23 (lv_at hl 4 rfl) ?_
        replace hm := gdo hm hz
        obtain ⟨gi_6, hm⟩ := hm
        refine va_iald hx hb hK.1 hP 1 0 (cA := cA 0) (n := 60) (f := g_o_parcelOf) rfl rfl (ixi gi_6) dX0_everHolding_25 ?_
        refine lv_iload_n hx hb dX0_everHolding_26 rfl (lv_at hl 1 rfl) ?_
        refine lv_icmp_ne (tgt := 58) hx hb dX0_everHolding_27 (by decide) (fun c_7 => ?_) (fun c_7 => ?_)
        · replace hm := ie hm c_7
          refine lv_iinc (v := x_3 + (1 : Int32)) (lv' := [(5, .int (x_3 + (1 : Int32))), (0, .ref o), (1, .int p1), (3, .int x_1), (4, .int x_2)]) hx hb dX0_everHolding_58 hl (k := 4) rfl rfl (by decide) rfl (fun ls hl => ?_)
          refine lv_goto (tgt := 10) hx hb dX0_everHolding_61 (by decide) ?_
          exact ih10 x_1 x_2 (x_3 + (1 : Int32)) _ hm (lv_sub hl [1, 2, 3, 4, 0] rfl)
        · replace hm := it hm c_7
          refine lv_aload_n hx hb dX0_everHolding_30 rfl (lv_at hl 0 rfl) ?_
          refine va_get (D := G) (ci := 2) (v := .ref o_grantor) (C := RX0) (T := TX0) (N := 6) hx hb hts i_X0 hown hK.1 hP 0 rfl rfl 2 (by decide) w_2 (fun _ h9 => h9) rfl dX0_everHolding_31 ?_
          refine lv_iload hx hb dX0_everHolding_34 (lv_at hl 4 rfl) ?_
          replace hm := gdo hm hz
          obtain ⟨gi_8, hm⟩ := hm
          refine va_iald hx hb hK.1 hP 2 0 (cA := cA 0) (n := 60) (f := g_o_grantor) rfl rfl (ixi gi_8) dX0_everHolding_36 ?_
          refine lv_iload hx hb dX0_everHolding_37 (lv_at hl 3 rfl) ?_
          refine lv_icmp_ne (tgt := 58) hx hb dX0_everHolding_39 (by decide) (fun c_9 => ?_) (fun c_9 => ?_)
          · replace hm := ie hm c_9
            refine lv_iinc (v := x_3 + (1 : Int32)) (lv' := [(5, .int (x_3 + (1 : Int32))), (0, .ref o), (1, .int p1), (3, .int x_1), (4, .int x_2)]) hx hb dX0_everHolding_58 hl (k := 4) rfl rfl (by decide) rfl (fun ls hl => ?_)
            refine lv_goto (tgt := 10) hx hb dX0_everHolding_61 (by decide) ?_
            exact ih10 x_1 x_2 (x_3 + (1 : Int32)) _ hm (lv_sub hl [1, 2, 3, 4, 0] rfl)
          · replace hm := it hm c_9
            refine lv_aload_n hx hb dX0_everHolding_42 rfl (lv_at hl 0 rfl) ?_
            refine va_get (D := G) (ci := 2) (v := .ref o_grantee) (C := RX0) (T := TX0) (N := 6) hx hb hts i_X0 hown hK.1 hP 0 rfl rfl 3 (by decide) w_3 (fun _ h9 => h9) rfl dX0_everHolding_43 ?_
            refine lv_iload hx hb dX0_everHolding_46 (lv_at hl 4 rfl) ?_
            replace hm := gdo hm hz
            obtain ⟨gi_10, hm⟩ := hm
            refine va_iald hx hb hK.1 hP 3 0 (cA := cA 0) (n := 60) (f := g_o_grantee) rfl rfl (ixi gi_10) dX0_everHolding_48 ?_
            refine lv_istore (lv' := [(4, .int (g_o_grantee x_3.toNatClampNeg)), (0, .ref o), (1, .int p1), (3, .int x_1), (5, .int x_3)]) hx hb dX0_everHolding_49 hl (by decide) rfl (fun ls hl => ?_)
            refine lv_iload_n hx hb dX0_everHolding_51 rfl (lv_at hl 3 rfl) ?_
            refine lv_iconst (v := (1 : Int32)) hx hb dX0_everHolding_52 (by decide) ?_
            refine lv_iload hx hb dX0_everHolding_53 (lv_at hl 0 rfl) ?_
            refine lv_ishl hx hb dX0_everHolding_55 ?_
            refine lv_ior hx hb dX0_everHolding_56 ?_
            refine lv_topi (fun x_11 e_x_11 => ?_)
            replace hm := nmo hm e_x_11
            refine lv_istore_n (lv' := [(3, .int x_11), (4, .int (g_o_grantee x_3.toNatClampNeg)), (0, .ref o), (1, .int p1), (5, .int x_3)]) hx hb dX0_everHolding_57 rfl hl (by decide) rfl (fun ls hl => ?_)
            refine lv_iinc (v := x_3 + (1 : Int32)) (lv' := [(5, .int (x_3 + (1 : Int32))), (3, .int x_11), (4, .int (g_o_grantee x_3.toNatClampNeg)), (0, .ref o), (1, .int p1)]) hx hb dX0_everHolding_58 hl (k := 4) rfl rfl (by decide) rfl (fun ls hl => ?_)
            refine lv_goto (tgt := 10) hx hb dX0_everHolding_61 (by decide) ?_
            exact ih10 x_11 (g_o_grantee x_3.toNatClampNeg) (x_3 + (1 : Int32)) _ hm (lv_sub hl [3, 4, 1, 2, 0] rfl)
  exact L10_1 _ ((1 : Int32) <<< (p2 &&& 31)) p2 (0 : Int32) _ hm (lv_sub hl [3, 4, 2, 1, 0] rfl)
def m_X0_mostWithoutGap_J125 (v_o_count : Int32) (g_o_parcelOf : Nat → Int32) (g_o_grantor : Nat → Int32) (g_o_grantee : Nat → Int32) (p1 : Int32) (p2 : Int32) : ((Nat → Int32)) → Option (Int32 × (Nat → Int32)) := fun g_2 => Option.bind (m_X0_holderBehind p1 p2 v_o_count v_o_count g_o_parcelOf g_o_grantor g_o_grantee) (fun r_3 => Option.bind (m_X7_isPerson r_3) (fun r_4 => (if r_4 = 0 then some ((0 : Int32), g_2) else gd (ix r_3 10) (some (g_2 r_3.toNatClampNeg, g_2)))))
def m_X0_mostWithoutGap_L32 (v_o_count : Int32) (g_o_parcelOf : Nat → Int32) (g_o_grantor : Nat → Int32) (g_o_grantee : Nat → Int32) (p1 : Int32) (p2 : Int32) : ((Int32 × (Nat → Int32)) → Option (Int32 × (Nat → Int32))) → (Int32 × (Nat → Int32)) → Option (Int32 × (Nat → Int32)) := fun rec_9 v => match v with
  | (x_7, g_8) => (if v_o_count ≤ x_7 then m_X0_mostWithoutGap_J125 v_o_count g_o_parcelOf g_o_grantor g_o_grantee p1 p2 g_8 else gd (ix x_7 60) (gd (ix x_7 60) (gd (ix x_7 60) ((if (g_o_parcelOf x_7.toNatClampNeg) = p1 then Option.bind (m_X7_isPerson (g_o_grantor x_7.toNatClampNeg)) (fun r_15 => (if r_15 = 0 then rec_9 (x_7 + (1 : Int32), g_8) else Option.bind (m_X7_isPerson (g_o_grantee x_7.toNatClampNeg)) (fun r_17 => (if r_17 = 0 then rec_9 (x_7 + (1 : Int32), g_8) else gd (ix (g_o_grantor x_7.toNatClampNeg) 10) ((if (g_8 (g_o_grantor x_7.toNatClampNeg).toNatClampNeg) = (-1 : Int32) then rec_9 (x_7 + (1 : Int32), g_8) else gd (ix (g_o_grantee x_7.toNatClampNeg) 10) (gd (ix (g_o_grantor x_7.toNatClampNeg) 10) (gd (ix (g_o_grantee x_7.toNatClampNeg) 10) (rec_9 (x_7 + (1 : Int32), upd g_8 (g_o_grantee x_7.toNatClampNeg).toNatClampNeg (if (g_8 (g_o_grantee x_7.toNatClampNeg).toNatClampNeg) < ((g_8 (g_o_grantor x_7.toNatClampNeg).toNatClampNeg) + (1 : Int32)) then (g_8 (g_o_grantor x_7.toNatClampNeg).toNatClampNeg) + (1 : Int32) else g_8 (g_o_grantee x_7.toNatClampNeg).toNatClampNeg))))))))))) else rec_9 (x_7 + (1 : Int32), g_8))))))
def m_X0_mostWithoutGap_J30 (v_o_count : Int32) (g_o_parcelOf : Nat → Int32) (g_o_grantor : Nat → Int32) (g_o_grantee : Nat → Int32) (p1 : Int32) (p2 : Int32) : ((Nat → Int32)) → Option (Int32 × (Nat → Int32)) := fun g_1 => fuel (m_X0_mostWithoutGap_L32 v_o_count g_o_parcelOf g_o_grantor g_o_grantee p1 p2) FU ((0 : Int32), g_1)
def m_X0_mostWithoutGap_L2 (v_o_count : Int32) (g_o_parcelOf : Nat → Int32) (g_o_grantor : Nat → Int32) (g_o_grantee : Nat → Int32) (p1 : Int32) (p2 : Int32) : ((Int32 × (Nat → Int32)) → Option (Int32 × (Nat → Int32))) → (Int32 × (Nat → Int32)) → Option (Int32 × (Nat → Int32)) := fun rec_26 v => match v with
  | (x_24, g_25) => (if (10 : Int32) ≤ x_24 then m_X0_mostWithoutGap_J30 v_o_count g_o_parcelOf g_o_grantor g_o_grantee p1 p2 g_25 else (if x_24 = p2 then gd (ix x_24 10) (rec_26 (x_24 + (1 : Int32), upd g_25 x_24.toNatClampNeg (0 : Int32))) else gd (ix x_24 10) (rec_26 (x_24 + (1 : Int32), upd g_25 x_24.toNatClampNeg (-1 : Int32)))))
def m_X0_mostWithoutGap (p1 : Int32) (p2 : Int32) (v_o_count : Int32) (g_o_parcelOf : Nat → Int32) (g_o_grantor : Nat → Int32) (g_o_grantee : Nat → Int32) (g_o_most : Nat → Int32) : Option (Int32 × (Nat → Int32)) := fuel (m_X0_mostWithoutGap_L2 v_o_count g_o_parcelOf g_o_grantor g_o_grantee p1 p2) FU ((0 : Int32), g_o_most)
abbrev k_X0_mostWithoutGap (cA : Nat → ClassId) (o o_parcelOf o_grantor o_grantee o_dayOf o_most : Nat) (v_o_count : Int32) (g_o_parcelOf : Nat → Int32) (g_o_grantor : Nat → Int32) (g_o_grantee : Nat → Int32) (g_o_most : Nat → Int32) : va_W := [(o, .inr (2, [.int v_o_count, .ref o_parcelOf, .ref o_grantor, .ref o_grantee, .ref o_dayOf, .ref o_most])), (o_parcelOf, .inl (cA 0, 60, .inl g_o_parcelOf)), (o_grantor, .inl (cA 0, 60, .inl g_o_grantor)), (o_grantee, .inl (cA 0, 60, .inl g_o_grantee)), (o_most, .inl (cA 0, 10, .inl g_o_most))]
set_option maxHeartbeats 4000000 in
set_option maxRecDepth 100000 in
/-- X0_mostWithoutGap: as its model -/
theorem c_X0_mostWithoutGap (l : Launch) (G : va_G) (cA : Nat → ClassId) (o o_parcelOf o_grantor o_grantee o_dayOf o_most : Nat) (sz : Nat) (p1 : Int32) (p2 : Int32) (v_o_count : Int32) (g_o_parcelOf : Nat → Int32) (g_o_grantor : Nat → Int32) (g_o_grantee : Nat → Int32) (g_o_most : Nat → Int32) (R : Option (Int32 × (Nat → Int32))) (hR : m_X0_mostWithoutGap p1 p2 v_o_count g_o_parcelOf g_o_grantor g_o_grantee g_o_most = R) (hz : R ≠ none) : Met l yX0_mostWithoutGap wsX0_mostWithoutGap ({ frames := 2, cells := 0, slots := 0, locals := 42 } : Room) (va_Pc [.ref o, .int p1, .int p2] (PM G cA (k_X0_mostWithoutGap cA o o_parcelOf o_grantor o_grantee o_dayOf o_most v_o_count g_o_parcelOf g_o_grantor g_o_grantee g_o_most) sz)) (va_Qi (fun (r : Int32) (u : (Nat → Int32)) => R = some (r, u)) (BM G (fun (u : (Nat → Int32)) => (k_X0_mostWithoutGap cA o o_parcelOf o_grantor o_grantee o_dayOf o_most v_o_count g_o_parcelOf g_o_grantor g_o_grantee u))) (va_A (k_X0_mostWithoutGap cA o o_parcelOf o_grantor o_grantee o_dayOf o_most v_o_count g_o_parcelOf g_o_grantor g_o_grantee g_o_most) sz)) 0 0 (va_A (k_X0_mostWithoutGap cA o o_parcelOf o_grantor o_grantee o_dayOf o_most v_o_count g_o_parcelOf g_o_grantor g_o_grantee g_o_most) sz) := by
  refine metM .int (by decide) rfl (Nat.le_of_ble_eq_true rfl) ?_
  intro p e s m av below meth c Q ls A H hx hb hml hts hown hP hK hD hA hS hl hret
  replace hl : lv_has ls 6 [(0, .ref o), (1, .int p1), (2, .int p2)] := hl
  have w_0 := hts (.fieldLink RX0 9 "ParcelRegistry$Deeds" "count" "I") (by decide +kernel)
  have w_1 := hts (.initialized RX7) (by decide +kernel)
  have w_2 := hts (.static yX7_isPerson) (by decide +kernel)
  have w_3 := hts (.fieldLink RX0 28 "ParcelRegistry$Deeds" "most" "[I") (by decide +kernel)
  have w_4 := hts (.fieldLink RX0 19 "ParcelRegistry$Deeds" "grantor" "[I") (by decide +kernel)
  have w_5 := hts (.fieldLink RX0 22 "ParcelRegistry$Deeds" "grantee" "[I") (by decide +kernel)
  have w_6 := hts (.fieldLink RX0 15 "ParcelRegistry$Deeds" "parcelOf" "[I") (by decide +kernel)
  have w_7 := hts (.methodLink RX0 49 Lib.Math.max.name) (by decide +kernel)
  have w_8 := hts (.static Lib.Math.max.name) (by decide +kernel)
  have w_9 := hts (.initialized "java/lang/Math") (by decide +kernel)
  have w_10 := hts (.code Lib.Math.max.name Lib.Math.max.code 2 (some .int)) (by decide +kernel)
  have i_X0 : ∀ w ∈ wsX00, w ∈ wsX0_mostWithoutGap := by decide +kernel
  have hm := hR
  unfold m_X0_mostWithoutGap at hm
  refine lv_iconst (v := (0 : Int32)) hx hb dX0_mostWithoutGap_0 (by decide) ?_
  refine lv_istore_n (lv' := [(3, .int (0 : Int32)), (0, .ref o), (1, .int p1), (2, .int p2)]) hx hb dX0_mostWithoutGap_1 rfl hl (by decide) rfl (fun ls hl => ?_)
  have J30_3 : ∀ (g_1 : Nat → Int32), ∀ (H : Heap) (locs : List Loc) (ls : Array Slot), m_X0_mostWithoutGap_J30 v_o_count g_o_parcelOf g_o_grantor g_o_grantee p1 p2 g_1 = R → va_P G vwCl (k_X0_mostWithoutGap cA o o_parcelOf o_grantor o_grantee o_dayOf o_most v_o_count g_o_parcelOf g_o_grantor g_o_grantee g_1) H → va_D A (k_X0_mostWithoutGap cA o o_parcelOf o_grantor o_grantee o_dayOf o_most v_o_count g_o_parcelOf g_o_grantor g_o_grantee g_1) → va_S A s.heap H locs → lv_has ls 6 [(0, .ref o), (1, .int p1), (2, .int p2)] → W p l e ({ frames := 2, cells := 0, slots := 0, locals := 42 } : Room) s m av below meth c H locs 0 0 Q (F0 m 30 ls []) := by
    intro g_1 H locs ls hm hP hD hS hl
    unfold m_X0_mostWithoutGap_J30 at hm
    refine lv_iconst (v := (0 : Int32)) hx hb dX0_mostWithoutGap_30 (by decide) ?_
    refine lv_istore_n (lv' := [(3, .int (0 : Int32)), (0, .ref o), (1, .int p1), (2, .int p2)]) hx hb dX0_mostWithoutGap_31 rfl hl (by decide) rfl (fun ls hl => ?_)
    have J125_1 : ∀ (g_2 : Nat → Int32), ∀ (H : Heap) (locs : List Loc) (ls : Array Slot), m_X0_mostWithoutGap_J125 v_o_count g_o_parcelOf g_o_grantor g_o_grantee p1 p2 g_2 = R → va_P G vwCl (k_X0_mostWithoutGap cA o o_parcelOf o_grantor o_grantee o_dayOf o_most v_o_count g_o_parcelOf g_o_grantor g_o_grantee g_2) H → va_D A (k_X0_mostWithoutGap cA o o_parcelOf o_grantor o_grantee o_dayOf o_most v_o_count g_o_parcelOf g_o_grantor g_o_grantee g_2) → va_S A s.heap H locs → lv_has ls 6 [(0, .ref o), (1, .int p1), (2, .int p2)] → W p l e ({ frames := 2, cells := 0, slots := 0, locals := 42 } : Room) s m av below meth c H locs 0 0 Q (F0 m 125 ls []) := by
      intro g_2 H locs ls hm hP hD hS hl
      unfold m_X0_mostWithoutGap_J125 at hm
      refine lv_aload_n hx hb dX0_mostWithoutGap_125 rfl (lv_at hl 0 rfl) ?_
      refine lv_iload_n hx hb dX0_mostWithoutGap_126 rfl (lv_at hl 1 rfl) ?_
      refine lv_iload_n hx hb dX0_mostWithoutGap_127 rfl (lv_at hl 2 rfl) ?_
      refine lv_aload_n hx hb dX0_mostWithoutGap_128 rfl (lv_at hl 0 rfl) ?_
      refine va_get (D := G) (ci := 2) (v := .int v_o_count) (C := RX0) (T := TX0) (N := 6) hx hb hts i_X0 hown hK.1 hP 0 rfl rfl 0 (by decide) w_0 (fun _ h9 => h9) rfl dX0_mostWithoutGap_129 ?_
      refine vp_callSi (va_Run.run (va_runV (As := [.int p1, .int p2, .int v_o_count]) (rest := []) ⟨hx, hb, hml, hown, hts⟩ (c_X0_holderBehind l G cA o o_parcelOf o_grantor o_grantee o_dayOf o_most p1 p2 v_o_count v_o_count g_o_parcelOf g_o_grantor g_o_grantee _ rfl (bnz hm hz)) (cwV 3 hts gX0_mostWithoutGap_X0_holderBehind rfl rfl rfl (by decide +kernel) ⟨Nat.le_of_ble_eq_true rfl, Nat.le_of_ble_eq_true rfl⟩) (preRV (q := (RX0, TX0, 6)) (hP.sub [0, 1, 2, 3] rfl) hK 0 rfl rfl) rfl rfl hl.1 rfl (lv_room (Nat.le_of_ble_eq_true rfl)) dX0_mostWithoutGap_132 ⟨Nat.zero_le _, Nat.zero_le _⟩)) (fun r_3 hw => ?_)
      replace hm := bst hm hw
      refine lv_istore_n (lv' := [(3, .int r_3), (0, .ref o), (1, .int p1), (2, .int p2)]) hx hb dX0_mostWithoutGap_135 rfl hl (by decide) rfl (fun ls hl => ?_)
      refine lv_iload_n hx hb dX0_mostWithoutGap_136 rfl (lv_at hl 0 rfl) ?_
      refine vp_callSi (va_Run.run (va_runSN (As := [.int r_3]) (rest := []) ⟨hx, hb, hml, hown, hts⟩ (c_X7_isPerson l G cA r_3 _ rfl (bnz hm hz)) ⟨va_cnB (host := "ParcelRegistry") 1 hts gX0_mostWithoutGap_X7_isPerson_n45 rfl rfl rfl (hK.2 (RX0, 45, yX7_isPerson) (List.mem_of_getElem? (i := 11) rfl)) w_1 (by decide +kernel) ⟨Nat.le_of_ble_eq_true rfl, Nat.le_of_ble_eq_true rfl⟩, w_2, trivial⟩ (preRS (hP.sub [] rfl) hK) rfl rfl hl.1 rfl (lv_room (Nat.le_of_ble_eq_true rfl)) dX0_mostWithoutGap_137 ⟨Nat.zero_le _, Nat.zero_le _⟩)) (fun r_4 hw => ?_)
      replace hm := bst hm hw.1
      refine lv_if_eq (tgt := 152) hx hb dX0_mostWithoutGap_140 (by decide) (fun c_5 => ?_) (fun c_5 => ?_)
      · replace hm := it hm c_5
        refine lv_iconst (v := (0 : Int32)) hx hb dX0_mostWithoutGap_152 (by decide) ?_
        exact hret _ _ _ g_2 _ _ dX0_mostWithoutGap_153 rfl hP hS hm.symm
      · replace hm := ie hm c_5
        refine lv_aload_n hx hb dX0_mostWithoutGap_143 rfl (lv_at hl 1 rfl) ?_
        refine va_get (D := G) (ci := 2) (v := .ref o_most) (C := RX0) (T := TX0) (N := 6) hx hb hts i_X0 hown hK.1 hP 0 rfl rfl 5 (by decide) w_3 (fun _ h9 => h9) rfl dX0_mostWithoutGap_144 ?_
        refine lv_iload_n hx hb dX0_mostWithoutGap_147 rfl (lv_at hl 0 rfl) ?_
        replace hm := gdo hm hz
        obtain ⟨gi_6, hm⟩ := hm
        refine va_iald hx hb hK.1 hP 4 0 (cA := cA 0) (n := 10) (f := g_2) rfl rfl (ixi gi_6) dX0_mostWithoutGap_148 ?_
        refine lv_goto (tgt := 153) hx hb dX0_mostWithoutGap_149 (by decide) ?_
        exact hret _ _ _ g_2 _ _ dX0_mostWithoutGap_153 rfl hP hS hm.symm
    have L32_2 : ∀ (n : Nat), ∀ (x_7 : Int32) (g_8 : Nat → Int32), ∀ (H : Heap) (locs : List Loc) (ls : Array Slot), fuel (m_X0_mostWithoutGap_L32 v_o_count g_o_parcelOf g_o_grantor g_o_grantee p1 p2) n (x_7, g_8) = R → va_P G vwCl (k_X0_mostWithoutGap cA o o_parcelOf o_grantor o_grantee o_dayOf o_most v_o_count g_o_parcelOf g_o_grantor g_o_grantee g_8) H → va_D A (k_X0_mostWithoutGap cA o o_parcelOf o_grantor o_grantee o_dayOf o_most v_o_count g_o_parcelOf g_o_grantor g_o_grantee g_8) → va_S A s.heap H locs → lv_has ls 6 [(0, .ref o), (1, .int p1), (2, .int p2), (3, .int x_7)] → W p l e ({ frames := 2, cells := 0, slots := 0, locals := 42 } : Room) s m av below meth c H locs 0 0 Q (F0 m 32 ls []) := by
      intro n
      induction n with
      | zero =>
        intro x_7 g_8 H locs ls hm hP hD hS hl
        exact (fu0 hm hz).elim
      | succ n ih32 =>
        intro x_7 g_8 H locs ls hm hP hD hS hl
        replace hm := fus hm
        generalize fuel (m_X0_mostWithoutGap_L32 v_o_count g_o_parcelOf g_o_grantor g_o_grantee p1 p2) n = rec_9 at hm ih32
        unfold m_X0_mostWithoutGap_L32 at hm
        refine lv_iload_n hx hb dX0_mostWithoutGap_32 rfl (lv_at hl 3 rfl) ?_
        refine lv_aload_n hx hb dX0_mostWithoutGap_33 rfl (lv_at hl 0 rfl) ?_
        refine va_get (D := G) (ci := 2) (v := .int v_o_count) (C := RX0) (T := TX0) (N := 6) hx hb hts i_X0 hown hK.1 hP 0 rfl rfl 0 (by decide) w_0 (fun _ h9 => h9) rfl dX0_mostWithoutGap_34 ?_
        refine lv_icmp_ge (tgt := 125) hx hb dX0_mostWithoutGap_37 (by decide) (fun c_10 => ?_) (fun c_10 => ?_)
        · replace hm := it hm c_10
          exact J125_1 g_8 _ _ _ hm hP hD hS (lv_sub hl [0, 1, 2] rfl)
        · replace hm := ie hm c_10
          refine lv_aload_n hx hb dX0_mostWithoutGap_40 rfl (lv_at hl 0 rfl) ?_
          refine va_get (D := G) (ci := 2) (v := .ref o_grantor) (C := RX0) (T := TX0) (N := 6) hx hb hts i_X0 hown hK.1 hP 0 rfl rfl 2 (by decide) w_4 (fun _ h9 => h9) rfl dX0_mostWithoutGap_41 ?_
          refine lv_iload_n hx hb dX0_mostWithoutGap_44 rfl (lv_at hl 3 rfl) ?_
          replace hm := gdo hm hz
          obtain ⟨gi_11, hm⟩ := hm
          refine va_iald hx hb hK.1 hP 2 0 (cA := cA 0) (n := 60) (f := g_o_grantor) rfl rfl (ixi gi_11) dX0_mostWithoutGap_45 ?_
          refine lv_istore (lv' := [(4, .int (g_o_grantor x_7.toNatClampNeg)), (0, .ref o), (1, .int p1), (2, .int p2), (3, .int x_7)]) hx hb dX0_mostWithoutGap_46 hl (by decide) rfl (fun ls hl => ?_)
          refine lv_aload_n hx hb dX0_mostWithoutGap_48 rfl (lv_at hl 1 rfl) ?_
          refine va_get (D := G) (ci := 2) (v := .ref o_grantee) (C := RX0) (T := TX0) (N := 6) hx hb hts i_X0 hown hK.1 hP 0 rfl rfl 3 (by decide) w_5 (fun _ h9 => h9) rfl dX0_mostWithoutGap_49 ?_
          refine lv_iload_n hx hb dX0_mostWithoutGap_52 rfl (lv_at hl 4 rfl) ?_
          replace hm := gdo hm hz
          obtain ⟨gi_12, hm⟩ := hm
          refine va_iald hx hb hK.1 hP 3 0 (cA := cA 0) (n := 60) (f := g_o_grantee) rfl rfl (ixi gi_12) dX0_mostWithoutGap_53 ?_
          refine lv_istore (lv' := [(5, .int (g_o_grantee x_7.toNatClampNeg)), (4, .int (g_o_grantor x_7.toNatClampNeg)), (0, .ref o), (1, .int p1), (2, .int p2), (3, .int x_7)]) hx hb dX0_mostWithoutGap_54 hl (by decide) rfl (fun ls hl => ?_)
          refine lv_aload_n hx hb dX0_mostWithoutGap_56 rfl (lv_at hl 2 rfl) ?_
          refine va_get (D := G) (ci := 2) (v := .ref o_parcelOf) (C := RX0) (T := TX0) (N := 6) hx hb hts i_X0 hown hK.1 hP 0 rfl rfl 1 (by decide) w_6 (fun _ h9 => h9) rfl dX0_mostWithoutGap_57 ?_
          refine lv_iload_n hx hb dX0_mostWithoutGap_60 rfl (lv_at hl 5 rfl) ?_
          replace hm := gdo hm hz
          obtain ⟨gi_13, hm⟩ := hm
          refine va_iald hx hb hK.1 hP 1 0 (cA := cA 0) (n := 60) (f := g_o_parcelOf) rfl rfl (ixi gi_13) dX0_mostWithoutGap_61 ?_
          refine lv_iload_n hx hb dX0_mostWithoutGap_62 rfl (lv_at hl 3 rfl) ?_
          refine lv_icmp_ne (tgt := 119) hx hb dX0_mostWithoutGap_63 (by decide) (fun c_14 => ?_) (fun c_14 => ?_)
          · replace hm := ie hm c_14
            refine lv_iinc (v := x_7 + (1 : Int32)) (lv' := [(3, .int (x_7 + (1 : Int32))), (5, .int (g_o_grantee x_7.toNatClampNeg)), (4, .int (g_o_grantor x_7.toNatClampNeg)), (0, .ref o), (1, .int p1), (2, .int p2)]) hx hb dX0_mostWithoutGap_119 hl (k := 5) rfl rfl (by decide) rfl (fun ls hl => ?_)
            refine lv_goto (tgt := 32) hx hb dX0_mostWithoutGap_122 (by decide) ?_
            exact ih32 (x_7 + (1 : Int32)) g_8 _ _ _ hm hP hD hS (lv_sub hl [3, 4, 5, 0] rfl)
          · replace hm := it hm c_14
            refine lv_iload hx hb dX0_mostWithoutGap_66 (lv_at hl 1 rfl) ?_
            refine vp_callSi (va_Run.run (va_runSN (As := [.int (g_o_grantor x_7.toNatClampNeg)]) (rest := []) ⟨hx, hb, hml, hown, hts⟩ (c_X7_isPerson l G cA (g_o_grantor x_7.toNatClampNeg) _ rfl (bnz hm hz)) ⟨va_cnB (host := "ParcelRegistry") 1 hts gX0_mostWithoutGap_X7_isPerson_n45 rfl rfl rfl (hK.2 (RX0, 45, yX7_isPerson) (List.mem_of_getElem? (i := 11) rfl)) w_1 (by decide +kernel) ⟨Nat.le_of_ble_eq_true rfl, Nat.le_of_ble_eq_true rfl⟩, w_2, trivial⟩ (preRS (hP.sub [] rfl) hK) rfl rfl hl.1 rfl (lv_room (Nat.le_of_ble_eq_true rfl)) dX0_mostWithoutGap_68 ⟨Nat.zero_le _, Nat.zero_le _⟩)) (fun r_15 hw => ?_)
            replace hm := bst hm hw.1
            refine lv_if_eq (tgt := 119) hx hb dX0_mostWithoutGap_71 (by decide) (fun c_16 => ?_) (fun c_16 => ?_)
            · replace hm := it hm c_16
              refine lv_iinc (v := x_7 + (1 : Int32)) (lv' := [(3, .int (x_7 + (1 : Int32))), (5, .int (g_o_grantee x_7.toNatClampNeg)), (4, .int (g_o_grantor x_7.toNatClampNeg)), (0, .ref o), (1, .int p1), (2, .int p2)]) hx hb dX0_mostWithoutGap_119 hl (k := 5) rfl rfl (by decide) rfl (fun ls hl => ?_)
              refine lv_goto (tgt := 32) hx hb dX0_mostWithoutGap_122 (by decide) ?_
              exact ih32 (x_7 + (1 : Int32)) g_8 _ _ _ hm hP hD hS (lv_sub hl [3, 4, 5, 0] rfl)
            · replace hm := ie hm c_16
              refine lv_iload hx hb dX0_mostWithoutGap_74 (lv_at hl 0 rfl) ?_
              refine vp_callSi (va_Run.run (va_runSN (As := [.int (g_o_grantee x_7.toNatClampNeg)]) (rest := []) ⟨hx, hb, hml, hown, hts⟩ (c_X7_isPerson l G cA (g_o_grantee x_7.toNatClampNeg) _ rfl (bnz hm hz)) ⟨va_cnB (host := "ParcelRegistry") 1 hts gX0_mostWithoutGap_X7_isPerson_n45 rfl rfl rfl (hK.2 (RX0, 45, yX7_isPerson) (List.mem_of_getElem? (i := 11) rfl)) w_1 (by decide +kernel) ⟨Nat.le_of_ble_eq_true rfl, Nat.le_of_ble_eq_true rfl⟩, w_2, trivial⟩ (preRS (hP.sub [] rfl) hK) rfl rfl hl.1 rfl (lv_room (Nat.le_of_ble_eq_true rfl)) dX0_mostWithoutGap_76 ⟨Nat.zero_le _, Nat.zero_le _⟩)) (fun r_17 hw => ?_)
              replace hm := bst hm hw.1
              refine lv_if_eq (tgt := 119) hx hb dX0_mostWithoutGap_79 (by decide) (fun c_18 => ?_) (fun c_18 => ?_)
              · replace hm := it hm c_18
                refine lv_iinc (v := x_7 + (1 : Int32)) (lv' := [(3, .int (x_7 + (1 : Int32))), (5, .int (g_o_grantee x_7.toNatClampNeg)), (4, .int (g_o_grantor x_7.toNatClampNeg)), (0, .ref o), (1, .int p1), (2, .int p2)]) hx hb dX0_mostWithoutGap_119 hl (k := 5) rfl rfl (by decide) rfl (fun ls hl => ?_)
                refine lv_goto (tgt := 32) hx hb dX0_mostWithoutGap_122 (by decide) ?_
                exact ih32 (x_7 + (1 : Int32)) g_8 _ _ _ hm hP hD hS (lv_sub hl [3, 4, 5, 0] rfl)
              · replace hm := ie hm c_18
                refine lv_aload_n hx hb dX0_mostWithoutGap_82 rfl (lv_at hl 2 rfl) ?_
                refine va_get (D := G) (ci := 2) (v := .ref o_most) (C := RX0) (T := TX0) (N := 6) hx hb hts i_X0 hown hK.1 hP 0 rfl rfl 5 (by decide) w_3 (fun _ h9 => h9) rfl dX0_mostWithoutGap_83 ?_
                refine lv_iload hx hb dX0_mostWithoutGap_86 (lv_at hl 1 rfl) ?_
                replace hm := gdo hm hz
                obtain ⟨gi_19, hm⟩ := hm
                refine va_iald hx hb hK.1 hP 4 0 (cA := cA 0) (n := 10) (f := g_8) rfl rfl (ixi gi_19) dX0_mostWithoutGap_88 ?_
                refine lv_iconst (v := (-1 : Int32)) hx hb dX0_mostWithoutGap_89 (by decide) ?_
                refine lv_icmp_eq (tgt := 119) hx hb dX0_mostWithoutGap_90 (by decide) (fun c_20 => ?_) (fun c_20 => ?_)
                · replace hm := it hm c_20
                  refine lv_iinc (v := x_7 + (1 : Int32)) (lv' := [(3, .int (x_7 + (1 : Int32))), (5, .int (g_o_grantee x_7.toNatClampNeg)), (4, .int (g_o_grantor x_7.toNatClampNeg)), (0, .ref o), (1, .int p1), (2, .int p2)]) hx hb dX0_mostWithoutGap_119 hl (k := 5) rfl rfl (by decide) rfl (fun ls hl => ?_)
                  refine lv_goto (tgt := 32) hx hb dX0_mostWithoutGap_122 (by decide) ?_
                  exact ih32 (x_7 + (1 : Int32)) g_8 _ _ _ hm hP hD hS (lv_sub hl [3, 4, 5, 0] rfl)
                · replace hm := ie hm c_20
                  refine lv_aload_n hx hb dX0_mostWithoutGap_93 rfl (lv_at hl 2 rfl) ?_
                  refine va_get (D := G) (ci := 2) (v := .ref o_most) (C := RX0) (T := TX0) (N := 6) hx hb hts i_X0 hown hK.1 hP 0 rfl rfl 5 (by decide) w_3 (fun _ h9 => h9) rfl dX0_mostWithoutGap_94 ?_
                  refine lv_iload hx hb dX0_mostWithoutGap_97 (lv_at hl 0 rfl) ?_
                  refine lv_aload_n hx hb dX0_mostWithoutGap_99 rfl (lv_at hl 2 rfl) ?_
                  refine va_get (D := G) (ci := 2) (v := .ref o_most) (C := RX0) (T := TX0) (N := 6) hx hb hts i_X0 hown hK.1 hP 0 rfl rfl 5 (by decide) w_3 (fun _ h9 => h9) rfl dX0_mostWithoutGap_100 ?_
                  refine lv_iload hx hb dX0_mostWithoutGap_103 (lv_at hl 0 rfl) ?_
                  replace hm := gdo hm hz
                  obtain ⟨gi_21, hm⟩ := hm
                  refine va_iald hx hb hK.1 hP 4 0 (cA := cA 0) (n := 10) (f := g_8) rfl rfl (ixi gi_21) dX0_mostWithoutGap_105 ?_
                  refine lv_aload_n hx hb dX0_mostWithoutGap_106 rfl (lv_at hl 2 rfl) ?_
                  refine va_get (D := G) (ci := 2) (v := .ref o_most) (C := RX0) (T := TX0) (N := 6) hx hb hts i_X0 hown hK.1 hP 0 rfl rfl 5 (by decide) w_3 (fun _ h9 => h9) rfl dX0_mostWithoutGap_107 ?_
                  refine lv_iload hx hb dX0_mostWithoutGap_110 (lv_at hl 1 rfl) ?_
                  replace hm := gdo hm hz
                  obtain ⟨gi_22, hm⟩ := hm
                  refine va_iald hx hb hK.1 hP 4 0 (cA := cA 0) (n := 10) (f := g_8) rfl rfl (ixi gi_22) dX0_mostWithoutGap_112 ?_
                  refine lv_iconst (v := (1 : Int32)) hx hb dX0_mostWithoutGap_113 (by decide) ?_
                  refine lv_iadd hx hb dX0_mostWithoutGap_114 ?_
                  refine va_mmax hx hb (hml.trans hl.1.symm) hown w_7 w_8 w_9 w_10 (Nat.le_of_ble_eq_true rfl) (Nat.le_of_ble_eq_true rfl) (Nat.zero_le _) (Nat.zero_le _) dX0_mostWithoutGap_115 ?_
                  replace hm := gdo hm hz
                  obtain ⟨gi_23, hm⟩ := hm
                  refine va_iast hx hb hK.1 hP hD hS 4 0 (cA := cA 0) (n := 10) (f := g_8) rfl rfl (ixi gi_23) dX0_mostWithoutGap_118 (fun H locs hP' hD' hS' => ?_)
                  replace hP : va_P G vwCl (k_X0_mostWithoutGap cA o o_parcelOf o_grantor o_grantee o_dayOf o_most v_o_count g_o_parcelOf g_o_grantor g_o_grantee (upd g_8 (g_o_grantee x_7.toNatClampNeg).toNatClampNeg (if (g_8 (g_o_grantee x_7.toNatClampNeg).toNatClampNeg) < ((g_8 (g_o_grantor x_7.toNatClampNeg).toNatClampNeg) + (1 : Int32)) then (g_8 (g_o_grantor x_7.toNatClampNeg).toNatClampNeg) + (1 : Int32) else g_8 (g_o_grantee x_7.toNatClampNeg).toNatClampNeg))) H := hP'
                  replace hD : va_D A (k_X0_mostWithoutGap cA o o_parcelOf o_grantor o_grantee o_dayOf o_most v_o_count g_o_parcelOf g_o_grantor g_o_grantee (upd g_8 (g_o_grantee x_7.toNatClampNeg).toNatClampNeg (if (g_8 (g_o_grantee x_7.toNatClampNeg).toNatClampNeg) < ((g_8 (g_o_grantor x_7.toNatClampNeg).toNatClampNeg) + (1 : Int32)) then (g_8 (g_o_grantor x_7.toNatClampNeg).toNatClampNeg) + (1 : Int32) else g_8 (g_o_grantee x_7.toNatClampNeg).toNatClampNeg))) := hD'
                  replace hS := hS'
                  refine lv_iinc (v := x_7 + (1 : Int32)) (lv' := [(3, .int (x_7 + (1 : Int32))), (5, .int (g_o_grantee x_7.toNatClampNeg)), (4, .int (g_o_grantor x_7.toNatClampNeg)), (0, .ref o), (1, .int p1), (2, .int p2)]) hx hb dX0_mostWithoutGap_119 hl (k := 5) rfl rfl (by decide) rfl (fun ls hl => ?_)
                  refine lv_goto (tgt := 32) hx hb dX0_mostWithoutGap_122 (by decide) ?_
                  exact ih32 (x_7 + (1 : Int32)) (upd g_8 (g_o_grantee x_7.toNatClampNeg).toNatClampNeg (if (g_8 (g_o_grantee x_7.toNatClampNeg).toNatClampNeg) < ((g_8 (g_o_grantor x_7.toNatClampNeg).toNatClampNeg) + (1 : Int32)) then (g_8 (g_o_grantor x_7.toNatClampNeg).toNatClampNeg) + (1 : Int32) else g_8 (g_o_grantee x_7.toNatClampNeg).toNatClampNeg)) _ _ _ hm hP hD hS (lv_sub hl [3, 4, 5, 0] rfl)
    exact L32_2 _ (0 : Int32) g_1 _ _ _ hm hP hD hS (lv_sub hl [1, 2, 3, 0] rfl)
  have L2_4 : ∀ (n : Nat), ∀ (x_24 : Int32) (g_25 : Nat → Int32), ∀ (H : Heap) (locs : List Loc) (ls : Array Slot), fuel (m_X0_mostWithoutGap_L2 v_o_count g_o_parcelOf g_o_grantor g_o_grantee p1 p2) n (x_24, g_25) = R → va_P G vwCl (k_X0_mostWithoutGap cA o o_parcelOf o_grantor o_grantee o_dayOf o_most v_o_count g_o_parcelOf g_o_grantor g_o_grantee g_25) H → va_D A (k_X0_mostWithoutGap cA o o_parcelOf o_grantor o_grantee o_dayOf o_most v_o_count g_o_parcelOf g_o_grantor g_o_grantee g_25) → va_S A s.heap H locs → lv_has ls 6 [(0, .ref o), (1, .int p1), (2, .int p2), (3, .int x_24)] → W p l e ({ frames := 2, cells := 0, slots := 0, locals := 42 } : Room) s m av below meth c H locs 0 0 Q (F0 m 2 ls []) := by
    intro n
    induction n with
    | zero =>
      intro x_24 g_25 H locs ls hm hP hD hS hl
      exact (fu0 hm hz).elim
    | succ n ih2 =>
      intro x_24 g_25 H locs ls hm hP hD hS hl
      replace hm := fus hm
      generalize fuel (m_X0_mostWithoutGap_L2 v_o_count g_o_parcelOf g_o_grantor g_o_grantee p1 p2) n = rec_26 at hm ih2
      unfold m_X0_mostWithoutGap_L2 at hm
      refine lv_iload_n hx hb dX0_mostWithoutGap_2 rfl (lv_at hl 3 rfl) ?_
      refine lv_bipush (v := (10 : Int32)) hx hb dX0_mostWithoutGap_3 (by decide) ?_
      refine lv_icmp_ge (tgt := 30) hx hb dX0_mostWithoutGap_5 (by decide) (fun c_27 => ?_) (fun c_27 => ?_)
      · replace hm := it hm c_27
        exact J30_3 g_25 _ _ _ hm hP hD hS (lv_sub hl [0, 1, 2] rfl)
      · replace hm := ie hm c_27
        refine lv_aload_n hx hb dX0_mostWithoutGap_8 rfl (lv_at hl 0 rfl) ?_
        refine va_get (D := G) (ci := 2) (v := .ref o_most) (C := RX0) (T := TX0) (N := 6) hx hb hts i_X0 hown hK.1 hP 0 rfl rfl 5 (by decide) w_3 (fun _ h9 => h9) rfl dX0_mostWithoutGap_9 ?_
        refine lv_iload_n hx hb dX0_mostWithoutGap_12 rfl (lv_at hl 3 rfl) ?_
        refine lv_iload_n hx hb dX0_mostWithoutGap_13 rfl (lv_at hl 3 rfl) ?_
        refine lv_iload_n hx hb dX0_mostWithoutGap_14 rfl (lv_at hl 2 rfl) ?_
        refine lv_icmp_ne (tgt := 22) hx hb dX0_mostWithoutGap_15 (by decide) (fun c_28 => ?_) (fun c_28 => ?_)
        · replace hm := ie hm c_28
          refine lv_iconst (v := (-1 : Int32)) hx hb dX0_mostWithoutGap_22 (by decide) ?_
          replace hm := gdo hm hz
          obtain ⟨gi_29, hm⟩ := hm
          refine va_iast hx hb hK.1 hP hD hS 4 0 (cA := cA 0) (n := 10) (f := g_25) rfl rfl (ixi gi_29) dX0_mostWithoutGap_23 (fun H locs hP' hD' hS' => ?_)
          replace hP : va_P G vwCl (k_X0_mostWithoutGap cA o o_parcelOf o_grantor o_grantee o_dayOf o_most v_o_count g_o_parcelOf g_o_grantor g_o_grantee (upd g_25 x_24.toNatClampNeg (-1 : Int32))) H := hP'
          replace hD : va_D A (k_X0_mostWithoutGap cA o o_parcelOf o_grantor o_grantee o_dayOf o_most v_o_count g_o_parcelOf g_o_grantor g_o_grantee (upd g_25 x_24.toNatClampNeg (-1 : Int32))) := hD'
          replace hS := hS'
          refine lv_iinc (v := x_24 + (1 : Int32)) (lv' := [(3, .int (x_24 + (1 : Int32))), (0, .ref o), (1, .int p1), (2, .int p2)]) hx hb dX0_mostWithoutGap_24 hl (k := 3) rfl rfl (by decide) rfl (fun ls hl => ?_)
          refine lv_goto (tgt := 2) hx hb dX0_mostWithoutGap_27 (by decide) ?_
          exact ih2 (x_24 + (1 : Int32)) (upd g_25 x_24.toNatClampNeg (-1 : Int32)) _ _ _ hm hP hD hS (lv_sub hl [1, 2, 3, 0] rfl)
        · replace hm := it hm c_28
          refine lv_iconst (v := (0 : Int32)) hx hb dX0_mostWithoutGap_18 (by decide) ?_
          refine lv_goto (tgt := 23) hx hb dX0_mostWithoutGap_19 (by decide) ?_
          replace hm := gdo hm hz
          obtain ⟨gi_30, hm⟩ := hm
          refine va_iast hx hb hK.1 hP hD hS 4 0 (cA := cA 0) (n := 10) (f := g_25) rfl rfl (ixi gi_30) dX0_mostWithoutGap_23 (fun H locs hP' hD' hS' => ?_)
          replace hP : va_P G vwCl (k_X0_mostWithoutGap cA o o_parcelOf o_grantor o_grantee o_dayOf o_most v_o_count g_o_parcelOf g_o_grantor g_o_grantee (upd g_25 x_24.toNatClampNeg (0 : Int32))) H := hP'
          replace hD : va_D A (k_X0_mostWithoutGap cA o o_parcelOf o_grantor o_grantee o_dayOf o_most v_o_count g_o_parcelOf g_o_grantor g_o_grantee (upd g_25 x_24.toNatClampNeg (0 : Int32))) := hD'
          replace hS := hS'
          refine lv_iinc (v := x_24 + (1 : Int32)) (lv' := [(3, .int (x_24 + (1 : Int32))), (0, .ref o), (1, .int p1), (2, .int p2)]) hx hb dX0_mostWithoutGap_24 hl (k := 3) rfl rfl (by decide) rfl (fun ls hl => ?_)
          refine lv_goto (tgt := 2) hx hb dX0_mostWithoutGap_27 (by decide) ?_
          exact ih2 (x_24 + (1 : Int32)) (upd g_25 x_24.toNatClampNeg (0 : Int32)) _ _ _ hm hP hD hS (lv_sub hl [1, 2, 3, 0] rfl)
  exact L2_4 _ (0 : Int32) g_o_most _ _ _ hm hP hD hS (lv_sub hl [1, 2, 3, 0] rfl)
