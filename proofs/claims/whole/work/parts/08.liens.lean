/-! liens: models and walks, by program. -/
def m_X3_copyFrom (g_o_creditor : Nat → Int32) (g_o_amount : Nat → Int32) (g_o_parcels : Nat → Int32) (g_o_ranking : Nat → Int32) (v_q1_count : Int32) (v_q1_ranked : Int32) (g_q1_creditor : Nat → Int32) (g_q1_amount : Nat → Int32) (g_q1_parcels : Nat → Int32) (g_q1_ranking : Nat → Int32) : Option (Int32 × Int32 × (Nat → Int32) × (Nat → Int32) × (Nat → Int32) × (Nat → Int32)) := some (v_q1_count, v_q1_ranked, va_cpy g_q1_creditor g_o_creditor 0 0 20, va_cpy g_q1_amount g_o_amount 0 0 20, va_cpy g_q1_parcels g_o_parcels 0 0 20, va_cpy g_q1_ranking g_o_ranking 0 0 20)
abbrev k_X3_copyFrom (cA : Nat → ClassId) (o o_creditor o_amount o_parcels o_ranking q1 q1_creditor q1_amount q1_parcels q1_ranking : Nat) (v_o_count : Int32) (v_o_ranked : Int32) (g_o_creditor : Nat → Int32) (g_o_amount : Nat → Int32) (g_o_parcels : Nat → Int32) (g_o_ranking : Nat → Int32) (v_q1_count : Int32) (v_q1_ranked : Int32) (g_q1_creditor : Nat → Int32) (g_q1_amount : Nat → Int32) (g_q1_parcels : Nat → Int32) (g_q1_ranking : Nat → Int32) : va_W := [(o, .inr (5, [.int v_o_count, .int v_o_ranked, .ref o_creditor, .ref o_amount, .ref o_parcels, .ref o_ranking])), (o_creditor, .inl (cA 0, 20, .inl g_o_creditor)), (o_amount, .inl (cA 0, 20, .inl g_o_amount)), (o_parcels, .inl (cA 0, 20, .inl g_o_parcels)), (o_ranking, .inl (cA 0, 20, .inl g_o_ranking)), (q1, .inr (5, [.int v_q1_count, .int v_q1_ranked, .ref q1_creditor, .ref q1_amount, .ref q1_parcels, .ref q1_ranking])), (q1_creditor, .inl (cA 0, 20, .inl g_q1_creditor)), (q1_amount, .inl (cA 0, 20, .inl g_q1_amount)), (q1_parcels, .inl (cA 0, 20, .inl g_q1_parcels)), (q1_ranking, .inl (cA 0, 20, .inl g_q1_ranking))]
set_option maxHeartbeats 4000000 in
set_option maxRecDepth 100000 in
/-- X3_copyFrom: as its model -/
theorem c_X3_copyFrom (l : Launch) (G : va_G) (cA : Nat → ClassId) (o o_creditor o_amount o_parcels o_ranking q1 q1_creditor q1_amount q1_parcels q1_ranking : Nat) (sz : Nat) (v_o_count : Int32) (v_o_ranked : Int32) (g_o_creditor : Nat → Int32) (g_o_amount : Nat → Int32) (g_o_parcels : Nat → Int32) (g_o_ranking : Nat → Int32) (v_q1_count : Int32) (v_q1_ranked : Int32) (g_q1_creditor : Nat → Int32) (g_q1_amount : Nat → Int32) (g_q1_parcels : Nat → Int32) (g_q1_ranking : Nat → Int32) (R : Option (Int32 × Int32 × (Nat → Int32) × (Nat → Int32) × (Nat → Int32) × (Nat → Int32))) (hR : m_X3_copyFrom g_o_creditor g_o_amount g_o_parcels g_o_ranking v_q1_count v_q1_ranked g_q1_creditor g_q1_amount g_q1_parcels g_q1_ranking = R) (hz : R ≠ none) : Met l yX3_copyFrom wsX3_copyFrom ({ frames := 1, cells := 0, slots := 0, locals := 40 } : Room) (va_Pc [.ref o, .ref q1] (PM G cA (k_X3_copyFrom cA o o_creditor o_amount o_parcels o_ranking q1 q1_creditor q1_amount q1_parcels q1_ranking v_o_count v_o_ranked g_o_creditor g_o_amount g_o_parcels g_o_ranking v_q1_count v_q1_ranked g_q1_creditor g_q1_amount g_q1_parcels g_q1_ranking) sz)) (va_Qv (fun (u : Int32 × Int32 × (Nat → Int32) × (Nat → Int32) × (Nat → Int32) × (Nat → Int32)) => R = some u) (BM G (fun (u : Int32 × Int32 × (Nat → Int32) × (Nat → Int32) × (Nat → Int32) × (Nat → Int32)) => (k_X3_copyFrom cA o o_creditor o_amount o_parcels o_ranking q1 q1_creditor q1_amount q1_parcels q1_ranking u.1 u.2.1 u.2.2.1 u.2.2.2.1 u.2.2.2.2.1 u.2.2.2.2.2 v_q1_count v_q1_ranked g_q1_creditor g_q1_amount g_q1_parcels g_q1_ranking))) (va_A (k_X3_copyFrom cA o o_creditor o_amount o_parcels o_ranking q1 q1_creditor q1_amount q1_parcels q1_ranking v_o_count v_o_ranked g_o_creditor g_o_amount g_o_parcels g_o_ranking v_q1_count v_q1_ranked g_q1_creditor g_q1_amount g_q1_parcels g_q1_ranking) sz)) 0 0 (va_A (k_X3_copyFrom cA o o_creditor o_amount o_parcels o_ranking q1 q1_creditor q1_amount q1_parcels q1_ranking v_o_count v_o_ranked g_o_creditor g_o_amount g_o_parcels g_o_ranking v_q1_count v_q1_ranked g_q1_creditor g_q1_amount g_q1_parcels g_q1_ranking) sz) := by
  refine metV (by decide) rfl (Nat.le_of_ble_eq_true rfl) ?_
  intro p e s m av below meth c Q ls A H hx hb hml hts hown hP hK hD hA hS hl hret
  replace hl : lv_has ls 2 [(0, .ref o), (1, .ref q1)] := hl
  have w_0 := hts (.fieldLink RX3 9 "ParcelRegistry$Liens" "count" "I") (by decide +kernel)
  have w_1 := hts (.fieldLink RX3 15 "ParcelRegistry$Liens" "ranked" "I") (by decide +kernel)
  have w_2 := hts (.fieldLink RX3 18 "ParcelRegistry$Liens" "creditor" "[I") (by decide +kernel)
  have w_3 := hts (.methodLink RX3 31 arraycopyName) (by decide +kernel)
  have w_4 := hts (.native arraycopyName) (by decide +kernel)
  have w_5 := hts (.static arraycopyName) (by decide +kernel)
  have w_6 := hts (.initialized "java/lang/System") (by decide +kernel)
  have w_7 := hts (.fieldLink RX3 22 "ParcelRegistry$Liens" "amount" "[I") (by decide +kernel)
  have w_8 := hts (.fieldLink RX3 25 "ParcelRegistry$Liens" "parcels" "[I") (by decide +kernel)
  have w_9 := hts (.fieldLink RX3 28 "ParcelRegistry$Liens" "ranking" "[I") (by decide +kernel)
  have i_X3 : ∀ w ∈ wsX30, w ∈ wsX3_copyFrom := by decide +kernel
  have hm := hR
  unfold m_X3_copyFrom at hm
  refine lv_aload_n hx hb dX3_copyFrom_0 rfl (lv_at hl 0 rfl) ?_
  refine lv_aload_n hx hb dX3_copyFrom_1 rfl (lv_at hl 1 rfl) ?_
  refine va_get (D := G) (ci := 5) (v := .int v_q1_count) (C := RX3) (T := TX3) (N := 6) hx hb hts i_X3 hown hK.1 hP 5 rfl rfl 0 (by decide) w_0 (fun _ h9 => h9) rfl dX3_copyFrom_2 ?_
  refine va_put (D := G) (ci := 5) (v := .int v_q1_count) (ty := .int) (C := RX3) (T := TX3) (N := 6) hx hb hts i_X3 tyX3 tyX3_ok nmX3 hown hK.1 hP hD hS 0 rfl rfl 0 (by decide) w_0 (fun _ h9 => h9) rfl (by decide +kernel) rfl rfl (Nat.le_of_ble_eq_true rfl) dX3_copyFrom_5 (fun H locs hP' hD' hS' => ?_)
  replace hP : va_P G vwCl (k_X3_copyFrom cA o o_creditor o_amount o_parcels o_ranking q1 q1_creditor q1_amount q1_parcels q1_ranking v_q1_count v_o_ranked g_o_creditor g_o_amount g_o_parcels g_o_ranking v_q1_count v_q1_ranked g_q1_creditor g_q1_amount g_q1_parcels g_q1_ranking) H := hP'
  replace hD : va_D A (k_X3_copyFrom cA o o_creditor o_amount o_parcels o_ranking q1 q1_creditor q1_amount q1_parcels q1_ranking v_q1_count v_o_ranked g_o_creditor g_o_amount g_o_parcels g_o_ranking v_q1_count v_q1_ranked g_q1_creditor g_q1_amount g_q1_parcels g_q1_ranking) := hD'
  replace hS := hS'
  refine lv_aload_n hx hb dX3_copyFrom_8 rfl (lv_at hl 0 rfl) ?_
  refine lv_aload_n hx hb dX3_copyFrom_9 rfl (lv_at hl 1 rfl) ?_
  refine va_get (D := G) (ci := 5) (v := .int v_q1_ranked) (C := RX3) (T := TX3) (N := 6) hx hb hts i_X3 hown hK.1 hP 5 rfl rfl 1 (by decide) w_1 (fun _ h9 => h9) rfl dX3_copyFrom_10 ?_
  refine va_put (D := G) (ci := 5) (v := .int v_q1_ranked) (ty := .int) (C := RX3) (T := TX3) (N := 6) hx hb hts i_X3 tyX3 tyX3_ok nmX3 hown hK.1 hP hD hS 0 rfl rfl 1 (by decide) w_1 (fun _ h9 => h9) rfl (by decide +kernel) rfl rfl (Nat.le_of_ble_eq_true rfl) dX3_copyFrom_13 (fun H locs hP' hD' hS' => ?_)
  replace hP : va_P G vwCl (k_X3_copyFrom cA o o_creditor o_amount o_parcels o_ranking q1 q1_creditor q1_amount q1_parcels q1_ranking v_q1_count v_q1_ranked g_o_creditor g_o_amount g_o_parcels g_o_ranking v_q1_count v_q1_ranked g_q1_creditor g_q1_amount g_q1_parcels g_q1_ranking) H := hP'
  replace hD : va_D A (k_X3_copyFrom cA o o_creditor o_amount o_parcels o_ranking q1 q1_creditor q1_amount q1_parcels q1_ranking v_q1_count v_q1_ranked g_o_creditor g_o_amount g_o_parcels g_o_ranking v_q1_count v_q1_ranked g_q1_creditor g_q1_amount g_q1_parcels g_q1_ranking) := hD'
  replace hS := hS'
  refine lv_aload_n hx hb dX3_copyFrom_16 rfl (lv_at hl 1 rfl) ?_
  refine va_get (D := G) (ci := 5) (v := .ref q1_creditor) (C := RX3) (T := TX3) (N := 6) hx hb hts i_X3 hown hK.1 hP 5 rfl rfl 2 (by decide) w_2 (fun _ h9 => h9) rfl dX3_copyFrom_17 ?_
  refine lv_iconst (v := (0 : Int32)) hx hb dX3_copyFrom_20 (by decide) ?_
  refine lv_aload_n hx hb dX3_copyFrom_21 rfl (lv_at hl 0 rfl) ?_
  refine va_get (D := G) (ci := 5) (v := .ref o_creditor) (C := RX3) (T := TX3) (N := 6) hx hb hts i_X3 hown hK.1 hP 0 rfl rfl 2 (by decide) w_2 (fun _ h9 => h9) rfl dX3_copyFrom_22 ?_
  refine lv_iconst (v := (0 : Int32)) hx hb dX3_copyFrom_25 (by decide) ?_
  refine lv_bipush (v := (20 : Int32)) hx hb dX3_copyFrom_26 (by decide) ?_
  refine va_copyi hx hb (hml.trans hl.1.symm) hown w_3 w_4 w_5 w_6 hK.1 hP hD hS 6 1 0 0 (c0 := cA 0) (c1 := cA 0) (n0 := 20) (n1 := 20) (f := g_q1_creditor) (g := g_o_creditor) (ty := .int) rfl rfl rfl rfl rfl (by decide) (by decide) (by decide) (by decide) (by decide) (fun _ _ => rfl) (Nat.le_of_ble_eq_true rfl) (Nat.le_of_ble_eq_true rfl) dX3_copyFrom_28 (fun H locs hP' hD' hS' => ?_)
  replace hP : va_P G vwCl (k_X3_copyFrom cA o o_creditor o_amount o_parcels o_ranking q1 q1_creditor q1_amount q1_parcels q1_ranking v_q1_count v_q1_ranked (va_cpy g_q1_creditor g_o_creditor 0 0 20) g_o_amount g_o_parcels g_o_ranking v_q1_count v_q1_ranked g_q1_creditor g_q1_amount g_q1_parcels g_q1_ranking) H := hP'
  replace hD : va_D A (k_X3_copyFrom cA o o_creditor o_amount o_parcels o_ranking q1 q1_creditor q1_amount q1_parcels q1_ranking v_q1_count v_q1_ranked (va_cpy g_q1_creditor g_o_creditor 0 0 20) g_o_amount g_o_parcels g_o_ranking v_q1_count v_q1_ranked g_q1_creditor g_q1_amount g_q1_parcels g_q1_ranking) := hD'
  replace hS := hS'
  refine lv_aload_n hx hb dX3_copyFrom_31 rfl (lv_at hl 1 rfl) ?_
  refine va_get (D := G) (ci := 5) (v := .ref q1_amount) (C := RX3) (T := TX3) (N := 6) hx hb hts i_X3 hown hK.1 hP 5 rfl rfl 3 (by decide) w_7 (fun _ h9 => h9) rfl dX3_copyFrom_32 ?_
  refine lv_iconst (v := (0 : Int32)) hx hb dX3_copyFrom_35 (by decide) ?_
  refine lv_aload_n hx hb dX3_copyFrom_36 rfl (lv_at hl 0 rfl) ?_
  refine va_get (D := G) (ci := 5) (v := .ref o_amount) (C := RX3) (T := TX3) (N := 6) hx hb hts i_X3 hown hK.1 hP 0 rfl rfl 3 (by decide) w_7 (fun _ h9 => h9) rfl dX3_copyFrom_37 ?_
  refine lv_iconst (v := (0 : Int32)) hx hb dX3_copyFrom_40 (by decide) ?_
  refine lv_bipush (v := (20 : Int32)) hx hb dX3_copyFrom_41 (by decide) ?_
  refine va_copyi hx hb (hml.trans hl.1.symm) hown w_3 w_4 w_5 w_6 hK.1 hP hD hS 7 2 0 0 (c0 := cA 0) (c1 := cA 0) (n0 := 20) (n1 := 20) (f := g_q1_amount) (g := g_o_amount) (ty := .int) rfl rfl rfl rfl rfl (by decide) (by decide) (by decide) (by decide) (by decide) (fun _ _ => rfl) (Nat.le_of_ble_eq_true rfl) (Nat.le_of_ble_eq_true rfl) dX3_copyFrom_43 (fun H locs hP' hD' hS' => ?_)
  replace hP : va_P G vwCl (k_X3_copyFrom cA o o_creditor o_amount o_parcels o_ranking q1 q1_creditor q1_amount q1_parcels q1_ranking v_q1_count v_q1_ranked (va_cpy g_q1_creditor g_o_creditor 0 0 20) (va_cpy g_q1_amount g_o_amount 0 0 20) g_o_parcels g_o_ranking v_q1_count v_q1_ranked g_q1_creditor g_q1_amount g_q1_parcels g_q1_ranking) H := hP'
  replace hD : va_D A (k_X3_copyFrom cA o o_creditor o_amount o_parcels o_ranking q1 q1_creditor q1_amount q1_parcels q1_ranking v_q1_count v_q1_ranked (va_cpy g_q1_creditor g_o_creditor 0 0 20) (va_cpy g_q1_amount g_o_amount 0 0 20) g_o_parcels g_o_ranking v_q1_count v_q1_ranked g_q1_creditor g_q1_amount g_q1_parcels g_q1_ranking) := hD'
  replace hS := hS'
  refine lv_aload_n hx hb dX3_copyFrom_46 rfl (lv_at hl 1 rfl) ?_
  refine va_get (D := G) (ci := 5) (v := .ref q1_parcels) (C := RX3) (T := TX3) (N := 6) hx hb hts i_X3 hown hK.1 hP 5 rfl rfl 4 (by decide) w_8 (fun _ h9 => h9) rfl dX3_copyFrom_47 ?_
  refine lv_iconst (v := (0 : Int32)) hx hb dX3_copyFrom_50 (by decide) ?_
  refine lv_aload_n hx hb dX3_copyFrom_51 rfl (lv_at hl 0 rfl) ?_
  refine va_get (D := G) (ci := 5) (v := .ref o_parcels) (C := RX3) (T := TX3) (N := 6) hx hb hts i_X3 hown hK.1 hP 0 rfl rfl 4 (by decide) w_8 (fun _ h9 => h9) rfl dX3_copyFrom_52 ?_
  refine lv_iconst (v := (0 : Int32)) hx hb dX3_copyFrom_55 (by decide) ?_
  refine lv_bipush (v := (20 : Int32)) hx hb dX3_copyFrom_56 (by decide) ?_
  refine va_copyi hx hb (hml.trans hl.1.symm) hown w_3 w_4 w_5 w_6 hK.1 hP hD hS 8 3 0 0 (c0 := cA 0) (c1 := cA 0) (n0 := 20) (n1 := 20) (f := g_q1_parcels) (g := g_o_parcels) (ty := .int) rfl rfl rfl rfl rfl (by decide) (by decide) (by decide) (by decide) (by decide) (fun _ _ => rfl) (Nat.le_of_ble_eq_true rfl) (Nat.le_of_ble_eq_true rfl) dX3_copyFrom_58 (fun H locs hP' hD' hS' => ?_)
  replace hP : va_P G vwCl (k_X3_copyFrom cA o o_creditor o_amount o_parcels o_ranking q1 q1_creditor q1_amount q1_parcels q1_ranking v_q1_count v_q1_ranked (va_cpy g_q1_creditor g_o_creditor 0 0 20) (va_cpy g_q1_amount g_o_amount 0 0 20) (va_cpy g_q1_parcels g_o_parcels 0 0 20) g_o_ranking v_q1_count v_q1_ranked g_q1_creditor g_q1_amount g_q1_parcels g_q1_ranking) H := hP'
  replace hD : va_D A (k_X3_copyFrom cA o o_creditor o_amount o_parcels o_ranking q1 q1_creditor q1_amount q1_parcels q1_ranking v_q1_count v_q1_ranked (va_cpy g_q1_creditor g_o_creditor 0 0 20) (va_cpy g_q1_amount g_o_amount 0 0 20) (va_cpy g_q1_parcels g_o_parcels 0 0 20) g_o_ranking v_q1_count v_q1_ranked g_q1_creditor g_q1_amount g_q1_parcels g_q1_ranking) := hD'
  replace hS := hS'
  refine lv_aload_n hx hb dX3_copyFrom_61 rfl (lv_at hl 1 rfl) ?_
  refine va_get (D := G) (ci := 5) (v := .ref q1_ranking) (C := RX3) (T := TX3) (N := 6) hx hb hts i_X3 hown hK.1 hP 5 rfl rfl 5 (by decide) w_9 (fun _ h9 => h9) rfl dX3_copyFrom_62 ?_
  refine lv_iconst (v := (0 : Int32)) hx hb dX3_copyFrom_65 (by decide) ?_
  refine lv_aload_n hx hb dX3_copyFrom_66 rfl (lv_at hl 0 rfl) ?_
  refine va_get (D := G) (ci := 5) (v := .ref o_ranking) (C := RX3) (T := TX3) (N := 6) hx hb hts i_X3 hown hK.1 hP 0 rfl rfl 5 (by decide) w_9 (fun _ h9 => h9) rfl dX3_copyFrom_67 ?_
  refine lv_iconst (v := (0 : Int32)) hx hb dX3_copyFrom_70 (by decide) ?_
  refine lv_bipush (v := (20 : Int32)) hx hb dX3_copyFrom_71 (by decide) ?_
  refine va_copyi hx hb (hml.trans hl.1.symm) hown w_3 w_4 w_5 w_6 hK.1 hP hD hS 9 4 0 0 (c0 := cA 0) (c1 := cA 0) (n0 := 20) (n1 := 20) (f := g_q1_ranking) (g := g_o_ranking) (ty := .int) rfl rfl rfl rfl rfl (by decide) (by decide) (by decide) (by decide) (by decide) (fun _ _ => rfl) (Nat.le_of_ble_eq_true rfl) (Nat.le_of_ble_eq_true rfl) dX3_copyFrom_73 (fun H locs hP' hD' hS' => ?_)
  replace hP : va_P G vwCl (k_X3_copyFrom cA o o_creditor o_amount o_parcels o_ranking q1 q1_creditor q1_amount q1_parcels q1_ranking v_q1_count v_q1_ranked (va_cpy g_q1_creditor g_o_creditor 0 0 20) (va_cpy g_q1_amount g_o_amount 0 0 20) (va_cpy g_q1_parcels g_o_parcels 0 0 20) (va_cpy g_q1_ranking g_o_ranking 0 0 20) v_q1_count v_q1_ranked g_q1_creditor g_q1_amount g_q1_parcels g_q1_ranking) H := hP'
  replace hD : va_D A (k_X3_copyFrom cA o o_creditor o_amount o_parcels o_ranking q1 q1_creditor q1_amount q1_parcels q1_ranking v_q1_count v_q1_ranked (va_cpy g_q1_creditor g_o_creditor 0 0 20) (va_cpy g_q1_amount g_o_amount 0 0 20) (va_cpy g_q1_parcels g_o_parcels 0 0 20) (va_cpy g_q1_ranking g_o_ranking 0 0 20) v_q1_count v_q1_ranked g_q1_creditor g_q1_amount g_q1_parcels g_q1_ranking) := hD'
  replace hS := hS'
  exact hret _ _ (v_q1_count, v_q1_ranked, va_cpy g_q1_creditor g_o_creditor 0 0 20, va_cpy g_q1_amount g_o_amount 0 0 20, va_cpy g_q1_parcels g_o_parcels 0 0 20, va_cpy g_q1_ranking g_o_ranking 0 0 20) _ _ dX3_copyFrom_76 hP hS hm.symm
def m_X3_follow_L2 (v_o_ranked : Int32) (g_o_ranking : Nat → Int32) (p1 : Int32) (p2 : Int32) : ((Int32 × (Nat → Int32)) → Option ((Nat → Int32))) → (Int32 × (Nat → Int32)) → Option ((Nat → Int32)) := fun rec_3 v => match v with
  | (x_1, g_2) => (if v_o_ranked ≤ x_1 then some g_2 else gd (ix x_1 20) (gd (ix (g_o_ranking x_1.toNatClampNeg) 20) ((if ((g_2 (g_o_ranking x_1.toNatClampNeg).toNatClampNeg) &&& p1) = 0 then rec_3 (x_1 + (1 : Int32), g_2) else gd (ix (g_o_ranking x_1.toNatClampNeg) 20) (gd (ix (g_o_ranking x_1.toNatClampNeg) 20) (rec_3 (x_1 + (1 : Int32), upd g_2 (g_o_ranking x_1.toNatClampNeg).toNatClampNeg (((g_2 (g_o_ranking x_1.toNatClampNeg).toNatClampNeg) &&& (p1 ^^^ (-1 : Int32))) ||| p2))))))))
def m_X3_follow (p1 : Int32) (p2 : Int32) (v_o_ranked : Int32) (g_o_parcels : Nat → Int32) (g_o_ranking : Nat → Int32) : Option ((Nat → Int32)) := fuel (m_X3_follow_L2 v_o_ranked g_o_ranking p1 p2) FU ((0 : Int32), g_o_parcels)
abbrev k_X3_follow (cA : Nat → ClassId) (o o_creditor o_amount o_parcels o_ranking : Nat) (v_o_count : Int32) (v_o_ranked : Int32) (g_o_parcels : Nat → Int32) (g_o_ranking : Nat → Int32) : va_W := [(o, .inr (5, [.int v_o_count, .int v_o_ranked, .ref o_creditor, .ref o_amount, .ref o_parcels, .ref o_ranking])), (o_parcels, .inl (cA 0, 20, .inl g_o_parcels)), (o_ranking, .inl (cA 0, 20, .inl g_o_ranking))]
set_option maxHeartbeats 4000000 in
set_option maxRecDepth 100000 in
/-- X3_follow: as its model -/
theorem c_X3_follow (l : Launch) (G : va_G) (cA : Nat → ClassId) (o o_creditor o_amount o_parcels o_ranking : Nat) (sz : Nat) (p1 : Int32) (p2 : Int32) (v_o_count : Int32) (v_o_ranked : Int32) (g_o_parcels : Nat → Int32) (g_o_ranking : Nat → Int32) (R : Option ((Nat → Int32))) (hR : m_X3_follow p1 p2 v_o_ranked g_o_parcels g_o_ranking = R) (hz : R ≠ none) : Met l yX3_follow wsX3_follow ({ frames := 0, cells := 0, slots := 0, locals := 0 } : Room) (va_Pc [.ref o, .int p1, .int p2] (PM G cA (k_X3_follow cA o o_creditor o_amount o_parcels o_ranking v_o_count v_o_ranked g_o_parcels g_o_ranking) sz)) (va_Qv (fun (u : (Nat → Int32)) => R = some u) (BM G (fun (u : (Nat → Int32)) => (k_X3_follow cA o o_creditor o_amount o_parcels o_ranking v_o_count v_o_ranked u g_o_ranking))) (va_A (k_X3_follow cA o o_creditor o_amount o_parcels o_ranking v_o_count v_o_ranked g_o_parcels g_o_ranking) sz)) 0 0 (va_A (k_X3_follow cA o o_creditor o_amount o_parcels o_ranking v_o_count v_o_ranked g_o_parcels g_o_ranking) sz) := by
  refine metV (by decide) rfl (Nat.le_of_ble_eq_true rfl) ?_
  intro p e s m av below meth c Q ls A H hx hb hml hts hown hP hK hD hA hS hl hret
  replace hl : lv_has ls 5 [(0, .ref o), (1, .int p1), (2, .int p2)] := hl
  have w_0 := hts (.fieldLink RX3 15 "ParcelRegistry$Liens" "ranked" "I") (by decide +kernel)
  have w_1 := hts (.fieldLink RX3 28 "ParcelRegistry$Liens" "ranking" "[I") (by decide +kernel)
  have w_2 := hts (.fieldLink RX3 25 "ParcelRegistry$Liens" "parcels" "[I") (by decide +kernel)
  have i_X3 : ∀ w ∈ wsX30, w ∈ wsX3_follow := by decide +kernel
  have hm := hR
  unfold m_X3_follow at hm
  refine lv_iconst (v := (0 : Int32)) hx hb dX3_follow_0 (by decide) ?_
  refine lv_istore_n (lv' := [(3, .int (0 : Int32)), (0, .ref o), (1, .int p1), (2, .int p2)]) hx hb dX3_follow_1 rfl hl (by decide) rfl (fun ls hl => ?_)
  have L2_1 : ∀ (n : Nat), ∀ (x_1 : Int32) (g_2 : Nat → Int32), ∀ (H : Heap) (locs : List Loc) (ls : Array Slot), fuel (m_X3_follow_L2 v_o_ranked g_o_ranking p1 p2) n (x_1, g_2) = R → va_P G vwCl (k_X3_follow cA o o_creditor o_amount o_parcels o_ranking v_o_count v_o_ranked g_2 g_o_ranking) H → va_D A (k_X3_follow cA o o_creditor o_amount o_parcels o_ranking v_o_count v_o_ranked g_2 g_o_ranking) → va_S A s.heap H locs → lv_has ls 5 [(0, .ref o), (1, .int p1), (2, .int p2), (3, .int x_1)] → W p l e ({ frames := 0, cells := 0, slots := 0, locals := 0 } : Room) s m av below meth c H locs 0 0 Q (F0 m 2 ls []) := by
    intro n
    induction n with
    | zero =>
      intro x_1 g_2 H locs ls hm hP hD hS hl
      exact (fu0 hm hz).elim
    | succ n ih2 =>
      intro x_1 g_2 H locs ls hm hP hD hS hl
      replace hm := fus hm
      generalize fuel (m_X3_follow_L2 v_o_ranked g_o_ranking p1 p2) n = rec_3 at hm ih2
      unfold m_X3_follow_L2 at hm
      refine lv_iload_n hx hb dX3_follow_2 rfl (lv_at hl 3 rfl) ?_
      refine lv_aload_n hx hb dX3_follow_3 rfl (lv_at hl 0 rfl) ?_
      refine va_get (D := G) (ci := 5) (v := .int v_o_ranked) (C := RX3) (T := TX3) (N := 6) hx hb hts i_X3 hown hK.1 hP 0 rfl rfl 1 (by decide) w_0 (fun _ h9 => h9) rfl dX3_follow_4 ?_
      refine lv_icmp_ge (tgt := 56) hx hb dX3_follow_7 (by decide) (fun c_4 => ?_) (fun c_4 => ?_)
      · replace hm := it hm c_4
        exact hret _ _ g_2 _ _ dX3_follow_56 hP hS hm.symm
      · replace hm := ie hm c_4
        refine lv_aload_n hx hb dX3_follow_10 rfl (lv_at hl 0 rfl) ?_
        refine va_get (D := G) (ci := 5) (v := .ref o_ranking) (C := RX3) (T := TX3) (N := 6) hx hb hts i_X3 hown hK.1 hP 0 rfl rfl 5 (by decide) w_1 (fun _ h9 => h9) rfl dX3_follow_11 ?_
        refine lv_iload_n hx hb dX3_follow_14 rfl (lv_at hl 3 rfl) ?_
        replace hm := gdo hm hz
        obtain ⟨gi_5, hm⟩ := hm
        refine va_iald hx hb hK.1 hP 2 0 (cA := cA 0) (n := 20) (f := g_o_ranking) rfl rfl (ixi gi_5) dX3_follow_15 ?_
        refine lv_istore (lv' := [(4, .int (g_o_ranking x_1.toNatClampNeg)), (0, .ref o), (1, .int p1), (2, .int p2), (3, .int x_1)]) hx hb dX3_follow_16 hl (by decide) rfl (fun ls hl => ?_)
        refine lv_aload_n hx hb dX3_follow_18 rfl (lv_at hl 1 rfl) ?_
        refine va_get (D := G) (ci := 5) (v := .ref o_parcels) (C := RX3) (T := TX3) (N := 6) hx hb hts i_X3 hown hK.1 hP 0 rfl rfl 4 (by decide) w_2 (fun _ h9 => h9) rfl dX3_follow_19 ?_
        refine lv_iload hx hb dX3_follow_22 (lv_at hl 0 rfl) ?_
        replace hm := gdo hm hz
        obtain ⟨gi_6, hm⟩ := hm
        refine va_iald hx hb hK.1 hP 1 0 (cA := cA 0) (n := 20) (f := g_2) rfl rfl (ixi gi_6) dX3_follow_24 ?_
        refine lv_iload_n hx hb dX3_follow_25 rfl (lv_at hl 2 rfl) ?_
        refine lv_iand hx hb dX3_follow_26 ?_
        refine lv_if_eq (tgt := 50) hx hb dX3_follow_27 (by decide) (fun c_7 => ?_) (fun c_7 => ?_)
        · replace hm := it hm c_7
          refine lv_iinc (v := x_1 + (1 : Int32)) (lv' := [(3, .int (x_1 + (1 : Int32))), (4, .int (g_o_ranking x_1.toNatClampNeg)), (0, .ref o), (1, .int p1), (2, .int p2)]) hx hb dX3_follow_50 hl (k := 4) rfl rfl (by decide) rfl (fun ls hl => ?_)
          refine lv_goto (tgt := 2) hx hb dX3_follow_53 (by decide) ?_
          exact ih2 (x_1 + (1 : Int32)) g_2 _ _ _ hm hP hD hS (lv_sub hl [2, 3, 4, 0] rfl)
        · replace hm := ie hm c_7
          refine lv_aload_n hx hb dX3_follow_30 rfl (lv_at hl 1 rfl) ?_
          refine va_get (D := G) (ci := 5) (v := .ref o_parcels) (C := RX3) (T := TX3) (N := 6) hx hb hts i_X3 hown hK.1 hP 0 rfl rfl 4 (by decide) w_2 (fun _ h9 => h9) rfl dX3_follow_31 ?_
          refine lv_iload hx hb dX3_follow_34 (lv_at hl 0 rfl) ?_
          refine lv_aload_n hx hb dX3_follow_36 rfl (lv_at hl 1 rfl) ?_
          refine va_get (D := G) (ci := 5) (v := .ref o_parcels) (C := RX3) (T := TX3) (N := 6) hx hb hts i_X3 hown hK.1 hP 0 rfl rfl 4 (by decide) w_2 (fun _ h9 => h9) rfl dX3_follow_37 ?_
          refine lv_iload hx hb dX3_follow_40 (lv_at hl 0 rfl) ?_
          replace hm := gdo hm hz
          obtain ⟨gi_8, hm⟩ := hm
          refine va_iald hx hb hK.1 hP 1 0 (cA := cA 0) (n := 20) (f := g_2) rfl rfl (ixi gi_8) dX3_follow_42 ?_
          refine lv_iload_n hx hb dX3_follow_43 rfl (lv_at hl 2 rfl) ?_
          refine lv_iconst (v := (-1 : Int32)) hx hb dX3_follow_44 (by decide) ?_
          refine lv_ixor hx hb dX3_follow_45 ?_
          refine lv_iand hx hb dX3_follow_46 ?_
          refine lv_iload_n hx hb dX3_follow_47 rfl (lv_at hl 3 rfl) ?_
          refine lv_ior hx hb dX3_follow_48 ?_
          replace hm := gdo hm hz
          obtain ⟨gi_9, hm⟩ := hm
          refine va_iast hx hb hK.1 hP hD hS 1 0 (cA := cA 0) (n := 20) (f := g_2) rfl rfl (ixi gi_9) dX3_follow_49 (fun H locs hP' hD' hS' => ?_)
          replace hP : va_P G vwCl (k_X3_follow cA o o_creditor o_amount o_parcels o_ranking v_o_count v_o_ranked (upd g_2 (g_o_ranking x_1.toNatClampNeg).toNatClampNeg (((g_2 (g_o_ranking x_1.toNatClampNeg).toNatClampNeg) &&& (p1 ^^^ (-1 : Int32))) ||| p2)) g_o_ranking) H := hP'
          replace hD : va_D A (k_X3_follow cA o o_creditor o_amount o_parcels o_ranking v_o_count v_o_ranked (upd g_2 (g_o_ranking x_1.toNatClampNeg).toNatClampNeg (((g_2 (g_o_ranking x_1.toNatClampNeg).toNatClampNeg) &&& (p1 ^^^ (-1 : Int32))) ||| p2)) g_o_ranking) := hD'
          replace hS := hS'
          refine lv_iinc (v := x_1 + (1 : Int32)) (lv' := [(3, .int (x_1 + (1 : Int32))), (4, .int (g_o_ranking x_1.toNatClampNeg)), (0, .ref o), (1, .int p1), (2, .int p2)]) hx hb dX3_follow_50 hl (k := 4) rfl rfl (by decide) rfl (fun ls hl => ?_)
          refine lv_goto (tgt := 2) hx hb dX3_follow_53 (by decide) ?_
          exact ih2 (x_1 + (1 : Int32)) (upd g_2 (g_o_ranking x_1.toNatClampNeg).toNatClampNeg (((g_2 (g_o_ranking x_1.toNatClampNeg).toNatClampNeg) &&& (p1 ^^^ (-1 : Int32))) ||| p2)) _ _ _ hm hP hD hS (lv_sub hl [2, 3, 4, 0] rfl)
  exact L2_1 _ (0 : Int32) g_o_parcels _ _ _ hm hP hD hS (lv_sub hl [1, 2, 3, 0] rfl)
def m_X3_liesOn (p1 : Int32) (p2 : Int32) (g_o_parcels : Nat → Int32) (g_o_ranking : Nat → Int32) : Option (Int32) := gd (ix p1 20) (gd (ix (g_o_ranking p1.toNatClampNeg) 20) (Option.bind (m_X7_isIn (g_o_parcels (g_o_ranking p1.toNatClampNeg).toNatClampNeg) p2) (fun r_3 => gd (isb r_3) (some r_3))))
abbrev k_X3_liesOn (cA : Nat → ClassId) (o o_creditor o_amount o_parcels o_ranking : Nat) (v_o_count : Int32) (v_o_ranked : Int32) (g_o_parcels : Nat → Int32) (g_o_ranking : Nat → Int32) : va_W := [(o, .inr (5, [.int v_o_count, .int v_o_ranked, .ref o_creditor, .ref o_amount, .ref o_parcels, .ref o_ranking])), (o_parcels, .inl (cA 0, 20, .inl g_o_parcels)), (o_ranking, .inl (cA 0, 20, .inl g_o_ranking))]
set_option maxHeartbeats 4000000 in
set_option maxRecDepth 100000 in
/-- X3_liesOn: as its model -/
theorem c_X3_liesOn (l : Launch) (G : va_G) (cA : Nat → ClassId) (o o_creditor o_amount o_parcels o_ranking : Nat) (p1 : Int32) (p2 : Int32) (v_o_count : Int32) (v_o_ranked : Int32) (g_o_parcels : Nat → Int32) (g_o_ranking : Nat → Int32) (R : Option (Int32)) (hR : m_X3_liesOn p1 p2 g_o_parcels g_o_ranking = R) (hz : R ≠ none) : Met l yX3_liesOn wsX3_liesOn ({ frames := 1, cells := 0, slots := 0, locals := 21 } : Room) (va_Pc [.ref o, .int p1, .int p2] (PR G cA (k_X3_liesOn cA o o_creditor o_amount o_parcels o_ranking v_o_count v_o_ranked g_o_parcels g_o_ranking))) (vp_Si (fun r => R = some r ∧ (r = 0 ∨ r = 1))) 0 0 (fun _ => False) := by
  refine metR .boolean (by decide) rfl (Nat.le_of_ble_eq_true rfl) ?_
  intro p e s m av below meth c Q ls hx hb hml hts hown hP hK hl hret
  replace hl : lv_has ls 3 [(0, .ref o), (1, .int p1), (2, .int p2)] := hl
  have w_0 := hts (.fieldLink RX3 25 "ParcelRegistry$Liens" "parcels" "[I") (by decide +kernel)
  have w_1 := hts (.fieldLink RX3 28 "ParcelRegistry$Liens" "ranking" "[I") (by decide +kernel)
  have w_2 := hts (.initialized RX7) (by decide +kernel)
  have w_3 := hts (.static yX7_isIn) (by decide +kernel)
  have i_X3 : ∀ w ∈ wsX30, w ∈ wsX3_liesOn := by decide +kernel
  have hm := hR
  unfold m_X3_liesOn at hm
  refine lv_aload_n hx hb dX3_liesOn_0 rfl (lv_at hl 0 rfl) ?_
  refine va_get (D := G) (ci := 5) (v := .ref o_parcels) (C := RX3) (T := TX3) (N := 6) hx hb hts i_X3 hown hK.1 hP 0 rfl rfl 4 (by decide) w_0 (fun _ h9 => h9) rfl dX3_liesOn_1 ?_
  refine lv_aload_n hx hb dX3_liesOn_4 rfl (lv_at hl 0 rfl) ?_
  refine va_get (D := G) (ci := 5) (v := .ref o_ranking) (C := RX3) (T := TX3) (N := 6) hx hb hts i_X3 hown hK.1 hP 0 rfl rfl 5 (by decide) w_1 (fun _ h9 => h9) rfl dX3_liesOn_5 ?_
  refine lv_iload_n hx hb dX3_liesOn_8 rfl (lv_at hl 1 rfl) ?_
  replace hm := gdo hm hz
  obtain ⟨gi_1, hm⟩ := hm
  refine va_iald hx hb hK.1 hP 2 0 (cA := cA 0) (n := 20) (f := g_o_ranking) rfl rfl (ixi gi_1) dX3_liesOn_9 ?_
  replace hm := gdo hm hz
  obtain ⟨gi_2, hm⟩ := hm
  refine va_iald hx hb hK.1 hP 1 0 (cA := cA 0) (n := 20) (f := g_o_parcels) rfl rfl (ixi gi_2) dX3_liesOn_10 ?_
  refine lv_iload_n hx hb dX3_liesOn_11 rfl (lv_at hl 2 rfl) ?_
  refine vp_callSi (va_Run.run (va_runSN (As := [.int (g_o_parcels (g_o_ranking p1.toNatClampNeg).toNatClampNeg), .int p2]) (rest := []) ⟨hx, hb, hml, hown, hts⟩ (c_X7_isIn l G cA (g_o_parcels (g_o_ranking p1.toNatClampNeg).toNatClampNeg) p2 _ rfl (bnz hm hz)) ⟨va_cnB (host := "ParcelRegistry") 2 hts gX3_liesOn_X7_isIn_n41 rfl rfl rfl (hK.2 (RX3, 41, yX7_isIn) (List.mem_of_getElem? (i := 10) rfl)) w_2 (by decide +kernel) ⟨Nat.le_of_ble_eq_true rfl, Nat.le_of_ble_eq_true rfl⟩, w_3, trivial⟩ (preRS (hP.sub [] rfl) hK) rfl rfl hl.1 rfl (lv_room (Nat.le_of_ble_eq_true rfl)) dX3_liesOn_12 ⟨Nat.zero_le _, Nat.zero_le _⟩)) (fun r_3 hw => ?_)
  replace hm := bst hm hw.1
  replace hm := gdo hm hz
  obtain ⟨gb_4, hm⟩ := hm
  exact hret _ _ _ dX3_liesOn_15 (nz (isbz gb_4)) ⟨hm.symm, (isbz gb_4)⟩
def m_X3_onParcel_L4 (v_o_ranked : Int32) (g_o_parcels : Nat → Int32) (g_o_ranking : Nat → Int32) (p1 : Int32) : ((Int32 × Int32) → Option (Int32)) → (Int32 × Int32) → Option (Int32) := fun rec_3 v => match v with
  | (x_1, x_2) => (if v_o_ranked ≤ x_2 then some x_1 else Option.bind (m_X3_liesOn x_2 p1 g_o_parcels g_o_ranking) (fun r_5 => (if r_5 = 0 then rec_3 (x_1, x_2 + (1 : Int32)) else gd (ix x_2 20) (nm (x_1 ||| ((1 : Int32) <<< ((g_o_ranking x_2.toNatClampNeg) &&& 31))) (fun x_8 => rec_3 (x_8, x_2 + (1 : Int32)))))))
def m_X3_onParcel (p1 : Int32) (v_o_ranked : Int32) (g_o_parcels : Nat → Int32) (g_o_ranking : Nat → Int32) : Option (Int32) := fuel (m_X3_onParcel_L4 v_o_ranked g_o_parcels g_o_ranking p1) FU ((0 : Int32), (0 : Int32))
abbrev k_X3_onParcel (cA : Nat → ClassId) (o o_creditor o_amount o_parcels o_ranking : Nat) (v_o_count : Int32) (v_o_ranked : Int32) (g_o_parcels : Nat → Int32) (g_o_ranking : Nat → Int32) : va_W := [(o, .inr (5, [.int v_o_count, .int v_o_ranked, .ref o_creditor, .ref o_amount, .ref o_parcels, .ref o_ranking])), (o_parcels, .inl (cA 0, 20, .inl g_o_parcels)), (o_ranking, .inl (cA 0, 20, .inl g_o_ranking))]
set_option maxHeartbeats 4000000 in
set_option maxRecDepth 100000 in
/-- X3_onParcel: as its model -/
theorem c_X3_onParcel (l : Launch) (G : va_G) (cA : Nat → ClassId) (o o_creditor o_amount o_parcels o_ranking : Nat) (p1 : Int32) (v_o_count : Int32) (v_o_ranked : Int32) (g_o_parcels : Nat → Int32) (g_o_ranking : Nat → Int32) (R : Option (Int32)) (hR : m_X3_onParcel p1 v_o_ranked g_o_parcels g_o_ranking = R) (hz : R ≠ none) : Met l yX3_onParcel wsX3_onParcel ({ frames := 2, cells := 0, slots := 0, locals := 43 } : Room) (va_Pc [.ref o, .int p1] (PR G cA (k_X3_onParcel cA o o_creditor o_amount o_parcels o_ranking v_o_count v_o_ranked g_o_parcels g_o_ranking))) (vp_Si (fun r => R = some r)) 0 0 (fun _ => False) := by
  refine metR .int (by decide) rfl (Nat.le_of_ble_eq_true rfl) ?_
  intro p e s m av below meth c Q ls hx hb hml hts hown hP hK hl hret
  replace hl : lv_has ls 4 [(0, .ref o), (1, .int p1)] := hl
  have w_0 := hts (.fieldLink RX3 15 "ParcelRegistry$Liens" "ranked" "I") (by decide +kernel)
  have w_1 := hts (.fieldLink RX3 28 "ParcelRegistry$Liens" "ranking" "[I") (by decide +kernel)
  have i_X3 : ∀ w ∈ wsX30, w ∈ wsX3_onParcel := by decide +kernel
  have hm := hR
  unfold m_X3_onParcel at hm
  refine lv_iconst (v := (0 : Int32)) hx hb dX3_onParcel_0 (by decide) ?_
  refine lv_istore_n (lv' := [(2, .int (0 : Int32)), (0, .ref o), (1, .int p1)]) hx hb dX3_onParcel_1 rfl hl (by decide) rfl (fun ls hl => ?_)
  refine lv_iconst (v := (0 : Int32)) hx hb dX3_onParcel_2 (by decide) ?_
  refine lv_istore_n (lv' := [(3, .int (0 : Int32)), (2, .int (0 : Int32)), (0, .ref o), (1, .int p1)]) hx hb dX3_onParcel_3 rfl hl (by decide) rfl (fun ls hl => ?_)
  have L4_1 : ∀ (n : Nat), ∀ (x_1 : Int32) (x_2 : Int32), ∀ (ls : Array Slot), fuel (m_X3_onParcel_L4 v_o_ranked g_o_parcels g_o_ranking p1) n (x_1, x_2) = R → lv_has ls 4 [(0, .ref o), (1, .int p1), (2, .int x_1), (3, .int x_2)] → W p l e ({ frames := 2, cells := 0, slots := 0, locals := 43 } : Room) s m av below meth c s.heap [] 0 0 Q (F0 m 4 ls []) := by
    intro n
    induction n with
    | zero =>
      intro x_1 x_2 ls hm hl
      exact (fu0 hm hz).elim
    | succ n ih4 =>
      intro x_1 x_2 ls hm hl
      replace hm := fus hm
      generalize fuel (m_X3_onParcel_L4 v_o_ranked g_o_parcels g_o_ranking p1) n = rec_3 at hm ih4
      unfold m_X3_onParcel_L4 at hm
      refine lv_iload_n hx hb dX3_onParcel_4 rfl (lv_at hl 3 rfl) ?_
      refine lv_aload_n hx hb dX3_onParcel_5 rfl (lv_at hl 0 rfl) ?_
      refine va_get (D := G) (ci := 5) (v := .int v_o_ranked) (C := RX3) (T := TX3) (N := 6) hx hb hts i_X3 hown hK.1 hP 0 rfl rfl 1 (by decide) w_0 (fun _ h9 => h9) rfl dX3_onParcel_6 ?_
      refine lv_icmp_ge (tgt := 38) hx hb dX3_onParcel_9 (by decide) (fun c_4 => ?_) (fun c_4 => ?_)
      · replace hm := it hm c_4
        refine lv_iload_n hx hb dX3_onParcel_38 rfl (lv_at hl 2 rfl) ?_
        exact hret _ _ _ dX3_onParcel_39 rfl hm.symm
      · replace hm := ie hm c_4
        refine lv_aload_n hx hb dX3_onParcel_12 rfl (lv_at hl 0 rfl) ?_
        refine lv_iload_n hx hb dX3_onParcel_13 rfl (lv_at hl 3 rfl) ?_
        refine lv_iload_n hx hb dX3_onParcel_14 rfl (lv_at hl 1 rfl) ?_
        refine vp_callSi (va_Run.run (va_runV (As := [.int x_2, .int p1]) (rest := []) ⟨hx, hb, hml, hown, hts⟩ (c_X3_liesOn l G cA o o_creditor o_amount o_parcels o_ranking x_2 p1 v_o_count v_o_ranked g_o_parcels g_o_ranking _ rfl (bnz hm hz)) (cwV 2 hts gX3_onParcel_X3_liesOn rfl rfl rfl (by decide +kernel) ⟨Nat.le_of_ble_eq_true rfl, Nat.le_of_ble_eq_true rfl⟩) (preRV (q := (RX3, TX3, 6)) (hP.sub [0, 1, 2] rfl) hK 0 rfl rfl) rfl rfl hl.1 rfl (lv_room (Nat.le_of_ble_eq_true rfl)) dX3_onParcel_15 ⟨Nat.zero_le _, Nat.zero_le _⟩)) (fun r_5 hw => ?_)
        replace hm := bst hm hw.1
        refine lv_if_eq (tgt := 32) hx hb dX3_onParcel_18 (by decide) (fun c_6 => ?_) (fun c_6 => ?_)
        · replace hm := it hm c_6
          refine lv_iinc (v := x_2 + (1 : Int32)) (lv' := [(3, .int (x_2 + (1 : Int32))), (0, .ref o), (1, .int p1), (2, .int x_1)]) hx hb dX3_onParcel_32 hl (k := 3) rfl rfl (by decide) rfl (fun ls hl => ?_)
          refine lv_goto (tgt := 4) hx hb dX3_onParcel_35 (by decide) ?_
          exact ih4 x_1 (x_2 + (1 : Int32)) _ hm (lv_sub hl [1, 2, 3, 0] rfl)
        · replace hm := ie hm c_6
          refine lv_iload_n hx hb dX3_onParcel_21 rfl (lv_at hl 2 rfl) ?_
          refine lv_iconst (v := (1 : Int32)) hx hb dX3_onParcel_22 (by decide) ?_
          refine lv_aload_n hx hb dX3_onParcel_23 rfl (lv_at hl 0 rfl) ?_
          refine va_get (D := G) (ci := 5) (v := .ref o_ranking) (C := RX3) (T := TX3) (N := 6) hx hb hts i_X3 hown hK.1 hP 0 rfl rfl 5 (by decide) w_1 (fun _ h9 => h9) rfl dX3_onParcel_24 ?_
          refine lv_iload_n hx hb dX3_onParcel_27 rfl (lv_at hl 3 rfl) ?_
          replace hm := gdo hm hz
          obtain ⟨gi_7, hm⟩ := hm
          refine va_iald hx hb hK.1 hP 2 0 (cA := cA 0) (n := 20) (f := g_o_ranking) rfl rfl (ixi gi_7) dX3_onParcel_28 ?_
          refine lv_ishl hx hb dX3_onParcel_29 ?_
          refine lv_ior hx hb dX3_onParcel_30 ?_
          refine lv_topi (fun x_8 e_x_8 => ?_)
          replace hm := nmo hm e_x_8
          refine lv_istore_n (lv' := [(2, .int x_8), (0, .ref o), (1, .int p1), (3, .int x_2)]) hx hb dX3_onParcel_31 rfl hl (by decide) rfl (fun ls hl => ?_)
          refine lv_iinc (v := x_2 + (1 : Int32)) (lv' := [(3, .int (x_2 + (1 : Int32))), (2, .int x_8), (0, .ref o), (1, .int p1)]) hx hb dX3_onParcel_32 hl (k := 3) rfl rfl (by decide) rfl (fun ls hl => ?_)
          refine lv_goto (tgt := 4) hx hb dX3_onParcel_35 (by decide) ?_
          exact ih4 x_8 (x_2 + (1 : Int32)) _ hm (lv_sub hl [2, 3, 1, 0] rfl)
  exact L4_1 _ (0 : Int32) (0 : Int32) _ hm (lv_sub hl [2, 3, 1, 0] rfl)
def m_X3_come (p1 : Int32) (p2 : Int32) (p3 : Int32) (v_o_count : Int32) (v_o_ranked : Int32) (g_o_creditor : Nat → Int32) (g_o_amount : Nat → Int32) (g_o_parcels : Nat → Int32) (g_o_ranking : Nat → Int32) : Option (Int32 × Int32 × Int32 × (Nat → Int32) × (Nat → Int32) × (Nat → Int32) × (Nat → Int32)) := (if (20 : Int32) ≤ v_o_count then some ((-1 : Int32), v_o_count, v_o_ranked, g_o_creditor, g_o_amount, g_o_parcels, g_o_ranking) else (if v_o_ranked < (20 : Int32) then gd (ix v_o_count 20) (gd (ix v_o_count 20) (gd (ix v_o_count 20) (gd (ix v_o_ranked 20) (some ((v_o_count + (1 : Int32)) - (1 : Int32), v_o_count + (1 : Int32), v_o_ranked + (1 : Int32), upd g_o_creditor v_o_count.toNatClampNeg p2, upd g_o_amount v_o_count.toNatClampNeg p3, upd g_o_parcels v_o_count.toNatClampNeg ((1 : Int32) <<< (p1 &&& 31)), upd g_o_ranking v_o_ranked.toNatClampNeg v_o_count))))) else some ((-1 : Int32), v_o_count, v_o_ranked, g_o_creditor, g_o_amount, g_o_parcels, g_o_ranking)))
abbrev k_X3_come (cA : Nat → ClassId) (o o_creditor o_amount o_parcels o_ranking : Nat) (v_o_count : Int32) (v_o_ranked : Int32) (g_o_creditor : Nat → Int32) (g_o_amount : Nat → Int32) (g_o_parcels : Nat → Int32) (g_o_ranking : Nat → Int32) : va_W := [(o, .inr (5, [.int v_o_count, .int v_o_ranked, .ref o_creditor, .ref o_amount, .ref o_parcels, .ref o_ranking])), (o_creditor, .inl (cA 0, 20, .inl g_o_creditor)), (o_amount, .inl (cA 0, 20, .inl g_o_amount)), (o_parcels, .inl (cA 0, 20, .inl g_o_parcels)), (o_ranking, .inl (cA 0, 20, .inl g_o_ranking))]
set_option maxHeartbeats 4000000 in
set_option maxRecDepth 100000 in
/-- X3_come: as its model -/
theorem c_X3_come (l : Launch) (G : va_G) (cA : Nat → ClassId) (o o_creditor o_amount o_parcels o_ranking : Nat) (sz : Nat) (p1 : Int32) (p2 : Int32) (p3 : Int32) (v_o_count : Int32) (v_o_ranked : Int32) (g_o_creditor : Nat → Int32) (g_o_amount : Nat → Int32) (g_o_parcels : Nat → Int32) (g_o_ranking : Nat → Int32) (R : Option (Int32 × Int32 × Int32 × (Nat → Int32) × (Nat → Int32) × (Nat → Int32) × (Nat → Int32))) (hR : m_X3_come p1 p2 p3 v_o_count v_o_ranked g_o_creditor g_o_amount g_o_parcels g_o_ranking = R) (hz : R ≠ none) : Met l yX3_come wsX3_come ({ frames := 0, cells := 0, slots := 0, locals := 0 } : Room) (va_Pc [.ref o, .int p1, .int p2, .int p3] (PM G cA (k_X3_come cA o o_creditor o_amount o_parcels o_ranking v_o_count v_o_ranked g_o_creditor g_o_amount g_o_parcels g_o_ranking) sz)) (va_Qi (fun (r : Int32) (u : Int32 × Int32 × (Nat → Int32) × (Nat → Int32) × (Nat → Int32) × (Nat → Int32)) => R = some (r, u)) (BM G (fun (u : Int32 × Int32 × (Nat → Int32) × (Nat → Int32) × (Nat → Int32) × (Nat → Int32)) => (k_X3_come cA o o_creditor o_amount o_parcels o_ranking u.1 u.2.1 u.2.2.1 u.2.2.2.1 u.2.2.2.2.1 u.2.2.2.2.2))) (va_A (k_X3_come cA o o_creditor o_amount o_parcels o_ranking v_o_count v_o_ranked g_o_creditor g_o_amount g_o_parcels g_o_ranking) sz)) 0 0 (va_A (k_X3_come cA o o_creditor o_amount o_parcels o_ranking v_o_count v_o_ranked g_o_creditor g_o_amount g_o_parcels g_o_ranking) sz) := by
  refine metM .int (by decide) rfl (Nat.le_of_ble_eq_true rfl) ?_
  intro p e s m av below meth c Q ls A H hx hb hml hts hown hP hK hD hA hS hl hret
  replace hl : lv_has ls 4 [(0, .ref o), (1, .int p1), (2, .int p2), (3, .int p3)] := hl
  have w_0 := hts (.fieldLink RX3 9 "ParcelRegistry$Liens" "count" "I") (by decide +kernel)
  have w_1 := hts (.fieldLink RX3 15 "ParcelRegistry$Liens" "ranked" "I") (by decide +kernel)
  have w_2 := hts (.fieldLink RX3 18 "ParcelRegistry$Liens" "creditor" "[I") (by decide +kernel)
  have w_3 := hts (.fieldLink RX3 22 "ParcelRegistry$Liens" "amount" "[I") (by decide +kernel)
  have w_4 := hts (.fieldLink RX3 25 "ParcelRegistry$Liens" "parcels" "[I") (by decide +kernel)
  have w_5 := hts (.fieldLink RX3 28 "ParcelRegistry$Liens" "ranking" "[I") (by decide +kernel)
  have i_X3 : ∀ w ∈ wsX30, w ∈ wsX3_come := by decide +kernel
  have hm := hR
  unfold m_X3_come at hm
  refine lv_aload_n hx hb dX3_come_0 rfl (lv_at hl 0 rfl) ?_
  refine va_get (D := G) (ci := 5) (v := .int v_o_count) (C := RX3) (T := TX3) (N := 6) hx hb hts i_X3 hown hK.1 hP 0 rfl rfl 0 (by decide) w_0 (fun _ h9 => h9) rfl dX3_come_1 ?_
  refine lv_bipush (v := (20 : Int32)) hx hb dX3_come_4 (by decide) ?_
  refine lv_icmp_ge (tgt := 18) hx hb dX3_come_6 (by decide) (fun c_1 => ?_) (fun c_1 => ?_)
  · replace hm := it hm c_1
    refine lv_iconst (v := (-1 : Int32)) hx hb dX3_come_18 (by decide) ?_
    exact hret _ _ _ (v_o_count, v_o_ranked, g_o_creditor, g_o_amount, g_o_parcels, g_o_ranking) _ _ dX3_come_19 rfl hP hS hm.symm
  · replace hm := ie hm c_1
    refine lv_aload_n hx hb dX3_come_9 rfl (lv_at hl 0 rfl) ?_
    refine va_get (D := G) (ci := 5) (v := .int v_o_ranked) (C := RX3) (T := TX3) (N := 6) hx hb hts i_X3 hown hK.1 hP 0 rfl rfl 1 (by decide) w_1 (fun _ h9 => h9) rfl dX3_come_10 ?_
    refine lv_bipush (v := (20 : Int32)) hx hb dX3_come_13 (by decide) ?_
    refine lv_icmp_lt (tgt := 20) hx hb dX3_come_15 (by decide) (fun c_2 => ?_) (fun c_2 => ?_)
    · replace hm := it hm c_2
      refine lv_aload_n hx hb dX3_come_20 rfl (lv_at hl 0 rfl) ?_
      refine va_get (D := G) (ci := 5) (v := .ref o_creditor) (C := RX3) (T := TX3) (N := 6) hx hb hts i_X3 hown hK.1 hP 0 rfl rfl 2 (by decide) w_2 (fun _ h9 => h9) rfl dX3_come_21 ?_
      refine lv_aload_n hx hb dX3_come_24 rfl (lv_at hl 0 rfl) ?_
      refine va_get (D := G) (ci := 5) (v := .int v_o_count) (C := RX3) (T := TX3) (N := 6) hx hb hts i_X3 hown hK.1 hP 0 rfl rfl 0 (by decide) w_0 (fun _ h9 => h9) rfl dX3_come_25 ?_
      refine lv_iload_n hx hb dX3_come_28 rfl (lv_at hl 2 rfl) ?_
      replace hm := gdo hm hz
      obtain ⟨gi_3, hm⟩ := hm
      refine va_iast hx hb hK.1 hP hD hS 1 0 (cA := cA 0) (n := 20) (f := g_o_creditor) rfl rfl (ixi gi_3) dX3_come_29 (fun H locs hP' hD' hS' => ?_)
      replace hP : va_P G vwCl (k_X3_come cA o o_creditor o_amount o_parcels o_ranking v_o_count v_o_ranked (upd g_o_creditor v_o_count.toNatClampNeg p2) g_o_amount g_o_parcels g_o_ranking) H := hP'
      replace hD : va_D A (k_X3_come cA o o_creditor o_amount o_parcels o_ranking v_o_count v_o_ranked (upd g_o_creditor v_o_count.toNatClampNeg p2) g_o_amount g_o_parcels g_o_ranking) := hD'
      replace hS := hS'
      refine lv_aload_n hx hb dX3_come_30 rfl (lv_at hl 0 rfl) ?_
      refine va_get (D := G) (ci := 5) (v := .ref o_amount) (C := RX3) (T := TX3) (N := 6) hx hb hts i_X3 hown hK.1 hP 0 rfl rfl 3 (by decide) w_3 (fun _ h9 => h9) rfl dX3_come_31 ?_
      refine lv_aload_n hx hb dX3_come_34 rfl (lv_at hl 0 rfl) ?_
      refine va_get (D := G) (ci := 5) (v := .int v_o_count) (C := RX3) (T := TX3) (N := 6) hx hb hts i_X3 hown hK.1 hP 0 rfl rfl 0 (by decide) w_0 (fun _ h9 => h9) rfl dX3_come_35 ?_
      refine lv_iload_n hx hb dX3_come_38 rfl (lv_at hl 3 rfl) ?_
      replace hm := gdo hm hz
      obtain ⟨gi_4, hm⟩ := hm
      refine va_iast hx hb hK.1 hP hD hS 2 0 (cA := cA 0) (n := 20) (f := g_o_amount) rfl rfl (ixi gi_4) dX3_come_39 (fun H locs hP' hD' hS' => ?_)
      replace hP : va_P G vwCl (k_X3_come cA o o_creditor o_amount o_parcels o_ranking v_o_count v_o_ranked (upd g_o_creditor v_o_count.toNatClampNeg p2) (upd g_o_amount v_o_count.toNatClampNeg p3) g_o_parcels g_o_ranking) H := hP'
      replace hD : va_D A (k_X3_come cA o o_creditor o_amount o_parcels o_ranking v_o_count v_o_ranked (upd g_o_creditor v_o_count.toNatClampNeg p2) (upd g_o_amount v_o_count.toNatClampNeg p3) g_o_parcels g_o_ranking) := hD'
      replace hS := hS'
      refine lv_aload_n hx hb dX3_come_40 rfl (lv_at hl 0 rfl) ?_
      refine va_get (D := G) (ci := 5) (v := .ref o_parcels) (C := RX3) (T := TX3) (N := 6) hx hb hts i_X3 hown hK.1 hP 0 rfl rfl 4 (by decide) w_4 (fun _ h9 => h9) rfl dX3_come_41 ?_
      refine lv_aload_n hx hb dX3_come_44 rfl (lv_at hl 0 rfl) ?_
      refine va_get (D := G) (ci := 5) (v := .int v_o_count) (C := RX3) (T := TX3) (N := 6) hx hb hts i_X3 hown hK.1 hP 0 rfl rfl 0 (by decide) w_0 (fun _ h9 => h9) rfl dX3_come_45 ?_
      refine lv_iconst (v := (1 : Int32)) hx hb dX3_come_48 (by decide) ?_
      refine lv_iload_n hx hb dX3_come_49 rfl (lv_at hl 1 rfl) ?_
      refine lv_ishl hx hb dX3_come_50 ?_
      replace hm := gdo hm hz
      obtain ⟨gi_5, hm⟩ := hm
      refine va_iast hx hb hK.1 hP hD hS 3 0 (cA := cA 0) (n := 20) (f := g_o_parcels) rfl rfl (ixi gi_5) dX3_come_51 (fun H locs hP' hD' hS' => ?_)
      replace hP : va_P G vwCl (k_X3_come cA o o_creditor o_amount o_parcels o_ranking v_o_count v_o_ranked (upd g_o_creditor v_o_count.toNatClampNeg p2) (upd g_o_amount v_o_count.toNatClampNeg p3) (upd g_o_parcels v_o_count.toNatClampNeg ((1 : Int32) <<< (p1 &&& 31))) g_o_ranking) H := hP'
      replace hD : va_D A (k_X3_come cA o o_creditor o_amount o_parcels o_ranking v_o_count v_o_ranked (upd g_o_creditor v_o_count.toNatClampNeg p2) (upd g_o_amount v_o_count.toNatClampNeg p3) (upd g_o_parcels v_o_count.toNatClampNeg ((1 : Int32) <<< (p1 &&& 31))) g_o_ranking) := hD'
      replace hS := hS'
      refine lv_aload_n hx hb dX3_come_52 rfl (lv_at hl 0 rfl) ?_
      refine va_get (D := G) (ci := 5) (v := .ref o_ranking) (C := RX3) (T := TX3) (N := 6) hx hb hts i_X3 hown hK.1 hP 0 rfl rfl 5 (by decide) w_5 (fun _ h9 => h9) rfl dX3_come_53 ?_
      refine lv_aload_n hx hb dX3_come_56 rfl (lv_at hl 0 rfl) ?_
      refine va_get (D := G) (ci := 5) (v := .int v_o_ranked) (C := RX3) (T := TX3) (N := 6) hx hb hts i_X3 hown hK.1 hP 0 rfl rfl 1 (by decide) w_1 (fun _ h9 => h9) rfl dX3_come_57 ?_
      refine lv_aload_n hx hb dX3_come_60 rfl (lv_at hl 0 rfl) ?_
      refine va_get (D := G) (ci := 5) (v := .int v_o_count) (C := RX3) (T := TX3) (N := 6) hx hb hts i_X3 hown hK.1 hP 0 rfl rfl 0 (by decide) w_0 (fun _ h9 => h9) rfl dX3_come_61 ?_
      replace hm := gdo hm hz
      obtain ⟨gi_6, hm⟩ := hm
      refine va_iast hx hb hK.1 hP hD hS 4 0 (cA := cA 0) (n := 20) (f := g_o_ranking) rfl rfl (ixi gi_6) dX3_come_64 (fun H locs hP' hD' hS' => ?_)
      replace hP : va_P G vwCl (k_X3_come cA o o_creditor o_amount o_parcels o_ranking v_o_count v_o_ranked (upd g_o_creditor v_o_count.toNatClampNeg p2) (upd g_o_amount v_o_count.toNatClampNeg p3) (upd g_o_parcels v_o_count.toNatClampNeg ((1 : Int32) <<< (p1 &&& 31))) (upd g_o_ranking v_o_ranked.toNatClampNeg v_o_count)) H := hP'
      replace hD : va_D A (k_X3_come cA o o_creditor o_amount o_parcels o_ranking v_o_count v_o_ranked (upd g_o_creditor v_o_count.toNatClampNeg p2) (upd g_o_amount v_o_count.toNatClampNeg p3) (upd g_o_parcels v_o_count.toNatClampNeg ((1 : Int32) <<< (p1 &&& 31))) (upd g_o_ranking v_o_ranked.toNatClampNeg v_o_count)) := hD'
      replace hS := hS'
      refine lv_aload_n hx hb dX3_come_65 rfl (lv_at hl 0 rfl) ?_
      refine lv_dup hx hb dX3_come_66 rfl ?_
      refine va_get (D := G) (ci := 5) (v := .int v_o_ranked) (C := RX3) (T := TX3) (N := 6) hx hb hts i_X3 hown hK.1 hP 0 rfl rfl 1 (by decide) w_1 (fun _ h9 => h9) rfl dX3_come_67 ?_
      refine lv_iconst (v := (1 : Int32)) hx hb dX3_come_70 (by decide) ?_
      refine lv_iadd hx hb dX3_come_71 ?_
      refine va_put (D := G) (ci := 5) (v := .int (v_o_ranked + (1 : Int32))) (ty := .int) (C := RX3) (T := TX3) (N := 6) hx hb hts i_X3 tyX3 tyX3_ok nmX3 hown hK.1 hP hD hS 0 rfl rfl 1 (by decide) w_1 (fun _ h9 => h9) rfl (by decide +kernel) rfl rfl (Nat.le_of_ble_eq_true rfl) dX3_come_72 (fun H locs hP' hD' hS' => ?_)
      replace hP : va_P G vwCl (k_X3_come cA o o_creditor o_amount o_parcels o_ranking v_o_count (v_o_ranked + (1 : Int32)) (upd g_o_creditor v_o_count.toNatClampNeg p2) (upd g_o_amount v_o_count.toNatClampNeg p3) (upd g_o_parcels v_o_count.toNatClampNeg ((1 : Int32) <<< (p1 &&& 31))) (upd g_o_ranking v_o_ranked.toNatClampNeg v_o_count)) H := hP'
      replace hD : va_D A (k_X3_come cA o o_creditor o_amount o_parcels o_ranking v_o_count (v_o_ranked + (1 : Int32)) (upd g_o_creditor v_o_count.toNatClampNeg p2) (upd g_o_amount v_o_count.toNatClampNeg p3) (upd g_o_parcels v_o_count.toNatClampNeg ((1 : Int32) <<< (p1 &&& 31))) (upd g_o_ranking v_o_ranked.toNatClampNeg v_o_count)) := hD'
      replace hS := hS'
      refine lv_aload_n hx hb dX3_come_75 rfl (lv_at hl 0 rfl) ?_
      refine lv_dup hx hb dX3_come_76 rfl ?_
      refine va_get (D := G) (ci := 5) (v := .int v_o_count) (C := RX3) (T := TX3) (N := 6) hx hb hts i_X3 hown hK.1 hP 0 rfl rfl 0 (by decide) w_0 (fun _ h9 => h9) rfl dX3_come_77 ?_
      refine lv_iconst (v := (1 : Int32)) hx hb dX3_come_80 (by decide) ?_
      refine lv_iadd hx hb dX3_come_81 ?_
      refine va_put (D := G) (ci := 5) (v := .int (v_o_count + (1 : Int32))) (ty := .int) (C := RX3) (T := TX3) (N := 6) hx hb hts i_X3 tyX3 tyX3_ok nmX3 hown hK.1 hP hD hS 0 rfl rfl 0 (by decide) w_0 (fun _ h9 => h9) rfl (by decide +kernel) rfl rfl (Nat.le_of_ble_eq_true rfl) dX3_come_82 (fun H locs hP' hD' hS' => ?_)
      replace hP : va_P G vwCl (k_X3_come cA o o_creditor o_amount o_parcels o_ranking (v_o_count + (1 : Int32)) (v_o_ranked + (1 : Int32)) (upd g_o_creditor v_o_count.toNatClampNeg p2) (upd g_o_amount v_o_count.toNatClampNeg p3) (upd g_o_parcels v_o_count.toNatClampNeg ((1 : Int32) <<< (p1 &&& 31))) (upd g_o_ranking v_o_ranked.toNatClampNeg v_o_count)) H := hP'
      replace hD : va_D A (k_X3_come cA o o_creditor o_amount o_parcels o_ranking (v_o_count + (1 : Int32)) (v_o_ranked + (1 : Int32)) (upd g_o_creditor v_o_count.toNatClampNeg p2) (upd g_o_amount v_o_count.toNatClampNeg p3) (upd g_o_parcels v_o_count.toNatClampNeg ((1 : Int32) <<< (p1 &&& 31))) (upd g_o_ranking v_o_ranked.toNatClampNeg v_o_count)) := hD'
      replace hS := hS'
      refine lv_aload_n hx hb dX3_come_85 rfl (lv_at hl 0 rfl) ?_
      refine va_get (D := G) (ci := 5) (v := .int (v_o_count + (1 : Int32))) (C := RX3) (T := TX3) (N := 6) hx hb hts i_X3 hown hK.1 hP 0 rfl rfl 0 (by decide) w_0 (fun _ h9 => h9) rfl dX3_come_86 ?_
      refine lv_iconst (v := (1 : Int32)) hx hb dX3_come_89 (by decide) ?_
      refine lv_isub hx hb dX3_come_90 ?_
      exact hret _ _ _ (v_o_count + (1 : Int32), v_o_ranked + (1 : Int32), upd g_o_creditor v_o_count.toNatClampNeg p2, upd g_o_amount v_o_count.toNatClampNeg p3, upd g_o_parcels v_o_count.toNatClampNeg ((1 : Int32) <<< (p1 &&& 31)), upd g_o_ranking v_o_ranked.toNatClampNeg v_o_count) _ _ dX3_come_91 rfl hP hS hm.symm
    · replace hm := ie hm c_2
      refine lv_iconst (v := (-1 : Int32)) hx hb dX3_come_18 (by decide) ?_
      exact hret _ _ _ (v_o_count, v_o_ranked, g_o_creditor, g_o_amount, g_o_parcels, g_o_ranking) _ _ dX3_come_19 rfl hP hS hm.symm
def m_X3_has (p1 : Int32) (v_o_count : Int32) : Option (Int32) := (if p1 < 0 then some (0 : Int32) else (if v_o_count ≤ p1 then some (0 : Int32) else some (1 : Int32)))
abbrev k_X3_has (cA : Nat → ClassId) (o o_creditor o_amount o_parcels o_ranking : Nat) (v_o_count : Int32) (v_o_ranked : Int32) : va_W := [(o, .inr (5, [.int v_o_count, .int v_o_ranked, .ref o_creditor, .ref o_amount, .ref o_parcels, .ref o_ranking]))]
set_option maxHeartbeats 4000000 in
set_option maxRecDepth 100000 in
/-- X3_has: as its model -/
theorem c_X3_has (l : Launch) (G : va_G) (cA : Nat → ClassId) (o o_creditor o_amount o_parcels o_ranking : Nat) (p1 : Int32) (v_o_count : Int32) (v_o_ranked : Int32) (R : Option (Int32)) (hR : m_X3_has p1 v_o_count = R) (hz : R ≠ none) : Met l yX3_has wsX3_has ({ frames := 0, cells := 0, slots := 0, locals := 0 } : Room) (va_Pc [.ref o, .int p1] (PR G cA (k_X3_has cA o o_creditor o_amount o_parcels o_ranking v_o_count v_o_ranked))) (vp_Si (fun r => R = some r ∧ (r = 0 ∨ r = 1))) 0 0 (fun _ => False) := by
  refine metR .boolean (by decide) rfl (Nat.le_of_ble_eq_true rfl) ?_
  intro p e s m av below meth c Q ls hx hb hml hts hown hP hK hl hret
  replace hl : lv_has ls 2 [(0, .ref o), (1, .int p1)] := hl
  have w_0 := hts (.fieldLink RX3 9 "ParcelRegistry$Liens" "count" "I") (by decide +kernel)
  have i_X3 : ∀ w ∈ wsX30, w ∈ wsX3_has := by decide +kernel
  have hm := hR
  unfold m_X3_has at hm
  refine lv_iload_n hx hb dX3_has_0 rfl (lv_at hl 1 rfl) ?_
  refine lv_if_lt (tgt := 16) hx hb dX3_has_1 (by decide) (fun c_1 => ?_) (fun c_1 => ?_)
  · replace hm := it hm c_1
    refine lv_iconst (v := (0 : Int32)) hx hb dX3_has_16 (by decide) ?_
    exact hret _ _ _ dX3_has_17 rfl ⟨hm.symm, (by decide)⟩
  · replace hm := ie hm c_1
    refine lv_iload_n hx hb dX3_has_4 rfl (lv_at hl 1 rfl) ?_
    refine lv_aload_n hx hb dX3_has_5 rfl (lv_at hl 0 rfl) ?_
    refine va_get (D := G) (ci := 5) (v := .int v_o_count) (C := RX3) (T := TX3) (N := 6) hx hb hts i_X3 hown hK.1 hP 0 rfl rfl 0 (by decide) w_0 (fun _ h9 => h9) rfl dX3_has_6 ?_
    refine lv_icmp_ge (tgt := 16) hx hb dX3_has_9 (by decide) (fun c_2 => ?_) (fun c_2 => ?_)
    · replace hm := it hm c_2
      refine lv_iconst (v := (0 : Int32)) hx hb dX3_has_16 (by decide) ?_
      exact hret _ _ _ dX3_has_17 rfl ⟨hm.symm, (by decide)⟩
    · replace hm := ie hm c_2
      refine lv_iconst (v := (1 : Int32)) hx hb dX3_has_12 (by decide) ?_
      refine lv_goto (tgt := 17) hx hb dX3_has_13 (by decide) ?_
      exact hret _ _ _ dX3_has_17 rfl ⟨hm.symm, (by decide)⟩
def m_X3_placeOf_L2 (v_o_ranked : Int32) (g_o_ranking : Nat → Int32) (p1 : Int32) : ((Int32) → Option (Int32)) → (Int32) → Option (Int32) := fun rec_2 v => match v with
  | x_1 => (if v_o_ranked ≤ x_1 then some (-1 : Int32) else gd (ix x_1 20) ((if (g_o_ranking x_1.toNatClampNeg) = p1 then some x_1 else rec_2 (x_1 + (1 : Int32)))))
def m_X3_placeOf (p1 : Int32) (v_o_ranked : Int32) (g_o_ranking : Nat → Int32) : Option (Int32) := fuel (m_X3_placeOf_L2 v_o_ranked g_o_ranking p1) FU (0 : Int32)
abbrev k_X3_placeOf (cA : Nat → ClassId) (o o_creditor o_amount o_parcels o_ranking : Nat) (v_o_count : Int32) (v_o_ranked : Int32) (g_o_ranking : Nat → Int32) : va_W := [(o, .inr (5, [.int v_o_count, .int v_o_ranked, .ref o_creditor, .ref o_amount, .ref o_parcels, .ref o_ranking])), (o_ranking, .inl (cA 0, 20, .inl g_o_ranking))]
set_option maxHeartbeats 4000000 in
set_option maxRecDepth 100000 in
/-- X3_placeOf: as its model -/
theorem c_X3_placeOf (l : Launch) (G : va_G) (cA : Nat → ClassId) (o o_creditor o_amount o_parcels o_ranking : Nat) (p1 : Int32) (v_o_count : Int32) (v_o_ranked : Int32) (g_o_ranking : Nat → Int32) (R : Option (Int32)) (hR : m_X3_placeOf p1 v_o_ranked g_o_ranking = R) (hz : R ≠ none) : Met l yX3_placeOf wsX3_placeOf ({ frames := 0, cells := 0, slots := 0, locals := 0 } : Room) (va_Pc [.ref o, .int p1] (PR G cA (k_X3_placeOf cA o o_creditor o_amount o_parcels o_ranking v_o_count v_o_ranked g_o_ranking))) (vp_Si (fun r => R = some r)) 0 0 (fun _ => False) := by
  refine metR .int (by decide) rfl (Nat.le_of_ble_eq_true rfl) ?_
  intro p e s m av below meth c Q ls hx hb hml hts hown hP hK hl hret
  replace hl : lv_has ls 3 [(0, .ref o), (1, .int p1)] := hl
  have w_0 := hts (.fieldLink RX3 15 "ParcelRegistry$Liens" "ranked" "I") (by decide +kernel)
  have w_1 := hts (.fieldLink RX3 28 "ParcelRegistry$Liens" "ranking" "[I") (by decide +kernel)
  have i_X3 : ∀ w ∈ wsX30, w ∈ wsX3_placeOf := by decide +kernel
  have hm := hR
  unfold m_X3_placeOf at hm
  refine lv_iconst (v := (0 : Int32)) hx hb dX3_placeOf_0 (by decide) ?_
  refine lv_istore_n (lv' := [(2, .int (0 : Int32)), (0, .ref o), (1, .int p1)]) hx hb dX3_placeOf_1 rfl hl (by decide) rfl (fun ls hl => ?_)
  have L2_1 : ∀ (n : Nat), ∀ (x_1 : Int32), ∀ (ls : Array Slot), fuel (m_X3_placeOf_L2 v_o_ranked g_o_ranking p1) n x_1 = R → lv_has ls 3 [(0, .ref o), (1, .int p1), (2, .int x_1)] → W p l e ({ frames := 0, cells := 0, slots := 0, locals := 0 } : Room) s m av below meth c s.heap [] 0 0 Q (F0 m 2 ls []) := by
    intro n
    induction n with
    | zero =>
      intro x_1 ls hm hl
      exact (fu0 hm hz).elim
    | succ n ih2 =>
      intro x_1 ls hm hl
      replace hm := fus hm
      generalize fuel (m_X3_placeOf_L2 v_o_ranked g_o_ranking p1) n = rec_2 at hm ih2
      unfold m_X3_placeOf_L2 at hm
      refine lv_iload_n hx hb dX3_placeOf_2 rfl (lv_at hl 2 rfl) ?_
      refine lv_aload_n hx hb dX3_placeOf_3 rfl (lv_at hl 0 rfl) ?_
      refine va_get (D := G) (ci := 5) (v := .int v_o_ranked) (C := RX3) (T := TX3) (N := 6) hx hb hts i_X3 hown hK.1 hP 0 rfl rfl 1 (by decide) w_0 (fun _ h9 => h9) rfl dX3_placeOf_4 ?_
      refine lv_icmp_ge (tgt := 28) hx hb dX3_placeOf_7 (by decide) (fun c_3 => ?_) (fun c_3 => ?_)
      · replace hm := it hm c_3
        refine lv_iconst (v := (-1 : Int32)) hx hb dX3_placeOf_28 (by decide) ?_
        exact hret _ _ _ dX3_placeOf_29 rfl hm.symm
      · replace hm := ie hm c_3
        refine lv_aload_n hx hb dX3_placeOf_10 rfl (lv_at hl 0 rfl) ?_
        refine va_get (D := G) (ci := 5) (v := .ref o_ranking) (C := RX3) (T := TX3) (N := 6) hx hb hts i_X3 hown hK.1 hP 0 rfl rfl 5 (by decide) w_1 (fun _ h9 => h9) rfl dX3_placeOf_11 ?_
        refine lv_iload_n hx hb dX3_placeOf_14 rfl (lv_at hl 2 rfl) ?_
        replace hm := gdo hm hz
        obtain ⟨gi_4, hm⟩ := hm
        refine va_iald hx hb hK.1 hP 1 0 (cA := cA 0) (n := 20) (f := g_o_ranking) rfl rfl (ixi gi_4) dX3_placeOf_15 ?_
        refine lv_iload_n hx hb dX3_placeOf_16 rfl (lv_at hl 1 rfl) ?_
        refine lv_icmp_ne (tgt := 22) hx hb dX3_placeOf_17 (by decide) (fun c_5 => ?_) (fun c_5 => ?_)
        · replace hm := ie hm c_5
          refine lv_iinc (v := x_1 + (1 : Int32)) (lv' := [(2, .int (x_1 + (1 : Int32))), (0, .ref o), (1, .int p1)]) hx hb dX3_placeOf_22 hl (k := 2) rfl rfl (by decide) rfl (fun ls hl => ?_)
          refine lv_goto (tgt := 2) hx hb dX3_placeOf_25 (by decide) ?_
          exact ih2 (x_1 + (1 : Int32)) _ hm (lv_sub hl [1, 2, 0] rfl)
        · replace hm := it hm c_5
          refine lv_iload_n hx hb dX3_placeOf_20 rfl (lv_at hl 2 rfl) ?_
          exact hret _ _ _ dX3_placeOf_21 rfl hm.symm
  exact L2_1 _ (0 : Int32) _ hm (lv_sub hl [1, 2, 0] rfl)
def m_X3_moveBack_L28 (g_o_ranking : Nat → Int32) (p1 : Int32) (p2 : Int32) : ((Int32 × (Nat → Int32)) → Option ((Nat → Int32))) → (Int32 × (Nat → Int32)) → Option ((Nat → Int32)) := fun rec_7 v => match v with
  | (x_5, g_6) => (if p2 ≤ x_5 then gd (ix p2 20) (some (upd g_6 p2.toNatClampNeg (g_o_ranking p1.toNatClampNeg))) else gd (ix (x_5 + (1 : Int32)) 20) (gd (ix x_5 20) (rec_7 (x_5 + (1 : Int32), upd g_6 x_5.toNatClampNeg (g_6 (x_5 + (1 : Int32)).toNatClampNeg)))))
def m_X3_moveBack (p1 : Int32) (p2 : Int32) (v_o_ranked : Int32) (g_o_ranking : Nat → Int32) : Option ((Nat → Int32)) := (if p1 < 0 then some g_o_ranking else (if p2 < p1 then some g_o_ranking else (if p2 < v_o_ranked then gd (ix p1 20) (fuel (m_X3_moveBack_L28 g_o_ranking p1 p2) FU (p1, g_o_ranking)) else some g_o_ranking)))
abbrev k_X3_moveBack (cA : Nat → ClassId) (o o_creditor o_amount o_parcels o_ranking : Nat) (v_o_count : Int32) (v_o_ranked : Int32) (g_o_ranking : Nat → Int32) : va_W := [(o, .inr (5, [.int v_o_count, .int v_o_ranked, .ref o_creditor, .ref o_amount, .ref o_parcels, .ref o_ranking])), (o_ranking, .inl (cA 0, 20, .inl g_o_ranking))]
set_option maxHeartbeats 4000000 in
set_option maxRecDepth 100000 in
/-- X3_moveBack: as its model -/
theorem c_X3_moveBack (l : Launch) (G : va_G) (cA : Nat → ClassId) (o o_creditor o_amount o_parcels o_ranking : Nat) (sz : Nat) (p1 : Int32) (p2 : Int32) (v_o_count : Int32) (v_o_ranked : Int32) (g_o_ranking : Nat → Int32) (R : Option ((Nat → Int32))) (hR : m_X3_moveBack p1 p2 v_o_ranked g_o_ranking = R) (hz : R ≠ none) : Met l yX3_moveBack wsX3_moveBack ({ frames := 0, cells := 0, slots := 0, locals := 0 } : Room) (va_Pc [.ref o, .int p1, .int p2] (PM G cA (k_X3_moveBack cA o o_creditor o_amount o_parcels o_ranking v_o_count v_o_ranked g_o_ranking) sz)) (va_Qv (fun (u : (Nat → Int32)) => R = some u) (BM G (fun (u : (Nat → Int32)) => (k_X3_moveBack cA o o_creditor o_amount o_parcels o_ranking v_o_count v_o_ranked u))) (va_A (k_X3_moveBack cA o o_creditor o_amount o_parcels o_ranking v_o_count v_o_ranked g_o_ranking) sz)) 0 0 (va_A (k_X3_moveBack cA o o_creditor o_amount o_parcels o_ranking v_o_count v_o_ranked g_o_ranking) sz) := by
  refine metV (by decide) rfl (Nat.le_of_ble_eq_true rfl) ?_
  intro p e s m av below meth c Q ls A H hx hb hml hts hown hP hK hD hA hS hl hret
  replace hl : lv_has ls 5 [(0, .ref o), (1, .int p1), (2, .int p2)] := hl
  have w_0 := hts (.fieldLink RX3 15 "ParcelRegistry$Liens" "ranked" "I") (by decide +kernel)
  have w_1 := hts (.fieldLink RX3 28 "ParcelRegistry$Liens" "ranking" "[I") (by decide +kernel)
  have i_X3 : ∀ w ∈ wsX30, w ∈ wsX3_moveBack := by decide +kernel
  have hm := hR
  unfold m_X3_moveBack at hm
  refine lv_iload_n hx hb dX3_moveBack_0 rfl (lv_at hl 1 rfl) ?_
  refine lv_if_lt (tgt := 17) hx hb dX3_moveBack_1 (by decide) (fun c_1 => ?_) (fun c_1 => ?_)
  · replace hm := it hm c_1
    exact hret _ _ g_o_ranking _ _ dX3_moveBack_17 hP hS hm.symm
  · replace hm := ie hm c_1
    refine lv_iload_n hx hb dX3_moveBack_4 rfl (lv_at hl 2 rfl) ?_
    refine lv_iload_n hx hb dX3_moveBack_5 rfl (lv_at hl 1 rfl) ?_
    refine lv_icmp_lt (tgt := 17) hx hb dX3_moveBack_6 (by decide) (fun c_2 => ?_) (fun c_2 => ?_)
    · replace hm := it hm c_2
      exact hret _ _ g_o_ranking _ _ dX3_moveBack_17 hP hS hm.symm
    · replace hm := ie hm c_2
      refine lv_iload_n hx hb dX3_moveBack_9 rfl (lv_at hl 2 rfl) ?_
      refine lv_aload_n hx hb dX3_moveBack_10 rfl (lv_at hl 0 rfl) ?_
      refine va_get (D := G) (ci := 5) (v := .int v_o_ranked) (C := RX3) (T := TX3) (N := 6) hx hb hts i_X3 hown hK.1 hP 0 rfl rfl 1 (by decide) w_0 (fun _ h9 => h9) rfl dX3_moveBack_11 ?_
      refine lv_icmp_lt (tgt := 18) hx hb dX3_moveBack_14 (by decide) (fun c_3 => ?_) (fun c_3 => ?_)
      · replace hm := it hm c_3
        refine lv_aload_n hx hb dX3_moveBack_18 rfl (lv_at hl 0 rfl) ?_
        refine va_get (D := G) (ci := 5) (v := .ref o_ranking) (C := RX3) (T := TX3) (N := 6) hx hb hts i_X3 hown hK.1 hP 0 rfl rfl 5 (by decide) w_1 (fun _ h9 => h9) rfl dX3_moveBack_19 ?_
        refine lv_iload_n hx hb dX3_moveBack_22 rfl (lv_at hl 1 rfl) ?_
        replace hm := gdo hm hz
        obtain ⟨gi_4, hm⟩ := hm
        refine va_iald hx hb hK.1 hP 1 0 (cA := cA 0) (n := 20) (f := g_o_ranking) rfl rfl (ixi gi_4) dX3_moveBack_23 ?_
        refine lv_istore_n (lv' := [(3, .int (g_o_ranking p1.toNatClampNeg)), (0, .ref o), (1, .int p1), (2, .int p2)]) hx hb dX3_moveBack_24 rfl hl (by decide) rfl (fun ls hl => ?_)
        refine lv_iload_n hx hb dX3_moveBack_25 rfl (lv_at hl 2 rfl) ?_
        refine lv_istore (lv' := [(4, .int p1), (3, .int (g_o_ranking p1.toNatClampNeg)), (0, .ref o), (1, .int p1), (2, .int p2)]) hx hb dX3_moveBack_26 hl (by decide) rfl (fun ls hl => ?_)
        have L28_1 : ∀ (n : Nat), ∀ (x_5 : Int32) (g_6 : Nat → Int32), ∀ (H : Heap) (locs : List Loc) (ls : Array Slot), fuel (m_X3_moveBack_L28 g_o_ranking p1 p2) n (x_5, g_6) = R → va_P G vwCl (k_X3_moveBack cA o o_creditor o_amount o_parcels o_ranking v_o_count v_o_ranked g_6) H → va_D A (k_X3_moveBack cA o o_creditor o_amount o_parcels o_ranking v_o_count v_o_ranked g_6) → va_S A s.heap H locs → lv_has ls 5 [(0, .ref o), (2, .int p2), (3, .int (g_o_ranking p1.toNatClampNeg)), (4, .int x_5)] → W p l e ({ frames := 0, cells := 0, slots := 0, locals := 0 } : Room) s m av below meth c H locs 0 0 Q (F0 m 28 ls []) := by
          intro n
          induction n with
          | zero =>
            intro x_5 g_6 H locs ls hm hP hD hS hl
            exact (fu0 hm hz).elim
          | succ n ih28 =>
            intro x_5 g_6 H locs ls hm hP hD hS hl
            replace hm := fus hm
            generalize fuel (m_X3_moveBack_L28 g_o_ranking p1 p2) n = rec_7 at hm ih28
            unfold m_X3_moveBack_L28 at hm
            refine lv_iload hx hb dX3_moveBack_28 (lv_at hl 3 rfl) ?_
            refine lv_iload_n hx hb dX3_moveBack_30 rfl (lv_at hl 1 rfl) ?_
            refine lv_icmp_ge (tgt := 56) hx hb dX3_moveBack_31 (by decide) (fun c_8 => ?_) (fun c_8 => ?_)
            · replace hm := it hm c_8
              refine lv_aload_n hx hb dX3_moveBack_56 rfl (lv_at hl 0 rfl) ?_
              refine va_get (D := G) (ci := 5) (v := .ref o_ranking) (C := RX3) (T := TX3) (N := 6) hx hb hts i_X3 hown hK.1 hP 0 rfl rfl 5 (by decide) w_1 (fun _ h9 => h9) rfl dX3_moveBack_57 ?_
              refine lv_iload_n hx hb dX3_moveBack_60 rfl (lv_at hl 1 rfl) ?_
              refine lv_iload_n hx hb dX3_moveBack_61 rfl (lv_at hl 2 rfl) ?_
              replace hm := gdo hm hz
              obtain ⟨gi_9, hm⟩ := hm
              refine va_iast hx hb hK.1 hP hD hS 1 0 (cA := cA 0) (n := 20) (f := g_6) rfl rfl (ixi gi_9) dX3_moveBack_62 (fun H locs hP' hD' hS' => ?_)
              replace hP : va_P G vwCl (k_X3_moveBack cA o o_creditor o_amount o_parcels o_ranking v_o_count v_o_ranked (upd g_6 p2.toNatClampNeg (g_o_ranking p1.toNatClampNeg))) H := hP'
              replace hD : va_D A (k_X3_moveBack cA o o_creditor o_amount o_parcels o_ranking v_o_count v_o_ranked (upd g_6 p2.toNatClampNeg (g_o_ranking p1.toNatClampNeg))) := hD'
              replace hS := hS'
              exact hret _ _ (upd g_6 p2.toNatClampNeg (g_o_ranking p1.toNatClampNeg)) _ _ dX3_moveBack_63 hP hS hm.symm
            · replace hm := ie hm c_8
              refine lv_aload_n hx hb dX3_moveBack_34 rfl (lv_at hl 0 rfl) ?_
              refine va_get (D := G) (ci := 5) (v := .ref o_ranking) (C := RX3) (T := TX3) (N := 6) hx hb hts i_X3 hown hK.1 hP 0 rfl rfl 5 (by decide) w_1 (fun _ h9 => h9) rfl dX3_moveBack_35 ?_
              refine lv_iload hx hb dX3_moveBack_38 (lv_at hl 3 rfl) ?_
              refine lv_aload_n hx hb dX3_moveBack_40 rfl (lv_at hl 0 rfl) ?_
              refine va_get (D := G) (ci := 5) (v := .ref o_ranking) (C := RX3) (T := TX3) (N := 6) hx hb hts i_X3 hown hK.1 hP 0 rfl rfl 5 (by decide) w_1 (fun _ h9 => h9) rfl dX3_moveBack_41 ?_
              refine lv_iload hx hb dX3_moveBack_44 (lv_at hl 3 rfl) ?_
              refine lv_iconst (v := (1 : Int32)) hx hb dX3_moveBack_46 (by decide) ?_
              refine lv_iadd hx hb dX3_moveBack_47 ?_
              replace hm := gdo hm hz
              obtain ⟨gi_10, hm⟩ := hm
              refine va_iald hx hb hK.1 hP 1 0 (cA := cA 0) (n := 20) (f := g_6) rfl rfl (ixi gi_10) dX3_moveBack_48 ?_
              replace hm := gdo hm hz
              obtain ⟨gi_11, hm⟩ := hm
              refine va_iast hx hb hK.1 hP hD hS 1 0 (cA := cA 0) (n := 20) (f := g_6) rfl rfl (ixi gi_11) dX3_moveBack_49 (fun H locs hP' hD' hS' => ?_)
              replace hP : va_P G vwCl (k_X3_moveBack cA o o_creditor o_amount o_parcels o_ranking v_o_count v_o_ranked (upd g_6 x_5.toNatClampNeg (g_6 (x_5 + (1 : Int32)).toNatClampNeg))) H := hP'
              replace hD : va_D A (k_X3_moveBack cA o o_creditor o_amount o_parcels o_ranking v_o_count v_o_ranked (upd g_6 x_5.toNatClampNeg (g_6 (x_5 + (1 : Int32)).toNatClampNeg))) := hD'
              replace hS := hS'
              refine lv_iinc (v := x_5 + (1 : Int32)) (lv' := [(4, .int (x_5 + (1 : Int32))), (0, .ref o), (2, .int p2), (3, .int (g_o_ranking p1.toNatClampNeg))]) hx hb dX3_moveBack_50 hl (k := 3) rfl rfl (by decide) rfl (fun ls hl => ?_)
              refine lv_goto (tgt := 28) hx hb dX3_moveBack_53 (by decide) ?_
              exact ih28 (x_5 + (1 : Int32)) (upd g_6 x_5.toNatClampNeg (g_6 (x_5 + (1 : Int32)).toNatClampNeg)) _ _ _ hm hP hD hS (lv_sub hl [1, 2, 3, 0] rfl)
        exact L28_1 _ p1 g_o_ranking _ _ _ hm hP hD hS (lv_sub hl [2, 4, 1, 0] rfl)
      · replace hm := ie hm c_3
        exact hret _ _ g_o_ranking _ _ dX3_moveBack_17 hP hS hm.symm
def m_X3_dropPlace (p1 : Int32) (v_o_ranked : Int32) (g_o_ranking : Nat → Int32) : Option (Int32 × (Nat → Int32)) := (if p1 < 0 then some (v_o_ranked, g_o_ranking) else (if p1 < v_o_ranked then Option.bind (m_X3_moveBack p1 (v_o_ranked - (1 : Int32)) v_o_ranked g_o_ranking) (fun g_3 => some (v_o_ranked - (1 : Int32), g_3)) else some (v_o_ranked, g_o_ranking)))
abbrev k_X3_dropPlace (cA : Nat → ClassId) (o o_creditor o_amount o_parcels o_ranking : Nat) (v_o_count : Int32) (v_o_ranked : Int32) (g_o_ranking : Nat → Int32) : va_W := [(o, .inr (5, [.int v_o_count, .int v_o_ranked, .ref o_creditor, .ref o_amount, .ref o_parcels, .ref o_ranking])), (o_ranking, .inl (cA 0, 20, .inl g_o_ranking))]
set_option maxHeartbeats 4000000 in
set_option maxRecDepth 100000 in
/-- X3_dropPlace: as its model -/
theorem c_X3_dropPlace (l : Launch) (G : va_G) (cA : Nat → ClassId) (o o_creditor o_amount o_parcels o_ranking : Nat) (sz : Nat) (p1 : Int32) (v_o_count : Int32) (v_o_ranked : Int32) (g_o_ranking : Nat → Int32) (R : Option (Int32 × (Nat → Int32))) (hR : m_X3_dropPlace p1 v_o_ranked g_o_ranking = R) (hz : R ≠ none) : Met l yX3_dropPlace wsX3_dropPlace ({ frames := 1, cells := 0, slots := 0, locals := 24 } : Room) (va_Pc [.ref o, .int p1] (PM G cA (k_X3_dropPlace cA o o_creditor o_amount o_parcels o_ranking v_o_count v_o_ranked g_o_ranking) sz)) (va_Qv (fun (u : Int32 × (Nat → Int32)) => R = some u) (BM G (fun (u : Int32 × (Nat → Int32)) => (k_X3_dropPlace cA o o_creditor o_amount o_parcels o_ranking v_o_count u.1 u.2))) (va_A (k_X3_dropPlace cA o o_creditor o_amount o_parcels o_ranking v_o_count v_o_ranked g_o_ranking) sz)) 0 0 (va_A (k_X3_dropPlace cA o o_creditor o_amount o_parcels o_ranking v_o_count v_o_ranked g_o_ranking) sz) := by
  refine metV (by decide) rfl (Nat.le_of_ble_eq_true rfl) ?_
  intro p e s m av below meth c Q ls A H hx hb hml hts hown hP hK hD hA hS hl hret
  replace hl : lv_has ls 2 [(0, .ref o), (1, .int p1)] := hl
  have w_0 := hts (.fieldLink RX3 15 "ParcelRegistry$Liens" "ranked" "I") (by decide +kernel)
  have i_X3 : ∀ w ∈ wsX30, w ∈ wsX3_dropPlace := by decide +kernel
  have hm := hR
  unfold m_X3_dropPlace at hm
  refine lv_iload_n hx hb dX3_dropPlace_0 rfl (lv_at hl 1 rfl) ?_
  refine lv_if_lt (tgt := 12) hx hb dX3_dropPlace_1 (by decide) (fun c_1 => ?_) (fun c_1 => ?_)
  · replace hm := it hm c_1
    exact hret _ _ (v_o_ranked, g_o_ranking) _ _ dX3_dropPlace_12 hP hS hm.symm
  · replace hm := ie hm c_1
    refine lv_iload_n hx hb dX3_dropPlace_4 rfl (lv_at hl 1 rfl) ?_
    refine lv_aload_n hx hb dX3_dropPlace_5 rfl (lv_at hl 0 rfl) ?_
    refine va_get (D := G) (ci := 5) (v := .int v_o_ranked) (C := RX3) (T := TX3) (N := 6) hx hb hts i_X3 hown hK.1 hP 0 rfl rfl 1 (by decide) w_0 (fun _ h9 => h9) rfl dX3_dropPlace_6 ?_
    refine lv_icmp_lt (tgt := 13) hx hb dX3_dropPlace_9 (by decide) (fun c_2 => ?_) (fun c_2 => ?_)
    · replace hm := it hm c_2
      refine lv_aload_n hx hb dX3_dropPlace_13 rfl (lv_at hl 0 rfl) ?_
      refine lv_iload_n hx hb dX3_dropPlace_14 rfl (lv_at hl 1 rfl) ?_
      refine lv_aload_n hx hb dX3_dropPlace_15 rfl (lv_at hl 0 rfl) ?_
      refine va_get (D := G) (ci := 5) (v := .int v_o_ranked) (C := RX3) (T := TX3) (N := 6) hx hb hts i_X3 hown hK.1 hP 0 rfl rfl 1 (by decide) w_0 (fun _ h9 => h9) rfl dX3_dropPlace_16 ?_
      refine lv_iconst (v := (1 : Int32)) hx hb dX3_dropPlace_19 (by decide) ?_
      refine lv_isub hx hb dX3_dropPlace_20 ?_
      have hPc := hP.sub (ws' := (k_X3_moveBack cA o o_creditor o_amount o_parcels o_ranking v_o_count v_o_ranked g_o_ranking)) [0, 1] rfl
      have hDc := hD.sub (ws' := (k_X3_moveBack cA o o_creditor o_amount o_parcels o_ranking v_o_count v_o_ranked g_o_ranking)) [0, 1] (by decide) rfl
      have hFc := va_free (wc := (k_X3_moveBack cA o o_creditor o_amount o_parcels o_ranking v_o_count v_o_ranked g_o_ranking)) hD hS hA [0, 1] rfl
      refine va_callv (va_runV (As := [.int p1, .int (v_o_ranked - (1 : Int32))]) (rest := []) ⟨hx, hb, hml, hown, hts⟩ (c_X3_moveBack l G cA o o_creditor o_amount o_parcels o_ranking H.size p1 (v_o_ranked - (1 : Int32)) v_o_count v_o_ranked g_o_ranking _ rfl (bnz hm hz)) (cwV 2 hts gX3_dropPlace_X3_moveBack rfl rfl rfl (by decide +kernel) ⟨Nat.le_of_ble_eq_true rfl, Nat.le_of_ble_eq_true rfl⟩) (preMV (q := (RX3, TX3, 6)) hPc hDc hK 0 rfl rfl) rfl rfl hl.1 rfl (lv_room (Nat.le_of_ble_eq_true rfl)) dX3_dropPlace_21 ⟨Nat.zero_le _, Nat.zero_le _⟩) hS (fun q _ h => hFc q h) hFc (fun u_3 t H locs ht hvm hw hB hz1 hk1 hS' => ?_)
      obtain ⟨g_3, rfl⟩ : ∃ z, z = u_3 := ⟨_, rfl⟩
      replace hm := bst hm hw
      replace hB : va_P G vwCl _ _ := hB
      rw [ht] at hB
      have hj := va_back (ws' := (k_X3_dropPlace cA o o_creditor o_amount o_parcels o_ranking v_o_count v_o_ranked g_3)) hP hD [0, 1] rfl hk1 hB [(true, 0), (true, 1)] rfl (by decide) rfl
      replace hP := hj.1
      replace hD := hj.2
      replace hS := hS'
      clear hj hPc hDc hFc hB
      refine lv_aload_n hx hb dX3_dropPlace_24 rfl (lv_at hl 0 rfl) ?_
      refine lv_dup hx hb dX3_dropPlace_25 rfl ?_
      refine va_get (D := G) (ci := 5) (v := .int v_o_ranked) (C := RX3) (T := TX3) (N := 6) hx hb hts i_X3 hown hK.1 hP 0 rfl rfl 1 (by decide) w_0 (fun _ h9 => h9) rfl dX3_dropPlace_26 ?_
      refine lv_iconst (v := (1 : Int32)) hx hb dX3_dropPlace_29 (by decide) ?_
      refine lv_isub hx hb dX3_dropPlace_30 ?_
      refine va_put (D := G) (ci := 5) (v := .int (v_o_ranked - (1 : Int32))) (ty := .int) (C := RX3) (T := TX3) (N := 6) hx hb hts i_X3 tyX3 tyX3_ok nmX3 hown hK.1 hP hD hS 0 rfl rfl 1 (by decide) w_0 (fun _ h9 => h9) rfl (by decide +kernel) rfl rfl (Nat.le_of_ble_eq_true rfl) dX3_dropPlace_31 (fun H locs hP' hD' hS' => ?_)
      replace hP : va_P G vwCl (k_X3_dropPlace cA o o_creditor o_amount o_parcels o_ranking v_o_count (v_o_ranked - (1 : Int32)) g_3) H := hP'
      replace hD : va_D A (k_X3_dropPlace cA o o_creditor o_amount o_parcels o_ranking v_o_count (v_o_ranked - (1 : Int32)) g_3) := hD'
      replace hS := hS'
      exact hret _ _ (v_o_ranked - (1 : Int32), g_3) _ _ dX3_dropPlace_34 hP hS hm.symm
    · replace hm := ie hm c_2
      exact hret _ _ (v_o_ranked, g_o_ranking) _ _ dX3_dropPlace_12 hP hS hm.symm
def m_X3_atPlace_L5 (v_o_ranked : Int32) (g_o_parcels : Nat → Int32) (g_o_ranking : Nat → Int32) (p1 : Int32) (p2 : Int32) : ((Int32 × Int32) → Option (Int32)) → (Int32 × Int32) → Option (Int32) := fun rec_3 v => match v with
  | (x_1, x_2) => (if v_o_ranked ≤ x_2 then some (-1 : Int32) else Option.bind (m_X3_liesOn x_2 p1 g_o_parcels g_o_ranking) (fun r_5 => (if r_5 = 0 then rec_3 (x_1, x_2 + (1 : Int32)) else (if x_1 = p2 then gd (ix x_2 20) (some (g_o_ranking x_2.toNatClampNeg)) else rec_3 (x_1 + (1 : Int32), x_2 + (1 : Int32))))))
def m_X3_atPlace (p1 : Int32) (p2 : Int32) (v_o_ranked : Int32) (g_o_parcels : Nat → Int32) (g_o_ranking : Nat → Int32) : Option (Int32) := fuel (m_X3_atPlace_L5 v_o_ranked g_o_parcels g_o_ranking p1 p2) FU ((0 : Int32), (0 : Int32))
abbrev k_X3_atPlace (cA : Nat → ClassId) (o o_creditor o_amount o_parcels o_ranking : Nat) (v_o_count : Int32) (v_o_ranked : Int32) (g_o_parcels : Nat → Int32) (g_o_ranking : Nat → Int32) : va_W := [(o, .inr (5, [.int v_o_count, .int v_o_ranked, .ref o_creditor, .ref o_amount, .ref o_parcels, .ref o_ranking])), (o_parcels, .inl (cA 0, 20, .inl g_o_parcels)), (o_ranking, .inl (cA 0, 20, .inl g_o_ranking))]
set_option maxHeartbeats 4000000 in
set_option maxRecDepth 100000 in
/-- X3_atPlace: as its model -/
theorem c_X3_atPlace (l : Launch) (G : va_G) (cA : Nat → ClassId) (o o_creditor o_amount o_parcels o_ranking : Nat) (p1 : Int32) (p2 : Int32) (v_o_count : Int32) (v_o_ranked : Int32) (g_o_parcels : Nat → Int32) (g_o_ranking : Nat → Int32) (R : Option (Int32)) (hR : m_X3_atPlace p1 p2 v_o_ranked g_o_parcels g_o_ranking = R) (hz : R ≠ none) : Met l yX3_atPlace wsX3_atPlace ({ frames := 2, cells := 0, slots := 0, locals := 43 } : Room) (va_Pc [.ref o, .int p1, .int p2] (PR G cA (k_X3_atPlace cA o o_creditor o_amount o_parcels o_ranking v_o_count v_o_ranked g_o_parcels g_o_ranking))) (vp_Si (fun r => R = some r)) 0 0 (fun _ => False) := by
  refine metR .int (by decide) rfl (Nat.le_of_ble_eq_true rfl) ?_
  intro p e s m av below meth c Q ls hx hb hml hts hown hP hK hl hret
  replace hl : lv_has ls 5 [(0, .ref o), (1, .int p1), (2, .int p2)] := hl
  have w_0 := hts (.fieldLink RX3 15 "ParcelRegistry$Liens" "ranked" "I") (by decide +kernel)
  have w_1 := hts (.fieldLink RX3 28 "ParcelRegistry$Liens" "ranking" "[I") (by decide +kernel)
  have i_X3 : ∀ w ∈ wsX30, w ∈ wsX3_atPlace := by decide +kernel
  have hm := hR
  unfold m_X3_atPlace at hm
  refine lv_iconst (v := (0 : Int32)) hx hb dX3_atPlace_0 (by decide) ?_
  refine lv_istore_n (lv' := [(3, .int (0 : Int32)), (0, .ref o), (1, .int p1), (2, .int p2)]) hx hb dX3_atPlace_1 rfl hl (by decide) rfl (fun ls hl => ?_)
  refine lv_iconst (v := (0 : Int32)) hx hb dX3_atPlace_2 (by decide) ?_
  refine lv_istore (lv' := [(4, .int (0 : Int32)), (3, .int (0 : Int32)), (0, .ref o), (1, .int p1), (2, .int p2)]) hx hb dX3_atPlace_3 hl (by decide) rfl (fun ls hl => ?_)
  have L5_1 : ∀ (n : Nat), ∀ (x_1 : Int32) (x_2 : Int32), ∀ (ls : Array Slot), fuel (m_X3_atPlace_L5 v_o_ranked g_o_parcels g_o_ranking p1 p2) n (x_1, x_2) = R → lv_has ls 5 [(0, .ref o), (1, .int p1), (2, .int p2), (3, .int x_1), (4, .int x_2)] → W p l e ({ frames := 2, cells := 0, slots := 0, locals := 43 } : Room) s m av below meth c s.heap [] 0 0 Q (F0 m 5 ls []) := by
    intro n
    induction n with
    | zero =>
      intro x_1 x_2 ls hm hl
      exact (fu0 hm hz).elim
    | succ n ih5 =>
      intro x_1 x_2 ls hm hl
      replace hm := fus hm
      generalize fuel (m_X3_atPlace_L5 v_o_ranked g_o_parcels g_o_ranking p1 p2) n = rec_3 at hm ih5
      unfold m_X3_atPlace_L5 at hm
      refine lv_iload hx hb dX3_atPlace_5 (lv_at hl 4 rfl) ?_
      refine lv_aload_n hx hb dX3_atPlace_7 rfl (lv_at hl 0 rfl) ?_
      refine va_get (D := G) (ci := 5) (v := .int v_o_ranked) (C := RX3) (T := TX3) (N := 6) hx hb hts i_X3 hown hK.1 hP 0 rfl rfl 1 (by decide) w_0 (fun _ h9 => h9) rfl dX3_atPlace_8 ?_
      refine lv_icmp_ge (tgt := 46) hx hb dX3_atPlace_11 (by decide) (fun c_4 => ?_) (fun c_4 => ?_)
      · replace hm := it hm c_4
        refine lv_iconst (v := (-1 : Int32)) hx hb dX3_atPlace_46 (by decide) ?_
        exact hret _ _ _ dX3_atPlace_47 rfl hm.symm
      · replace hm := ie hm c_4
        refine lv_aload_n hx hb dX3_atPlace_14 rfl (lv_at hl 0 rfl) ?_
        refine lv_iload hx hb dX3_atPlace_15 (lv_at hl 4 rfl) ?_
        refine lv_iload_n hx hb dX3_atPlace_17 rfl (lv_at hl 1 rfl) ?_
        refine vp_callSi (va_Run.run (va_runV (As := [.int x_2, .int p1]) (rest := []) ⟨hx, hb, hml, hown, hts⟩ (c_X3_liesOn l G cA o o_creditor o_amount o_parcels o_ranking x_2 p1 v_o_count v_o_ranked g_o_parcels g_o_ranking _ rfl (bnz hm hz)) (cwV 2 hts gX3_atPlace_X3_liesOn rfl rfl rfl (by decide +kernel) ⟨Nat.le_of_ble_eq_true rfl, Nat.le_of_ble_eq_true rfl⟩) (preRV (q := (RX3, TX3, 6)) (hP.sub [0, 1, 2] rfl) hK 0 rfl rfl) rfl rfl hl.1 rfl (lv_room (Nat.le_of_ble_eq_true rfl)) dX3_atPlace_18 ⟨Nat.zero_le _, Nat.zero_le _⟩)) (fun r_5 hw => ?_)
        replace hm := bst hm hw.1
        refine lv_if_eq (tgt := 40) hx hb dX3_atPlace_21 (by decide) (fun c_6 => ?_) (fun c_6 => ?_)
        · replace hm := it hm c_6
          refine lv_iinc (v := x_2 + (1 : Int32)) (lv' := [(4, .int (x_2 + (1 : Int32))), (0, .ref o), (1, .int p1), (2, .int p2), (3, .int x_1)]) hx hb dX3_atPlace_40 hl (k := 4) rfl rfl (by decide) rfl (fun ls hl => ?_)
          refine lv_goto (tgt := 5) hx hb dX3_atPlace_43 (by decide) ?_
          exact ih5 x_1 (x_2 + (1 : Int32)) _ hm (lv_sub hl [1, 2, 3, 4, 0] rfl)
        · replace hm := ie hm c_6
          refine lv_iload_n hx hb dX3_atPlace_24 rfl (lv_at hl 3 rfl) ?_
          refine lv_iload_n hx hb dX3_atPlace_25 rfl (lv_at hl 2 rfl) ?_
          refine lv_icmp_ne (tgt := 37) hx hb dX3_atPlace_26 (by decide) (fun c_7 => ?_) (fun c_7 => ?_)
          · replace hm := ie hm c_7
            refine lv_iinc (v := x_1 + (1 : Int32)) (lv' := [(3, .int (x_1 + (1 : Int32))), (0, .ref o), (1, .int p1), (2, .int p2), (4, .int x_2)]) hx hb dX3_atPlace_37 hl (k := 3) rfl rfl (by decide) rfl (fun ls hl => ?_)
            refine lv_iinc (v := x_2 + (1 : Int32)) (lv' := [(4, .int (x_2 + (1 : Int32))), (3, .int (x_1 + (1 : Int32))), (0, .ref o), (1, .int p1), (2, .int p2)]) hx hb dX3_atPlace_40 hl (k := 4) rfl rfl (by decide) rfl (fun ls hl => ?_)
            refine lv_goto (tgt := 5) hx hb dX3_atPlace_43 (by decide) ?_
            exact ih5 (x_1 + (1 : Int32)) (x_2 + (1 : Int32)) _ hm (lv_sub hl [2, 3, 4, 1, 0] rfl)
          · replace hm := it hm c_7
            refine lv_aload_n hx hb dX3_atPlace_29 rfl (lv_at hl 0 rfl) ?_
            refine va_get (D := G) (ci := 5) (v := .ref o_ranking) (C := RX3) (T := TX3) (N := 6) hx hb hts i_X3 hown hK.1 hP 0 rfl rfl 5 (by decide) w_1 (fun _ h9 => h9) rfl dX3_atPlace_30 ?_
            refine lv_iload hx hb dX3_atPlace_33 (lv_at hl 4 rfl) ?_
            replace hm := gdo hm hz
            obtain ⟨gi_8, hm⟩ := hm
            refine va_iald hx hb hK.1 hP 2 0 (cA := cA 0) (n := 20) (f := g_o_ranking) rfl rfl (ixi gi_8) dX3_atPlace_35 ?_
            exact hret _ _ _ dX3_atPlace_36 rfl hm.symm
  exact L5_1 _ (0 : Int32) (0 : Int32) _ hm (lv_sub hl [2, 3, 4, 1, 0] rfl)
def m_X3_paidTo_L9 (v_o_ranked : Int32) (g_o_creditor : Nat → Int32) (g_o_amount : Nat → Int32) (g_o_parcels : Nat → Int32) (g_o_ranking : Nat → Int32) (p1 : Int32) (p2 : Int32) : ((Int32 × Int32 × Int32) → Option (Int32)) → (Int32 × Int32 × Int32) → Option (Int32) := fun rec_4 v => match v with
  | (x_1, x_2, x_3) => (if v_o_ranked ≤ x_3 then some x_2 else Option.bind (m_X3_liesOn x_3 p2 g_o_parcels g_o_ranking) (fun r_6 => (if r_6 = 0 then rec_4 (x_1, x_2, x_3 + (1 : Int32)) else gd (ix x_3 20) (gd (ix (g_o_ranking x_3.toNatClampNeg) 20) (nm (if (g_o_amount (g_o_ranking x_3.toNatClampNeg).toNatClampNeg) < x_1 then g_o_amount (g_o_ranking x_3.toNatClampNeg).toNatClampNeg else x_1) (fun x_10 => gd (ix x_3 20) (gd (ix (g_o_ranking x_3.toNatClampNeg) 20) ((if (g_o_creditor (g_o_ranking x_3.toNatClampNeg).toNatClampNeg) = p1 then rec_4 (x_1 - x_10, x_2 + x_10, x_3 + (1 : Int32)) else rec_4 (x_1 - x_10, x_2 + (0 : Int32), x_3 + (1 : Int32)))))))))))
def m_X3_paidTo (p1 : Int32) (p2 : Int32) (p3 : Int32) (v_o_ranked : Int32) (g_o_creditor : Nat → Int32) (g_o_amount : Nat → Int32) (g_o_parcels : Nat → Int32) (g_o_ranking : Nat → Int32) : Option (Int32) := fuel (m_X3_paidTo_L9 v_o_ranked g_o_creditor g_o_amount g_o_parcels g_o_ranking p1 p2) FU (p3, (0 : Int32), (0 : Int32))
abbrev k_X3_paidTo (cA : Nat → ClassId) (o o_creditor o_amount o_parcels o_ranking : Nat) (v_o_count : Int32) (v_o_ranked : Int32) (g_o_creditor : Nat → Int32) (g_o_amount : Nat → Int32) (g_o_parcels : Nat → Int32) (g_o_ranking : Nat → Int32) : va_W := [(o, .inr (5, [.int v_o_count, .int v_o_ranked, .ref o_creditor, .ref o_amount, .ref o_parcels, .ref o_ranking])), (o_creditor, .inl (cA 0, 20, .inl g_o_creditor)), (o_amount, .inl (cA 0, 20, .inl g_o_amount)), (o_parcels, .inl (cA 0, 20, .inl g_o_parcels)), (o_ranking, .inl (cA 0, 20, .inl g_o_ranking))]
set_option maxHeartbeats 4000000 in
set_option maxRecDepth 100000 in
/-- X3_paidTo: as its model -/
theorem c_X3_paidTo (l : Launch) (G : va_G) (cA : Nat → ClassId) (o o_creditor o_amount o_parcels o_ranking : Nat) (p1 : Int32) (p2 : Int32) (p3 : Int32) (v_o_count : Int32) (v_o_ranked : Int32) (g_o_creditor : Nat → Int32) (g_o_amount : Nat → Int32) (g_o_parcels : Nat → Int32) (g_o_ranking : Nat → Int32) (R : Option (Int32)) (hR : m_X3_paidTo p1 p2 p3 v_o_ranked g_o_creditor g_o_amount g_o_parcels g_o_ranking = R) (hz : R ≠ none) : Met l yX3_paidTo wsX3_paidTo ({ frames := 2, cells := 0, slots := 0, locals := 43 } : Room) (va_Pc [.ref o, .int p1, .int p2, .int p3] (PR G cA (k_X3_paidTo cA o o_creditor o_amount o_parcels o_ranking v_o_count v_o_ranked g_o_creditor g_o_amount g_o_parcels g_o_ranking))) (vp_Si (fun r => R = some r)) 0 0 (fun _ => False) := by
  refine metR .int (by decide) rfl (Nat.le_of_ble_eq_true rfl) ?_
  intro p e s m av below meth c Q ls hx hb hml hts hown hP hK hl hret
  replace hl : lv_has ls 8 [(0, .ref o), (1, .int p1), (2, .int p2), (3, .int p3)] := hl
  have w_0 := hts (.fieldLink RX3 15 "ParcelRegistry$Liens" "ranked" "I") (by decide +kernel)
  have w_1 := hts (.fieldLink RX3 22 "ParcelRegistry$Liens" "amount" "[I") (by decide +kernel)
  have w_2 := hts (.fieldLink RX3 28 "ParcelRegistry$Liens" "ranking" "[I") (by decide +kernel)
  have w_3 := hts (.methodLink RX3 52 Lib.Math.min.name) (by decide +kernel)
  have w_4 := hts (.static Lib.Math.min.name) (by decide +kernel)
  have w_5 := hts (.initialized "java/lang/Math") (by decide +kernel)
  have w_6 := hts (.code Lib.Math.min.name Lib.Math.min.code 2 (some .int)) (by decide +kernel)
  have w_7 := hts (.fieldLink RX3 18 "ParcelRegistry$Liens" "creditor" "[I") (by decide +kernel)
  have i_X3 : ∀ w ∈ wsX30, w ∈ wsX3_paidTo := by decide +kernel
  have hm := hR
  unfold m_X3_paidTo at hm
  refine lv_iload_n hx hb dX3_paidTo_0 rfl (lv_at hl 3 rfl) ?_
  refine lv_istore (lv' := [(4, .int p3), (0, .ref o), (1, .int p1), (2, .int p2), (3, .int p3)]) hx hb dX3_paidTo_1 hl (by decide) rfl (fun ls hl => ?_)
  refine lv_iconst (v := (0 : Int32)) hx hb dX3_paidTo_3 (by decide) ?_
  refine lv_istore (lv' := [(5, .int (0 : Int32)), (4, .int p3), (0, .ref o), (1, .int p1), (2, .int p2), (3, .int p3)]) hx hb dX3_paidTo_4 hl (by decide) rfl (fun ls hl => ?_)
  refine lv_iconst (v := (0 : Int32)) hx hb dX3_paidTo_6 (by decide) ?_
  refine lv_istore (lv' := [(6, .int (0 : Int32)), (5, .int (0 : Int32)), (4, .int p3), (0, .ref o), (1, .int p1), (2, .int p2), (3, .int p3)]) hx hb dX3_paidTo_7 hl (by decide) rfl (fun ls hl => ?_)
  have L9_1 : ∀ (n : Nat), ∀ (x_1 : Int32) (x_2 : Int32) (x_3 : Int32), ∀ (ls : Array Slot), fuel (m_X3_paidTo_L9 v_o_ranked g_o_creditor g_o_amount g_o_parcels g_o_ranking p1 p2) n (x_1, x_2, x_3) = R → lv_has ls 8 [(0, .ref o), (1, .int p1), (2, .int p2), (4, .int x_1), (5, .int x_2), (6, .int x_3)] → W p l e ({ frames := 2, cells := 0, slots := 0, locals := 43 } : Room) s m av below meth c s.heap [] 0 0 Q (F0 m 9 ls []) := by
    intro n
    induction n with
    | zero =>
      intro x_1 x_2 x_3 ls hm hl
      exact (fu0 hm hz).elim
    | succ n ih9 =>
      intro x_1 x_2 x_3 ls hm hl
      replace hm := fus hm
      generalize fuel (m_X3_paidTo_L9 v_o_ranked g_o_creditor g_o_amount g_o_parcels g_o_ranking p1 p2) n = rec_4 at hm ih9
      unfold m_X3_paidTo_L9 at hm
      refine lv_iload hx hb dX3_paidTo_9 (lv_at hl 5 rfl) ?_
      refine lv_aload_n hx hb dX3_paidTo_11 rfl (lv_at hl 0 rfl) ?_
      refine va_get (D := G) (ci := 5) (v := .int v_o_ranked) (C := RX3) (T := TX3) (N := 6) hx hb hts i_X3 hown hK.1 hP 0 rfl rfl 1 (by decide) w_0 (fun _ h9 => h9) rfl dX3_paidTo_12 ?_
      refine lv_icmp_ge (tgt := 87) hx hb dX3_paidTo_15 (by decide) (fun c_5 => ?_) (fun c_5 => ?_)
      · replace hm := it hm c_5
        refine lv_iload hx hb dX3_paidTo_87 (lv_at hl 4 rfl) ?_
        exact hret _ _ _ dX3_paidTo_89 rfl hm.symm
      · replace hm := ie hm c_5
        refine lv_aload_n hx hb dX3_paidTo_18 rfl (lv_at hl 0 rfl) ?_
        refine lv_iload hx hb dX3_paidTo_19 (lv_at hl 5 rfl) ?_
        refine lv_iload_n hx hb dX3_paidTo_21 rfl (lv_at hl 2 rfl) ?_
        refine vp_callSi (va_Run.run (va_runV (As := [.int x_3, .int p2]) (rest := []) ⟨hx, hb, hml, hown, hts⟩ (c_X3_liesOn l G cA o o_creditor o_amount o_parcels o_ranking x_3 p2 v_o_count v_o_ranked g_o_parcels g_o_ranking _ rfl (bnz hm hz)) (cwV 2 hts gX3_paidTo_X3_liesOn rfl rfl rfl (by decide +kernel) ⟨Nat.le_of_ble_eq_true rfl, Nat.le_of_ble_eq_true rfl⟩) (preRV (q := (RX3, TX3, 6)) (hP.sub [0, 3, 4] rfl) hK 0 rfl rfl) rfl rfl hl.1 rfl (lv_room (Nat.le_of_ble_eq_true rfl)) dX3_paidTo_22 ⟨Nat.zero_le _, Nat.zero_le _⟩)) (fun r_6 hw => ?_)
        replace hm := bst hm hw.1
        refine lv_if_eq (tgt := 81) hx hb dX3_paidTo_25 (by decide) (fun c_7 => ?_) (fun c_7 => ?_)
        · replace hm := it hm c_7
          refine lv_iinc (v := x_3 + (1 : Int32)) (lv' := [(6, .int (x_3 + (1 : Int32))), (0, .ref o), (1, .int p1), (2, .int p2), (4, .int x_1), (5, .int x_2)]) hx hb dX3_paidTo_81 hl (k := 5) rfl rfl (by decide) rfl (fun ls hl => ?_)
          refine lv_goto (tgt := 9) hx hb dX3_paidTo_84 (by decide) ?_
          exact ih9 x_1 x_2 (x_3 + (1 : Int32)) _ hm (lv_sub hl [1, 2, 3, 4, 5, 0] rfl)
        · replace hm := ie hm c_7
          refine lv_iload hx hb dX3_paidTo_28 (lv_at hl 3 rfl) ?_
          refine lv_aload_n hx hb dX3_paidTo_30 rfl (lv_at hl 0 rfl) ?_
          refine va_get (D := G) (ci := 5) (v := .ref o_amount) (C := RX3) (T := TX3) (N := 6) hx hb hts i_X3 hown hK.1 hP 0 rfl rfl 3 (by decide) w_1 (fun _ h9 => h9) rfl dX3_paidTo_31 ?_
          refine lv_aload_n hx hb dX3_paidTo_34 rfl (lv_at hl 0 rfl) ?_
          refine va_get (D := G) (ci := 5) (v := .ref o_ranking) (C := RX3) (T := TX3) (N := 6) hx hb hts i_X3 hown hK.1 hP 0 rfl rfl 5 (by decide) w_2 (fun _ h9 => h9) rfl dX3_paidTo_35 ?_
          refine lv_iload hx hb dX3_paidTo_38 (lv_at hl 5 rfl) ?_
          replace hm := gdo hm hz
          obtain ⟨gi_8, hm⟩ := hm
          refine va_iald hx hb hK.1 hP 4 0 (cA := cA 0) (n := 20) (f := g_o_ranking) rfl rfl (ixi gi_8) dX3_paidTo_40 ?_
          replace hm := gdo hm hz
          obtain ⟨gi_9, hm⟩ := hm
          refine va_iald hx hb hK.1 hP 2 0 (cA := cA 0) (n := 20) (f := g_o_amount) rfl rfl (ixi gi_9) dX3_paidTo_41 ?_
          refine va_mmin hx hb (hml.trans hl.1.symm) hown w_3 w_4 w_5 w_6 (Nat.le_of_ble_eq_true rfl) (Nat.le_of_ble_eq_true rfl) (Nat.zero_le _) (Nat.zero_le _) dX3_paidTo_42 ?_
          refine lv_topi (fun x_10 e_x_10 => ?_)
          replace hm := nmo hm e_x_10
          refine lv_istore (lv' := [(7, .int x_10), (0, .ref o), (1, .int p1), (2, .int p2), (4, .int x_1), (5, .int x_2), (6, .int x_3)]) hx hb dX3_paidTo_45 hl (by decide) rfl (fun ls hl => ?_)
          refine lv_iload hx hb dX3_paidTo_47 (lv_at hl 4 rfl) ?_
          refine lv_iload hx hb dX3_paidTo_49 (lv_at hl 0 rfl) ?_
          refine lv_isub hx hb dX3_paidTo_51 ?_
          refine lv_istore (lv' := [(4, .int (x_1 - x_10)), (7, .int x_10), (0, .ref o), (1, .int p1), (2, .int p2), (5, .int x_2), (6, .int x_3)]) hx hb dX3_paidTo_52 hl (by decide) rfl (fun ls hl => ?_)
          refine lv_iload hx hb dX3_paidTo_54 (lv_at hl 5 rfl) ?_
          refine lv_aload_n hx hb dX3_paidTo_56 rfl (lv_at hl 2 rfl) ?_
          refine va_get (D := G) (ci := 5) (v := .ref o_creditor) (C := RX3) (T := TX3) (N := 6) hx hb hts i_X3 hown hK.1 hP 0 rfl rfl 2 (by decide) w_7 (fun _ h9 => h9) rfl dX3_paidTo_57 ?_
          refine lv_aload_n hx hb dX3_paidTo_60 rfl (lv_at hl 2 rfl) ?_
          refine va_get (D := G) (ci := 5) (v := .ref o_ranking) (C := RX3) (T := TX3) (N := 6) hx hb hts i_X3 hown hK.1 hP 0 rfl rfl 5 (by decide) w_2 (fun _ h9 => h9) rfl dX3_paidTo_61 ?_
          refine lv_iload hx hb dX3_paidTo_64 (lv_at hl 6 rfl) ?_
          replace hm := gdo hm hz
          obtain ⟨gi_11, hm⟩ := hm
          refine va_iald hx hb hK.1 hP 4 0 (cA := cA 0) (n := 20) (f := g_o_ranking) rfl rfl (ixi gi_11) dX3_paidTo_66 ?_
          replace hm := gdo hm hz
          obtain ⟨gi_12, hm⟩ := hm
          refine va_iald hx hb hK.1 hP 1 0 (cA := cA 0) (n := 20) (f := g_o_creditor) rfl rfl (ixi gi_12) dX3_paidTo_67 ?_
          refine lv_iload_n hx hb dX3_paidTo_68 rfl (lv_at hl 3 rfl) ?_
          refine lv_icmp_ne (tgt := 77) hx hb dX3_paidTo_69 (by decide) (fun c_13 => ?_) (fun c_13 => ?_)
          · replace hm := ie hm c_13
            refine lv_iconst (v := (0 : Int32)) hx hb dX3_paidTo_77 (by decide) ?_
            refine lv_iadd hx hb dX3_paidTo_78 ?_
            refine lv_istore (lv' := [(5, .int (x_2 + (0 : Int32))), (4, .int (x_1 - x_10)), (7, .int x_10), (0, .ref o), (1, .int p1), (2, .int p2), (6, .int x_3)]) hx hb dX3_paidTo_79 hl (by decide) rfl (fun ls hl => ?_)
            refine lv_iinc (v := x_3 + (1 : Int32)) (lv' := [(6, .int (x_3 + (1 : Int32))), (5, .int (x_2 + (0 : Int32))), (4, .int (x_1 - x_10)), (7, .int x_10), (0, .ref o), (1, .int p1), (2, .int p2)]) hx hb dX3_paidTo_81 hl (k := 6) rfl rfl (by decide) rfl (fun ls hl => ?_)
            refine lv_goto (tgt := 9) hx hb dX3_paidTo_84 (by decide) ?_
            exact ih9 (x_1 - x_10) (x_2 + (0 : Int32)) (x_3 + (1 : Int32)) _ hm (lv_sub hl [4, 5, 6, 2, 1, 0] rfl)
          · replace hm := it hm c_13
            refine lv_iload hx hb dX3_paidTo_72 (lv_at hl 1 rfl) ?_
            refine lv_goto (tgt := 78) hx hb dX3_paidTo_74 (by decide) ?_
            refine lv_iadd hx hb dX3_paidTo_78 ?_
            refine lv_istore (lv' := [(5, .int (x_2 + x_10)), (4, .int (x_1 - x_10)), (7, .int x_10), (0, .ref o), (1, .int p1), (2, .int p2), (6, .int x_3)]) hx hb dX3_paidTo_79 hl (by decide) rfl (fun ls hl => ?_)
            refine lv_iinc (v := x_3 + (1 : Int32)) (lv' := [(6, .int (x_3 + (1 : Int32))), (5, .int (x_2 + x_10)), (4, .int (x_1 - x_10)), (7, .int x_10), (0, .ref o), (1, .int p1), (2, .int p2)]) hx hb dX3_paidTo_81 hl (k := 6) rfl rfl (by decide) rfl (fun ls hl => ?_)
            refine lv_goto (tgt := 9) hx hb dX3_paidTo_84 (by decide) ?_
            exact ih9 (x_1 - x_10) (x_2 + x_10) (x_3 + (1 : Int32)) _ hm (lv_sub hl [4, 5, 6, 2, 1, 0] rfl)
  exact L9_1 _ p3 (0 : Int32) (0 : Int32) _ hm (lv_sub hl [3, 4, 5, 2, 1, 0] rfl)
def m_X3_sumOn_L4 (v_o_ranked : Int32) (g_o_amount : Nat → Int32) (g_o_parcels : Nat → Int32) (g_o_ranking : Nat → Int32) (p1 : Int32) : ((Int32 × Int32) → Option (Int32)) → (Int32 × Int32) → Option (Int32) := fun rec_3 v => match v with
  | (x_1, x_2) => (if v_o_ranked ≤ x_2 then some x_1 else Option.bind (m_X3_liesOn x_2 p1 g_o_parcels g_o_ranking) (fun r_5 => (if r_5 = 0 then rec_3 (x_1, x_2 + (1 : Int32)) else gd (ix x_2 20) (gd (ix (g_o_ranking x_2.toNatClampNeg) 20) (nm (x_1 + (g_o_amount (g_o_ranking x_2.toNatClampNeg).toNatClampNeg)) (fun x_9 => rec_3 (x_9, x_2 + (1 : Int32))))))))
def m_X3_sumOn (p1 : Int32) (v_o_ranked : Int32) (g_o_amount : Nat → Int32) (g_o_parcels : Nat → Int32) (g_o_ranking : Nat → Int32) : Option (Int32) := fuel (m_X3_sumOn_L4 v_o_ranked g_o_amount g_o_parcels g_o_ranking p1) FU ((0 : Int32), (0 : Int32))
abbrev k_X3_sumOn (cA : Nat → ClassId) (o o_creditor o_amount o_parcels o_ranking : Nat) (v_o_count : Int32) (v_o_ranked : Int32) (g_o_amount : Nat → Int32) (g_o_parcels : Nat → Int32) (g_o_ranking : Nat → Int32) : va_W := [(o, .inr (5, [.int v_o_count, .int v_o_ranked, .ref o_creditor, .ref o_amount, .ref o_parcels, .ref o_ranking])), (o_amount, .inl (cA 0, 20, .inl g_o_amount)), (o_parcels, .inl (cA 0, 20, .inl g_o_parcels)), (o_ranking, .inl (cA 0, 20, .inl g_o_ranking))]
set_option maxHeartbeats 4000000 in
set_option maxRecDepth 100000 in
/-- X3_sumOn: as its model -/
theorem c_X3_sumOn (l : Launch) (G : va_G) (cA : Nat → ClassId) (o o_creditor o_amount o_parcels o_ranking : Nat) (p1 : Int32) (v_o_count : Int32) (v_o_ranked : Int32) (g_o_amount : Nat → Int32) (g_o_parcels : Nat → Int32) (g_o_ranking : Nat → Int32) (R : Option (Int32)) (hR : m_X3_sumOn p1 v_o_ranked g_o_amount g_o_parcels g_o_ranking = R) (hz : R ≠ none) : Met l yX3_sumOn wsX3_sumOn ({ frames := 2, cells := 0, slots := 0, locals := 43 } : Room) (va_Pc [.ref o, .int p1] (PR G cA (k_X3_sumOn cA o o_creditor o_amount o_parcels o_ranking v_o_count v_o_ranked g_o_amount g_o_parcels g_o_ranking))) (vp_Si (fun r => R = some r)) 0 0 (fun _ => False) := by
  refine metR .int (by decide) rfl (Nat.le_of_ble_eq_true rfl) ?_
  intro p e s m av below meth c Q ls hx hb hml hts hown hP hK hl hret
  replace hl : lv_has ls 4 [(0, .ref o), (1, .int p1)] := hl
  have w_0 := hts (.fieldLink RX3 15 "ParcelRegistry$Liens" "ranked" "I") (by decide +kernel)
  have w_1 := hts (.fieldLink RX3 22 "ParcelRegistry$Liens" "amount" "[I") (by decide +kernel)
  have w_2 := hts (.fieldLink RX3 28 "ParcelRegistry$Liens" "ranking" "[I") (by decide +kernel)
  have i_X3 : ∀ w ∈ wsX30, w ∈ wsX3_sumOn := by decide +kernel
  have hm := hR
  unfold m_X3_sumOn at hm
  refine lv_iconst (v := (0 : Int32)) hx hb dX3_sumOn_0 (by decide) ?_
  refine lv_istore_n (lv' := [(2, .int (0 : Int32)), (0, .ref o), (1, .int p1)]) hx hb dX3_sumOn_1 rfl hl (by decide) rfl (fun ls hl => ?_)
  refine lv_iconst (v := (0 : Int32)) hx hb dX3_sumOn_2 (by decide) ?_
  refine lv_istore_n (lv' := [(3, .int (0 : Int32)), (2, .int (0 : Int32)), (0, .ref o), (1, .int p1)]) hx hb dX3_sumOn_3 rfl hl (by decide) rfl (fun ls hl => ?_)
  have L4_1 : ∀ (n : Nat), ∀ (x_1 : Int32) (x_2 : Int32), ∀ (ls : Array Slot), fuel (m_X3_sumOn_L4 v_o_ranked g_o_amount g_o_parcels g_o_ranking p1) n (x_1, x_2) = R → lv_has ls 4 [(0, .ref o), (1, .int p1), (2, .int x_1), (3, .int x_2)] → W p l e ({ frames := 2, cells := 0, slots := 0, locals := 43 } : Room) s m av below meth c s.heap [] 0 0 Q (F0 m 4 ls []) := by
    intro n
    induction n with
    | zero =>
      intro x_1 x_2 ls hm hl
      exact (fu0 hm hz).elim
    | succ n ih4 =>
      intro x_1 x_2 ls hm hl
      replace hm := fus hm
      generalize fuel (m_X3_sumOn_L4 v_o_ranked g_o_amount g_o_parcels g_o_ranking p1) n = rec_3 at hm ih4
      unfold m_X3_sumOn_L4 at hm
      refine lv_iload_n hx hb dX3_sumOn_4 rfl (lv_at hl 3 rfl) ?_
      refine lv_aload_n hx hb dX3_sumOn_5 rfl (lv_at hl 0 rfl) ?_
      refine va_get (D := G) (ci := 5) (v := .int v_o_ranked) (C := RX3) (T := TX3) (N := 6) hx hb hts i_X3 hown hK.1 hP 0 rfl rfl 1 (by decide) w_0 (fun _ h9 => h9) rfl dX3_sumOn_6 ?_
      refine lv_icmp_ge (tgt := 41) hx hb dX3_sumOn_9 (by decide) (fun c_4 => ?_) (fun c_4 => ?_)
      · replace hm := it hm c_4
        refine lv_iload_n hx hb dX3_sumOn_41 rfl (lv_at hl 2 rfl) ?_
        exact hret _ _ _ dX3_sumOn_42 rfl hm.symm
      · replace hm := ie hm c_4
        refine lv_aload_n hx hb dX3_sumOn_12 rfl (lv_at hl 0 rfl) ?_
        refine lv_iload_n hx hb dX3_sumOn_13 rfl (lv_at hl 3 rfl) ?_
        refine lv_iload_n hx hb dX3_sumOn_14 rfl (lv_at hl 1 rfl) ?_
        refine vp_callSi (va_Run.run (va_runV (As := [.int x_2, .int p1]) (rest := []) ⟨hx, hb, hml, hown, hts⟩ (c_X3_liesOn l G cA o o_creditor o_amount o_parcels o_ranking x_2 p1 v_o_count v_o_ranked g_o_parcels g_o_ranking _ rfl (bnz hm hz)) (cwV 2 hts gX3_sumOn_X3_liesOn rfl rfl rfl (by decide +kernel) ⟨Nat.le_of_ble_eq_true rfl, Nat.le_of_ble_eq_true rfl⟩) (preRV (q := (RX3, TX3, 6)) (hP.sub [0, 2, 3] rfl) hK 0 rfl rfl) rfl rfl hl.1 rfl (lv_room (Nat.le_of_ble_eq_true rfl)) dX3_sumOn_15 ⟨Nat.zero_le _, Nat.zero_le _⟩)) (fun r_5 hw => ?_)
        replace hm := bst hm hw.1
        refine lv_if_eq (tgt := 35) hx hb dX3_sumOn_18 (by decide) (fun c_6 => ?_) (fun c_6 => ?_)
        · replace hm := it hm c_6
          refine lv_iinc (v := x_2 + (1 : Int32)) (lv' := [(3, .int (x_2 + (1 : Int32))), (0, .ref o), (1, .int p1), (2, .int x_1)]) hx hb dX3_sumOn_35 hl (k := 3) rfl rfl (by decide) rfl (fun ls hl => ?_)
          refine lv_goto (tgt := 4) hx hb dX3_sumOn_38 (by decide) ?_
          exact ih4 x_1 (x_2 + (1 : Int32)) _ hm (lv_sub hl [1, 2, 3, 0] rfl)
        · replace hm := ie hm c_6
          refine lv_iload_n hx hb dX3_sumOn_21 rfl (lv_at hl 2 rfl) ?_
          refine lv_aload_n hx hb dX3_sumOn_22 rfl (lv_at hl 0 rfl) ?_
          refine va_get (D := G) (ci := 5) (v := .ref o_amount) (C := RX3) (T := TX3) (N := 6) hx hb hts i_X3 hown hK.1 hP 0 rfl rfl 3 (by decide) w_1 (fun _ h9 => h9) rfl dX3_sumOn_23 ?_
          refine lv_aload_n hx hb dX3_sumOn_26 rfl (lv_at hl 0 rfl) ?_
          refine va_get (D := G) (ci := 5) (v := .ref o_ranking) (C := RX3) (T := TX3) (N := 6) hx hb hts i_X3 hown hK.1 hP 0 rfl rfl 5 (by decide) w_2 (fun _ h9 => h9) rfl dX3_sumOn_27 ?_
          refine lv_iload_n hx hb dX3_sumOn_30 rfl (lv_at hl 3 rfl) ?_
          replace hm := gdo hm hz
          obtain ⟨gi_7, hm⟩ := hm
          refine va_iald hx hb hK.1 hP 3 0 (cA := cA 0) (n := 20) (f := g_o_ranking) rfl rfl (ixi gi_7) dX3_sumOn_31 ?_
          replace hm := gdo hm hz
          obtain ⟨gi_8, hm⟩ := hm
          refine va_iald hx hb hK.1 hP 1 0 (cA := cA 0) (n := 20) (f := g_o_amount) rfl rfl (ixi gi_8) dX3_sumOn_32 ?_
          refine lv_iadd hx hb dX3_sumOn_33 ?_
          refine lv_topi (fun x_9 e_x_9 => ?_)
          replace hm := nmo hm e_x_9
          refine lv_istore_n (lv' := [(2, .int x_9), (0, .ref o), (1, .int p1), (3, .int x_2)]) hx hb dX3_sumOn_34 rfl hl (by decide) rfl (fun ls hl => ?_)
          refine lv_iinc (v := x_2 + (1 : Int32)) (lv' := [(3, .int (x_2 + (1 : Int32))), (2, .int x_9), (0, .ref o), (1, .int p1)]) hx hb dX3_sumOn_35 hl (k := 3) rfl rfl (by decide) rfl (fun ls hl => ?_)
          refine lv_goto (tgt := 4) hx hb dX3_sumOn_38 (by decide) ?_
          exact ih4 x_9 (x_2 + (1 : Int32)) _ hm (lv_sub hl [2, 3, 1, 0] rfl)
  exact L4_1 _ (0 : Int32) (0 : Int32) _ hm (lv_sub hl [2, 3, 1, 0] rfl)
def m_X3_isLiveOn (p1 : Int32) (p2 : Int32) (v_o_ranked : Int32) (g_o_parcels : Nat → Int32) (g_o_ranking : Nat → Int32) : Option (Int32) := Option.bind (m_X3_onParcel p2 v_o_ranked g_o_parcels g_o_ranking) (fun r_1 => Option.bind (m_X7_isIn r_1 p1) (fun r_2 => gd (isb r_2) (some r_2)))
abbrev k_X3_isLiveOn (cA : Nat → ClassId) (o o_creditor o_amount o_parcels o_ranking : Nat) (v_o_count : Int32) (v_o_ranked : Int32) (g_o_parcels : Nat → Int32) (g_o_ranking : Nat → Int32) : va_W := [(o, .inr (5, [.int v_o_count, .int v_o_ranked, .ref o_creditor, .ref o_amount, .ref o_parcels, .ref o_ranking])), (o_parcels, .inl (cA 0, 20, .inl g_o_parcels)), (o_ranking, .inl (cA 0, 20, .inl g_o_ranking))]
set_option maxHeartbeats 4000000 in
set_option maxRecDepth 100000 in
/-- X3_isLiveOn: as its model -/
theorem c_X3_isLiveOn (l : Launch) (G : va_G) (cA : Nat → ClassId) (o o_creditor o_amount o_parcels o_ranking : Nat) (p1 : Int32) (p2 : Int32) (v_o_count : Int32) (v_o_ranked : Int32) (g_o_parcels : Nat → Int32) (g_o_ranking : Nat → Int32) (R : Option (Int32)) (hR : m_X3_isLiveOn p1 p2 v_o_ranked g_o_parcels g_o_ranking = R) (hz : R ≠ none) : Met l yX3_isLiveOn wsX3_isLiveOn ({ frames := 3, cells := 0, slots := 0, locals := 66 } : Room) (va_Pc [.ref o, .int p1, .int p2] (PR G cA (k_X3_isLiveOn cA o o_creditor o_amount o_parcels o_ranking v_o_count v_o_ranked g_o_parcels g_o_ranking))) (vp_Si (fun r => R = some r ∧ (r = 0 ∨ r = 1))) 0 0 (fun _ => False) := by
  refine metR .boolean (by decide) rfl (Nat.le_of_ble_eq_true rfl) ?_
  intro p e s m av below meth c Q ls hx hb hml hts hown hP hK hl hret
  replace hl : lv_has ls 3 [(0, .ref o), (1, .int p1), (2, .int p2)] := hl
  have w_0 := hts (.initialized RX7) (by decide +kernel)
  have w_1 := hts (.static yX7_isIn) (by decide +kernel)
  have hm := hR
  unfold m_X3_isLiveOn at hm
  refine lv_aload_n hx hb dX3_isLiveOn_0 rfl (lv_at hl 0 rfl) ?_
  refine lv_iload_n hx hb dX3_isLiveOn_1 rfl (lv_at hl 2 rfl) ?_
  refine vp_callSi (va_Run.run (va_runV (As := [.int p2]) (rest := []) ⟨hx, hb, hml, hown, hts⟩ (c_X3_onParcel l G cA o o_creditor o_amount o_parcels o_ranking p2 v_o_count v_o_ranked g_o_parcels g_o_ranking _ rfl (bnz hm hz)) (cwV 1 hts gX3_isLiveOn_X3_onParcel rfl rfl rfl (by decide +kernel) ⟨Nat.le_of_ble_eq_true rfl, Nat.le_of_ble_eq_true rfl⟩) (preRV (q := (RX3, TX3, 6)) (hP.sub [0, 1, 2] rfl) hK 0 rfl rfl) rfl rfl hl.1 rfl (lv_room (Nat.le_of_ble_eq_true rfl)) dX3_isLiveOn_2 ⟨Nat.zero_le _, Nat.zero_le _⟩)) (fun r_1 hw => ?_)
  replace hm := bst hm hw
  refine lv_iload_n hx hb dX3_isLiveOn_5 rfl (lv_at hl 1 rfl) ?_
  refine vp_callSi (va_Run.run (va_runSN (As := [.int r_1, .int p1]) (rest := []) ⟨hx, hb, hml, hown, hts⟩ (c_X7_isIn l G cA r_1 p1 _ rfl (bnz hm hz)) ⟨va_cnB (host := "ParcelRegistry") 2 hts gX3_isLiveOn_X7_isIn_n41 rfl rfl rfl (hK.2 (RX3, 41, yX7_isIn) (List.mem_of_getElem? (i := 10) rfl)) w_0 (by decide +kernel) ⟨Nat.le_of_ble_eq_true rfl, Nat.le_of_ble_eq_true rfl⟩, w_1, trivial⟩ (preRS (hP.sub [] rfl) hK) rfl rfl hl.1 rfl (lv_room (Nat.le_of_ble_eq_true rfl)) dX3_isLiveOn_6 ⟨Nat.zero_le _, Nat.zero_le _⟩)) (fun r_2 hw => ?_)
  replace hm := bst hm hw.1
  replace hm := gdo hm hz
  obtain ⟨gb_3, hm⟩ := hm
  exact hret _ _ _ dX3_isLiveOn_9 (nz (isbz gb_3)) ⟨hm.symm, (isbz gb_3)⟩
def m_X3_sumUpTo_L12 (g_o_amount : Nat → Int32) (g_o_parcels : Nat → Int32) (g_o_ranking : Nat → Int32) (p2 : Int32) (r_1 : Int32) : ((Int32 × Int32) → Option (Int32)) → (Int32 × Int32) → Option (Int32) := fun rec_4 v => match v with
  | (x_2, x_3) => (if r_1 < x_3 then some x_2 else Option.bind (m_X3_liesOn x_3 p2 g_o_parcels g_o_ranking) (fun r_6 => (if r_6 = 0 then rec_4 (x_2, x_3 + (1 : Int32)) else gd (ix x_3 20) (gd (ix (g_o_ranking x_3.toNatClampNeg) 20) (nm (x_2 + (g_o_amount (g_o_ranking x_3.toNatClampNeg).toNatClampNeg)) (fun x_10 => rec_4 (x_10, x_3 + (1 : Int32))))))))
def m_X3_sumUpTo (p1 : Int32) (p2 : Int32) (v_o_ranked : Int32) (g_o_amount : Nat → Int32) (g_o_parcels : Nat → Int32) (g_o_ranking : Nat → Int32) : Option (Int32) := Option.bind (m_X3_placeOf p1 v_o_ranked g_o_ranking) (fun r_1 => fuel (m_X3_sumUpTo_L12 g_o_amount g_o_parcels g_o_ranking p2 r_1) FU ((0 : Int32), (0 : Int32)))
abbrev k_X3_sumUpTo (cA : Nat → ClassId) (o o_creditor o_amount o_parcels o_ranking : Nat) (v_o_count : Int32) (v_o_ranked : Int32) (g_o_amount : Nat → Int32) (g_o_parcels : Nat → Int32) (g_o_ranking : Nat → Int32) : va_W := [(o, .inr (5, [.int v_o_count, .int v_o_ranked, .ref o_creditor, .ref o_amount, .ref o_parcels, .ref o_ranking])), (o_amount, .inl (cA 0, 20, .inl g_o_amount)), (o_parcels, .inl (cA 0, 20, .inl g_o_parcels)), (o_ranking, .inl (cA 0, 20, .inl g_o_ranking))]
set_option maxHeartbeats 4000000 in
set_option maxRecDepth 100000 in
/-- X3_sumUpTo: as its model -/
theorem c_X3_sumUpTo (l : Launch) (G : va_G) (cA : Nat → ClassId) (o o_creditor o_amount o_parcels o_ranking : Nat) (p1 : Int32) (p2 : Int32) (v_o_count : Int32) (v_o_ranked : Int32) (g_o_amount : Nat → Int32) (g_o_parcels : Nat → Int32) (g_o_ranking : Nat → Int32) (R : Option (Int32)) (hR : m_X3_sumUpTo p1 p2 v_o_ranked g_o_amount g_o_parcels g_o_ranking = R) (hz : R ≠ none) : Met l yX3_sumUpTo wsX3_sumUpTo ({ frames := 2, cells := 0, slots := 0, locals := 43 } : Room) (va_Pc [.ref o, .int p1, .int p2] (PR G cA (k_X3_sumUpTo cA o o_creditor o_amount o_parcels o_ranking v_o_count v_o_ranked g_o_amount g_o_parcels g_o_ranking))) (vp_Si (fun r => R = some r)) 0 0 (fun _ => False) := by
  refine metR .int (by decide) rfl (Nat.le_of_ble_eq_true rfl) ?_
  intro p e s m av below meth c Q ls hx hb hml hts hown hP hK hl hret
  replace hl : lv_has ls 6 [(0, .ref o), (1, .int p1), (2, .int p2)] := hl
  have w_0 := hts (.fieldLink RX3 22 "ParcelRegistry$Liens" "amount" "[I") (by decide +kernel)
  have w_1 := hts (.fieldLink RX3 28 "ParcelRegistry$Liens" "ranking" "[I") (by decide +kernel)
  have i_X3 : ∀ w ∈ wsX30, w ∈ wsX3_sumUpTo := by decide +kernel
  have hm := hR
  unfold m_X3_sumUpTo at hm
  refine lv_iconst (v := (0 : Int32)) hx hb dX3_sumUpTo_0 (by decide) ?_
  refine lv_istore_n (lv' := [(3, .int (0 : Int32)), (0, .ref o), (1, .int p1), (2, .int p2)]) hx hb dX3_sumUpTo_1 rfl hl (by decide) rfl (fun ls hl => ?_)
  refine lv_aload_n hx hb dX3_sumUpTo_2 rfl (lv_at hl 1 rfl) ?_
  refine lv_iload_n hx hb dX3_sumUpTo_3 rfl (lv_at hl 2 rfl) ?_
  refine vp_callSi (va_Run.run (va_runV (As := [.int p1]) (rest := []) ⟨hx, hb, hml, hown, hts⟩ (c_X3_placeOf l G cA o o_creditor o_amount o_parcels o_ranking p1 v_o_count v_o_ranked g_o_ranking _ rfl (bnz hm hz)) (cwV 1 hts gX3_sumUpTo_X3_placeOf rfl rfl rfl (by decide +kernel) ⟨Nat.le_of_ble_eq_true rfl, Nat.le_of_ble_eq_true rfl⟩) (preRV (q := (RX3, TX3, 6)) (hP.sub [0, 3] rfl) hK 0 rfl rfl) rfl rfl hl.1 rfl (lv_room (Nat.le_of_ble_eq_true rfl)) dX3_sumUpTo_4 ⟨Nat.zero_le _, Nat.zero_le _⟩)) (fun r_1 hw => ?_)
  replace hm := bst hm hw
  refine lv_istore (lv' := [(4, .int r_1), (3, .int (0 : Int32)), (0, .ref o), (1, .int p1), (2, .int p2)]) hx hb dX3_sumUpTo_7 hl (by decide) rfl (fun ls hl => ?_)
  refine lv_iconst (v := (0 : Int32)) hx hb dX3_sumUpTo_9 (by decide) ?_
  refine lv_istore (lv' := [(5, .int (0 : Int32)), (4, .int r_1), (3, .int (0 : Int32)), (0, .ref o), (1, .int p1), (2, .int p2)]) hx hb dX3_sumUpTo_10 hl (by decide) rfl (fun ls hl => ?_)
  have L12_1 : ∀ (n : Nat), ∀ (x_2 : Int32) (x_3 : Int32), ∀ (ls : Array Slot), fuel (m_X3_sumUpTo_L12 g_o_amount g_o_parcels g_o_ranking p2 r_1) n (x_2, x_3) = R → lv_has ls 6 [(0, .ref o), (2, .int p2), (3, .int x_2), (4, .int r_1), (5, .int x_3)] → W p l e ({ frames := 2, cells := 0, slots := 0, locals := 43 } : Room) s m av below meth c s.heap [] 0 0 Q (F0 m 12 ls []) := by
    intro n
    induction n with
    | zero =>
      intro x_2 x_3 ls hm hl
      exact (fu0 hm hz).elim
    | succ n ih12 =>
      intro x_2 x_3 ls hm hl
      replace hm := fus hm
      generalize fuel (m_X3_sumUpTo_L12 g_o_amount g_o_parcels g_o_ranking p2 r_1) n = rec_4 at hm ih12
      unfold m_X3_sumUpTo_L12 at hm
      refine lv_iload hx hb dX3_sumUpTo_12 (lv_at hl 4 rfl) ?_
      refine lv_iload hx hb dX3_sumUpTo_14 (lv_at hl 3 rfl) ?_
      refine lv_icmp_gt (tgt := 50) hx hb dX3_sumUpTo_16 (by decide) (fun c_5 => ?_) (fun c_5 => ?_)
      · replace hm := it hm c_5
        refine lv_iload_n hx hb dX3_sumUpTo_50 rfl (lv_at hl 2 rfl) ?_
        exact hret _ _ _ dX3_sumUpTo_51 rfl hm.symm
      · replace hm := ie hm c_5
        refine lv_aload_n hx hb dX3_sumUpTo_19 rfl (lv_at hl 0 rfl) ?_
        refine lv_iload hx hb dX3_sumUpTo_20 (lv_at hl 4 rfl) ?_
        refine lv_iload_n hx hb dX3_sumUpTo_22 rfl (lv_at hl 1 rfl) ?_
        refine vp_callSi (va_Run.run (va_runV (As := [.int x_3, .int p2]) (rest := []) ⟨hx, hb, hml, hown, hts⟩ (c_X3_liesOn l G cA o o_creditor o_amount o_parcels o_ranking x_3 p2 v_o_count v_o_ranked g_o_parcels g_o_ranking _ rfl (bnz hm hz)) (cwV 2 hts gX3_sumUpTo_X3_liesOn rfl rfl rfl (by decide +kernel) ⟨Nat.le_of_ble_eq_true rfl, Nat.le_of_ble_eq_true rfl⟩) (preRV (q := (RX3, TX3, 6)) (hP.sub [0, 2, 3] rfl) hK 0 rfl rfl) rfl rfl hl.1 rfl (lv_room (Nat.le_of_ble_eq_true rfl)) dX3_sumUpTo_23 ⟨Nat.zero_le _, Nat.zero_le _⟩)) (fun r_6 hw => ?_)
        replace hm := bst hm hw.1
        refine lv_if_eq (tgt := 44) hx hb dX3_sumUpTo_26 (by decide) (fun c_7 => ?_) (fun c_7 => ?_)
        · replace hm := it hm c_7
          refine lv_iinc (v := x_3 + (1 : Int32)) (lv' := [(5, .int (x_3 + (1 : Int32))), (0, .ref o), (2, .int p2), (3, .int x_2), (4, .int r_1)]) hx hb dX3_sumUpTo_44 hl (k := 4) rfl rfl (by decide) rfl (fun ls hl => ?_)
          refine lv_goto (tgt := 12) hx hb dX3_sumUpTo_47 (by decide) ?_
          exact ih12 x_2 (x_3 + (1 : Int32)) _ hm (lv_sub hl [1, 2, 3, 4, 0] rfl)
        · replace hm := ie hm c_7
          refine lv_iload_n hx hb dX3_sumUpTo_29 rfl (lv_at hl 2 rfl) ?_
          refine lv_aload_n hx hb dX3_sumUpTo_30 rfl (lv_at hl 0 rfl) ?_
          refine va_get (D := G) (ci := 5) (v := .ref o_amount) (C := RX3) (T := TX3) (N := 6) hx hb hts i_X3 hown hK.1 hP 0 rfl rfl 3 (by decide) w_0 (fun _ h9 => h9) rfl dX3_sumUpTo_31 ?_
          refine lv_aload_n hx hb dX3_sumUpTo_34 rfl (lv_at hl 0 rfl) ?_
          refine va_get (D := G) (ci := 5) (v := .ref o_ranking) (C := RX3) (T := TX3) (N := 6) hx hb hts i_X3 hown hK.1 hP 0 rfl rfl 5 (by decide) w_1 (fun _ h9 => h9) rfl dX3_sumUpTo_35 ?_
          refine lv_iload hx hb dX3_sumUpTo_38 (lv_at hl 4 rfl) ?_
          replace hm := gdo hm hz
          obtain ⟨gi_8, hm⟩ := hm
          refine va_iald hx hb hK.1 hP 3 0 (cA := cA 0) (n := 20) (f := g_o_ranking) rfl rfl (ixi gi_8) dX3_sumUpTo_40 ?_
          replace hm := gdo hm hz
          obtain ⟨gi_9, hm⟩ := hm
          refine va_iald hx hb hK.1 hP 1 0 (cA := cA 0) (n := 20) (f := g_o_amount) rfl rfl (ixi gi_9) dX3_sumUpTo_41 ?_
          refine lv_iadd hx hb dX3_sumUpTo_42 ?_
          refine lv_topi (fun x_10 e_x_10 => ?_)
          replace hm := nmo hm e_x_10
          refine lv_istore_n (lv' := [(3, .int x_10), (0, .ref o), (2, .int p2), (4, .int r_1), (5, .int x_3)]) hx hb dX3_sumUpTo_43 rfl hl (by decide) rfl (fun ls hl => ?_)
          refine lv_iinc (v := x_3 + (1 : Int32)) (lv' := [(5, .int (x_3 + (1 : Int32))), (3, .int x_10), (0, .ref o), (2, .int p2), (4, .int r_1)]) hx hb dX3_sumUpTo_44 hl (k := 4) rfl rfl (by decide) rfl (fun ls hl => ?_)
          refine lv_goto (tgt := 12) hx hb dX3_sumUpTo_47 (by decide) ?_
          exact ih12 x_10 (x_3 + (1 : Int32)) _ hm (lv_sub hl [2, 3, 1, 4, 0] rfl)
  exact L12_1 _ (0 : Int32) (0 : Int32) _ hm (lv_sub hl [3, 5, 2, 1, 0] rfl)
def m_X3_sumOfAll_L4 (v_o_ranked : Int32) (g_o_amount : Nat → Int32) (g_o_ranking : Nat → Int32) : ((Int32 × Int32) → Option (Int32)) → (Int32 × Int32) → Option (Int32) := fun rec_3 v => match v with
  | (x_1, x_2) => (if v_o_ranked ≤ x_2 then some x_1 else gd (ix x_2 20) (gd (ix (g_o_ranking x_2.toNatClampNeg) 20) (nm (x_1 + (g_o_amount (g_o_ranking x_2.toNatClampNeg).toNatClampNeg)) (fun x_7 => rec_3 (x_7, x_2 + (1 : Int32))))))
def m_X3_sumOfAll (v_o_ranked : Int32) (g_o_amount : Nat → Int32) (g_o_ranking : Nat → Int32) : Option (Int32) := fuel (m_X3_sumOfAll_L4 v_o_ranked g_o_amount g_o_ranking) FU ((0 : Int32), (0 : Int32))
abbrev k_X3_sumOfAll (cA : Nat → ClassId) (o o_creditor o_amount o_parcels o_ranking : Nat) (v_o_count : Int32) (v_o_ranked : Int32) (g_o_amount : Nat → Int32) (g_o_ranking : Nat → Int32) : va_W := [(o, .inr (5, [.int v_o_count, .int v_o_ranked, .ref o_creditor, .ref o_amount, .ref o_parcels, .ref o_ranking])), (o_amount, .inl (cA 0, 20, .inl g_o_amount)), (o_ranking, .inl (cA 0, 20, .inl g_o_ranking))]
set_option maxHeartbeats 4000000 in
set_option maxRecDepth 100000 in
/-- X3_sumOfAll: as its model -/
theorem c_X3_sumOfAll (l : Launch) (G : va_G) (cA : Nat → ClassId) (o o_creditor o_amount o_parcels o_ranking : Nat) (v_o_count : Int32) (v_o_ranked : Int32) (g_o_amount : Nat → Int32) (g_o_ranking : Nat → Int32) (R : Option (Int32)) (hR : m_X3_sumOfAll v_o_ranked g_o_amount g_o_ranking = R) (hz : R ≠ none) : Met l yX3_sumOfAll wsX3_sumOfAll ({ frames := 0, cells := 0, slots := 0, locals := 0 } : Room) (va_Pc [.ref o] (PR G cA (k_X3_sumOfAll cA o o_creditor o_amount o_parcels o_ranking v_o_count v_o_ranked g_o_amount g_o_ranking))) (vp_Si (fun r => R = some r)) 0 0 (fun _ => False) := by
  refine metR .int (by decide) rfl (Nat.le_of_ble_eq_true rfl) ?_
  intro p e s m av below meth c Q ls hx hb hml hts hown hP hK hl hret
  replace hl : lv_has ls 3 [(0, .ref o)] := hl
  have w_0 := hts (.fieldLink RX3 15 "ParcelRegistry$Liens" "ranked" "I") (by decide +kernel)
  have w_1 := hts (.fieldLink RX3 22 "ParcelRegistry$Liens" "amount" "[I") (by decide +kernel)
  have w_2 := hts (.fieldLink RX3 28 "ParcelRegistry$Liens" "ranking" "[I") (by decide +kernel)
  have i_X3 : ∀ w ∈ wsX30, w ∈ wsX3_sumOfAll := by decide +kernel
  have hm := hR
  unfold m_X3_sumOfAll at hm
  refine lv_iconst (v := (0 : Int32)) hx hb dX3_sumOfAll_0 (by decide) ?_
  refine lv_istore_n (lv' := [(1, .int (0 : Int32)), (0, .ref o)]) hx hb dX3_sumOfAll_1 rfl hl (by decide) rfl (fun ls hl => ?_)
  refine lv_iconst (v := (0 : Int32)) hx hb dX3_sumOfAll_2 (by decide) ?_
  refine lv_istore_n (lv' := [(2, .int (0 : Int32)), (1, .int (0 : Int32)), (0, .ref o)]) hx hb dX3_sumOfAll_3 rfl hl (by decide) rfl (fun ls hl => ?_)
  have L4_1 : ∀ (n : Nat), ∀ (x_1 : Int32) (x_2 : Int32), ∀ (ls : Array Slot), fuel (m_X3_sumOfAll_L4 v_o_ranked g_o_amount g_o_ranking) n (x_1, x_2) = R → lv_has ls 3 [(0, .ref o), (1, .int x_1), (2, .int x_2)] → W p l e ({ frames := 0, cells := 0, slots := 0, locals := 0 } : Room) s m av below meth c s.heap [] 0 0 Q (F0 m 4 ls []) := by
    intro n
    induction n with
    | zero =>
      intro x_1 x_2 ls hm hl
      exact (fu0 hm hz).elim
    | succ n ih4 =>
      intro x_1 x_2 ls hm hl
      replace hm := fus hm
      generalize fuel (m_X3_sumOfAll_L4 v_o_ranked g_o_amount g_o_ranking) n = rec_3 at hm ih4
      unfold m_X3_sumOfAll_L4 at hm
      refine lv_iload_n hx hb dX3_sumOfAll_4 rfl (lv_at hl 2 rfl) ?_
      refine lv_aload_n hx hb dX3_sumOfAll_5 rfl (lv_at hl 0 rfl) ?_
      refine va_get (D := G) (ci := 5) (v := .int v_o_ranked) (C := RX3) (T := TX3) (N := 6) hx hb hts i_X3 hown hK.1 hP 0 rfl rfl 1 (by decide) w_0 (fun _ h9 => h9) rfl dX3_sumOfAll_6 ?_
      refine lv_icmp_ge (tgt := 32) hx hb dX3_sumOfAll_9 (by decide) (fun c_4 => ?_) (fun c_4 => ?_)
      · replace hm := it hm c_4
        refine lv_iload_n hx hb dX3_sumOfAll_32 rfl (lv_at hl 1 rfl) ?_
        exact hret _ _ _ dX3_sumOfAll_33 rfl hm.symm
      · replace hm := ie hm c_4
        refine lv_iload_n hx hb dX3_sumOfAll_12 rfl (lv_at hl 1 rfl) ?_
        refine lv_aload_n hx hb dX3_sumOfAll_13 rfl (lv_at hl 0 rfl) ?_
        refine va_get (D := G) (ci := 5) (v := .ref o_amount) (C := RX3) (T := TX3) (N := 6) hx hb hts i_X3 hown hK.1 hP 0 rfl rfl 3 (by decide) w_1 (fun _ h9 => h9) rfl dX3_sumOfAll_14 ?_
        refine lv_aload_n hx hb dX3_sumOfAll_17 rfl (lv_at hl 0 rfl) ?_
        refine va_get (D := G) (ci := 5) (v := .ref o_ranking) (C := RX3) (T := TX3) (N := 6) hx hb hts i_X3 hown hK.1 hP 0 rfl rfl 5 (by decide) w_2 (fun _ h9 => h9) rfl dX3_sumOfAll_18 ?_
        refine lv_iload_n hx hb dX3_sumOfAll_21 rfl (lv_at hl 2 rfl) ?_
        replace hm := gdo hm hz
        obtain ⟨gi_5, hm⟩ := hm
        refine va_iald hx hb hK.1 hP 2 0 (cA := cA 0) (n := 20) (f := g_o_ranking) rfl rfl (ixi gi_5) dX3_sumOfAll_22 ?_
        replace hm := gdo hm hz
        obtain ⟨gi_6, hm⟩ := hm
        refine va_iald hx hb hK.1 hP 1 0 (cA := cA 0) (n := 20) (f := g_o_amount) rfl rfl (ixi gi_6) dX3_sumOfAll_23 ?_
        refine lv_iadd hx hb dX3_sumOfAll_24 ?_
        refine lv_topi (fun x_7 e_x_7 => ?_)
        replace hm := nmo hm e_x_7
        refine lv_istore_n (lv' := [(1, .int x_7), (0, .ref o), (2, .int x_2)]) hx hb dX3_sumOfAll_25 rfl hl (by decide) rfl (fun ls hl => ?_)
        refine lv_iinc (v := x_2 + (1 : Int32)) (lv' := [(2, .int (x_2 + (1 : Int32))), (1, .int x_7), (0, .ref o)]) hx hb dX3_sumOfAll_26 hl (k := 2) rfl rfl (by decide) rfl (fun ls hl => ?_)
        refine lv_goto (tgt := 4) hx hb dX3_sumOfAll_29 (by decide) ?_
        exact ih4 x_7 (x_2 + (1 : Int32)) _ hm (lv_sub hl [2, 1, 0] rfl)
  exact L4_1 _ (0 : Int32) (0 : Int32) _ hm (lv_sub hl [2, 1, 0] rfl)
