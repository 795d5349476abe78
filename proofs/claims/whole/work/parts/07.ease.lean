/-! easements: models and walks, by program. -/
def m_X1_copyFrom (g_o_kind : Nat → Int32) (g_o_on : Nat → Int32) (g_o_serves : Nat → Int32) (g_o_firstDay : Nat → Int32) (g_o_lastDay : Nat → Int32) (v_q1_count : Int32) (g_q1_kind : Nat → Int32) (g_q1_on : Nat → Int32) (g_q1_serves : Nat → Int32) (g_q1_firstDay : Nat → Int32) (g_q1_lastDay : Nat → Int32) : Option (Int32 × (Nat → Int32) × (Nat → Int32) × (Nat → Int32) × (Nat → Int32) × (Nat → Int32)) := some (v_q1_count, va_cpy g_q1_kind g_o_kind 0 0 30, va_cpy g_q1_on g_o_on 0 0 30, va_cpy g_q1_serves g_o_serves 0 0 30, va_cpy g_q1_firstDay g_o_firstDay 0 0 30, va_cpy g_q1_lastDay g_o_lastDay 0 0 30)
abbrev k_X1_copyFrom (cA : Nat → ClassId) (o o_kind o_on o_serves o_firstDay o_lastDay q1 q1_kind q1_on q1_serves q1_firstDay q1_lastDay : Nat) (v_o_count : Int32) (g_o_kind : Nat → Int32) (g_o_on : Nat → Int32) (g_o_serves : Nat → Int32) (g_o_firstDay : Nat → Int32) (g_o_lastDay : Nat → Int32) (v_q1_count : Int32) (g_q1_kind : Nat → Int32) (g_q1_on : Nat → Int32) (g_q1_serves : Nat → Int32) (g_q1_firstDay : Nat → Int32) (g_q1_lastDay : Nat → Int32) : va_W := [(o, .inr (3, [.int v_o_count, .ref o_kind, .ref o_on, .ref o_serves, .ref o_firstDay, .ref o_lastDay])), (o_kind, .inl (cA 0, 30, .inl g_o_kind)), (o_on, .inl (cA 0, 30, .inl g_o_on)), (o_serves, .inl (cA 0, 30, .inl g_o_serves)), (o_firstDay, .inl (cA 0, 30, .inl g_o_firstDay)), (o_lastDay, .inl (cA 0, 30, .inl g_o_lastDay)), (q1, .inr (3, [.int v_q1_count, .ref q1_kind, .ref q1_on, .ref q1_serves, .ref q1_firstDay, .ref q1_lastDay])), (q1_kind, .inl (cA 0, 30, .inl g_q1_kind)), (q1_on, .inl (cA 0, 30, .inl g_q1_on)), (q1_serves, .inl (cA 0, 30, .inl g_q1_serves)), (q1_firstDay, .inl (cA 0, 30, .inl g_q1_firstDay)), (q1_lastDay, .inl (cA 0, 30, .inl g_q1_lastDay))]
set_option maxHeartbeats 4000000 in
set_option maxRecDepth 100000 in
/-- X1_copyFrom: as its model -/
theorem c_X1_copyFrom (l : Launch) (G : va_G) (cA : Nat → ClassId) (o o_kind o_on o_serves o_firstDay o_lastDay q1 q1_kind q1_on q1_serves q1_firstDay q1_lastDay : Nat) (sz : Nat) (v_o_count : Int32) (g_o_kind : Nat → Int32) (g_o_on : Nat → Int32) (g_o_serves : Nat → Int32) (g_o_firstDay : Nat → Int32) (g_o_lastDay : Nat → Int32) (v_q1_count : Int32) (g_q1_kind : Nat → Int32) (g_q1_on : Nat → Int32) (g_q1_serves : Nat → Int32) (g_q1_firstDay : Nat → Int32) (g_q1_lastDay : Nat → Int32) (R : Option (Int32 × (Nat → Int32) × (Nat → Int32) × (Nat → Int32) × (Nat → Int32) × (Nat → Int32))) (hR : m_X1_copyFrom g_o_kind g_o_on g_o_serves g_o_firstDay g_o_lastDay v_q1_count g_q1_kind g_q1_on g_q1_serves g_q1_firstDay g_q1_lastDay = R) (hz : R ≠ none) : Met l yX1_copyFrom wsX1_copyFrom ({ frames := 1, cells := 0, slots := 0, locals := 40 } : Room) (va_Pc [.ref o, .ref q1] (PM G cA (k_X1_copyFrom cA o o_kind o_on o_serves o_firstDay o_lastDay q1 q1_kind q1_on q1_serves q1_firstDay q1_lastDay v_o_count g_o_kind g_o_on g_o_serves g_o_firstDay g_o_lastDay v_q1_count g_q1_kind g_q1_on g_q1_serves g_q1_firstDay g_q1_lastDay) sz)) (va_Qv (fun (u : Int32 × (Nat → Int32) × (Nat → Int32) × (Nat → Int32) × (Nat → Int32) × (Nat → Int32)) => R = some u) (BM G (fun (u : Int32 × (Nat → Int32) × (Nat → Int32) × (Nat → Int32) × (Nat → Int32) × (Nat → Int32)) => (k_X1_copyFrom cA o o_kind o_on o_serves o_firstDay o_lastDay q1 q1_kind q1_on q1_serves q1_firstDay q1_lastDay u.1 u.2.1 u.2.2.1 u.2.2.2.1 u.2.2.2.2.1 u.2.2.2.2.2 v_q1_count g_q1_kind g_q1_on g_q1_serves g_q1_firstDay g_q1_lastDay))) (va_A (k_X1_copyFrom cA o o_kind o_on o_serves o_firstDay o_lastDay q1 q1_kind q1_on q1_serves q1_firstDay q1_lastDay v_o_count g_o_kind g_o_on g_o_serves g_o_firstDay g_o_lastDay v_q1_count g_q1_kind g_q1_on g_q1_serves g_q1_firstDay g_q1_lastDay) sz)) 0 0 (va_A (k_X1_copyFrom cA o o_kind o_on o_serves o_firstDay o_lastDay q1 q1_kind q1_on q1_serves q1_firstDay q1_lastDay v_o_count g_o_kind g_o_on g_o_serves g_o_firstDay g_o_lastDay v_q1_count g_q1_kind g_q1_on g_q1_serves g_q1_firstDay g_q1_lastDay) sz) := by
  refine metV (by decide) rfl (Nat.le_of_ble_eq_true rfl) ?_
  intro p e s m av below meth c Q ls A H hx hb hml hts hown hP hK hD hA hS hl hret
  replace hl : lv_has ls 2 [(0, .ref o), (1, .ref q1)] := hl
  have w_0 := hts (.fieldLink RX1 9 "ParcelRegistry$Easements" "count" "I") (by decide +kernel)
  have w_1 := hts (.fieldLink RX1 15 "ParcelRegistry$Easements" "kind" "[I") (by decide +kernel)
  have w_2 := hts (.methodLink RX1 31 arraycopyName) (by decide +kernel)
  have w_3 := hts (.native arraycopyName) (by decide +kernel)
  have w_4 := hts (.static arraycopyName) (by decide +kernel)
  have w_5 := hts (.initialized "java/lang/System") (by decide +kernel)
  have w_6 := hts (.fieldLink RX1 19 "ParcelRegistry$Easements" "on" "[I") (by decide +kernel)
  have w_7 := hts (.fieldLink RX1 22 "ParcelRegistry$Easements" "serves" "[I") (by decide +kernel)
  have w_8 := hts (.fieldLink RX1 25 "ParcelRegistry$Easements" "firstDay" "[I") (by decide +kernel)
  have w_9 := hts (.fieldLink RX1 28 "ParcelRegistry$Easements" "lastDay" "[I") (by decide +kernel)
  have i_X1 : ∀ w ∈ wsX10, w ∈ wsX1_copyFrom := by decide +kernel
  have hm := hR
  unfold m_X1_copyFrom at hm
  refine lv_aload_n hx hb dX1_copyFrom_0 rfl (lv_at hl 0 rfl) ?_
  refine lv_aload_n hx hb dX1_copyFrom_1 rfl (lv_at hl 1 rfl) ?_
  refine va_get (D := G) (ci := 3) (v := .int v_q1_count) (C := RX1) (T := TX1) (N := 6) hx hb hts i_X1 hown hK.1 hP 6 rfl rfl 0 (by decide) w_0 (fun _ h9 => h9) rfl dX1_copyFrom_2 ?_
  refine va_put (D := G) (ci := 3) (v := .int v_q1_count) (ty := .int) (C := RX1) (T := TX1) (N := 6) hx hb hts i_X1 tyX1 tyX1_ok nmX1 hown hK.1 hP hD hS 0 rfl rfl 0 (by decide) w_0 (fun _ h9 => h9) rfl (by decide +kernel) rfl rfl (Nat.le_of_ble_eq_true rfl) dX1_copyFrom_5 (fun H locs hP' hD' hS' => ?_)
  replace hP : va_P G vwCl (k_X1_copyFrom cA o o_kind o_on o_serves o_firstDay o_lastDay q1 q1_kind q1_on q1_serves q1_firstDay q1_lastDay v_q1_count g_o_kind g_o_on g_o_serves g_o_firstDay g_o_lastDay v_q1_count g_q1_kind g_q1_on g_q1_serves g_q1_firstDay g_q1_lastDay) H := hP'
  replace hD : va_D A (k_X1_copyFrom cA o o_kind o_on o_serves o_firstDay o_lastDay q1 q1_kind q1_on q1_serves q1_firstDay q1_lastDay v_q1_count g_o_kind g_o_on g_o_serves g_o_firstDay g_o_lastDay v_q1_count g_q1_kind g_q1_on g_q1_serves g_q1_firstDay g_q1_lastDay) := hD'
  replace hS := hS'
  refine lv_aload_n hx hb dX1_copyFrom_8 rfl (lv_at hl 1 rfl) ?_
  refine va_get (D := G) (ci := 3) (v := .ref q1_kind) (C := RX1) (T := TX1) (N := 6) hx hb hts i_X1 hown hK.1 hP 6 rfl rfl 1 (by decide) w_1 (fun _ h9 => h9) rfl dX1_copyFrom_9 ?_
  refine lv_iconst (v := (0 : Int32)) hx hb dX1_copyFrom_12 (by decide) ?_
  refine lv_aload_n hx hb dX1_copyFrom_13 rfl (lv_at hl 0 rfl) ?_
  refine va_get (D := G) (ci := 3) (v := .ref o_kind) (C := RX1) (T := TX1) (N := 6) hx hb hts i_X1 hown hK.1 hP 0 rfl rfl 1 (by decide) w_1 (fun _ h9 => h9) rfl dX1_copyFrom_14 ?_
  refine lv_iconst (v := (0 : Int32)) hx hb dX1_copyFrom_17 (by decide) ?_
  refine lv_bipush (v := (30 : Int32)) hx hb dX1_copyFrom_18 (by decide) ?_
  refine va_copyi hx hb (hml.trans hl.1.symm) hown w_2 w_3 w_4 w_5 hK.1 hP hD hS 7 1 0 0 (c0 := cA 0) (c1 := cA 0) (n0 := 30) (n1 := 30) (f := g_q1_kind) (g := g_o_kind) (ty := .int) rfl rfl rfl rfl rfl (by decide) (by decide) (by decide) (by decide) (by decide) (fun _ _ => rfl) (Nat.le_of_ble_eq_true rfl) (Nat.le_of_ble_eq_true rfl) dX1_copyFrom_20 (fun H locs hP' hD' hS' => ?_)
  replace hP : va_P G vwCl (k_X1_copyFrom cA o o_kind o_on o_serves o_firstDay o_lastDay q1 q1_kind q1_on q1_serves q1_firstDay q1_lastDay v_q1_count (va_cpy g_q1_kind g_o_kind 0 0 30) g_o_on g_o_serves g_o_firstDay g_o_lastDay v_q1_count g_q1_kind g_q1_on g_q1_serves g_q1_firstDay g_q1_lastDay) H := hP'
  replace hD : va_D A (k_X1_copyFrom cA o o_kind o_on o_serves o_firstDay o_lastDay q1 q1_kind q1_on q1_serves q1_firstDay q1_lastDay v_q1_count (va_cpy g_q1_kind g_o_kind 0 0 30) g_o_on g_o_serves g_o_firstDay g_o_lastDay v_q1_count g_q1_kind g_q1_on g_q1_serves g_q1_firstDay g_q1_lastDay) := hD'
  replace hS := hS'
  refine lv_aload_n hx hb dX1_copyFrom_23 rfl (lv_at hl 1 rfl) ?_
  refine va_get (D := G) (ci := 3) (v := .ref q1_on) (C := RX1) (T := TX1) (N := 6) hx hb hts i_X1 hown hK.1 hP 6 rfl rfl 2 (by decide) w_6 (fun _ h9 => h9) rfl dX1_copyFrom_24 ?_
  refine lv_iconst (v := (0 : Int32)) hx hb dX1_copyFrom_27 (by decide) ?_
  refine lv_aload_n hx hb dX1_copyFrom_28 rfl (lv_at hl 0 rfl) ?_
  refine va_get (D := G) (ci := 3) (v := .ref o_on) (C := RX1) (T := TX1) (N := 6) hx hb hts i_X1 hown hK.1 hP 0 rfl rfl 2 (by decide) w_6 (fun _ h9 => h9) rfl dX1_copyFrom_29 ?_
  refine lv_iconst (v := (0 : Int32)) hx hb dX1_copyFrom_32 (by decide) ?_
  refine lv_bipush (v := (30 : Int32)) hx hb dX1_copyFrom_33 (by decide) ?_
  refine va_copyi hx hb (hml.trans hl.1.symm) hown w_2 w_3 w_4 w_5 hK.1 hP hD hS 8 2 0 0 (c0 := cA 0) (c1 := cA 0) (n0 := 30) (n1 := 30) (f := g_q1_on) (g := g_o_on) (ty := .int) rfl rfl rfl rfl rfl (by decide) (by decide) (by decide) (by decide) (by decide) (fun _ _ => rfl) (Nat.le_of_ble_eq_true rfl) (Nat.le_of_ble_eq_true rfl) dX1_copyFrom_35 (fun H locs hP' hD' hS' => ?_)
  replace hP : va_P G vwCl (k_X1_copyFrom cA o o_kind o_on o_serves o_firstDay o_lastDay q1 q1_kind q1_on q1_serves q1_firstDay q1_lastDay v_q1_count (va_cpy g_q1_kind g_o_kind 0 0 30) (va_cpy g_q1_on g_o_on 0 0 30) g_o_serves g_o_firstDay g_o_lastDay v_q1_count g_q1_kind g_q1_on g_q1_serves g_q1_firstDay g_q1_lastDay) H := hP'
  replace hD : va_D A (k_X1_copyFrom cA o o_kind o_on o_serves o_firstDay o_lastDay q1 q1_kind q1_on q1_serves q1_firstDay q1_lastDay v_q1_count (va_cpy g_q1_kind g_o_kind 0 0 30) (va_cpy g_q1_on g_o_on 0 0 30) g_o_serves g_o_firstDay g_o_lastDay v_q1_count g_q1_kind g_q1_on g_q1_serves g_q1_firstDay g_q1_lastDay) := hD'
  replace hS := hS'
  refine lv_aload_n hx hb dX1_copyFrom_38 rfl (lv_at hl 1 rfl) ?_
  refine va_get (D := G) (ci := 3) (v := .ref q1_serves) (C := RX1) (T := TX1) (N := 6) hx hb hts i_X1 hown hK.1 hP 6 rfl rfl 3 (by decide) w_7 (fun _ h9 => h9) rfl dX1_copyFrom_39 ?_
  refine lv_iconst (v := (0 : Int32)) hx hb dX1_copyFrom_42 (by decide) ?_
  refine lv_aload_n hx hb dX1_copyFrom_43 rfl (lv_at hl 0 rfl) ?_
  refine va_get (D := G) (ci := 3) (v := .ref o_serves) (C := RX1) (T := TX1) (N := 6) hx hb hts i_X1 hown hK.1 hP 0 rfl rfl 3 (by decide) w_7 (fun _ h9 => h9) rfl dX1_copyFrom_44 ?_
  refine lv_iconst (v := (0 : Int32)) hx hb dX1_copyFrom_47 (by decide) ?_
  refine lv_bipush (v := (30 : Int32)) hx hb dX1_copyFrom_48 (by decide) ?_
  refine va_copyi hx hb (hml.trans hl.1.symm) hown w_2 w_3 w_4 w_5 hK.1 hP hD hS 9 3 0 0 (c0 := cA 0) (c1 := cA 0) (n0 := 30) (n1 := 30) (f := g_q1_serves) (g := g_o_serves) (ty := .int) rfl rfl rfl rfl rfl (by decide) (by decide) (by decide) (by decide) (by decide) (fun _ _ => rfl) (Nat.le_of_ble_eq_true rfl) (Nat.le_of_ble_eq_true rfl) dX1_copyFrom_50 (fun H locs hP' hD' hS' => ?_)
  replace hP : va_P G vwCl (k_X1_copyFrom cA o o_kind o_on o_serves o_firstDay o_lastDay q1 q1_kind q1_on q1_serves q1_firstDay q1_lastDay v_q1_count (va_cpy g_q1_kind g_o_kind 0 0 30) (va_cpy g_q1_on g_o_on 0 0 30) (va_cpy g_q1_serves g_o_serves 0 0 30) g_o_firstDay g_o_lastDay v_q1_count g_q1_kind g_q1_on g_q1_serves g_q1_firstDay g_q1_lastDay) H := hP'
  replace hD : va_D A (k_X1_copyFrom cA o o_kind o_on o_serves o_firstDay o_lastDay q1 q1_kind q1_on q1_serves q1_firstDay q1_lastDay v_q1_count (va_cpy g_q1_kind g_o_kind 0 0 30) (va_cpy g_q1_on g_o_on 0 0 30) (va_cpy g_q1_serves g_o_serves 0 0 30) g_o_firstDay g_o_lastDay v_q1_count g_q1_kind g_q1_on g_q1_serves g_q1_firstDay g_q1_lastDay) := hD'
  replace hS := hS'
  refine lv_aload_n hx hb dX1_copyFrom_53 rfl (lv_at hl 1 rfl) ?_
  refine va_get (D := G) (ci := 3) (v := .ref q1_firstDay) (C := RX1) (T := TX1) (N := 6) hx hb hts i_X1 hown hK.1 hP 6 rfl rfl 4 (by decide) w_8 (fun _ h9 => h9) rfl dX1_copyFrom_54 ?_
  refine lv_iconst (v := (0 : Int32)) hx hb dX1_copyFrom_57 (by decide) ?_
  refine lv_aload_n hx hb dX1_copyFrom_58 rfl (lv_at hl 0 rfl) ?_
  refine va_get (D := G) (ci := 3) (v := .ref o_firstDay) (C := RX1) (T := TX1) (N := 6) hx hb hts i_X1 hown hK.1 hP 0 rfl rfl 4 (by decide) w_8 (fun _ h9 => h9) rfl dX1_copyFrom_59 ?_
  refine lv_iconst (v := (0 : Int32)) hx hb dX1_copyFrom_62 (by decide) ?_
  refine lv_bipush (v := (30 : Int32)) hx hb dX1_copyFrom_63 (by decide) ?_
  refine va_copyi hx hb (hml.trans hl.1.symm) hown w_2 w_3 w_4 w_5 hK.1 hP hD hS 10 4 0 0 (c0 := cA 0) (c1 := cA 0) (n0 := 30) (n1 := 30) (f := g_q1_firstDay) (g := g_o_firstDay) (ty := .int) rfl rfl rfl rfl rfl (by decide) (by decide) (by decide) (by decide) (by decide) (fun _ _ => rfl) (Nat.le_of_ble_eq_true rfl) (Nat.le_of_ble_eq_true rfl) dX1_copyFrom_65 (fun H locs hP' hD' hS' => ?_)
  replace hP : va_P G vwCl (k_X1_copyFrom cA o o_kind o_on o_serves o_firstDay o_lastDay q1 q1_kind q1_on q1_serves q1_firstDay q1_lastDay v_q1_count (va_cpy g_q1_kind g_o_kind 0 0 30) (va_cpy g_q1_on g_o_on 0 0 30) (va_cpy g_q1_serves g_o_serves 0 0 30) (va_cpy g_q1_firstDay g_o_firstDay 0 0 30) g_o_lastDay v_q1_count g_q1_kind g_q1_on g_q1_serves g_q1_firstDay g_q1_lastDay) H := hP'
  replace hD : va_D A (k_X1_copyFrom cA o o_kind o_on o_serves o_firstDay o_lastDay q1 q1_kind q1_on q1_serves q1_firstDay q1_lastDay v_q1_count (va_cpy g_q1_kind g_o_kind 0 0 30) (va_cpy g_q1_on g_o_on 0 0 30) (va_cpy g_q1_serves g_o_serves 0 0 30) (va_cpy g_q1_firstDay g_o_firstDay 0 0 30) g_o_lastDay v_q1_count g_q1_kind g_q1_on g_q1_serves g_q1_firstDay g_q1_lastDay) := hD'
  replace hS := hS'
  refine lv_aload_n hx hb dX1_copyFrom_68 rfl (lv_at hl 1 rfl) ?_
  refine va_get (D := G) (ci := 3) (v := .ref q1_lastDay) (C := RX1) (T := TX1) (N := 6) hx hb hts i_X1 hown hK.1 hP 6 rfl rfl 5 (by decide) w_9 (fun _ h9 => h9) rfl dX1_copyFrom_69 ?_
  refine lv_iconst (v := (0 : Int32)) hx hb dX1_copyFrom_72 (by decide) ?_
  refine lv_aload_n hx hb dX1_copyFrom_73 rfl (lv_at hl 0 rfl) ?_
  refine va_get (D := G) (ci := 3) (v := .ref o_lastDay) (C := RX1) (T := TX1) (N := 6) hx hb hts i_X1 hown hK.1 hP 0 rfl rfl 5 (by decide) w_9 (fun _ h9 => h9) rfl dX1_copyFrom_74 ?_
  refine lv_iconst (v := (0 : Int32)) hx hb dX1_copyFrom_77 (by decide) ?_
  refine lv_bipush (v := (30 : Int32)) hx hb dX1_copyFrom_78 (by decide) ?_
  refine va_copyi hx hb (hml.trans hl.1.symm) hown w_2 w_3 w_4 w_5 hK.1 hP hD hS 11 5 0 0 (c0 := cA 0) (c1 := cA 0) (n0 := 30) (n1 := 30) (f := g_q1_lastDay) (g := g_o_lastDay) (ty := .int) rfl rfl rfl rfl rfl (by decide) (by decide) (by decide) (by decide) (by decide) (fun _ _ => rfl) (Nat.le_of_ble_eq_true rfl) (Nat.le_of_ble_eq_true rfl) dX1_copyFrom_80 (fun H locs hP' hD' hS' => ?_)
  replace hP : va_P G vwCl (k_X1_copyFrom cA o o_kind o_on o_serves o_firstDay o_lastDay q1 q1_kind q1_on q1_serves q1_firstDay q1_lastDay v_q1_count (va_cpy g_q1_kind g_o_kind 0 0 30) (va_cpy g_q1_on g_o_on 0 0 30) (va_cpy g_q1_serves g_o_serves 0 0 30) (va_cpy g_q1_firstDay g_o_firstDay 0 0 30) (va_cpy g_q1_lastDay g_o_lastDay 0 0 30) v_q1_count g_q1_kind g_q1_on g_q1_serves g_q1_firstDay g_q1_lastDay) H := hP'
  replace hD : va_D A (k_X1_copyFrom cA o o_kind o_on o_serves o_firstDay o_lastDay q1 q1_kind q1_on q1_serves q1_firstDay q1_lastDay v_q1_count (va_cpy g_q1_kind g_o_kind 0 0 30) (va_cpy g_q1_on g_o_on 0 0 30) (va_cpy g_q1_serves g_o_serves 0 0 30) (va_cpy g_q1_firstDay g_o_firstDay 0 0 30) (va_cpy g_q1_lastDay g_o_lastDay 0 0 30) v_q1_count g_q1_kind g_q1_on g_q1_serves g_q1_firstDay g_q1_lastDay) := hD'
  replace hS := hS'
  exact hret _ _ (v_q1_count, va_cpy g_q1_kind g_o_kind 0 0 30, va_cpy g_q1_on g_o_on 0 0 30, va_cpy g_q1_serves g_o_serves 0 0 30, va_cpy g_q1_firstDay g_o_firstDay 0 0 30, va_cpy g_q1_lastDay g_o_lastDay 0 0 30) _ _ dX1_copyFrom_83 hP hS hm.symm
def m_X1_touches (p1 : Int32) (p2 : Int32) (g_o_on : Nat → Int32) (g_o_serves : Nat → Int32) : Option (Int32) := gd (ix p1 30) ((if (g_o_on p1.toNatClampNeg) = p2 then some (1 : Int32) else gd (ix p1 30) ((if (g_o_serves p1.toNatClampNeg) = p2 then some (1 : Int32) else some (0 : Int32)))))
abbrev k_X1_touches (cA : Nat → ClassId) (o o_kind o_on o_serves o_firstDay o_lastDay : Nat) (v_o_count : Int32) (g_o_on : Nat → Int32) (g_o_serves : Nat → Int32) : va_W := [(o, .inr (3, [.int v_o_count, .ref o_kind, .ref o_on, .ref o_serves, .ref o_firstDay, .ref o_lastDay])), (o_on, .inl (cA 0, 30, .inl g_o_on)), (o_serves, .inl (cA 0, 30, .inl g_o_serves))]
set_option maxHeartbeats 4000000 in
set_option maxRecDepth 100000 in
/-- X1_touches: as its model -/
theorem c_X1_touches (l : Launch) (G : va_G) (cA : Nat → ClassId) (o o_kind o_on o_serves o_firstDay o_lastDay : Nat) (p1 : Int32) (p2 : Int32) (v_o_count : Int32) (g_o_on : Nat → Int32) (g_o_serves : Nat → Int32) (R : Option (Int32)) (hR : m_X1_touches p1 p2 g_o_on g_o_serves = R) (hz : R ≠ none) : Met l yX1_touches wsX1_touches ({ frames := 0, cells := 0, slots := 0, locals := 0 } : Room) (va_Pc [.ref o, .int p1, .int p2] (PR G cA (k_X1_touches cA o o_kind o_on o_serves o_firstDay o_lastDay v_o_count g_o_on g_o_serves))) (vp_Si (fun r => R = some r ∧ (r = 0 ∨ r = 1))) 0 0 (fun _ => False) := by
  refine metR .boolean (by decide) rfl (Nat.le_of_ble_eq_true rfl) ?_
  intro p e s m av below meth c Q ls hx hb hml hts hown hP hK hl hret
  replace hl : lv_has ls 3 [(0, .ref o), (1, .int p1), (2, .int p2)] := hl
  have w_0 := hts (.fieldLink RX1 19 "ParcelRegistry$Easements" "on" "[I") (by decide +kernel)
  have w_1 := hts (.fieldLink RX1 22 "ParcelRegistry$Easements" "serves" "[I") (by decide +kernel)
  have i_X1 : ∀ w ∈ wsX10, w ∈ wsX1_touches := by decide +kernel
  have hm := hR
  unfold m_X1_touches at hm
  refine lv_aload_n hx hb dX1_touches_0 rfl (lv_at hl 0 rfl) ?_
  refine va_get (D := G) (ci := 3) (v := .ref o_on) (C := RX1) (T := TX1) (N := 6) hx hb hts i_X1 hown hK.1 hP 0 rfl rfl 2 (by decide) w_0 (fun _ h9 => h9) rfl dX1_touches_1 ?_
  refine lv_iload_n hx hb dX1_touches_4 rfl (lv_at hl 1 rfl) ?_
  replace hm := gdo hm hz
  obtain ⟨gi_1, hm⟩ := hm
  refine va_iald hx hb hK.1 hP 1 0 (cA := cA 0) (n := 30) (f := g_o_on) rfl rfl (ixi gi_1) dX1_touches_5 ?_
  refine lv_iload_n hx hb dX1_touches_6 rfl (lv_at hl 2 rfl) ?_
  refine lv_icmp_eq (tgt := 20) hx hb dX1_touches_7 (by decide) (fun c_2 => ?_) (fun c_2 => ?_)
  · replace hm := it hm c_2
    refine lv_iconst (v := (1 : Int32)) hx hb dX1_touches_20 (by decide) ?_
    refine lv_goto (tgt := 25) hx hb dX1_touches_21 (by decide) ?_
    exact hret _ _ _ dX1_touches_25 rfl ⟨hm.symm, (by decide)⟩
  · replace hm := ie hm c_2
    refine lv_aload_n hx hb dX1_touches_10 rfl (lv_at hl 0 rfl) ?_
    refine va_get (D := G) (ci := 3) (v := .ref o_serves) (C := RX1) (T := TX1) (N := 6) hx hb hts i_X1 hown hK.1 hP 0 rfl rfl 3 (by decide) w_1 (fun _ h9 => h9) rfl dX1_touches_11 ?_
    refine lv_iload_n hx hb dX1_touches_14 rfl (lv_at hl 1 rfl) ?_
    replace hm := gdo hm hz
    obtain ⟨gi_3, hm⟩ := hm
    refine va_iald hx hb hK.1 hP 2 0 (cA := cA 0) (n := 30) (f := g_o_serves) rfl rfl (ixi gi_3) dX1_touches_15 ?_
    refine lv_iload_n hx hb dX1_touches_16 rfl (lv_at hl 2 rfl) ?_
    refine lv_icmp_ne (tgt := 24) hx hb dX1_touches_17 (by decide) (fun c_4 => ?_) (fun c_4 => ?_)
    · replace hm := ie hm c_4
      refine lv_iconst (v := (0 : Int32)) hx hb dX1_touches_24 (by decide) ?_
      exact hret _ _ _ dX1_touches_25 rfl ⟨hm.symm, (by decide)⟩
    · replace hm := it hm c_4
      refine lv_iconst (v := (1 : Int32)) hx hb dX1_touches_20 (by decide) ?_
      refine lv_goto (tgt := 25) hx hb dX1_touches_21 (by decide) ?_
      exact hret _ _ _ dX1_touches_25 rfl ⟨hm.symm, (by decide)⟩
def m_X1_come (p1 : Int32) (p2 : Int32) (p3 : Int32) (p4 : Int32) (v_o_count : Int32) (g_o_kind : Nat → Int32) (g_o_on : Nat → Int32) (g_o_serves : Nat → Int32) (g_o_firstDay : Nat → Int32) (g_o_lastDay : Nat → Int32) : Option (Int32 × Int32 × (Nat → Int32) × (Nat → Int32) × (Nat → Int32) × (Nat → Int32) × (Nat → Int32)) := (if v_o_count < (30 : Int32) then gd (ix v_o_count 30) (gd (ix v_o_count 30) (gd (ix v_o_count 30) (gd (ix v_o_count 30) (gd (ix v_o_count 30) (some ((v_o_count + (1 : Int32)) - (1 : Int32), v_o_count + (1 : Int32), upd g_o_kind v_o_count.toNatClampNeg p1, upd g_o_on v_o_count.toNatClampNeg p2, upd g_o_serves v_o_count.toNatClampNeg p3, upd g_o_firstDay v_o_count.toNatClampNeg p4, upd g_o_lastDay v_o_count.toNatClampNeg (-1 : Int32))))))) else some ((-1 : Int32), v_o_count, g_o_kind, g_o_on, g_o_serves, g_o_firstDay, g_o_lastDay))
abbrev k_X1_come (cA : Nat → ClassId) (o o_kind o_on o_serves o_firstDay o_lastDay : Nat) (v_o_count : Int32) (g_o_kind : Nat → Int32) (g_o_on : Nat → Int32) (g_o_serves : Nat → Int32) (g_o_firstDay : Nat → Int32) (g_o_lastDay : Nat → Int32) : va_W := [(o, .inr (3, [.int v_o_count, .ref o_kind, .ref o_on, .ref o_serves, .ref o_firstDay, .ref o_lastDay])), (o_kind, .inl (cA 0, 30, .inl g_o_kind)), (o_on, .inl (cA 0, 30, .inl g_o_on)), (o_serves, .inl (cA 0, 30, .inl g_o_serves)), (o_firstDay, .inl (cA 0, 30, .inl g_o_firstDay)), (o_lastDay, .inl (cA 0, 30, .inl g_o_lastDay))]
set_option maxHeartbeats 4000000 in
set_option maxRecDepth 100000 in
/-- X1_come: as its model -/
theorem c_X1_come (l : Launch) (G : va_G) (cA : Nat → ClassId) (o o_kind o_on o_serves o_firstDay o_lastDay : Nat) (sz : Nat) (p1 : Int32) (p2 : Int32) (p3 : Int32) (p4 : Int32) (v_o_count : Int32) (g_o_kind : Nat → Int32) (g_o_on : Nat → Int32) (g_o_serves : Nat → Int32) (g_o_firstDay : Nat → Int32) (g_o_lastDay : Nat → Int32) (R : Option (Int32 × Int32 × (Nat → Int32) × (Nat → Int32) × (Nat → Int32) × (Nat → Int32) × (Nat → Int32))) (hR : m_X1_come p1 p2 p3 p4 v_o_count g_o_kind g_o_on g_o_serves g_o_firstDay g_o_lastDay = R) (hz : R ≠ none) : Met l yX1_come wsX1_come ({ frames := 0, cells := 0, slots := 0, locals := 0 } : Room) (va_Pc [.ref o, .int p1, .int p2, .int p3, .int p4] (PM G cA (k_X1_come cA o o_kind o_on o_serves o_firstDay o_lastDay v_o_count g_o_kind g_o_on g_o_serves g_o_firstDay g_o_lastDay) sz)) (va_Qi (fun (r : Int32) (u : Int32 × (Nat → Int32) × (Nat → Int32) × (Nat → Int32) × (Nat → Int32) × (Nat → Int32)) => R = some (r, u)) (BM G (fun (u : Int32 × (Nat → Int32) × (Nat → Int32) × (Nat → Int32) × (Nat → Int32) × (Nat → Int32)) => (k_X1_come cA o o_kind o_on o_serves o_firstDay o_lastDay u.1 u.2.1 u.2.2.1 u.2.2.2.1 u.2.2.2.2.1 u.2.2.2.2.2))) (va_A (k_X1_come cA o o_kind o_on o_serves o_firstDay o_lastDay v_o_count g_o_kind g_o_on g_o_serves g_o_firstDay g_o_lastDay) sz)) 0 0 (va_A (k_X1_come cA o o_kind o_on o_serves o_firstDay o_lastDay v_o_count g_o_kind g_o_on g_o_serves g_o_firstDay g_o_lastDay) sz) := by
  refine metM .int (by decide) rfl (Nat.le_of_ble_eq_true rfl) ?_
  intro p e s m av below meth c Q ls A H hx hb hml hts hown hP hK hD hA hS hl hret
  replace hl : lv_has ls 5 [(0, .ref o), (1, .int p1), (2, .int p2), (3, .int p3), (4, .int p4)] := hl
  have w_0 := hts (.fieldLink RX1 9 "ParcelRegistry$Easements" "count" "I") (by decide +kernel)
  have w_1 := hts (.fieldLink RX1 15 "ParcelRegistry$Easements" "kind" "[I") (by decide +kernel)
  have w_2 := hts (.fieldLink RX1 19 "ParcelRegistry$Easements" "on" "[I") (by decide +kernel)
  have w_3 := hts (.fieldLink RX1 22 "ParcelRegistry$Easements" "serves" "[I") (by decide +kernel)
  have w_4 := hts (.fieldLink RX1 25 "ParcelRegistry$Easements" "firstDay" "[I") (by decide +kernel)
  have w_5 := hts (.fieldLink RX1 28 "ParcelRegistry$Easements" "lastDay" "[I") (by decide +kernel)
  have i_X1 : ∀ w ∈ wsX10, w ∈ wsX1_come := by decide +kernel
  have hm := hR
  unfold m_X1_come at hm
  refine lv_aload_n hx hb dX1_come_0 rfl (lv_at hl 0 rfl) ?_
  refine va_get (D := G) (ci := 3) (v := .int v_o_count) (C := RX1) (T := TX1) (N := 6) hx hb hts i_X1 hown hK.1 hP 0 rfl rfl 0 (by decide) w_0 (fun _ h9 => h9) rfl dX1_come_1 ?_
  refine lv_bipush (v := (30 : Int32)) hx hb dX1_come_4 (by decide) ?_
  refine lv_icmp_lt (tgt := 11) hx hb dX1_come_6 (by decide) (fun c_1 => ?_) (fun c_1 => ?_)
  · replace hm := it hm c_1
    refine lv_aload_n hx hb dX1_come_11 rfl (lv_at hl 0 rfl) ?_
    refine va_get (D := G) (ci := 3) (v := .ref o_kind) (C := RX1) (T := TX1) (N := 6) hx hb hts i_X1 hown hK.1 hP 0 rfl rfl 1 (by decide) w_1 (fun _ h9 => h9) rfl dX1_come_12 ?_
    refine lv_aload_n hx hb dX1_come_15 rfl (lv_at hl 0 rfl) ?_
    refine va_get (D := G) (ci := 3) (v := .int v_o_count) (C := RX1) (T := TX1) (N := 6) hx hb hts i_X1 hown hK.1 hP 0 rfl rfl 0 (by decide) w_0 (fun _ h9 => h9) rfl dX1_come_16 ?_
    refine lv_iload_n hx hb dX1_come_19 rfl (lv_at hl 1 rfl) ?_
    replace hm := gdo hm hz
    obtain ⟨gi_2, hm⟩ := hm
    refine va_iast hx hb hK.1 hP hD hS 1 0 (cA := cA 0) (n := 30) (f := g_o_kind) rfl rfl (ixi gi_2) dX1_come_20 (fun H locs hP' hD' hS' => ?_)
    replace hP : va_P G vwCl (k_X1_come cA o o_kind o_on o_serves o_firstDay o_lastDay v_o_count (upd g_o_kind v_o_count.toNatClampNeg p1) g_o_on g_o_serves g_o_firstDay g_o_lastDay) H := hP'
    replace hD : va_D A (k_X1_come cA o o_kind o_on o_serves o_firstDay o_lastDay v_o_count (upd g_o_kind v_o_count.toNatClampNeg p1) g_o_on g_o_serves g_o_firstDay g_o_lastDay) := hD'
    replace hS := hS'
    refine lv_aload_n hx hb dX1_come_21 rfl (lv_at hl 0 rfl) ?_
    refine va_get (D := G) (ci := 3) (v := .ref o_on) (C := RX1) (T := TX1) (N := 6) hx hb hts i_X1 hown hK.1 hP 0 rfl rfl 2 (by decide) w_2 (fun _ h9 => h9) rfl dX1_come_22 ?_
    refine lv_aload_n hx hb dX1_come_25 rfl (lv_at hl 0 rfl) ?_
    refine va_get (D := G) (ci := 3) (v := .int v_o_count) (C := RX1) (T := TX1) (N := 6) hx hb hts i_X1 hown hK.1 hP 0 rfl rfl 0 (by decide) w_0 (fun _ h9 => h9) rfl dX1_come_26 ?_
    refine lv_iload_n hx hb dX1_come_29 rfl (lv_at hl 2 rfl) ?_
    replace hm := gdo hm hz
    obtain ⟨gi_3, hm⟩ := hm
    refine va_iast hx hb hK.1 hP hD hS 2 0 (cA := cA 0) (n := 30) (f := g_o_on) rfl rfl (ixi gi_3) dX1_come_30 (fun H locs hP' hD' hS' => ?_)
    replace hP : va_P G vwCl (k_X1_come cA o o_kind o_on o_serves o_firstDay o_lastDay v_o_count (upd g_o_kind v_o_count.toNatClampNeg p1) (upd g_o_on v_o_count.toNatClampNeg p2) g_o_serves g_o_firstDay g_o_lastDay) H := hP'
    replace hD : va_D A (k_X1_come cA o o_kind o_on o_serves o_firstDay o_lastDay v_o_count (upd g_o_kind v_o_count.toNatClampNeg p1) (upd g_o_on v_o_count.toNatClampNeg p2) g_o_serves g_o_firstDay g_o_lastDay) := hD'
    replace hS := hS'
    refine lv_aload_n hx hb dX1_come_31 rfl (lv_at hl 0 rfl) ?_
    refine va_get (D := G) (ci := 3) (v := .ref o_serves) (C := RX1) (T := TX1) (N := 6) hx hb hts i_X1 hown hK.1 hP 0 rfl rfl 3 (by decide) w_3 (fun _ h9 => h9) rfl dX1_come_32 ?_
    refine lv_aload_n hx hb dX1_come_35 rfl (lv_at hl 0 rfl) ?_
    refine va_get (D := G) (ci := 3) (v := .int v_o_count) (C := RX1) (T := TX1) (N := 6) hx hb hts i_X1 hown hK.1 hP 0 rfl rfl 0 (by decide) w_0 (fun _ h9 => h9) rfl dX1_come_36 ?_
    refine lv_iload_n hx hb dX1_come_39 rfl (lv_at hl 3 rfl) ?_
    replace hm := gdo hm hz
    obtain ⟨gi_4, hm⟩ := hm
    refine va_iast hx hb hK.1 hP hD hS 3 0 (cA := cA 0) (n := 30) (f := g_o_serves) rfl rfl (ixi gi_4) dX1_come_40 (fun H locs hP' hD' hS' => ?_)
    replace hP : va_P G vwCl (k_X1_come cA o o_kind o_on o_serves o_firstDay o_lastDay v_o_count (upd g_o_kind v_o_count.toNatClampNeg p1) (upd g_o_on v_o_count.toNatClampNeg p2) (upd g_o_serves v_o_count.toNatClampNeg p3) g_o_firstDay g_o_lastDay) H := hP'
    replace hD : va_D A (k_X1_come cA o o_kind o_on o_serves o_firstDay o_lastDay v_o_count (upd g_o_kind v_o_count.toNatClampNeg p1) (upd g_o_on v_o_count.toNatClampNeg p2) (upd g_o_serves v_o_count.toNatClampNeg p3) g_o_firstDay g_o_lastDay) := hD'
    replace hS := hS'
    refine lv_aload_n hx hb dX1_come_41 rfl (lv_at hl 0 rfl) ?_
    refine va_get (D := G) (ci := 3) (v := .ref o_firstDay) (C := RX1) (T := TX1) (N := 6) hx hb hts i_X1 hown hK.1 hP 0 rfl rfl 4 (by decide) w_4 (fun _ h9 => h9) rfl dX1_come_42 ?_
    refine lv_aload_n hx hb dX1_come_45 rfl (lv_at hl 0 rfl) ?_
    refine va_get (D := G) (ci := 3) (v := .int v_o_count) (C := RX1) (T := TX1) (N := 6) hx hb hts i_X1 hown hK.1 hP 0 rfl rfl 0 (by decide) w_0 (fun _ h9 => h9) rfl dX1_come_46 ?_
    refine lv_iload hx hb dX1_come_49 (lv_at hl 4 rfl) ?_
    replace hm := gdo hm hz
    obtain ⟨gi_5, hm⟩ := hm
    refine va_iast hx hb hK.1 hP hD hS 4 0 (cA := cA 0) (n := 30) (f := g_o_firstDay) rfl rfl (ixi gi_5) dX1_come_51 (fun H locs hP' hD' hS' => ?_)
    replace hP : va_P G vwCl (k_X1_come cA o o_kind o_on o_serves o_firstDay o_lastDay v_o_count (upd g_o_kind v_o_count.toNatClampNeg p1) (upd g_o_on v_o_count.toNatClampNeg p2) (upd g_o_serves v_o_count.toNatClampNeg p3) (upd g_o_firstDay v_o_count.toNatClampNeg p4) g_o_lastDay) H := hP'
    replace hD : va_D A (k_X1_come cA o o_kind o_on o_serves o_firstDay o_lastDay v_o_count (upd g_o_kind v_o_count.toNatClampNeg p1) (upd g_o_on v_o_count.toNatClampNeg p2) (upd g_o_serves v_o_count.toNatClampNeg p3) (upd g_o_firstDay v_o_count.toNatClampNeg p4) g_o_lastDay) := hD'
    replace hS := hS'
    refine lv_aload_n hx hb dX1_come_52 rfl (lv_at hl 0 rfl) ?_
    refine va_get (D := G) (ci := 3) (v := .ref o_lastDay) (C := RX1) (T := TX1) (N := 6) hx hb hts i_X1 hown hK.1 hP 0 rfl rfl 5 (by decide) w_5 (fun _ h9 => h9) rfl dX1_come_53 ?_
    refine lv_aload_n hx hb dX1_come_56 rfl (lv_at hl 0 rfl) ?_
    refine va_get (D := G) (ci := 3) (v := .int v_o_count) (C := RX1) (T := TX1) (N := 6) hx hb hts i_X1 hown hK.1 hP 0 rfl rfl 0 (by decide) w_0 (fun _ h9 => h9) rfl dX1_come_57 ?_
    refine lv_iconst (v := (-1 : Int32)) hx hb dX1_come_60 (by decide) ?_
    replace hm := gdo hm hz
    obtain ⟨gi_6, hm⟩ := hm
    refine va_iast hx hb hK.1 hP hD hS 5 0 (cA := cA 0) (n := 30) (f := g_o_lastDay) rfl rfl (ixi gi_6) dX1_come_61 (fun H locs hP' hD' hS' => ?_)
    replace hP : va_P G vwCl (k_X1_come cA o o_kind o_on o_serves o_firstDay o_lastDay v_o_count (upd g_o_kind v_o_count.toNatClampNeg p1) (upd g_o_on v_o_count.toNatClampNeg p2) (upd g_o_serves v_o_count.toNatClampNeg p3) (upd g_o_firstDay v_o_count.toNatClampNeg p4) (upd g_o_lastDay v_o_count.toNatClampNeg (-1 : Int32))) H := hP'
    replace hD : va_D A (k_X1_come cA o o_kind o_on o_serves o_firstDay o_lastDay v_o_count (upd g_o_kind v_o_count.toNatClampNeg p1) (upd g_o_on v_o_count.toNatClampNeg p2) (upd g_o_serves v_o_count.toNatClampNeg p3) (upd g_o_firstDay v_o_count.toNatClampNeg p4) (upd g_o_lastDay v_o_count.toNatClampNeg (-1 : Int32))) := hD'
    replace hS := hS'
    refine lv_aload_n hx hb dX1_come_62 rfl (lv_at hl 0 rfl) ?_
    refine lv_dup hx hb dX1_come_63 rfl ?_
    refine va_get (D := G) (ci := 3) (v := .int v_o_count) (C := RX1) (T := TX1) (N := 6) hx hb hts i_X1 hown hK.1 hP 0 rfl rfl 0 (by decide) w_0 (fun _ h9 => h9) rfl dX1_come_64 ?_
    refine lv_iconst (v := (1 : Int32)) hx hb dX1_come_67 (by decide) ?_
    refine lv_iadd hx hb dX1_come_68 ?_
    refine va_put (D := G) (ci := 3) (v := .int (v_o_count + (1 : Int32))) (ty := .int) (C := RX1) (T := TX1) (N := 6) hx hb hts i_X1 tyX1 tyX1_ok nmX1 hown hK.1 hP hD hS 0 rfl rfl 0 (by decide) w_0 (fun _ h9 => h9) rfl (by decide +kernel) rfl rfl (Nat.le_of_ble_eq_true rfl) dX1_come_69 (fun H locs hP' hD' hS' => ?_)
    replace hP : va_P G vwCl (k_X1_come cA o o_kind o_on o_serves o_firstDay o_lastDay (v_o_count + (1 : Int32)) (upd g_o_kind v_o_count.toNatClampNeg p1) (upd g_o_on v_o_count.toNatClampNeg p2) (upd g_o_serves v_o_count.toNatClampNeg p3) (upd g_o_firstDay v_o_count.toNatClampNeg p4) (upd g_o_lastDay v_o_count.toNatClampNeg (-1 : Int32))) H := hP'
    replace hD : va_D A (k_X1_come cA o o_kind o_on o_serves o_firstDay o_lastDay (v_o_count + (1 : Int32)) (upd g_o_kind v_o_count.toNatClampNeg p1) (upd g_o_on v_o_count.toNatClampNeg p2) (upd g_o_serves v_o_count.toNatClampNeg p3) (upd g_o_firstDay v_o_count.toNatClampNeg p4) (upd g_o_lastDay v_o_count.toNatClampNeg (-1 : Int32))) := hD'
    replace hS := hS'
    refine lv_aload_n hx hb dX1_come_72 rfl (lv_at hl 0 rfl) ?_
    refine va_get (D := G) (ci := 3) (v := .int (v_o_count + (1 : Int32))) (C := RX1) (T := TX1) (N := 6) hx hb hts i_X1 hown hK.1 hP 0 rfl rfl 0 (by decide) w_0 (fun _ h9 => h9) rfl dX1_come_73 ?_
    refine lv_iconst (v := (1 : Int32)) hx hb dX1_come_76 (by decide) ?_
    refine lv_isub hx hb dX1_come_77 ?_
    exact hret _ _ _ (v_o_count + (1 : Int32), upd g_o_kind v_o_count.toNatClampNeg p1, upd g_o_on v_o_count.toNatClampNeg p2, upd g_o_serves v_o_count.toNatClampNeg p3, upd g_o_firstDay v_o_count.toNatClampNeg p4, upd g_o_lastDay v_o_count.toNatClampNeg (-1 : Int32)) _ _ dX1_come_78 rfl hP hS hm.symm
  · replace hm := ie hm c_1
    refine lv_iconst (v := (-1 : Int32)) hx hb dX1_come_9 (by decide) ?_
    exact hret _ _ _ (v_o_count, g_o_kind, g_o_on, g_o_serves, g_o_firstDay, g_o_lastDay) _ _ dX1_come_10 rfl hP hS hm.symm
def m_X1_followSplit_J131 (p1 : Int32) (p2 : Int32) (x_1 : Int32) (rec_8 : (Int32 × Int32 × (Nat → Int32) × (Nat → Int32) × (Nat → Int32) × (Nat → Int32) × (Nat → Int32)) → Option (Int32 × (Nat → Int32) × (Nat → Int32) × (Nat → Int32) × (Nat → Int32) × (Nat → Int32))) (v_20 : Int32) (g_21 : Nat → Int32) (g_22 : Nat → Int32) (g_23 : Nat → Int32) (g_24 : Nat → Int32) (g_25 : Nat → Int32) : (Int32) → Option (Int32 × (Nat → Int32) × (Nat → Int32) × (Nat → Int32) × (Nat → Int32) × (Nat → Int32)) := fun y_27 => gd (ix x_1 30) (gd (ix x_1 30) ((if (g_23 x_1.toNatClampNeg) = p1 then gd (ix x_1 30) (rec_8 (x_1 + (1 : Int32), v_20, g_21, upd g_22 x_1.toNatClampNeg y_27, upd g_23 x_1.toNatClampNeg p2, g_24, g_25)) else gd (ix x_1 30) (gd (ix x_1 30) (rec_8 (x_1 + (1 : Int32), v_20, g_21, upd g_22 x_1.toNatClampNeg y_27, upd g_23 x_1.toNatClampNeg (g_23 x_1.toNatClampNeg), g_24, g_25))))))
def m_X1_followSplit_J83 (p1 : Int32) (p2 : Int32) (p4 : Int32) (x_1 : Int32) (v_2 : Int32) (g_3 : Nat → Int32) (g_4 : Nat → Int32) (g_5 : Nat → Int32) (g_6 : Nat → Int32) (g_7 : Nat → Int32) (rec_8 : (Int32 × Int32 × (Nat → Int32) × (Nat → Int32) × (Nat → Int32) × (Nat → Int32) × (Nat → Int32)) → Option (Int32 × (Nat → Int32) × (Nat → Int32) × (Nat → Int32) × (Nat → Int32) × (Nat → Int32))) (y_15 : Int32) : (Int32) → Option (Int32 × (Nat → Int32) × (Nat → Int32) × (Nat → Int32) × (Nat → Int32) × (Nat → Int32)) := fun y_17 => gd (ix x_1 30) (Option.bind (m_X1_come (g_3 x_1.toNatClampNeg) y_15 y_17 p4 v_2 g_3 g_4 g_5 g_6 g_7) (fun q => match q with
  | (r_19, v_20, g_21, g_22, g_23, g_24, g_25) => gd (ix x_1 30) ((if (g_22 x_1.toNatClampNeg) = p1 then m_X1_followSplit_J131 p1 p2 x_1 rec_8 v_20 g_21 g_22 g_23 g_24 g_25 p2 else gd (ix x_1 30) (m_X1_followSplit_J131 p1 p2 x_1 rec_8 v_20 g_21 g_22 g_23 g_24 g_25 (g_22 x_1.toNatClampNeg))))))
def m_X1_followSplit_J59 (p1 : Int32) (p2 : Int32) (p3 : Int32) (p4 : Int32) (x_1 : Int32) (v_2 : Int32) (g_3 : Nat → Int32) (g_4 : Nat → Int32) (g_5 : Nat → Int32) (g_6 : Nat → Int32) (g_7 : Nat → Int32) (rec_8 : (Int32 × Int32 × (Nat → Int32) × (Nat → Int32) × (Nat → Int32) × (Nat → Int32) × (Nat → Int32)) → Option (Int32 × (Nat → Int32) × (Nat → Int32) × (Nat → Int32) × (Nat → Int32) × (Nat → Int32))) : (Int32) → Option (Int32 × (Nat → Int32) × (Nat → Int32) × (Nat → Int32) × (Nat → Int32) × (Nat → Int32)) := fun y_15 => gd (ix x_1 30) ((if (g_5 x_1.toNatClampNeg) = p1 then m_X1_followSplit_J83 p1 p2 p4 x_1 v_2 g_3 g_4 g_5 g_6 g_7 rec_8 y_15 p3 else gd (ix x_1 30) (m_X1_followSplit_J83 p1 p2 p4 x_1 v_2 g_3 g_4 g_5 g_6 g_7 rec_8 y_15 (g_5 x_1.toNatClampNeg))))
def m_X1_followSplit_L9 (v_o_count : Int32) (p1 : Int32) (p2 : Int32) (p3 : Int32) (p4 : Int32) : ((Int32 × Int32 × (Nat → Int32) × (Nat → Int32) × (Nat → Int32) × (Nat → Int32) × (Nat → Int32)) → Option (Int32 × (Nat → Int32) × (Nat → Int32) × (Nat → Int32) × (Nat → Int32) × (Nat → Int32))) → (Int32 × Int32 × (Nat → Int32) × (Nat → Int32) × (Nat → Int32) × (Nat → Int32) × (Nat → Int32)) → Option (Int32 × (Nat → Int32) × (Nat → Int32) × (Nat → Int32) × (Nat → Int32) × (Nat → Int32)) := fun rec_8 v => match v with
  | (x_1, v_2, g_3, g_4, g_5, g_6, g_7) => (if v_o_count ≤ x_1 then some (v_2, g_3, g_4, g_5, g_6, g_7) else gd (ix x_1 30) ((if (g_7 x_1.toNatClampNeg) = (-1 : Int32) then Option.bind (m_X1_touches x_1 p1 g_4 g_5) (fun r_12 => (if r_12 = 0 then rec_8 (x_1 + (1 : Int32), v_2, g_3, g_4, g_5, g_6, g_7) else gd (ix x_1 30) ((if (g_4 x_1.toNatClampNeg) = p1 then m_X1_followSplit_J59 p1 p2 p3 p4 x_1 v_2 g_3 g_4 g_5 g_6 g_7 rec_8 p3 else gd (ix x_1 30) (m_X1_followSplit_J59 p1 p2 p3 p4 x_1 v_2 g_3 g_4 g_5 g_6 g_7 rec_8 (g_4 x_1.toNatClampNeg)))))) else rec_8 (x_1 + (1 : Int32), v_2, g_3, g_4, g_5, g_6, g_7))))
def m_X1_followSplit (p1 : Int32) (p2 : Int32) (p3 : Int32) (p4 : Int32) (v_o_count : Int32) (g_o_kind : Nat → Int32) (g_o_on : Nat → Int32) (g_o_serves : Nat → Int32) (g_o_firstDay : Nat → Int32) (g_o_lastDay : Nat → Int32) : Option (Int32 × (Nat → Int32) × (Nat → Int32) × (Nat → Int32) × (Nat → Int32) × (Nat → Int32)) := fuel (m_X1_followSplit_L9 v_o_count p1 p2 p3 p4) FU ((0 : Int32), v_o_count, g_o_kind, g_o_on, g_o_serves, g_o_firstDay, g_o_lastDay)
abbrev k_X1_followSplit (cA : Nat → ClassId) (o o_kind o_on o_serves o_firstDay o_lastDay : Nat) (v_o_count : Int32) (g_o_kind : Nat → Int32) (g_o_on : Nat → Int32) (g_o_serves : Nat → Int32) (g_o_firstDay : Nat → Int32) (g_o_lastDay : Nat → Int32) : va_W := [(o, .inr (3, [.int v_o_count, .ref o_kind, .ref o_on, .ref o_serves, .ref o_firstDay, .ref o_lastDay])), (o_kind, .inl (cA 0, 30, .inl g_o_kind)), (o_on, .inl (cA 0, 30, .inl g_o_on)), (o_serves, .inl (cA 0, 30, .inl g_o_serves)), (o_firstDay, .inl (cA 0, 30, .inl g_o_firstDay)), (o_lastDay, .inl (cA 0, 30, .inl g_o_lastDay))]
set_option maxHeartbeats 4000000 in
set_option maxRecDepth 100000 in
/-- X1_followSplit: as its model -/
theorem c_X1_followSplit (l : Launch) (G : va_G) (cA : Nat → ClassId) (o o_kind o_on o_serves o_firstDay o_lastDay : Nat) (sz : Nat) (p1 : Int32) (p2 : Int32) (p3 : Int32) (p4 : Int32) (v_o_count : Int32) (g_o_kind : Nat → Int32) (g_o_on : Nat → Int32) (g_o_serves : Nat → Int32) (g_o_firstDay : Nat → Int32) (g_o_lastDay : Nat → Int32) (R : Option (Int32 × (Nat → Int32) × (Nat → Int32) × (Nat → Int32) × (Nat → Int32) × (Nat → Int32))) (hR : m_X1_followSplit p1 p2 p3 p4 v_o_count g_o_kind g_o_on g_o_serves g_o_firstDay g_o_lastDay = R) (hz : R ≠ none) : Met l yX1_followSplit wsX1_followSplit ({ frames := 1, cells := 0, slots := 0, locals := 24 } : Room) (va_Pc [.ref o, .int p1, .int p2, .int p3, .int p4] (PM G cA (k_X1_followSplit cA o o_kind o_on o_serves o_firstDay o_lastDay v_o_count g_o_kind g_o_on g_o_serves g_o_firstDay g_o_lastDay) sz)) (va_Qv (fun (u : Int32 × (Nat → Int32) × (Nat → Int32) × (Nat → Int32) × (Nat → Int32) × (Nat → Int32)) => R = some u) (BM G (fun (u : Int32 × (Nat → Int32) × (Nat → Int32) × (Nat → Int32) × (Nat → Int32) × (Nat → Int32)) => (k_X1_followSplit cA o o_kind o_on o_serves o_firstDay o_lastDay u.1 u.2.1 u.2.2.1 u.2.2.2.1 u.2.2.2.2.1 u.2.2.2.2.2))) (va_A (k_X1_followSplit cA o o_kind o_on o_serves o_firstDay o_lastDay v_o_count g_o_kind g_o_on g_o_serves g_o_firstDay g_o_lastDay) sz)) 0 0 (va_A (k_X1_followSplit cA o o_kind o_on o_serves o_firstDay o_lastDay v_o_count g_o_kind g_o_on g_o_serves g_o_firstDay g_o_lastDay) sz) := by
  refine metV (by decide) rfl (Nat.le_of_ble_eq_true rfl) ?_
  intro p e s m av below meth c Q ls A H hx hb hml hts hown hP hK hD hA hS hl hret
  replace hl : lv_has ls 9 [(0, .ref o), (1, .int p1), (2, .int p2), (3, .int p3), (4, .int p4)] := hl
  have w_0 := hts (.fieldLink RX1 9 "ParcelRegistry$Easements" "count" "I") (by decide +kernel)
  have w_1 := hts (.fieldLink RX1 28 "ParcelRegistry$Easements" "lastDay" "[I") (by decide +kernel)
  have w_2 := hts (.fieldLink RX1 19 "ParcelRegistry$Easements" "on" "[I") (by decide +kernel)
  have w_3 := hts (.fieldLink RX1 22 "ParcelRegistry$Easements" "serves" "[I") (by decide +kernel)
  have w_4 := hts (.fieldLink RX1 15 "ParcelRegistry$Easements" "kind" "[I") (by decide +kernel)
  have i_X1 : ∀ w ∈ wsX10, w ∈ wsX1_followSplit := by decide +kernel
  have hm := hR
  unfold m_X1_followSplit at hm
  refine lv_aload_n hx hb dX1_followSplit_0 rfl (lv_at hl 0 rfl) ?_
  refine va_get (D := G) (ci := 3) (v := .int v_o_count) (C := RX1) (T := TX1) (N := 6) hx hb hts i_X1 hown hK.1 hP 0 rfl rfl 0 (by decide) w_0 (fun _ h9 => h9) rfl dX1_followSplit_1 ?_
  refine lv_istore (lv' := [(5, .int v_o_count), (0, .ref o), (1, .int p1), (2, .int p2), (3, .int p3), (4, .int p4)]) hx hb dX1_followSplit_4 hl (by decide) rfl (fun ls hl => ?_)
  refine lv_iconst (v := (0 : Int32)) hx hb dX1_followSplit_6 (by decide) ?_
  refine lv_istore (lv' := [(6, .int (0 : Int32)), (5, .int v_o_count), (0, .ref o), (1, .int p1), (2, .int p2), (3, .int p3), (4, .int p4)]) hx hb dX1_followSplit_7 hl (by decide) rfl (fun ls hl => ?_)
  have L9_4 : ∀ (n : Nat), ∀ (x_1 : Int32) (v_2 : Int32) (g_3 : Nat → Int32) (g_4 : Nat → Int32) (g_5 : Nat → Int32) (g_6 : Nat → Int32) (g_7 : Nat → Int32), ∀ (H : Heap) (locs : List Loc) (ls : Array Slot), fuel (m_X1_followSplit_L9 v_o_count p1 p2 p3 p4) n (x_1, v_2, g_3, g_4, g_5, g_6, g_7) = R → va_P G vwCl (k_X1_followSplit cA o o_kind o_on o_serves o_firstDay o_lastDay v_2 g_3 g_4 g_5 g_6 g_7) H → va_D A (k_X1_followSplit cA o o_kind o_on o_serves o_firstDay o_lastDay v_2 g_3 g_4 g_5 g_6 g_7) → va_S A s.heap H locs → lv_has ls 9 [(0, .ref o), (1, .int p1), (2, .int p2), (3, .int p3), (4, .int p4), (5, .int v_o_count), (6, .int x_1)] → W p l e ({ frames := 1, cells := 0, slots := 0, locals := 24 } : Room) s m av below meth c H locs 0 0 Q (F0 m 9 ls []) := by
    intro n
    induction n with
    | zero =>
      intro x_1 v_2 g_3 g_4 g_5 g_6 g_7 H locs ls hm hP hD hS hl
      exact (fu0 hm hz).elim
    | succ n ih9 =>
      intro x_1 v_2 g_3 g_4 g_5 g_6 g_7 H locs ls hm hP hD hS hl
      replace hm := fus hm
      generalize fuel (m_X1_followSplit_L9 v_o_count p1 p2 p3 p4) n = rec_8 at hm ih9
      unfold m_X1_followSplit_L9 at hm
      refine lv_iload hx hb dX1_followSplit_9 (lv_at hl 6 rfl) ?_
      refine lv_iload hx hb dX1_followSplit_11 (lv_at hl 5 rfl) ?_
      refine lv_icmp_ge (tgt := 167) hx hb dX1_followSplit_13 (by decide) (fun c_9 => ?_) (fun c_9 => ?_)
      · replace hm := it hm c_9
        exact hret _ _ (v_2, g_3, g_4, g_5, g_6, g_7) _ _ dX1_followSplit_167 hP hS hm.symm
      · replace hm := ie hm c_9
        refine lv_aload_n hx hb dX1_followSplit_16 rfl (lv_at hl 0 rfl) ?_
        refine va_get (D := G) (ci := 3) (v := .ref o_lastDay) (C := RX1) (T := TX1) (N := 6) hx hb hts i_X1 hown hK.1 hP 0 rfl rfl 5 (by decide) w_1 (fun _ h9 => h9) rfl dX1_followSplit_17 ?_
        refine lv_iload hx hb dX1_followSplit_20 (lv_at hl 6 rfl) ?_
        replace hm := gdo hm hz
        obtain ⟨gi_10, hm⟩ := hm
        refine va_iald hx hb hK.1 hP 5 0 (cA := cA 0) (n := 30) (f := g_7) rfl rfl (ixi gi_10) dX1_followSplit_22 ?_
        refine lv_iconst (v := (-1 : Int32)) hx hb dX1_followSplit_23 (by decide) ?_
        refine lv_icmp_ne (tgt := 161) hx hb dX1_followSplit_24 (by decide) (fun c_11 => ?_) (fun c_11 => ?_)
        · replace hm := ie hm c_11
          refine lv_iinc (v := x_1 + (1 : Int32)) (lv' := [(6, .int (x_1 + (1 : Int32))), (0, .ref o), (1, .int p1), (2, .int p2), (3, .int p3), (4, .int p4), (5, .int v_o_count)]) hx hb dX1_followSplit_161 hl (k := 6) rfl rfl (by decide) rfl (fun ls hl => ?_)
          refine lv_goto (tgt := 9) hx hb dX1_followSplit_164 (by decide) ?_
          exact ih9 (x_1 + (1 : Int32)) v_2 g_3 g_4 g_5 g_6 g_7 _ _ _ hm hP hD hS (lv_sub hl [1, 2, 3, 4, 5, 6, 0] rfl)
        · replace hm := it hm c_11
          refine lv_aload_n hx hb dX1_followSplit_27 rfl (lv_at hl 0 rfl) ?_
          refine lv_iload hx hb dX1_followSplit_28 (lv_at hl 6 rfl) ?_
          refine lv_iload_n hx hb dX1_followSplit_30 rfl (lv_at hl 1 rfl) ?_
          refine vp_callSi (va_Run.run (va_runV (As := [.int x_1, .int p1]) (rest := []) ⟨hx, hb, hml, hown, hts⟩ (c_X1_touches l G cA o o_kind o_on o_serves o_firstDay o_lastDay x_1 p1 v_2 g_4 g_5 _ rfl (bnz hm hz)) (cwV 2 hts gX1_followSplit_X1_touches rfl rfl rfl (by decide +kernel) ⟨Nat.le_of_ble_eq_true rfl, Nat.le_of_ble_eq_true rfl⟩) (preRV (q := (RX1, TX1, 6)) (hP.sub [0, 2, 3] rfl) hK 0 rfl rfl) rfl rfl hl.1 rfl (lv_room (Nat.le_of_ble_eq_true rfl)) dX1_followSplit_31 ⟨Nat.zero_le _, Nat.zero_le _⟩)) (fun r_12 hw => ?_)
          replace hm := bst hm hw.1
          refine lv_if_eq (tgt := 161) hx hb dX1_followSplit_34 (by decide) (fun c_13 => ?_) (fun c_13 => ?_)
          · replace hm := it hm c_13
            refine lv_iinc (v := x_1 + (1 : Int32)) (lv' := [(6, .int (x_1 + (1 : Int32))), (0, .ref o), (1, .int p1), (2, .int p2), (3, .int p3), (4, .int p4), (5, .int v_o_count)]) hx hb dX1_followSplit_161 hl (k := 6) rfl rfl (by decide) rfl (fun ls hl => ?_)
            refine lv_goto (tgt := 9) hx hb dX1_followSplit_164 (by decide) ?_
            exact ih9 (x_1 + (1 : Int32)) v_2 g_3 g_4 g_5 g_6 g_7 _ _ _ hm hP hD hS (lv_sub hl [1, 2, 3, 4, 5, 6, 0] rfl)
          · replace hm := ie hm c_13
            refine lv_aload_n hx hb dX1_followSplit_37 rfl (lv_at hl 0 rfl) ?_
            refine va_get (D := G) (ci := 3) (v := .ref o_on) (C := RX1) (T := TX1) (N := 6) hx hb hts i_X1 hown hK.1 hP 0 rfl rfl 2 (by decide) w_2 (fun _ h9 => h9) rfl dX1_followSplit_38 ?_
            refine lv_iload hx hb dX1_followSplit_41 (lv_at hl 6 rfl) ?_
            replace hm := gdo hm hz
            obtain ⟨gi_14, hm⟩ := hm
            refine va_iald hx hb hK.1 hP 2 0 (cA := cA 0) (n := 30) (f := g_4) rfl rfl (ixi gi_14) dX1_followSplit_43 ?_
            refine lv_iload_n hx hb dX1_followSplit_44 rfl (lv_at hl 1 rfl) ?_
            have J59_3 : ∀ (y_15 : Int32), ∀ (H : Heap) (locs : List Loc) (ls : Array Slot), m_X1_followSplit_J59 p1 p2 p3 p4 x_1 v_2 g_3 g_4 g_5 g_6 g_7 rec_8 y_15 = R → va_P G vwCl (k_X1_followSplit cA o o_kind o_on o_serves o_firstDay o_lastDay v_2 g_3 g_4 g_5 g_6 g_7) H → va_D A (k_X1_followSplit cA o o_kind o_on o_serves o_firstDay o_lastDay v_2 g_3 g_4 g_5 g_6 g_7) → va_S A s.heap H locs → lv_has ls 9 [(0, .ref o), (1, .int p1), (2, .int p2), (3, .int p3), (4, .int p4), (5, .int v_o_count), (6, .int x_1)] → W p l e ({ frames := 1, cells := 0, slots := 0, locals := 24 } : Room) s m av below meth c H locs 0 0 Q (F0 m 59 ls [.int y_15]) := by
              intro y_15 H locs ls hm hP hD hS hl
              unfold m_X1_followSplit_J59 at hm
              refine lv_istore (lv' := [(7, .int y_15), (0, .ref o), (1, .int p1), (2, .int p2), (3, .int p3), (4, .int p4), (5, .int v_o_count), (6, .int x_1)]) hx hb dX1_followSplit_59 hl (by decide) rfl (fun ls hl => ?_)
              refine lv_aload_n hx hb dX1_followSplit_61 rfl (lv_at hl 1 rfl) ?_
              refine va_get (D := G) (ci := 3) (v := .ref o_serves) (C := RX1) (T := TX1) (N := 6) hx hb hts i_X1 hown hK.1 hP 0 rfl rfl 3 (by decide) w_3 (fun _ h9 => h9) rfl dX1_followSplit_62 ?_
              refine lv_iload hx hb dX1_followSplit_65 (lv_at hl 7 rfl) ?_
              replace hm := gdo hm hz
              obtain ⟨gi_16, hm⟩ := hm
              refine va_iald hx hb hK.1 hP 3 0 (cA := cA 0) (n := 30) (f := g_5) rfl rfl (ixi gi_16) dX1_followSplit_67 ?_
              refine lv_iload_n hx hb dX1_followSplit_68 rfl (lv_at hl 2 rfl) ?_
              have J83_2 : ∀ (y_17 : Int32), ∀ (H : Heap) (locs : List Loc) (ls : Array Slot), m_X1_followSplit_J83 p1 p2 p4 x_1 v_2 g_3 g_4 g_5 g_6 g_7 rec_8 y_15 y_17 = R → va_P G vwCl (k_X1_followSplit cA o o_kind o_on o_serves o_firstDay o_lastDay v_2 g_3 g_4 g_5 g_6 g_7) H → va_D A (k_X1_followSplit cA o o_kind o_on o_serves o_firstDay o_lastDay v_2 g_3 g_4 g_5 g_6 g_7) → va_S A s.heap H locs → lv_has ls 9 [(0, .ref o), (1, .int p1), (2, .int p2), (3, .int p3), (4, .int p4), (5, .int v_o_count), (6, .int x_1), (7, .int y_15)] → W p l e ({ frames := 1, cells := 0, slots := 0, locals := 24 } : Room) s m av below meth c H locs 0 0 Q (F0 m 83 ls [.int y_17]) := by
                intro y_17 H locs ls hm hP hD hS hl
                unfold m_X1_followSplit_J83 at hm
                refine lv_istore (lv' := [(8, .int y_17), (0, .ref o), (1, .int p1), (2, .int p2), (3, .int p3), (4, .int p4), (5, .int v_o_count), (6, .int x_1), (7, .int y_15)]) hx hb dX1_followSplit_83 hl (by decide) rfl (fun ls hl => ?_)
                refine lv_aload_n hx hb dX1_followSplit_85 rfl (lv_at hl 1 rfl) ?_
                refine lv_aload_n hx hb dX1_followSplit_86 rfl (lv_at hl 1 rfl) ?_
                refine va_get (D := G) (ci := 3) (v := .ref o_kind) (C := RX1) (T := TX1) (N := 6) hx hb hts i_X1 hown hK.1 hP 0 rfl rfl 1 (by decide) w_4 (fun _ h9 => h9) rfl dX1_followSplit_87 ?_
                refine lv_iload hx hb dX1_followSplit_90 (lv_at hl 7 rfl) ?_
                replace hm := gdo hm hz
                obtain ⟨gi_18, hm⟩ := hm
                refine va_iald hx hb hK.1 hP 1 0 (cA := cA 0) (n := 30) (f := g_3) rfl rfl (ixi gi_18) dX1_followSplit_92 ?_
                refine lv_iload hx hb dX1_followSplit_93 (lv_at hl 8 rfl) ?_
                refine lv_iload hx hb dX1_followSplit_95 (lv_at hl 0 rfl) ?_
                refine lv_iload hx hb dX1_followSplit_97 (lv_at hl 5 rfl) ?_
                have hPc := hP.sub (ws' := (k_X1_come cA o o_kind o_on o_serves o_firstDay o_lastDay v_2 g_3 g_4 g_5 g_6 g_7)) [0, 1, 2, 3, 4, 5] rfl
                have hDc := hD.sub (ws' := (k_X1_come cA o o_kind o_on o_serves o_firstDay o_lastDay v_2 g_3 g_4 g_5 g_6 g_7)) [0, 1, 2, 3, 4, 5] (by decide) rfl
                have hFc := va_free (wc := (k_X1_come cA o o_kind o_on o_serves o_firstDay o_lastDay v_2 g_3 g_4 g_5 g_6 g_7)) hD hS hA [0, 1, 2, 3, 4, 5] rfl
                refine va_calli (va_runV (As := [.int (g_3 x_1.toNatClampNeg), .int y_15, .int y_17, .int p4]) (rest := []) ⟨hx, hb, hml, hown, hts⟩ (c_X1_come l G cA o o_kind o_on o_serves o_firstDay o_lastDay H.size (g_3 x_1.toNatClampNeg) y_15 y_17 p4 v_2 g_3 g_4 g_5 g_6 g_7 _ rfl (bnz hm hz)) (cwV 4 hts gX1_followSplit_X1_come rfl rfl rfl (by decide +kernel) ⟨Nat.le_of_ble_eq_true rfl, Nat.le_of_ble_eq_true rfl⟩) (preMV (q := (RX1, TX1, 6)) hPc hDc hK 0 rfl rfl) rfl rfl hl.1 rfl (lv_room (Nat.le_of_ble_eq_true rfl)) dX1_followSplit_99 ⟨Nat.zero_le _, Nat.zero_le _⟩) hS (fun q _ h => hFc q h) hFc (fun r_19 u_25 t H locs ht hvm hw hB hz1 hk1 hS' => ?_)
                obtain ⟨v_20, g_21, g_22, g_23, g_24, g_25⟩ := u_25
                replace hm := bst hm hw
                replace hB : va_P G vwCl _ _ := hB
                rw [ht] at hB
                have hj := va_back (ws' := (k_X1_followSplit cA o o_kind o_on o_serves o_firstDay o_lastDay v_20 g_21 g_22 g_23 g_24 g_25)) hP hD [0, 1, 2, 3, 4, 5] rfl hk1 hB [(true, 0), (true, 1), (true, 2), (true, 3), (true, 4), (true, 5)] rfl (by decide) rfl
                replace hP := hj.1
                replace hD := hj.2
                replace hS := hS'
                clear hj hPc hDc hFc hB
                refine lv_pop hx hb dX1_followSplit_102 rfl ?_
                refine lv_aload_n hx hb dX1_followSplit_103 rfl (lv_at hl 1 rfl) ?_
                refine va_get (D := G) (ci := 3) (v := .ref o_on) (C := RX1) (T := TX1) (N := 6) hx hb hts i_X1 hown hK.1 hP 0 rfl rfl 2 (by decide) w_2 (fun _ h9 => h9) rfl dX1_followSplit_104 ?_
                refine lv_iload hx hb dX1_followSplit_107 (lv_at hl 7 rfl) ?_
                refine lv_aload_n hx hb dX1_followSplit_109 rfl (lv_at hl 1 rfl) ?_
                refine va_get (D := G) (ci := 3) (v := .ref o_on) (C := RX1) (T := TX1) (N := 6) hx hb hts i_X1 hown hK.1 hP 0 rfl rfl 2 (by decide) w_2 (fun _ h9 => h9) rfl dX1_followSplit_110 ?_
                refine lv_iload hx hb dX1_followSplit_113 (lv_at hl 7 rfl) ?_
                replace hm := gdo hm hz
                obtain ⟨gi_26, hm⟩ := hm
                refine va_iald hx hb hK.1 hP 2 0 (cA := cA 0) (n := 30) (f := g_22) rfl rfl (ixi gi_26) dX1_followSplit_115 ?_
                refine lv_iload_n hx hb dX1_followSplit_116 rfl (lv_at hl 2 rfl) ?_
                have J131_1 : ∀ (y_27 : Int32), ∀ (H : Heap) (locs : List Loc) (ls : Array Slot), m_X1_followSplit_J131 p1 p2 x_1 rec_8 v_20 g_21 g_22 g_23 g_24 g_25 y_27 = R → va_P G vwCl (k_X1_followSplit cA o o_kind o_on o_serves o_firstDay o_lastDay v_20 g_21 g_22 g_23 g_24 g_25) H → va_D A (k_X1_followSplit cA o o_kind o_on o_serves o_firstDay o_lastDay v_20 g_21 g_22 g_23 g_24 g_25) → va_S A s.heap H locs → lv_has ls 9 [(0, .ref o), (1, .int p1), (2, .int p2), (3, .int p3), (4, .int p4), (5, .int v_o_count), (6, .int x_1)] → W p l e ({ frames := 1, cells := 0, slots := 0, locals := 24 } : Room) s m av below meth c H locs 0 0 Q (F0 m 131 ls [.int y_27, .int x_1, .ref o_on]) := by
                  intro y_27 H locs ls hm hP hD hS hl
                  unfold m_X1_followSplit_J131 at hm
                  replace hm := gdo hm hz
                  obtain ⟨gi_28, hm⟩ := hm
                  refine va_iast hx hb hK.1 hP hD hS 2 0 (cA := cA 0) (n := 30) (f := g_22) rfl rfl (ixi gi_28) dX1_followSplit_131 (fun H locs hP' hD' hS' => ?_)
                  replace hP : va_P G vwCl (k_X1_followSplit cA o o_kind o_on o_serves o_firstDay o_lastDay v_20 g_21 (upd g_22 x_1.toNatClampNeg y_27) g_23 g_24 g_25) H := hP'
                  replace hD : va_D A (k_X1_followSplit cA o o_kind o_on o_serves o_firstDay o_lastDay v_20 g_21 (upd g_22 x_1.toNatClampNeg y_27) g_23 g_24 g_25) := hD'
                  replace hS := hS'
                  refine lv_aload_n hx hb dX1_followSplit_132 rfl (lv_at hl 0 rfl) ?_
                  refine va_get (D := G) (ci := 3) (v := .ref o_serves) (C := RX1) (T := TX1) (N := 6) hx hb hts i_X1 hown hK.1 hP 0 rfl rfl 3 (by decide) w_3 (fun _ h9 => h9) rfl dX1_followSplit_133 ?_
                  refine lv_iload hx hb dX1_followSplit_136 (lv_at hl 6 rfl) ?_
                  refine lv_aload_n hx hb dX1_followSplit_138 rfl (lv_at hl 0 rfl) ?_
                  refine va_get (D := G) (ci := 3) (v := .ref o_serves) (C := RX1) (T := TX1) (N := 6) hx hb hts i_X1 hown hK.1 hP 0 rfl rfl 3 (by decide) w_3 (fun _ h9 => h9) rfl dX1_followSplit_139 ?_
                  refine lv_iload hx hb dX1_followSplit_142 (lv_at hl 6 rfl) ?_
                  replace hm := gdo hm hz
                  obtain ⟨gi_29, hm⟩ := hm
                  refine va_iald hx hb hK.1 hP 3 0 (cA := cA 0) (n := 30) (f := g_23) rfl rfl (ixi gi_29) dX1_followSplit_144 ?_
                  refine lv_iload_n hx hb dX1_followSplit_145 rfl (lv_at hl 1 rfl) ?_
                  refine lv_icmp_ne (tgt := 153) hx hb dX1_followSplit_146 (by decide) (fun c_30 => ?_) (fun c_30 => ?_)
                  · replace hm := ie hm c_30
                    refine lv_aload_n hx hb dX1_followSplit_153 rfl (lv_at hl 0 rfl) ?_
                    refine va_get (D := G) (ci := 3) (v := .ref o_serves) (C := RX1) (T := TX1) (N := 6) hx hb hts i_X1 hown hK.1 hP 0 rfl rfl 3 (by decide) w_3 (fun _ h9 => h9) rfl dX1_followSplit_154 ?_
                    refine lv_iload hx hb dX1_followSplit_157 (lv_at hl 6 rfl) ?_
                    replace hm := gdo hm hz
                    obtain ⟨gi_31, hm⟩ := hm
                    refine va_iald hx hb hK.1 hP 3 0 (cA := cA 0) (n := 30) (f := g_23) rfl rfl (ixi gi_31) dX1_followSplit_159 ?_
                    replace hm := gdo hm hz
                    obtain ⟨gi_32, hm⟩ := hm
                    refine va_iast hx hb hK.1 hP hD hS 3 0 (cA := cA 0) (n := 30) (f := g_23) rfl rfl (ixi gi_32) dX1_followSplit_160 (fun H locs hP' hD' hS' => ?_)
                    replace hP : va_P G vwCl (k_X1_followSplit cA o o_kind o_on o_serves o_firstDay o_lastDay v_20 g_21 (upd g_22 x_1.toNatClampNeg y_27) (upd g_23 x_1.toNatClampNeg (g_23 x_1.toNatClampNeg)) g_24 g_25) H := hP'
                    replace hD : va_D A (k_X1_followSplit cA o o_kind o_on o_serves o_firstDay o_lastDay v_20 g_21 (upd g_22 x_1.toNatClampNeg y_27) (upd g_23 x_1.toNatClampNeg (g_23 x_1.toNatClampNeg)) g_24 g_25) := hD'
                    replace hS := hS'
                    refine lv_iinc (v := x_1 + (1 : Int32)) (lv' := [(6, .int (x_1 + (1 : Int32))), (0, .ref o), (1, .int p1), (2, .int p2), (3, .int p3), (4, .int p4), (5, .int v_o_count)]) hx hb dX1_followSplit_161 hl (k := 6) rfl rfl (by decide) rfl (fun ls hl => ?_)
                    refine lv_goto (tgt := 9) hx hb dX1_followSplit_164 (by decide) ?_
                    exact ih9 (x_1 + (1 : Int32)) v_20 g_21 (upd g_22 x_1.toNatClampNeg y_27) (upd g_23 x_1.toNatClampNeg (g_23 x_1.toNatClampNeg)) g_24 g_25 _ _ _ hm hP hD hS (lv_sub hl [1, 2, 3, 4, 5, 6, 0] rfl)
                  · replace hm := it hm c_30
                    refine lv_iload_n hx hb dX1_followSplit_149 rfl (lv_at hl 2 rfl) ?_
                    refine lv_goto (tgt := 160) hx hb dX1_followSplit_150 (by decide) ?_
                    replace hm := gdo hm hz
                    obtain ⟨gi_33, hm⟩ := hm
                    refine va_iast hx hb hK.1 hP hD hS 3 0 (cA := cA 0) (n := 30) (f := g_23) rfl rfl (ixi gi_33) dX1_followSplit_160 (fun H locs hP' hD' hS' => ?_)
                    replace hP : va_P G vwCl (k_X1_followSplit cA o o_kind o_on o_serves o_firstDay o_lastDay v_20 g_21 (upd g_22 x_1.toNatClampNeg y_27) (upd g_23 x_1.toNatClampNeg p2) g_24 g_25) H := hP'
                    replace hD : va_D A (k_X1_followSplit cA o o_kind o_on o_serves o_firstDay o_lastDay v_20 g_21 (upd g_22 x_1.toNatClampNeg y_27) (upd g_23 x_1.toNatClampNeg p2) g_24 g_25) := hD'
                    replace hS := hS'
                    refine lv_iinc (v := x_1 + (1 : Int32)) (lv' := [(6, .int (x_1 + (1 : Int32))), (0, .ref o), (1, .int p1), (2, .int p2), (3, .int p3), (4, .int p4), (5, .int v_o_count)]) hx hb dX1_followSplit_161 hl (k := 6) rfl rfl (by decide) rfl (fun ls hl => ?_)
                    refine lv_goto (tgt := 9) hx hb dX1_followSplit_164 (by decide) ?_
                    exact ih9 (x_1 + (1 : Int32)) v_20 g_21 (upd g_22 x_1.toNatClampNeg y_27) (upd g_23 x_1.toNatClampNeg p2) g_24 g_25 _ _ _ hm hP hD hS (lv_sub hl [1, 2, 3, 4, 5, 6, 0] rfl)
                refine lv_icmp_ne (tgt := 124) hx hb dX1_followSplit_117 (by decide) (fun c_34 => ?_) (fun c_34 => ?_)
                · replace hm := ie hm c_34
                  refine lv_aload_n hx hb dX1_followSplit_124 rfl (lv_at hl 1 rfl) ?_
                  refine va_get (D := G) (ci := 3) (v := .ref o_on) (C := RX1) (T := TX1) (N := 6) hx hb hts i_X1 hown hK.1 hP 0 rfl rfl 2 (by decide) w_2 (fun _ h9 => h9) rfl dX1_followSplit_125 ?_
                  refine lv_iload hx hb dX1_followSplit_128 (lv_at hl 7 rfl) ?_
                  replace hm := gdo hm hz
                  obtain ⟨gi_35, hm⟩ := hm
                  refine va_iald hx hb hK.1 hP 2 0 (cA := cA 0) (n := 30) (f := g_22) rfl rfl (ixi gi_35) dX1_followSplit_130 ?_
                  exact J131_1 (g_22 x_1.toNatClampNeg) _ _ _ hm hP hD hS (lv_sub hl [1, 2, 3, 4, 5, 6, 7] rfl)
                · replace hm := it hm c_34
                  refine lv_iload_n hx hb dX1_followSplit_120 rfl (lv_at hl 3 rfl) ?_
                  refine lv_goto (tgt := 131) hx hb dX1_followSplit_121 (by decide) ?_
                  exact J131_1 p2 _ _ _ hm hP hD hS (lv_sub hl [1, 2, 3, 4, 5, 6, 7] rfl)
              refine lv_icmp_ne (tgt := 76) hx hb dX1_followSplit_69 (by decide) (fun c_36 => ?_) (fun c_36 => ?_)
              · replace hm := ie hm c_36
                refine lv_aload_n hx hb dX1_followSplit_76 rfl (lv_at hl 1 rfl) ?_
                refine va_get (D := G) (ci := 3) (v := .ref o_serves) (C := RX1) (T := TX1) (N := 6) hx hb hts i_X1 hown hK.1 hP 0 rfl rfl 3 (by decide) w_3 (fun _ h9 => h9) rfl dX1_followSplit_77 ?_
                refine lv_iload hx hb dX1_followSplit_80 (lv_at hl 7 rfl) ?_
                replace hm := gdo hm hz
                obtain ⟨gi_37, hm⟩ := hm
                refine va_iald hx hb hK.1 hP 3 0 (cA := cA 0) (n := 30) (f := g_5) rfl rfl (ixi gi_37) dX1_followSplit_82 ?_
                exact J83_2 (g_5 x_1.toNatClampNeg) _ _ _ hm hP hD hS (lv_sub hl [1, 2, 3, 4, 5, 6, 7, 0] rfl)
              · replace hm := it hm c_36
                refine lv_iload_n hx hb dX1_followSplit_72 rfl (lv_at hl 4 rfl) ?_
                refine lv_goto (tgt := 83) hx hb dX1_followSplit_73 (by decide) ?_
                exact J83_2 p3 _ _ _ hm hP hD hS (lv_sub hl [1, 2, 3, 4, 5, 6, 7, 0] rfl)
            refine lv_icmp_ne (tgt := 52) hx hb dX1_followSplit_45 (by decide) (fun c_38 => ?_) (fun c_38 => ?_)
            · replace hm := ie hm c_38
              refine lv_aload_n hx hb dX1_followSplit_52 rfl (lv_at hl 0 rfl) ?_
              refine va_get (D := G) (ci := 3) (v := .ref o_on) (C := RX1) (T := TX1) (N := 6) hx hb hts i_X1 hown hK.1 hP 0 rfl rfl 2 (by decide) w_2 (fun _ h9 => h9) rfl dX1_followSplit_53 ?_
              refine lv_iload hx hb dX1_followSplit_56 (lv_at hl 6 rfl) ?_
              replace hm := gdo hm hz
              obtain ⟨gi_39, hm⟩ := hm
              refine va_iald hx hb hK.1 hP 2 0 (cA := cA 0) (n := 30) (f := g_4) rfl rfl (ixi gi_39) dX1_followSplit_58 ?_
              exact J59_3 (g_4 x_1.toNatClampNeg) _ _ _ hm hP hD hS (lv_sub hl [0, 1, 2, 3, 4, 5, 6] rfl)
            · replace hm := it hm c_38
              refine lv_iload_n hx hb dX1_followSplit_48 rfl (lv_at hl 3 rfl) ?_
              refine lv_goto (tgt := 59) hx hb dX1_followSplit_49 (by decide) ?_
              exact J59_3 p3 _ _ _ hm hP hD hS (lv_sub hl [0, 1, 2, 3, 4, 5, 6] rfl)
  exact L9_4 _ (0 : Int32) v_o_count g_o_kind g_o_on g_o_serves g_o_firstDay g_o_lastDay _ _ _ hm hP hD hS (lv_sub hl [2, 3, 4, 5, 6, 1, 0] rfl)
def m_X1_hasTwinAhead_L2 (g_o_kind : Nat → Int32) (g_o_on : Nat → Int32) (g_o_serves : Nat → Int32) (g_o_lastDay : Nat → Int32) (p1 : Int32) : ((Int32) → Option (Int32)) → (Int32) → Option (Int32) := fun rec_2 v => match v with
  | x_1 => (if p1 ≤ x_1 then some (0 : Int32) else gd (ix x_1 30) ((if (g_o_lastDay x_1.toNatClampNeg) = (-1 : Int32) then gd (ix x_1 30) (gd (ix p1 30) ((if (g_o_kind x_1.toNatClampNeg) = (g_o_kind p1.toNatClampNeg) then gd (ix x_1 30) (gd (ix p1 30) ((if (g_o_on x_1.toNatClampNeg) = (g_o_on p1.toNatClampNeg) then gd (ix x_1 30) (gd (ix p1 30) ((if (g_o_serves x_1.toNatClampNeg) = (g_o_serves p1.toNatClampNeg) then some (1 : Int32) else rec_2 (x_1 + (1 : Int32))))) else rec_2 (x_1 + (1 : Int32))))) else rec_2 (x_1 + (1 : Int32))))) else rec_2 (x_1 + (1 : Int32)))))
def m_X1_hasTwinAhead (p1 : Int32) (g_o_kind : Nat → Int32) (g_o_on : Nat → Int32) (g_o_serves : Nat → Int32) (g_o_lastDay : Nat → Int32) : Option (Int32) := fuel (m_X1_hasTwinAhead_L2 g_o_kind g_o_on g_o_serves g_o_lastDay p1) FU (0 : Int32)
abbrev k_X1_hasTwinAhead (cA : Nat → ClassId) (o o_kind o_on o_serves o_firstDay o_lastDay : Nat) (v_o_count : Int32) (g_o_kind : Nat → Int32) (g_o_on : Nat → Int32) (g_o_serves : Nat → Int32) (g_o_lastDay : Nat → Int32) : va_W := [(o, .inr (3, [.int v_o_count, .ref o_kind, .ref o_on, .ref o_serves, .ref o_firstDay, .ref o_lastDay])), (o_kind, .inl (cA 0, 30, .inl g_o_kind)), (o_on, .inl (cA 0, 30, .inl g_o_on)), (o_serves, .inl (cA 0, 30, .inl g_o_serves)), (o_lastDay, .inl (cA 0, 30, .inl g_o_lastDay))]
set_option maxHeartbeats 4000000 in
set_option maxRecDepth 100000 in
/-- X1_hasTwinAhead: as its model -/
theorem c_X1_hasTwinAhead (l : Launch) (G : va_G) (cA : Nat → ClassId) (o o_kind o_on o_serves o_firstDay o_lastDay : Nat) (p1 : Int32) (v_o_count : Int32) (g_o_kind : Nat → Int32) (g_o_on : Nat → Int32) (g_o_serves : Nat → Int32) (g_o_lastDay : Nat → Int32) (R : Option (Int32)) (hR : m_X1_hasTwinAhead p1 g_o_kind g_o_on g_o_serves g_o_lastDay = R) (hz : R ≠ none) : Met l yX1_hasTwinAhead wsX1_hasTwinAhead ({ frames := 0, cells := 0, slots := 0, locals := 0 } : Room) (va_Pc [.ref o, .int p1] (PR G cA (k_X1_hasTwinAhead cA o o_kind o_on o_serves o_firstDay o_lastDay v_o_count g_o_kind g_o_on g_o_serves g_o_lastDay))) (vp_Si (fun r => R = some r ∧ (r = 0 ∨ r = 1))) 0 0 (fun _ => False) := by
  refine metR .boolean (by decide) rfl (Nat.le_of_ble_eq_true rfl) ?_
  intro p e s m av below meth c Q ls hx hb hml hts hown hP hK hl hret
  replace hl : lv_has ls 3 [(0, .ref o), (1, .int p1)] := hl
  have w_0 := hts (.fieldLink RX1 28 "ParcelRegistry$Easements" "lastDay" "[I") (by decide +kernel)
  have w_1 := hts (.fieldLink RX1 15 "ParcelRegistry$Easements" "kind" "[I") (by decide +kernel)
  have w_2 := hts (.fieldLink RX1 19 "ParcelRegistry$Easements" "on" "[I") (by decide +kernel)
  have w_3 := hts (.fieldLink RX1 22 "ParcelRegistry$Easements" "serves" "[I") (by decide +kernel)
  have i_X1 : ∀ w ∈ wsX10, w ∈ wsX1_hasTwinAhead := by decide +kernel
  have hm := hR
  unfold m_X1_hasTwinAhead at hm
  refine lv_iconst (v := (0 : Int32)) hx hb dX1_hasTwinAhead_0 (by decide) ?_
  refine lv_istore_n (lv' := [(2, .int (0 : Int32)), (0, .ref o), (1, .int p1)]) hx hb dX1_hasTwinAhead_1 rfl hl (by decide) rfl (fun ls hl => ?_)
  have L2_1 : ∀ (n : Nat), ∀ (x_1 : Int32), ∀ (ls : Array Slot), fuel (m_X1_hasTwinAhead_L2 g_o_kind g_o_on g_o_serves g_o_lastDay p1) n x_1 = R → lv_has ls 3 [(0, .ref o), (1, .int p1), (2, .int x_1)] → W p l e ({ frames := 0, cells := 0, slots := 0, locals := 0 } : Room) s m av below meth c s.heap [] 0 0 Q (F0 m 2 ls []) := by
    intro n
    induction n with
    | zero =>
      intro x_1 ls hm hl
      exact (fu0 hm hz).elim
    | succ n ih2 =>
      intro x_1 ls hm hl
      replace hm := fus hm
      generalize fuel (m_X1_hasTwinAhead_L2 g_o_kind g_o_on g_o_serves g_o_lastDay p1) n = rec_2 at hm ih2
      unfold m_X1_hasTwinAhead_L2 at hm
      refine lv_iload_n hx hb dX1_hasTwinAhead_2 rfl (lv_at hl 2 rfl) ?_
      refine lv_iload_n hx hb dX1_hasTwinAhead_3 rfl (lv_at hl 1 rfl) ?_
      refine lv_icmp_ge (tgt := 70) hx hb dX1_hasTwinAhead_4 (by decide) (fun c_3 => ?_) (fun c_3 => ?_)
      · replace hm := it hm c_3
        refine lv_iconst (v := (0 : Int32)) hx hb dX1_hasTwinAhead_70 (by decide) ?_
        exact hret _ _ _ dX1_hasTwinAhead_71 rfl ⟨hm.symm, (by decide)⟩
      · replace hm := ie hm c_3
        refine lv_aload_n hx hb dX1_hasTwinAhead_7 rfl (lv_at hl 0 rfl) ?_
        refine va_get (D := G) (ci := 3) (v := .ref o_lastDay) (C := RX1) (T := TX1) (N := 6) hx hb hts i_X1 hown hK.1 hP 0 rfl rfl 5 (by decide) w_0 (fun _ h9 => h9) rfl dX1_hasTwinAhead_8 ?_
        refine lv_iload_n hx hb dX1_hasTwinAhead_11 rfl (lv_at hl 2 rfl) ?_
        replace hm := gdo hm hz
        obtain ⟨gi_4, hm⟩ := hm
        refine va_iald hx hb hK.1 hP 4 0 (cA := cA 0) (n := 30) (f := g_o_lastDay) rfl rfl (ixi gi_4) dX1_hasTwinAhead_12 ?_
        refine lv_iconst (v := (-1 : Int32)) hx hb dX1_hasTwinAhead_13 (by decide) ?_
        refine lv_icmp_ne (tgt := 64) hx hb dX1_hasTwinAhead_14 (by decide) (fun c_5 => ?_) (fun c_5 => ?_)
        · replace hm := ie hm c_5
          refine lv_iinc (v := x_1 + (1 : Int32)) (lv' := [(2, .int (x_1 + (1 : Int32))), (0, .ref o), (1, .int p1)]) hx hb dX1_hasTwinAhead_64 hl (k := 2) rfl rfl (by decide) rfl (fun ls hl => ?_)
          refine lv_goto (tgt := 2) hx hb dX1_hasTwinAhead_67 (by decide) ?_
          exact ih2 (x_1 + (1 : Int32)) _ hm (lv_sub hl [1, 2, 0] rfl)
        · replace hm := it hm c_5
          refine lv_aload_n hx hb dX1_hasTwinAhead_17 rfl (lv_at hl 0 rfl) ?_
          refine va_get (D := G) (ci := 3) (v := .ref o_kind) (C := RX1) (T := TX1) (N := 6) hx hb hts i_X1 hown hK.1 hP 0 rfl rfl 1 (by decide) w_1 (fun _ h9 => h9) rfl dX1_hasTwinAhead_18 ?_
          refine lv_iload_n hx hb dX1_hasTwinAhead_21 rfl (lv_at hl 2 rfl) ?_
          replace hm := gdo hm hz
          obtain ⟨gi_6, hm⟩ := hm
          refine va_iald hx hb hK.1 hP 1 0 (cA := cA 0) (n := 30) (f := g_o_kind) rfl rfl (ixi gi_6) dX1_hasTwinAhead_22 ?_
          refine lv_aload_n hx hb dX1_hasTwinAhead_23 rfl (lv_at hl 0 rfl) ?_
          refine va_get (D := G) (ci := 3) (v := .ref o_kind) (C := RX1) (T := TX1) (N := 6) hx hb hts i_X1 hown hK.1 hP 0 rfl rfl 1 (by decide) w_1 (fun _ h9 => h9) rfl dX1_hasTwinAhead_24 ?_
          refine lv_iload_n hx hb dX1_hasTwinAhead_27 rfl (lv_at hl 1 rfl) ?_
          replace hm := gdo hm hz
          obtain ⟨gi_7, hm⟩ := hm
          refine va_iald hx hb hK.1 hP 1 0 (cA := cA 0) (n := 30) (f := g_o_kind) rfl rfl (ixi gi_7) dX1_hasTwinAhead_28 ?_
          refine lv_icmp_ne (tgt := 64) hx hb dX1_hasTwinAhead_29 (by decide) (fun c_8 => ?_) (fun c_8 => ?_)
          · replace hm := ie hm c_8
            refine lv_iinc (v := x_1 + (1 : Int32)) (lv' := [(2, .int (x_1 + (1 : Int32))), (0, .ref o), (1, .int p1)]) hx hb dX1_hasTwinAhead_64 hl (k := 2) rfl rfl (by decide) rfl (fun ls hl => ?_)
            refine lv_goto (tgt := 2) hx hb dX1_hasTwinAhead_67 (by decide) ?_
            exact ih2 (x_1 + (1 : Int32)) _ hm (lv_sub hl [1, 2, 0] rfl)
          · replace hm := it hm c_8
            refine lv_aload_n hx hb dX1_hasTwinAhead_32 rfl (lv_at hl 0 rfl) ?_
            refine va_get (D := G) (ci := 3) (v := .ref o_on) (C := RX1) (T := TX1) (N := 6) hx hb hts i_X1 hown hK.1 hP 0 rfl rfl 2 (by decide) w_2 (fun _ h9 => h9) rfl dX1_hasTwinAhead_33 ?_
            refine lv_iload_n hx hb dX1_hasTwinAhead_36 rfl (lv_at hl 2 rfl) ?_
            replace hm := gdo hm hz
            obtain ⟨gi_9, hm⟩ := hm
            refine va_iald hx hb hK.1 hP 2 0 (cA := cA 0) (n := 30) (f := g_o_on) rfl rfl (ixi gi_9) dX1_hasTwinAhead_37 ?_
            refine lv_aload_n hx hb dX1_hasTwinAhead_38 rfl (lv_at hl 0 rfl) ?_
            refine va_get (D := G) (ci := 3) (v := .ref o_on) (C := RX1) (T := TX1) (N := 6) hx hb hts i_X1 hown hK.1 hP 0 rfl rfl 2 (by decide) w_2 (fun _ h9 => h9) rfl dX1_hasTwinAhead_39 ?_
            refine lv_iload_n hx hb dX1_hasTwinAhead_42 rfl (lv_at hl 1 rfl) ?_
            replace hm := gdo hm hz
            obtain ⟨gi_10, hm⟩ := hm
            refine va_iald hx hb hK.1 hP 2 0 (cA := cA 0) (n := 30) (f := g_o_on) rfl rfl (ixi gi_10) dX1_hasTwinAhead_43 ?_
            refine lv_icmp_ne (tgt := 64) hx hb dX1_hasTwinAhead_44 (by decide) (fun c_11 => ?_) (fun c_11 => ?_)
            · replace hm := ie hm c_11
              refine lv_iinc (v := x_1 + (1 : Int32)) (lv' := [(2, .int (x_1 + (1 : Int32))), (0, .ref o), (1, .int p1)]) hx hb dX1_hasTwinAhead_64 hl (k := 2) rfl rfl (by decide) rfl (fun ls hl => ?_)
              refine lv_goto (tgt := 2) hx hb dX1_hasTwinAhead_67 (by decide) ?_
              exact ih2 (x_1 + (1 : Int32)) _ hm (lv_sub hl [1, 2, 0] rfl)
            · replace hm := it hm c_11
              refine lv_aload_n hx hb dX1_hasTwinAhead_47 rfl (lv_at hl 0 rfl) ?_
              refine va_get (D := G) (ci := 3) (v := .ref o_serves) (C := RX1) (T := TX1) (N := 6) hx hb hts i_X1 hown hK.1 hP 0 rfl rfl 3 (by decide) w_3 (fun _ h9 => h9) rfl dX1_hasTwinAhead_48 ?_
              refine lv_iload_n hx hb dX1_hasTwinAhead_51 rfl (lv_at hl 2 rfl) ?_
              replace hm := gdo hm hz
              obtain ⟨gi_12, hm⟩ := hm
              refine va_iald hx hb hK.1 hP 3 0 (cA := cA 0) (n := 30) (f := g_o_serves) rfl rfl (ixi gi_12) dX1_hasTwinAhead_52 ?_
              refine lv_aload_n hx hb dX1_hasTwinAhead_53 rfl (lv_at hl 0 rfl) ?_
              refine va_get (D := G) (ci := 3) (v := .ref o_serves) (C := RX1) (T := TX1) (N := 6) hx hb hts i_X1 hown hK.1 hP 0 rfl rfl 3 (by decide) w_3 (fun _ h9 => h9) rfl dX1_hasTwinAhead_54 ?_
              refine lv_iload_n hx hb dX1_hasTwinAhead_57 rfl (lv_at hl 1 rfl) ?_
              replace hm := gdo hm hz
              obtain ⟨gi_13, hm⟩ := hm
              refine va_iald hx hb hK.1 hP 3 0 (cA := cA 0) (n := 30) (f := g_o_serves) rfl rfl (ixi gi_13) dX1_hasTwinAhead_58 ?_
              refine lv_icmp_ne (tgt := 64) hx hb dX1_hasTwinAhead_59 (by decide) (fun c_14 => ?_) (fun c_14 => ?_)
              · replace hm := ie hm c_14
                refine lv_iinc (v := x_1 + (1 : Int32)) (lv' := [(2, .int (x_1 + (1 : Int32))), (0, .ref o), (1, .int p1)]) hx hb dX1_hasTwinAhead_64 hl (k := 2) rfl rfl (by decide) rfl (fun ls hl => ?_)
                refine lv_goto (tgt := 2) hx hb dX1_hasTwinAhead_67 (by decide) ?_
                exact ih2 (x_1 + (1 : Int32)) _ hm (lv_sub hl [1, 2, 0] rfl)
              · replace hm := it hm c_14
                refine lv_iconst (v := (1 : Int32)) hx hb dX1_hasTwinAhead_62 (by decide) ?_
                exact hret _ _ _ dX1_hasTwinAhead_63 rfl ⟨hm.symm, (by decide)⟩
  exact L2_1 _ (0 : Int32) _ hm (lv_sub hl [1, 2, 0] rfl)
def m_X1_endRepeated_L2 (v_o_count : Int32) (g_o_kind : Nat → Int32) (g_o_on : Nat → Int32) (g_o_serves : Nat → Int32) (p1 : Int32) (p2 : Int32) : ((Int32 × (Nat → Int32)) → Option ((Nat → Int32))) → (Int32 × (Nat → Int32)) → Option ((Nat → Int32)) := fun rec_3 v => match v with
  | (x_1, g_2) => (if v_o_count ≤ x_1 then some g_2 else gd (ix x_1 30) ((if (g_2 x_1.toNatClampNeg) = (-1 : Int32) then Option.bind (m_X1_touches x_1 p1 g_o_on g_o_serves) (fun r_7 => (if r_7 = 0 then rec_3 (x_1 + (1 : Int32), g_2) else Option.bind (m_X1_hasTwinAhead x_1 g_o_kind g_o_on g_o_serves g_2) (fun r_9 => (if r_9 = 0 then rec_3 (x_1 + (1 : Int32), g_2) else gd (ix x_1 30) (rec_3 (x_1 + (1 : Int32), upd g_2 x_1.toNatClampNeg p2)))))) else rec_3 (x_1 + (1 : Int32), g_2))))
def m_X1_endRepeated (p1 : Int32) (p2 : Int32) (v_o_count : Int32) (g_o_kind : Nat → Int32) (g_o_on : Nat → Int32) (g_o_serves : Nat → Int32) (g_o_lastDay : Nat → Int32) : Option ((Nat → Int32)) := fuel (m_X1_endRepeated_L2 v_o_count g_o_kind g_o_on g_o_serves p1 p2) FU ((0 : Int32), g_o_lastDay)
abbrev k_X1_endRepeated (cA : Nat → ClassId) (o o_kind o_on o_serves o_firstDay o_lastDay : Nat) (v_o_count : Int32) (g_o_kind : Nat → Int32) (g_o_on : Nat → Int32) (g_o_serves : Nat → Int32) (g_o_lastDay : Nat → Int32) : va_W := [(o, .inr (3, [.int v_o_count, .ref o_kind, .ref o_on, .ref o_serves, .ref o_firstDay, .ref o_lastDay])), (o_kind, .inl (cA 0, 30, .inl g_o_kind)), (o_on, .inl (cA 0, 30, .inl g_o_on)), (o_serves, .inl (cA 0, 30, .inl g_o_serves)), (o_lastDay, .inl (cA 0, 30, .inl g_o_lastDay))]
set_option maxHeartbeats 4000000 in
set_option maxRecDepth 100000 in
/-- X1_endRepeated: as its model -/
theorem c_X1_endRepeated (l : Launch) (G : va_G) (cA : Nat → ClassId) (o o_kind o_on o_serves o_firstDay o_lastDay : Nat) (sz : Nat) (p1 : Int32) (p2 : Int32) (v_o_count : Int32) (g_o_kind : Nat → Int32) (g_o_on : Nat → Int32) (g_o_serves : Nat → Int32) (g_o_lastDay : Nat → Int32) (R : Option ((Nat → Int32))) (hR : m_X1_endRepeated p1 p2 v_o_count g_o_kind g_o_on g_o_serves g_o_lastDay = R) (hz : R ≠ none) : Met l yX1_endRepeated wsX1_endRepeated ({ frames := 1, cells := 0, slots := 0, locals := 22 } : Room) (va_Pc [.ref o, .int p1, .int p2] (PM G cA (k_X1_endRepeated cA o o_kind o_on o_serves o_firstDay o_lastDay v_o_count g_o_kind g_o_on g_o_serves g_o_lastDay) sz)) (va_Qv (fun (u : (Nat → Int32)) => R = some u) (BM G (fun (u : (Nat → Int32)) => (k_X1_endRepeated cA o o_kind o_on o_serves o_firstDay o_lastDay v_o_count g_o_kind g_o_on g_o_serves u))) (va_A (k_X1_endRepeated cA o o_kind o_on o_serves o_firstDay o_lastDay v_o_count g_o_kind g_o_on g_o_serves g_o_lastDay) sz)) 0 0 (va_A (k_X1_endRepeated cA o o_kind o_on o_serves o_firstDay o_lastDay v_o_count g_o_kind g_o_on g_o_serves g_o_lastDay) sz) := by
  refine metV (by decide) rfl (Nat.le_of_ble_eq_true rfl) ?_
  intro p e s m av below meth c Q ls A H hx hb hml hts hown hP hK hD hA hS hl hret
  replace hl : lv_has ls 4 [(0, .ref o), (1, .int p1), (2, .int p2)] := hl
  have w_0 := hts (.fieldLink RX1 9 "ParcelRegistry$Easements" "count" "I") (by decide +kernel)
  have w_1 := hts (.fieldLink RX1 28 "ParcelRegistry$Easements" "lastDay" "[I") (by decide +kernel)
  have i_X1 : ∀ w ∈ wsX10, w ∈ wsX1_endRepeated := by decide +kernel
  have hm := hR
  unfold m_X1_endRepeated at hm
  refine lv_iconst (v := (0 : Int32)) hx hb dX1_endRepeated_0 (by decide) ?_
  refine lv_istore_n (lv' := [(3, .int (0 : Int32)), (0, .ref o), (1, .int p1), (2, .int p2)]) hx hb dX1_endRepeated_1 rfl hl (by decide) rfl (fun ls hl => ?_)
  have L2_1 : ∀ (n : Nat), ∀ (x_1 : Int32) (g_2 : Nat → Int32), ∀ (H : Heap) (locs : List Loc) (ls : Array Slot), fuel (m_X1_endRepeated_L2 v_o_count g_o_kind g_o_on g_o_serves p1 p2) n (x_1, g_2) = R → va_P G vwCl (k_X1_endRepeated cA o o_kind o_on o_serves o_firstDay o_lastDay v_o_count g_o_kind g_o_on g_o_serves g_2) H → va_D A (k_X1_endRepeated cA o o_kind o_on o_serves o_firstDay o_lastDay v_o_count g_o_kind g_o_on g_o_serves g_2) → va_S A s.heap H locs → lv_has ls 4 [(0, .ref o), (1, .int p1), (2, .int p2), (3, .int x_1)] → W p l e ({ frames := 1, cells := 0, slots := 0, locals := 22 } : Room) s m av below meth c H locs 0 0 Q (F0 m 2 ls []) := by
    intro n
    induction n with
    | zero =>
      intro x_1 g_2 H locs ls hm hP hD hS hl
      exact (fu0 hm hz).elim
    | succ n ih2 =>
      intro x_1 g_2 H locs ls hm hP hD hS hl
      replace hm := fus hm
      generalize fuel (m_X1_endRepeated_L2 v_o_count g_o_kind g_o_on g_o_serves p1 p2) n = rec_3 at hm ih2
      unfold m_X1_endRepeated_L2 at hm
      refine lv_iload_n hx hb dX1_endRepeated_2 rfl (lv_at hl 3 rfl) ?_
      refine lv_aload_n hx hb dX1_endRepeated_3 rfl (lv_at hl 0 rfl) ?_
      refine va_get (D := G) (ci := 3) (v := .int v_o_count) (C := RX1) (T := TX1) (N := 6) hx hb hts i_X1 hown hK.1 hP 0 rfl rfl 0 (by decide) w_0 (fun _ h9 => h9) rfl dX1_endRepeated_4 ?_
      refine lv_icmp_ge (tgt := 50) hx hb dX1_endRepeated_7 (by decide) (fun c_4 => ?_) (fun c_4 => ?_)
      · replace hm := it hm c_4
        exact hret _ _ g_2 _ _ dX1_endRepeated_50 hP hS hm.symm
      · replace hm := ie hm c_4
        refine lv_aload_n hx hb dX1_endRepeated_10 rfl (lv_at hl 0 rfl) ?_
        refine va_get (D := G) (ci := 3) (v := .ref o_lastDay) (C := RX1) (T := TX1) (N := 6) hx hb hts i_X1 hown hK.1 hP 0 rfl rfl 5 (by decide) w_1 (fun _ h9 => h9) rfl dX1_endRepeated_11 ?_
        refine lv_iload_n hx hb dX1_endRepeated_14 rfl (lv_at hl 3 rfl) ?_
        replace hm := gdo hm hz
        obtain ⟨gi_5, hm⟩ := hm
        refine va_iald hx hb hK.1 hP 4 0 (cA := cA 0) (n := 30) (f := g_2) rfl rfl (ixi gi_5) dX1_endRepeated_15 ?_
        refine lv_iconst (v := (-1 : Int32)) hx hb dX1_endRepeated_16 (by decide) ?_
        refine lv_icmp_ne (tgt := 44) hx hb dX1_endRepeated_17 (by decide) (fun c_6 => ?_) (fun c_6 => ?_)
        · replace hm := ie hm c_6
          refine lv_iinc (v := x_1 + (1 : Int32)) (lv' := [(3, .int (x_1 + (1 : Int32))), (0, .ref o), (1, .int p1), (2, .int p2)]) hx hb dX1_endRepeated_44 hl (k := 3) rfl rfl (by decide) rfl (fun ls hl => ?_)
          refine lv_goto (tgt := 2) hx hb dX1_endRepeated_47 (by decide) ?_
          exact ih2 (x_1 + (1 : Int32)) g_2 _ _ _ hm hP hD hS (lv_sub hl [1, 2, 3, 0] rfl)
        · replace hm := it hm c_6
          refine lv_aload_n hx hb dX1_endRepeated_20 rfl (lv_at hl 0 rfl) ?_
          refine lv_iload_n hx hb dX1_endRepeated_21 rfl (lv_at hl 3 rfl) ?_
          refine lv_iload_n hx hb dX1_endRepeated_22 rfl (lv_at hl 1 rfl) ?_
          refine vp_callSi (va_Run.run (va_runV (As := [.int x_1, .int p1]) (rest := []) ⟨hx, hb, hml, hown, hts⟩ (c_X1_touches l G cA o o_kind o_on o_serves o_firstDay o_lastDay x_1 p1 v_o_count g_o_on g_o_serves _ rfl (bnz hm hz)) (cwV 2 hts gX1_endRepeated_X1_touches rfl rfl rfl (by decide +kernel) ⟨Nat.le_of_ble_eq_true rfl, Nat.le_of_ble_eq_true rfl⟩) (preRV (q := (RX1, TX1, 6)) (hP.sub [0, 2, 3] rfl) hK 0 rfl rfl) rfl rfl hl.1 rfl (lv_room (Nat.le_of_ble_eq_true rfl)) dX1_endRepeated_23 ⟨Nat.zero_le _, Nat.zero_le _⟩)) (fun r_7 hw => ?_)
          replace hm := bst hm hw.1
          refine lv_if_eq (tgt := 44) hx hb dX1_endRepeated_26 (by decide) (fun c_8 => ?_) (fun c_8 => ?_)
          · replace hm := it hm c_8
            refine lv_iinc (v := x_1 + (1 : Int32)) (lv' := [(3, .int (x_1 + (1 : Int32))), (0, .ref o), (1, .int p1), (2, .int p2)]) hx hb dX1_endRepeated_44 hl (k := 3) rfl rfl (by decide) rfl (fun ls hl => ?_)
            refine lv_goto (tgt := 2) hx hb dX1_endRepeated_47 (by decide) ?_
            exact ih2 (x_1 + (1 : Int32)) g_2 _ _ _ hm hP hD hS (lv_sub hl [1, 2, 3, 0] rfl)
          · replace hm := ie hm c_8
            refine lv_aload_n hx hb dX1_endRepeated_29 rfl (lv_at hl 0 rfl) ?_
            refine lv_iload_n hx hb dX1_endRepeated_30 rfl (lv_at hl 3 rfl) ?_
            refine vp_callSi (va_Run.run (va_runV (As := [.int x_1]) (rest := []) ⟨hx, hb, hml, hown, hts⟩ (c_X1_hasTwinAhead l G cA o o_kind o_on o_serves o_firstDay o_lastDay x_1 v_o_count g_o_kind g_o_on g_o_serves g_2 _ rfl (bnz hm hz)) (cwV 1 hts gX1_endRepeated_X1_hasTwinAhead rfl rfl rfl (by decide +kernel) ⟨Nat.le_of_ble_eq_true rfl, Nat.le_of_ble_eq_true rfl⟩) (preRV (q := (RX1, TX1, 6)) (hP.sub [0, 1, 2, 3, 4] rfl) hK 0 rfl rfl) rfl rfl hl.1 rfl (lv_room (Nat.le_of_ble_eq_true rfl)) dX1_endRepeated_31 ⟨Nat.zero_le _, Nat.zero_le _⟩)) (fun r_9 hw => ?_)
            replace hm := bst hm hw.1
            refine lv_if_eq (tgt := 44) hx hb dX1_endRepeated_34 (by decide) (fun c_10 => ?_) (fun c_10 => ?_)
            · replace hm := it hm c_10
              refine lv_iinc (v := x_1 + (1 : Int32)) (lv' := [(3, .int (x_1 + (1 : Int32))), (0, .ref o), (1, .int p1), (2, .int p2)]) hx hb dX1_endRepeated_44 hl (k := 3) rfl rfl (by decide) rfl (fun ls hl => ?_)
              refine lv_goto (tgt := 2) hx hb dX1_endRepeated_47 (by decide) ?_
              exact ih2 (x_1 + (1 : Int32)) g_2 _ _ _ hm hP hD hS (lv_sub hl [1, 2, 3, 0] rfl)
            · replace hm := ie hm c_10
              refine lv_aload_n hx hb dX1_endRepeated_37 rfl (lv_at hl 0 rfl) ?_
              refine va_get (D := G) (ci := 3) (v := .ref o_lastDay) (C := RX1) (T := TX1) (N := 6) hx hb hts i_X1 hown hK.1 hP 0 rfl rfl 5 (by decide) w_1 (fun _ h9 => h9) rfl dX1_endRepeated_38 ?_
              refine lv_iload_n hx hb dX1_endRepeated_41 rfl (lv_at hl 3 rfl) ?_
              refine lv_iload_n hx hb dX1_endRepeated_42 rfl (lv_at hl 2 rfl) ?_
              replace hm := gdo hm hz
              obtain ⟨gi_11, hm⟩ := hm
              refine va_iast hx hb hK.1 hP hD hS 4 0 (cA := cA 0) (n := 30) (f := g_2) rfl rfl (ixi gi_11) dX1_endRepeated_43 (fun H locs hP' hD' hS' => ?_)
              replace hP : va_P G vwCl (k_X1_endRepeated cA o o_kind o_on o_serves o_firstDay o_lastDay v_o_count g_o_kind g_o_on g_o_serves (upd g_2 x_1.toNatClampNeg p2)) H := hP'
              replace hD : va_D A (k_X1_endRepeated cA o o_kind o_on o_serves o_firstDay o_lastDay v_o_count g_o_kind g_o_on g_o_serves (upd g_2 x_1.toNatClampNeg p2)) := hD'
              replace hS := hS'
              refine lv_iinc (v := x_1 + (1 : Int32)) (lv' := [(3, .int (x_1 + (1 : Int32))), (0, .ref o), (1, .int p1), (2, .int p2)]) hx hb dX1_endRepeated_44 hl (k := 3) rfl rfl (by decide) rfl (fun ls hl => ?_)
              refine lv_goto (tgt := 2) hx hb dX1_endRepeated_47 (by decide) ?_
              exact ih2 (x_1 + (1 : Int32)) (upd g_2 x_1.toNatClampNeg p2) _ _ _ hm hP hD hS (lv_sub hl [1, 2, 3, 0] rfl)
  exact L2_1 _ (0 : Int32) g_o_lastDay _ _ _ hm hP hD hS (lv_sub hl [1, 2, 3, 0] rfl)
def m_X1_followMerge_J135 (v_o_count : Int32) (g_o_kind : Nat → Int32) (p3 : Int32) (p4 : Int32) : ((Nat → Int32) × (Nat → Int32) × (Nat → Int32)) → Option ((Nat → Int32) × (Nat → Int32) × (Nat → Int32)) := fun v => match v with
  | (g_1, g_2, g_3) => Option.bind (m_X1_endRepeated p3 p4 v_o_count g_o_kind g_1 g_2 g_3) (fun g_4 => some (g_1, g_2, g_4))
def m_X1_followMerge_J102 (p4 : Int32) (x_5 : Int32) (g_6 : Nat → Int32) (g_7 : Nat → Int32) (g_8 : Nat → Int32) (rec_9 : (Int32 × (Nat → Int32) × (Nat → Int32) × (Nat → Int32)) → Option ((Nat → Int32) × (Nat → Int32) × (Nat → Int32))) (y_14 : Int32) : (Int32) → Option ((Nat → Int32) × (Nat → Int32) × (Nat → Int32)) := fun y_17 => gd (ix x_5 30) (gd (ix x_5 30) (gd (ix x_5 30) ((if ((upd g_6 x_5.toNatClampNeg y_14) x_5.toNatClampNeg) = ((upd g_7 x_5.toNatClampNeg y_17) x_5.toNatClampNeg) then gd (ix x_5 30) (rec_9 (x_5 + (1 : Int32), upd g_6 x_5.toNatClampNeg y_14, upd g_7 x_5.toNatClampNeg y_17, upd g_8 x_5.toNatClampNeg p4)) else rec_9 (x_5 + (1 : Int32), upd g_6 x_5.toNatClampNeg y_14, upd g_7 x_5.toNatClampNeg y_17, g_8)))))
def m_X1_followMerge_J62 (p1 : Int32) (p2 : Int32) (p3 : Int32) (p4 : Int32) (x_5 : Int32) (g_6 : Nat → Int32) (g_7 : Nat → Int32) (g_8 : Nat → Int32) (rec_9 : (Int32 × (Nat → Int32) × (Nat → Int32) × (Nat → Int32)) → Option ((Nat → Int32) × (Nat → Int32) × (Nat → Int32))) : (Int32) → Option ((Nat → Int32) × (Nat → Int32) × (Nat → Int32)) := fun y_14 => gd (ix x_5 30) (gd (ix x_5 30) ((if (g_7 x_5.toNatClampNeg) = p1 then m_X1_followMerge_J102 p4 x_5 g_6 g_7 g_8 rec_9 y_14 p3 else gd (ix x_5 30) ((if (g_7 x_5.toNatClampNeg) = p2 then m_X1_followMerge_J102 p4 x_5 g_6 g_7 g_8 rec_9 y_14 p3 else gd (ix x_5 30) (m_X1_followMerge_J102 p4 x_5 g_6 g_7 g_8 rec_9 y_14 (g_7 x_5.toNatClampNeg)))))))
def m_X1_followMerge_L3 (v_o_count : Int32) (g_o_kind : Nat → Int32) (p1 : Int32) (p2 : Int32) (p3 : Int32) (p4 : Int32) : ((Int32 × (Nat → Int32) × (Nat → Int32) × (Nat → Int32)) → Option ((Nat → Int32) × (Nat → Int32) × (Nat → Int32))) → (Int32 × (Nat → Int32) × (Nat → Int32) × (Nat → Int32)) → Option ((Nat → Int32) × (Nat → Int32) × (Nat → Int32)) := fun rec_9 v => match v with
  | (x_5, g_6, g_7, g_8) => (if v_o_count ≤ x_5 then m_X1_followMerge_J135 v_o_count g_o_kind p3 p4 (g_6, g_7, g_8) else gd (ix x_5 30) ((if (g_8 x_5.toNatClampNeg) = (-1 : Int32) then gd (ix x_5 30) ((if (g_6 x_5.toNatClampNeg) = p1 then m_X1_followMerge_J62 p1 p2 p3 p4 x_5 g_6 g_7 g_8 rec_9 p3 else gd (ix x_5 30) ((if (g_6 x_5.toNatClampNeg) = p2 then m_X1_followMerge_J62 p1 p2 p3 p4 x_5 g_6 g_7 g_8 rec_9 p3 else gd (ix x_5 30) (m_X1_followMerge_J62 p1 p2 p3 p4 x_5 g_6 g_7 g_8 rec_9 (g_6 x_5.toNatClampNeg)))))) else rec_9 (x_5 + (1 : Int32), g_6, g_7, g_8))))
def m_X1_followMerge (p1 : Int32) (p2 : Int32) (p3 : Int32) (p4 : Int32) (v_o_count : Int32) (g_o_kind : Nat → Int32) (g_o_on : Nat → Int32) (g_o_serves : Nat → Int32) (g_o_lastDay : Nat → Int32) : Option ((Nat → Int32) × (Nat → Int32) × (Nat → Int32)) := fuel (m_X1_followMerge_L3 v_o_count g_o_kind p1 p2 p3 p4) FU ((0 : Int32), g_o_on, g_o_serves, g_o_lastDay)
abbrev k_X1_followMerge (cA : Nat → ClassId) (o o_kind o_on o_serves o_firstDay o_lastDay : Nat) (v_o_count : Int32) (g_o_kind : Nat → Int32) (g_o_on : Nat → Int32) (g_o_serves : Nat → Int32) (g_o_lastDay : Nat → Int32) : va_W := [(o, .inr (3, [.int v_o_count, .ref o_kind, .ref o_on, .ref o_serves, .ref o_firstDay, .ref o_lastDay])), (o_kind, .inl (cA 0, 30, .inl g_o_kind)), (o_on, .inl (cA 0, 30, .inl g_o_on)), (o_serves, .inl (cA 0, 30, .inl g_o_serves)), (o_lastDay, .inl (cA 0, 30, .inl g_o_lastDay))]
set_option maxHeartbeats 4000000 in
set_option maxRecDepth 100000 in
/-- X1_followMerge: as its model -/
theorem c_X1_followMerge (l : Launch) (G : va_G) (cA : Nat → ClassId) (o o_kind o_on o_serves o_firstDay o_lastDay : Nat) (sz : Nat) (p1 : Int32) (p2 : Int32) (p3 : Int32) (p4 : Int32) (v_o_count : Int32) (g_o_kind : Nat → Int32) (g_o_on : Nat → Int32) (g_o_serves : Nat → Int32) (g_o_lastDay : Nat → Int32) (R : Option ((Nat → Int32) × (Nat → Int32) × (Nat → Int32))) (hR : m_X1_followMerge p1 p2 p3 p4 v_o_count g_o_kind g_o_on g_o_serves g_o_lastDay = R) (hz : R ≠ none) : Met l yX1_followMerge wsX1_followMerge ({ frames := 2, cells := 0, slots := 0, locals := 45 } : Room) (va_Pc [.ref o, .int p1, .int p2, .int p3, .int p4] (PM G cA (k_X1_followMerge cA o o_kind o_on o_serves o_firstDay o_lastDay v_o_count g_o_kind g_o_on g_o_serves g_o_lastDay) sz)) (va_Qv (fun (u : (Nat → Int32) × (Nat → Int32) × (Nat → Int32)) => R = some u) (BM G (fun (u : (Nat → Int32) × (Nat → Int32) × (Nat → Int32)) => (k_X1_followMerge cA o o_kind o_on o_serves o_firstDay o_lastDay v_o_count g_o_kind u.1 u.2.1 u.2.2))) (va_A (k_X1_followMerge cA o o_kind o_on o_serves o_firstDay o_lastDay v_o_count g_o_kind g_o_on g_o_serves g_o_lastDay) sz)) 0 0 (va_A (k_X1_followMerge cA o o_kind o_on o_serves o_firstDay o_lastDay v_o_count g_o_kind g_o_on g_o_serves g_o_lastDay) sz) := by
  refine metV (by decide) rfl (Nat.le_of_ble_eq_true rfl) ?_
  intro p e s m av below meth c Q ls A H hx hb hml hts hown hP hK hD hA hS hl hret
  replace hl : lv_has ls 6 [(0, .ref o), (1, .int p1), (2, .int p2), (3, .int p3), (4, .int p4)] := hl
  have w_0 := hts (.fieldLink RX1 9 "ParcelRegistry$Easements" "count" "I") (by decide +kernel)
  have w_1 := hts (.fieldLink RX1 28 "ParcelRegistry$Easements" "lastDay" "[I") (by decide +kernel)
  have w_2 := hts (.fieldLink RX1 19 "ParcelRegistry$Easements" "on" "[I") (by decide +kernel)
  have w_3 := hts (.fieldLink RX1 22 "ParcelRegistry$Easements" "serves" "[I") (by decide +kernel)
  have i_X1 : ∀ w ∈ wsX10, w ∈ wsX1_followMerge := by decide +kernel
  have hm := hR
  unfold m_X1_followMerge at hm
  refine lv_iconst (v := (0 : Int32)) hx hb dX1_followMerge_0 (by decide) ?_
  refine lv_istore (lv' := [(5, .int (0 : Int32)), (0, .ref o), (1, .int p1), (2, .int p2), (3, .int p3), (4, .int p4)]) hx hb dX1_followMerge_1 hl (by decide) rfl (fun ls hl => ?_)
  have J135_1 : ∀ (g_1 : Nat → Int32) (g_2 : Nat → Int32) (g_3 : Nat → Int32), ∀ (H : Heap) (locs : List Loc) (ls : Array Slot), m_X1_followMerge_J135 v_o_count g_o_kind p3 p4 (g_1, g_2, g_3) = R → va_P G vwCl (k_X1_followMerge cA o o_kind o_on o_serves o_firstDay o_lastDay v_o_count g_o_kind g_1 g_2 g_3) H → va_D A (k_X1_followMerge cA o o_kind o_on o_serves o_firstDay o_lastDay v_o_count g_o_kind g_1 g_2 g_3) → va_S A s.heap H locs → lv_has ls 6 [(0, .ref o), (3, .int p3), (4, .int p4)] → W p l e ({ frames := 2, cells := 0, slots := 0, locals := 45 } : Room) s m av below meth c H locs 0 0 Q (F0 m 135 ls []) := by
    intro g_1 g_2 g_3 H locs ls hm hP hD hS hl
    unfold m_X1_followMerge_J135 at hm
    refine lv_aload_n hx hb dX1_followMerge_135 rfl (lv_at hl 0 rfl) ?_
    refine lv_iload_n hx hb dX1_followMerge_136 rfl (lv_at hl 1 rfl) ?_
    refine lv_iload hx hb dX1_followMerge_137 (lv_at hl 2 rfl) ?_
    have hPc := hP.sub (ws' := (k_X1_endRepeated cA o o_kind o_on o_serves o_firstDay o_lastDay v_o_count g_o_kind g_1 g_2 g_3)) [0, 1, 2, 3, 4] rfl
    have hDc := hD.sub (ws' := (k_X1_endRepeated cA o o_kind o_on o_serves o_firstDay o_lastDay v_o_count g_o_kind g_1 g_2 g_3)) [0, 1, 2, 3, 4] (by decide) rfl
    have hFc := va_free (wc := (k_X1_endRepeated cA o o_kind o_on o_serves o_firstDay o_lastDay v_o_count g_o_kind g_1 g_2 g_3)) hD hS hA [0, 1, 2, 3, 4] rfl
    refine va_callv (va_runV (As := [.int p3, .int p4]) (rest := []) ⟨hx, hb, hml, hown, hts⟩ (c_X1_endRepeated l G cA o o_kind o_on o_serves o_firstDay o_lastDay H.size p3 p4 v_o_count g_o_kind g_1 g_2 g_3 _ rfl (bnz hm hz)) (cwV 2 hts gX1_followMerge_X1_endRepeated rfl rfl rfl (by decide +kernel) ⟨Nat.le_of_ble_eq_true rfl, Nat.le_of_ble_eq_true rfl⟩) (preMV (q := (RX1, TX1, 6)) hPc hDc hK 0 rfl rfl) rfl rfl hl.1 rfl (lv_room (Nat.le_of_ble_eq_true rfl)) dX1_followMerge_139 ⟨Nat.zero_le _, Nat.zero_le _⟩) hS (fun q _ h => hFc q h) hFc (fun u_4 t H locs ht hvm hw hB hz1 hk1 hS' => ?_)
    obtain ⟨g_4, rfl⟩ : ∃ z, z = u_4 := ⟨_, rfl⟩
    replace hm := bst hm hw
    replace hB : va_P G vwCl _ _ := hB
    rw [ht] at hB
    have hj := va_back (ws' := (k_X1_followMerge cA o o_kind o_on o_serves o_firstDay o_lastDay v_o_count g_o_kind g_1 g_2 g_4)) hP hD [0, 1, 2, 3, 4] rfl hk1 hB [(true, 0), (true, 1), (true, 2), (true, 3), (true, 4)] rfl (by decide) rfl
    replace hP := hj.1
    replace hD := hj.2
    replace hS := hS'
    clear hj hPc hDc hFc hB
    exact hret _ _ (g_1, g_2, g_4) _ _ dX1_followMerge_142 hP hS hm.symm
  have L3_4 : ∀ (n : Nat), ∀ (x_5 : Int32) (g_6 : Nat → Int32) (g_7 : Nat → Int32) (g_8 : Nat → Int32), ∀ (H : Heap) (locs : List Loc) (ls : Array Slot), fuel (m_X1_followMerge_L3 v_o_count g_o_kind p1 p2 p3 p4) n (x_5, g_6, g_7, g_8) = R → va_P G vwCl (k_X1_followMerge cA o o_kind o_on o_serves o_firstDay o_lastDay v_o_count g_o_kind g_6 g_7 g_8) H → va_D A (k_X1_followMerge cA o o_kind o_on o_serves o_firstDay o_lastDay v_o_count g_o_kind g_6 g_7 g_8) → va_S A s.heap H locs → lv_has ls 6 [(0, .ref o), (1, .int p1), (2, .int p2), (3, .int p3), (4, .int p4), (5, .int x_5)] → W p l e ({ frames := 2, cells := 0, slots := 0, locals := 45 } : Room) s m av below meth c H locs 0 0 Q (F0 m 3 ls []) := by
    intro n
    induction n with
    | zero =>
      intro x_5 g_6 g_7 g_8 H locs ls hm hP hD hS hl
      exact (fu0 hm hz).elim
    | succ n ih3 =>
      intro x_5 g_6 g_7 g_8 H locs ls hm hP hD hS hl
      replace hm := fus hm
      generalize fuel (m_X1_followMerge_L3 v_o_count g_o_kind p1 p2 p3 p4) n = rec_9 at hm ih3
      unfold m_X1_followMerge_L3 at hm
      refine lv_iload hx hb dX1_followMerge_3 (lv_at hl 5 rfl) ?_
      refine lv_aload_n hx hb dX1_followMerge_5 rfl (lv_at hl 0 rfl) ?_
      refine va_get (D := G) (ci := 3) (v := .int v_o_count) (C := RX1) (T := TX1) (N := 6) hx hb hts i_X1 hown hK.1 hP 0 rfl rfl 0 (by decide) w_0 (fun _ h9 => h9) rfl dX1_followMerge_6 ?_
      refine lv_icmp_ge (tgt := 135) hx hb dX1_followMerge_9 (by decide) (fun c_10 => ?_) (fun c_10 => ?_)
      · replace hm := it hm c_10
        exact J135_1 g_6 g_7 g_8 _ _ _ hm hP hD hS (lv_sub hl [0, 3, 4] rfl)
      · replace hm := ie hm c_10
        refine lv_aload_n hx hb dX1_followMerge_12 rfl (lv_at hl 0 rfl) ?_
        refine va_get (D := G) (ci := 3) (v := .ref o_lastDay) (C := RX1) (T := TX1) (N := 6) hx hb hts i_X1 hown hK.1 hP 0 rfl rfl 5 (by decide) w_1 (fun _ h9 => h9) rfl dX1_followMerge_13 ?_
        refine lv_iload hx hb dX1_followMerge_16 (lv_at hl 5 rfl) ?_
        replace hm := gdo hm hz
        obtain ⟨gi_11, hm⟩ := hm
        refine va_iald hx hb hK.1 hP 4 0 (cA := cA 0) (n := 30) (f := g_8) rfl rfl (ixi gi_11) dX1_followMerge_18 ?_
        refine lv_iconst (v := (-1 : Int32)) hx hb dX1_followMerge_19 (by decide) ?_
        refine lv_icmp_ne (tgt := 129) hx hb dX1_followMerge_20 (by decide) (fun c_12 => ?_) (fun c_12 => ?_)
        · replace hm := ie hm c_12
          refine lv_iinc (v := x_5 + (1 : Int32)) (lv' := [(5, .int (x_5 + (1 : Int32))), (0, .ref o), (1, .int p1), (2, .int p2), (3, .int p3), (4, .int p4)]) hx hb dX1_followMerge_129 hl (k := 5) rfl rfl (by decide) rfl (fun ls hl => ?_)
          refine lv_goto (tgt := 3) hx hb dX1_followMerge_132 (by decide) ?_
          exact ih3 (x_5 + (1 : Int32)) g_6 g_7 g_8 _ _ _ hm hP hD hS (lv_sub hl [1, 2, 3, 4, 5, 0] rfl)
        · replace hm := it hm c_12
          refine lv_aload_n hx hb dX1_followMerge_23 rfl (lv_at hl 0 rfl) ?_
          refine va_get (D := G) (ci := 3) (v := .ref o_on) (C := RX1) (T := TX1) (N := 6) hx hb hts i_X1 hown hK.1 hP 0 rfl rfl 2 (by decide) w_2 (fun _ h9 => h9) rfl dX1_followMerge_24 ?_
          refine lv_iload hx hb dX1_followMerge_27 (lv_at hl 5 rfl) ?_
          refine lv_aload_n hx hb dX1_followMerge_29 rfl (lv_at hl 0 rfl) ?_
          refine va_get (D := G) (ci := 3) (v := .ref o_on) (C := RX1) (T := TX1) (N := 6) hx hb hts i_X1 hown hK.1 hP 0 rfl rfl 2 (by decide) w_2 (fun _ h9 => h9) rfl dX1_followMerge_30 ?_
          refine lv_iload hx hb dX1_followMerge_33 (lv_at hl 5 rfl) ?_
          replace hm := gdo hm hz
          obtain ⟨gi_13, hm⟩ := hm
          refine va_iald hx hb hK.1 hP 2 0 (cA := cA 0) (n := 30) (f := g_6) rfl rfl (ixi gi_13) dX1_followMerge_35 ?_
          refine lv_iload_n hx hb dX1_followMerge_36 rfl (lv_at hl 1 rfl) ?_
          have J62_3 : ∀ (y_14 : Int32), ∀ (H : Heap) (locs : List Loc) (ls : Array Slot), m_X1_followMerge_J62 p1 p2 p3 p4 x_5 g_6 g_7 g_8 rec_9 y_14 = R → va_P G vwCl (k_X1_followMerge cA o o_kind o_on o_serves o_firstDay o_lastDay v_o_count g_o_kind g_6 g_7 g_8) H → va_D A (k_X1_followMerge cA o o_kind o_on o_serves o_firstDay o_lastDay v_o_count g_o_kind g_6 g_7 g_8) → va_S A s.heap H locs → lv_has ls 6 [(0, .ref o), (1, .int p1), (2, .int p2), (3, .int p3), (4, .int p4), (5, .int x_5)] → W p l e ({ frames := 2, cells := 0, slots := 0, locals := 45 } : Room) s m av below meth c H locs 0 0 Q (F0 m 62 ls [.int y_14, .int x_5, .ref o_on]) := by
            intro y_14 H locs ls hm hP hD hS hl
            unfold m_X1_followMerge_J62 at hm
            replace hm := gdo hm hz
            obtain ⟨gi_15, hm⟩ := hm
            refine va_iast hx hb hK.1 hP hD hS 2 0 (cA := cA 0) (n := 30) (f := g_6) rfl rfl (ixi gi_15) dX1_followMerge_62 (fun H locs hP' hD' hS' => ?_)
            replace hP : va_P G vwCl (k_X1_followMerge cA o o_kind o_on o_serves o_firstDay o_lastDay v_o_count g_o_kind (upd g_6 x_5.toNatClampNeg y_14) g_7 g_8) H := hP'
            replace hD : va_D A (k_X1_followMerge cA o o_kind o_on o_serves o_firstDay o_lastDay v_o_count g_o_kind (upd g_6 x_5.toNatClampNeg y_14) g_7 g_8) := hD'
            replace hS := hS'
            refine lv_aload_n hx hb dX1_followMerge_63 rfl (lv_at hl 0 rfl) ?_
            refine va_get (D := G) (ci := 3) (v := .ref o_serves) (C := RX1) (T := TX1) (N := 6) hx hb hts i_X1 hown hK.1 hP 0 rfl rfl 3 (by decide) w_3 (fun _ h9 => h9) rfl dX1_followMerge_64 ?_
            refine lv_iload hx hb dX1_followMerge_67 (lv_at hl 5 rfl) ?_
            refine lv_aload_n hx hb dX1_followMerge_69 rfl (lv_at hl 0 rfl) ?_
            refine va_get (D := G) (ci := 3) (v := .ref o_serves) (C := RX1) (T := TX1) (N := 6) hx hb hts i_X1 hown hK.1 hP 0 rfl rfl 3 (by decide) w_3 (fun _ h9 => h9) rfl dX1_followMerge_70 ?_
            refine lv_iload hx hb dX1_followMerge_73 (lv_at hl 5 rfl) ?_
            replace hm := gdo hm hz
            obtain ⟨gi_16, hm⟩ := hm
            refine va_iald hx hb hK.1 hP 3 0 (cA := cA 0) (n := 30) (f := g_7) rfl rfl (ixi gi_16) dX1_followMerge_75 ?_
            refine lv_iload_n hx hb dX1_followMerge_76 rfl (lv_at hl 1 rfl) ?_
            have J102_2 : ∀ (y_17 : Int32), ∀ (H : Heap) (locs : List Loc) (ls : Array Slot), m_X1_followMerge_J102 p4 x_5 g_6 g_7 g_8 rec_9 y_14 y_17 = R → va_P G vwCl (k_X1_followMerge cA o o_kind o_on o_serves o_firstDay o_lastDay v_o_count g_o_kind (upd g_6 x_5.toNatClampNeg y_14) g_7 g_8) H → va_D A (k_X1_followMerge cA o o_kind o_on o_serves o_firstDay o_lastDay v_o_count g_o_kind (upd g_6 x_5.toNatClampNeg y_14) g_7 g_8) → va_S A s.heap H locs → lv_has ls 6 [(0, .ref o), (1, .int p1), (2, .int p2), (3, .int p3), (4, .int p4), (5, .int x_5)] → W p l e ({ frames := 2, cells := 0, slots := 0, locals := 45 } : Room) s m av below meth c H locs 0 0 Q (F0 m 102 ls [.int y_17, .int x_5, .ref o_serves]) := by
              intro y_17 H locs ls hm hP hD hS hl
              unfold m_X1_followMerge_J102 at hm
              replace hm := gdo hm hz
              obtain ⟨gi_18, hm⟩ := hm
              refine va_iast hx hb hK.1 hP hD hS 3 0 (cA := cA 0) (n := 30) (f := g_7) rfl rfl (ixi gi_18) dX1_followMerge_102 (fun H locs hP' hD' hS' => ?_)
              replace hP : va_P G vwCl (k_X1_followMerge cA o o_kind o_on o_serves o_firstDay o_lastDay v_o_count g_o_kind (upd g_6 x_5.toNatClampNeg y_14) (upd g_7 x_5.toNatClampNeg y_17) g_8) H := hP'
              replace hD : va_D A (k_X1_followMerge cA o o_kind o_on o_serves o_firstDay o_lastDay v_o_count g_o_kind (upd g_6 x_5.toNatClampNeg y_14) (upd g_7 x_5.toNatClampNeg y_17) g_8) := hD'
              replace hS := hS'
              refine lv_aload_n hx hb dX1_followMerge_103 rfl (lv_at hl 0 rfl) ?_
              refine va_get (D := G) (ci := 3) (v := .ref o_on) (C := RX1) (T := TX1) (N := 6) hx hb hts i_X1 hown hK.1 hP 0 rfl rfl 2 (by decide) w_2 (fun _ h9 => h9) rfl dX1_followMerge_104 ?_
              refine lv_iload hx hb dX1_followMerge_107 (lv_at hl 5 rfl) ?_
              replace hm := gdo hm hz
              obtain ⟨gi_19, hm⟩ := hm
              refine va_iald hx hb hK.1 hP 2 0 (cA := cA 0) (n := 30) (f := upd g_6 x_5.toNatClampNeg y_14) rfl rfl (ixi gi_19) dX1_followMerge_109 ?_
              refine lv_aload_n hx hb dX1_followMerge_110 rfl (lv_at hl 0 rfl) ?_
              refine va_get (D := G) (ci := 3) (v := .ref o_serves) (C := RX1) (T := TX1) (N := 6) hx hb hts i_X1 hown hK.1 hP 0 rfl rfl 3 (by decide) w_3 (fun _ h9 => h9) rfl dX1_followMerge_111 ?_
              refine lv_iload hx hb dX1_followMerge_114 (lv_at hl 5 rfl) ?_
              replace hm := gdo hm hz
              obtain ⟨gi_20, hm⟩ := hm
              refine va_iald hx hb hK.1 hP 3 0 (cA := cA 0) (n := 30) (f := upd g_7 x_5.toNatClampNeg y_17) rfl rfl (ixi gi_20) dX1_followMerge_116 ?_
              refine lv_icmp_ne (tgt := 129) hx hb dX1_followMerge_117 (by decide) (fun c_21 => ?_) (fun c_21 => ?_)
              · replace hm := ie hm c_21
                refine lv_iinc (v := x_5 + (1 : Int32)) (lv' := [(5, .int (x_5 + (1 : Int32))), (0, .ref o), (1, .int p1), (2, .int p2), (3, .int p3), (4, .int p4)]) hx hb dX1_followMerge_129 hl (k := 5) rfl rfl (by decide) rfl (fun ls hl => ?_)
                refine lv_goto (tgt := 3) hx hb dX1_followMerge_132 (by decide) ?_
                exact ih3 (x_5 + (1 : Int32)) (upd g_6 x_5.toNatClampNeg y_14) (upd g_7 x_5.toNatClampNeg y_17) g_8 _ _ _ hm hP hD hS (lv_sub hl [1, 2, 3, 4, 5, 0] rfl)
              · replace hm := it hm c_21
                refine lv_aload_n hx hb dX1_followMerge_120 rfl (lv_at hl 0 rfl) ?_
                refine va_get (D := G) (ci := 3) (v := .ref o_lastDay) (C := RX1) (T := TX1) (N := 6) hx hb hts i_X1 hown hK.1 hP 0 rfl rfl 5 (by decide) w_1 (fun _ h9 => h9) rfl dX1_followMerge_121 ?_
                refine lv_iload hx hb dX1_followMerge_124 (lv_at hl 5 rfl) ?_
                refine lv_iload hx hb dX1_followMerge_126 (lv_at hl 4 rfl) ?_
                replace hm := gdo hm hz
                obtain ⟨gi_22, hm⟩ := hm
                refine va_iast hx hb hK.1 hP hD hS 4 0 (cA := cA 0) (n := 30) (f := g_8) rfl rfl (ixi gi_22) dX1_followMerge_128 (fun H locs hP' hD' hS' => ?_)
                replace hP : va_P G vwCl (k_X1_followMerge cA o o_kind o_on o_serves o_firstDay o_lastDay v_o_count g_o_kind (upd g_6 x_5.toNatClampNeg y_14) (upd g_7 x_5.toNatClampNeg y_17) (upd g_8 x_5.toNatClampNeg p4)) H := hP'
                replace hD : va_D A (k_X1_followMerge cA o o_kind o_on o_serves o_firstDay o_lastDay v_o_count g_o_kind (upd g_6 x_5.toNatClampNeg y_14) (upd g_7 x_5.toNatClampNeg y_17) (upd g_8 x_5.toNatClampNeg p4)) := hD'
                replace hS := hS'
                refine lv_iinc (v := x_5 + (1 : Int32)) (lv' := [(5, .int (x_5 + (1 : Int32))), (0, .ref o), (1, .int p1), (2, .int p2), (3, .int p3), (4, .int p4)]) hx hb dX1_followMerge_129 hl (k := 5) rfl rfl (by decide) rfl (fun ls hl => ?_)
                refine lv_goto (tgt := 3) hx hb dX1_followMerge_132 (by decide) ?_
                exact ih3 (x_5 + (1 : Int32)) (upd g_6 x_5.toNatClampNeg y_14) (upd g_7 x_5.toNatClampNeg y_17) (upd g_8 x_5.toNatClampNeg p4) _ _ _ hm hP hD hS (lv_sub hl [1, 2, 3, 4, 5, 0] rfl)
            refine lv_icmp_eq (tgt := 91) hx hb dX1_followMerge_77 (by decide) (fun c_23 => ?_) (fun c_23 => ?_)
            · replace hm := it hm c_23
              refine lv_iload_n hx hb dX1_followMerge_91 rfl (lv_at hl 3 rfl) ?_
              refine lv_goto (tgt := 102) hx hb dX1_followMerge_92 (by decide) ?_
              exact J102_2 p3 _ _ _ hm hP hD hS (lv_sub hl [0, 1, 2, 3, 4, 5] rfl)
            · replace hm := ie hm c_23
              refine lv_aload_n hx hb dX1_followMerge_80 rfl (lv_at hl 0 rfl) ?_
              refine va_get (D := G) (ci := 3) (v := .ref o_serves) (C := RX1) (T := TX1) (N := 6) hx hb hts i_X1 hown hK.1 hP 0 rfl rfl 3 (by decide) w_3 (fun _ h9 => h9) rfl dX1_followMerge_81 ?_
              refine lv_iload hx hb dX1_followMerge_84 (lv_at hl 5 rfl) ?_
              replace hm := gdo hm hz
              obtain ⟨gi_24, hm⟩ := hm
              refine va_iald hx hb hK.1 hP 3 0 (cA := cA 0) (n := 30) (f := g_7) rfl rfl (ixi gi_24) dX1_followMerge_86 ?_
              refine lv_iload_n hx hb dX1_followMerge_87 rfl (lv_at hl 2 rfl) ?_
              refine lv_icmp_ne (tgt := 95) hx hb dX1_followMerge_88 (by decide) (fun c_25 => ?_) (fun c_25 => ?_)
              · replace hm := ie hm c_25
                refine lv_aload_n hx hb dX1_followMerge_95 rfl (lv_at hl 0 rfl) ?_
                refine va_get (D := G) (ci := 3) (v := .ref o_serves) (C := RX1) (T := TX1) (N := 6) hx hb hts i_X1 hown hK.1 hP 0 rfl rfl 3 (by decide) w_3 (fun _ h9 => h9) rfl dX1_followMerge_96 ?_
                refine lv_iload hx hb dX1_followMerge_99 (lv_at hl 5 rfl) ?_
                replace hm := gdo hm hz
                obtain ⟨gi_26, hm⟩ := hm
                refine va_iald hx hb hK.1 hP 3 0 (cA := cA 0) (n := 30) (f := g_7) rfl rfl (ixi gi_26) dX1_followMerge_101 ?_
                exact J102_2 (g_7 x_5.toNatClampNeg) _ _ _ hm hP hD hS (lv_sub hl [0, 1, 2, 3, 4, 5] rfl)
              · replace hm := it hm c_25
                refine lv_iload_n hx hb dX1_followMerge_91 rfl (lv_at hl 3 rfl) ?_
                refine lv_goto (tgt := 102) hx hb dX1_followMerge_92 (by decide) ?_
                exact J102_2 p3 _ _ _ hm hP hD hS (lv_sub hl [0, 1, 2, 3, 4, 5] rfl)
          refine lv_icmp_eq (tgt := 51) hx hb dX1_followMerge_37 (by decide) (fun c_27 => ?_) (fun c_27 => ?_)
          · replace hm := it hm c_27
            refine lv_iload_n hx hb dX1_followMerge_51 rfl (lv_at hl 3 rfl) ?_
            refine lv_goto (tgt := 62) hx hb dX1_followMerge_52 (by decide) ?_
            exact J62_3 p3 _ _ _ hm hP hD hS (lv_sub hl [0, 1, 2, 3, 4, 5] rfl)
          · replace hm := ie hm c_27
            refine lv_aload_n hx hb dX1_followMerge_40 rfl (lv_at hl 0 rfl) ?_
            refine va_get (D := G) (ci := 3) (v := .ref o_on) (C := RX1) (T := TX1) (N := 6) hx hb hts i_X1 hown hK.1 hP 0 rfl rfl 2 (by decide) w_2 (fun _ h9 => h9) rfl dX1_followMerge_41 ?_
            refine lv_iload hx hb dX1_followMerge_44 (lv_at hl 5 rfl) ?_
            replace hm := gdo hm hz
            obtain ⟨gi_28, hm⟩ := hm
            refine va_iald hx hb hK.1 hP 2 0 (cA := cA 0) (n := 30) (f := g_6) rfl rfl (ixi gi_28) dX1_followMerge_46 ?_
            refine lv_iload_n hx hb dX1_followMerge_47 rfl (lv_at hl 2 rfl) ?_
            refine lv_icmp_ne (tgt := 55) hx hb dX1_followMerge_48 (by decide) (fun c_29 => ?_) (fun c_29 => ?_)
            · replace hm := ie hm c_29
              refine lv_aload_n hx hb dX1_followMerge_55 rfl (lv_at hl 0 rfl) ?_
              refine va_get (D := G) (ci := 3) (v := .ref o_on) (C := RX1) (T := TX1) (N := 6) hx hb hts i_X1 hown hK.1 hP 0 rfl rfl 2 (by decide) w_2 (fun _ h9 => h9) rfl dX1_followMerge_56 ?_
              refine lv_iload hx hb dX1_followMerge_59 (lv_at hl 5 rfl) ?_
              replace hm := gdo hm hz
              obtain ⟨gi_30, hm⟩ := hm
              refine va_iald hx hb hK.1 hP 2 0 (cA := cA 0) (n := 30) (f := g_6) rfl rfl (ixi gi_30) dX1_followMerge_61 ?_
              exact J62_3 (g_6 x_5.toNatClampNeg) _ _ _ hm hP hD hS (lv_sub hl [0, 1, 2, 3, 4, 5] rfl)
            · replace hm := it hm c_29
              refine lv_iload_n hx hb dX1_followMerge_51 rfl (lv_at hl 3 rfl) ?_
              refine lv_goto (tgt := 62) hx hb dX1_followMerge_52 (by decide) ?_
              exact J62_3 p3 _ _ _ hm hP hD hS (lv_sub hl [0, 1, 2, 3, 4, 5] rfl)
  exact L3_4 _ (0 : Int32) g_o_on g_o_serves g_o_lastDay _ _ _ hm hP hD hS (lv_sub hl [1, 2, 3, 4, 5, 0] rfl)
def m_X1_has (p1 : Int32) (v_o_count : Int32) : Option (Int32) := (if p1 < 0 then some (0 : Int32) else (if v_o_count ≤ p1 then some (0 : Int32) else some (1 : Int32)))
abbrev k_X1_has (cA : Nat → ClassId) (o o_kind o_on o_serves o_firstDay o_lastDay : Nat) (v_o_count : Int32) : va_W := [(o, .inr (3, [.int v_o_count, .ref o_kind, .ref o_on, .ref o_serves, .ref o_firstDay, .ref o_lastDay]))]
set_option maxHeartbeats 4000000 in
set_option maxRecDepth 100000 in
/-- X1_has: as its model -/
theorem c_X1_has (l : Launch) (G : va_G) (cA : Nat → ClassId) (o o_kind o_on o_serves o_firstDay o_lastDay : Nat) (p1 : Int32) (v_o_count : Int32) (R : Option (Int32)) (hR : m_X1_has p1 v_o_count = R) (hz : R ≠ none) : Met l yX1_has wsX1_has ({ frames := 0, cells := 0, slots := 0, locals := 0 } : Room) (va_Pc [.ref o, .int p1] (PR G cA (k_X1_has cA o o_kind o_on o_serves o_firstDay o_lastDay v_o_count))) (vp_Si (fun r => R = some r ∧ (r = 0 ∨ r = 1))) 0 0 (fun _ => False) := by
  refine metR .boolean (by decide) rfl (Nat.le_of_ble_eq_true rfl) ?_
  intro p e s m av below meth c Q ls hx hb hml hts hown hP hK hl hret
  replace hl : lv_has ls 2 [(0, .ref o), (1, .int p1)] := hl
  have w_0 := hts (.fieldLink RX1 9 "ParcelRegistry$Easements" "count" "I") (by decide +kernel)
  have i_X1 : ∀ w ∈ wsX10, w ∈ wsX1_has := by decide +kernel
  have hm := hR
  unfold m_X1_has at hm
  refine lv_iload_n hx hb dX1_has_0 rfl (lv_at hl 1 rfl) ?_
  refine lv_if_lt (tgt := 16) hx hb dX1_has_1 (by decide) (fun c_1 => ?_) (fun c_1 => ?_)
  · replace hm := it hm c_1
    refine lv_iconst (v := (0 : Int32)) hx hb dX1_has_16 (by decide) ?_
    exact hret _ _ _ dX1_has_17 rfl ⟨hm.symm, (by decide)⟩
  · replace hm := ie hm c_1
    refine lv_iload_n hx hb dX1_has_4 rfl (lv_at hl 1 rfl) ?_
    refine lv_aload_n hx hb dX1_has_5 rfl (lv_at hl 0 rfl) ?_
    refine va_get (D := G) (ci := 3) (v := .int v_o_count) (C := RX1) (T := TX1) (N := 6) hx hb hts i_X1 hown hK.1 hP 0 rfl rfl 0 (by decide) w_0 (fun _ h9 => h9) rfl dX1_has_6 ?_
    refine lv_icmp_ge (tgt := 16) hx hb dX1_has_9 (by decide) (fun c_2 => ?_) (fun c_2 => ?_)
    · replace hm := it hm c_2
      refine lv_iconst (v := (0 : Int32)) hx hb dX1_has_16 (by decide) ?_
      exact hret _ _ _ dX1_has_17 rfl ⟨hm.symm, (by decide)⟩
    · replace hm := ie hm c_2
      refine lv_iconst (v := (1 : Int32)) hx hb dX1_has_12 (by decide) ?_
      refine lv_goto (tgt := 17) hx hb dX1_has_13 (by decide) ?_
      exact hret _ _ _ dX1_has_17 rfl ⟨hm.symm, (by decide)⟩
def m_X1_isLive (p1 : Int32) (v_o_count : Int32) (g_o_lastDay : Nat → Int32) : Option (Int32) := Option.bind (m_X1_has p1 v_o_count) (fun r_1 => (if r_1 = 0 then some (0 : Int32) else gd (ix p1 30) ((if (g_o_lastDay p1.toNatClampNeg) = (-1 : Int32) then some (1 : Int32) else some (0 : Int32)))))
abbrev k_X1_isLive (cA : Nat → ClassId) (o o_kind o_on o_serves o_firstDay o_lastDay : Nat) (v_o_count : Int32) (g_o_lastDay : Nat → Int32) : va_W := [(o, .inr (3, [.int v_o_count, .ref o_kind, .ref o_on, .ref o_serves, .ref o_firstDay, .ref o_lastDay])), (o_lastDay, .inl (cA 0, 30, .inl g_o_lastDay))]
set_option maxHeartbeats 4000000 in
set_option maxRecDepth 100000 in
/-- X1_isLive: as its model -/
theorem c_X1_isLive (l : Launch) (G : va_G) (cA : Nat → ClassId) (o o_kind o_on o_serves o_firstDay o_lastDay : Nat) (p1 : Int32) (v_o_count : Int32) (g_o_lastDay : Nat → Int32) (R : Option (Int32)) (hR : m_X1_isLive p1 v_o_count g_o_lastDay = R) (hz : R ≠ none) : Met l yX1_isLive wsX1_isLive ({ frames := 1, cells := 0, slots := 0, locals := 21 } : Room) (va_Pc [.ref o, .int p1] (PR G cA (k_X1_isLive cA o o_kind o_on o_serves o_firstDay o_lastDay v_o_count g_o_lastDay))) (vp_Si (fun r => R = some r ∧ (r = 0 ∨ r = 1))) 0 0 (fun _ => False) := by
  refine metR .boolean (by decide) rfl (Nat.le_of_ble_eq_true rfl) ?_
  intro p e s m av below meth c Q ls hx hb hml hts hown hP hK hl hret
  replace hl : lv_has ls 2 [(0, .ref o), (1, .int p1)] := hl
  have w_0 := hts (.fieldLink RX1 28 "ParcelRegistry$Easements" "lastDay" "[I") (by decide +kernel)
  have i_X1 : ∀ w ∈ wsX10, w ∈ wsX1_isLive := by decide +kernel
  have hm := hR
  unfold m_X1_isLive at hm
  refine lv_aload_n hx hb dX1_isLive_0 rfl (lv_at hl 0 rfl) ?_
  refine lv_iload_n hx hb dX1_isLive_1 rfl (lv_at hl 1 rfl) ?_
  refine vp_callSi (va_Run.run (va_runV (As := [.int p1]) (rest := []) ⟨hx, hb, hml, hown, hts⟩ (c_X1_has l G cA o o_kind o_on o_serves o_firstDay o_lastDay p1 v_o_count _ rfl (bnz hm hz)) (cwV 1 hts gX1_isLive_X1_has rfl rfl rfl (by decide +kernel) ⟨Nat.le_of_ble_eq_true rfl, Nat.le_of_ble_eq_true rfl⟩) (preRV (q := (RX1, TX1, 6)) (hP.sub [0] rfl) hK 0 rfl rfl) rfl rfl hl.1 rfl (lv_room (Nat.le_of_ble_eq_true rfl)) dX1_isLive_2 ⟨Nat.zero_le _, Nat.zero_le _⟩)) (fun r_1 hw => ?_)
  replace hm := bst hm hw.1
  refine lv_if_eq (tgt := 22) hx hb dX1_isLive_5 (by decide) (fun c_2 => ?_) (fun c_2 => ?_)
  · replace hm := it hm c_2
    refine lv_iconst (v := (0 : Int32)) hx hb dX1_isLive_22 (by decide) ?_
    exact hret _ _ _ dX1_isLive_23 rfl ⟨hm.symm, (by decide)⟩
  · replace hm := ie hm c_2
    refine lv_aload_n hx hb dX1_isLive_8 rfl (lv_at hl 0 rfl) ?_
    refine va_get (D := G) (ci := 3) (v := .ref o_lastDay) (C := RX1) (T := TX1) (N := 6) hx hb hts i_X1 hown hK.1 hP 0 rfl rfl 5 (by decide) w_0 (fun _ h9 => h9) rfl dX1_isLive_9 ?_
    refine lv_iload_n hx hb dX1_isLive_12 rfl (lv_at hl 1 rfl) ?_
    replace hm := gdo hm hz
    obtain ⟨gi_3, hm⟩ := hm
    refine va_iald hx hb hK.1 hP 1 0 (cA := cA 0) (n := 30) (f := g_o_lastDay) rfl rfl (ixi gi_3) dX1_isLive_13 ?_
    refine lv_iconst (v := (-1 : Int32)) hx hb dX1_isLive_14 (by decide) ?_
    refine lv_icmp_ne (tgt := 22) hx hb dX1_isLive_15 (by decide) (fun c_4 => ?_) (fun c_4 => ?_)
    · replace hm := ie hm c_4
      refine lv_iconst (v := (0 : Int32)) hx hb dX1_isLive_22 (by decide) ?_
      exact hret _ _ _ dX1_isLive_23 rfl ⟨hm.symm, (by decide)⟩
    · replace hm := it hm c_4
      refine lv_iconst (v := (1 : Int32)) hx hb dX1_isLive_18 (by decide) ?_
      refine lv_goto (tgt := 23) hx hb dX1_isLive_19 (by decide) ?_
      exact hret _ _ _ dX1_isLive_23 rfl ⟨hm.symm, (by decide)⟩
def m_X1_end (p1 : Int32) (p2 : Int32) (v_o_count : Int32) (g_o_lastDay : Nat → Int32) : Option ((Nat → Int32)) := Option.bind (m_X1_has p1 v_o_count) (fun r_1 => (if r_1 = 0 then some g_o_lastDay else gd (ix p1 30) (some (upd g_o_lastDay p1.toNatClampNeg p2))))
abbrev k_X1_end (cA : Nat → ClassId) (o o_kind o_on o_serves o_firstDay o_lastDay : Nat) (v_o_count : Int32) (g_o_lastDay : Nat → Int32) : va_W := [(o, .inr (3, [.int v_o_count, .ref o_kind, .ref o_on, .ref o_serves, .ref o_firstDay, .ref o_lastDay])), (o_lastDay, .inl (cA 0, 30, .inl g_o_lastDay))]
set_option maxHeartbeats 4000000 in
set_option maxRecDepth 100000 in
/-- X1_end: as its model -/
theorem c_X1_end (l : Launch) (G : va_G) (cA : Nat → ClassId) (o o_kind o_on o_serves o_firstDay o_lastDay : Nat) (sz : Nat) (p1 : Int32) (p2 : Int32) (v_o_count : Int32) (g_o_lastDay : Nat → Int32) (R : Option ((Nat → Int32))) (hR : m_X1_end p1 p2 v_o_count g_o_lastDay = R) (hz : R ≠ none) : Met l yX1_end wsX1_end ({ frames := 1, cells := 0, slots := 0, locals := 21 } : Room) (va_Pc [.ref o, .int p1, .int p2] (PM G cA (k_X1_end cA o o_kind o_on o_serves o_firstDay o_lastDay v_o_count g_o_lastDay) sz)) (va_Qv (fun (u : (Nat → Int32)) => R = some u) (BM G (fun (u : (Nat → Int32)) => (k_X1_end cA o o_kind o_on o_serves o_firstDay o_lastDay v_o_count u))) (va_A (k_X1_end cA o o_kind o_on o_serves o_firstDay o_lastDay v_o_count g_o_lastDay) sz)) 0 0 (va_A (k_X1_end cA o o_kind o_on o_serves o_firstDay o_lastDay v_o_count g_o_lastDay) sz) := by
  refine metV (by decide) rfl (Nat.le_of_ble_eq_true rfl) ?_
  intro p e s m av below meth c Q ls A H hx hb hml hts hown hP hK hD hA hS hl hret
  replace hl : lv_has ls 3 [(0, .ref o), (1, .int p1), (2, .int p2)] := hl
  have w_0 := hts (.fieldLink RX1 28 "ParcelRegistry$Easements" "lastDay" "[I") (by decide +kernel)
  have i_X1 : ∀ w ∈ wsX10, w ∈ wsX1_end := by decide +kernel
  have hm := hR
  unfold m_X1_end at hm
  refine lv_aload_n hx hb dX1_end_0 rfl (lv_at hl 0 rfl) ?_
  refine lv_iload_n hx hb dX1_end_1 rfl (lv_at hl 1 rfl) ?_
  refine vp_callSi (va_Run.run (va_runV (As := [.int p1]) (rest := []) ⟨hx, hb, hml, hown, hts⟩ (c_X1_has l G cA o o_kind o_on o_serves o_firstDay o_lastDay p1 v_o_count _ rfl (bnz hm hz)) (cwV 1 hts gX1_end_X1_has rfl rfl rfl (by decide +kernel) ⟨Nat.le_of_ble_eq_true rfl, Nat.le_of_ble_eq_true rfl⟩) (preRV (q := (RX1, TX1, 6)) (hP.sub [0] rfl) hK 0 rfl rfl) rfl rfl hl.1 rfl (lv_room (Nat.le_of_ble_eq_true rfl)) dX1_end_2 ⟨Nat.zero_le _, Nat.zero_le _⟩)) (fun r_1 hw => ?_)
  replace hm := bst hm hw.1
  refine lv_if_eq (tgt := 15) hx hb dX1_end_5 (by decide) (fun c_2 => ?_) (fun c_2 => ?_)
  · replace hm := it hm c_2
    exact hret _ _ g_o_lastDay _ _ dX1_end_15 hP hS hm.symm
  · replace hm := ie hm c_2
    refine lv_aload_n hx hb dX1_end_8 rfl (lv_at hl 0 rfl) ?_
    refine va_get (D := G) (ci := 3) (v := .ref o_lastDay) (C := RX1) (T := TX1) (N := 6) hx hb hts i_X1 hown hK.1 hP 0 rfl rfl 5 (by decide) w_0 (fun _ h9 => h9) rfl dX1_end_9 ?_
    refine lv_iload_n hx hb dX1_end_12 rfl (lv_at hl 1 rfl) ?_
    refine lv_iload_n hx hb dX1_end_13 rfl (lv_at hl 2 rfl) ?_
    replace hm := gdo hm hz
    obtain ⟨gi_3, hm⟩ := hm
    refine va_iast hx hb hK.1 hP hD hS 1 0 (cA := cA 0) (n := 30) (f := g_o_lastDay) rfl rfl (ixi gi_3) dX1_end_14 (fun H locs hP' hD' hS' => ?_)
    replace hP : va_P G vwCl (k_X1_end cA o o_kind o_on o_serves o_firstDay o_lastDay v_o_count (upd g_o_lastDay p1.toNatClampNeg p2)) H := hP'
    replace hD : va_D A (k_X1_end cA o o_kind o_on o_serves o_firstDay o_lastDay v_o_count (upd g_o_lastDay p1.toNatClampNeg p2)) := hD'
    replace hS := hS'
    exact hret _ _ (upd g_o_lastDay p1.toNatClampNeg p2) _ _ dX1_end_15 hP hS hm.symm
def m_X1_liveCount_L4 (v_o_count : Int32) (g_o_lastDay : Nat → Int32) : ((Int32 × Int32) → Option (Int32)) → (Int32 × Int32) → Option (Int32) := fun rec_3 v => match v with
  | (x_1, x_2) => (if v_o_count ≤ x_2 then some x_1 else gd (ix x_2 30) ((if (g_o_lastDay x_2.toNatClampNeg) = (-1 : Int32) then rec_3 (x_1 + (1 : Int32), x_2 + (1 : Int32)) else rec_3 (x_1, x_2 + (1 : Int32)))))
def m_X1_liveCount (v_o_count : Int32) (g_o_lastDay : Nat → Int32) : Option (Int32) := fuel (m_X1_liveCount_L4 v_o_count g_o_lastDay) FU ((0 : Int32), (0 : Int32))
abbrev k_X1_liveCount (cA : Nat → ClassId) (o o_kind o_on o_serves o_firstDay o_lastDay : Nat) (v_o_count : Int32) (g_o_lastDay : Nat → Int32) : va_W := [(o, .inr (3, [.int v_o_count, .ref o_kind, .ref o_on, .ref o_serves, .ref o_firstDay, .ref o_lastDay])), (o_lastDay, .inl (cA 0, 30, .inl g_o_lastDay))]
set_option maxHeartbeats 4000000 in
set_option maxRecDepth 100000 in
/-- X1_liveCount: as its model -/
theorem c_X1_liveCount (l : Launch) (G : va_G) (cA : Nat → ClassId) (o o_kind o_on o_serves o_firstDay o_lastDay : Nat) (v_o_count : Int32) (g_o_lastDay : Nat → Int32) (R : Option (Int32)) (hR : m_X1_liveCount v_o_count g_o_lastDay = R) (hz : R ≠ none) : Met l yX1_liveCount wsX1_liveCount ({ frames := 0, cells := 0, slots := 0, locals := 0 } : Room) (va_Pc [.ref o] (PR G cA (k_X1_liveCount cA o o_kind o_on o_serves o_firstDay o_lastDay v_o_count g_o_lastDay))) (vp_Si (fun r => R = some r)) 0 0 (fun _ => False) := by
  refine metR .int (by decide) rfl (Nat.le_of_ble_eq_true rfl) ?_
  intro p e s m av below meth c Q ls hx hb hml hts hown hP hK hl hret
  replace hl : lv_has ls 3 [(0, .ref o)] := hl
  have w_0 := hts (.fieldLink RX1 9 "ParcelRegistry$Easements" "count" "I") (by decide +kernel)
  have w_1 := hts (.fieldLink RX1 28 "ParcelRegistry$Easements" "lastDay" "[I") (by decide +kernel)
  have i_X1 : ∀ w ∈ wsX10, w ∈ wsX1_liveCount := by decide +kernel
  have hm := hR
  unfold m_X1_liveCount at hm
  refine lv_iconst (v := (0 : Int32)) hx hb dX1_liveCount_0 (by decide) ?_
  refine lv_istore_n (lv' := [(1, .int (0 : Int32)), (0, .ref o)]) hx hb dX1_liveCount_1 rfl hl (by decide) rfl (fun ls hl => ?_)
  refine lv_iconst (v := (0 : Int32)) hx hb dX1_liveCount_2 (by decide) ?_
  refine lv_istore_n (lv' := [(2, .int (0 : Int32)), (1, .int (0 : Int32)), (0, .ref o)]) hx hb dX1_liveCount_3 rfl hl (by decide) rfl (fun ls hl => ?_)
  have L4_1 : ∀ (n : Nat), ∀ (x_1 : Int32) (x_2 : Int32), ∀ (ls : Array Slot), fuel (m_X1_liveCount_L4 v_o_count g_o_lastDay) n (x_1, x_2) = R → lv_has ls 3 [(0, .ref o), (1, .int x_1), (2, .int x_2)] → W p l e ({ frames := 0, cells := 0, slots := 0, locals := 0 } : Room) s m av below meth c s.heap [] 0 0 Q (F0 m 4 ls []) := by
    intro n
    induction n with
    | zero =>
      intro x_1 x_2 ls hm hl
      exact (fu0 hm hz).elim
    | succ n ih4 =>
      intro x_1 x_2 ls hm hl
      replace hm := fus hm
      generalize fuel (m_X1_liveCount_L4 v_o_count g_o_lastDay) n = rec_3 at hm ih4
      unfold m_X1_liveCount_L4 at hm
      refine lv_iload_n hx hb dX1_liveCount_4 rfl (lv_at hl 2 rfl) ?_
      refine lv_aload_n hx hb dX1_liveCount_5 rfl (lv_at hl 0 rfl) ?_
      refine va_get (D := G) (ci := 3) (v := .int v_o_count) (C := RX1) (T := TX1) (N := 6) hx hb hts i_X1 hown hK.1 hP 0 rfl rfl 0 (by decide) w_0 (fun _ h9 => h9) rfl dX1_liveCount_6 ?_
      refine lv_icmp_ge (tgt := 31) hx hb dX1_liveCount_9 (by decide) (fun c_4 => ?_) (fun c_4 => ?_)
      · replace hm := it hm c_4
        refine lv_iload_n hx hb dX1_liveCount_31 rfl (lv_at hl 1 rfl) ?_
        exact hret _ _ _ dX1_liveCount_32 rfl hm.symm
      · replace hm := ie hm c_4
        refine lv_aload_n hx hb dX1_liveCount_12 rfl (lv_at hl 0 rfl) ?_
        refine va_get (D := G) (ci := 3) (v := .ref o_lastDay) (C := RX1) (T := TX1) (N := 6) hx hb hts i_X1 hown hK.1 hP 0 rfl rfl 5 (by decide) w_1 (fun _ h9 => h9) rfl dX1_liveCount_13 ?_
        refine lv_iload_n hx hb dX1_liveCount_16 rfl (lv_at hl 2 rfl) ?_
        replace hm := gdo hm hz
        obtain ⟨gi_5, hm⟩ := hm
        refine va_iald hx hb hK.1 hP 1 0 (cA := cA 0) (n := 30) (f := g_o_lastDay) rfl rfl (ixi gi_5) dX1_liveCount_17 ?_
        refine lv_iconst (v := (-1 : Int32)) hx hb dX1_liveCount_18 (by decide) ?_
        refine lv_icmp_ne (tgt := 25) hx hb dX1_liveCount_19 (by decide) (fun c_6 => ?_) (fun c_6 => ?_)
        · replace hm := ie hm c_6
          refine lv_iinc (v := x_2 + (1 : Int32)) (lv' := [(2, .int (x_2 + (1 : Int32))), (0, .ref o), (1, .int x_1)]) hx hb dX1_liveCount_25 hl (k := 2) rfl rfl (by decide) rfl (fun ls hl => ?_)
          refine lv_goto (tgt := 4) hx hb dX1_liveCount_28 (by decide) ?_
          exact ih4 x_1 (x_2 + (1 : Int32)) _ hm (lv_sub hl [1, 2, 0] rfl)
        · replace hm := it hm c_6
          refine lv_iinc (v := x_1 + (1 : Int32)) (lv' := [(1, .int (x_1 + (1 : Int32))), (0, .ref o), (2, .int x_2)]) hx hb dX1_liveCount_22 hl (k := 1) rfl rfl (by decide) rfl (fun ls hl => ?_)
          refine lv_iinc (v := x_2 + (1 : Int32)) (lv' := [(2, .int (x_2 + (1 : Int32))), (1, .int (x_1 + (1 : Int32))), (0, .ref o)]) hx hb dX1_liveCount_25 hl (k := 2) rfl rfl (by decide) rfl (fun ls hl => ?_)
          refine lv_goto (tgt := 4) hx hb dX1_liveCount_28 (by decide) ?_
          exact ih4 (x_1 + (1 : Int32)) (x_2 + (1 : Int32)) _ hm (lv_sub hl [2, 1, 0] rfl)
  exact L4_1 _ (0 : Int32) (0 : Int32) _ hm (lv_sub hl [2, 1, 0] rfl)
def m_X1_liveOn_L4 (v_o_count : Int32) (g_o_on : Nat → Int32) (g_o_lastDay : Nat → Int32) (p1 : Int32) : ((Int32 × Int32) → Option (Int32)) → (Int32 × Int32) → Option (Int32) := fun rec_3 v => match v with
  | (x_1, x_2) => (if v_o_count ≤ x_2 then some x_1 else gd (ix x_2 30) ((if (g_o_lastDay x_2.toNatClampNeg) = (-1 : Int32) then gd (ix x_2 30) ((if (g_o_on x_2.toNatClampNeg) = p1 then rec_3 (x_1 ||| ((1 : Int32) <<< (x_2 &&& 31)), x_2 + (1 : Int32)) else rec_3 (x_1, x_2 + (1 : Int32)))) else rec_3 (x_1, x_2 + (1 : Int32)))))
def m_X1_liveOn (p1 : Int32) (v_o_count : Int32) (g_o_on : Nat → Int32) (g_o_lastDay : Nat → Int32) : Option (Int32) := fuel (m_X1_liveOn_L4 v_o_count g_o_on g_o_lastDay p1) FU ((0 : Int32), (0 : Int32))
abbrev k_X1_liveOn (cA : Nat → ClassId) (o o_kind o_on o_serves o_firstDay o_lastDay : Nat) (v_o_count : Int32) (g_o_on : Nat → Int32) (g_o_lastDay : Nat → Int32) : va_W := [(o, .inr (3, [.int v_o_count, .ref o_kind, .ref o_on, .ref o_serves, .ref o_firstDay, .ref o_lastDay])), (o_on, .inl (cA 0, 30, .inl g_o_on)), (o_lastDay, .inl (cA 0, 30, .inl g_o_lastDay))]
set_option maxHeartbeats 4000000 in
set_option maxRecDepth 100000 in
/-- X1_liveOn: as its model -/
theorem c_X1_liveOn (l : Launch) (G : va_G) (cA : Nat → ClassId) (o o_kind o_on o_serves o_firstDay o_lastDay : Nat) (p1 : Int32) (v_o_count : Int32) (g_o_on : Nat → Int32) (g_o_lastDay : Nat → Int32) (R : Option (Int32)) (hR : m_X1_liveOn p1 v_o_count g_o_on g_o_lastDay = R) (hz : R ≠ none) : Met l yX1_liveOn wsX1_liveOn ({ frames := 0, cells := 0, slots := 0, locals := 0 } : Room) (va_Pc [.ref o, .int p1] (PR G cA (k_X1_liveOn cA o o_kind o_on o_serves o_firstDay o_lastDay v_o_count g_o_on g_o_lastDay))) (vp_Si (fun r => R = some r)) 0 0 (fun _ => False) := by
  refine metR .int (by decide) rfl (Nat.le_of_ble_eq_true rfl) ?_
  intro p e s m av below meth c Q ls hx hb hml hts hown hP hK hl hret
  replace hl : lv_has ls 4 [(0, .ref o), (1, .int p1)] := hl
  have w_0 := hts (.fieldLink RX1 9 "ParcelRegistry$Easements" "count" "I") (by decide +kernel)
  have w_1 := hts (.fieldLink RX1 28 "ParcelRegistry$Easements" "lastDay" "[I") (by decide +kernel)
  have w_2 := hts (.fieldLink RX1 19 "ParcelRegistry$Easements" "on" "[I") (by decide +kernel)
  have i_X1 : ∀ w ∈ wsX10, w ∈ wsX1_liveOn := by decide +kernel
  have hm := hR
  unfold m_X1_liveOn at hm
  refine lv_iconst (v := (0 : Int32)) hx hb dX1_liveOn_0 (by decide) ?_
  refine lv_istore_n (lv' := [(2, .int (0 : Int32)), (0, .ref o), (1, .int p1)]) hx hb dX1_liveOn_1 rfl hl (by decide) rfl (fun ls hl => ?_)
  refine lv_iconst (v := (0 : Int32)) hx hb dX1_liveOn_2 (by decide) ?_
  refine lv_istore_n (lv' := [(3, .int (0 : Int32)), (2, .int (0 : Int32)), (0, .ref o), (1, .int p1)]) hx hb dX1_liveOn_3 rfl hl (by decide) rfl (fun ls hl => ?_)
  have L4_1 : ∀ (n : Nat), ∀ (x_1 : Int32) (x_2 : Int32), ∀ (ls : Array Slot), fuel (m_X1_liveOn_L4 v_o_count g_o_on g_o_lastDay p1) n (x_1, x_2) = R → lv_has ls 4 [(0, .ref o), (1, .int p1), (2, .int x_1), (3, .int x_2)] → W p l e ({ frames := 0, cells := 0, slots := 0, locals := 0 } : Room) s m av below meth c s.heap [] 0 0 Q (F0 m 4 ls []) := by
    intro n
    induction n with
    | zero =>
      intro x_1 x_2 ls hm hl
      exact (fu0 hm hz).elim
    | succ n ih4 =>
      intro x_1 x_2 ls hm hl
      replace hm := fus hm
      generalize fuel (m_X1_liveOn_L4 v_o_count g_o_on g_o_lastDay p1) n = rec_3 at hm ih4
      unfold m_X1_liveOn_L4 at hm
      refine lv_iload_n hx hb dX1_liveOn_4 rfl (lv_at hl 3 rfl) ?_
      refine lv_aload_n hx hb dX1_liveOn_5 rfl (lv_at hl 0 rfl) ?_
      refine va_get (D := G) (ci := 3) (v := .int v_o_count) (C := RX1) (T := TX1) (N := 6) hx hb hts i_X1 hown hK.1 hP 0 rfl rfl 0 (by decide) w_0 (fun _ h9 => h9) rfl dX1_liveOn_6 ?_
      refine lv_icmp_ge (tgt := 44) hx hb dX1_liveOn_9 (by decide) (fun c_4 => ?_) (fun c_4 => ?_)
      · replace hm := it hm c_4
        refine lv_iload_n hx hb dX1_liveOn_44 rfl (lv_at hl 2 rfl) ?_
        exact hret _ _ _ dX1_liveOn_45 rfl hm.symm
      · replace hm := ie hm c_4
        refine lv_aload_n hx hb dX1_liveOn_12 rfl (lv_at hl 0 rfl) ?_
        refine va_get (D := G) (ci := 3) (v := .ref o_lastDay) (C := RX1) (T := TX1) (N := 6) hx hb hts i_X1 hown hK.1 hP 0 rfl rfl 5 (by decide) w_1 (fun _ h9 => h9) rfl dX1_liveOn_13 ?_
        refine lv_iload_n hx hb dX1_liveOn_16 rfl (lv_at hl 3 rfl) ?_
        replace hm := gdo hm hz
        obtain ⟨gi_5, hm⟩ := hm
        refine va_iald hx hb hK.1 hP 2 0 (cA := cA 0) (n := 30) (f := g_o_lastDay) rfl rfl (ixi gi_5) dX1_liveOn_17 ?_
        refine lv_iconst (v := (-1 : Int32)) hx hb dX1_liveOn_18 (by decide) ?_
        refine lv_icmp_ne (tgt := 38) hx hb dX1_liveOn_19 (by decide) (fun c_6 => ?_) (fun c_6 => ?_)
        · replace hm := ie hm c_6
          refine lv_iinc (v := x_2 + (1 : Int32)) (lv' := [(3, .int (x_2 + (1 : Int32))), (0, .ref o), (1, .int p1), (2, .int x_1)]) hx hb dX1_liveOn_38 hl (k := 3) rfl rfl (by decide) rfl (fun ls hl => ?_)
          refine lv_goto (tgt := 4) hx hb dX1_liveOn_41 (by decide) ?_
          exact ih4 x_1 (x_2 + (1 : Int32)) _ hm (lv_sub hl [1, 2, 3, 0] rfl)
        · replace hm := it hm c_6
          refine lv_aload_n hx hb dX1_liveOn_22 rfl (lv_at hl 0 rfl) ?_
          refine va_get (D := G) (ci := 3) (v := .ref o_on) (C := RX1) (T := TX1) (N := 6) hx hb hts i_X1 hown hK.1 hP 0 rfl rfl 2 (by decide) w_2 (fun _ h9 => h9) rfl dX1_liveOn_23 ?_
          refine lv_iload_n hx hb dX1_liveOn_26 rfl (lv_at hl 3 rfl) ?_
          replace hm := gdo hm hz
          obtain ⟨gi_7, hm⟩ := hm
          refine va_iald hx hb hK.1 hP 1 0 (cA := cA 0) (n := 30) (f := g_o_on) rfl rfl (ixi gi_7) dX1_liveOn_27 ?_
          refine lv_iload_n hx hb dX1_liveOn_28 rfl (lv_at hl 1 rfl) ?_
          refine lv_icmp_ne (tgt := 38) hx hb dX1_liveOn_29 (by decide) (fun c_8 => ?_) (fun c_8 => ?_)
          · replace hm := ie hm c_8
            refine lv_iinc (v := x_2 + (1 : Int32)) (lv' := [(3, .int (x_2 + (1 : Int32))), (0, .ref o), (1, .int p1), (2, .int x_1)]) hx hb dX1_liveOn_38 hl (k := 3) rfl rfl (by decide) rfl (fun ls hl => ?_)
            refine lv_goto (tgt := 4) hx hb dX1_liveOn_41 (by decide) ?_
            exact ih4 x_1 (x_2 + (1 : Int32)) _ hm (lv_sub hl [1, 2, 3, 0] rfl)
          · replace hm := it hm c_8
            refine lv_iload_n hx hb dX1_liveOn_32 rfl (lv_at hl 2 rfl) ?_
            refine lv_iconst (v := (1 : Int32)) hx hb dX1_liveOn_33 (by decide) ?_
            refine lv_iload_n hx hb dX1_liveOn_34 rfl (lv_at hl 3 rfl) ?_
            refine lv_ishl hx hb dX1_liveOn_35 ?_
            refine lv_ior hx hb dX1_liveOn_36 ?_
            refine lv_istore_n (lv' := [(2, .int (x_1 ||| ((1 : Int32) <<< (x_2 &&& 31)))), (0, .ref o), (1, .int p1), (3, .int x_2)]) hx hb dX1_liveOn_37 rfl hl (by decide) rfl (fun ls hl => ?_)
            refine lv_iinc (v := x_2 + (1 : Int32)) (lv' := [(3, .int (x_2 + (1 : Int32))), (2, .int (x_1 ||| ((1 : Int32) <<< (x_2 &&& 31)))), (0, .ref o), (1, .int p1)]) hx hb dX1_liveOn_38 hl (k := 3) rfl rfl (by decide) rfl (fun ls hl => ?_)
            refine lv_goto (tgt := 4) hx hb dX1_liveOn_41 (by decide) ?_
            exact ih4 (x_1 ||| ((1 : Int32) <<< (x_2 &&& 31))) (x_2 + (1 : Int32)) _ hm (lv_sub hl [2, 3, 1, 0] rfl)
  exact L4_1 _ (0 : Int32) (0 : Int32) _ hm (lv_sub hl [2, 3, 1, 0] rfl)
def m_X1_liveFor_L4 (v_o_count : Int32) (g_o_serves : Nat → Int32) (g_o_lastDay : Nat → Int32) (p1 : Int32) : ((Int32 × Int32) → Option (Int32)) → (Int32 × Int32) → Option (Int32) := fun rec_3 v => match v with
  | (x_1, x_2) => (if v_o_count ≤ x_2 then some x_1 else gd (ix x_2 30) ((if (g_o_lastDay x_2.toNatClampNeg) = (-1 : Int32) then gd (ix x_2 30) ((if (g_o_serves x_2.toNatClampNeg) = p1 then rec_3 (x_1 ||| ((1 : Int32) <<< (x_2 &&& 31)), x_2 + (1 : Int32)) else rec_3 (x_1, x_2 + (1 : Int32)))) else rec_3 (x_1, x_2 + (1 : Int32)))))
def m_X1_liveFor (p1 : Int32) (v_o_count : Int32) (g_o_serves : Nat → Int32) (g_o_lastDay : Nat → Int32) : Option (Int32) := fuel (m_X1_liveFor_L4 v_o_count g_o_serves g_o_lastDay p1) FU ((0 : Int32), (0 : Int32))
abbrev k_X1_liveFor (cA : Nat → ClassId) (o o_kind o_on o_serves o_firstDay o_lastDay : Nat) (v_o_count : Int32) (g_o_serves : Nat → Int32) (g_o_lastDay : Nat → Int32) : va_W := [(o, .inr (3, [.int v_o_count, .ref o_kind, .ref o_on, .ref o_serves, .ref o_firstDay, .ref o_lastDay])), (o_serves, .inl (cA 0, 30, .inl g_o_serves)), (o_lastDay, .inl (cA 0, 30, .inl g_o_lastDay))]
set_option maxHeartbeats 4000000 in
set_option maxRecDepth 100000 in
/-- X1_liveFor: as its model -/
theorem c_X1_liveFor (l : Launch) (G : va_G) (cA : Nat → ClassId) (o o_kind o_on o_serves o_firstDay o_lastDay : Nat) (p1 : Int32) (v_o_count : Int32) (g_o_serves : Nat → Int32) (g_o_lastDay : Nat → Int32) (R : Option (Int32)) (hR : m_X1_liveFor p1 v_o_count g_o_serves g_o_lastDay = R) (hz : R ≠ none) : Met l yX1_liveFor wsX1_liveFor ({ frames := 0, cells := 0, slots := 0, locals := 0 } : Room) (va_Pc [.ref o, .int p1] (PR G cA (k_X1_liveFor cA o o_kind o_on o_serves o_firstDay o_lastDay v_o_count g_o_serves g_o_lastDay))) (vp_Si (fun r => R = some r)) 0 0 (fun _ => False) := by
  refine metR .int (by decide) rfl (Nat.le_of_ble_eq_true rfl) ?_
  intro p e s m av below meth c Q ls hx hb hml hts hown hP hK hl hret
  replace hl : lv_has ls 4 [(0, .ref o), (1, .int p1)] := hl
  have w_0 := hts (.fieldLink RX1 9 "ParcelRegistry$Easements" "count" "I") (by decide +kernel)
  have w_1 := hts (.fieldLink RX1 28 "ParcelRegistry$Easements" "lastDay" "[I") (by decide +kernel)
  have w_2 := hts (.fieldLink RX1 22 "ParcelRegistry$Easements" "serves" "[I") (by decide +kernel)
  have i_X1 : ∀ w ∈ wsX10, w ∈ wsX1_liveFor := by decide +kernel
  have hm := hR
  unfold m_X1_liveFor at hm
  refine lv_iconst (v := (0 : Int32)) hx hb dX1_liveFor_0 (by decide) ?_
  refine lv_istore_n (lv' := [(2, .int (0 : Int32)), (0, .ref o), (1, .int p1)]) hx hb dX1_liveFor_1 rfl hl (by decide) rfl (fun ls hl => ?_)
  refine lv_iconst (v := (0 : Int32)) hx hb dX1_liveFor_2 (by decide) ?_
  refine lv_istore_n (lv' := [(3, .int (0 : Int32)), (2, .int (0 : Int32)), (0, .ref o), (1, .int p1)]) hx hb dX1_liveFor_3 rfl hl (by decide) rfl (fun ls hl => ?_)
  have L4_1 : ∀ (n : Nat), ∀ (x_1 : Int32) (x_2 : Int32), ∀ (ls : Array Slot), fuel (m_X1_liveFor_L4 v_o_count g_o_serves g_o_lastDay p1) n (x_1, x_2) = R → lv_has ls 4 [(0, .ref o), (1, .int p1), (2, .int x_1), (3, .int x_2)] → W p l e ({ frames := 0, cells := 0, slots := 0, locals := 0 } : Room) s m av below meth c s.heap [] 0 0 Q (F0 m 4 ls []) := by
    intro n
    induction n with
    | zero =>
      intro x_1 x_2 ls hm hl
      exact (fu0 hm hz).elim
    | succ n ih4 =>
      intro x_1 x_2 ls hm hl
      replace hm := fus hm
      generalize fuel (m_X1_liveFor_L4 v_o_count g_o_serves g_o_lastDay p1) n = rec_3 at hm ih4
      unfold m_X1_liveFor_L4 at hm
      refine lv_iload_n hx hb dX1_liveFor_4 rfl (lv_at hl 3 rfl) ?_
      refine lv_aload_n hx hb dX1_liveFor_5 rfl (lv_at hl 0 rfl) ?_
      refine va_get (D := G) (ci := 3) (v := .int v_o_count) (C := RX1) (T := TX1) (N := 6) hx hb hts i_X1 hown hK.1 hP 0 rfl rfl 0 (by decide) w_0 (fun _ h9 => h9) rfl dX1_liveFor_6 ?_
      refine lv_icmp_ge (tgt := 44) hx hb dX1_liveFor_9 (by decide) (fun c_4 => ?_) (fun c_4 => ?_)
      · replace hm := it hm c_4
        refine lv_iload_n hx hb dX1_liveFor_44 rfl (lv_at hl 2 rfl) ?_
        exact hret _ _ _ dX1_liveFor_45 rfl hm.symm
      · replace hm := ie hm c_4
        refine lv_aload_n hx hb dX1_liveFor_12 rfl (lv_at hl 0 rfl) ?_
        refine va_get (D := G) (ci := 3) (v := .ref o_lastDay) (C := RX1) (T := TX1) (N := 6) hx hb hts i_X1 hown hK.1 hP 0 rfl rfl 5 (by decide) w_1 (fun _ h9 => h9) rfl dX1_liveFor_13 ?_
        refine lv_iload_n hx hb dX1_liveFor_16 rfl (lv_at hl 3 rfl) ?_
        replace hm := gdo hm hz
        obtain ⟨gi_5, hm⟩ := hm
        refine va_iald hx hb hK.1 hP 2 0 (cA := cA 0) (n := 30) (f := g_o_lastDay) rfl rfl (ixi gi_5) dX1_liveFor_17 ?_
        refine lv_iconst (v := (-1 : Int32)) hx hb dX1_liveFor_18 (by decide) ?_
        refine lv_icmp_ne (tgt := 38) hx hb dX1_liveFor_19 (by decide) (fun c_6 => ?_) (fun c_6 => ?_)
        · replace hm := ie hm c_6
          refine lv_iinc (v := x_2 + (1 : Int32)) (lv' := [(3, .int (x_2 + (1 : Int32))), (0, .ref o), (1, .int p1), (2, .int x_1)]) hx hb dX1_liveFor_38 hl (k := 3) rfl rfl (by decide) rfl (fun ls hl => ?_)
          refine lv_goto (tgt := 4) hx hb dX1_liveFor_41 (by decide) ?_
          exact ih4 x_1 (x_2 + (1 : Int32)) _ hm (lv_sub hl [1, 2, 3, 0] rfl)
        · replace hm := it hm c_6
          refine lv_aload_n hx hb dX1_liveFor_22 rfl (lv_at hl 0 rfl) ?_
          refine va_get (D := G) (ci := 3) (v := .ref o_serves) (C := RX1) (T := TX1) (N := 6) hx hb hts i_X1 hown hK.1 hP 0 rfl rfl 3 (by decide) w_2 (fun _ h9 => h9) rfl dX1_liveFor_23 ?_
          refine lv_iload_n hx hb dX1_liveFor_26 rfl (lv_at hl 3 rfl) ?_
          replace hm := gdo hm hz
          obtain ⟨gi_7, hm⟩ := hm
          refine va_iald hx hb hK.1 hP 1 0 (cA := cA 0) (n := 30) (f := g_o_serves) rfl rfl (ixi gi_7) dX1_liveFor_27 ?_
          refine lv_iload_n hx hb dX1_liveFor_28 rfl (lv_at hl 1 rfl) ?_
          refine lv_icmp_ne (tgt := 38) hx hb dX1_liveFor_29 (by decide) (fun c_8 => ?_) (fun c_8 => ?_)
          · replace hm := ie hm c_8
            refine lv_iinc (v := x_2 + (1 : Int32)) (lv' := [(3, .int (x_2 + (1 : Int32))), (0, .ref o), (1, .int p1), (2, .int x_1)]) hx hb dX1_liveFor_38 hl (k := 3) rfl rfl (by decide) rfl (fun ls hl => ?_)
            refine lv_goto (tgt := 4) hx hb dX1_liveFor_41 (by decide) ?_
            exact ih4 x_1 (x_2 + (1 : Int32)) _ hm (lv_sub hl [1, 2, 3, 0] rfl)
          · replace hm := it hm c_8
            refine lv_iload_n hx hb dX1_liveFor_32 rfl (lv_at hl 2 rfl) ?_
            refine lv_iconst (v := (1 : Int32)) hx hb dX1_liveFor_33 (by decide) ?_
            refine lv_iload_n hx hb dX1_liveFor_34 rfl (lv_at hl 3 rfl) ?_
            refine lv_ishl hx hb dX1_liveFor_35 ?_
            refine lv_ior hx hb dX1_liveFor_36 ?_
            refine lv_istore_n (lv' := [(2, .int (x_1 ||| ((1 : Int32) <<< (x_2 &&& 31)))), (0, .ref o), (1, .int p1), (3, .int x_2)]) hx hb dX1_liveFor_37 rfl hl (by decide) rfl (fun ls hl => ?_)
            refine lv_iinc (v := x_2 + (1 : Int32)) (lv' := [(3, .int (x_2 + (1 : Int32))), (2, .int (x_1 ||| ((1 : Int32) <<< (x_2 &&& 31)))), (0, .ref o), (1, .int p1)]) hx hb dX1_liveFor_38 hl (k := 3) rfl rfl (by decide) rfl (fun ls hl => ?_)
            refine lv_goto (tgt := 4) hx hb dX1_liveFor_41 (by decide) ?_
            exact ih4 (x_1 ||| ((1 : Int32) <<< (x_2 &&& 31))) (x_2 + (1 : Int32)) _ hm (lv_sub hl [2, 3, 1, 0] rfl)
  exact L4_1 _ (0 : Int32) (0 : Int32) _ hm (lv_sub hl [2, 3, 1, 0] rfl)
def m_X1_lyingFor_L5 (v_o_count : Int32) (g_o_kind : Nat → Int32) (g_o_on : Nat → Int32) (g_o_serves : Nat → Int32) (g_o_lastDay : Nat → Int32) (p1 : Int32) (p2 : Int32) : ((Int32 × Int32) → Option (Int32)) → (Int32 × Int32) → Option (Int32) := fun rec_3 v => match v with
  | (x_1, x_2) => (if v_o_count ≤ x_2 then some x_1 else gd (ix x_2 30) ((if (g_o_lastDay x_2.toNatClampNeg) = (-1 : Int32) then gd (ix x_2 30) ((if (g_o_kind x_2.toNatClampNeg) = p2 then gd (ix x_2 30) (Option.bind (m_X7_isIn p1 (g_o_serves x_2.toNatClampNeg)) (fun r_10 => (if r_10 = 0 then rec_3 (x_1, x_2 + (1 : Int32)) else gd (ix x_2 30) (nm (x_1 ||| ((1 : Int32) <<< ((g_o_on x_2.toNatClampNeg) &&& 31))) (fun x_13 => rec_3 (x_13, x_2 + (1 : Int32))))))) else rec_3 (x_1, x_2 + (1 : Int32)))) else rec_3 (x_1, x_2 + (1 : Int32)))))
def m_X1_lyingFor (p1 : Int32) (p2 : Int32) (v_o_count : Int32) (g_o_kind : Nat → Int32) (g_o_on : Nat → Int32) (g_o_serves : Nat → Int32) (g_o_lastDay : Nat → Int32) : Option (Int32) := fuel (m_X1_lyingFor_L5 v_o_count g_o_kind g_o_on g_o_serves g_o_lastDay p1 p2) FU ((0 : Int32), (0 : Int32))
abbrev k_X1_lyingFor (cA : Nat → ClassId) (o o_kind o_on o_serves o_firstDay o_lastDay : Nat) (v_o_count : Int32) (g_o_kind : Nat → Int32) (g_o_on : Nat → Int32) (g_o_serves : Nat → Int32) (g_o_lastDay : Nat → Int32) : va_W := [(o, .inr (3, [.int v_o_count, .ref o_kind, .ref o_on, .ref o_serves, .ref o_firstDay, .ref o_lastDay])), (o_kind, .inl (cA 0, 30, .inl g_o_kind)), (o_on, .inl (cA 0, 30, .inl g_o_on)), (o_serves, .inl (cA 0, 30, .inl g_o_serves)), (o_lastDay, .inl (cA 0, 30, .inl g_o_lastDay))]
set_option maxHeartbeats 4000000 in
set_option maxRecDepth 100000 in
/-- X1_lyingFor: as its model -/
theorem c_X1_lyingFor (l : Launch) (G : va_G) (cA : Nat → ClassId) (o o_kind o_on o_serves o_firstDay o_lastDay : Nat) (p1 : Int32) (p2 : Int32) (v_o_count : Int32) (g_o_kind : Nat → Int32) (g_o_on : Nat → Int32) (g_o_serves : Nat → Int32) (g_o_lastDay : Nat → Int32) (R : Option (Int32)) (hR : m_X1_lyingFor p1 p2 v_o_count g_o_kind g_o_on g_o_serves g_o_lastDay = R) (hz : R ≠ none) : Met l yX1_lyingFor wsX1_lyingFor ({ frames := 1, cells := 0, slots := 0, locals := 21 } : Room) (va_Pc [.ref o, .int p1, .int p2] (PR G cA (k_X1_lyingFor cA o o_kind o_on o_serves o_firstDay o_lastDay v_o_count g_o_kind g_o_on g_o_serves g_o_lastDay))) (vp_Si (fun r => R = some r)) 0 0 (fun _ => False) := by
  refine metR .int (by decide) rfl (Nat.le_of_ble_eq_true rfl) ?_
  intro p e s m av below meth c Q ls hx hb hml hts hown hP hK hl hret
  replace hl : lv_has ls 5 [(0, .ref o), (1, .int p1), (2, .int p2)] := hl
  have w_0 := hts (.fieldLink RX1 9 "ParcelRegistry$Easements" "count" "I") (by decide +kernel)
  have w_1 := hts (.fieldLink RX1 28 "ParcelRegistry$Easements" "lastDay" "[I") (by decide +kernel)
  have w_2 := hts (.fieldLink RX1 15 "ParcelRegistry$Easements" "kind" "[I") (by decide +kernel)
  have w_3 := hts (.fieldLink RX1 22 "ParcelRegistry$Easements" "serves" "[I") (by decide +kernel)
  have w_4 := hts (.initialized RX7) (by decide +kernel)
  have w_5 := hts (.static yX7_isIn) (by decide +kernel)
  have w_6 := hts (.fieldLink RX1 19 "ParcelRegistry$Easements" "on" "[I") (by decide +kernel)
  have i_X1 : ∀ w ∈ wsX10, w ∈ wsX1_lyingFor := by decide +kernel
  have hm := hR
  unfold m_X1_lyingFor at hm
  refine lv_iconst (v := (0 : Int32)) hx hb dX1_lyingFor_0 (by decide) ?_
  refine lv_istore_n (lv' := [(3, .int (0 : Int32)), (0, .ref o), (1, .int p1), (2, .int p2)]) hx hb dX1_lyingFor_1 rfl hl (by decide) rfl (fun ls hl => ?_)
  refine lv_iconst (v := (0 : Int32)) hx hb dX1_lyingFor_2 (by decide) ?_
  refine lv_istore (lv' := [(4, .int (0 : Int32)), (3, .int (0 : Int32)), (0, .ref o), (1, .int p1), (2, .int p2)]) hx hb dX1_lyingFor_3 hl (by decide) rfl (fun ls hl => ?_)
  have L5_1 : ∀ (n : Nat), ∀ (x_1 : Int32) (x_2 : Int32), ∀ (ls : Array Slot), fuel (m_X1_lyingFor_L5 v_o_count g_o_kind g_o_on g_o_serves g_o_lastDay p1 p2) n (x_1, x_2) = R → lv_has ls 5 [(0, .ref o), (1, .int p1), (2, .int p2), (3, .int x_1), (4, .int x_2)] → W p l e ({ frames := 1, cells := 0, slots := 0, locals := 21 } : Room) s m av below meth c s.heap [] 0 0 Q (F0 m 5 ls []) := by
    intro n
    induction n with
    | zero =>
      intro x_1 x_2 ls hm hl
      exact (fu0 hm hz).elim
    | succ n ih5 =>
      intro x_1 x_2 ls hm hl
      replace hm := fus hm
      generalize fuel (m_X1_lyingFor_L5 v_o_count g_o_kind g_o_on g_o_serves g_o_lastDay p1 p2) n = rec_3 at hm ih5
      unfold m_X1_lyingFor_L5 at hm
      refine lv_iload hx hb dX1_lyingFor_5 (lv_at hl 4 rfl) ?_
      refine lv_aload_n hx hb dX1_lyingFor_7 rfl (lv_at hl 0 rfl) ?_
      refine va_get (D := G) (ci := 3) (v := .int v_o_count) (C := RX1) (T := TX1) (N := 6) hx hb hts i_X1 hown hK.1 hP 0 rfl rfl 0 (by decide) w_0 (fun _ h9 => h9) rfl dX1_lyingFor_8 ?_
      refine lv_icmp_ge (tgt := 68) hx hb dX1_lyingFor_11 (by decide) (fun c_4 => ?_) (fun c_4 => ?_)
      · replace hm := it hm c_4
        refine lv_iload_n hx hb dX1_lyingFor_68 rfl (lv_at hl 3 rfl) ?_
        exact hret _ _ _ dX1_lyingFor_69 rfl hm.symm
      · replace hm := ie hm c_4
        refine lv_aload_n hx hb dX1_lyingFor_14 rfl (lv_at hl 0 rfl) ?_
        refine va_get (D := G) (ci := 3) (v := .ref o_lastDay) (C := RX1) (T := TX1) (N := 6) hx hb hts i_X1 hown hK.1 hP 0 rfl rfl 5 (by decide) w_1 (fun _ h9 => h9) rfl dX1_lyingFor_15 ?_
        refine lv_iload hx hb dX1_lyingFor_18 (lv_at hl 4 rfl) ?_
        replace hm := gdo hm hz
        obtain ⟨gi_5, hm⟩ := hm
        refine va_iald hx hb hK.1 hP 4 0 (cA := cA 0) (n := 30) (f := g_o_lastDay) rfl rfl (ixi gi_5) dX1_lyingFor_20 ?_
        refine lv_iconst (v := (-1 : Int32)) hx hb dX1_lyingFor_21 (by decide) ?_
        refine lv_icmp_ne (tgt := 62) hx hb dX1_lyingFor_22 (by decide) (fun c_6 => ?_) (fun c_6 => ?_)
        · replace hm := ie hm c_6
          refine lv_iinc (v := x_2 + (1 : Int32)) (lv' := [(4, .int (x_2 + (1 : Int32))), (0, .ref o), (1, .int p1), (2, .int p2), (3, .int x_1)]) hx hb dX1_lyingFor_62 hl (k := 4) rfl rfl (by decide) rfl (fun ls hl => ?_)
          refine lv_goto (tgt := 5) hx hb dX1_lyingFor_65 (by decide) ?_
          exact ih5 x_1 (x_2 + (1 : Int32)) _ hm (lv_sub hl [1, 2, 3, 4, 0] rfl)
        · replace hm := it hm c_6
          refine lv_aload_n hx hb dX1_lyingFor_25 rfl (lv_at hl 0 rfl) ?_
          refine va_get (D := G) (ci := 3) (v := .ref o_kind) (C := RX1) (T := TX1) (N := 6) hx hb hts i_X1 hown hK.1 hP 0 rfl rfl 1 (by decide) w_2 (fun _ h9 => h9) rfl dX1_lyingFor_26 ?_
          refine lv_iload hx hb dX1_lyingFor_29 (lv_at hl 4 rfl) ?_
          replace hm := gdo hm hz
          obtain ⟨gi_7, hm⟩ := hm
          refine va_iald hx hb hK.1 hP 1 0 (cA := cA 0) (n := 30) (f := g_o_kind) rfl rfl (ixi gi_7) dX1_lyingFor_31 ?_
          refine lv_iload_n hx hb dX1_lyingFor_32 rfl (lv_at hl 2 rfl) ?_
          refine lv_icmp_ne (tgt := 62) hx hb dX1_lyingFor_33 (by decide) (fun c_8 => ?_) (fun c_8 => ?_)
          · replace hm := ie hm c_8
            refine lv_iinc (v := x_2 + (1 : Int32)) (lv' := [(4, .int (x_2 + (1 : Int32))), (0, .ref o), (1, .int p1), (2, .int p2), (3, .int x_1)]) hx hb dX1_lyingFor_62 hl (k := 4) rfl rfl (by decide) rfl (fun ls hl => ?_)
            refine lv_goto (tgt := 5) hx hb dX1_lyingFor_65 (by decide) ?_
            exact ih5 x_1 (x_2 + (1 : Int32)) _ hm (lv_sub hl [1, 2, 3, 4, 0] rfl)
          · replace hm := it hm c_8
            refine lv_iload_n hx hb dX1_lyingFor_36 rfl (lv_at hl 1 rfl) ?_
            refine lv_aload_n hx hb dX1_lyingFor_37 rfl (lv_at hl 0 rfl) ?_
            refine va_get (D := G) (ci := 3) (v := .ref o_serves) (C := RX1) (T := TX1) (N := 6) hx hb hts i_X1 hown hK.1 hP 0 rfl rfl 3 (by decide) w_3 (fun _ h9 => h9) rfl dX1_lyingFor_38 ?_
            refine lv_iload hx hb dX1_lyingFor_41 (lv_at hl 4 rfl) ?_
            replace hm := gdo hm hz
            obtain ⟨gi_9, hm⟩ := hm
            refine va_iald hx hb hK.1 hP 3 0 (cA := cA 0) (n := 30) (f := g_o_serves) rfl rfl (ixi gi_9) dX1_lyingFor_43 ?_
            refine vp_callSi (va_Run.run (va_runSN (As := [.int p1, .int (g_o_serves x_2.toNatClampNeg)]) (rest := []) ⟨hx, hb, hml, hown, hts⟩ (c_X7_isIn l G cA p1 (g_o_serves x_2.toNatClampNeg) _ rfl (bnz hm hz)) ⟨va_cnB (host := "ParcelRegistry") 2 hts gX1_lyingFor_X7_isIn_n47 rfl rfl rfl (hK.2 (RX1, 47, yX7_isIn) (List.mem_of_getElem? (i := 12) rfl)) w_4 (by decide +kernel) ⟨Nat.le_of_ble_eq_true rfl, Nat.le_of_ble_eq_true rfl⟩, w_5, trivial⟩ (preRS (hP.sub [] rfl) hK) rfl rfl hl.1 rfl (lv_room (Nat.le_of_ble_eq_true rfl)) dX1_lyingFor_44 ⟨Nat.zero_le _, Nat.zero_le _⟩)) (fun r_10 hw => ?_)
            replace hm := bst hm hw.1
            refine lv_if_eq (tgt := 62) hx hb dX1_lyingFor_47 (by decide) (fun c_11 => ?_) (fun c_11 => ?_)
            · replace hm := it hm c_11
              refine lv_iinc (v := x_2 + (1 : Int32)) (lv' := [(4, .int (x_2 + (1 : Int32))), (0, .ref o), (1, .int p1), (2, .int p2), (3, .int x_1)]) hx hb dX1_lyingFor_62 hl (k := 4) rfl rfl (by decide) rfl (fun ls hl => ?_)
              refine lv_goto (tgt := 5) hx hb dX1_lyingFor_65 (by decide) ?_
              exact ih5 x_1 (x_2 + (1 : Int32)) _ hm (lv_sub hl [1, 2, 3, 4, 0] rfl)
            · replace hm := ie hm c_11
              refine lv_iload_n hx hb dX1_lyingFor_50 rfl (lv_at hl 3 rfl) ?_
              refine lv_iconst (v := (1 : Int32)) hx hb dX1_lyingFor_51 (by decide) ?_
              refine lv_aload_n hx hb dX1_lyingFor_52 rfl (lv_at hl 0 rfl) ?_
              refine va_get (D := G) (ci := 3) (v := .ref o_on) (C := RX1) (T := TX1) (N := 6) hx hb hts i_X1 hown hK.1 hP 0 rfl rfl 2 (by decide) w_6 (fun _ h9 => h9) rfl dX1_lyingFor_53 ?_
              refine lv_iload hx hb dX1_lyingFor_56 (lv_at hl 4 rfl) ?_
              replace hm := gdo hm hz
              obtain ⟨gi_12, hm⟩ := hm
              refine va_iald hx hb hK.1 hP 2 0 (cA := cA 0) (n := 30) (f := g_o_on) rfl rfl (ixi gi_12) dX1_lyingFor_58 ?_
              refine lv_ishl hx hb dX1_lyingFor_59 ?_
              refine lv_ior hx hb dX1_lyingFor_60 ?_
              refine lv_topi (fun x_13 e_x_13 => ?_)
              replace hm := nmo hm e_x_13
              refine lv_istore_n (lv' := [(3, .int x_13), (0, .ref o), (1, .int p1), (2, .int p2), (4, .int x_2)]) hx hb dX1_lyingFor_61 rfl hl (by decide) rfl (fun ls hl => ?_)
              refine lv_iinc (v := x_2 + (1 : Int32)) (lv' := [(4, .int (x_2 + (1 : Int32))), (3, .int x_13), (0, .ref o), (1, .int p1), (2, .int p2)]) hx hb dX1_lyingFor_62 hl (k := 4) rfl rfl (by decide) rfl (fun ls hl => ?_)
              refine lv_goto (tgt := 5) hx hb dX1_lyingFor_65 (by decide) ?_
              exact ih5 x_13 (x_2 + (1 : Int32)) _ hm (lv_sub hl [2, 3, 4, 1, 0] rfl)
  exact L5_1 _ (0 : Int32) (0 : Int32) _ hm (lv_sub hl [2, 3, 4, 1, 0] rfl)
def m_X1_reachedFrom_L7 (v_o_count : Int32) (g_o_kind : Nat → Int32) (g_o_on : Nat → Int32) (g_o_serves : Nat → Int32) (g_o_lastDay : Nat → Int32) (p1 : Int32) (p2 : Int32) : ((Int32 × Int32) → Option (Int32)) → (Int32 × Int32) → Option (Int32) := fun rec_3 v => match v with
  | (x_1, x_2) => (if (24 : Int32) ≤ x_2 then some (x_1 &&& (((1 : Int32) <<< (p1 &&& 31)) ^^^ (-1 : Int32))) else Option.bind (m_X1_lyingFor x_1 p2 v_o_count g_o_kind g_o_on g_o_serves g_o_lastDay) (fun r_5 => rec_3 (x_1 ||| r_5, x_2 + (1 : Int32))))
def m_X1_reachedFrom (p1 : Int32) (p2 : Int32) (v_o_count : Int32) (g_o_kind : Nat → Int32) (g_o_on : Nat → Int32) (g_o_serves : Nat → Int32) (g_o_lastDay : Nat → Int32) : Option (Int32) := fuel (m_X1_reachedFrom_L7 v_o_count g_o_kind g_o_on g_o_serves g_o_lastDay p1 p2) FU ((1 : Int32) <<< (p1 &&& 31), (0 : Int32))
abbrev k_X1_reachedFrom (cA : Nat → ClassId) (o o_kind o_on o_serves o_firstDay o_lastDay : Nat) (v_o_count : Int32) (g_o_kind : Nat → Int32) (g_o_on : Nat → Int32) (g_o_serves : Nat → Int32) (g_o_lastDay : Nat → Int32) : va_W := [(o, .inr (3, [.int v_o_count, .ref o_kind, .ref o_on, .ref o_serves, .ref o_firstDay, .ref o_lastDay])), (o_kind, .inl (cA 0, 30, .inl g_o_kind)), (o_on, .inl (cA 0, 30, .inl g_o_on)), (o_serves, .inl (cA 0, 30, .inl g_o_serves)), (o_lastDay, .inl (cA 0, 30, .inl g_o_lastDay))]
set_option maxHeartbeats 4000000 in
set_option maxRecDepth 100000 in
/-- X1_reachedFrom: as its model -/
theorem c_X1_reachedFrom (l : Launch) (G : va_G) (cA : Nat → ClassId) (o o_kind o_on o_serves o_firstDay o_lastDay : Nat) (p1 : Int32) (p2 : Int32) (v_o_count : Int32) (g_o_kind : Nat → Int32) (g_o_on : Nat → Int32) (g_o_serves : Nat → Int32) (g_o_lastDay : Nat → Int32) (R : Option (Int32)) (hR : m_X1_reachedFrom p1 p2 v_o_count g_o_kind g_o_on g_o_serves g_o_lastDay = R) (hz : R ≠ none) : Met l yX1_reachedFrom wsX1_reachedFrom ({ frames := 2, cells := 0, slots := 0, locals := 45 } : Room) (va_Pc [.ref o, .int p1, .int p2] (PR G cA (k_X1_reachedFrom cA o o_kind o_on o_serves o_firstDay o_lastDay v_o_count g_o_kind g_o_on g_o_serves g_o_lastDay))) (vp_Si (fun r => R = some r)) 0 0 (fun _ => False) := by
  refine metR .int (by decide) rfl (Nat.le_of_ble_eq_true rfl) ?_
  intro p e s m av below meth c Q ls hx hb hml hts hown hP hK hl hret
  replace hl : lv_has ls 5 [(0, .ref o), (1, .int p1), (2, .int p2)] := hl
  have hm := hR
  unfold m_X1_reachedFrom at hm
  refine lv_iconst (v := (1 : Int32)) hx hb dX1_reachedFrom_0 (by decide) ?_
  refine lv_iload_n hx hb dX1_reachedFrom_1 rfl (lv_at hl 1 rfl) ?_
  refine lv_ishl hx hb dX1_reachedFrom_2 ?_
  refine lv_istore_n (lv' := [(3, .int ((1 : Int32) <<< (p1 &&& 31))), (0, .ref o), (1, .int p1), (2, .int p2)]) hx hb dX1_reachedFrom_3 rfl hl (by decide) rfl (fun ls hl => ?_)
  refine lv_iconst (v := (0 : Int32)) hx hb dX1_reachedFrom_4 (by decide) ?_
  refine lv_istore (lv' := [(4, .int (0 : Int32)), (3, .int ((1 : Int32) <<< (p1 &&& 31))), (0, .ref o), (1, .int p1), (2, .int p2)]) hx hb dX1_reachedFrom_5 hl (by decide) rfl (fun ls hl => ?_)
  have L7_1 : ∀ (n : Nat), ∀ (x_1 : Int32) (x_2 : Int32), ∀ (ls : Array Slot), fuel (m_X1_reachedFrom_L7 v_o_count g_o_kind g_o_on g_o_serves g_o_lastDay p1 p2) n (x_1, x_2) = R → lv_has ls 5 [(0, .ref o), (1, .int p1), (2, .int p2), (3, .int x_1), (4, .int x_2)] → W p l e ({ frames := 2, cells := 0, slots := 0, locals := 45 } : Room) s m av below meth c s.heap [] 0 0 Q (F0 m 7 ls []) := by
    intro n
    induction n with
    | zero =>
      intro x_1 x_2 ls hm hl
      exact (fu0 hm hz).elim
    | succ n ih7 =>
      intro x_1 x_2 ls hm hl
      replace hm := fus hm
      generalize fuel (m_X1_reachedFrom_L7 v_o_count g_o_kind g_o_on g_o_serves g_o_lastDay p1 p2) n = rec_3 at hm ih7
      unfold m_X1_reachedFrom_L7 at hm
      refine lv_iload hx hb dX1_reachedFrom_7 (lv_at hl 4 rfl) ?_
      refine lv_bipush (v := (24 : Int32)) hx hb dX1_reachedFrom_9 (by decide) ?_
      refine lv_icmp_ge (tgt := 29) hx hb dX1_reachedFrom_11 (by decide) (fun c_4 => ?_) (fun c_4 => ?_)
      · replace hm := it hm c_4
        refine lv_iload_n hx hb dX1_reachedFrom_29 rfl (lv_at hl 3 rfl) ?_
        refine lv_iconst (v := (1 : Int32)) hx hb dX1_reachedFrom_30 (by decide) ?_
        refine lv_iload_n hx hb dX1_reachedFrom_31 rfl (lv_at hl 1 rfl) ?_
        refine lv_ishl hx hb dX1_reachedFrom_32 ?_
        refine lv_iconst (v := (-1 : Int32)) hx hb dX1_reachedFrom_33 (by decide) ?_
        refine lv_ixor hx hb dX1_reachedFrom_34 ?_
        refine lv_iand hx hb dX1_reachedFrom_35 ?_
        exact hret _ _ _ dX1_reachedFrom_36 rfl hm.symm
      · replace hm := ie hm c_4
        refine lv_iload_n hx hb dX1_reachedFrom_14 rfl (lv_at hl 3 rfl) ?_
        refine lv_aload_n hx hb dX1_reachedFrom_15 rfl (lv_at hl 0 rfl) ?_
        refine lv_iload_n hx hb dX1_reachedFrom_16 rfl (lv_at hl 3 rfl) ?_
        refine lv_iload_n hx hb dX1_reachedFrom_17 rfl (lv_at hl 2 rfl) ?_
        refine vp_callSi (va_Run.run (va_runV (As := [.int x_1, .int p2]) (rest := [.int x_1]) ⟨hx, hb, hml, hown, hts⟩ (c_X1_lyingFor l G cA o o_kind o_on o_serves o_firstDay o_lastDay x_1 p2 v_o_count g_o_kind g_o_on g_o_serves g_o_lastDay _ rfl (bnz hm hz)) (cwV 2 hts gX1_reachedFrom_X1_lyingFor rfl rfl rfl (by decide +kernel) ⟨Nat.le_of_ble_eq_true rfl, Nat.le_of_ble_eq_true rfl⟩) (preRV (q := (RX1, TX1, 6)) (hP.sub [0, 1, 2, 3, 4] rfl) hK 0 rfl rfl) rfl rfl hl.1 rfl (lv_room (Nat.le_of_ble_eq_true rfl)) dX1_reachedFrom_18 ⟨Nat.zero_le _, Nat.zero_le _⟩)) (fun r_5 hw => ?_)
        replace hm := bst hm hw
        refine lv_ior hx hb dX1_reachedFrom_21 ?_
        refine lv_istore_n (lv' := [(3, .int (x_1 ||| r_5)), (0, .ref o), (1, .int p1), (2, .int p2), (4, .int x_2)]) hx hb dX1_reachedFrom_22 rfl hl (by decide) rfl (fun ls hl => ?_)
        refine lv_iinc (v := x_2 + (1 : Int32)) (lv' := [(4, .int (x_2 + (1 : Int32))), (3, .int (x_1 ||| r_5)), (0, .ref o), (1, .int p1), (2, .int p2)]) hx hb dX1_reachedFrom_23 hl (k := 4) rfl rfl (by decide) rfl (fun ls hl => ?_)
        refine lv_goto (tgt := 7) hx hb dX1_reachedFrom_26 (by decide) ?_
        exact ih7 (x_1 ||| r_5) (x_2 + (1 : Int32)) _ hm (lv_sub hl [2, 3, 4, 1, 0] rfl)
  exact L7_1 _ ((1 : Int32) <<< (p1 &&& 31)) (0 : Int32) _ hm (lv_sub hl [2, 3, 4, 1, 0] rfl)
