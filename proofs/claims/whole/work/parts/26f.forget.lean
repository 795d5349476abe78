/-! forget: models and walks, by program. -/
def m_X2_forget  : Option (Int32) := some (0 : Int32)
abbrev k_X2_forget (cA : Nat → ClassId) (o o_ring : Nat) (v_o_count : Int32) (v_o_next : Int32) : va_W := [(o, .inr (4, [.int v_o_count, .int v_o_next, .ref o_ring]))]
set_option maxHeartbeats 4000000 in
set_option maxRecDepth 100000 in
/-- X2_forget: as its model -/
theorem c_X2_forget (l : Launch) (G : va_G) (cA : Nat → ClassId) (o o_ring : Nat) (sz : Nat) (v_o_count : Int32) (v_o_next : Int32) (R : Option (Int32)) (hR : m_X2_forget = R) (hz : R ≠ none) : Met l yX2_forget wsX2_forget ({ frames := 0, cells := 0, slots := 0, locals := 0 } : Room) (va_Pc [.ref o] (PM G cA (k_X2_forget cA o o_ring v_o_count v_o_next) sz)) (va_Qv (fun (u : Int32) => R = some u) (BM G (fun (u : Int32) => (k_X2_forget cA o o_ring u v_o_next))) (va_A (k_X2_forget cA o o_ring v_o_count v_o_next) sz)) 0 0 (va_A (k_X2_forget cA o o_ring v_o_count v_o_next) sz) := by
  refine metV (by decide) rfl (Nat.le_of_ble_eq_true rfl) ?_
  intro p e s m av below meth c Q ls A H hx hb hml hts hown hP hK hD hA hS hl hret
  replace hl : lv_has ls 1 [(0, .ref o)] := hl
  have w_0 := hts (.fieldLink RX2 7 "ParcelRegistry$History" "count" "I") (by decide +kernel)
  have i_X2 : ∀ w ∈ wsX20, w ∈ wsX2_forget := by decide +kernel
  have hm := hR
  unfold m_X2_forget at hm
  refine lv_aload_n hx hb dX2_forget_0 rfl (lv_at hl 0 rfl) ?_
  refine lv_iconst (v := (0 : Int32)) hx hb dX2_forget_1 (by decide) ?_
  refine va_put (D := G) (ci := 4) (v := .int (0 : Int32)) (ty := .int) (C := RX2) (T := TX2) (N := 3) hx hb hts i_X2 tyX2 tyX2_ok nmX2 hown hK.1 hP hD hS 0 rfl rfl 0 (by decide) w_0 (fun _ h9 => h9) rfl (by decide +kernel) rfl rfl (Nat.le_of_ble_eq_true rfl) dX2_forget_2 (fun H locs hP' hD' hS' => ?_)
  replace hP : va_P G vwCl (k_X2_forget cA o o_ring (0 : Int32) v_o_next) H := hP'
  replace hD : va_D A (k_X2_forget cA o o_ring (0 : Int32) v_o_next) := hD'
  replace hS := hS'
  exact hret _ _ (0 : Int32) _ _ dX2_forget_5 hP hS hm.symm
