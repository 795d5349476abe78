/-! refusal: models and walks, by program. -/
def m_X7_isRefusal (p1 : Int32) : Option (Int32) := Option.bind (m_X7_isFrom p1 (1 : Int32) (6 : Int32)) (fun r_1 => gd (isb r_1) (some r_1))
abbrev k_X7_isRefusal (cA : Nat → ClassId)  : va_W := []
set_option maxHeartbeats 4000000 in
set_option maxRecDepth 100000 in
/-- X7_isRefusal: as its model -/
theorem c_X7_isRefusal (l : Launch) (G : va_G) (cA : Nat → ClassId) (p1 : Int32) (R : Option (Int32)) (hR : m_X7_isRefusal p1 = R) (hz : R ≠ none) : Met l yX7_isRefusal wsX7_isRefusal ({ frames := 1, cells := 0, slots := 0, locals := 22 } : Room) (va_Pc [.int p1] (PR G cA (k_X7_isRefusal cA))) (vp_Si (fun r => R = some r ∧ (r = 0 ∨ r = 1))) 0 0 (fun _ => False) := by
  refine metR .boolean (by decide) rfl (Nat.le_of_ble_eq_true rfl) ?_
  intro p e s m av below meth c Q ls hx hb hml hts hown hP hK hl hret
  replace hl : lv_has ls 1 [(0, .int p1)] := hl
  have hm := hR
  unfold m_X7_isRefusal at hm
  refine lv_iload_n hx hb dX7_isRefusal_0 rfl (lv_at hl 0 rfl) ?_
  refine lv_iconst (v := (1 : Int32)) hx hb dX7_isRefusal_1 (by decide) ?_
  refine lv_bipush (v := (6 : Int32)) hx hb dX7_isRefusal_2 (by decide) ?_
  refine vp_callSi (va_Run.run (va_runS (As := [.int p1, .int (1 : Int32), .int (6 : Int32)]) (rest := []) ⟨hx, hb, hml, hown, hts⟩ (c_X7_isFrom l G cA p1 (1 : Int32) (6 : Int32) _ rfl (bnz hm hz)) (va_cwS 3 hts gX7_isRefusal_X7_isFrom rfl rfl rfl (by decide +kernel) ⟨Nat.le_of_ble_eq_true rfl, Nat.le_of_ble_eq_true rfl⟩) (preRS (hP.sub [] rfl) hK) rfl rfl hl.1 rfl (lv_room (Nat.le_of_ble_eq_true rfl)) dX7_isRefusal_4 ⟨Nat.zero_le _, Nat.zero_le _⟩)) (fun r_1 hw => ?_)
  replace hm := bst hm hw.1
  replace hm := gdo hm hz
  obtain ⟨gb_2, hm⟩ := hm
  exact hret _ _ _ dX7_isRefusal_7 (nz (isbz gb_2)) ⟨hm.symm, (isbz gb_2)⟩
