/-! the text: models and walks, by program. -/
def m_X5_put (p1 : Int32) (v_o_length : Int32) (g_o_input : Nat → Int32) : Option (Int32 × (Nat → Int32)) := (if (80 : Int32) ≤ v_o_length then some (v_o_length, g_o_input) else gd (ix v_o_length 80) (some (v_o_length + (1 : Int32), upd g_o_input v_o_length.toNatClampNeg (vp_nar .char p1))))
abbrev k_X5_put (cA : Nat → ClassId) (o o_input o_words o_numbers : Nat) (v_o_length : Int32) (v_o_at : Int32) (v_o_commands : Int32) (g_o_input : Nat → Int32) : va_W := [(o, .inr (7, [.int v_o_length, .int v_o_at, .int v_o_commands, .ref o_input, .ref o_words, .ref o_numbers])), (o_input, .inl (cA 1, 80, .inl g_o_input))]
set_option maxHeartbeats 4000000 in
set_option maxRecDepth 100000 in
/-- X5_put: as its model -/
theorem c_X5_put (l : Launch) (G : va_G) (cA : Nat → ClassId) (o o_input o_words o_numbers : Nat) (sz : Nat) (p1 : Int32) (v_o_length : Int32) (v_o_at : Int32) (v_o_commands : Int32) (g_o_input : Nat → Int32) (R : Option (Int32 × (Nat → Int32))) (hR : m_X5_put p1 v_o_length g_o_input = R) (hz : R ≠ none) : Met l yX5_put wsX5_put ({ frames := 0, cells := 0, slots := 0, locals := 0 } : Room) (va_Pc [.ref o, .int p1] (PM G cA (k_X5_put cA o o_input o_words o_numbers v_o_length v_o_at v_o_commands g_o_input) sz)) (va_Qv (fun (u : Int32 × (Nat → Int32)) => R = some u) (BM G (fun (u : Int32 × (Nat → Int32)) => (k_X5_put cA o o_input o_words o_numbers u.1 v_o_at v_o_commands u.2))) (va_A (k_X5_put cA o o_input o_words o_numbers v_o_length v_o_at v_o_commands g_o_input) sz)) 0 0 (va_A (k_X5_put cA o o_input o_words o_numbers v_o_length v_o_at v_o_commands g_o_input) sz) := by
  refine metV (by decide) rfl (Nat.le_of_ble_eq_true rfl) ?_
  intro p e s m av below meth c Q ls A H hx hb hml hts hown hP hK hD hA hS hl hret
  replace hl : lv_has ls 2 [(0, .ref o), (1, .int p1)] := hl
  have w_0 := hts (.fieldLink RX5 9 "ParcelRegistry$Text" "length" "I") (by decide +kernel)
  have w_1 := hts (.fieldLink RX5 21 "ParcelRegistry$Text" "input" "[C") (by decide +kernel)
  have i_X5 : ∀ w ∈ wsX50, w ∈ wsX5_put := by decide +kernel
  have hm := hR
  unfold m_X5_put at hm
  refine lv_aload_n hx hb dX5_put_0 rfl (lv_at hl 0 rfl) ?_
  refine va_get (D := G) (ci := 7) (v := .int v_o_length) (C := RX5) (T := TX5) (N := 6) hx hb hts i_X5 hown hK.1 hP 0 rfl rfl 0 (by decide) w_0 (fun _ h9 => h9) rfl dX5_put_1 ?_
  refine lv_bipush (v := (80 : Int32)) hx hb dX5_put_4 (by decide) ?_
  refine lv_icmp_ge (tgt := 29) hx hb dX5_put_6 (by decide) (fun c_1 => ?_) (fun c_1 => ?_)
  · replace hm := it hm c_1
    exact hret _ _ (v_o_length, g_o_input) _ _ dX5_put_29 hP hS hm.symm
  · replace hm := ie hm c_1
    refine lv_aload_n hx hb dX5_put_9 rfl (lv_at hl 0 rfl) ?_
    refine va_get (D := G) (ci := 7) (v := .ref o_input) (C := RX5) (T := TX5) (N := 6) hx hb hts i_X5 hown hK.1 hP 0 rfl rfl 3 (by decide) w_1 (fun _ h9 => h9) rfl dX5_put_10 ?_
    refine lv_aload_n hx hb dX5_put_13 rfl (lv_at hl 0 rfl) ?_
    refine va_get (D := G) (ci := 7) (v := .int v_o_length) (C := RX5) (T := TX5) (N := 6) hx hb hts i_X5 hown hK.1 hP 0 rfl rfl 0 (by decide) w_0 (fun _ h9 => h9) rfl dX5_put_14 ?_
    refine lv_iload_n hx hb dX5_put_17 rfl (lv_at hl 1 rfl) ?_
    replace hm := gdo hm hz
    obtain ⟨gi_2, hm⟩ := hm
    refine va_cast hx hb hK.1 hP hD hS 1 1 (cA := cA 1) (n := 80) (f := g_o_input) rfl rfl (ixi gi_2) dX5_put_18 (fun H locs hP' hD' hS' => ?_)
    replace hP : va_P G vwCl (k_X5_put cA o o_input o_words o_numbers v_o_length v_o_at v_o_commands (upd g_o_input v_o_length.toNatClampNeg (vp_nar .char p1))) H := hP'
    replace hD : va_D A (k_X5_put cA o o_input o_words o_numbers v_o_length v_o_at v_o_commands (upd g_o_input v_o_length.toNatClampNeg (vp_nar .char p1))) := hD'
    replace hS := hS'
    refine lv_aload_n hx hb dX5_put_19 rfl (lv_at hl 0 rfl) ?_
    refine lv_dup hx hb dX5_put_20 rfl ?_
    refine va_get (D := G) (ci := 7) (v := .int v_o_length) (C := RX5) (T := TX5) (N := 6) hx hb hts i_X5 hown hK.1 hP 0 rfl rfl 0 (by decide) w_0 (fun _ h9 => h9) rfl dX5_put_21 ?_
    refine lv_iconst (v := (1 : Int32)) hx hb dX5_put_24 (by decide) ?_
    refine lv_iadd hx hb dX5_put_25 ?_
    refine va_put (D := G) (ci := 7) (v := .int (v_o_length + (1 : Int32))) (ty := .int) (C := RX5) (T := TX5) (N := 6) hx hb hts i_X5 tyX5 tyX5_ok nmX5 hown hK.1 hP hD hS 0 rfl rfl 0 (by decide) w_0 (fun _ h9 => h9) rfl (by decide +kernel) rfl rfl (Nat.le_of_ble_eq_true rfl) dX5_put_26 (fun H locs hP' hD' hS' => ?_)
    replace hP : va_P G vwCl (k_X5_put cA o o_input o_words o_numbers (v_o_length + (1 : Int32)) v_o_at v_o_commands (upd g_o_input v_o_length.toNatClampNeg (vp_nar .char p1))) H := hP'
    replace hD : va_D A (k_X5_put cA o o_input o_words o_numbers (v_o_length + (1 : Int32)) v_o_at v_o_commands (upd g_o_input v_o_length.toNatClampNeg (vp_nar .char p1))) := hD'
    replace hS := hS'
    exact hret _ _ (v_o_length + (1 : Int32), upd g_o_input v_o_length.toNatClampNeg (vp_nar .char p1)) _ _ dX5_put_29 hP hS hm.symm
def m_X5_lettering (p1 : Int32) : Option (Nat) := (if p1 = 0 then some 0 else if p1 = 1 then some 1 else if p1 = 2 then some 2 else if p1 = 3 then some 3 else if p1 = 4 then some 4 else some 5)
abbrev k_X5_lettering (cA : Nat → ClassId)  : va_W := []
set_option maxHeartbeats 4000000 in
set_option maxRecDepth 100000 in
/-- X5_lettering: as its model -/
theorem c_X5_lettering (l : Launch) (z : Nat → Nat) (G : va_G) (cA : Nat → ClassId) (p1 : Int32) (R : Option (Nat)) (hR : m_X5_lettering p1 = R) (hz : R ≠ none) : Met l yX5_lettering wsX5_lettering ({ frames := 0, cells := 0, slots := 0, locals := 0 } : Room) (va_Pc [.int p1] (PRo z G cA (k_X5_lettering cA))) (va_Sr (fun r => R = some r) (fun k => .ref (z k))) 0 0 (fun _ => False) := by
  refine metRs (by decide) rfl (Nat.le_of_ble_eq_true rfl) ?_
  intro p e s m av below meth c Q ls hx hb hml hts hown hP hK hT hO hl hret
  replace hl : lv_has ls 1 [(0, .int p1)] := hl
  have hS : va_S NoA s.heap s.heap [] := va_S.rf
  have hm := hR
  unfold m_X5_lettering at hm
  refine lv_iload_n hx hb dX5_lettering_0 rfl (lv_at hl 0 rfl) ?_
  by_cases c_1 : p1 = 0
  · replace hm := it hm c_1
    refine lv_tableIn (off := 35) (tgt := 36) hx hb dX5_lettering_1 (by rw [c_1]; decide) (by rw [c_1]; decide) (by rw [c_1]; rfl) (by decide) ?_
    refine va_ldcS hx hb hown (hT.1 (RX5, 80, "split", 0) (List.mem_of_getElem? (i := 0) rfl)) dX5_lettering_36 ?_
    exact hret _ _ _ dX5_lettering_38 hm.symm
  · replace hm := ie hm c_1
    by_cases c_2 : p1 = 1
    · replace hm := it hm c_2
      refine lv_tableIn (off := 38) (tgt := 39) hx hb dX5_lettering_1 (by rw [c_2]; decide) (by rw [c_2]; decide) (by rw [c_2]; rfl) (by decide) ?_
      refine va_ldcS hx hb hown (hT.1 (RX5, 82, "merge", 1) (List.mem_of_getElem? (i := 1) rfl)) dX5_lettering_39 ?_
      exact hret _ _ _ dX5_lettering_41 hm.symm
    · replace hm := ie hm c_2
      by_cases c_3 : p1 = 2
      · replace hm := it hm c_3
        refine lv_tableIn (off := 41) (tgt := 42) hx hb dX5_lettering_1 (by rw [c_3]; decide) (by rw [c_3]; decide) (by rw [c_3]; rfl) (by decide) ?_
        refine va_ldcS hx hb hown (hT.1 (RX5, 84, "deed", 2) (List.mem_of_getElem? (i := 2) rfl)) dX5_lettering_42 ?_
        exact hret _ _ _ dX5_lettering_44 hm.symm
      · replace hm := ie hm c_3
        by_cases c_4 : p1 = 3
        · replace hm := it hm c_4
          refine lv_tableIn (off := 44) (tgt := 45) hx hb dX5_lettering_1 (by rw [c_4]; decide) (by rw [c_4]; decide) (by rw [c_4]; rfl) (by decide) ?_
          refine va_ldcS hx hb hown (hT.1 (RX5, 86, "way", 3) (List.mem_of_getElem? (i := 3) rfl)) dX5_lettering_45 ?_
          exact hret _ _ _ dX5_lettering_47 hm.symm
        · replace hm := ie hm c_4
          by_cases c_5 : p1 = 4
          · replace hm := it hm c_5
            refine lv_tableIn (off := 47) (tgt := 48) hx hb dX5_lettering_1 (by rw [c_5]; decide) (by rw [c_5]; decide) (by rw [c_5]; rfl) (by decide) ?_
            refine va_ldcS hx hb hown (hT.1 (RX5, 88, "lien", 4) (List.mem_of_getElem? (i := 4) rfl)) dX5_lettering_48 ?_
            exact hret _ _ _ dX5_lettering_50 hm.symm
          · replace hm := ie hm c_5
            have tc_1 := lv_neT (a := 0) c_1 rfl
            have tc_2 := lv_neT (a := 1) c_2 rfl
            have tc_3 := lv_neT (a := 2) c_3 rfl
            have tc_4 := lv_neT (a := 3) c_4 rfl
            have tc_5 := lv_neT (a := 4) c_5 rfl
            refine lv_tableOut hx hb dX5_lettering_1 (by omega) (tgt := 51) (by decide) ?_
            refine va_ldcS hx hb hown (hT.1 (RX5, 90, "days", 5) (List.mem_of_getElem? (i := 5) rfl)) dX5_lettering_51 ?_
            exact hret _ _ _ dX5_lettering_53 hm.symm
def m_X5_isAt (p1 : Int32) (p2 : Int32) (v_o_length : Int32) (g_o_input : Nat → Int32) : Option (Int32) := (if p1 < 0 then some (0 : Int32) else (if v_o_length ≤ p1 then some (0 : Int32) else (if (80 : Int32) ≤ p1 then some (0 : Int32) else gd (ix p1 80) ((if (g_o_input p1.toNatClampNeg) = p2 then some (1 : Int32) else some (0 : Int32))))))
abbrev k_X5_isAt (cA : Nat → ClassId) (o o_input o_words o_numbers : Nat) (v_o_length : Int32) (v_o_at : Int32) (v_o_commands : Int32) (g_o_input : Nat → Int32) : va_W := [(o, .inr (7, [.int v_o_length, .int v_o_at, .int v_o_commands, .ref o_input, .ref o_words, .ref o_numbers])), (o_input, .inl (cA 1, 80, .inl g_o_input))]
set_option maxHeartbeats 4000000 in
set_option maxRecDepth 100000 in
/-- X5_isAt: as its model -/
theorem c_X5_isAt (l : Launch) (G : va_G) (cA : Nat → ClassId) (o o_input o_words o_numbers : Nat) (p1 : Int32) (p2 : Int32) (v_o_length : Int32) (v_o_at : Int32) (v_o_commands : Int32) (g_o_input : Nat → Int32) (R : Option (Int32)) (hR : m_X5_isAt p1 p2 v_o_length g_o_input = R) (hz : R ≠ none) : Met l yX5_isAt wsX5_isAt ({ frames := 0, cells := 0, slots := 0, locals := 0 } : Room) (va_Pc [.ref o, .int p1, .int p2] (PR G cA (k_X5_isAt cA o o_input o_words o_numbers v_o_length v_o_at v_o_commands g_o_input))) (vp_Si (fun r => R = some r ∧ (r = 0 ∨ r = 1))) 0 0 (fun _ => False) := by
  refine metR .boolean (by decide) rfl (Nat.le_of_ble_eq_true rfl) ?_
  intro p e s m av below meth c Q ls hx hb hml hts hown hP hK hl hret
  replace hl : lv_has ls 3 [(0, .ref o), (1, .int p1), (2, .int p2)] := hl
  have w_0 := hts (.fieldLink RX5 9 "ParcelRegistry$Text" "length" "I") (by decide +kernel)
  have w_1 := hts (.fieldLink RX5 21 "ParcelRegistry$Text" "input" "[C") (by decide +kernel)
  have i_X5 : ∀ w ∈ wsX50, w ∈ wsX5_isAt := by decide +kernel
  have hm := hR
  unfold m_X5_isAt at hm
  refine lv_iload_n hx hb dX5_isAt_0 rfl (lv_at hl 1 rfl) ?_
  refine lv_if_lt (tgt := 32) hx hb dX5_isAt_1 (by decide) (fun c_1 => ?_) (fun c_1 => ?_)
  · replace hm := it hm c_1
    refine lv_iconst (v := (0 : Int32)) hx hb dX5_isAt_32 (by decide) ?_
    exact hret _ _ _ dX5_isAt_33 rfl ⟨hm.symm, (by decide)⟩
  · replace hm := ie hm c_1
    refine lv_iload_n hx hb dX5_isAt_4 rfl (lv_at hl 1 rfl) ?_
    refine lv_aload_n hx hb dX5_isAt_5 rfl (lv_at hl 0 rfl) ?_
    refine va_get (D := G) (ci := 7) (v := .int v_o_length) (C := RX5) (T := TX5) (N := 6) hx hb hts i_X5 hown hK.1 hP 0 rfl rfl 0 (by decide) w_0 (fun _ h9 => h9) rfl dX5_isAt_6 ?_
    refine lv_icmp_ge (tgt := 32) hx hb dX5_isAt_9 (by decide) (fun c_2 => ?_) (fun c_2 => ?_)
    · replace hm := it hm c_2
      refine lv_iconst (v := (0 : Int32)) hx hb dX5_isAt_32 (by decide) ?_
      exact hret _ _ _ dX5_isAt_33 rfl ⟨hm.symm, (by decide)⟩
    · replace hm := ie hm c_2
      refine lv_iload_n hx hb dX5_isAt_12 rfl (lv_at hl 1 rfl) ?_
      refine lv_bipush (v := (80 : Int32)) hx hb dX5_isAt_13 (by decide) ?_
      refine lv_icmp_ge (tgt := 32) hx hb dX5_isAt_15 (by decide) (fun c_3 => ?_) (fun c_3 => ?_)
      · replace hm := it hm c_3
        refine lv_iconst (v := (0 : Int32)) hx hb dX5_isAt_32 (by decide) ?_
        exact hret _ _ _ dX5_isAt_33 rfl ⟨hm.symm, (by decide)⟩
      · replace hm := ie hm c_3
        refine lv_aload_n hx hb dX5_isAt_18 rfl (lv_at hl 0 rfl) ?_
        refine va_get (D := G) (ci := 7) (v := .ref o_input) (C := RX5) (T := TX5) (N := 6) hx hb hts i_X5 hown hK.1 hP 0 rfl rfl 3 (by decide) w_1 (fun _ h9 => h9) rfl dX5_isAt_19 ?_
        refine lv_iload_n hx hb dX5_isAt_22 rfl (lv_at hl 1 rfl) ?_
        replace hm := gdo hm hz
        obtain ⟨gi_4, hm⟩ := hm
        refine va_cald hx hb hK.1 hP 1 1 (cA := cA 1) (n := 80) (f := g_o_input) rfl rfl (ixi gi_4) dX5_isAt_23 ?_
        refine lv_iload_n hx hb dX5_isAt_24 rfl (lv_at hl 2 rfl) ?_
        refine lv_icmp_ne (tgt := 32) hx hb dX5_isAt_25 (by decide) (fun c_5 => ?_) (fun c_5 => ?_)
        · replace hm := ie hm c_5
          refine lv_iconst (v := (0 : Int32)) hx hb dX5_isAt_32 (by decide) ?_
          exact hret _ _ _ dX5_isAt_33 rfl ⟨hm.symm, (by decide)⟩
        · replace hm := it hm c_5
          refine lv_iconst (v := (1 : Int32)) hx hb dX5_isAt_28 (by decide) ?_
          refine lv_goto (tgt := 33) hx hb dX5_isAt_29 (by decide) ?_
          exact hret _ _ _ dX5_isAt_33 rfl ⟨hm.symm, (by decide)⟩
def m_X5_lettersOf_J36 (p1 : Nat) : (Unit) → Option (Int32) := fun _ => gd (decide (p1 < 6)) (nm (nI (lenS.getD p1 0)) (fun r_2 => some r_2))
def m_X5_lettersOf_L2 (v_o_length : Int32) (v_o_at : Int32) (g_o_input : Nat → Int32) (p1 : Nat) : ((Int32) → Option (Int32)) → (Int32) → Option (Int32) := fun rec_4 v => match v with
  | x_3 => gd (decide (p1 < 6)) (nm (nI (lenS.getD p1 0)) (fun r_6 => (if r_6 ≤ x_3 then m_X5_lettersOf_J36 p1 () else gd (decide (p1 < 6)) (gd (ix x_3 (lenS.getD p1 0)) (nm (sch ((bytS.getD p1 []).getD x_3.toNatClampNeg 0)) (fun r_9 => Option.bind (m_X5_isAt (v_o_at + x_3) r_9 v_o_length g_o_input) (fun r_11 => (if r_11 = 0 then some x_3 else rec_4 (x_3 + (1 : Int32))))))))))
def m_X5_lettersOf (p1 : Nat) (v_o_length : Int32) (v_o_at : Int32) (g_o_input : Nat → Int32) : Option (Int32) := fuel (m_X5_lettersOf_L2 v_o_length v_o_at g_o_input p1) FU (0 : Int32)
abbrev k_X5_lettersOf (cA : Nat → ClassId) (o o_input o_words o_numbers : Nat) (v_o_length : Int32) (v_o_at : Int32) (v_o_commands : Int32) (g_o_input : Nat → Int32) : va_W := [(o, .inr (7, [.int v_o_length, .int v_o_at, .int v_o_commands, .ref o_input, .ref o_words, .ref o_numbers])), (o_input, .inl (cA 1, 80, .inl g_o_input))]
set_option maxHeartbeats 4000000 in
set_option maxRecDepth 100000 in
/-- X5_lettersOf: as its model -/
theorem c_X5_lettersOf (l : Launch) (z : Nat → Nat) (G : va_G) (cA : Nat → ClassId) (o o_input o_words o_numbers : Nat) (p1 : Nat) (v_o_length : Int32) (v_o_at : Int32) (v_o_commands : Int32) (g_o_input : Nat → Int32) (R : Option (Int32)) (hR : m_X5_lettersOf p1 v_o_length v_o_at g_o_input = R) (hz : R ≠ none) : Met l yX5_lettersOf wsX5_lettersOf ({ frames := 4, cells := 0, slots := 0, locals := 85 } : Room) (va_Pc [.ref o, .ref (z p1)] (PRo z G cA (k_X5_lettersOf cA o o_input o_words o_numbers v_o_length v_o_at v_o_commands g_o_input))) (vp_Si (fun r => R = some r)) 0 0 (fun _ => False) := by
  refine metRo .int (by decide) rfl (Nat.le_of_ble_eq_true rfl) ?_
  intro p e s m av below meth c Q ls hx hb hml hts hown hP hK hT hO hl hret
  replace hl : lv_has ls 3 [(0, .ref o), (1, .ref (z p1))] := hl
  have w_0 := hts (.fieldLink RX5 15 "ParcelRegistry$Text" "at" "I") (by decide +kernel)
  have i_X5 : ∀ w ∈ wsX50, w ∈ wsX5_lettersOf := by decide +kernel
  have hS : va_S NoA s.heap s.heap [] := va_S.rf
  have hm := hR
  unfold m_X5_lettersOf at hm
  refine lv_iconst (v := (0 : Int32)) hx hb dX5_lettersOf_0 (by decide) ?_
  refine lv_istore_n (lv' := [(2, .int (0 : Int32)), (0, .ref o), (1, .ref (z p1))]) hx hb dX5_lettersOf_1 rfl hl (by decide) rfl (fun ls hl => ?_)
  have J36_1 :  ∀ (ls : Array Slot), m_X5_lettersOf_J36 p1 () = R → lv_has ls 3 [(1, .ref (z p1))] → W p l e ({ frames := 4, cells := 0, slots := 0, locals := 85 } : Room) s m av below meth c s.heap [] 0 0 Q (F0 m 36 ls []) := by
    intro ls hm hl
    unfold m_X5_lettersOf_J36 at hm
    refine lv_aload_n hx hb dX5_lettersOf_36 rfl (lv_at hl 0 rfl) ?_
    replace hm := gdo hm hz
    obtain ⟨hs_1, hm⟩ := hm
    replace hs_1 := of_decide_eq_true hs_1
    refine vp_callSi (va_Run.run (va_runV (As := []) (rest := []) ⟨hx, hb, hml, hown, hts⟩ (c_strlen l (z p1) (z (6 + p1)) (lenS.getD p1 0) (fun j => (bytS.getD p1 []).getD j 0)) (cwV 0 hts gX5_lettersOf_J0_length_8abf5 rfl rfl rfl (by decide +kernel) ⟨Nat.le_of_ble_eq_true rfl, Nat.le_of_ble_eq_true rfl⟩) ⟨blSZ, va_Orecv ((hO.1.1 p1 hs_1).1) hS, fun U hU hW => ⟨rfl, SZ.of hO hS hU hW.alike p1 hs_1⟩⟩ rfl rfl hl.1 rfl (lv_room (Nat.le_of_ble_eq_true rfl)) dX5_lettersOf_37 ⟨Nat.zero_le _, Nat.zero_le _⟩)) (fun r_2 hw => ?_)
    replace hm := nmo hm hw
    exact hret _ _ _ dX5_lettersOf_40 rfl hm.symm
  have L2_2 : ∀ (n : Nat), ∀ (x_3 : Int32), ∀ (ls : Array Slot), fuel (m_X5_lettersOf_L2 v_o_length v_o_at g_o_input p1) n x_3 = R → lv_has ls 3 [(0, .ref o), (1, .ref (z p1)), (2, .int x_3)] → W p l e ({ frames := 4, cells := 0, slots := 0, locals := 85 } : Room) s m av below meth c s.heap [] 0 0 Q (F0 m 2 ls []) := by
    intro n
    induction n with
    | zero =>
      intro x_3 ls hm hl
      exact (fu0 hm hz).elim
    | succ n ih2 =>
      intro x_3 ls hm hl
      replace hm := fus hm
      generalize fuel (m_X5_lettersOf_L2 v_o_length v_o_at g_o_input p1) n = rec_4 at hm ih2
      unfold m_X5_lettersOf_L2 at hm
      refine lv_iload_n hx hb dX5_lettersOf_2 rfl (lv_at hl 2 rfl) ?_
      refine lv_aload_n hx hb dX5_lettersOf_3 rfl (lv_at hl 1 rfl) ?_
      replace hm := gdo hm hz
      obtain ⟨hs_5, hm⟩ := hm
      replace hs_5 := of_decide_eq_true hs_5
      refine vp_callSi (va_Run.run (va_runV (As := []) (rest := [.int x_3]) ⟨hx, hb, hml, hown, hts⟩ (c_strlen l (z p1) (z (6 + p1)) (lenS.getD p1 0) (fun j => (bytS.getD p1 []).getD j 0)) (cwV 0 hts gX5_lettersOf_J0_length_8abf5 rfl rfl rfl (by decide +kernel) ⟨Nat.le_of_ble_eq_true rfl, Nat.le_of_ble_eq_true rfl⟩) ⟨blSZ, va_Orecv ((hO.1.1 p1 hs_5).1) hS, fun U hU hW => ⟨rfl, SZ.of hO hS hU hW.alike p1 hs_5⟩⟩ rfl rfl hl.1 rfl (lv_room (Nat.le_of_ble_eq_true rfl)) dX5_lettersOf_4 ⟨Nat.zero_le _, Nat.zero_le _⟩)) (fun r_6 hw => ?_)
      replace hm := nmo hm hw
      refine lv_icmp_ge (tgt := 36) hx hb dX5_lettersOf_7 (by decide) (fun c_7 => ?_) (fun c_7 => ?_)
      · replace hm := it hm c_7
        exact J36_1  _ hm (lv_sub hl [1] rfl)
      · replace hm := ie hm c_7
        refine lv_aload_n hx hb dX5_lettersOf_10 rfl (lv_at hl 0 rfl) ?_
        refine lv_aload_n hx hb dX5_lettersOf_11 rfl (lv_at hl 0 rfl) ?_
        refine va_get (D := G) (ci := 7) (v := .int v_o_at) (C := RX5) (T := TX5) (N := 6) hx hb hts i_X5 hown hK.1 hP 0 rfl rfl 1 (by decide) w_0 (fun _ h9 => h9) rfl dX5_lettersOf_12 ?_
        refine lv_iload_n hx hb dX5_lettersOf_15 rfl (lv_at hl 2 rfl) ?_
        refine lv_iadd hx hb dX5_lettersOf_16 ?_
        refine lv_aload_n hx hb dX5_lettersOf_17 rfl (lv_at hl 1 rfl) ?_
        refine lv_iload_n hx hb dX5_lettersOf_18 rfl (lv_at hl 2 rfl) ?_
        replace hm := gdo hm hz
        obtain ⟨hs_8, hm⟩ := hm
        replace hs_8 := of_decide_eq_true hs_8
        replace hm := gdo hm hz
        obtain ⟨gi_10, hm⟩ := hm
        refine vp_callSi (va_Run.run (va_runV (As := [.int x_3]) (rest := [.int (v_o_at + x_3), .ref o]) ⟨hx, hb, hml, hown, hts⟩ (c_charAt l (z p1) (z (6 + p1)) (lenS.getD p1 0) (fun j => (bytS.getD p1 []).getD j 0) x_3 (lenS_lt _) (ixi gi_10)) (cwV 1 hts gX5_lettersOf_J0_charAt_5068e rfl rfl rfl (by decide +kernel) ⟨Nat.le_of_ble_eq_true rfl, Nat.le_of_ble_eq_true rfl⟩) ⟨blSZ, va_Orecv ((hO.1.1 p1 hs_8).1) hS, fun U hU hW => ⟨rfl, SZ.of hO hS hU hW.alike p1 hs_8⟩⟩ rfl rfl hl.1 rfl (lv_room (Nat.le_of_ble_eq_true rfl)) dX5_lettersOf_19 ⟨Nat.zero_le _, Nat.zero_le _⟩)) (fun r_9 hw => ?_)
        replace hm := nmo hm hw
        refine vp_callSi (va_Run.run (va_runV (As := [.int (v_o_at + x_3), .int r_9]) (rest := []) ⟨hx, hb, hml, hown, hts⟩ (c_X5_isAt l G cA o o_input o_words o_numbers (v_o_at + x_3) r_9 v_o_length v_o_at v_o_commands g_o_input _ rfl (bnz hm hz)) (cwV 2 hts gX5_lettersOf_X5_isAt rfl rfl rfl (by decide +kernel) ⟨Nat.le_of_ble_eq_true rfl, Nat.le_of_ble_eq_true rfl⟩) (preRV (q := (RX5, TX5, 6)) (hP.sub [0, 1] rfl) hK 0 rfl rfl) rfl rfl hl.1 rfl (lv_room (Nat.le_of_ble_eq_true rfl)) dX5_lettersOf_22 ⟨Nat.zero_le _, Nat.zero_le _⟩)) (fun r_11 hw => ?_)
        replace hm := bst hm hw.1
        refine lv_if_ne (tgt := 30) hx hb dX5_lettersOf_25 (by decide) (fun c_12 => ?_) (fun c_12 => ?_)
        · replace hm := ie hm c_12
          refine lv_iinc (v := x_3 + (1 : Int32)) (lv' := [(2, .int (x_3 + (1 : Int32))), (0, .ref o), (1, .ref (z p1))]) hx hb dX5_lettersOf_30 hl (k := 2) rfl rfl (by decide) rfl (fun ls hl => ?_)
          refine lv_goto (tgt := 2) hx hb dX5_lettersOf_33 (by decide) ?_
          exact ih2 (x_3 + (1 : Int32)) _ hm (lv_sub hl [1, 2, 0] rfl)
        · replace hm := it hm c_12
          refine lv_iload_n hx hb dX5_lettersOf_28 rfl (lv_at hl 2 rfl) ?_
          exact hret _ _ _ dX5_lettersOf_29 rfl hm.symm
  exact L2_2 _ (0 : Int32) _ hm (lv_sub hl [1, 2, 0] rfl)
def m_X5_scanWord_L4 (v_o_length : Int32) (v_o_at : Int32) (g_o_input : Nat → Int32) : ((Int32 × Int32) → Option (Int32 × Int32)) → (Int32 × Int32) → Option (Int32 × Int32) := fun rec_3 v => match v with
  | (x_1, x_2) => (if (6 : Int32) ≤ x_2 then some ((-1 : Int32), v_o_at + x_1) else Option.bind (m_X5_lettering x_2) (fun t_5 => Option.bind (m_X5_lettersOf t_5 v_o_length v_o_at g_o_input) (fun r_6 => Option.bind (m_X5_lettering x_2) (fun t_7 => gd (decide (t_7 < 6)) (nm (nI (lenS.getD t_7 0)) (fun r_9 => (if r_6 = r_9 then some (x_2, v_o_at + r_6) else rec_3 (if x_1 < r_6 then r_6 else x_1, x_2 + (1 : Int32)))))))))
def m_X5_scanWord (v_o_length : Int32) (v_o_at : Int32) (g_o_input : Nat → Int32) : Option (Int32 × Int32) := fuel (m_X5_scanWord_L4 v_o_length v_o_at g_o_input) FU ((0 : Int32), (0 : Int32))
abbrev k_X5_scanWord (cA : Nat → ClassId) (o o_input o_words o_numbers : Nat) (v_o_length : Int32) (v_o_at : Int32) (v_o_commands : Int32) (g_o_input : Nat → Int32) : va_W := [(o, .inr (7, [.int v_o_length, .int v_o_at, .int v_o_commands, .ref o_input, .ref o_words, .ref o_numbers])), (o_input, .inl (cA 1, 80, .inl g_o_input))]
set_option maxHeartbeats 4000000 in
set_option maxRecDepth 100000 in
/-- X5_scanWord: as its model -/
theorem c_X5_scanWord (l : Launch) (z : Nat → Nat) (G : va_G) (cA : Nat → ClassId) (o o_input o_words o_numbers : Nat) (sz : Nat) (v_o_length : Int32) (v_o_at : Int32) (v_o_commands : Int32) (g_o_input : Nat → Int32) (R : Option (Int32 × Int32)) (hR : m_X5_scanWord v_o_length v_o_at g_o_input = R) (hz : R ≠ none) : Met l yX5_scanWord wsX5_scanWord ({ frames := 5, cells := 0, slots := 0, locals := 107 } : Room) (va_Pc [.ref o] (PMo z G cA (k_X5_scanWord cA o o_input o_words o_numbers v_o_length v_o_at v_o_commands g_o_input) sz)) (va_Qi (fun (r : Int32) (u : Int32) => R = some (r, u)) (BM G (fun (u : Int32) => (k_X5_scanWord cA o o_input o_words o_numbers v_o_length u v_o_commands g_o_input))) (va_A (k_X5_scanWord cA o o_input o_words o_numbers v_o_length v_o_at v_o_commands g_o_input) sz)) 0 0 (va_A (k_X5_scanWord cA o o_input o_words o_numbers v_o_length v_o_at v_o_commands g_o_input) sz) := by
  refine metMo .int (by decide) rfl (Nat.le_of_ble_eq_true rfl) ?_
  intro p e s m av below meth c Q ls A H hx hb hml hts hown hP hK hT hO hD hA hS hl hret
  replace hl : lv_has ls 4 [(0, .ref o)] := hl
  have w_0 := hts (.fieldLink RX5 15 "ParcelRegistry$Text" "at" "I") (by decide +kernel)
  have w_1 := hts (.methodLink RX5 59 Lib.Math.max.name) (by decide +kernel)
  have w_2 := hts (.static Lib.Math.max.name) (by decide +kernel)
  have w_3 := hts (.initialized "java/lang/Math") (by decide +kernel)
  have w_4 := hts (.code Lib.Math.max.name Lib.Math.max.code 2 (some .int)) (by decide +kernel)
  have i_X5 : ∀ w ∈ wsX50, w ∈ wsX5_scanWord := by decide +kernel
  have hm := hR
  unfold m_X5_scanWord at hm
  refine lv_iconst (v := (0 : Int32)) hx hb dX5_scanWord_0 (by decide) ?_
  refine lv_istore_n (lv' := [(1, .int (0 : Int32)), (0, .ref o)]) hx hb dX5_scanWord_1 rfl hl (by decide) rfl (fun ls hl => ?_)
  refine lv_iconst (v := (0 : Int32)) hx hb dX5_scanWord_2 (by decide) ?_
  refine lv_istore_n (lv' := [(2, .int (0 : Int32)), (1, .int (0 : Int32)), (0, .ref o)]) hx hb dX5_scanWord_3 rfl hl (by decide) rfl (fun ls hl => ?_)
  have L4_1 : ∀ (n : Nat), ∀ (x_1 : Int32) (x_2 : Int32), ∀ (H : Heap) (locs : List Loc) (ls : Array Slot), fuel (m_X5_scanWord_L4 v_o_length v_o_at g_o_input) n (x_1, x_2) = R → va_P G vwCl (k_X5_scanWord cA o o_input o_words o_numbers v_o_length v_o_at v_o_commands g_o_input) H → va_D A (k_X5_scanWord cA o o_input o_words o_numbers v_o_length v_o_at v_o_commands g_o_input) → va_S A s.heap H locs → lv_has ls 4 [(0, .ref o), (1, .int x_1), (2, .int x_2)] → W p l e ({ frames := 5, cells := 0, slots := 0, locals := 107 } : Room) s m av below meth c H locs 0 0 Q (F0 m 4 ls []) := by
    intro n
    induction n with
    | zero =>
      intro x_1 x_2 H locs ls hm hP hD hS hl
      exact (fu0 hm hz).elim
    | succ n ih4 =>
      intro x_1 x_2 H locs ls hm hP hD hS hl
      replace hm := fus hm
      generalize fuel (m_X5_scanWord_L4 v_o_length v_o_at g_o_input) n = rec_3 at hm ih4
      unfold m_X5_scanWord_L4 at hm
      refine lv_iload_n hx hb dX5_scanWord_4 rfl (lv_at hl 2 rfl) ?_
      refine lv_bipush (v := (6 : Int32)) hx hb dX5_scanWord_5 (by decide) ?_
      refine lv_icmp_ge (tgt := 54) hx hb dX5_scanWord_7 (by decide) (fun c_4 => ?_) (fun c_4 => ?_)
      · replace hm := it hm c_4
        refine lv_aload_n hx hb dX5_scanWord_54 rfl (lv_at hl 0 rfl) ?_
        refine lv_dup hx hb dX5_scanWord_55 rfl ?_
        refine va_get (D := G) (ci := 7) (v := .int v_o_at) (C := RX5) (T := TX5) (N := 6) hx hb hts i_X5 hown hK.1 hP 0 rfl rfl 1 (by decide) w_0 (fun _ h9 => h9) rfl dX5_scanWord_56 ?_
        refine lv_iload_n hx hb dX5_scanWord_59 rfl (lv_at hl 1 rfl) ?_
        refine lv_iadd hx hb dX5_scanWord_60 ?_
        refine va_put (D := G) (ci := 7) (v := .int (v_o_at + x_1)) (ty := .int) (C := RX5) (T := TX5) (N := 6) hx hb hts i_X5 tyX5 tyX5_ok nmX5 hown hK.1 hP hD hS 0 rfl rfl 1 (by decide) w_0 (fun _ h9 => h9) rfl (by decide +kernel) rfl rfl (Nat.le_of_ble_eq_true rfl) dX5_scanWord_61 (fun H locs hP' hD' hS' => ?_)
        replace hP : va_P G vwCl (k_X5_scanWord cA o o_input o_words o_numbers v_o_length (v_o_at + x_1) v_o_commands g_o_input) H := hP'
        replace hD : va_D A (k_X5_scanWord cA o o_input o_words o_numbers v_o_length (v_o_at + x_1) v_o_commands g_o_input) := hD'
        replace hS := hS'
        refine lv_iconst (v := (-1 : Int32)) hx hb dX5_scanWord_64 (by decide) ?_
        exact hret _ _ _ (v_o_at + x_1) _ _ dX5_scanWord_65 rfl hP hS hm.symm
      · replace hm := ie hm c_4
        refine lv_aload_n hx hb dX5_scanWord_10 rfl (lv_at hl 0 rfl) ?_
        refine lv_iload_n hx hb dX5_scanWord_11 rfl (lv_at hl 2 rfl) ?_
        refine va_csr (va_Run.run (va_runS (As := [.int x_2]) (rest := [.ref o]) ⟨hx, hb, hml, hown, hts⟩ (c_X5_lettering l z G cA x_2 _ rfl (bnz hm hz)) (va_cwS 1 hts gX5_scanWord_X5_lettering rfl rfl rfl (by decide +kernel) ⟨Nat.le_of_ble_eq_true rfl, Nat.le_of_ble_eq_true rfl⟩) (preRSo (hP.sub [] rfl) hK hT hO hS) rfl rfl hl.1 rfl (lv_room (Nat.le_of_ble_eq_true rfl)) dX5_scanWord_12 ⟨Nat.zero_le _, Nat.zero_le _⟩)) (fun t_5 hw => ?_)
        replace hm := bst hm hw
        refine vp_callSi (va_Run.run (va_runV (As := [.ref (z t_5)]) (rest := []) ⟨hx, hb, hml, hown, hts⟩ (c_X5_lettersOf l z G cA o o_input o_words o_numbers t_5 v_o_length v_o_at v_o_commands g_o_input _ rfl (bnz hm hz)) (cwV 1 hts gX5_scanWord_X5_lettersOf rfl rfl rfl (by decide +kernel) ⟨Nat.le_of_ble_eq_true rfl, Nat.le_of_ble_eq_true rfl⟩) (preRVo (q := (RX5, TX5, 6)) (hP.sub [0, 1] rfl) hK hT hO hS 0 rfl rfl) rfl rfl hl.1 rfl (lv_room (Nat.le_of_ble_eq_true rfl)) dX5_scanWord_15 ⟨Nat.zero_le _, Nat.zero_le _⟩)) (fun r_6 hw => ?_)
        replace hm := bst hm hw
        refine lv_istore_n (lv' := [(3, .int r_6), (0, .ref o), (1, .int x_1), (2, .int x_2)]) hx hb dX5_scanWord_18 rfl hl (by decide) rfl (fun ls hl => ?_)
        refine lv_iload_n hx hb dX5_scanWord_19 rfl (lv_at hl 2 rfl) ?_
        refine lv_iload_n hx hb dX5_scanWord_20 rfl (lv_at hl 0 rfl) ?_
        refine va_mmax hx hb (hml.trans hl.1.symm) hown w_1 w_2 w_3 w_4 (Nat.le_of_ble_eq_true rfl) (Nat.le_of_ble_eq_true rfl) (Nat.zero_le _) (Nat.zero_le _) dX5_scanWord_21 ?_
        refine lv_istore_n (lv' := [(1, .int (if x_1 < r_6 then r_6 else x_1)), (3, .int r_6), (0, .ref o), (2, .int x_2)]) hx hb dX5_scanWord_24 rfl hl (by decide) rfl (fun ls hl => ?_)
        refine lv_iload_n hx hb dX5_scanWord_25 rfl (lv_at hl 1 rfl) ?_
        refine lv_iload_n hx hb dX5_scanWord_26 rfl (lv_at hl 3 rfl) ?_
        refine va_csr (va_Run.run (va_runS (As := [.int x_2]) (rest := [.int r_6]) ⟨hx, hb, hml, hown, hts⟩ (c_X5_lettering l z G cA x_2 _ rfl (bnz hm hz)) (va_cwS 1 hts gX5_scanWord_X5_lettering rfl rfl rfl (by decide +kernel) ⟨Nat.le_of_ble_eq_true rfl, Nat.le_of_ble_eq_true rfl⟩) (preRSo (hP.sub [] rfl) hK hT hO hS) rfl rfl hl.1 rfl (lv_room (Nat.le_of_ble_eq_true rfl)) dX5_scanWord_27 ⟨Nat.zero_le _, Nat.zero_le _⟩)) (fun t_7 hw => ?_)
        replace hm := bst hm hw
        replace hm := gdo hm hz
        obtain ⟨hs_8, hm⟩ := hm
        replace hs_8 := of_decide_eq_true hs_8
        refine vp_callSi (va_Run.run (va_runV (As := []) (rest := [.int r_6]) ⟨hx, hb, hml, hown, hts⟩ (c_strlen l (z t_7) (z (6 + t_7)) (lenS.getD t_7 0) (fun j => (bytS.getD t_7 []).getD j 0)) (cwV 0 hts gX5_scanWord_J0_length_8abf5 rfl rfl rfl (by decide +kernel) ⟨Nat.le_of_ble_eq_true rfl, Nat.le_of_ble_eq_true rfl⟩) ⟨blSZ, va_Orecv ((hO.1.1 t_7 hs_8).1) hS, fun U hU hW => ⟨rfl, SZ.of hO hS hU hW.alike t_7 hs_8⟩⟩ rfl rfl hl.1 rfl (lv_room (Nat.le_of_ble_eq_true rfl)) dX5_scanWord_30 ⟨Nat.zero_le _, Nat.zero_le _⟩)) (fun r_9 hw => ?_)
        replace hm := nmo hm hw
        refine lv_icmp_ne (tgt := 48) hx hb dX5_scanWord_33 (by decide) (fun c_10 => ?_) (fun c_10 => ?_)
        · replace hm := ie hm c_10
          refine lv_iinc (v := x_2 + (1 : Int32)) (lv' := [(2, .int (x_2 + (1 : Int32))), (1, .int (if x_1 < r_6 then r_6 else x_1)), (3, .int r_6), (0, .ref o)]) hx hb dX5_scanWord_48 hl (k := 3) rfl rfl (by decide) rfl (fun ls hl => ?_)
          refine lv_goto (tgt := 4) hx hb dX5_scanWord_51 (by decide) ?_
          exact ih4 (if x_1 < r_6 then r_6 else x_1) (x_2 + (1 : Int32)) _ _ _ hm hP hD hS (lv_sub hl [3, 1, 0] rfl)
        · replace hm := it hm c_10
          refine lv_aload_n hx hb dX5_scanWord_36 rfl (lv_at hl 2 rfl) ?_
          refine lv_dup hx hb dX5_scanWord_37 rfl ?_
          refine va_get (D := G) (ci := 7) (v := .int v_o_at) (C := RX5) (T := TX5) (N := 6) hx hb hts i_X5 hown hK.1 hP 0 rfl rfl 1 (by decide) w_0 (fun _ h9 => h9) rfl dX5_scanWord_38 ?_
          refine lv_iload_n hx hb dX5_scanWord_41 rfl (lv_at hl 1 rfl) ?_
          refine lv_iadd hx hb dX5_scanWord_42 ?_
          refine va_put (D := G) (ci := 7) (v := .int (v_o_at + r_6)) (ty := .int) (C := RX5) (T := TX5) (N := 6) hx hb hts i_X5 tyX5 tyX5_ok nmX5 hown hK.1 hP hD hS 0 rfl rfl 1 (by decide) w_0 (fun _ h9 => h9) rfl (by decide +kernel) rfl rfl (Nat.le_of_ble_eq_true rfl) dX5_scanWord_43 (fun H locs hP' hD' hS' => ?_)
          replace hP : va_P G vwCl (k_X5_scanWord cA o o_input o_words o_numbers v_o_length (v_o_at + r_6) v_o_commands g_o_input) H := hP'
          replace hD : va_D A (k_X5_scanWord cA o o_input o_words o_numbers v_o_length (v_o_at + r_6) v_o_commands g_o_input) := hD'
          replace hS := hS'
          refine lv_iload_n hx hb dX5_scanWord_46 rfl (lv_at hl 3 rfl) ?_
          exact hret _ _ _ (v_o_at + r_6) _ _ dX5_scanWord_47 rfl hP hS hm.symm
  exact L4_1 _ (0 : Int32) (0 : Int32) _ _ _ hm hP hD hS (lv_sub hl [2, 1, 0] rfl)
def m_X5_numbersOf (p1 : Int32) : Option (Int32) := (if p1 = 2 then some (3 : Int32) else if p1 = 3 then some (2 : Int32) else if p1 = 4 then some (3 : Int32) else if p1 = 5 then some (1 : Int32) else some (2 : Int32))
abbrev k_X5_numbersOf (cA : Nat → ClassId)  : va_W := []
set_option maxHeartbeats 4000000 in
set_option maxRecDepth 100000 in
/-- X5_numbersOf: as its model -/
theorem c_X5_numbersOf (l : Launch) (G : va_G) (cA : Nat → ClassId) (p1 : Int32) (R : Option (Int32)) (hR : m_X5_numbersOf p1 = R) (hz : R ≠ none) : Met l yX5_numbersOf wsX5_numbersOf ({ frames := 0, cells := 0, slots := 0, locals := 0 } : Room) (va_Pc [.int p1] (PR G cA (k_X5_numbersOf cA))) (vp_Si (fun r => R = some r)) 0 0 (fun _ => False) := by
  refine metR .int (by decide) rfl (Nat.le_of_ble_eq_true rfl) ?_
  intro p e s m av below meth c Q ls hx hb hml hts hown hP hK hl hret
  replace hl : lv_has ls 1 [(0, .int p1)] := hl
  have hm := hR
  unfold m_X5_numbersOf at hm
  refine lv_iload_n hx hb dX5_numbersOf_0 rfl (lv_at hl 0 rfl) ?_
  by_cases c_1 : p1 = 2
  · replace hm := it hm c_1
    refine lv_tableIn (off := 31) (tgt := 32) hx hb dX5_numbersOf_1 (by rw [c_1]; decide) (by rw [c_1]; decide) (by rw [c_1]; rfl) (by decide) ?_
    refine lv_iconst (v := (3 : Int32)) hx hb dX5_numbersOf_32 (by decide) ?_
    exact hret _ _ _ dX5_numbersOf_33 rfl hm.symm
  · replace hm := ie hm c_1
    by_cases c_2 : p1 = 3
    · replace hm := it hm c_2
      refine lv_tableIn (off := 35) (tgt := 36) hx hb dX5_numbersOf_1 (by rw [c_2]; decide) (by rw [c_2]; decide) (by rw [c_2]; rfl) (by decide) ?_
      refine lv_iconst (v := (2 : Int32)) hx hb dX5_numbersOf_36 (by decide) ?_
      exact hret _ _ _ dX5_numbersOf_37 rfl hm.symm
    · replace hm := ie hm c_2
      by_cases c_3 : p1 = 4
      · replace hm := it hm c_3
        refine lv_tableIn (off := 31) (tgt := 32) hx hb dX5_numbersOf_1 (by rw [c_3]; decide) (by rw [c_3]; decide) (by rw [c_3]; rfl) (by decide) ?_
        refine lv_iconst (v := (3 : Int32)) hx hb dX5_numbersOf_32 (by decide) ?_
        exact hret _ _ _ dX5_numbersOf_33 rfl hm.symm
      · replace hm := ie hm c_3
        by_cases c_4 : p1 = 5
        · replace hm := it hm c_4
          refine lv_tableIn (off := 33) (tgt := 34) hx hb dX5_numbersOf_1 (by rw [c_4]; decide) (by rw [c_4]; decide) (by rw [c_4]; rfl) (by decide) ?_
          refine lv_iconst (v := (1 : Int32)) hx hb dX5_numbersOf_34 (by decide) ?_
          exact hret _ _ _ dX5_numbersOf_35 rfl hm.symm
        · replace hm := ie hm c_4
          have tc_1 := lv_neT (a := 2) c_1 rfl
          have tc_2 := lv_neT (a := 3) c_2 rfl
          have tc_3 := lv_neT (a := 4) c_3 rfl
          have tc_4 := lv_neT (a := 5) c_4 rfl
          refine lv_tableOut hx hb dX5_numbersOf_1 (by omega) (tgt := 36) (by decide) ?_
          refine lv_iconst (v := (2 : Int32)) hx hb dX5_numbersOf_36 (by decide) ?_
          exact hret _ _ _ dX5_numbersOf_37 rfl hm.symm
def m_X5_scanSign (p1 : Int32) (v_o_length : Int32) (v_o_at : Int32) (g_o_input : Nat → Int32) : Option (Int32 × Int32) := Option.bind (m_X5_isAt v_o_at p1 v_o_length g_o_input) (fun r_1 => (if r_1 = 0 then some ((0 : Int32), v_o_at) else some ((1 : Int32), v_o_at + (1 : Int32))))
abbrev k_X5_scanSign (cA : Nat → ClassId) (o o_input o_words o_numbers : Nat) (v_o_length : Int32) (v_o_at : Int32) (v_o_commands : Int32) (g_o_input : Nat → Int32) : va_W := [(o, .inr (7, [.int v_o_length, .int v_o_at, .int v_o_commands, .ref o_input, .ref o_words, .ref o_numbers])), (o_input, .inl (cA 1, 80, .inl g_o_input))]
set_option maxHeartbeats 4000000 in
set_option maxRecDepth 100000 in
/-- X5_scanSign: as its model -/
theorem c_X5_scanSign (l : Launch) (G : va_G) (cA : Nat → ClassId) (o o_input o_words o_numbers : Nat) (sz : Nat) (p1 : Int32) (v_o_length : Int32) (v_o_at : Int32) (v_o_commands : Int32) (g_o_input : Nat → Int32) (R : Option (Int32 × Int32)) (hR : m_X5_scanSign p1 v_o_length v_o_at g_o_input = R) (hz : R ≠ none) : Met l yX5_scanSign wsX5_scanSign ({ frames := 1, cells := 0, slots := 0, locals := 22 } : Room) (va_Pc [.ref o, .int p1] (PM G cA (k_X5_scanSign cA o o_input o_words o_numbers v_o_length v_o_at v_o_commands g_o_input) sz)) (va_Qi (fun (r : Int32) (u : Int32) => R = some (r, u) ∧ (r = 0 ∨ r = 1)) (BM G (fun (u : Int32) => (k_X5_scanSign cA o o_input o_words o_numbers v_o_length u v_o_commands g_o_input))) (va_A (k_X5_scanSign cA o o_input o_words o_numbers v_o_length v_o_at v_o_commands g_o_input) sz)) 0 0 (va_A (k_X5_scanSign cA o o_input o_words o_numbers v_o_length v_o_at v_o_commands g_o_input) sz) := by
  refine metM .boolean (by decide) rfl (Nat.le_of_ble_eq_true rfl) ?_
  intro p e s m av below meth c Q ls A H hx hb hml hts hown hP hK hD hA hS hl hret
  replace hl : lv_has ls 2 [(0, .ref o), (1, .int p1)] := hl
  have w_0 := hts (.fieldLink RX5 15 "ParcelRegistry$Text" "at" "I") (by decide +kernel)
  have i_X5 : ∀ w ∈ wsX50, w ∈ wsX5_scanSign := by decide +kernel
  have hm := hR
  unfold m_X5_scanSign at hm
  refine lv_aload_n hx hb dX5_scanSign_0 rfl (lv_at hl 0 rfl) ?_
  refine lv_aload_n hx hb dX5_scanSign_1 rfl (lv_at hl 0 rfl) ?_
  refine va_get (D := G) (ci := 7) (v := .int v_o_at) (C := RX5) (T := TX5) (N := 6) hx hb hts i_X5 hown hK.1 hP 0 rfl rfl 1 (by decide) w_0 (fun _ h9 => h9) rfl dX5_scanSign_2 ?_
  refine lv_iload_n hx hb dX5_scanSign_5 rfl (lv_at hl 1 rfl) ?_
  refine vp_callSi (va_Run.run (va_runV (As := [.int v_o_at, .int p1]) (rest := []) ⟨hx, hb, hml, hown, hts⟩ (c_X5_isAt l G cA o o_input o_words o_numbers v_o_at p1 v_o_length v_o_at v_o_commands g_o_input _ rfl (bnz hm hz)) (cwV 2 hts gX5_scanSign_X5_isAt rfl rfl rfl (by decide +kernel) ⟨Nat.le_of_ble_eq_true rfl, Nat.le_of_ble_eq_true rfl⟩) (preRV (q := (RX5, TX5, 6)) (hP.sub [0, 1] rfl) hK 0 rfl rfl) rfl rfl hl.1 rfl (lv_room (Nat.le_of_ble_eq_true rfl)) dX5_scanSign_6 ⟨Nat.zero_le _, Nat.zero_le _⟩)) (fun r_1 hw => ?_)
  replace hm := bst hm hw.1
  refine lv_if_ne (tgt := 14) hx hb dX5_scanSign_9 (by decide) (fun c_2 => ?_) (fun c_2 => ?_)
  · replace hm := ie hm c_2
    refine lv_aload_n hx hb dX5_scanSign_14 rfl (lv_at hl 0 rfl) ?_
    refine lv_dup hx hb dX5_scanSign_15 rfl ?_
    refine va_get (D := G) (ci := 7) (v := .int v_o_at) (C := RX5) (T := TX5) (N := 6) hx hb hts i_X5 hown hK.1 hP 0 rfl rfl 1 (by decide) w_0 (fun _ h9 => h9) rfl dX5_scanSign_16 ?_
    refine lv_iconst (v := (1 : Int32)) hx hb dX5_scanSign_19 (by decide) ?_
    refine lv_iadd hx hb dX5_scanSign_20 ?_
    refine va_put (D := G) (ci := 7) (v := .int (v_o_at + (1 : Int32))) (ty := .int) (C := RX5) (T := TX5) (N := 6) hx hb hts i_X5 tyX5 tyX5_ok nmX5 hown hK.1 hP hD hS 0 rfl rfl 1 (by decide) w_0 (fun _ h9 => h9) rfl (by decide +kernel) rfl rfl (Nat.le_of_ble_eq_true rfl) dX5_scanSign_21 (fun H locs hP' hD' hS' => ?_)
    replace hP : va_P G vwCl (k_X5_scanSign cA o o_input o_words o_numbers v_o_length (v_o_at + (1 : Int32)) v_o_commands g_o_input) H := hP'
    replace hD : va_D A (k_X5_scanSign cA o o_input o_words o_numbers v_o_length (v_o_at + (1 : Int32)) v_o_commands g_o_input) := hD'
    replace hS := hS'
    refine lv_iconst (v := (1 : Int32)) hx hb dX5_scanSign_24 (by decide) ?_
    exact hret _ _ _ (v_o_at + (1 : Int32)) _ _ dX5_scanSign_25 rfl hP hS ⟨hm.symm, (by decide)⟩
  · replace hm := it hm c_2
    refine lv_iconst (v := (0 : Int32)) hx hb dX5_scanSign_12 (by decide) ?_
    exact hret _ _ _ v_o_at _ _ dX5_scanSign_13 rfl hP hS ⟨hm.symm, (by decide)⟩
def m_X5_isDigitAt (p1 : Int32) (v_o_length : Int32) (g_o_input : Nat → Int32) : Option (Int32) := (if p1 < 0 then some (0 : Int32) else (if v_o_length ≤ p1 then some (0 : Int32) else (if (80 : Int32) ≤ p1 then some (0 : Int32) else gd (ix p1 80) ((if (g_o_input p1.toNatClampNeg) < (48 : Int32) then some (0 : Int32) else gd (ix p1 80) ((if (57 : Int32) < (g_o_input p1.toNatClampNeg) then some (0 : Int32) else some (1 : Int32))))))))
abbrev k_X5_isDigitAt (cA : Nat → ClassId) (o o_input o_words o_numbers : Nat) (v_o_length : Int32) (v_o_at : Int32) (v_o_commands : Int32) (g_o_input : Nat → Int32) : va_W := [(o, .inr (7, [.int v_o_length, .int v_o_at, .int v_o_commands, .ref o_input, .ref o_words, .ref o_numbers])), (o_input, .inl (cA 1, 80, .inl g_o_input))]
set_option maxHeartbeats 4000000 in
set_option maxRecDepth 100000 in
/-- X5_isDigitAt: as its model -/
theorem c_X5_isDigitAt (l : Launch) (G : va_G) (cA : Nat → ClassId) (o o_input o_words o_numbers : Nat) (p1 : Int32) (v_o_length : Int32) (v_o_at : Int32) (v_o_commands : Int32) (g_o_input : Nat → Int32) (R : Option (Int32)) (hR : m_X5_isDigitAt p1 v_o_length g_o_input = R) (hz : R ≠ none) : Met l yX5_isDigitAt wsX5_isDigitAt ({ frames := 0, cells := 0, slots := 0, locals := 0 } : Room) (va_Pc [.ref o, .int p1] (PR G cA (k_X5_isDigitAt cA o o_input o_words o_numbers v_o_length v_o_at v_o_commands g_o_input))) (vp_Si (fun r => R = some r ∧ (r = 0 ∨ r = 1))) 0 0 (fun _ => False) := by
  refine metR .boolean (by decide) rfl (Nat.le_of_ble_eq_true rfl) ?_
  intro p e s m av below meth c Q ls hx hb hml hts hown hP hK hl hret
  replace hl : lv_has ls 2 [(0, .ref o), (1, .int p1)] := hl
  have w_0 := hts (.fieldLink RX5 9 "ParcelRegistry$Text" "length" "I") (by decide +kernel)
  have w_1 := hts (.fieldLink RX5 21 "ParcelRegistry$Text" "input" "[C") (by decide +kernel)
  have i_X5 : ∀ w ∈ wsX50, w ∈ wsX5_isDigitAt := by decide +kernel
  have hm := hR
  unfold m_X5_isDigitAt at hm
  refine lv_iload_n hx hb dX5_isDigitAt_0 rfl (lv_at hl 1 rfl) ?_
  refine lv_if_lt (tgt := 44) hx hb dX5_isDigitAt_1 (by decide) (fun c_1 => ?_) (fun c_1 => ?_)
  · replace hm := it hm c_1
    refine lv_iconst (v := (0 : Int32)) hx hb dX5_isDigitAt_44 (by decide) ?_
    exact hret _ _ _ dX5_isDigitAt_45 rfl ⟨hm.symm, (by decide)⟩
  · replace hm := ie hm c_1
    refine lv_iload_n hx hb dX5_isDigitAt_4 rfl (lv_at hl 1 rfl) ?_
    refine lv_aload_n hx hb dX5_isDigitAt_5 rfl (lv_at hl 0 rfl) ?_
    refine va_get (D := G) (ci := 7) (v := .int v_o_length) (C := RX5) (T := TX5) (N := 6) hx hb hts i_X5 hown hK.1 hP 0 rfl rfl 0 (by decide) w_0 (fun _ h9 => h9) rfl dX5_isDigitAt_6 ?_
    refine lv_icmp_ge (tgt := 44) hx hb dX5_isDigitAt_9 (by decide) (fun c_2 => ?_) (fun c_2 => ?_)
    · replace hm := it hm c_2
      refine lv_iconst (v := (0 : Int32)) hx hb dX5_isDigitAt_44 (by decide) ?_
      exact hret _ _ _ dX5_isDigitAt_45 rfl ⟨hm.symm, (by decide)⟩
    · replace hm := ie hm c_2
      refine lv_iload_n hx hb dX5_isDigitAt_12 rfl (lv_at hl 1 rfl) ?_
      refine lv_bipush (v := (80 : Int32)) hx hb dX5_isDigitAt_13 (by decide) ?_
      refine lv_icmp_ge (tgt := 44) hx hb dX5_isDigitAt_15 (by decide) (fun c_3 => ?_) (fun c_3 => ?_)
      · replace hm := it hm c_3
        refine lv_iconst (v := (0 : Int32)) hx hb dX5_isDigitAt_44 (by decide) ?_
        exact hret _ _ _ dX5_isDigitAt_45 rfl ⟨hm.symm, (by decide)⟩
      · replace hm := ie hm c_3
        refine lv_aload_n hx hb dX5_isDigitAt_18 rfl (lv_at hl 0 rfl) ?_
        refine va_get (D := G) (ci := 7) (v := .ref o_input) (C := RX5) (T := TX5) (N := 6) hx hb hts i_X5 hown hK.1 hP 0 rfl rfl 3 (by decide) w_1 (fun _ h9 => h9) rfl dX5_isDigitAt_19 ?_
        refine lv_iload_n hx hb dX5_isDigitAt_22 rfl (lv_at hl 1 rfl) ?_
        replace hm := gdo hm hz
        obtain ⟨gi_4, hm⟩ := hm
        refine va_cald hx hb hK.1 hP 1 1 (cA := cA 1) (n := 80) (f := g_o_input) rfl rfl (ixi gi_4) dX5_isDigitAt_23 ?_
        refine lv_bipush (v := (48 : Int32)) hx hb dX5_isDigitAt_24 (by decide) ?_
        refine lv_icmp_lt (tgt := 44) hx hb dX5_isDigitAt_26 (by decide) (fun c_5 => ?_) (fun c_5 => ?_)
        · replace hm := it hm c_5
          refine lv_iconst (v := (0 : Int32)) hx hb dX5_isDigitAt_44 (by decide) ?_
          exact hret _ _ _ dX5_isDigitAt_45 rfl ⟨hm.symm, (by decide)⟩
        · replace hm := ie hm c_5
          refine lv_aload_n hx hb dX5_isDigitAt_29 rfl (lv_at hl 0 rfl) ?_
          refine va_get (D := G) (ci := 7) (v := .ref o_input) (C := RX5) (T := TX5) (N := 6) hx hb hts i_X5 hown hK.1 hP 0 rfl rfl 3 (by decide) w_1 (fun _ h9 => h9) rfl dX5_isDigitAt_30 ?_
          refine lv_iload_n hx hb dX5_isDigitAt_33 rfl (lv_at hl 1 rfl) ?_
          replace hm := gdo hm hz
          obtain ⟨gi_6, hm⟩ := hm
          refine va_cald hx hb hK.1 hP 1 1 (cA := cA 1) (n := 80) (f := g_o_input) rfl rfl (ixi gi_6) dX5_isDigitAt_34 ?_
          refine lv_bipush (v := (57 : Int32)) hx hb dX5_isDigitAt_35 (by decide) ?_
          refine lv_icmp_gt (tgt := 44) hx hb dX5_isDigitAt_37 (by decide) (fun c_7 => ?_) (fun c_7 => ?_)
          · replace hm := it hm c_7
            refine lv_iconst (v := (0 : Int32)) hx hb dX5_isDigitAt_44 (by decide) ?_
            exact hret _ _ _ dX5_isDigitAt_45 rfl ⟨hm.symm, (by decide)⟩
          · replace hm := ie hm c_7
            refine lv_iconst (v := (1 : Int32)) hx hb dX5_isDigitAt_40 (by decide) ?_
            refine lv_goto (tgt := 45) hx hb dX5_isDigitAt_41 (by decide) ?_
            exact hret _ _ _ dX5_isDigitAt_45 rfl ⟨hm.symm, (by decide)⟩
def m_X5_scanNumber_J32 (g_o_input : Nat → Int32) (x_2 : Int32) (v_3 : Int32) (rec_4 : (Int32 × Int32 × Int32) → Option (Int32 × Int32)) : (Int32) → Option (Int32 × Int32) := fun y_8 => gd (ix v_3 80) (rec_4 (y_8 + ((g_o_input v_3.toNatClampNeg) - (48 : Int32)), x_2 + (1 : Int32), v_3 + (1 : Int32)))
def m_X5_scanNumber_L4 (v_o_length : Int32) (g_o_input : Nat → Int32) : ((Int32 × Int32 × Int32) → Option (Int32 × Int32)) → (Int32 × Int32 × Int32) → Option (Int32 × Int32) := fun rec_4 v => match v with
  | (x_1, x_2, v_3) => (if (4 : Int32) ≤ x_2 then some (x_1, v_3) else Option.bind (m_X5_isDigitAt v_3 v_o_length g_o_input) (fun r_6 => (if r_6 = 0 then some (x_1, v_3) else (if x_2 = 0 then m_X5_scanNumber_J32 g_o_input x_2 v_3 rec_4 (0 : Int32) else m_X5_scanNumber_J32 g_o_input x_2 v_3 rec_4 (x_1 * (10 : Int32))))))
def m_X5_scanNumber (v_o_length : Int32) (v_o_at : Int32) (g_o_input : Nat → Int32) : Option (Int32 × Int32) := fuel (m_X5_scanNumber_L4 v_o_length g_o_input) FU ((-1 : Int32), (0 : Int32), v_o_at)
abbrev k_X5_scanNumber (cA : Nat → ClassId) (o o_input o_words o_numbers : Nat) (v_o_length : Int32) (v_o_at : Int32) (v_o_commands : Int32) (g_o_input : Nat → Int32) : va_W := [(o, .inr (7, [.int v_o_length, .int v_o_at, .int v_o_commands, .ref o_input, .ref o_words, .ref o_numbers])), (o_input, .inl (cA 1, 80, .inl g_o_input))]
set_option maxHeartbeats 4000000 in
set_option maxRecDepth 100000 in
/-- X5_scanNumber: as its model -/
theorem c_X5_scanNumber (l : Launch) (G : va_G) (cA : Nat → ClassId) (o o_input o_words o_numbers : Nat) (sz : Nat) (v_o_length : Int32) (v_o_at : Int32) (v_o_commands : Int32) (g_o_input : Nat → Int32) (R : Option (Int32 × Int32)) (hR : m_X5_scanNumber v_o_length v_o_at g_o_input = R) (hz : R ≠ none) : Met l yX5_scanNumber wsX5_scanNumber ({ frames := 1, cells := 0, slots := 0, locals := 21 } : Room) (va_Pc [.ref o] (PM G cA (k_X5_scanNumber cA o o_input o_words o_numbers v_o_length v_o_at v_o_commands g_o_input) sz)) (va_Qi (fun (r : Int32) (u : Int32) => R = some (r, u)) (BM G (fun (u : Int32) => (k_X5_scanNumber cA o o_input o_words o_numbers v_o_length u v_o_commands g_o_input))) (va_A (k_X5_scanNumber cA o o_input o_words o_numbers v_o_length v_o_at v_o_commands g_o_input) sz)) 0 0 (va_A (k_X5_scanNumber cA o o_input o_words o_numbers v_o_length v_o_at v_o_commands g_o_input) sz) := by
  refine metM .int (by decide) rfl (Nat.le_of_ble_eq_true rfl) ?_
  intro p e s m av below meth c Q ls A H hx hb hml hts hown hP hK hD hA hS hl hret
  replace hl : lv_has ls 3 [(0, .ref o)] := hl
  have w_0 := hts (.fieldLink RX5 15 "ParcelRegistry$Text" "at" "I") (by decide +kernel)
  have w_1 := hts (.fieldLink RX5 21 "ParcelRegistry$Text" "input" "[C") (by decide +kernel)
  have i_X5 : ∀ w ∈ wsX50, w ∈ wsX5_scanNumber := by decide +kernel
  have hm := hR
  unfold m_X5_scanNumber at hm
  refine lv_iconst (v := (-1 : Int32)) hx hb dX5_scanNumber_0 (by decide) ?_
  refine lv_istore_n (lv' := [(1, .int (-1 : Int32)), (0, .ref o)]) hx hb dX5_scanNumber_1 rfl hl (by decide) rfl (fun ls hl => ?_)
  refine lv_iconst (v := (0 : Int32)) hx hb dX5_scanNumber_2 (by decide) ?_
  refine lv_istore_n (lv' := [(2, .int (0 : Int32)), (1, .int (-1 : Int32)), (0, .ref o)]) hx hb dX5_scanNumber_3 rfl hl (by decide) rfl (fun ls hl => ?_)
  have L4_2 : ∀ (n : Nat), ∀ (x_1 : Int32) (x_2 : Int32) (v_3 : Int32), ∀ (H : Heap) (locs : List Loc) (ls : Array Slot), fuel (m_X5_scanNumber_L4 v_o_length g_o_input) n (x_1, x_2, v_3) = R → va_P G vwCl (k_X5_scanNumber cA o o_input o_words o_numbers v_o_length v_3 v_o_commands g_o_input) H → va_D A (k_X5_scanNumber cA o o_input o_words o_numbers v_o_length v_3 v_o_commands g_o_input) → va_S A s.heap H locs → lv_has ls 3 [(0, .ref o), (1, .int x_1), (2, .int x_2)] → W p l e ({ frames := 1, cells := 0, slots := 0, locals := 21 } : Room) s m av below meth c H locs 0 0 Q (F0 m 4 ls []) := by
    intro n
    induction n with
    | zero =>
      intro x_1 x_2 v_3 H locs ls hm hP hD hS hl
      exact (fu0 hm hz).elim
    | succ n ih4 =>
      intro x_1 x_2 v_3 H locs ls hm hP hD hS hl
      replace hm := fus hm
      generalize fuel (m_X5_scanNumber_L4 v_o_length g_o_input) n = rec_4 at hm ih4
      unfold m_X5_scanNumber_L4 at hm
      refine lv_iload_n hx hb dX5_scanNumber_4 rfl (lv_at hl 2 rfl) ?_
      refine lv_iconst (v := (4 : Int32)) hx hb dX5_scanNumber_5 (by decide) ?_
      refine lv_icmp_ge (tgt := 62) hx hb dX5_scanNumber_6 (by decide) (fun c_5 => ?_) (fun c_5 => ?_)
      · replace hm := it hm c_5
        refine lv_iload_n hx hb dX5_scanNumber_62 rfl (lv_at hl 1 rfl) ?_
        exact hret _ _ _ v_3 _ _ dX5_scanNumber_63 rfl hP hS hm.symm
      · replace hm := ie hm c_5
        refine lv_aload_n hx hb dX5_scanNumber_9 rfl (lv_at hl 0 rfl) ?_
        refine lv_aload_n hx hb dX5_scanNumber_10 rfl (lv_at hl 0 rfl) ?_
        refine va_get (D := G) (ci := 7) (v := .int v_3) (C := RX5) (T := TX5) (N := 6) hx hb hts i_X5 hown hK.1 hP 0 rfl rfl 1 (by decide) w_0 (fun _ h9 => h9) rfl dX5_scanNumber_11 ?_
        refine vp_callSi (va_Run.run (va_runV (As := [.int v_3]) (rest := []) ⟨hx, hb, hml, hown, hts⟩ (c_X5_isDigitAt l G cA o o_input o_words o_numbers v_3 v_o_length v_3 v_o_commands g_o_input _ rfl (bnz hm hz)) (cwV 1 hts gX5_scanNumber_X5_isDigitAt rfl rfl rfl (by decide +kernel) ⟨Nat.le_of_ble_eq_true rfl, Nat.le_of_ble_eq_true rfl⟩) (preRV (q := (RX5, TX5, 6)) (hP.sub [0, 1] rfl) hK 0 rfl rfl) rfl rfl hl.1 rfl (lv_room (Nat.le_of_ble_eq_true rfl)) dX5_scanNumber_14 ⟨Nat.zero_le _, Nat.zero_le _⟩)) (fun r_6 hw => ?_)
        replace hm := bst hm hw.1
        refine lv_if_eq (tgt := 62) hx hb dX5_scanNumber_17 (by decide) (fun c_7 => ?_) (fun c_7 => ?_)
        · replace hm := it hm c_7
          refine lv_iload_n hx hb dX5_scanNumber_62 rfl (lv_at hl 1 rfl) ?_
          exact hret _ _ _ v_3 _ _ dX5_scanNumber_63 rfl hP hS hm.symm
        · replace hm := ie hm c_7
          refine lv_iload_n hx hb dX5_scanNumber_20 rfl (lv_at hl 2 rfl) ?_
          have J32_1 : ∀ (y_8 : Int32), ∀ (H : Heap) (locs : List Loc) (ls : Array Slot), m_X5_scanNumber_J32 g_o_input x_2 v_3 rec_4 y_8 = R → va_P G vwCl (k_X5_scanNumber cA o o_input o_words o_numbers v_o_length v_3 v_o_commands g_o_input) H → va_D A (k_X5_scanNumber cA o o_input o_words o_numbers v_o_length v_3 v_o_commands g_o_input) → va_S A s.heap H locs → lv_has ls 3 [(0, .ref o), (2, .int x_2)] → W p l e ({ frames := 1, cells := 0, slots := 0, locals := 21 } : Room) s m av below meth c H locs 0 0 Q (F0 m 32 ls [.int y_8]) := by
            intro y_8 H locs ls hm hP hD hS hl
            unfold m_X5_scanNumber_J32 at hm
            refine lv_aload_n hx hb dX5_scanNumber_32 rfl (lv_at hl 0 rfl) ?_
            refine va_get (D := G) (ci := 7) (v := .ref o_input) (C := RX5) (T := TX5) (N := 6) hx hb hts i_X5 hown hK.1 hP 0 rfl rfl 3 (by decide) w_1 (fun _ h9 => h9) rfl dX5_scanNumber_33 ?_
            refine lv_aload_n hx hb dX5_scanNumber_36 rfl (lv_at hl 0 rfl) ?_
            refine va_get (D := G) (ci := 7) (v := .int v_3) (C := RX5) (T := TX5) (N := 6) hx hb hts i_X5 hown hK.1 hP 0 rfl rfl 1 (by decide) w_0 (fun _ h9 => h9) rfl dX5_scanNumber_37 ?_
            replace hm := gdo hm hz
            obtain ⟨gi_9, hm⟩ := hm
            refine va_cald hx hb hK.1 hP 1 1 (cA := cA 1) (n := 80) (f := g_o_input) rfl rfl (ixi gi_9) dX5_scanNumber_40 ?_
            refine lv_bipush (v := (48 : Int32)) hx hb dX5_scanNumber_41 (by decide) ?_
            refine lv_isub hx hb dX5_scanNumber_43 ?_
            refine lv_iadd hx hb dX5_scanNumber_44 ?_
            refine lv_istore_n (lv' := [(1, .int (y_8 + ((g_o_input v_3.toNatClampNeg) - (48 : Int32)))), (0, .ref o), (2, .int x_2)]) hx hb dX5_scanNumber_45 rfl hl (by decide) rfl (fun ls hl => ?_)
            refine lv_aload_n hx hb dX5_scanNumber_46 rfl (lv_at hl 1 rfl) ?_
            refine lv_dup hx hb dX5_scanNumber_47 rfl ?_
            refine va_get (D := G) (ci := 7) (v := .int v_3) (C := RX5) (T := TX5) (N := 6) hx hb hts i_X5 hown hK.1 hP 0 rfl rfl 1 (by decide) w_0 (fun _ h9 => h9) rfl dX5_scanNumber_48 ?_
            refine lv_iconst (v := (1 : Int32)) hx hb dX5_scanNumber_51 (by decide) ?_
            refine lv_iadd hx hb dX5_scanNumber_52 ?_
            refine va_put (D := G) (ci := 7) (v := .int (v_3 + (1 : Int32))) (ty := .int) (C := RX5) (T := TX5) (N := 6) hx hb hts i_X5 tyX5 tyX5_ok nmX5 hown hK.1 hP hD hS 0 rfl rfl 1 (by decide) w_0 (fun _ h9 => h9) rfl (by decide +kernel) rfl rfl (Nat.le_of_ble_eq_true rfl) dX5_scanNumber_53 (fun H locs hP' hD' hS' => ?_)
            replace hP : va_P G vwCl (k_X5_scanNumber cA o o_input o_words o_numbers v_o_length (v_3 + (1 : Int32)) v_o_commands g_o_input) H := hP'
            replace hD : va_D A (k_X5_scanNumber cA o o_input o_words o_numbers v_o_length (v_3 + (1 : Int32)) v_o_commands g_o_input) := hD'
            replace hS := hS'
            refine lv_iinc (v := x_2 + (1 : Int32)) (lv' := [(2, .int (x_2 + (1 : Int32))), (1, .int (y_8 + ((g_o_input v_3.toNatClampNeg) - (48 : Int32)))), (0, .ref o)]) hx hb dX5_scanNumber_56 hl (k := 2) rfl rfl (by decide) rfl (fun ls hl => ?_)
            refine lv_goto (tgt := 4) hx hb dX5_scanNumber_59 (by decide) ?_
            exact ih4 (y_8 + ((g_o_input v_3.toNatClampNeg) - (48 : Int32))) (x_2 + (1 : Int32)) (v_3 + (1 : Int32)) _ _ _ hm hP hD hS (lv_sub hl [2, 1, 0] rfl)
          refine lv_if_ne (tgt := 28) hx hb dX5_scanNumber_21 (by decide) (fun c_10 => ?_) (fun c_10 => ?_)
          · replace hm := ie hm c_10
            refine lv_iload_n hx hb dX5_scanNumber_28 rfl (lv_at hl 1 rfl) ?_
            refine lv_bipush (v := (10 : Int32)) hx hb dX5_scanNumber_29 (by decide) ?_
            refine lv_imul hx hb dX5_scanNumber_31 ?_
            exact J32_1 (x_1 * (10 : Int32)) _ _ _ hm hP hD hS (lv_sub hl [0, 2] rfl)
          · replace hm := it hm c_10
            refine lv_iconst (v := (0 : Int32)) hx hb dX5_scanNumber_24 (by decide) ?_
            refine lv_goto (tgt := 32) hx hb dX5_scanNumber_25 (by decide) ?_
            exact J32_1 (0 : Int32) _ _ _ hm hP hD hS (lv_sub hl [0, 2] rfl)
  exact L4_2 _ (-1 : Int32) (0 : Int32) v_o_at _ _ _ hm hP hD hS (lv_sub hl [2, 1, 0] rfl)
def m_X5_scanCommand_J74 (v_o_length : Int32) (g_o_input : Nat → Int32) (g_o_words : Nat → Int32) (p1 : Int32) (r_1 : Int32) : (Int32 × (Nat → Int32)) → Option (Int32 × Int32 × (Nat → Int32) × (Nat → Int32)) := fun v => match v with
  | (v_5, g_6) => Option.bind (m_X5_scanSign (59 : Int32) v_o_length v_5 g_o_input) (fun q => match q with
  | (r_7, v_8) => gd (isb r_7) (some (r_7, v_8, upd g_o_words p1.toNatClampNeg r_1, g_6)))
def m_X5_scanCommand_J46 (g_o_words : Nat → Int32) (p1 : Int32) (r_1 : Int32) (x_10 : Int32) (g_12 : Nat → Int32) (rec_13 : (Int32 × Int32 × (Nat → Int32)) → Option (Int32 × Int32 × (Nat → Int32) × (Nat → Int32))) : (Int32 × Int32) → Option (Int32 × Int32 × (Nat → Int32) × (Nat → Int32)) := fun v => match v with
  | (y_18, v_19) => (if y_18 = (-1 : Int32) then some ((0 : Int32), v_19, upd g_o_words p1.toNatClampNeg r_1, g_12) else gd (ix ((p1 * (3 : Int32)) + x_10) 36) (rec_13 (x_10 + (1 : Int32), v_19, upd g_12 ((p1 * (3 : Int32)) + x_10).toNatClampNeg y_18)))
def m_X5_scanCommand_L21 (v_o_length : Int32) (g_o_input : Nat → Int32) (g_o_words : Nat → Int32) (p1 : Int32) (r_1 : Int32) : ((Int32 × Int32 × (Nat → Int32)) → Option (Int32 × Int32 × (Nat → Int32) × (Nat → Int32))) → (Int32 × Int32 × (Nat → Int32)) → Option (Int32 × Int32 × (Nat → Int32) × (Nat → Int32)) := fun rec_13 v => match v with
  | (x_10, v_11, g_12) => Option.bind (m_X5_numbersOf r_1) (fun r_14 => (if r_14 ≤ x_10 then m_X5_scanCommand_J74 v_o_length g_o_input g_o_words p1 r_1 (v_11, g_12) else Option.bind (m_X5_scanSign (32 : Int32) v_o_length v_11 g_o_input) (fun q => match q with
  | (r_16, v_17) => (if r_16 = 0 then m_X5_scanCommand_J46 g_o_words p1 r_1 x_10 g_12 rec_13 ((-1 : Int32), v_17) else Option.bind (m_X5_scanNumber v_o_length v_17 g_o_input) (fun q => match q with
  | (r_23, v_24) => m_X5_scanCommand_J46 g_o_words p1 r_1 x_10 g_12 rec_13 (r_23, v_24))))))
def m_X5_scanCommand (p1 : Int32) (v_o_length : Int32) (v_o_at : Int32) (g_o_input : Nat → Int32) (g_o_words : Nat → Int32) (g_o_numbers : Nat → Int32) : Option (Int32 × Int32 × (Nat → Int32) × (Nat → Int32)) := Option.bind (m_X5_scanWord v_o_length v_o_at g_o_input) (fun q => match q with
  | (r_1, v_2) => (if r_1 = (-1 : Int32) then some ((0 : Int32), v_2, g_o_words, g_o_numbers) else gd (ix p1 12) (fuel (m_X5_scanCommand_L21 v_o_length g_o_input g_o_words p1 r_1) FU ((0 : Int32), v_2, g_o_numbers))))
abbrev k_X5_scanCommand (cA : Nat → ClassId) (o o_input o_words o_numbers : Nat) (v_o_length : Int32) (v_o_at : Int32) (v_o_commands : Int32) (g_o_input : Nat → Int32) (g_o_words : Nat → Int32) (g_o_numbers : Nat → Int32) : va_W := [(o, .inr (7, [.int v_o_length, .int v_o_at, .int v_o_commands, .ref o_input, .ref o_words, .ref o_numbers])), (o_input, .inl (cA 1, 80, .inl g_o_input)), (o_words, .inl (cA 0, 12, .inl g_o_words)), (o_numbers, .inl (cA 0, 36, .inl g_o_numbers))]
set_option maxHeartbeats 4000000 in
set_option maxRecDepth 100000 in
/-- X5_scanCommand: as its model -/
theorem c_X5_scanCommand (l : Launch) (z : Nat → Nat) (G : va_G) (cA : Nat → ClassId) (o o_input o_words o_numbers : Nat) (sz : Nat) (p1 : Int32) (v_o_length : Int32) (v_o_at : Int32) (v_o_commands : Int32) (g_o_input : Nat → Int32) (g_o_words : Nat → Int32) (g_o_numbers : Nat → Int32) (R : Option (Int32 × Int32 × (Nat → Int32) × (Nat → Int32))) (hR : m_X5_scanCommand p1 v_o_length v_o_at g_o_input g_o_words g_o_numbers = R) (hz : R ≠ none) : Met l yX5_scanCommand wsX5_scanCommand ({ frames := 6, cells := 0, slots := 0, locals := 130 } : Room) (va_Pc [.ref o, .int p1] (PMo z G cA (k_X5_scanCommand cA o o_input o_words o_numbers v_o_length v_o_at v_o_commands g_o_input g_o_words g_o_numbers) sz)) (va_Qi (fun (r : Int32) (u : Int32 × (Nat → Int32) × (Nat → Int32)) => R = some (r, u) ∧ (r = 0 ∨ r = 1)) (BM G (fun (u : Int32 × (Nat → Int32) × (Nat → Int32)) => (k_X5_scanCommand cA o o_input o_words o_numbers v_o_length u.1 v_o_commands g_o_input u.2.1 u.2.2))) (va_A (k_X5_scanCommand cA o o_input o_words o_numbers v_o_length v_o_at v_o_commands g_o_input g_o_words g_o_numbers) sz)) 0 0 (va_A (k_X5_scanCommand cA o o_input o_words o_numbers v_o_length v_o_at v_o_commands g_o_input g_o_words g_o_numbers) sz) := by
  refine metMo .boolean (by decide) rfl (Nat.le_of_ble_eq_true rfl) ?_
  intro p e s m av below meth c Q ls A H hx hb hml hts hown hP hK hT hO hD hA hS hl hret
  replace hl : lv_has ls 5 [(0, .ref o), (1, .int p1)] := hl
  have w_0 := hts (.fieldLink RX5 25 "ParcelRegistry$Text" "words" "[I") (by decide +kernel)
  have w_1 := hts (.fieldLink RX5 29 "ParcelRegistry$Text" "numbers" "[I") (by decide +kernel)
  have i_X5 : ∀ w ∈ wsX50, w ∈ wsX5_scanCommand := by decide +kernel
  have hm := hR
  unfold m_X5_scanCommand at hm
  refine lv_aload_n hx hb dX5_scanCommand_0 rfl (lv_at hl 0 rfl) ?_
  have hPc := hP.sub (ws' := (k_X5_scanWord cA o o_input o_words o_numbers v_o_length v_o_at v_o_commands g_o_input)) [0, 1] rfl
  have hDc := hD.sub (ws' := (k_X5_scanWord cA o o_input o_words o_numbers v_o_length v_o_at v_o_commands g_o_input)) [0, 1] (by decide) rfl
  have hFc := va_free (wc := (k_X5_scanWord cA o o_input o_words o_numbers v_o_length v_o_at v_o_commands g_o_input)) hD hS hA [0, 1] rfl
  refine va_calli (va_runV (As := []) (rest := []) ⟨hx, hb, hml, hown, hts⟩ (c_X5_scanWord l z G cA o o_input o_words o_numbers H.size v_o_length v_o_at v_o_commands g_o_input _ rfl (bnz hm hz)) (cwV 0 hts gX5_scanCommand_X5_scanWord rfl rfl rfl (by decide +kernel) ⟨Nat.le_of_ble_eq_true rfl, Nat.le_of_ble_eq_true rfl⟩) (preMVo (q := (RX5, TX5, 6)) hPc hDc hK hT hO hS hFc 0 rfl rfl) rfl rfl hl.1 rfl (lv_room (Nat.le_of_ble_eq_true rfl)) dX5_scanCommand_1 ⟨Nat.zero_le _, Nat.zero_le _⟩) hS (fun q _ h => hFc q h) hFc (fun r_1 u_2 t H locs ht hvm hw hB hz1 hk1 hS' => ?_)
  obtain ⟨v_2, rfl⟩ : ∃ z, z = u_2 := ⟨_, rfl⟩
  replace hm := bst hm hw
  replace hB : va_P G vwCl _ _ := hB
  rw [ht] at hB
  have hj := va_back (ws' := (k_X5_scanCommand cA o o_input o_words o_numbers v_o_length v_2 v_o_commands g_o_input g_o_words g_o_numbers)) hP hD [0, 1] rfl hk1 hB [(true, 0), (true, 1), (false, 2), (false, 3)] rfl (by decide) rfl
  replace hP : va_P G vwCl (k_X5_scanCommand cA o o_input o_words o_numbers v_o_length v_2 v_o_commands g_o_input g_o_words g_o_numbers) H := hj.1
  replace hD : va_D A (k_X5_scanCommand cA o o_input o_words o_numbers v_o_length v_2 v_o_commands g_o_input g_o_words g_o_numbers) := hj.2
  replace hS := hS'
  clear hj hPc hDc hFc hB
  refine lv_istore_n (lv' := [(2, .int r_1), (0, .ref o), (1, .int p1)]) hx hb dX5_scanCommand_4 rfl hl (by decide) rfl (fun ls hl => ?_)
  refine lv_iload_n hx hb dX5_scanCommand_5 rfl (lv_at hl 0 rfl) ?_
  refine lv_iconst (v := (-1 : Int32)) hx hb dX5_scanCommand_6 (by decide) ?_
  refine lv_icmp_ne (tgt := 12) hx hb dX5_scanCommand_7 (by decide) (fun c_3 => ?_) (fun c_3 => ?_)
  · replace hm := ie hm c_3
    refine lv_aload_n hx hb dX5_scanCommand_12 rfl (lv_at hl 1 rfl) ?_
    refine va_get (D := G) (ci := 7) (v := .ref o_words) (C := RX5) (T := TX5) (N := 6) hx hb hts i_X5 hown hK.1 hP 0 rfl rfl 4 (by decide) w_0 (fun _ h9 => h9) rfl dX5_scanCommand_13 ?_
    refine lv_iload_n hx hb dX5_scanCommand_16 rfl (lv_at hl 2 rfl) ?_
    refine lv_iload_n hx hb dX5_scanCommand_17 rfl (lv_at hl 0 rfl) ?_
    replace hm := gdo hm hz
    obtain ⟨gi_4, hm⟩ := hm
    refine va_iast hx hb hK.1 hP hD hS 2 0 (cA := cA 0) (n := 12) (f := g_o_words) rfl rfl (ixi gi_4) dX5_scanCommand_18 (fun H locs hP' hD' hS' => ?_)
    replace hP : va_P G vwCl (k_X5_scanCommand cA o o_input o_words o_numbers v_o_length v_2 v_o_commands g_o_input (upd g_o_words p1.toNatClampNeg r_1) g_o_numbers) H := hP'
    replace hD : va_D A (k_X5_scanCommand cA o o_input o_words o_numbers v_o_length v_2 v_o_commands g_o_input (upd g_o_words p1.toNatClampNeg r_1) g_o_numbers) := hD'
    replace hS := hS'
    refine lv_iconst (v := (0 : Int32)) hx hb dX5_scanCommand_19 (by decide) ?_
    refine lv_istore_n (lv' := [(3, .int (0 : Int32)), (2, .int r_1), (0, .ref o), (1, .int p1)]) hx hb dX5_scanCommand_20 rfl hl (by decide) rfl (fun ls hl => ?_)
    have J74_1 : ∀ (v_5 : Int32) (g_6 : Nat → Int32), ∀ (H : Heap) (locs : List Loc) (ls : Array Slot), m_X5_scanCommand_J74 v_o_length g_o_input g_o_words p1 r_1 (v_5, g_6) = R → va_P G vwCl (k_X5_scanCommand cA o o_input o_words o_numbers v_o_length v_5 v_o_commands g_o_input (upd g_o_words p1.toNatClampNeg r_1) g_6) H → va_D A (k_X5_scanCommand cA o o_input o_words o_numbers v_o_length v_5 v_o_commands g_o_input (upd g_o_words p1.toNatClampNeg r_1) g_6) → va_S A s.heap H locs → lv_has ls 5 [(0, .ref o)] → W p l e ({ frames := 6, cells := 0, slots := 0, locals := 130 } : Room) s m av below meth c H locs 0 0 Q (F0 m 74 ls []) := by
      intro v_5 g_6 H locs ls hm hP hD hS hl
      unfold m_X5_scanCommand_J74 at hm
      refine lv_aload_n hx hb dX5_scanCommand_74 rfl (lv_at hl 0 rfl) ?_
      refine lv_bipush (v := (59 : Int32)) hx hb dX5_scanCommand_75 (by decide) ?_
      have hPc := hP.sub (ws' := (k_X5_scanSign cA o o_input o_words o_numbers v_o_length v_5 v_o_commands g_o_input)) [0, 1] rfl
      have hDc := hD.sub (ws' := (k_X5_scanSign cA o o_input o_words o_numbers v_o_length v_5 v_o_commands g_o_input)) [0, 1] (by decide) rfl
      have hFc := va_free (wc := (k_X5_scanSign cA o o_input o_words o_numbers v_o_length v_5 v_o_commands g_o_input)) hD hS hA [0, 1] rfl
      refine va_calli (va_runV (As := [.int (59 : Int32)]) (rest := []) ⟨hx, hb, hml, hown, hts⟩ (c_X5_scanSign l G cA o o_input o_words o_numbers H.size (59 : Int32) v_o_length v_5 v_o_commands g_o_input _ rfl (bnz hm hz)) (cwV 1 hts gX5_scanCommand_X5_scanSign rfl rfl rfl (by decide +kernel) ⟨Nat.le_of_ble_eq_true rfl, Nat.le_of_ble_eq_true rfl⟩) (preMV (q := (RX5, TX5, 6)) hPc hDc hK 0 rfl rfl) rfl rfl hl.1 rfl (lv_room (Nat.le_of_ble_eq_true rfl)) dX5_scanCommand_77 ⟨Nat.zero_le _, Nat.zero_le _⟩) hS (fun q _ h => hFc q h) hFc (fun r_7 u_8 t H locs ht hvm hw hB hz1 hk1 hS' => ?_)
      obtain ⟨v_8, rfl⟩ : ∃ z, z = u_8 := ⟨_, rfl⟩
      replace hm := bst hm hw.1
      replace hB : va_P G vwCl _ _ := hB
      rw [ht] at hB
      have hj := va_back (ws' := (k_X5_scanCommand cA o o_input o_words o_numbers v_o_length v_8 v_o_commands g_o_input (upd g_o_words p1.toNatClampNeg r_1) g_6)) hP hD [0, 1] rfl hk1 hB [(true, 0), (true, 1), (false, 2), (false, 3)] rfl (by decide) rfl
      replace hP : va_P G vwCl (k_X5_scanCommand cA o o_input o_words o_numbers v_o_length v_8 v_o_commands g_o_input (upd g_o_words p1.toNatClampNeg r_1) g_6) H := hj.1
      replace hD : va_D A (k_X5_scanCommand cA o o_input o_words o_numbers v_o_length v_8 v_o_commands g_o_input (upd g_o_words p1.toNatClampNeg r_1) g_6) := hj.2
      replace hS := hS'
      clear hj hPc hDc hFc hB
      replace hm := gdo hm hz
      obtain ⟨gb_9, hm⟩ := hm
      exact hret _ _ _ (v_8, upd g_o_words p1.toNatClampNeg r_1, g_6) _ _ dX5_scanCommand_80 (nz (isbz gb_9)) hP hS ⟨hm.symm, (isbz gb_9)⟩
    have L21_3 : ∀ (n : Nat), ∀ (x_10 : Int32) (v_11 : Int32) (g_12 : Nat → Int32), ∀ (H : Heap) (locs : List Loc) (ls : Array Slot), fuel (m_X5_scanCommand_L21 v_o_length g_o_input g_o_words p1 r_1) n (x_10, v_11, g_12) = R → va_P G vwCl (k_X5_scanCommand cA o o_input o_words o_numbers v_o_length v_11 v_o_commands g_o_input (upd g_o_words p1.toNatClampNeg r_1) g_12) H → va_D A (k_X5_scanCommand cA o o_input o_words o_numbers v_o_length v_11 v_o_commands g_o_input (upd g_o_words p1.toNatClampNeg r_1) g_12) → va_S A s.heap H locs → lv_has ls 5 [(0, .ref o), (1, .int p1), (2, .int r_1), (3, .int x_10)] → W p l e ({ frames := 6, cells := 0, slots := 0, locals := 130 } : Room) s m av below meth c H locs 0 0 Q (F0 m 21 ls []) := by
      intro n
      induction n with
      | zero =>
        intro x_10 v_11 g_12 H locs ls hm hP hD hS hl
        exact (fu0 hm hz).elim
      | succ n ih21 =>
        intro x_10 v_11 g_12 H locs ls hm hP hD hS hl
        replace hm := fus hm
        generalize fuel (m_X5_scanCommand_L21 v_o_length g_o_input g_o_words p1 r_1) n = rec_13 at hm ih21
        unfold m_X5_scanCommand_L21 at hm
        refine lv_iload_n hx hb dX5_scanCommand_21 rfl (lv_at hl 3 rfl) ?_
        refine lv_iload_n hx hb dX5_scanCommand_22 rfl (lv_at hl 2 rfl) ?_
        refine vp_callSi (va_Run.run (va_runS (As := [.int r_1]) (rest := [.int x_10]) ⟨hx, hb, hml, hown, hts⟩ (c_X5_numbersOf l G cA r_1 _ rfl (bnz hm hz)) (va_cwS 1 hts gX5_scanCommand_X5_numbersOf rfl rfl rfl (by decide +kernel) ⟨Nat.le_of_ble_eq_true rfl, Nat.le_of_ble_eq_true rfl⟩) (preRS (hP.sub [] rfl) hK) rfl rfl hl.1 rfl (lv_room (Nat.le_of_ble_eq_true rfl)) dX5_scanCommand_23 ⟨Nat.zero_le _, Nat.zero_le _⟩)) (fun r_14 hw => ?_)
        replace hm := bst hm hw
        refine lv_icmp_ge (tgt := 74) hx hb dX5_scanCommand_26 (by decide) (fun c_15 => ?_) (fun c_15 => ?_)
        · replace hm := it hm c_15
          exact J74_1 v_11 g_12 _ _ _ hm hP hD hS (lv_sub hl [0] rfl)
        · replace hm := ie hm c_15
          refine lv_aload_n hx hb dX5_scanCommand_29 rfl (lv_at hl 0 rfl) ?_
          refine lv_bipush (v := (32 : Int32)) hx hb dX5_scanCommand_30 (by decide) ?_
          have hPc := hP.sub (ws' := (k_X5_scanSign cA o o_input o_words o_numbers v_o_length v_11 v_o_commands g_o_input)) [0, 1] rfl
          have hDc := hD.sub (ws' := (k_X5_scanSign cA o o_input o_words o_numbers v_o_length v_11 v_o_commands g_o_input)) [0, 1] (by decide) rfl
          have hFc := va_free (wc := (k_X5_scanSign cA o o_input o_words o_numbers v_o_length v_11 v_o_commands g_o_input)) hD hS hA [0, 1] rfl
          refine va_calli (va_runV (As := [.int (32 : Int32)]) (rest := []) ⟨hx, hb, hml, hown, hts⟩ (c_X5_scanSign l G cA o o_input o_words o_numbers H.size (32 : Int32) v_o_length v_11 v_o_commands g_o_input _ rfl (bnz hm hz)) (cwV 1 hts gX5_scanCommand_X5_scanSign rfl rfl rfl (by decide +kernel) ⟨Nat.le_of_ble_eq_true rfl, Nat.le_of_ble_eq_true rfl⟩) (preMV (q := (RX5, TX5, 6)) hPc hDc hK 0 rfl rfl) rfl rfl hl.1 rfl (lv_room (Nat.le_of_ble_eq_true rfl)) dX5_scanCommand_32 ⟨Nat.zero_le _, Nat.zero_le _⟩) hS (fun q _ h => hFc q h) hFc (fun r_16 u_17 t H locs ht hvm hw hB hz1 hk1 hS' => ?_)
          obtain ⟨v_17, rfl⟩ : ∃ z, z = u_17 := ⟨_, rfl⟩
          replace hm := bst hm hw.1
          replace hB : va_P G vwCl _ _ := hB
          rw [ht] at hB
          have hj := va_back (ws' := (k_X5_scanCommand cA o o_input o_words o_numbers v_o_length v_17 v_o_commands g_o_input (upd g_o_words p1.toNatClampNeg r_1) g_12)) hP hD [0, 1] rfl hk1 hB [(true, 0), (true, 1), (false, 2), (false, 3)] rfl (by decide) rfl
          replace hP : va_P G vwCl (k_X5_scanCommand cA o o_input o_words o_numbers v_o_length v_17 v_o_commands g_o_input (upd g_o_words p1.toNatClampNeg r_1) g_12) H := hj.1
          replace hD : va_D A (k_X5_scanCommand cA o o_input o_words o_numbers v_o_length v_17 v_o_commands g_o_input (upd g_o_words p1.toNatClampNeg r_1) g_12) := hj.2
          replace hS := hS'
          clear hj hPc hDc hFc hB
          have J46_2 : ∀ (y_18 : Int32) (v_19 : Int32), ∀ (H : Heap) (locs : List Loc) (ls : Array Slot), m_X5_scanCommand_J46 g_o_words p1 r_1 x_10 g_12 rec_13 (y_18, v_19) = R → va_P G vwCl (k_X5_scanCommand cA o o_input o_words o_numbers v_o_length v_19 v_o_commands g_o_input (upd g_o_words p1.toNatClampNeg r_1) g_12) H → va_D A (k_X5_scanCommand cA o o_input o_words o_numbers v_o_length v_19 v_o_commands g_o_input (upd g_o_words p1.toNatClampNeg r_1) g_12) → va_S A s.heap H locs → lv_has ls 5 [(0, .ref o), (1, .int p1), (2, .int r_1), (3, .int x_10)] → W p l e ({ frames := 6, cells := 0, slots := 0, locals := 130 } : Room) s m av below meth c H locs 0 0 Q (F0 m 46 ls [.int y_18]) := by
            intro y_18 v_19 H locs ls hm hP hD hS hl
            unfold m_X5_scanCommand_J46 at hm
            refine lv_istore (lv' := [(4, .int y_18), (0, .ref o), (1, .int p1), (2, .int r_1), (3, .int x_10)]) hx hb dX5_scanCommand_46 hl (by decide) rfl (fun ls hl => ?_)
            refine lv_iload hx hb dX5_scanCommand_48 (lv_at hl 0 rfl) ?_
            refine lv_iconst (v := (-1 : Int32)) hx hb dX5_scanCommand_50 (by decide) ?_
            refine lv_icmp_ne (tgt := 56) hx hb dX5_scanCommand_51 (by decide) (fun c_20 => ?_) (fun c_20 => ?_)
            · replace hm := ie hm c_20
              refine lv_aload_n hx hb dX5_scanCommand_56 rfl (lv_at hl 1 rfl) ?_
              refine va_get (D := G) (ci := 7) (v := .ref o_numbers) (C := RX5) (T := TX5) (N := 6) hx hb hts i_X5 hown hK.1 hP 0 rfl rfl 5 (by decide) w_1 (fun _ h9 => h9) rfl dX5_scanCommand_57 ?_
              refine lv_iload_n hx hb dX5_scanCommand_60 rfl (lv_at hl 2 rfl) ?_
              refine lv_iconst (v := (3 : Int32)) hx hb dX5_scanCommand_61 (by decide) ?_
              refine lv_imul hx hb dX5_scanCommand_62 ?_
              refine lv_iload_n hx hb dX5_scanCommand_63 rfl (lv_at hl 4 rfl) ?_
              refine lv_iadd hx hb dX5_scanCommand_64 ?_
              refine lv_iload hx hb dX5_scanCommand_65 (lv_at hl 0 rfl) ?_
              replace hm := gdo hm hz
              obtain ⟨gi_21, hm⟩ := hm
              refine va_iast hx hb hK.1 hP hD hS 3 0 (cA := cA 0) (n := 36) (f := g_12) rfl rfl (ixi gi_21) dX5_scanCommand_67 (fun H locs hP' hD' hS' => ?_)
              replace hP : va_P G vwCl (k_X5_scanCommand cA o o_input o_words o_numbers v_o_length v_19 v_o_commands g_o_input (upd g_o_words p1.toNatClampNeg r_1) (upd g_12 ((p1 * (3 : Int32)) + x_10).toNatClampNeg y_18)) H := hP'
              replace hD : va_D A (k_X5_scanCommand cA o o_input o_words o_numbers v_o_length v_19 v_o_commands g_o_input (upd g_o_words p1.toNatClampNeg r_1) (upd g_12 ((p1 * (3 : Int32)) + x_10).toNatClampNeg y_18)) := hD'
              replace hS := hS'
              refine lv_iinc (v := x_10 + (1 : Int32)) (lv' := [(3, .int (x_10 + (1 : Int32))), (4, .int y_18), (0, .ref o), (1, .int p1), (2, .int r_1)]) hx hb dX5_scanCommand_68 hl (k := 4) rfl rfl (by decide) rfl (fun ls hl => ?_)
              refine lv_goto (tgt := 21) hx hb dX5_scanCommand_71 (by decide) ?_
              exact ih21 (x_10 + (1 : Int32)) v_19 (upd g_12 ((p1 * (3 : Int32)) + x_10).toNatClampNeg y_18) _ _ _ hm hP hD hS (lv_sub hl [2, 3, 4, 0] rfl)
            · replace hm := it hm c_20
              refine lv_iconst (v := (0 : Int32)) hx hb dX5_scanCommand_54 (by decide) ?_
              exact hret _ _ _ (v_19, upd g_o_words p1.toNatClampNeg r_1, g_12) _ _ dX5_scanCommand_55 rfl hP hS ⟨hm.symm, (by decide)⟩
          refine lv_if_eq (tgt := 45) hx hb dX5_scanCommand_35 (by decide) (fun c_22 => ?_) (fun c_22 => ?_)
          · replace hm := it hm c_22
            refine lv_iconst (v := (-1 : Int32)) hx hb dX5_scanCommand_45 (by decide) ?_
            exact J46_2 (-1 : Int32) v_17 _ _ _ hm hP hD hS (lv_sub hl [0, 1, 2, 3] rfl)
          · replace hm := ie hm c_22
            refine lv_aload_n hx hb dX5_scanCommand_38 rfl (lv_at hl 0 rfl) ?_
            have hPc := hP.sub (ws' := (k_X5_scanNumber cA o o_input o_words o_numbers v_o_length v_17 v_o_commands g_o_input)) [0, 1] rfl
            have hDc := hD.sub (ws' := (k_X5_scanNumber cA o o_input o_words o_numbers v_o_length v_17 v_o_commands g_o_input)) [0, 1] (by decide) rfl
            have hFc := va_free (wc := (k_X5_scanNumber cA o o_input o_words o_numbers v_o_length v_17 v_o_commands g_o_input)) hD hS hA [0, 1] rfl
            refine va_calli (va_runV (As := []) (rest := []) ⟨hx, hb, hml, hown, hts⟩ (c_X5_scanNumber l G cA o o_input o_words o_numbers H.size v_o_length v_17 v_o_commands g_o_input _ rfl (bnz hm hz)) (cwV 0 hts gX5_scanCommand_X5_scanNumber rfl rfl rfl (by decide +kernel) ⟨Nat.le_of_ble_eq_true rfl, Nat.le_of_ble_eq_true rfl⟩) (preMV (q := (RX5, TX5, 6)) hPc hDc hK 0 rfl rfl) rfl rfl hl.1 rfl (lv_room (Nat.le_of_ble_eq_true rfl)) dX5_scanCommand_39 ⟨Nat.zero_le _, Nat.zero_le _⟩) hS (fun q _ h => hFc q h) hFc (fun r_23 u_24 t H locs ht hvm hw hB hz1 hk1 hS' => ?_)
            obtain ⟨v_24, rfl⟩ : ∃ z, z = u_24 := ⟨_, rfl⟩
            replace hm := bst hm hw
            replace hB : va_P G vwCl _ _ := hB
            rw [ht] at hB
            have hj := va_back (ws' := (k_X5_scanCommand cA o o_input o_words o_numbers v_o_length v_24 v_o_commands g_o_input (upd g_o_words p1.toNatClampNeg r_1) g_12)) hP hD [0, 1] rfl hk1 hB [(true, 0), (true, 1), (false, 2), (false, 3)] rfl (by decide) rfl
            replace hP : va_P G vwCl (k_X5_scanCommand cA o o_input o_words o_numbers v_o_length v_24 v_o_commands g_o_input (upd g_o_words p1.toNatClampNeg r_1) g_12) H := hj.1
            replace hD : va_D A (k_X5_scanCommand cA o o_input o_words o_numbers v_o_length v_24 v_o_commands g_o_input (upd g_o_words p1.toNatClampNeg r_1) g_12) := hj.2
            replace hS := hS'
            clear hj hPc hDc hFc hB
            refine lv_goto (tgt := 46) hx hb dX5_scanCommand_42 (by decide) ?_
            exact J46_2 r_23 v_24 _ _ _ hm hP hD hS (lv_sub hl [0, 1, 2, 3] rfl)
    exact L21_3 _ (0 : Int32) v_2 g_o_numbers _ _ _ hm hP hD hS (lv_sub hl [2, 3, 1, 0] rfl)
  · replace hm := it hm c_3
    refine lv_iconst (v := (0 : Int32)) hx hb dX5_scanCommand_10 (by decide) ?_
    exact hret _ _ _ (v_2, g_o_words, g_o_numbers) _ _ dX5_scanCommand_11 rfl hP hS ⟨hm.symm, (by decide)⟩
def m_X5_scan_J55 (v_o_length : Int32) : (Int32 × Int32 × (Nat → Int32) × (Nat → Int32)) → Option (Int32 × Int32 × Int32 × (Nat → Int32) × (Nat → Int32)) := fun v => match v with
  | (v_1, v_2, g_3, g_4) => (if v_2 ≤ 0 then some ((0 : Int32), v_1, v_2, g_3, g_4) else (if v_1 = v_o_length then some ((1 : Int32), v_1, v_2, g_3, g_4) else some ((0 : Int32), v_1, v_2, g_3, g_4)))
def m_X5_scan_L12 (v_o_length : Int32) (g_o_input : Nat → Int32) : ((Int32 × Int32 × Int32 × (Nat → Int32) × (Nat → Int32)) → Option (Int32 × Int32 × Int32 × (Nat → Int32) × (Nat → Int32))) → (Int32 × Int32 × Int32 × (Nat → Int32) × (Nat → Int32)) → Option (Int32 × Int32 × Int32 × (Nat → Int32) × (Nat → Int32)) := fun rec_12 v => match v with
  | (x_7, v_8, v_9, g_10, g_11) => (if (12 : Int32) ≤ x_7 then m_X5_scan_J55 v_o_length (v_8, v_9, g_10, g_11) else (if v_o_length ≤ v_8 then m_X5_scan_J55 v_o_length (v_8, v_9, g_10, g_11) else Option.bind (m_X5_scanCommand x_7 v_o_length v_8 g_o_input g_10 g_11) (fun q => match q with
  | (r_15, v_16, g_17, g_18) => (if r_15 = 0 then some ((0 : Int32), v_16, v_9, g_17, g_18) else rec_12 (x_7 + (1 : Int32), v_16, v_9 + (1 : Int32), g_17, g_18)))))
def m_X5_scan (v_o_length : Int32) (g_o_input : Nat → Int32) (g_o_words : Nat → Int32) (g_o_numbers : Nat → Int32) : Option (Int32 × Int32 × Int32 × (Nat → Int32) × (Nat → Int32)) := fuel (m_X5_scan_L12 v_o_length g_o_input) FU ((0 : Int32), (0 : Int32), (0 : Int32), g_o_words, g_o_numbers)
abbrev k_X5_scan (cA : Nat → ClassId) (o o_input o_words o_numbers : Nat) (v_o_length : Int32) (v_o_at : Int32) (v_o_commands : Int32) (g_o_input : Nat → Int32) (g_o_words : Nat → Int32) (g_o_numbers : Nat → Int32) : va_W := [(o, .inr (7, [.int v_o_length, .int v_o_at, .int v_o_commands, .ref o_input, .ref o_words, .ref o_numbers])), (o_input, .inl (cA 1, 80, .inl g_o_input)), (o_words, .inl (cA 0, 12, .inl g_o_words)), (o_numbers, .inl (cA 0, 36, .inl g_o_numbers))]
set_option maxHeartbeats 4000000 in
set_option maxRecDepth 100000 in
/-- X5_scan: as its model -/
theorem c_X5_scan (l : Launch) (z : Nat → Nat) (G : va_G) (cA : Nat → ClassId) (o o_input o_words o_numbers : Nat) (sz : Nat) (v_o_length : Int32) (v_o_at : Int32) (v_o_commands : Int32) (g_o_input : Nat → Int32) (g_o_words : Nat → Int32) (g_o_numbers : Nat → Int32) (R : Option (Int32 × Int32 × Int32 × (Nat → Int32) × (Nat → Int32))) (hR : m_X5_scan v_o_length g_o_input g_o_words g_o_numbers = R) (hz : R ≠ none) : Met l yX5_scan wsX5_scan ({ frames := 7, cells := 0, slots := 0, locals := 154 } : Room) (va_Pc [.ref o] (PMo z G cA (k_X5_scan cA o o_input o_words o_numbers v_o_length v_o_at v_o_commands g_o_input g_o_words g_o_numbers) sz)) (va_Qi (fun (r : Int32) (u : Int32 × Int32 × (Nat → Int32) × (Nat → Int32)) => R = some (r, u) ∧ (r = 0 ∨ r = 1)) (BM G (fun (u : Int32 × Int32 × (Nat → Int32) × (Nat → Int32)) => (k_X5_scan cA o o_input o_words o_numbers v_o_length u.1 u.2.1 g_o_input u.2.2.1 u.2.2.2))) (va_A (k_X5_scan cA o o_input o_words o_numbers v_o_length v_o_at v_o_commands g_o_input g_o_words g_o_numbers) sz)) 0 0 (va_A (k_X5_scan cA o o_input o_words o_numbers v_o_length v_o_at v_o_commands g_o_input g_o_words g_o_numbers) sz) := by
  refine metMo .boolean (by decide) rfl (Nat.le_of_ble_eq_true rfl) ?_
  intro p e s m av below meth c Q ls A H hx hb hml hts hown hP hK hT hO hD hA hS hl hret
  replace hl : lv_has ls 2 [(0, .ref o)] := hl
  have w_0 := hts (.fieldLink RX5 15 "ParcelRegistry$Text" "at" "I") (by decide +kernel)
  have w_1 := hts (.fieldLink RX5 18 "ParcelRegistry$Text" "commands" "I") (by decide +kernel)
  have w_2 := hts (.fieldLink RX5 9 "ParcelRegistry$Text" "length" "I") (by decide +kernel)
  have i_X5 : ∀ w ∈ wsX50, w ∈ wsX5_scan := by decide +kernel
  have hm := hR
  unfold m_X5_scan at hm
  refine lv_aload_n hx hb dX5_scan_0 rfl (lv_at hl 0 rfl) ?_
  refine lv_iconst (v := (0 : Int32)) hx hb dX5_scan_1 (by decide) ?_
  refine va_put (D := G) (ci := 7) (v := .int (0 : Int32)) (ty := .int) (C := RX5) (T := TX5) (N := 6) hx hb hts i_X5 tyX5 tyX5_ok nmX5 hown hK.1 hP hD hS 0 rfl rfl 1 (by decide) w_0 (fun _ h9 => h9) rfl (by decide +kernel) rfl rfl (Nat.le_of_ble_eq_true rfl) dX5_scan_2 (fun H locs hP' hD' hS' => ?_)
  replace hP : va_P G vwCl (k_X5_scan cA o o_input o_words o_numbers v_o_length (0 : Int32) v_o_commands g_o_input g_o_words g_o_numbers) H := hP'
  replace hD : va_D A (k_X5_scan cA o o_input o_words o_numbers v_o_length (0 : Int32) v_o_commands g_o_input g_o_words g_o_numbers) := hD'
  replace hS := hS'
  refine lv_aload_n hx hb dX5_scan_5 rfl (lv_at hl 0 rfl) ?_
  refine lv_iconst (v := (0 : Int32)) hx hb dX5_scan_6 (by decide) ?_
  refine va_put (D := G) (ci := 7) (v := .int (0 : Int32)) (ty := .int) (C := RX5) (T := TX5) (N := 6) hx hb hts i_X5 tyX5 tyX5_ok nmX5 hown hK.1 hP hD hS 0 rfl rfl 2 (by decide) w_1 (fun _ h9 => h9) rfl (by decide +kernel) rfl rfl (Nat.le_of_ble_eq_true rfl) dX5_scan_7 (fun H locs hP' hD' hS' => ?_)
  replace hP : va_P G vwCl (k_X5_scan cA o o_input o_words o_numbers v_o_length (0 : Int32) (0 : Int32) g_o_input g_o_words g_o_numbers) H := hP'
  replace hD : va_D A (k_X5_scan cA o o_input o_words o_numbers v_o_length (0 : Int32) (0 : Int32) g_o_input g_o_words g_o_numbers) := hD'
  replace hS := hS'
  refine lv_iconst (v := (0 : Int32)) hx hb dX5_scan_10 (by decide) ?_
  refine lv_istore_n (lv' := [(1, .int (0 : Int32)), (0, .ref o)]) hx hb dX5_scan_11 rfl hl (by decide) rfl (fun ls hl => ?_)
  have J55_1 : ∀ (v_1 : Int32) (v_2 : Int32) (g_3 : Nat → Int32) (g_4 : Nat → Int32), ∀ (H : Heap) (locs : List Loc) (ls : Array Slot), m_X5_scan_J55 v_o_length (v_1, v_2, g_3, g_4) = R → va_P G vwCl (k_X5_scan cA o o_input o_words o_numbers v_o_length v_1 v_2 g_o_input g_3 g_4) H → va_D A (k_X5_scan cA o o_input o_words o_numbers v_o_length v_1 v_2 g_o_input g_3 g_4) → va_S A s.heap H locs → lv_has ls 2 [(0, .ref o)] → W p l e ({ frames := 7, cells := 0, slots := 0, locals := 154 } : Room) s m av below meth c H locs 0 0 Q (F0 m 55 ls []) := by
    intro v_1 v_2 g_3 g_4 H locs ls hm hP hD hS hl
    unfold m_X5_scan_J55 at hm
    refine lv_aload_n hx hb dX5_scan_55 rfl (lv_at hl 0 rfl) ?_
    refine va_get (D := G) (ci := 7) (v := .int v_2) (C := RX5) (T := TX5) (N := 6) hx hb hts i_X5 hown hK.1 hP 0 rfl rfl 2 (by decide) w_1 (fun _ h9 => h9) rfl dX5_scan_56 ?_
    refine lv_if_le (tgt := 77) hx hb dX5_scan_59 (by decide) (fun c_5 => ?_) (fun c_5 => ?_)
    · replace hm := it hm c_5
      refine lv_iconst (v := (0 : Int32)) hx hb dX5_scan_77 (by decide) ?_
      exact hret _ _ _ (v_1, v_2, g_3, g_4) _ _ dX5_scan_78 rfl hP hS ⟨hm.symm, (by decide)⟩
    · replace hm := ie hm c_5
      refine lv_aload_n hx hb dX5_scan_62 rfl (lv_at hl 0 rfl) ?_
      refine va_get (D := G) (ci := 7) (v := .int v_1) (C := RX5) (T := TX5) (N := 6) hx hb hts i_X5 hown hK.1 hP 0 rfl rfl 1 (by decide) w_0 (fun _ h9 => h9) rfl dX5_scan_63 ?_
      refine lv_aload_n hx hb dX5_scan_66 rfl (lv_at hl 0 rfl) ?_
      refine va_get (D := G) (ci := 7) (v := .int v_o_length) (C := RX5) (T := TX5) (N := 6) hx hb hts i_X5 hown hK.1 hP 0 rfl rfl 0 (by decide) w_2 (fun _ h9 => h9) rfl dX5_scan_67 ?_
      refine lv_icmp_ne (tgt := 77) hx hb dX5_scan_70 (by decide) (fun c_6 => ?_) (fun c_6 => ?_)
      · replace hm := ie hm c_6
        refine lv_iconst (v := (0 : Int32)) hx hb dX5_scan_77 (by decide) ?_
        exact hret _ _ _ (v_1, v_2, g_3, g_4) _ _ dX5_scan_78 rfl hP hS ⟨hm.symm, (by decide)⟩
      · replace hm := it hm c_6
        refine lv_iconst (v := (1 : Int32)) hx hb dX5_scan_73 (by decide) ?_
        refine lv_goto (tgt := 78) hx hb dX5_scan_74 (by decide) ?_
        exact hret _ _ _ (v_1, v_2, g_3, g_4) _ _ dX5_scan_78 rfl hP hS ⟨hm.symm, (by decide)⟩
  have L12_2 : ∀ (n : Nat), ∀ (x_7 : Int32) (v_8 : Int32) (v_9 : Int32) (g_10 : Nat → Int32) (g_11 : Nat → Int32), ∀ (H : Heap) (locs : List Loc) (ls : Array Slot), fuel (m_X5_scan_L12 v_o_length g_o_input) n (x_7, v_8, v_9, g_10, g_11) = R → va_P G vwCl (k_X5_scan cA o o_input o_words o_numbers v_o_length v_8 v_9 g_o_input g_10 g_11) H → va_D A (k_X5_scan cA o o_input o_words o_numbers v_o_length v_8 v_9 g_o_input g_10 g_11) → va_S A s.heap H locs → lv_has ls 2 [(0, .ref o), (1, .int x_7)] → W p l e ({ frames := 7, cells := 0, slots := 0, locals := 154 } : Room) s m av below meth c H locs 0 0 Q (F0 m 12 ls []) := by
    intro n
    induction n with
    | zero =>
      intro x_7 v_8 v_9 g_10 g_11 H locs ls hm hP hD hS hl
      exact (fu0 hm hz).elim
    | succ n ih12 =>
      intro x_7 v_8 v_9 g_10 g_11 H locs ls hm hP hD hS hl
      replace hm := fus hm
      generalize fuel (m_X5_scan_L12 v_o_length g_o_input) n = rec_12 at hm ih12
      unfold m_X5_scan_L12 at hm
      refine lv_iload_n hx hb dX5_scan_12 rfl (lv_at hl 1 rfl) ?_
      refine lv_bipush (v := (12 : Int32)) hx hb dX5_scan_13 (by decide) ?_
      refine lv_icmp_ge (tgt := 55) hx hb dX5_scan_15 (by decide) (fun c_13 => ?_) (fun c_13 => ?_)
      · replace hm := it hm c_13
        exact J55_1 v_8 v_9 g_10 g_11 _ _ _ hm hP hD hS (lv_sub hl [0] rfl)
      · replace hm := ie hm c_13
        refine lv_aload_n hx hb dX5_scan_18 rfl (lv_at hl 0 rfl) ?_
        refine va_get (D := G) (ci := 7) (v := .int v_8) (C := RX5) (T := TX5) (N := 6) hx hb hts i_X5 hown hK.1 hP 0 rfl rfl 1 (by decide) w_0 (fun _ h9 => h9) rfl dX5_scan_19 ?_
        refine lv_aload_n hx hb dX5_scan_22 rfl (lv_at hl 0 rfl) ?_
        refine va_get (D := G) (ci := 7) (v := .int v_o_length) (C := RX5) (T := TX5) (N := 6) hx hb hts i_X5 hown hK.1 hP 0 rfl rfl 0 (by decide) w_2 (fun _ h9 => h9) rfl dX5_scan_23 ?_
        refine lv_icmp_ge (tgt := 55) hx hb dX5_scan_26 (by decide) (fun c_14 => ?_) (fun c_14 => ?_)
        · replace hm := it hm c_14
          exact J55_1 v_8 v_9 g_10 g_11 _ _ _ hm hP hD hS (lv_sub hl [0] rfl)
        · replace hm := ie hm c_14
          refine lv_aload_n hx hb dX5_scan_29 rfl (lv_at hl 0 rfl) ?_
          refine lv_iload_n hx hb dX5_scan_30 rfl (lv_at hl 1 rfl) ?_
          have hPc := hP.sub (ws' := (k_X5_scanCommand cA o o_input o_words o_numbers v_o_length v_8 v_9 g_o_input g_10 g_11)) [0, 1, 2, 3] rfl
          have hDc := hD.sub (ws' := (k_X5_scanCommand cA o o_input o_words o_numbers v_o_length v_8 v_9 g_o_input g_10 g_11)) [0, 1, 2, 3] (by decide) rfl
          have hFc := va_free (wc := (k_X5_scanCommand cA o o_input o_words o_numbers v_o_length v_8 v_9 g_o_input g_10 g_11)) hD hS hA [0, 1, 2, 3] rfl
          refine va_calli (va_runV (As := [.int x_7]) (rest := []) ⟨hx, hb, hml, hown, hts⟩ (c_X5_scanCommand l z G cA o o_input o_words o_numbers H.size x_7 v_o_length v_8 v_9 g_o_input g_10 g_11 _ rfl (bnz hm hz)) (cwV 1 hts gX5_scan_X5_scanCommand rfl rfl rfl (by decide +kernel) ⟨Nat.le_of_ble_eq_true rfl, Nat.le_of_ble_eq_true rfl⟩) (preMVo (q := (RX5, TX5, 6)) hPc hDc hK hT hO hS hFc 0 rfl rfl) rfl rfl hl.1 rfl (lv_room (Nat.le_of_ble_eq_true rfl)) dX5_scan_31 ⟨Nat.zero_le _, Nat.zero_le _⟩) hS (fun q _ h => hFc q h) hFc (fun r_15 u_18 t H locs ht hvm hw hB hz1 hk1 hS' => ?_)
          obtain ⟨v_16, g_17, g_18⟩ := u_18
          replace hm := bst hm hw.1
          replace hB : va_P G vwCl _ _ := hB
          rw [ht] at hB
          have hj := va_back (ws' := (k_X5_scan cA o o_input o_words o_numbers v_o_length v_16 v_9 g_o_input g_17 g_18)) hP hD [0, 1, 2, 3] rfl hk1 hB [(true, 0), (true, 1), (true, 2), (true, 3)] rfl (by decide) rfl
          replace hP : va_P G vwCl (k_X5_scan cA o o_input o_words o_numbers v_o_length v_16 v_9 g_o_input g_17 g_18) H := hj.1
          replace hD : va_D A (k_X5_scan cA o o_input o_words o_numbers v_o_length v_16 v_9 g_o_input g_17 g_18) := hj.2
          replace hS := hS'
          clear hj hPc hDc hFc hB
          refine lv_if_ne (tgt := 39) hx hb dX5_scan_34 (by decide) (fun c_19 => ?_) (fun c_19 => ?_)
          · replace hm := ie hm c_19
            refine lv_aload_n hx hb dX5_scan_39 rfl (lv_at hl 0 rfl) ?_
            refine lv_dup hx hb dX5_scan_40 rfl ?_
            refine va_get (D := G) (ci := 7) (v := .int v_9) (C := RX5) (T := TX5) (N := 6) hx hb hts i_X5 hown hK.1 hP 0 rfl rfl 2 (by decide) w_1 (fun _ h9 => h9) rfl dX5_scan_41 ?_
            refine lv_iconst (v := (1 : Int32)) hx hb dX5_scan_44 (by decide) ?_
            refine lv_iadd hx hb dX5_scan_45 ?_
            refine va_put (D := G) (ci := 7) (v := .int (v_9 + (1 : Int32))) (ty := .int) (C := RX5) (T := TX5) (N := 6) hx hb hts i_X5 tyX5 tyX5_ok nmX5 hown hK.1 hP hD hS 0 rfl rfl 2 (by decide) w_1 (fun _ h9 => h9) rfl (by decide +kernel) rfl rfl (Nat.le_of_ble_eq_true rfl) dX5_scan_46 (fun H locs hP' hD' hS' => ?_)
            replace hP : va_P G vwCl (k_X5_scan cA o o_input o_words o_numbers v_o_length v_16 (v_9 + (1 : Int32)) g_o_input g_17 g_18) H := hP'
            replace hD : va_D A (k_X5_scan cA o o_input o_words o_numbers v_o_length v_16 (v_9 + (1 : Int32)) g_o_input g_17 g_18) := hD'
            replace hS := hS'
            refine lv_iinc (v := x_7 + (1 : Int32)) (lv' := [(1, .int (x_7 + (1 : Int32))), (0, .ref o)]) hx hb dX5_scan_49 hl (k := 1) rfl rfl (by decide) rfl (fun ls hl => ?_)
            refine lv_goto (tgt := 12) hx hb dX5_scan_52 (by decide) ?_
            exact ih12 (x_7 + (1 : Int32)) v_16 (v_9 + (1 : Int32)) g_17 g_18 _ _ _ hm hP hD hS (lv_sub hl [1, 0] rfl)
          · replace hm := it hm c_19
            refine lv_iconst (v := (0 : Int32)) hx hb dX5_scan_37 (by decide) ?_
            exact hret _ _ _ (v_16, v_9, g_17, g_18) _ _ dX5_scan_38 rfl hP hS ⟨hm.symm, (by decide)⟩
  exact L12_2 _ (0 : Int32) (0 : Int32) (0 : Int32) g_o_words g_o_numbers _ _ _ hm hP hD hS (lv_sub hl [1, 0] rfl)
def m_X5_numberOf (p1 : Int32) (p2 : Int32) (g_o_numbers : Nat → Int32) : Option (Int32) := (if ((p1 * (3 : Int32)) + p2) < 0 then some (0 : Int32) else (if (36 : Int32) ≤ ((p1 * (3 : Int32)) + p2) then some (0 : Int32) else gd (ix ((p1 * (3 : Int32)) + p2) 36) (some (g_o_numbers ((p1 * (3 : Int32)) + p2).toNatClampNeg))))
abbrev k_X5_numberOf (cA : Nat → ClassId) (o o_input o_words o_numbers : Nat) (v_o_length : Int32) (v_o_at : Int32) (v_o_commands : Int32) (g_o_numbers : Nat → Int32) : va_W := [(o, .inr (7, [.int v_o_length, .int v_o_at, .int v_o_commands, .ref o_input, .ref o_words, .ref o_numbers])), (o_numbers, .inl (cA 0, 36, .inl g_o_numbers))]
set_option maxHeartbeats 4000000 in
set_option maxRecDepth 100000 in
/-- X5_numberOf: as its model -/
theorem c_X5_numberOf (l : Launch) (G : va_G) (cA : Nat → ClassId) (o o_input o_words o_numbers : Nat) (p1 : Int32) (p2 : Int32) (v_o_length : Int32) (v_o_at : Int32) (v_o_commands : Int32) (g_o_numbers : Nat → Int32) (R : Option (Int32)) (hR : m_X5_numberOf p1 p2 g_o_numbers = R) (hz : R ≠ none) : Met l yX5_numberOf wsX5_numberOf ({ frames := 0, cells := 0, slots := 0, locals := 0 } : Room) (va_Pc [.ref o, .int p1, .int p2] (PR G cA (k_X5_numberOf cA o o_input o_words o_numbers v_o_length v_o_at v_o_commands g_o_numbers))) (vp_Si (fun r => R = some r)) 0 0 (fun _ => False) := by
  refine metR .int (by decide) rfl (Nat.le_of_ble_eq_true rfl) ?_
  intro p e s m av below meth c Q ls hx hb hml hts hown hP hK hl hret
  replace hl : lv_has ls 4 [(0, .ref o), (1, .int p1), (2, .int p2)] := hl
  have w_0 := hts (.fieldLink RX5 29 "ParcelRegistry$Text" "numbers" "[I") (by decide +kernel)
  have i_X5 : ∀ w ∈ wsX50, w ∈ wsX5_numberOf := by decide +kernel
  have hm := hR
  unfold m_X5_numberOf at hm
  refine lv_iload_n hx hb dX5_numberOf_0 rfl (lv_at hl 1 rfl) ?_
  refine lv_iconst (v := (3 : Int32)) hx hb dX5_numberOf_1 (by decide) ?_
  refine lv_imul hx hb dX5_numberOf_2 ?_
  refine lv_iload_n hx hb dX5_numberOf_3 rfl (lv_at hl 2 rfl) ?_
  refine lv_iadd hx hb dX5_numberOf_4 ?_
  refine lv_istore_n (lv' := [(3, .int ((p1 * (3 : Int32)) + p2)), (0, .ref o), (1, .int p1), (2, .int p2)]) hx hb dX5_numberOf_5 rfl hl (by decide) rfl (fun ls hl => ?_)
  refine lv_iload_n hx hb dX5_numberOf_6 rfl (lv_at hl 0 rfl) ?_
  refine lv_if_lt (tgt := 28) hx hb dX5_numberOf_7 (by decide) (fun c_1 => ?_) (fun c_1 => ?_)
  · replace hm := it hm c_1
    refine lv_iconst (v := (0 : Int32)) hx hb dX5_numberOf_28 (by decide) ?_
    exact hret _ _ _ dX5_numberOf_29 rfl hm.symm
  · replace hm := ie hm c_1
    refine lv_iload_n hx hb dX5_numberOf_10 rfl (lv_at hl 0 rfl) ?_
    refine lv_aload_n hx hb dX5_numberOf_11 rfl (lv_at hl 1 rfl) ?_
    refine va_get (D := G) (ci := 7) (v := .ref o_numbers) (C := RX5) (T := TX5) (N := 6) hx hb hts i_X5 hown hK.1 hP 0 rfl rfl 5 (by decide) w_0 (fun _ h9 => h9) rfl dX5_numberOf_12 ?_
    refine va_alen hx hb hK.1 hP 1 0 rfl rfl (v := (36 : Int32)) rfl dX5_numberOf_15 ?_
    refine lv_icmp_ge (tgt := 28) hx hb dX5_numberOf_16 (by decide) (fun c_2 => ?_) (fun c_2 => ?_)
    · replace hm := it hm c_2
      refine lv_iconst (v := (0 : Int32)) hx hb dX5_numberOf_28 (by decide) ?_
      exact hret _ _ _ dX5_numberOf_29 rfl hm.symm
    · replace hm := ie hm c_2
      refine lv_aload_n hx hb dX5_numberOf_19 rfl (lv_at hl 1 rfl) ?_
      refine va_get (D := G) (ci := 7) (v := .ref o_numbers) (C := RX5) (T := TX5) (N := 6) hx hb hts i_X5 hown hK.1 hP 0 rfl rfl 5 (by decide) w_0 (fun _ h9 => h9) rfl dX5_numberOf_20 ?_
      refine lv_iload_n hx hb dX5_numberOf_23 rfl (lv_at hl 0 rfl) ?_
      replace hm := gdo hm hz
      obtain ⟨gi_3, hm⟩ := hm
      refine va_iald hx hb hK.1 hP 1 0 (cA := cA 0) (n := 36) (f := g_o_numbers) rfl rfl (ixi gi_3) dX5_numberOf_24 ?_
      refine lv_goto (tgt := 29) hx hb dX5_numberOf_25 (by decide) ?_
      exact hret _ _ _ dX5_numberOf_29 rfl hm.symm
def m_X5_wordOf (p1 : Int32) (g_o_words : Nat → Int32) : Option (Int32) := (if p1 < 0 then some (-1 : Int32) else (if (12 : Int32) ≤ p1 then some (-1 : Int32) else gd (ix p1 12) (some (g_o_words p1.toNatClampNeg))))
abbrev k_X5_wordOf (cA : Nat → ClassId) (o o_input o_words o_numbers : Nat) (v_o_length : Int32) (v_o_at : Int32) (v_o_commands : Int32) (g_o_words : Nat → Int32) : va_W := [(o, .inr (7, [.int v_o_length, .int v_o_at, .int v_o_commands, .ref o_input, .ref o_words, .ref o_numbers])), (o_words, .inl (cA 0, 12, .inl g_o_words))]
set_option maxHeartbeats 4000000 in
set_option maxRecDepth 100000 in
/-- X5_wordOf: as its model -/
theorem c_X5_wordOf (l : Launch) (G : va_G) (cA : Nat → ClassId) (o o_input o_words o_numbers : Nat) (p1 : Int32) (v_o_length : Int32) (v_o_at : Int32) (v_o_commands : Int32) (g_o_words : Nat → Int32) (R : Option (Int32)) (hR : m_X5_wordOf p1 g_o_words = R) (hz : R ≠ none) : Met l yX5_wordOf wsX5_wordOf ({ frames := 0, cells := 0, slots := 0, locals := 0 } : Room) (va_Pc [.ref o, .int p1] (PR G cA (k_X5_wordOf cA o o_input o_words o_numbers v_o_length v_o_at v_o_commands g_o_words))) (vp_Si (fun r => R = some r)) 0 0 (fun _ => False) := by
  refine metR .int (by decide) rfl (Nat.le_of_ble_eq_true rfl) ?_
  intro p e s m av below meth c Q ls hx hb hml hts hown hP hK hl hret
  replace hl : lv_has ls 2 [(0, .ref o), (1, .int p1)] := hl
  have w_0 := hts (.fieldLink RX5 25 "ParcelRegistry$Text" "words" "[I") (by decide +kernel)
  have i_X5 : ∀ w ∈ wsX50, w ∈ wsX5_wordOf := by decide +kernel
  have hm := hR
  unfold m_X5_wordOf at hm
  refine lv_iload_n hx hb dX5_wordOf_0 rfl (lv_at hl 1 rfl) ?_
  refine lv_if_lt (tgt := 19) hx hb dX5_wordOf_1 (by decide) (fun c_1 => ?_) (fun c_1 => ?_)
  · replace hm := it hm c_1
    refine lv_iconst (v := (-1 : Int32)) hx hb dX5_wordOf_19 (by decide) ?_
    exact hret _ _ _ dX5_wordOf_20 rfl hm.symm
  · replace hm := ie hm c_1
    refine lv_iload_n hx hb dX5_wordOf_4 rfl (lv_at hl 1 rfl) ?_
    refine lv_bipush (v := (12 : Int32)) hx hb dX5_wordOf_5 (by decide) ?_
    refine lv_icmp_ge (tgt := 19) hx hb dX5_wordOf_7 (by decide) (fun c_2 => ?_) (fun c_2 => ?_)
    · replace hm := it hm c_2
      refine lv_iconst (v := (-1 : Int32)) hx hb dX5_wordOf_19 (by decide) ?_
      exact hret _ _ _ dX5_wordOf_20 rfl hm.symm
    · replace hm := ie hm c_2
      refine lv_aload_n hx hb dX5_wordOf_10 rfl (lv_at hl 0 rfl) ?_
      refine va_get (D := G) (ci := 7) (v := .ref o_words) (C := RX5) (T := TX5) (N := 6) hx hb hts i_X5 hown hK.1 hP 0 rfl rfl 4 (by decide) w_0 (fun _ h9 => h9) rfl dX5_wordOf_11 ?_
      refine lv_iload_n hx hb dX5_wordOf_14 rfl (lv_at hl 1 rfl) ?_
      replace hm := gdo hm hz
      obtain ⟨gi_3, hm⟩ := hm
      refine va_iald hx hb hK.1 hP 1 0 (cA := cA 0) (n := 12) (f := g_o_words) rfl rfl (ixi gi_3) dX5_wordOf_15 ?_
      refine lv_goto (tgt := 20) hx hb dX5_wordOf_16 (by decide) ?_
      exact hret _ _ _ dX5_wordOf_20 rfl hm.symm
