/-! the reference, the rest: models and walks, by program. -/
def m_X8_remember_J52 (g_q1 : Nat → Int32) : (Int32 × (Nat → Nat → Int32)) → Option (Int32 × (Nat → Nat → Int32)) := fun v => match v with
  | (v_1, h_2) => gd (ix v_1 6) (Option.bind (m_X8_copyRow g_q1 (h_2 v_1.toNatClampNeg)) (fun g_4 => some (v_1 + (1 : Int32), hup h_2 v_1.toNatClampNeg g_4)))
def m_X8_remember_L21 (v_o_kept : Int32) (g_q1 : Nat → Int32) : ((Int32 × (Nat → Nat → Int32)) → Option (Int32 × (Nat → Nat → Int32))) → (Int32 × (Nat → Nat → Int32)) → Option (Int32 × (Nat → Nat → Int32)) := fun rec_8 v => match v with
  | (x_6, h_7) => (if (v_o_kept - (1 : Int32)) ≤ x_6 then m_X8_remember_J52 g_q1 (v_o_kept - (1 : Int32), h_7) else gd (ix (x_6 + (1 : Int32)) 6) (gd (ix x_6 6) (gd (decide ((x_6 + (1 : Int32)).toNatClampNeg ≠ x_6.toNatClampNeg)) (Option.bind (m_X8_copyRow (h_7 (x_6 + (1 : Int32)).toNatClampNeg) (h_7 x_6.toNatClampNeg)) (fun g_13 => rec_8 (x_6 + (1 : Int32), hup h_7 x_6.toNatClampNeg g_13))))))
def m_X8_remember (v_o_kept : Int32) (g_q1 : Nat → Int32) (gW : Nat → Nat → Int32) : Option (Int32 × (Nat → Nat → Int32)) := (if v_o_kept = (6 : Int32) then fuel (m_X8_remember_L21 v_o_kept g_q1) FU ((0 : Int32), gW) else m_X8_remember_J52 g_q1 (v_o_kept, gW))
abbrev e_X8_remember (cA : Nat → ClassId) (o o_now o_saved o_aside o_history o_chains o_buffer o_numbers q1 : Nat) (v_o_thrown : Int32) (v_o_kept : Int32) (v_o_reason : Int32) (v_o_errorPosition : Int32) (v_o_isSaved : Int32) (v_o_length : Int32) (v_o_at : Int32) (v_o_isWrong : Int32) (g_q1 : Nat → Int32) (gA : Nat → Nat) : va_W := [(o, .inr (10, [.int v_o_thrown, .ref o_now, .ref o_saved, .ref o_aside, .ref o_history, .int v_o_kept, .int v_o_reason, .int v_o_errorPosition, .int v_o_isSaved, .ref o_chains, .ref o_buffer, .int v_o_length, .int v_o_at, .int v_o_isWrong, .ref o_numbers])), (o_history, .inl (cA 3, 6, .inr (.inr (.inr (.inr (fun j => some (gA j))))))), (q1, .inl (cA 0, 621, .inl g_q1))]
abbrev k_X8_remember (cA : Nat → ClassId) (o o_now o_saved o_aside o_history o_chains o_buffer o_numbers q1 : Nat) (v_o_thrown : Int32) (v_o_kept : Int32) (v_o_reason : Int32) (v_o_errorPosition : Int32) (v_o_isSaved : Int32) (v_o_length : Int32) (v_o_at : Int32) (v_o_isWrong : Int32) (g_q1 : Nat → Int32) (gA : Nat → Nat) (gW : Nat → Nat → Int32) : va_W := e_X8_remember cA o o_now o_saved o_aside o_history o_chains o_buffer o_numbers q1 v_o_thrown v_o_kept v_o_reason v_o_errorPosition v_o_isSaved v_o_length v_o_at v_o_isWrong g_q1 gA ++ gblk cA gA gW
set_option maxHeartbeats 4000000 in
set_option maxRecDepth 100000 in
/-- X8_remember: as its model -/
theorem c_X8_remember (l : Launch) (G : va_G) (cA : Nat → ClassId) (o o_now o_saved o_aside o_history o_chains o_buffer o_numbers q1 : Nat) (sz : Nat) (v_o_thrown : Int32) (v_o_kept : Int32) (v_o_reason : Int32) (v_o_errorPosition : Int32) (v_o_isSaved : Int32) (v_o_length : Int32) (v_o_at : Int32) (v_o_isWrong : Int32) (g_q1 : Nat → Int32) (gA : Nat → Nat) (gW : Nat → Nat → Int32) (R : Option (Int32 × (Nat → Nat → Int32))) (hR : m_X8_remember v_o_kept g_q1 gW = R) (hz : R ≠ none) : Met l yX8_remember wsX8_remember ({ frames := 1, cells := 0, slots := 0, locals := 22 } : Room) (va_Pc [.ref o, .ref q1] (PM G cA (k_X8_remember cA o o_now o_saved o_aside o_history o_chains o_buffer o_numbers q1 v_o_thrown v_o_kept v_o_reason v_o_errorPosition v_o_isSaved v_o_length v_o_at v_o_isWrong g_q1 gA gW) sz)) (va_Qv (fun (u : Int32 × (Nat → Nat → Int32)) => R = some u) (BM G (fun (u : Int32 × (Nat → Nat → Int32)) => (k_X8_remember cA o o_now o_saved o_aside o_history o_chains o_buffer o_numbers q1 v_o_thrown u.1 v_o_reason v_o_errorPosition v_o_isSaved v_o_length v_o_at v_o_isWrong g_q1 gA u.2))) (va_A (k_X8_remember cA o o_now o_saved o_aside o_history o_chains o_buffer o_numbers q1 v_o_thrown v_o_kept v_o_reason v_o_errorPosition v_o_isSaved v_o_length v_o_at v_o_isWrong g_q1 gA gW) sz)) 0 0 (va_A (k_X8_remember cA o o_now o_saved o_aside o_history o_chains o_buffer o_numbers q1 v_o_thrown v_o_kept v_o_reason v_o_errorPosition v_o_isSaved v_o_length v_o_at v_o_isWrong g_q1 gA gW) sz) := by
  refine metV (by decide) rfl (Nat.le_of_ble_eq_true rfl) ?_
  intro p e s m av below meth c Q ls A H hx hb hml hts hown hP hK hD hA hS hl hret
  replace hl : lv_has ls 3 [(0, .ref o), (1, .ref q1)] := hl
  have w_0 := hts (.fieldLink RX8 41 "ParcelRegistryModel" "kept" "I") (by decide +kernel)
  have w_1 := hts (.fieldLink RX8 21 "ParcelRegistryModel" "history" "[[I") (by decide +kernel)
  have i_X8 : ∀ w ∈ wsX80, w ∈ wsX8_remember := by decide +kernel
  have hm := hR
  unfold m_X8_remember at hm
  refine lv_aload_n hx hb dX8_remember_0 rfl (lv_at hl 0 rfl) ?_
  refine va_get (D := G) (ci := 10) (v := .int v_o_kept) (C := RX8) (T := TX8) (N := 15) hx hb hts i_X8 hown hK.1 hP 0 rfl rfl 5 (by decide) w_0 (fun _ h9 => h9) rfl dX8_remember_1 ?_
  refine lv_bipush (v := (6 : Int32)) hx hb dX8_remember_4 (by decide) ?_
  have J52_1 : ∀ (v_1 : Int32) (h_2 : Nat → Nat → Int32), ∀ (H : Heap) (locs : List Loc) (ls : Array Slot), m_X8_remember_J52 g_q1 (v_1, h_2) = R → va_P G vwCl (k_X8_remember cA o o_now o_saved o_aside o_history o_chains o_buffer o_numbers q1 v_o_thrown v_1 v_o_reason v_o_errorPosition v_o_isSaved v_o_length v_o_at v_o_isWrong g_q1 gA h_2) H → va_D A (k_X8_remember cA o o_now o_saved o_aside o_history o_chains o_buffer o_numbers q1 v_o_thrown v_1 v_o_reason v_o_errorPosition v_o_isSaved v_o_length v_o_at v_o_isWrong g_q1 gA h_2) → va_S A s.heap H locs → lv_has ls 3 [(0, .ref o), (1, .ref q1)] → W p l e ({ frames := 1, cells := 0, slots := 0, locals := 22 } : Room) s m av below meth c H locs 0 0 Q (F0 m 52 ls []) := by
    intro v_1 h_2 H locs ls hm hP hD hS hl
    unfold m_X8_remember_J52 at hm
    refine lv_aload_n hx hb dX8_remember_52 rfl (lv_at hl 1 rfl) ?_
    refine lv_aload_n hx hb dX8_remember_53 rfl (lv_at hl 0 rfl) ?_
    refine va_get (D := G) (ci := 10) (v := .ref o_history) (C := RX8) (T := TX8) (N := 15) hx hb hts i_X8 hown hK.1 hP 0 rfl rfl 4 (by decide) w_1 (fun _ h9 => h9) rfl dX8_remember_54 ?_
    refine lv_aload_n hx hb dX8_remember_57 rfl (lv_at hl 0 rfl) ?_
    refine va_get (D := G) (ci := 10) (v := .int v_1) (C := RX8) (T := TX8) (N := 15) hx hb hts i_X8 hown hK.1 hP 0 rfl rfl 5 (by decide) w_0 (fun _ h9 => h9) rfl dX8_remember_58 ?_
    replace hm := gdo hm hz
    obtain ⟨gi_3, hm⟩ := hm
    refine va_aldA hx hb hK.1 hP 1 3 (cA := cA 3) (ty := .int) (n := 6) (f := fun j => some (gA j)) rfl rfl (ixi gi_3) dX8_remember_61 ?_
    refine W.eq (g2 := F0 m 62 ls [.ref (gA v_1.toNatClampNeg), .ref q1]) rfl ?_
    have hp : (k_X8_remember cA o o_now o_saved o_aside o_history o_chains o_buffer o_numbers q1 v_o_thrown v_1 v_o_reason v_o_errorPosition v_o_isSaved v_o_length v_o_at v_o_isWrong g_q1 gA h_2).Perm ([(q1, .inl (cA 0, 621, .inl g_q1)), ((gA v_1.toNatClampNeg), .inl (cA 0, 621, .inl (h_2 v_1.toNatClampNeg)))] ++ ((e_X8_remember cA o o_now o_saved o_aside o_history o_chains o_buffer o_numbers q1 v_o_thrown v_1 v_o_reason v_o_errorPosition v_o_isSaved v_o_length v_o_at v_o_isWrong g_q1 gA).eraseIdx 2 ++ (gblkR cA gA h_2 v_1.toNatClampNeg))) := gc_A 2 rfl (gp_perm (ixn gi_3))
    have hPc : va_P G vwCl (k_X8_copyRow cA q1 (gA v_1.toNatClampNeg) g_q1 (h_2 v_1.toNatClampNeg)) H := (hP.perm hp).left
    have hDc : va_D A (k_X8_copyRow cA q1 (gA v_1.toNatClampNeg) g_q1 (h_2 v_1.toNatClampNeg)) := (hD.perm hp).left
    have hFc := va_freePm hp hD hS hA
    refine va_callv (va_runS (As := [.ref q1, .ref (gA v_1.toNatClampNeg)]) (rest := []) ⟨hx, hb, hml, hown, hts⟩ (c_X8_copyRow l G cA q1 (gA v_1.toNatClampNeg) H.size g_q1 (h_2 v_1.toNatClampNeg) _ rfl (bnz hm hz)) (va_cwS 2 hts gX8_remember_X8_copyRow rfl rfl rfl (by decide +kernel) ⟨Nat.le_of_ble_eq_true rfl, Nat.le_of_ble_eq_true rfl⟩) (preMS hPc hDc hK) rfl rfl hl.1 rfl (lv_room (Nat.le_of_ble_eq_true rfl)) dX8_remember_62 ⟨Nat.zero_le _, Nat.zero_le _⟩) hS (fun q _ h => hFc q h) hFc (fun g_4 t H locs ht hvm hw hB hz1 hk1 hS' => ?_)
    replace hm := bst hm hw
    replace hB : va_P G vwCl (k_X8_copyRow cA q1 (gA v_1.toNatClampNeg) g_q1 g_4) t.heap := hB
    rw [ht] at hB
    have hj := va_backP hp hP hD hk1 hB rfl
    have hp2 : (k_X8_remember cA o o_now o_saved o_aside o_history o_chains o_buffer o_numbers q1 v_o_thrown v_1 v_o_reason v_o_errorPosition v_o_isSaved v_o_length v_o_at v_o_isWrong g_q1 gA (hup h_2 v_1.toNatClampNeg g_4)).Perm ([(q1, .inl (cA 0, 621, .inl g_q1)), ((gA v_1.toNatClampNeg), .inl (cA 0, 621, .inl g_4))] ++ ((e_X8_remember cA o o_now o_saved o_aside o_history o_chains o_buffer o_numbers q1 v_o_thrown v_1 v_o_reason v_o_errorPosition v_o_isSaved v_o_length v_o_at v_o_isWrong g_q1 gA).eraseIdx 2 ++ (gblkR cA gA h_2 v_1.toNatClampNeg))) := gc_A 2 rfl (gp_upd (ixn gi_3))
    replace hP : va_P G vwCl (k_X8_remember cA o o_now o_saved o_aside o_history o_chains o_buffer o_numbers q1 v_o_thrown v_1 v_o_reason v_o_errorPosition v_o_isSaved v_o_length v_o_at v_o_isWrong g_q1 gA (hup h_2 v_1.toNatClampNeg g_4)) H := hj.1.perm hp2.symm
    replace hD : va_D A (k_X8_remember cA o o_now o_saved o_aside o_history o_chains o_buffer o_numbers q1 v_o_thrown v_1 v_o_reason v_o_errorPosition v_o_isSaved v_o_length v_o_at v_o_isWrong g_q1 gA (hup h_2 v_1.toNatClampNeg g_4)) := hj.2.perm hp2.symm
    replace hS := hS'
    clear hj hp hp2 hPc hDc hFc hB
    refine lv_aload_n hx hb dX8_remember_65 rfl (lv_at hl 0 rfl) ?_
    refine lv_dup hx hb dX8_remember_66 rfl ?_
    refine va_get (D := G) (ci := 10) (v := .int v_1) (C := RX8) (T := TX8) (N := 15) hx hb hts i_X8 hown hK.1 hP 0 rfl rfl 5 (by decide) w_0 (fun _ h9 => h9) rfl dX8_remember_67 ?_
    refine lv_iconst (v := (1 : Int32)) hx hb dX8_remember_70 (by decide) ?_
    refine lv_iadd hx hb dX8_remember_71 ?_
    refine va_put (D := G) (ci := 10) (v := .int (v_1 + (1 : Int32))) (ty := .int) (C := RX8) (T := TX8) (N := 15) hx hb hts i_X8 tyX8 tyX8_ok nmX8 hown hK.1 hP hD hS 0 rfl rfl 5 (by decide) w_0 (fun _ h9 => h9) rfl (by decide +kernel) rfl rfl (Nat.le_of_ble_eq_true rfl) dX8_remember_72 (fun H locs hP' hD' hS' => ?_)
    replace hP : va_P G vwCl (k_X8_remember cA o o_now o_saved o_aside o_history o_chains o_buffer o_numbers q1 v_o_thrown (v_1 + (1 : Int32)) v_o_reason v_o_errorPosition v_o_isSaved v_o_length v_o_at v_o_isWrong g_q1 gA (hup h_2 v_1.toNatClampNeg g_4)) H := hP'
    replace hD : va_D A (k_X8_remember cA o o_now o_saved o_aside o_history o_chains o_buffer o_numbers q1 v_o_thrown (v_1 + (1 : Int32)) v_o_reason v_o_errorPosition v_o_isSaved v_o_length v_o_at v_o_isWrong g_q1 gA (hup h_2 v_1.toNatClampNeg g_4)) := hD'
    replace hS := hS'
    exact hret _ _ (v_1 + (1 : Int32), hup h_2 v_1.toNatClampNeg g_4) _ _ dX8_remember_75 hP hS hm.symm
  refine lv_icmp_ne (tgt := 52) hx hb dX8_remember_6 (by decide) (fun c_5 => ?_) (fun c_5 => ?_)
  · replace hm := ie hm c_5
    exact J52_1 v_o_kept gW _ _ _ hm hP hD hS (lv_sub hl [0, 1] rfl)
  · replace hm := it hm c_5
    refine lv_aload_n hx hb dX8_remember_9 rfl (lv_at hl 0 rfl) ?_
    refine lv_dup hx hb dX8_remember_10 rfl ?_
    refine va_get (D := G) (ci := 10) (v := .int v_o_kept) (C := RX8) (T := TX8) (N := 15) hx hb hts i_X8 hown hK.1 hP 0 rfl rfl 5 (by decide) w_0 (fun _ h9 => h9) rfl dX8_remember_11 ?_
    refine lv_iconst (v := (1 : Int32)) hx hb dX8_remember_14 (by decide) ?_
    refine lv_isub hx hb dX8_remember_15 ?_
    refine va_put (D := G) (ci := 10) (v := .int (v_o_kept - (1 : Int32))) (ty := .int) (C := RX8) (T := TX8) (N := 15) hx hb hts i_X8 tyX8 tyX8_ok nmX8 hown hK.1 hP hD hS 0 rfl rfl 5 (by decide) w_0 (fun _ h9 => h9) rfl (by decide +kernel) rfl rfl (Nat.le_of_ble_eq_true rfl) dX8_remember_16 (fun H locs hP' hD' hS' => ?_)
    replace hP : va_P G vwCl (k_X8_remember cA o o_now o_saved o_aside o_history o_chains o_buffer o_numbers q1 v_o_thrown (v_o_kept - (1 : Int32)) v_o_reason v_o_errorPosition v_o_isSaved v_o_length v_o_at v_o_isWrong g_q1 gA gW) H := hP'
    replace hD : va_D A (k_X8_remember cA o o_now o_saved o_aside o_history o_chains o_buffer o_numbers q1 v_o_thrown (v_o_kept - (1 : Int32)) v_o_reason v_o_errorPosition v_o_isSaved v_o_length v_o_at v_o_isWrong g_q1 gA gW) := hD'
    replace hS := hS'
    refine lv_iconst (v := (0 : Int32)) hx hb dX8_remember_19 (by decide) ?_
    refine lv_istore_n (lv' := [(2, .int (0 : Int32)), (0, .ref o), (1, .ref q1)]) hx hb dX8_remember_20 rfl hl (by decide) rfl (fun ls hl => ?_)
    have L21_2 : ∀ (n : Nat), ∀ (x_6 : Int32) (h_7 : Nat → Nat → Int32), ∀ (H : Heap) (locs : List Loc) (ls : Array Slot), fuel (m_X8_remember_L21 v_o_kept g_q1) n (x_6, h_7) = R → va_P G vwCl (k_X8_remember cA o o_now o_saved o_aside o_history o_chains o_buffer o_numbers q1 v_o_thrown (v_o_kept - (1 : Int32)) v_o_reason v_o_errorPosition v_o_isSaved v_o_length v_o_at v_o_isWrong g_q1 gA h_7) H → va_D A (k_X8_remember cA o o_now o_saved o_aside o_history o_chains o_buffer o_numbers q1 v_o_thrown (v_o_kept - (1 : Int32)) v_o_reason v_o_errorPosition v_o_isSaved v_o_length v_o_at v_o_isWrong g_q1 gA h_7) → va_S A s.heap H locs → lv_has ls 3 [(0, .ref o), (1, .ref q1), (2, .int x_6)] → W p l e ({ frames := 1, cells := 0, slots := 0, locals := 22 } : Room) s m av below meth c H locs 0 0 Q (F0 m 21 ls []) := by
      intro n
      induction n with
      | zero =>
        intro x_6 h_7 H locs ls hm hP hD hS hl
        exact (fu0 hm hz).elim
      | succ n ih21 =>
        intro x_6 h_7 H locs ls hm hP hD hS hl
        replace hm := fus hm
        generalize fuel (m_X8_remember_L21 v_o_kept g_q1) n = rec_8 at hm ih21
        unfold m_X8_remember_L21 at hm
        refine lv_iload_n hx hb dX8_remember_21 rfl (lv_at hl 2 rfl) ?_
        refine lv_aload_n hx hb dX8_remember_22 rfl (lv_at hl 0 rfl) ?_
        refine va_get (D := G) (ci := 10) (v := .int (v_o_kept - (1 : Int32))) (C := RX8) (T := TX8) (N := 15) hx hb hts i_X8 hown hK.1 hP 0 rfl rfl 5 (by decide) w_0 (fun _ h9 => h9) rfl dX8_remember_23 ?_
        refine lv_icmp_ge (tgt := 52) hx hb dX8_remember_26 (by decide) (fun c_9 => ?_) (fun c_9 => ?_)
        · replace hm := it hm c_9
          exact J52_1 (v_o_kept - (1 : Int32)) h_7 _ _ _ hm hP hD hS (lv_sub hl [0, 1] rfl)
        · replace hm := ie hm c_9
          refine lv_aload_n hx hb dX8_remember_29 rfl (lv_at hl 0 rfl) ?_
          refine va_get (D := G) (ci := 10) (v := .ref o_history) (C := RX8) (T := TX8) (N := 15) hx hb hts i_X8 hown hK.1 hP 0 rfl rfl 4 (by decide) w_1 (fun _ h9 => h9) rfl dX8_remember_30 ?_
          refine lv_iload_n hx hb dX8_remember_33 rfl (lv_at hl 2 rfl) ?_
          refine lv_iconst (v := (1 : Int32)) hx hb dX8_remember_34 (by decide) ?_
          refine lv_iadd hx hb dX8_remember_35 ?_
          replace hm := gdo hm hz
          obtain ⟨gi_10, hm⟩ := hm
          refine va_aldA hx hb hK.1 hP 1 3 (cA := cA 3) (ty := .int) (n := 6) (f := fun j => some (gA j)) rfl rfl (ixi gi_10) dX8_remember_36 ?_
          refine W.eq (g2 := F0 m 37 ls [.ref (gA (x_6 + (1 : Int32)).toNatClampNeg)]) rfl ?_
          refine lv_aload_n hx hb dX8_remember_37 rfl (lv_at hl 0 rfl) ?_
          refine va_get (D := G) (ci := 10) (v := .ref o_history) (C := RX8) (T := TX8) (N := 15) hx hb hts i_X8 hown hK.1 hP 0 rfl rfl 4 (by decide) w_1 (fun _ h9 => h9) rfl dX8_remember_38 ?_
          refine lv_iload_n hx hb dX8_remember_41 rfl (lv_at hl 2 rfl) ?_
          replace hm := gdo hm hz
          obtain ⟨gi_11, hm⟩ := hm
          refine va_aldA hx hb hK.1 hP 1 3 (cA := cA 3) (ty := .int) (n := 6) (f := fun j => some (gA j)) rfl rfl (ixi gi_11) dX8_remember_42 ?_
          refine W.eq (g2 := F0 m 43 ls [.ref (gA x_6.toNatClampNeg), .ref (gA (x_6 + (1 : Int32)).toNatClampNeg)]) rfl ?_
          replace hm := gdo hm hz
          obtain ⟨gn_12, hm⟩ := hm
          replace gn_12 := of_decide_eq_true gn_12
          have hp : (k_X8_remember cA o o_now o_saved o_aside o_history o_chains o_buffer o_numbers q1 v_o_thrown (v_o_kept - (1 : Int32)) v_o_reason v_o_errorPosition v_o_isSaved v_o_length v_o_at v_o_isWrong g_q1 gA h_7).Perm ([((gA (x_6 + (1 : Int32)).toNatClampNeg), .inl (cA 0, 621, .inl (h_7 (x_6 + (1 : Int32)).toNatClampNeg))), ((gA x_6.toNatClampNeg), .inl (cA 0, 621, .inl (h_7 x_6.toNatClampNeg)))] ++ ((e_X8_remember cA o o_now o_saved o_aside o_history o_chains o_buffer o_numbers q1 v_o_thrown (v_o_kept - (1 : Int32)) v_o_reason v_o_errorPosition v_o_isSaved v_o_length v_o_at v_o_isWrong g_q1 gA) ++ (gblkS cA gA h_7 (x_6 + (1 : Int32)).toNatClampNeg x_6.toNatClampNeg))) := gc_B (gp_two (ixn gi_10) (ixn gi_11) gn_12)
          have hPc : va_P G vwCl (k_X8_copyRow cA (gA (x_6 + (1 : Int32)).toNatClampNeg) (gA x_6.toNatClampNeg) (h_7 (x_6 + (1 : Int32)).toNatClampNeg) (h_7 x_6.toNatClampNeg)) H := (hP.perm hp).left
          have hDc : va_D A (k_X8_copyRow cA (gA (x_6 + (1 : Int32)).toNatClampNeg) (gA x_6.toNatClampNeg) (h_7 (x_6 + (1 : Int32)).toNatClampNeg) (h_7 x_6.toNatClampNeg)) := (hD.perm hp).left
          have hFc := va_freePm hp hD hS hA
          refine va_callv (va_runS (As := [.ref (gA (x_6 + (1 : Int32)).toNatClampNeg), .ref (gA x_6.toNatClampNeg)]) (rest := []) ⟨hx, hb, hml, hown, hts⟩ (c_X8_copyRow l G cA (gA (x_6 + (1 : Int32)).toNatClampNeg) (gA x_6.toNatClampNeg) H.size (h_7 (x_6 + (1 : Int32)).toNatClampNeg) (h_7 x_6.toNatClampNeg) _ rfl (bnz hm hz)) (va_cwS 2 hts gX8_remember_X8_copyRow rfl rfl rfl (by decide +kernel) ⟨Nat.le_of_ble_eq_true rfl, Nat.le_of_ble_eq_true rfl⟩) (preMS hPc hDc hK) rfl rfl hl.1 rfl (lv_room (Nat.le_of_ble_eq_true rfl)) dX8_remember_43 ⟨Nat.zero_le _, Nat.zero_le _⟩) hS (fun q _ h => hFc q h) hFc (fun g_13 t H locs ht hvm hw hB hz1 hk1 hS' => ?_)
          replace hm := bst hm hw
          replace hB : va_P G vwCl (k_X8_copyRow cA (gA (x_6 + (1 : Int32)).toNatClampNeg) (gA x_6.toNatClampNeg) (h_7 (x_6 + (1 : Int32)).toNatClampNeg) g_13) t.heap := hB
          rw [ht] at hB
          have hj := va_backP hp hP hD hk1 hB rfl
          have hp2 : (k_X8_remember cA o o_now o_saved o_aside o_history o_chains o_buffer o_numbers q1 v_o_thrown (v_o_kept - (1 : Int32)) v_o_reason v_o_errorPosition v_o_isSaved v_o_length v_o_at v_o_isWrong g_q1 gA (hup h_7 x_6.toNatClampNeg g_13)).Perm ([((gA (x_6 + (1 : Int32)).toNatClampNeg), .inl (cA 0, 621, .inl (h_7 (x_6 + (1 : Int32)).toNatClampNeg))), ((gA x_6.toNatClampNeg), .inl (cA 0, 621, .inl g_13))] ++ ((e_X8_remember cA o o_now o_saved o_aside o_history o_chains o_buffer o_numbers q1 v_o_thrown (v_o_kept - (1 : Int32)) v_o_reason v_o_errorPosition v_o_isSaved v_o_length v_o_at v_o_isWrong g_q1 gA) ++ (gblkS cA gA h_7 (x_6 + (1 : Int32)).toNatClampNeg x_6.toNatClampNeg))) := gc_B (gp_two_upd (ixn gi_10) (ixn gi_11) gn_12)
          replace hP : va_P G vwCl (k_X8_remember cA o o_now o_saved o_aside o_history o_chains o_buffer o_numbers q1 v_o_thrown (v_o_kept - (1 : Int32)) v_o_reason v_o_errorPosition v_o_isSaved v_o_length v_o_at v_o_isWrong g_q1 gA (hup h_7 x_6.toNatClampNeg g_13)) H := hj.1.perm hp2.symm
          replace hD : va_D A (k_X8_remember cA o o_now o_saved o_aside o_history o_chains o_buffer o_numbers q1 v_o_thrown (v_o_kept - (1 : Int32)) v_o_reason v_o_errorPosition v_o_isSaved v_o_length v_o_at v_o_isWrong g_q1 gA (hup h_7 x_6.toNatClampNeg g_13)) := hj.2.perm hp2.symm
          replace hS := hS'
          clear hj hp hp2 hPc hDc hFc hB
          refine lv_iinc (v := x_6 + (1 : Int32)) (lv' := [(2, .int (x_6 + (1 : Int32))), (0, .ref o), (1, .ref q1)]) hx hb dX8_remember_46 hl (k := 2) rfl rfl (by decide) rfl (fun ls hl => ?_)
          refine lv_goto (tgt := 21) hx hb dX8_remember_49 (by decide) ?_
          exact ih21 (x_6 + (1 : Int32)) (hup h_7 x_6.toNatClampNeg g_13) _ _ _ hm hP hD hS (lv_sub hl [1, 2, 0] rfl)
    exact L21_2 _ (0 : Int32) gW _ _ _ hm hP hD hS (lv_sub hl [1, 2, 0] rfl)
def m_X8_addParcel_J50 (g_o_now : Nat → Int32) (gW : Nat → Nat → Int32) (v_o_kept : Int32) (p1 : Int32) (p2 : Int32) : (Int32) → Option (Int32 × Int32 × Int32 × (Nat → Int32) × (Nat → Nat → Int32)) := fun y_7 => Option.bind (m_X8_fails (2 : Int32) y_7) (fun q => match q with
  | (r_8, v_9) => (if r_8 = 0 then Option.bind (m_X8_remember v_o_kept g_o_now gW) (fun q => match q with
  | (v_11, h_12) => gd (ix (6 : Int32) 621) (gd (ix (6 : Int32) 621) (Option.bind (m_X8_newParcel p1 p2 (0 : Int32) (upd g_o_now (6 : Int32).toNatClampNeg ((g_o_now (6 : Int32).toNatClampNeg) + p1))) (fun q => match q with
  | (r_15, g_16) => some (r_15, v_9, v_11, g_16, h_12))))) else some ((0 : Int32), v_9, v_o_kept, g_o_now, gW)))
def m_X8_addParcel_J26 (g_o_now : Nat → Int32) (gW : Nat → Nat → Int32) (v_o_kept : Int32) (p1 : Int32) (p2 : Int32) : (Int32) → Option (Int32 × Int32 × Int32 × (Nat → Int32) × (Nat → Nat → Int32)) := fun y_2 => Option.bind (m_X8_fails (1 : Int32) y_2) (fun q => match q with
  | (r_3, v_4) => (if r_3 = 0 then gd (ix (1 : Int32) 621) ((if (g_o_now (1 : Int32).toNatClampNeg) = (24 : Int32) then m_X8_addParcel_J50 g_o_now gW v_o_kept p1 p2 (1 : Int32) else m_X8_addParcel_J50 g_o_now gW v_o_kept p1 p2 (0 : Int32))) else some ((0 : Int32), v_4, v_o_kept, g_o_now, gW)))
def m_X8_addParcel (p1 : Int32) (p2 : Int32) (v_o_kept : Int32) (g_o_now : Nat → Int32) (gW : Nat → Nat → Int32) : Option (Int32 × Int32 × Int32 × (Nat → Int32) × (Nat → Nat → Int32)) := Option.bind (m_X8_isBetween p1 (10 : Int32) (9999 : Int32)) (fun r_1 => (if r_1 = 0 then m_X8_addParcel_J26 g_o_now gW v_o_kept p1 p2 (1 : Int32) else Option.bind (m_X8_isPerson p2) (fun r_19 => (if r_19 = 0 then m_X8_addParcel_J26 g_o_now gW v_o_kept p1 p2 (1 : Int32) else m_X8_addParcel_J26 g_o_now gW v_o_kept p1 p2 (0 : Int32)))))
abbrev e_X8_addParcel (cA : Nat → ClassId) (o o_now o_saved o_aside o_history o_chains o_buffer o_numbers : Nat) (v_o_thrown : Int32) (v_o_kept : Int32) (v_o_reason : Int32) (v_o_errorPosition : Int32) (v_o_isSaved : Int32) (v_o_length : Int32) (v_o_at : Int32) (v_o_isWrong : Int32) (g_o_now : Nat → Int32) (gA : Nat → Nat) : va_W := [(o, .inr (10, [.int v_o_thrown, .ref o_now, .ref o_saved, .ref o_aside, .ref o_history, .int v_o_kept, .int v_o_reason, .int v_o_errorPosition, .int v_o_isSaved, .ref o_chains, .ref o_buffer, .int v_o_length, .int v_o_at, .int v_o_isWrong, .ref o_numbers])), (o_now, .inl (cA 0, 621, .inl g_o_now)), (o_history, .inl (cA 3, 6, .inr (.inr (.inr (.inr (fun j => some (gA j)))))))]
abbrev k_X8_addParcel (cA : Nat → ClassId) (o o_now o_saved o_aside o_history o_chains o_buffer o_numbers : Nat) (v_o_thrown : Int32) (v_o_kept : Int32) (v_o_reason : Int32) (v_o_errorPosition : Int32) (v_o_isSaved : Int32) (v_o_length : Int32) (v_o_at : Int32) (v_o_isWrong : Int32) (g_o_now : Nat → Int32) (gA : Nat → Nat) (gW : Nat → Nat → Int32) : va_W := e_X8_addParcel cA o o_now o_saved o_aside o_history o_chains o_buffer o_numbers v_o_thrown v_o_kept v_o_reason v_o_errorPosition v_o_isSaved v_o_length v_o_at v_o_isWrong g_o_now gA ++ gblk cA gA gW
set_option maxHeartbeats 4000000 in
set_option maxRecDepth 100000 in
/-- X8_addParcel: as its model -/
theorem c_X8_addParcel (l : Launch) (G : va_G) (cA : Nat → ClassId) (o o_now o_saved o_aside o_history o_chains o_buffer o_numbers : Nat) (sz : Nat) (p1 : Int32) (p2 : Int32) (v_o_thrown : Int32) (v_o_kept : Int32) (v_o_reason : Int32) (v_o_errorPosition : Int32) (v_o_isSaved : Int32) (v_o_length : Int32) (v_o_at : Int32) (v_o_isWrong : Int32) (g_o_now : Nat → Int32) (gA : Nat → Nat) (gW : Nat → Nat → Int32) (R : Option (Int32 × Int32 × Int32 × (Nat → Int32) × (Nat → Nat → Int32))) (hR : m_X8_addParcel p1 p2 v_o_kept g_o_now gW = R) (hz : R ≠ none) : Met l yX8_addParcel wsX8_addParcel ({ frames := 2, cells := 0, slots := 0, locals := 47 } : Room) (va_Pc [.ref o, .int p1, .int p2] (PM G cA (k_X8_addParcel cA o o_now o_saved o_aside o_history o_chains o_buffer o_numbers v_o_thrown v_o_kept v_o_reason v_o_errorPosition v_o_isSaved v_o_length v_o_at v_o_isWrong g_o_now gA gW) sz)) (va_Qi (fun (r : Int32) (u : Int32 × Int32 × (Nat → Int32) × (Nat → Nat → Int32)) => R = some (r, u)) (BM G (fun (u : Int32 × Int32 × (Nat → Int32) × (Nat → Nat → Int32)) => (k_X8_addParcel cA o o_now o_saved o_aside o_history o_chains o_buffer o_numbers u.1 u.2.1 v_o_reason v_o_errorPosition v_o_isSaved v_o_length v_o_at v_o_isWrong u.2.2.1 gA u.2.2.2))) (va_A (k_X8_addParcel cA o o_now o_saved o_aside o_history o_chains o_buffer o_numbers v_o_thrown v_o_kept v_o_reason v_o_errorPosition v_o_isSaved v_o_length v_o_at v_o_isWrong g_o_now gA gW) sz)) 0 0 (va_A (k_X8_addParcel cA o o_now o_saved o_aside o_history o_chains o_buffer o_numbers v_o_thrown v_o_kept v_o_reason v_o_errorPosition v_o_isSaved v_o_length v_o_at v_o_isWrong g_o_now gA gW) sz) := by
  refine metM .int (by decide) rfl (Nat.le_of_ble_eq_true rfl) ?_
  intro p e s m av below meth c Q ls A H hx hb hml hts hown hP hK hD hA hS hl hret
  replace hl : lv_has ls 3 [(0, .ref o), (1, .int p1), (2, .int p2)] := hl
  have w_0 := hts (.fieldLink RX8 9 "ParcelRegistryModel" "now" "[I") (by decide +kernel)
  have i_X8 : ∀ w ∈ wsX80, w ∈ wsX8_addParcel := by decide +kernel
  have hm := hR
  unfold m_X8_addParcel at hm
  refine lv_aload_n hx hb dX8_addParcel_0 rfl (lv_at hl 0 rfl) ?_
  refine lv_iconst (v := (1 : Int32)) hx hb dX8_addParcel_1 (by decide) ?_
  refine lv_iload_n hx hb dX8_addParcel_2 rfl (lv_at hl 1 rfl) ?_
  refine lv_bipush (v := (10 : Int32)) hx hb dX8_addParcel_3 (by decide) ?_
  refine lv_sipush (v := (9999 : Int32)) hx hb dX8_addParcel_5 (by decide) ?_
  refine vp_callSi (va_Run.run (va_runS (As := [.int p1, .int (10 : Int32), .int (9999 : Int32)]) (rest := [.int (1 : Int32), .ref o]) ⟨hx, hb, hml, hown, hts⟩ (c_X8_isBetween l G cA p1 (10 : Int32) (9999 : Int32) _ rfl (bnz hm hz)) (va_cwS 3 hts gX8_addParcel_X8_isBetween rfl rfl rfl (by decide +kernel) ⟨Nat.le_of_ble_eq_true rfl, Nat.le_of_ble_eq_true rfl⟩) (preRS (hP.sub [] rfl) hK) rfl rfl hl.1 rfl (lv_room (Nat.le_of_ble_eq_true rfl)) dX8_addParcel_8 ⟨Nat.zero_le _, Nat.zero_le _⟩)) (fun r_1 hw => ?_)
  replace hm := bst hm hw.1
  have J26_2 : ∀ (y_2 : Int32), ∀ (H : Heap) (locs : List Loc) (ls : Array Slot), m_X8_addParcel_J26 g_o_now gW v_o_kept p1 p2 y_2 = R → va_P G vwCl (k_X8_addParcel cA o o_now o_saved o_aside o_history o_chains o_buffer o_numbers v_o_thrown v_o_kept v_o_reason v_o_errorPosition v_o_isSaved v_o_length v_o_at v_o_isWrong g_o_now gA gW) H → va_D A (k_X8_addParcel cA o o_now o_saved o_aside o_history o_chains o_buffer o_numbers v_o_thrown v_o_kept v_o_reason v_o_errorPosition v_o_isSaved v_o_length v_o_at v_o_isWrong g_o_now gA gW) → va_S A s.heap H locs → lv_has ls 3 [(0, .ref o), (1, .int p1), (2, .int p2)] → W p l e ({ frames := 2, cells := 0, slots := 0, locals := 47 } : Room) s m av below meth c H locs 0 0 Q (F0 m 26 ls [.int y_2, .int (1 : Int32), .ref o]) := by
    intro y_2 H locs ls hm hP hD hS hl
    unfold m_X8_addParcel_J26 at hm
    have hPc := hP.sub (ws' := (k_X8_fails cA o o_now o_saved o_aside o_history o_chains o_buffer o_numbers v_o_thrown v_o_kept v_o_reason v_o_errorPosition v_o_isSaved v_o_length v_o_at v_o_isWrong)) [0] rfl
    have hDc := hD.sub (ws' := (k_X8_fails cA o o_now o_saved o_aside o_history o_chains o_buffer o_numbers v_o_thrown v_o_kept v_o_reason v_o_errorPosition v_o_isSaved v_o_length v_o_at v_o_isWrong)) [0] (by decide) rfl
    have hFc := va_free (wc := (k_X8_fails cA o o_now o_saved o_aside o_history o_chains o_buffer o_numbers v_o_thrown v_o_kept v_o_reason v_o_errorPosition v_o_isSaved v_o_length v_o_at v_o_isWrong)) hD hS hA [0] rfl
    refine va_calli (va_runV (As := [.int (1 : Int32), .int y_2]) (rest := []) ⟨hx, hb, hml, hown, hts⟩ (c_X8_fails l G cA o o_now o_saved o_aside o_history o_chains o_buffer o_numbers H.size (1 : Int32) y_2 v_o_thrown v_o_kept v_o_reason v_o_errorPosition v_o_isSaved v_o_length v_o_at v_o_isWrong _ rfl (bnz hm hz)) (cwV 2 hts gX8_addParcel_X8_fails rfl rfl rfl (by decide +kernel) ⟨Nat.le_of_ble_eq_true rfl, Nat.le_of_ble_eq_true rfl⟩) (preMV (q := (RX8, TX8, 15)) hPc hDc hK 0 rfl rfl) rfl rfl hl.1 rfl (lv_room (Nat.le_of_ble_eq_true rfl)) dX8_addParcel_26 ⟨Nat.zero_le _, Nat.zero_le _⟩) hS (fun q _ h => hFc q h) hFc (fun r_3 u_4 t H locs ht hvm hw hB hz1 hk1 hS' => ?_)
    obtain ⟨v_4, rfl⟩ : ∃ z, z = u_4 := ⟨_, rfl⟩
    replace hm := bst hm hw.1
    replace hB : va_P G vwCl _ _ := hB
    rw [ht] at hB
    have hj := va_backB (E := (e_X8_addParcel cA o o_now o_saved o_aside o_history o_chains o_buffer o_numbers v_o_thrown v_o_kept v_o_reason v_o_errorPosition v_o_isSaved v_o_length v_o_at v_o_isWrong g_o_now gA)) (E' := (e_X8_addParcel cA o o_now o_saved o_aside o_history o_chains o_buffer o_numbers v_4 v_o_kept v_o_reason v_o_errorPosition v_o_isSaved v_o_length v_o_at v_o_isWrong g_o_now gA)) (B := (gblk cA gA gW)) hP hD [0] rfl hk1 hB [(true, 0), (false, 1), (false, 2)] rfl (by decide) rfl
    replace hP : va_P G vwCl (k_X8_addParcel cA o o_now o_saved o_aside o_history o_chains o_buffer o_numbers v_4 v_o_kept v_o_reason v_o_errorPosition v_o_isSaved v_o_length v_o_at v_o_isWrong g_o_now gA gW) H := hj.1
    replace hD : va_D A (k_X8_addParcel cA o o_now o_saved o_aside o_history o_chains o_buffer o_numbers v_4 v_o_kept v_o_reason v_o_errorPosition v_o_isSaved v_o_length v_o_at v_o_isWrong g_o_now gA gW) := hj.2
    replace hS := hS'
    clear hj hPc hDc hFc hB
    refine lv_if_ne (tgt := 56) hx hb dX8_addParcel_29 (by decide) (fun c_5 => ?_) (fun c_5 => ?_)
    · replace hm := ie hm c_5
      refine lv_iconst (v := (0 : Int32)) hx hb dX8_addParcel_56 (by decide) ?_
      exact hret _ _ _ (v_4, v_o_kept, g_o_now, gW) _ _ dX8_addParcel_57 rfl hP hS hm.symm
    · replace hm := it hm c_5
      refine lv_aload_n hx hb dX8_addParcel_32 rfl (lv_at hl 0 rfl) ?_
      refine lv_iconst (v := (2 : Int32)) hx hb dX8_addParcel_33 (by decide) ?_
      refine lv_aload_n hx hb dX8_addParcel_34 rfl (lv_at hl 0 rfl) ?_
      refine va_get (D := G) (ci := 10) (v := .ref o_now) (C := RX8) (T := TX8) (N := 15) hx hb hts i_X8 hown hK.1 hP 0 rfl rfl 1 (by decide) w_0 (fun _ h9 => h9) rfl dX8_addParcel_35 ?_
      refine lv_iconst (v := (1 : Int32)) hx hb dX8_addParcel_38 (by decide) ?_
      replace hm := gdo hm hz
      obtain ⟨gi_6, hm⟩ := hm
      refine va_iald hx hb hK.1 hP 1 0 (cA := cA 0) (n := 621) (f := g_o_now) rfl rfl (ixi gi_6) dX8_addParcel_39 ?_
      refine lv_bipush (v := (24 : Int32)) hx hb dX8_addParcel_40 (by decide) ?_
      have J50_1 : ∀ (y_7 : Int32), ∀ (H : Heap) (locs : List Loc) (ls : Array Slot), m_X8_addParcel_J50 g_o_now gW v_o_kept p1 p2 y_7 = R → va_P G vwCl (k_X8_addParcel cA o o_now o_saved o_aside o_history o_chains o_buffer o_numbers v_4 v_o_kept v_o_reason v_o_errorPosition v_o_isSaved v_o_length v_o_at v_o_isWrong g_o_now gA gW) H → va_D A (k_X8_addParcel cA o o_now o_saved o_aside o_history o_chains o_buffer o_numbers v_4 v_o_kept v_o_reason v_o_errorPosition v_o_isSaved v_o_length v_o_at v_o_isWrong g_o_now gA gW) → va_S A s.heap H locs → lv_has ls 3 [(0, .ref o), (1, .int p1), (2, .int p2)] → W p l e ({ frames := 2, cells := 0, slots := 0, locals := 47 } : Room) s m av below meth c H locs 0 0 Q (F0 m 50 ls [.int y_7, .int (2 : Int32), .ref o]) := by
        intro y_7 H locs ls hm hP hD hS hl
        unfold m_X8_addParcel_J50 at hm
        have hPc := hP.sub (ws' := (k_X8_fails cA o o_now o_saved o_aside o_history o_chains o_buffer o_numbers v_4 v_o_kept v_o_reason v_o_errorPosition v_o_isSaved v_o_length v_o_at v_o_isWrong)) [0] rfl
        have hDc := hD.sub (ws' := (k_X8_fails cA o o_now o_saved o_aside o_history o_chains o_buffer o_numbers v_4 v_o_kept v_o_reason v_o_errorPosition v_o_isSaved v_o_length v_o_at v_o_isWrong)) [0] (by decide) rfl
        have hFc := va_free (wc := (k_X8_fails cA o o_now o_saved o_aside o_history o_chains o_buffer o_numbers v_4 v_o_kept v_o_reason v_o_errorPosition v_o_isSaved v_o_length v_o_at v_o_isWrong)) hD hS hA [0] rfl
        refine va_calli (va_runV (As := [.int (2 : Int32), .int y_7]) (rest := []) ⟨hx, hb, hml, hown, hts⟩ (c_X8_fails l G cA o o_now o_saved o_aside o_history o_chains o_buffer o_numbers H.size (2 : Int32) y_7 v_4 v_o_kept v_o_reason v_o_errorPosition v_o_isSaved v_o_length v_o_at v_o_isWrong _ rfl (bnz hm hz)) (cwV 2 hts gX8_addParcel_X8_fails rfl rfl rfl (by decide +kernel) ⟨Nat.le_of_ble_eq_true rfl, Nat.le_of_ble_eq_true rfl⟩) (preMV (q := (RX8, TX8, 15)) hPc hDc hK 0 rfl rfl) rfl rfl hl.1 rfl (lv_room (Nat.le_of_ble_eq_true rfl)) dX8_addParcel_50 ⟨Nat.zero_le _, Nat.zero_le _⟩) hS (fun q _ h => hFc q h) hFc (fun r_8 u_9 t H locs ht hvm hw hB hz1 hk1 hS' => ?_)
        obtain ⟨v_9, rfl⟩ : ∃ z, z = u_9 := ⟨_, rfl⟩
        replace hm := bst hm hw.1
        replace hB : va_P G vwCl _ _ := hB
        rw [ht] at hB
        have hj := va_backB (E := (e_X8_addParcel cA o o_now o_saved o_aside o_history o_chains o_buffer o_numbers v_4 v_o_kept v_o_reason v_o_errorPosition v_o_isSaved v_o_length v_o_at v_o_isWrong g_o_now gA)) (E' := (e_X8_addParcel cA o o_now o_saved o_aside o_history o_chains o_buffer o_numbers v_9 v_o_kept v_o_reason v_o_errorPosition v_o_isSaved v_o_length v_o_at v_o_isWrong g_o_now gA)) (B := (gblk cA gA gW)) hP hD [0] rfl hk1 hB [(true, 0), (false, 1), (false, 2)] rfl (by decide) rfl
        replace hP : va_P G vwCl (k_X8_addParcel cA o o_now o_saved o_aside o_history o_chains o_buffer o_numbers v_9 v_o_kept v_o_reason v_o_errorPosition v_o_isSaved v_o_length v_o_at v_o_isWrong g_o_now gA gW) H := hj.1
        replace hD : va_D A (k_X8_addParcel cA o o_now o_saved o_aside o_history o_chains o_buffer o_numbers v_9 v_o_kept v_o_reason v_o_errorPosition v_o_isSaved v_o_length v_o_at v_o_isWrong g_o_now gA gW) := hj.2
        replace hS := hS'
        clear hj hPc hDc hFc hB
        refine lv_if_eq (tgt := 58) hx hb dX8_addParcel_53 (by decide) (fun c_10 => ?_) (fun c_10 => ?_)
        · replace hm := it hm c_10
          refine lv_aload_n hx hb dX8_addParcel_58 rfl (lv_at hl 0 rfl) ?_
          refine lv_aload_n hx hb dX8_addParcel_59 rfl (lv_at hl 0 rfl) ?_
          refine va_get (D := G) (ci := 10) (v := .ref o_now) (C := RX8) (T := TX8) (N := 15) hx hb hts i_X8 hown hK.1 hP 0 rfl rfl 1 (by decide) w_0 (fun _ h9 => h9) rfl dX8_addParcel_60 ?_
          have hPc : va_P G vwCl (k_X8_remember cA o o_now o_saved o_aside o_history o_chains o_buffer o_numbers o_now v_9 v_o_kept v_o_reason v_o_errorPosition v_o_isSaved v_o_length v_o_at v_o_isWrong g_o_now gA gW) H := va_subC (E := (e_X8_addParcel cA o o_now o_saved o_aside o_history o_chains o_buffer o_numbers v_9 v_o_kept v_o_reason v_o_errorPosition v_o_isSaved v_o_length v_o_at v_o_isWrong g_o_now gA)) (Ec := (e_X8_remember cA o o_now o_saved o_aside o_history o_chains o_buffer o_numbers o_now v_9 v_o_kept v_o_reason v_o_errorPosition v_o_isSaved v_o_length v_o_at v_o_isWrong g_o_now gA)) (B := (gblk cA gA gW)) hP [0, 2, 1] rfl
          have hDc : va_D A (k_X8_remember cA o o_now o_saved o_aside o_history o_chains o_buffer o_numbers o_now v_9 v_o_kept v_o_reason v_o_errorPosition v_o_isSaved v_o_length v_o_at v_o_isWrong g_o_now gA gW) := va_subCD (E := (e_X8_addParcel cA o o_now o_saved o_aside o_history o_chains o_buffer o_numbers v_9 v_o_kept v_o_reason v_o_errorPosition v_o_isSaved v_o_length v_o_at v_o_isWrong g_o_now gA)) (Ec := (e_X8_remember cA o o_now o_saved o_aside o_history o_chains o_buffer o_numbers o_now v_9 v_o_kept v_o_reason v_o_errorPosition v_o_isSaved v_o_length v_o_at v_o_isWrong g_o_now gA)) (B := (gblk cA gA gW)) hD [0, 2, 1] (by decide) rfl
          have hFc : ∀ q, va_A (k_X8_remember cA o o_now o_saved o_aside o_history o_chains o_buffer o_numbers o_now v_9 v_o_kept v_o_reason v_o_errorPosition v_o_isSaved v_o_length v_o_at v_o_isWrong g_o_now gA gW) H.size q → A q := va_freeC (E := (e_X8_addParcel cA o o_now o_saved o_aside o_history o_chains o_buffer o_numbers v_9 v_o_kept v_o_reason v_o_errorPosition v_o_isSaved v_o_length v_o_at v_o_isWrong g_o_now gA)) (Ec := (e_X8_remember cA o o_now o_saved o_aside o_history o_chains o_buffer o_numbers o_now v_9 v_o_kept v_o_reason v_o_errorPosition v_o_isSaved v_o_length v_o_at v_o_isWrong g_o_now gA)) (B := (gblk cA gA gW)) hD hS hA [0, 2, 1] rfl
          refine va_callv (va_runV (As := [.ref o_now]) (rest := []) ⟨hx, hb, hml, hown, hts⟩ (c_X8_remember l G cA o o_now o_saved o_aside o_history o_chains o_buffer o_numbers o_now H.size v_9 v_o_kept v_o_reason v_o_errorPosition v_o_isSaved v_o_length v_o_at v_o_isWrong g_o_now gA gW _ rfl (bnz hm hz)) (cwV 1 hts gX8_addParcel_X8_remember rfl rfl rfl (by decide +kernel) ⟨Nat.le_of_ble_eq_true rfl, Nat.le_of_ble_eq_true rfl⟩) (preMV (q := (RX8, TX8, 15)) hPc hDc hK 0 rfl rfl) rfl rfl hl.1 rfl (lv_room (Nat.le_of_ble_eq_true rfl)) dX8_addParcel_63 ⟨Nat.zero_le _, Nat.zero_le _⟩) hS (fun q _ h => hFc q h) hFc (fun u_12 t H locs ht hvm hw hB hz1 hk1 hS' => ?_)
          obtain ⟨v_11, h_12⟩ := u_12
          replace hm := bst hm hw
          replace hB : va_P G vwCl _ _ := hB
          rw [ht] at hB
          have hj := va_backC (E := (e_X8_addParcel cA o o_now o_saved o_aside o_history o_chains o_buffer o_numbers v_9 v_o_kept v_o_reason v_o_errorPosition v_o_isSaved v_o_length v_o_at v_o_isWrong g_o_now gA)) (E' := (e_X8_addParcel cA o o_now o_saved o_aside o_history o_chains o_buffer o_numbers v_9 v_11 v_o_reason v_o_errorPosition v_o_isSaved v_o_length v_o_at v_o_isWrong g_o_now gA)) (Ec := (e_X8_remember cA o o_now o_saved o_aside o_history o_chains o_buffer o_numbers o_now v_9 v_o_kept v_o_reason v_o_errorPosition v_o_isSaved v_o_length v_o_at v_o_isWrong g_o_now gA)) (Ec1 := (e_X8_remember cA o o_now o_saved o_aside o_history o_chains o_buffer o_numbers o_now v_9 v_11 v_o_reason v_o_errorPosition v_o_isSaved v_o_length v_o_at v_o_isWrong g_o_now gA)) (B := (gblk cA gA gW)) (B1 := (gblk cA gA h_12)) hP hD [0, 2, 1] rfl hk1 hB (gblk_addr ..) [(true, 0), (true, 2), (true, 1)] rfl (by decide) rfl
          replace hP : va_P G vwCl (k_X8_addParcel cA o o_now o_saved o_aside o_history o_chains o_buffer o_numbers v_9 v_11 v_o_reason v_o_errorPosition v_o_isSaved v_o_length v_o_at v_o_isWrong g_o_now gA h_12) H := hj.1
          replace hD : va_D A (k_X8_addParcel cA o o_now o_saved o_aside o_history o_chains o_buffer o_numbers v_9 v_11 v_o_reason v_o_errorPosition v_o_isSaved v_o_length v_o_at v_o_isWrong g_o_now gA h_12) := hj.2
          replace hS := hS'
          clear hj hPc hDc hFc hB
          refine lv_aload_n hx hb dX8_addParcel_66 rfl (lv_at hl 0 rfl) ?_
          refine va_get (D := G) (ci := 10) (v := .ref o_now) (C := RX8) (T := TX8) (N := 15) hx hb hts i_X8 hown hK.1 hP 0 rfl rfl 1 (by decide) w_0 (fun _ h9 => h9) rfl dX8_addParcel_67 ?_
          refine lv_bipush (v := (6 : Int32)) hx hb dX8_addParcel_70 (by decide) ?_
          refine lv_dup2_11 hx hb dX8_addParcel_72 rfl rfl ?_
          replace hm := gdo hm hz
          obtain ⟨gi_13, hm⟩ := hm
          refine va_iald hx hb hK.1 hP 1 0 (cA := cA 0) (n := 621) (f := g_o_now) rfl rfl (ixi gi_13) dX8_addParcel_73 ?_
          refine lv_iload_n hx hb dX8_addParcel_74 rfl (lv_at hl 1 rfl) ?_
          refine lv_iadd hx hb dX8_addParcel_75 ?_
          replace hm := gdo hm hz
          obtain ⟨gi_14, hm⟩ := hm
          refine va_iast hx hb hK.1 hP hD hS 1 0 (cA := cA 0) (n := 621) (f := g_o_now) rfl rfl (ixi gi_14) dX8_addParcel_76 (fun H locs hP' hD' hS' => ?_)
          replace hP : va_P G vwCl (k_X8_addParcel cA o o_now o_saved o_aside o_history o_chains o_buffer o_numbers v_9 v_11 v_o_reason v_o_errorPosition v_o_isSaved v_o_length v_o_at v_o_isWrong (upd g_o_now (6 : Int32).toNatClampNeg ((g_o_now (6 : Int32).toNatClampNeg) + p1)) gA h_12) H := hP'
          replace hD : va_D A (k_X8_addParcel cA o o_now o_saved o_aside o_history o_chains o_buffer o_numbers v_9 v_11 v_o_reason v_o_errorPosition v_o_isSaved v_o_length v_o_at v_o_isWrong (upd g_o_now (6 : Int32).toNatClampNeg ((g_o_now (6 : Int32).toNatClampNeg) + p1)) gA h_12) := hD'
          replace hS := hS'
          refine lv_aload_n hx hb dX8_addParcel_77 rfl (lv_at hl 0 rfl) ?_
          refine lv_iload_n hx hb dX8_addParcel_78 rfl (lv_at hl 1 rfl) ?_
          refine lv_iload_n hx hb dX8_addParcel_79 rfl (lv_at hl 2 rfl) ?_
          refine lv_iconst (v := (0 : Int32)) hx hb dX8_addParcel_80 (by decide) ?_
          have hPc := hP.sub (ws' := (k_X8_newParcel cA o o_now o_saved o_aside o_history o_chains o_buffer o_numbers v_9 v_11 v_o_reason v_o_errorPosition v_o_isSaved v_o_length v_o_at v_o_isWrong (upd g_o_now (6 : Int32).toNatClampNeg ((g_o_now (6 : Int32).toNatClampNeg) + p1)))) [0, 1] rfl
          have hDc := hD.sub (ws' := (k_X8_newParcel cA o o_now o_saved o_aside o_history o_chains o_buffer o_numbers v_9 v_11 v_o_reason v_o_errorPosition v_o_isSaved v_o_length v_o_at v_o_isWrong (upd g_o_now (6 : Int32).toNatClampNeg ((g_o_now (6 : Int32).toNatClampNeg) + p1)))) [0, 1] (by decide) rfl
          have hFc := va_free (wc := (k_X8_newParcel cA o o_now o_saved o_aside o_history o_chains o_buffer o_numbers v_9 v_11 v_o_reason v_o_errorPosition v_o_isSaved v_o_length v_o_at v_o_isWrong (upd g_o_now (6 : Int32).toNatClampNeg ((g_o_now (6 : Int32).toNatClampNeg) + p1)))) hD hS hA [0, 1] rfl
          refine va_calli (va_runV (As := [.int p1, .int p2, .int (0 : Int32)]) (rest := []) ⟨hx, hb, hml, hown, hts⟩ (c_X8_newParcel l G cA o o_now o_saved o_aside o_history o_chains o_buffer o_numbers H.size p1 p2 (0 : Int32) v_9 v_11 v_o_reason v_o_errorPosition v_o_isSaved v_o_length v_o_at v_o_isWrong (upd g_o_now (6 : Int32).toNatClampNeg ((g_o_now (6 : Int32).toNatClampNeg) + p1)) _ rfl (bnz hm hz)) (cwV 3 hts gX8_addParcel_X8_newParcel rfl rfl rfl (by decide +kernel) ⟨Nat.le_of_ble_eq_true rfl, Nat.le_of_ble_eq_true rfl⟩) (preMV (q := (RX8, TX8, 15)) hPc hDc hK 0 rfl rfl) rfl rfl hl.1 rfl (lv_room (Nat.le_of_ble_eq_true rfl)) dX8_addParcel_81 ⟨Nat.zero_le _, Nat.zero_le _⟩) hS (fun q _ h => hFc q h) hFc (fun r_15 u_16 t H locs ht hvm hw hB hz1 hk1 hS' => ?_)
          obtain ⟨g_16, rfl⟩ : ∃ z, z = u_16 := ⟨_, rfl⟩
          replace hm := bst hm hw
          replace hB : va_P G vwCl _ _ := hB
          rw [ht] at hB
          have hj := va_backB (E := (e_X8_addParcel cA o o_now o_saved o_aside o_history o_chains o_buffer o_numbers v_9 v_11 v_o_reason v_o_errorPosition v_o_isSaved v_o_length v_o_at v_o_isWrong (upd g_o_now (6 : Int32).toNatClampNeg ((g_o_now (6 : Int32).toNatClampNeg) + p1)) gA)) (E' := (e_X8_addParcel cA o o_now o_saved o_aside o_history o_chains o_buffer o_numbers v_9 v_11 v_o_reason v_o_errorPosition v_o_isSaved v_o_length v_o_at v_o_isWrong g_16 gA)) (B := (gblk cA gA h_12)) hP hD [0, 1] rfl hk1 hB [(true, 0), (true, 1), (false, 2)] rfl (by decide) rfl
          replace hP : va_P G vwCl (k_X8_addParcel cA o o_now o_saved o_aside o_history o_chains o_buffer o_numbers v_9 v_11 v_o_reason v_o_errorPosition v_o_isSaved v_o_length v_o_at v_o_isWrong g_16 gA h_12) H := hj.1
          replace hD : va_D A (k_X8_addParcel cA o o_now o_saved o_aside o_history o_chains o_buffer o_numbers v_9 v_11 v_o_reason v_o_errorPosition v_o_isSaved v_o_length v_o_at v_o_isWrong g_16 gA h_12) := hj.2
          replace hS := hS'
          clear hj hPc hDc hFc hB
          exact hret _ _ _ (v_9, v_11, g_16, h_12) _ _ dX8_addParcel_84 rfl hP hS hm.symm
        · replace hm := ie hm c_10
          refine lv_iconst (v := (0 : Int32)) hx hb dX8_addParcel_56 (by decide) ?_
          exact hret _ _ _ (v_9, v_o_kept, g_o_now, gW) _ _ dX8_addParcel_57 rfl hP hS hm.symm
      refine lv_icmp_ne (tgt := 49) hx hb dX8_addParcel_42 (by decide) (fun c_17 => ?_) (fun c_17 => ?_)
      · replace hm := ie hm c_17
        refine lv_iconst (v := (0 : Int32)) hx hb dX8_addParcel_49 (by decide) ?_
        exact J50_1 (0 : Int32) _ _ _ hm hP hD hS (lv_sub hl [0, 1, 2] rfl)
      · replace hm := it hm c_17
        refine lv_iconst (v := (1 : Int32)) hx hb dX8_addParcel_45 (by decide) ?_
        refine lv_goto (tgt := 50) hx hb dX8_addParcel_46 (by decide) ?_
        exact J50_1 (1 : Int32) _ _ _ hm hP hD hS (lv_sub hl [0, 1, 2] rfl)
  refine lv_if_eq (tgt := 21) hx hb dX8_addParcel_11 (by decide) (fun c_18 => ?_) (fun c_18 => ?_)
  · replace hm := it hm c_18
    refine lv_iconst (v := (1 : Int32)) hx hb dX8_addParcel_21 (by decide) ?_
    refine lv_goto (tgt := 26) hx hb dX8_addParcel_22 (by decide) ?_
    exact J26_2 (1 : Int32) _ _ _ hm hP hD hS (lv_sub hl [0, 1, 2] rfl)
  · replace hm := ie hm c_18
    refine lv_iload_n hx hb dX8_addParcel_14 rfl (lv_at hl 2 rfl) ?_
    refine vp_callSi (va_Run.run (va_runS (As := [.int p2]) (rest := [.int (1 : Int32), .ref o]) ⟨hx, hb, hml, hown, hts⟩ (c_X8_isPerson l G cA p2 _ rfl (bnz hm hz)) (va_cwS 1 hts gX8_addParcel_X8_isPerson rfl rfl rfl (by decide +kernel) ⟨Nat.le_of_ble_eq_true rfl, Nat.le_of_ble_eq_true rfl⟩) (preRS (hP.sub [] rfl) hK) rfl rfl hl.1 rfl (lv_room (Nat.le_of_ble_eq_true rfl)) dX8_addParcel_15 ⟨Nat.zero_le _, Nat.zero_le _⟩)) (fun r_19 hw => ?_)
    replace hm := bst hm hw.1
    refine lv_if_ne (tgt := 25) hx hb dX8_addParcel_18 (by decide) (fun c_20 => ?_) (fun c_20 => ?_)
    · replace hm := ie hm c_20
      refine lv_iconst (v := (0 : Int32)) hx hb dX8_addParcel_25 (by decide) ?_
      exact J26_2 (0 : Int32) _ _ _ hm hP hD hS (lv_sub hl [0, 1, 2] rfl)
    · replace hm := it hm c_20
      refine lv_iconst (v := (1 : Int32)) hx hb dX8_addParcel_21 (by decide) ?_
      refine lv_goto (tgt := 26) hx hb dX8_addParcel_22 (by decide) ?_
      exact J26_2 (1 : Int32) _ _ _ hm hP hD hS (lv_sub hl [0, 1, 2] rfl)
def m_X8_border_J70 (g_o_now : Nat → Int32) (gW : Nat → Nat → Int32) (v_o_kept : Int32) (p1 : Int32) (p2 : Int32) (p3 : Int32) : (Int32) → Option (Int32 × Int32 × Int32 × (Nat → Int32) × (Nat → Nat → Int32)) := fun y_11 => Option.bind (m_X8_fails (3 : Int32) y_11) (fun q => match q with
  | (r_12, v_13) => (if r_12 = 0 then Option.bind (m_X8_remember v_o_kept g_o_now gW) (fun q => match q with
  | (v_15, h_16) => Option.bind (m_X8_of p1 (3 : Int32) g_o_now) (fun r_17 => Option.bind (m_X8_has r_17 p2) (fun r_18 => Option.bind (m_X8_setBorder p1 p2 p3 g_o_now) (fun g_19 => gd (isb r_18) (some (r_18, v_13, v_15, g_19, h_16)))))) else some ((0 : Int32), v_13, v_o_kept, g_o_now, gW)))
def m_X8_border_J41 (g_o_now : Nat → Int32) (gW : Nat → Nat → Int32) (v_o_kept : Int32) (p1 : Int32) (p2 : Int32) (p3 : Int32) : (Int32) → Option (Int32 × Int32 × Int32 × (Nat → Int32) × (Nat → Nat → Int32)) := fun y_6 => Option.bind (m_X8_fails (2 : Int32) y_6) (fun q => match q with
  | (r_7, v_8) => (if r_7 = 0 then Option.bind (m_X8_isPresent p1 g_o_now) (fun r_10 => (if r_10 = 0 then m_X8_border_J70 g_o_now gW v_o_kept p1 p2 p3 (1 : Int32) else Option.bind (m_X8_isPresent p2 g_o_now) (fun r_22 => (if r_22 = 0 then m_X8_border_J70 g_o_now gW v_o_kept p1 p2 p3 (1 : Int32) else m_X8_border_J70 g_o_now gW v_o_kept p1 p2 p3 (0 : Int32))))) else some ((0 : Int32), v_8, v_o_kept, g_o_now, gW)))
def m_X8_border_J23 (g_o_now : Nat → Int32) (gW : Nat → Nat → Int32) (v_o_kept : Int32) (p1 : Int32) (p2 : Int32) (p3 : Int32) : (Int32) → Option (Int32 × Int32 × Int32 × (Nat → Int32) × (Nat → Nat → Int32)) := fun y_2 => Option.bind (m_X8_fails (1 : Int32) y_2) (fun q => match q with
  | (r_3, v_4) => (if r_3 = 0 then (if p1 = p2 then m_X8_border_J41 g_o_now gW v_o_kept p1 p2 p3 (1 : Int32) else m_X8_border_J41 g_o_now gW v_o_kept p1 p2 p3 (0 : Int32)) else some ((0 : Int32), v_4, v_o_kept, g_o_now, gW)))
def m_X8_border (p1 : Int32) (p2 : Int32) (p3 : Int32) (v_o_kept : Int32) (g_o_now : Nat → Int32) (gW : Nat → Nat → Int32) : Option (Int32 × Int32 × Int32 × (Nat → Int32) × (Nat → Nat → Int32)) := Option.bind (m_X8_isParcel p1 g_o_now) (fun r_1 => (if r_1 = 0 then m_X8_border_J23 g_o_now gW v_o_kept p1 p2 p3 (1 : Int32) else Option.bind (m_X8_isParcel p2 g_o_now) (fun r_26 => (if r_26 = 0 then m_X8_border_J23 g_o_now gW v_o_kept p1 p2 p3 (1 : Int32) else m_X8_border_J23 g_o_now gW v_o_kept p1 p2 p3 (0 : Int32)))))
abbrev e_X8_border (cA : Nat → ClassId) (o o_now o_saved o_aside o_history o_chains o_buffer o_numbers : Nat) (v_o_thrown : Int32) (v_o_kept : Int32) (v_o_reason : Int32) (v_o_errorPosition : Int32) (v_o_isSaved : Int32) (v_o_length : Int32) (v_o_at : Int32) (v_o_isWrong : Int32) (g_o_now : Nat → Int32) (gA : Nat → Nat) : va_W := [(o, .inr (10, [.int v_o_thrown, .ref o_now, .ref o_saved, .ref o_aside, .ref o_history, .int v_o_kept, .int v_o_reason, .int v_o_errorPosition, .int v_o_isSaved, .ref o_chains, .ref o_buffer, .int v_o_length, .int v_o_at, .int v_o_isWrong, .ref o_numbers])), (o_now, .inl (cA 0, 621, .inl g_o_now)), (o_history, .inl (cA 3, 6, .inr (.inr (.inr (.inr (fun j => some (gA j)))))))]
abbrev k_X8_border (cA : Nat → ClassId) (o o_now o_saved o_aside o_history o_chains o_buffer o_numbers : Nat) (v_o_thrown : Int32) (v_o_kept : Int32) (v_o_reason : Int32) (v_o_errorPosition : Int32) (v_o_isSaved : Int32) (v_o_length : Int32) (v_o_at : Int32) (v_o_isWrong : Int32) (g_o_now : Nat → Int32) (gA : Nat → Nat) (gW : Nat → Nat → Int32) : va_W := e_X8_border cA o o_now o_saved o_aside o_history o_chains o_buffer o_numbers v_o_thrown v_o_kept v_o_reason v_o_errorPosition v_o_isSaved v_o_length v_o_at v_o_isWrong g_o_now gA ++ gblk cA gA gW
set_option maxHeartbeats 4000000 in
set_option maxRecDepth 100000 in
/-- X8_border: as its model -/
theorem c_X8_border (l : Launch) (G : va_G) (cA : Nat → ClassId) (o o_now o_saved o_aside o_history o_chains o_buffer o_numbers : Nat) (sz : Nat) (p1 : Int32) (p2 : Int32) (p3 : Int32) (v_o_thrown : Int32) (v_o_kept : Int32) (v_o_reason : Int32) (v_o_errorPosition : Int32) (v_o_isSaved : Int32) (v_o_length : Int32) (v_o_at : Int32) (v_o_isWrong : Int32) (g_o_now : Nat → Int32) (gA : Nat → Nat) (gW : Nat → Nat → Int32) (R : Option (Int32 × Int32 × Int32 × (Nat → Int32) × (Nat → Nat → Int32))) (hR : m_X8_border p1 p2 p3 v_o_kept g_o_now gW = R) (hz : R ≠ none) : Met l yX8_border wsX8_border ({ frames := 3, cells := 0, slots := 0, locals := 64 } : Room) (va_Pc [.ref o, .int p1, .int p2, .int p3] (PM G cA (k_X8_border cA o o_now o_saved o_aside o_history o_chains o_buffer o_numbers v_o_thrown v_o_kept v_o_reason v_o_errorPosition v_o_isSaved v_o_length v_o_at v_o_isWrong g_o_now gA gW) sz)) (va_Qi (fun (r : Int32) (u : Int32 × Int32 × (Nat → Int32) × (Nat → Nat → Int32)) => R = some (r, u) ∧ (r = 0 ∨ r = 1)) (BM G (fun (u : Int32 × Int32 × (Nat → Int32) × (Nat → Nat → Int32)) => (k_X8_border cA o o_now o_saved o_aside o_history o_chains o_buffer o_numbers u.1 u.2.1 v_o_reason v_o_errorPosition v_o_isSaved v_o_length v_o_at v_o_isWrong u.2.2.1 gA u.2.2.2))) (va_A (k_X8_border cA o o_now o_saved o_aside o_history o_chains o_buffer o_numbers v_o_thrown v_o_kept v_o_reason v_o_errorPosition v_o_isSaved v_o_length v_o_at v_o_isWrong g_o_now gA gW) sz)) 0 0 (va_A (k_X8_border cA o o_now o_saved o_aside o_history o_chains o_buffer o_numbers v_o_thrown v_o_kept v_o_reason v_o_errorPosition v_o_isSaved v_o_length v_o_at v_o_isWrong g_o_now gA gW) sz) := by
  refine metM .boolean (by decide) rfl (Nat.le_of_ble_eq_true rfl) ?_
  intro p e s m av below meth c Q ls A H hx hb hml hts hown hP hK hD hA hS hl hret
  replace hl : lv_has ls 5 [(0, .ref o), (1, .int p1), (2, .int p2), (3, .int p3)] := hl
  have w_0 := hts (.fieldLink RX8 9 "ParcelRegistryModel" "now" "[I") (by decide +kernel)
  have i_X8 : ∀ w ∈ wsX80, w ∈ wsX8_border := by decide +kernel
  have hm := hR
  unfold m_X8_border at hm
  refine lv_aload_n hx hb dX8_border_0 rfl (lv_at hl 0 rfl) ?_
  refine lv_iconst (v := (1 : Int32)) hx hb dX8_border_1 (by decide) ?_
  refine lv_aload_n hx hb dX8_border_2 rfl (lv_at hl 0 rfl) ?_
  refine lv_iload_n hx hb dX8_border_3 rfl (lv_at hl 1 rfl) ?_
  refine vp_callSi (va_Run.run (va_runV (As := [.int p1]) (rest := [.int (1 : Int32), .ref o]) ⟨hx, hb, hml, hown, hts⟩ (c_X8_isParcel l G cA o o_now o_saved o_aside o_history o_chains o_buffer o_numbers p1 v_o_thrown v_o_kept v_o_reason v_o_errorPosition v_o_isSaved v_o_length v_o_at v_o_isWrong g_o_now _ rfl (bnz hm hz)) (cwV 1 hts gX8_border_X8_isParcel rfl rfl rfl (by decide +kernel) ⟨Nat.le_of_ble_eq_true rfl, Nat.le_of_ble_eq_true rfl⟩) (preRV (q := (RX8, TX8, 15)) (hP.sub [0, 1] rfl) hK 0 rfl rfl) rfl rfl hl.1 rfl (lv_room (Nat.le_of_ble_eq_true rfl)) dX8_border_4 ⟨Nat.zero_le _, Nat.zero_le _⟩)) (fun r_1 hw => ?_)
  replace hm := bst hm hw.1
  have J23_3 : ∀ (y_2 : Int32), ∀ (H : Heap) (locs : List Loc) (ls : Array Slot), m_X8_border_J23 g_o_now gW v_o_kept p1 p2 p3 y_2 = R → va_P G vwCl (k_X8_border cA o o_now o_saved o_aside o_history o_chains o_buffer o_numbers v_o_thrown v_o_kept v_o_reason v_o_errorPosition v_o_isSaved v_o_length v_o_at v_o_isWrong g_o_now gA gW) H → va_D A (k_X8_border cA o o_now o_saved o_aside o_history o_chains o_buffer o_numbers v_o_thrown v_o_kept v_o_reason v_o_errorPosition v_o_isSaved v_o_length v_o_at v_o_isWrong g_o_now gA gW) → va_S A s.heap H locs → lv_has ls 5 [(0, .ref o), (1, .int p1), (2, .int p2), (3, .int p3)] → W p l e ({ frames := 3, cells := 0, slots := 0, locals := 64 } : Room) s m av below meth c H locs 0 0 Q (F0 m 23 ls [.int y_2, .int (1 : Int32), .ref o]) := by
    intro y_2 H locs ls hm hP hD hS hl
    unfold m_X8_border_J23 at hm
    have hPc := hP.sub (ws' := (k_X8_fails cA o o_now o_saved o_aside o_history o_chains o_buffer o_numbers v_o_thrown v_o_kept v_o_reason v_o_errorPosition v_o_isSaved v_o_length v_o_at v_o_isWrong)) [0] rfl
    have hDc := hD.sub (ws' := (k_X8_fails cA o o_now o_saved o_aside o_history o_chains o_buffer o_numbers v_o_thrown v_o_kept v_o_reason v_o_errorPosition v_o_isSaved v_o_length v_o_at v_o_isWrong)) [0] (by decide) rfl
    have hFc := va_free (wc := (k_X8_fails cA o o_now o_saved o_aside o_history o_chains o_buffer o_numbers v_o_thrown v_o_kept v_o_reason v_o_errorPosition v_o_isSaved v_o_length v_o_at v_o_isWrong)) hD hS hA [0] rfl
    refine va_calli (va_runV (As := [.int (1 : Int32), .int y_2]) (rest := []) ⟨hx, hb, hml, hown, hts⟩ (c_X8_fails l G cA o o_now o_saved o_aside o_history o_chains o_buffer o_numbers H.size (1 : Int32) y_2 v_o_thrown v_o_kept v_o_reason v_o_errorPosition v_o_isSaved v_o_length v_o_at v_o_isWrong _ rfl (bnz hm hz)) (cwV 2 hts gX8_border_X8_fails rfl rfl rfl (by decide +kernel) ⟨Nat.le_of_ble_eq_true rfl, Nat.le_of_ble_eq_true rfl⟩) (preMV (q := (RX8, TX8, 15)) hPc hDc hK 0 rfl rfl) rfl rfl hl.1 rfl (lv_room (Nat.le_of_ble_eq_true rfl)) dX8_border_23 ⟨Nat.zero_le _, Nat.zero_le _⟩) hS (fun q _ h => hFc q h) hFc (fun r_3 u_4 t H locs ht hvm hw hB hz1 hk1 hS' => ?_)
    obtain ⟨v_4, rfl⟩ : ∃ z, z = u_4 := ⟨_, rfl⟩
    replace hm := bst hm hw.1
    replace hB : va_P G vwCl _ _ := hB
    rw [ht] at hB
    have hj := va_backB (E := (e_X8_border cA o o_now o_saved o_aside o_history o_chains o_buffer o_numbers v_o_thrown v_o_kept v_o_reason v_o_errorPosition v_o_isSaved v_o_length v_o_at v_o_isWrong g_o_now gA)) (E' := (e_X8_border cA o o_now o_saved o_aside o_history o_chains o_buffer o_numbers v_4 v_o_kept v_o_reason v_o_errorPosition v_o_isSaved v_o_length v_o_at v_o_isWrong g_o_now gA)) (B := (gblk cA gA gW)) hP hD [0] rfl hk1 hB [(true, 0), (false, 1), (false, 2)] rfl (by decide) rfl
    replace hP : va_P G vwCl (k_X8_border cA o o_now o_saved o_aside o_history o_chains o_buffer o_numbers v_4 v_o_kept v_o_reason v_o_errorPosition v_o_isSaved v_o_length v_o_at v_o_isWrong g_o_now gA gW) H := hj.1
    replace hD : va_D A (k_X8_border cA o o_now o_saved o_aside o_history o_chains o_buffer o_numbers v_4 v_o_kept v_o_reason v_o_errorPosition v_o_isSaved v_o_length v_o_at v_o_isWrong g_o_now gA gW) := hj.2
    replace hS := hS'
    clear hj hPc hDc hFc hB
    refine lv_if_ne (tgt := 76) hx hb dX8_border_26 (by decide) (fun c_5 => ?_) (fun c_5 => ?_)
    · replace hm := ie hm c_5
      refine lv_iconst (v := (0 : Int32)) hx hb dX8_border_76 (by decide) ?_
      exact hret _ _ _ (v_4, v_o_kept, g_o_now, gW) _ _ dX8_border_77 rfl hP hS ⟨hm.symm, (by decide)⟩
    · replace hm := it hm c_5
      refine lv_aload_n hx hb dX8_border_29 rfl (lv_at hl 0 rfl) ?_
      refine lv_iconst (v := (2 : Int32)) hx hb dX8_border_30 (by decide) ?_
      refine lv_iload_n hx hb dX8_border_31 rfl (lv_at hl 1 rfl) ?_
      refine lv_iload_n hx hb dX8_border_32 rfl (lv_at hl 2 rfl) ?_
      have J41_2 : ∀ (y_6 : Int32), ∀ (H : Heap) (locs : List Loc) (ls : Array Slot), m_X8_border_J41 g_o_now gW v_o_kept p1 p2 p3 y_6 = R → va_P G vwCl (k_X8_border cA o o_now o_saved o_aside o_history o_chains o_buffer o_numbers v_4 v_o_kept v_o_reason v_o_errorPosition v_o_isSaved v_o_length v_o_at v_o_isWrong g_o_now gA gW) H → va_D A (k_X8_border cA o o_now o_saved o_aside o_history o_chains o_buffer o_numbers v_4 v_o_kept v_o_reason v_o_errorPosition v_o_isSaved v_o_length v_o_at v_o_isWrong g_o_now gA gW) → va_S A s.heap H locs → lv_has ls 5 [(0, .ref o), (1, .int p1), (2, .int p2), (3, .int p3)] → W p l e ({ frames := 3, cells := 0, slots := 0, locals := 64 } : Room) s m av below meth c H locs 0 0 Q (F0 m 41 ls [.int y_6, .int (2 : Int32), .ref o]) := by
        intro y_6 H locs ls hm hP hD hS hl
        unfold m_X8_border_J41 at hm
        have hPc := hP.sub (ws' := (k_X8_fails cA o o_now o_saved o_aside o_history o_chains o_buffer o_numbers v_4 v_o_kept v_o_reason v_o_errorPosition v_o_isSaved v_o_length v_o_at v_o_isWrong)) [0] rfl
        have hDc := hD.sub (ws' := (k_X8_fails cA o o_now o_saved o_aside o_history o_chains o_buffer o_numbers v_4 v_o_kept v_o_reason v_o_errorPosition v_o_isSaved v_o_length v_o_at v_o_isWrong)) [0] (by decide) rfl
        have hFc := va_free (wc := (k_X8_fails cA o o_now o_saved o_aside o_history o_chains o_buffer o_numbers v_4 v_o_kept v_o_reason v_o_errorPosition v_o_isSaved v_o_length v_o_at v_o_isWrong)) hD hS hA [0] rfl
        refine va_calli (va_runV (As := [.int (2 : Int32), .int y_6]) (rest := []) ⟨hx, hb, hml, hown, hts⟩ (c_X8_fails l G cA o o_now o_saved o_aside o_history o_chains o_buffer o_numbers H.size (2 : Int32) y_6 v_4 v_o_kept v_o_reason v_o_errorPosition v_o_isSaved v_o_length v_o_at v_o_isWrong _ rfl (bnz hm hz)) (cwV 2 hts gX8_border_X8_fails rfl rfl rfl (by decide +kernel) ⟨Nat.le_of_ble_eq_true rfl, Nat.le_of_ble_eq_true rfl⟩) (preMV (q := (RX8, TX8, 15)) hPc hDc hK 0 rfl rfl) rfl rfl hl.1 rfl (lv_room (Nat.le_of_ble_eq_true rfl)) dX8_border_41 ⟨Nat.zero_le _, Nat.zero_le _⟩) hS (fun q _ h => hFc q h) hFc (fun r_7 u_8 t H locs ht hvm hw hB hz1 hk1 hS' => ?_)
        obtain ⟨v_8, rfl⟩ : ∃ z, z = u_8 := ⟨_, rfl⟩
        replace hm := bst hm hw.1
        replace hB : va_P G vwCl _ _ := hB
        rw [ht] at hB
        have hj := va_backB (E := (e_X8_border cA o o_now o_saved o_aside o_history o_chains o_buffer o_numbers v_4 v_o_kept v_o_reason v_o_errorPosition v_o_isSaved v_o_length v_o_at v_o_isWrong g_o_now gA)) (E' := (e_X8_border cA o o_now o_saved o_aside o_history o_chains o_buffer o_numbers v_8 v_o_kept v_o_reason v_o_errorPosition v_o_isSaved v_o_length v_o_at v_o_isWrong g_o_now gA)) (B := (gblk cA gA gW)) hP hD [0] rfl hk1 hB [(true, 0), (false, 1), (false, 2)] rfl (by decide) rfl
        replace hP : va_P G vwCl (k_X8_border cA o o_now o_saved o_aside o_history o_chains o_buffer o_numbers v_8 v_o_kept v_o_reason v_o_errorPosition v_o_isSaved v_o_length v_o_at v_o_isWrong g_o_now gA gW) H := hj.1
        replace hD : va_D A (k_X8_border cA o o_now o_saved o_aside o_history o_chains o_buffer o_numbers v_8 v_o_kept v_o_reason v_o_errorPosition v_o_isSaved v_o_length v_o_at v_o_isWrong g_o_now gA gW) := hj.2
        replace hS := hS'
        clear hj hPc hDc hFc hB
        refine lv_if_ne (tgt := 76) hx hb dX8_border_44 (by decide) (fun c_9 => ?_) (fun c_9 => ?_)
        · replace hm := ie hm c_9
          refine lv_iconst (v := (0 : Int32)) hx hb dX8_border_76 (by decide) ?_
          exact hret _ _ _ (v_8, v_o_kept, g_o_now, gW) _ _ dX8_border_77 rfl hP hS ⟨hm.symm, (by decide)⟩
        · replace hm := it hm c_9
          refine lv_aload_n hx hb dX8_border_47 rfl (lv_at hl 0 rfl) ?_
          refine lv_iconst (v := (3 : Int32)) hx hb dX8_border_48 (by decide) ?_
          refine lv_aload_n hx hb dX8_border_49 rfl (lv_at hl 0 rfl) ?_
          refine lv_iload_n hx hb dX8_border_50 rfl (lv_at hl 1 rfl) ?_
          refine vp_callSi (va_Run.run (va_runV (As := [.int p1]) (rest := [.int (3 : Int32), .ref o]) ⟨hx, hb, hml, hown, hts⟩ (c_X8_isPresent l G cA o o_now o_saved o_aside o_history o_chains o_buffer o_numbers p1 v_8 v_o_kept v_o_reason v_o_errorPosition v_o_isSaved v_o_length v_o_at v_o_isWrong g_o_now _ rfl (bnz hm hz)) (cwV 1 hts gX8_border_X8_isPresent rfl rfl rfl (by decide +kernel) ⟨Nat.le_of_ble_eq_true rfl, Nat.le_of_ble_eq_true rfl⟩) (preRV (q := (RX8, TX8, 15)) (hP.sub [0, 1] rfl) hK 0 rfl rfl) rfl rfl hl.1 rfl (lv_room (Nat.le_of_ble_eq_true rfl)) dX8_border_51 ⟨Nat.zero_le _, Nat.zero_le _⟩)) (fun r_10 hw => ?_)
          replace hm := bst hm hw.1
          have J70_1 : ∀ (y_11 : Int32), ∀ (H : Heap) (locs : List Loc) (ls : Array Slot), m_X8_border_J70 g_o_now gW v_o_kept p1 p2 p3 y_11 = R → va_P G vwCl (k_X8_border cA o o_now o_saved o_aside o_history o_chains o_buffer o_numbers v_8 v_o_kept v_o_reason v_o_errorPosition v_o_isSaved v_o_length v_o_at v_o_isWrong g_o_now gA gW) H → va_D A (k_X8_border cA o o_now o_saved o_aside o_history o_chains o_buffer o_numbers v_8 v_o_kept v_o_reason v_o_errorPosition v_o_isSaved v_o_length v_o_at v_o_isWrong g_o_now gA gW) → va_S A s.heap H locs → lv_has ls 5 [(0, .ref o), (1, .int p1), (2, .int p2), (3, .int p3)] → W p l e ({ frames := 3, cells := 0, slots := 0, locals := 64 } : Room) s m av below meth c H locs 0 0 Q (F0 m 70 ls [.int y_11, .int (3 : Int32), .ref o]) := by
            intro y_11 H locs ls hm hP hD hS hl
            unfold m_X8_border_J70 at hm
            have hPc := hP.sub (ws' := (k_X8_fails cA o o_now o_saved o_aside o_history o_chains o_buffer o_numbers v_8 v_o_kept v_o_reason v_o_errorPosition v_o_isSaved v_o_length v_o_at v_o_isWrong)) [0] rfl
            have hDc := hD.sub (ws' := (k_X8_fails cA o o_now o_saved o_aside o_history o_chains o_buffer o_numbers v_8 v_o_kept v_o_reason v_o_errorPosition v_o_isSaved v_o_length v_o_at v_o_isWrong)) [0] (by decide) rfl
            have hFc := va_free (wc := (k_X8_fails cA o o_now o_saved o_aside o_history o_chains o_buffer o_numbers v_8 v_o_kept v_o_reason v_o_errorPosition v_o_isSaved v_o_length v_o_at v_o_isWrong)) hD hS hA [0] rfl
            refine va_calli (va_runV (As := [.int (3 : Int32), .int y_11]) (rest := []) ⟨hx, hb, hml, hown, hts⟩ (c_X8_fails l G cA o o_now o_saved o_aside o_history o_chains o_buffer o_numbers H.size (3 : Int32) y_11 v_8 v_o_kept v_o_reason v_o_errorPosition v_o_isSaved v_o_length v_o_at v_o_isWrong _ rfl (bnz hm hz)) (cwV 2 hts gX8_border_X8_fails rfl rfl rfl (by decide +kernel) ⟨Nat.le_of_ble_eq_true rfl, Nat.le_of_ble_eq_true rfl⟩) (preMV (q := (RX8, TX8, 15)) hPc hDc hK 0 rfl rfl) rfl rfl hl.1 rfl (lv_room (Nat.le_of_ble_eq_true rfl)) dX8_border_70 ⟨Nat.zero_le _, Nat.zero_le _⟩) hS (fun q _ h => hFc q h) hFc (fun r_12 u_13 t H locs ht hvm hw hB hz1 hk1 hS' => ?_)
            obtain ⟨v_13, rfl⟩ : ∃ z, z = u_13 := ⟨_, rfl⟩
            replace hm := bst hm hw.1
            replace hB : va_P G vwCl _ _ := hB
            rw [ht] at hB
            have hj := va_backB (E := (e_X8_border cA o o_now o_saved o_aside o_history o_chains o_buffer o_numbers v_8 v_o_kept v_o_reason v_o_errorPosition v_o_isSaved v_o_length v_o_at v_o_isWrong g_o_now gA)) (E' := (e_X8_border cA o o_now o_saved o_aside o_history o_chains o_buffer o_numbers v_13 v_o_kept v_o_reason v_o_errorPosition v_o_isSaved v_o_length v_o_at v_o_isWrong g_o_now gA)) (B := (gblk cA gA gW)) hP hD [0] rfl hk1 hB [(true, 0), (false, 1), (false, 2)] rfl (by decide) rfl
            replace hP : va_P G vwCl (k_X8_border cA o o_now o_saved o_aside o_history o_chains o_buffer o_numbers v_13 v_o_kept v_o_reason v_o_errorPosition v_o_isSaved v_o_length v_o_at v_o_isWrong g_o_now gA gW) H := hj.1
            replace hD : va_D A (k_X8_border cA o o_now o_saved o_aside o_history o_chains o_buffer o_numbers v_13 v_o_kept v_o_reason v_o_errorPosition v_o_isSaved v_o_length v_o_at v_o_isWrong g_o_now gA gW) := hj.2
            replace hS := hS'
            clear hj hPc hDc hFc hB
            refine lv_if_eq (tgt := 78) hx hb dX8_border_73 (by decide) (fun c_14 => ?_) (fun c_14 => ?_)
            · replace hm := it hm c_14
              refine lv_aload_n hx hb dX8_border_78 rfl (lv_at hl 0 rfl) ?_
              refine lv_aload_n hx hb dX8_border_79 rfl (lv_at hl 0 rfl) ?_
              refine va_get (D := G) (ci := 10) (v := .ref o_now) (C := RX8) (T := TX8) (N := 15) hx hb hts i_X8 hown hK.1 hP 0 rfl rfl 1 (by decide) w_0 (fun _ h9 => h9) rfl dX8_border_80 ?_
              have hPc : va_P G vwCl (k_X8_remember cA o o_now o_saved o_aside o_history o_chains o_buffer o_numbers o_now v_13 v_o_kept v_o_reason v_o_errorPosition v_o_isSaved v_o_length v_o_at v_o_isWrong g_o_now gA gW) H := va_subC (E := (e_X8_border cA o o_now o_saved o_aside o_history o_chains o_buffer o_numbers v_13 v_o_kept v_o_reason v_o_errorPosition v_o_isSaved v_o_length v_o_at v_o_isWrong g_o_now gA)) (Ec := (e_X8_remember cA o o_now o_saved o_aside o_history o_chains o_buffer o_numbers o_now v_13 v_o_kept v_o_reason v_o_errorPosition v_o_isSaved v_o_length v_o_at v_o_isWrong g_o_now gA)) (B := (gblk cA gA gW)) hP [0, 2, 1] rfl
              have hDc : va_D A (k_X8_remember cA o o_now o_saved o_aside o_history o_chains o_buffer o_numbers o_now v_13 v_o_kept v_o_reason v_o_errorPosition v_o_isSaved v_o_length v_o_at v_o_isWrong g_o_now gA gW) := va_subCD (E := (e_X8_border cA o o_now o_saved o_aside o_history o_chains o_buffer o_numbers v_13 v_o_kept v_o_reason v_o_errorPosition v_o_isSaved v_o_length v_o_at v_o_isWrong g_o_now gA)) (Ec := (e_X8_remember cA o o_now o_saved o_aside o_history o_chains o_buffer o_numbers o_now v_13 v_o_kept v_o_reason v_o_errorPosition v_o_isSaved v_o_length v_o_at v_o_isWrong g_o_now gA)) (B := (gblk cA gA gW)) hD [0, 2, 1] (by decide) rfl
              have hFc : ∀ q, va_A (k_X8_remember cA o o_now o_saved o_aside o_history o_chains o_buffer o_numbers o_now v_13 v_o_kept v_o_reason v_o_errorPosition v_o_isSaved v_o_length v_o_at v_o_isWrong g_o_now gA gW) H.size q → A q := va_freeC (E := (e_X8_border cA o o_now o_saved o_aside o_history o_chains o_buffer o_numbers v_13 v_o_kept v_o_reason v_o_errorPosition v_o_isSaved v_o_length v_o_at v_o_isWrong g_o_now gA)) (Ec := (e_X8_remember cA o o_now o_saved o_aside o_history o_chains o_buffer o_numbers o_now v_13 v_o_kept v_o_reason v_o_errorPosition v_o_isSaved v_o_length v_o_at v_o_isWrong g_o_now gA)) (B := (gblk cA gA gW)) hD hS hA [0, 2, 1] rfl
              refine va_callv (va_runV (As := [.ref o_now]) (rest := []) ⟨hx, hb, hml, hown, hts⟩ (c_X8_remember l G cA o o_now o_saved o_aside o_history o_chains o_buffer o_numbers o_now H.size v_13 v_o_kept v_o_reason v_o_errorPosition v_o_isSaved v_o_length v_o_at v_o_isWrong g_o_now gA gW _ rfl (bnz hm hz)) (cwV 1 hts gX8_border_X8_remember rfl rfl rfl (by decide +kernel) ⟨Nat.le_of_ble_eq_true rfl, Nat.le_of_ble_eq_true rfl⟩) (preMV (q := (RX8, TX8, 15)) hPc hDc hK 0 rfl rfl) rfl rfl hl.1 rfl (lv_room (Nat.le_of_ble_eq_true rfl)) dX8_border_83 ⟨Nat.zero_le _, Nat.zero_le _⟩) hS (fun q _ h => hFc q h) hFc (fun u_16 t H locs ht hvm hw hB hz1 hk1 hS' => ?_)
              obtain ⟨v_15, h_16⟩ := u_16
              replace hm := bst hm hw
              replace hB : va_P G vwCl _ _ := hB
              rw [ht] at hB
              have hj := va_backC (E := (e_X8_border cA o o_now o_saved o_aside o_history o_chains o_buffer o_numbers v_13 v_o_kept v_o_reason v_o_errorPosition v_o_isSaved v_o_length v_o_at v_o_isWrong g_o_now gA)) (E' := (e_X8_border cA o o_now o_saved o_aside o_history o_chains o_buffer o_numbers v_13 v_15 v_o_reason v_o_errorPosition v_o_isSaved v_o_length v_o_at v_o_isWrong g_o_now gA)) (Ec := (e_X8_remember cA o o_now o_saved o_aside o_history o_chains o_buffer o_numbers o_now v_13 v_o_kept v_o_reason v_o_errorPosition v_o_isSaved v_o_length v_o_at v_o_isWrong g_o_now gA)) (Ec1 := (e_X8_remember cA o o_now o_saved o_aside o_history o_chains o_buffer o_numbers o_now v_13 v_15 v_o_reason v_o_errorPosition v_o_isSaved v_o_length v_o_at v_o_isWrong g_o_now gA)) (B := (gblk cA gA gW)) (B1 := (gblk cA gA h_16)) hP hD [0, 2, 1] rfl hk1 hB (gblk_addr ..) [(true, 0), (true, 2), (true, 1)] rfl (by decide) rfl
              replace hP : va_P G vwCl (k_X8_border cA o o_now o_saved o_aside o_history o_chains o_buffer o_numbers v_13 v_15 v_o_reason v_o_errorPosition v_o_isSaved v_o_length v_o_at v_o_isWrong g_o_now gA h_16) H := hj.1
              replace hD : va_D A (k_X8_border cA o o_now o_saved o_aside o_history o_chains o_buffer o_numbers v_13 v_15 v_o_reason v_o_errorPosition v_o_isSaved v_o_length v_o_at v_o_isWrong g_o_now gA h_16) := hj.2
              replace hS := hS'
              clear hj hPc hDc hFc hB
              refine lv_aload_n hx hb dX8_border_86 rfl (lv_at hl 0 rfl) ?_
              refine lv_iload_n hx hb dX8_border_87 rfl (lv_at hl 1 rfl) ?_
              refine lv_iconst (v := (3 : Int32)) hx hb dX8_border_88 (by decide) ?_
              refine vp_callSi (va_Run.run (va_runV (As := [.int p1, .int (3 : Int32)]) (rest := []) ⟨hx, hb, hml, hown, hts⟩ (c_X8_of l G cA o o_now o_saved o_aside o_history o_chains o_buffer o_numbers p1 (3 : Int32) v_13 v_15 v_o_reason v_o_errorPosition v_o_isSaved v_o_length v_o_at v_o_isWrong g_o_now _ rfl (bnz hm hz)) (cwV 2 hts gX8_border_X8_of rfl rfl rfl (by decide +kernel) ⟨Nat.le_of_ble_eq_true rfl, Nat.le_of_ble_eq_true rfl⟩) (preRV (q := (RX8, TX8, 15)) (hP.sub [0, 1] rfl) hK 0 rfl rfl) rfl rfl hl.1 rfl (lv_room (Nat.le_of_ble_eq_true rfl)) dX8_border_89 ⟨Nat.zero_le _, Nat.zero_le _⟩)) (fun r_17 hw => ?_)
              replace hm := bst hm hw
              refine lv_iload_n hx hb dX8_border_92 rfl (lv_at hl 2 rfl) ?_
              refine vp_callSi (va_Run.run (va_runS (As := [.int r_17, .int p2]) (rest := []) ⟨hx, hb, hml, hown, hts⟩ (c_X8_has l G cA r_17 p2 _ rfl (bnz hm hz)) (va_cwS 2 hts gX8_border_X8_has rfl rfl rfl (by decide +kernel) ⟨Nat.le_of_ble_eq_true rfl, Nat.le_of_ble_eq_true rfl⟩) (preRS (hP.sub [] rfl) hK) rfl rfl hl.1 rfl (lv_room (Nat.le_of_ble_eq_true rfl)) dX8_border_93 ⟨Nat.zero_le _, Nat.zero_le _⟩)) (fun r_18 hw => ?_)
              replace hm := bst hm hw.1
              refine lv_istore (lv' := [(4, .int r_18), (0, .ref o), (1, .int p1), (2, .int p2), (3, .int p3)]) hx hb dX8_border_96 hl (by decide) rfl (fun ls hl => ?_)
              refine lv_aload_n hx hb dX8_border_98 rfl (lv_at hl 1 rfl) ?_
              refine lv_iload_n hx hb dX8_border_99 rfl (lv_at hl 2 rfl) ?_
              refine lv_iload_n hx hb dX8_border_100 rfl (lv_at hl 3 rfl) ?_
              refine lv_iload_n hx hb dX8_border_101 rfl (lv_at hl 4 rfl) ?_
              have hPc := hP.sub (ws' := (k_X8_setBorder cA o o_now o_saved o_aside o_history o_chains o_buffer o_numbers v_13 v_15 v_o_reason v_o_errorPosition v_o_isSaved v_o_length v_o_at v_o_isWrong g_o_now)) [0, 1] rfl
              have hDc := hD.sub (ws' := (k_X8_setBorder cA o o_now o_saved o_aside o_history o_chains o_buffer o_numbers v_13 v_15 v_o_reason v_o_errorPosition v_o_isSaved v_o_length v_o_at v_o_isWrong g_o_now)) [0, 1] (by decide) rfl
              have hFc := va_free (wc := (k_X8_setBorder cA o o_now o_saved o_aside o_history o_chains o_buffer o_numbers v_13 v_15 v_o_reason v_o_errorPosition v_o_isSaved v_o_length v_o_at v_o_isWrong g_o_now)) hD hS hA [0, 1] rfl
              refine va_callv (va_runV (As := [.int p1, .int p2, .int p3]) (rest := []) ⟨hx, hb, hml, hown, hts⟩ (c_X8_setBorder l G cA o o_now o_saved o_aside o_history o_chains o_buffer o_numbers H.size p1 p2 p3 v_13 v_15 v_o_reason v_o_errorPosition v_o_isSaved v_o_length v_o_at v_o_isWrong g_o_now _ rfl (bnz hm hz)) (cwV 3 hts gX8_border_X8_setBorder rfl rfl rfl (by decide +kernel) ⟨Nat.le_of_ble_eq_true rfl, Nat.le_of_ble_eq_true rfl⟩) (preMV (q := (RX8, TX8, 15)) hPc hDc hK 0 rfl rfl) rfl rfl hl.1 rfl (lv_room (Nat.le_of_ble_eq_true rfl)) dX8_border_102 ⟨Nat.zero_le _, Nat.zero_le _⟩) hS (fun q _ h => hFc q h) hFc (fun u_19 t H locs ht hvm hw hB hz1 hk1 hS' => ?_)
              obtain ⟨g_19, rfl⟩ : ∃ z, z = u_19 := ⟨_, rfl⟩
              replace hm := bst hm hw
              replace hB : va_P G vwCl _ _ := hB
              rw [ht] at hB
              have hj := va_backB (E := (e_X8_border cA o o_now o_saved o_aside o_history o_chains o_buffer o_numbers v_13 v_15 v_o_reason v_o_errorPosition v_o_isSaved v_o_length v_o_at v_o_isWrong g_o_now gA)) (E' := (e_X8_border cA o o_now o_saved o_aside o_history o_chains o_buffer o_numbers v_13 v_15 v_o_reason v_o_errorPosition v_o_isSaved v_o_length v_o_at v_o_isWrong g_19 gA)) (B := (gblk cA gA h_16)) hP hD [0, 1] rfl hk1 hB [(true, 0), (true, 1), (false, 2)] rfl (by decide) rfl
              replace hP : va_P G vwCl (k_X8_border cA o o_now o_saved o_aside o_history o_chains o_buffer o_numbers v_13 v_15 v_o_reason v_o_errorPosition v_o_isSaved v_o_length v_o_at v_o_isWrong g_19 gA h_16) H := hj.1
              replace hD : va_D A (k_X8_border cA o o_now o_saved o_aside o_history o_chains o_buffer o_numbers v_13 v_15 v_o_reason v_o_errorPosition v_o_isSaved v_o_length v_o_at v_o_isWrong g_19 gA h_16) := hj.2
              replace hS := hS'
              clear hj hPc hDc hFc hB
              refine lv_iload hx hb dX8_border_105 (lv_at hl 0 rfl) ?_
              replace hm := gdo hm hz
              obtain ⟨gb_20, hm⟩ := hm
              exact hret _ _ _ (v_13, v_15, g_19, h_16) _ _ dX8_border_107 (nz (isbz gb_20)) hP hS ⟨hm.symm, (isbz gb_20)⟩
            · replace hm := ie hm c_14
              refine lv_iconst (v := (0 : Int32)) hx hb dX8_border_76 (by decide) ?_
              exact hret _ _ _ (v_13, v_o_kept, g_o_now, gW) _ _ dX8_border_77 rfl hP hS ⟨hm.symm, (by decide)⟩
          refine lv_if_eq (tgt := 65) hx hb dX8_border_54 (by decide) (fun c_21 => ?_) (fun c_21 => ?_)
          · replace hm := it hm c_21
            refine lv_iconst (v := (1 : Int32)) hx hb dX8_border_65 (by decide) ?_
            refine lv_goto (tgt := 70) hx hb dX8_border_66 (by decide) ?_
            exact J70_1 (1 : Int32) _ _ _ hm hP hD hS (lv_sub hl [0, 1, 2, 3] rfl)
          · replace hm := ie hm c_21
            refine lv_aload_n hx hb dX8_border_57 rfl (lv_at hl 0 rfl) ?_
            refine lv_iload_n hx hb dX8_border_58 rfl (lv_at hl 2 rfl) ?_
            refine vp_callSi (va_Run.run (va_runV (As := [.int p2]) (rest := [.int (3 : Int32), .ref o]) ⟨hx, hb, hml, hown, hts⟩ (c_X8_isPresent l G cA o o_now o_saved o_aside o_history o_chains o_buffer o_numbers p2 v_8 v_o_kept v_o_reason v_o_errorPosition v_o_isSaved v_o_length v_o_at v_o_isWrong g_o_now _ rfl (bnz hm hz)) (cwV 1 hts gX8_border_X8_isPresent rfl rfl rfl (by decide +kernel) ⟨Nat.le_of_ble_eq_true rfl, Nat.le_of_ble_eq_true rfl⟩) (preRV (q := (RX8, TX8, 15)) (hP.sub [0, 1] rfl) hK 0 rfl rfl) rfl rfl hl.1 rfl (lv_room (Nat.le_of_ble_eq_true rfl)) dX8_border_59 ⟨Nat.zero_le _, Nat.zero_le _⟩)) (fun r_22 hw => ?_)
            replace hm := bst hm hw.1
            refine lv_if_ne (tgt := 69) hx hb dX8_border_62 (by decide) (fun c_23 => ?_) (fun c_23 => ?_)
            · replace hm := ie hm c_23
              refine lv_iconst (v := (0 : Int32)) hx hb dX8_border_69 (by decide) ?_
              exact J70_1 (0 : Int32) _ _ _ hm hP hD hS (lv_sub hl [0, 1, 2, 3] rfl)
            · replace hm := it hm c_23
              refine lv_iconst (v := (1 : Int32)) hx hb dX8_border_65 (by decide) ?_
              refine lv_goto (tgt := 70) hx hb dX8_border_66 (by decide) ?_
              exact J70_1 (1 : Int32) _ _ _ hm hP hD hS (lv_sub hl [0, 1, 2, 3] rfl)
      refine lv_icmp_ne (tgt := 40) hx hb dX8_border_33 (by decide) (fun c_24 => ?_) (fun c_24 => ?_)
      · replace hm := ie hm c_24
        refine lv_iconst (v := (0 : Int32)) hx hb dX8_border_40 (by decide) ?_
        exact J41_2 (0 : Int32) _ _ _ hm hP hD hS (lv_sub hl [0, 1, 2, 3] rfl)
      · replace hm := it hm c_24
        refine lv_iconst (v := (1 : Int32)) hx hb dX8_border_36 (by decide) ?_
        refine lv_goto (tgt := 41) hx hb dX8_border_37 (by decide) ?_
        exact J41_2 (1 : Int32) _ _ _ hm hP hD hS (lv_sub hl [0, 1, 2, 3] rfl)
  refine lv_if_eq (tgt := 18) hx hb dX8_border_7 (by decide) (fun c_25 => ?_) (fun c_25 => ?_)
  · replace hm := it hm c_25
    refine lv_iconst (v := (1 : Int32)) hx hb dX8_border_18 (by decide) ?_
    refine lv_goto (tgt := 23) hx hb dX8_border_19 (by decide) ?_
    exact J23_3 (1 : Int32) _ _ _ hm hP hD hS (lv_sub hl [0, 1, 2, 3] rfl)
  · replace hm := ie hm c_25
    refine lv_aload_n hx hb dX8_border_10 rfl (lv_at hl 0 rfl) ?_
    refine lv_iload_n hx hb dX8_border_11 rfl (lv_at hl 2 rfl) ?_
    refine vp_callSi (va_Run.run (va_runV (As := [.int p2]) (rest := [.int (1 : Int32), .ref o]) ⟨hx, hb, hml, hown, hts⟩ (c_X8_isParcel l G cA o o_now o_saved o_aside o_history o_chains o_buffer o_numbers p2 v_o_thrown v_o_kept v_o_reason v_o_errorPosition v_o_isSaved v_o_length v_o_at v_o_isWrong g_o_now _ rfl (bnz hm hz)) (cwV 1 hts gX8_border_X8_isParcel rfl rfl rfl (by decide +kernel) ⟨Nat.le_of_ble_eq_true rfl, Nat.le_of_ble_eq_true rfl⟩) (preRV (q := (RX8, TX8, 15)) (hP.sub [0, 1] rfl) hK 0 rfl rfl) rfl rfl hl.1 rfl (lv_room (Nat.le_of_ble_eq_true rfl)) dX8_border_12 ⟨Nat.zero_le _, Nat.zero_le _⟩)) (fun r_26 hw => ?_)
    replace hm := bst hm hw.1
    refine lv_if_ne (tgt := 22) hx hb dX8_border_15 (by decide) (fun c_27 => ?_) (fun c_27 => ?_)
    · replace hm := ie hm c_27
      refine lv_iconst (v := (0 : Int32)) hx hb dX8_border_22 (by decide) ?_
      exact J23_3 (0 : Int32) _ _ _ hm hP hD hS (lv_sub hl [0, 1, 2, 3] rfl)
    · replace hm := it hm c_27
      refine lv_iconst (v := (1 : Int32)) hx hb dX8_border_18 (by decide) ?_
      refine lv_goto (tgt := 23) hx hb dX8_border_19 (by decide) ?_
      exact J23_3 (1 : Int32) _ _ _ hm hP hD hS (lv_sub hl [0, 1, 2, 3] rfl)
def m_X8_split_J15 (g_o_now : Nat → Int32) (gW : Nat → Nat → Int32) (v_o_kept : Int32) (v_o_reason : Int32) (p1 : Int32) (p2 : Int32) (p3 : Int32) : (Int32) → Option (Int32 × Int32 × Int32 × Int32 × (Nat → Int32) × (Nat → Nat → Int32)) := fun y_2 => Option.bind (m_X8_fails (1 : Int32) y_2) (fun q => match q with
  | (r_3, v_4) => (if r_3 = 0 then Option.bind (m_X8_whyNoSplit p1 p2 p3 g_o_now) (fun r_6 => Option.bind (m_X8_isRefused r_6 v_o_reason) (fun q => match q with
  | (r_7, v_8) => Option.bind (m_X8_fails (2 : Int32) r_7) (fun q => match q with
  | (r_9, v_10) => (if r_9 = 0 then Option.bind (m_X8_remember v_o_kept g_o_now gW) (fun q => match q with
  | (v_12, h_13) => Option.bind (m_X8_doSplit p1 p2 p3 g_o_now) (fun q => match q with
  | (r_14, g_15) => some (r_14, v_10, v_12, v_8, g_15, h_13))) else some ((0 : Int32), v_10, v_o_kept, v_8, g_o_now, gW))))) else some ((0 : Int32), v_4, v_o_kept, v_o_reason, g_o_now, gW)))
def m_X8_split (p1 : Int32) (p2 : Int32) (p3 : Int32) (v_o_kept : Int32) (v_o_reason : Int32) (g_o_now : Nat → Int32) (gW : Nat → Nat → Int32) : Option (Int32 × Int32 × Int32 × Int32 × (Nat → Int32) × (Nat → Nat → Int32)) := Option.bind (m_X8_isParcel p1 g_o_now) (fun r_1 => (if r_1 = 0 then m_X8_split_J15 g_o_now gW v_o_kept v_o_reason p1 p2 p3 (1 : Int32) else m_X8_split_J15 g_o_now gW v_o_kept v_o_reason p1 p2 p3 (0 : Int32)))
abbrev e_X8_split (cA : Nat → ClassId) (o o_now o_saved o_aside o_history o_chains o_buffer o_numbers : Nat) (v_o_thrown : Int32) (v_o_kept : Int32) (v_o_reason : Int32) (v_o_errorPosition : Int32) (v_o_isSaved : Int32) (v_o_length : Int32) (v_o_at : Int32) (v_o_isWrong : Int32) (g_o_now : Nat → Int32) (gA : Nat → Nat) : va_W := [(o, .inr (10, [.int v_o_thrown, .ref o_now, .ref o_saved, .ref o_aside, .ref o_history, .int v_o_kept, .int v_o_reason, .int v_o_errorPosition, .int v_o_isSaved, .ref o_chains, .ref o_buffer, .int v_o_length, .int v_o_at, .int v_o_isWrong, .ref o_numbers])), (o_now, .inl (cA 0, 621, .inl g_o_now)), (o_history, .inl (cA 3, 6, .inr (.inr (.inr (.inr (fun j => some (gA j)))))))]
abbrev k_X8_split (cA : Nat → ClassId) (o o_now o_saved o_aside o_history o_chains o_buffer o_numbers : Nat) (v_o_thrown : Int32) (v_o_kept : Int32) (v_o_reason : Int32) (v_o_errorPosition : Int32) (v_o_isSaved : Int32) (v_o_length : Int32) (v_o_at : Int32) (v_o_isWrong : Int32) (g_o_now : Nat → Int32) (gA : Nat → Nat) (gW : Nat → Nat → Int32) : va_W := e_X8_split cA o o_now o_saved o_aside o_history o_chains o_buffer o_numbers v_o_thrown v_o_kept v_o_reason v_o_errorPosition v_o_isSaved v_o_length v_o_at v_o_isWrong g_o_now gA ++ gblk cA gA gW
set_option maxHeartbeats 4000000 in
set_option maxRecDepth 100000 in
/-- X8_split: as its model -/
theorem c_X8_split (l : Launch) (G : va_G) (cA : Nat → ClassId) (o o_now o_saved o_aside o_history o_chains o_buffer o_numbers : Nat) (sz : Nat) (p1 : Int32) (p2 : Int32) (p3 : Int32) (v_o_thrown : Int32) (v_o_kept : Int32) (v_o_reason : Int32) (v_o_errorPosition : Int32) (v_o_isSaved : Int32) (v_o_length : Int32) (v_o_at : Int32) (v_o_isWrong : Int32) (g_o_now : Nat → Int32) (gA : Nat → Nat) (gW : Nat → Nat → Int32) (R : Option (Int32 × Int32 × Int32 × Int32 × (Nat → Int32) × (Nat → Nat → Int32))) (hR : m_X8_split p1 p2 p3 v_o_kept v_o_reason g_o_now gW = R) (hz : R ≠ none) : Met l yX8_split wsX8_split ({ frames := 4, cells := 0, slots := 0, locals := 100 } : Room) (va_Pc [.ref o, .int p1, .int p2, .int p3] (PM G cA (k_X8_split cA o o_now o_saved o_aside o_history o_chains o_buffer o_numbers v_o_thrown v_o_kept v_o_reason v_o_errorPosition v_o_isSaved v_o_length v_o_at v_o_isWrong g_o_now gA gW) sz)) (va_Qi (fun (r : Int32) (u : Int32 × Int32 × Int32 × (Nat → Int32) × (Nat → Nat → Int32)) => R = some (r, u)) (BM G (fun (u : Int32 × Int32 × Int32 × (Nat → Int32) × (Nat → Nat → Int32)) => (k_X8_split cA o o_now o_saved o_aside o_history o_chains o_buffer o_numbers u.1 u.2.1 u.2.2.1 v_o_errorPosition v_o_isSaved v_o_length v_o_at v_o_isWrong u.2.2.2.1 gA u.2.2.2.2))) (va_A (k_X8_split cA o o_now o_saved o_aside o_history o_chains o_buffer o_numbers v_o_thrown v_o_kept v_o_reason v_o_errorPosition v_o_isSaved v_o_length v_o_at v_o_isWrong g_o_now gA gW) sz)) 0 0 (va_A (k_X8_split cA o o_now o_saved o_aside o_history o_chains o_buffer o_numbers v_o_thrown v_o_kept v_o_reason v_o_errorPosition v_o_isSaved v_o_length v_o_at v_o_isWrong g_o_now gA gW) sz) := by
  refine metM .int (by decide) rfl (Nat.le_of_ble_eq_true rfl) ?_
  intro p e s m av below meth c Q ls A H hx hb hml hts hown hP hK hD hA hS hl hret
  replace hl : lv_has ls 4 [(0, .ref o), (1, .int p1), (2, .int p2), (3, .int p3)] := hl
  have w_0 := hts (.fieldLink RX8 9 "ParcelRegistryModel" "now" "[I") (by decide +kernel)
  have i_X8 : ∀ w ∈ wsX80, w ∈ wsX8_split := by decide +kernel
  have hm := hR
  unfold m_X8_split at hm
  refine lv_aload_n hx hb dX8_split_0 rfl (lv_at hl 0 rfl) ?_
  refine lv_iconst (v := (1 : Int32)) hx hb dX8_split_1 (by decide) ?_
  refine lv_aload_n hx hb dX8_split_2 rfl (lv_at hl 0 rfl) ?_
  refine lv_iload_n hx hb dX8_split_3 rfl (lv_at hl 1 rfl) ?_
  refine vp_callSi (va_Run.run (va_runV (As := [.int p1]) (rest := [.int (1 : Int32), .ref o]) ⟨hx, hb, hml, hown, hts⟩ (c_X8_isParcel l G cA o o_now o_saved o_aside o_history o_chains o_buffer o_numbers p1 v_o_thrown v_o_kept v_o_reason v_o_errorPosition v_o_isSaved v_o_length v_o_at v_o_isWrong g_o_now _ rfl (bnz hm hz)) (cwV 1 hts gX8_split_X8_isParcel rfl rfl rfl (by decide +kernel) ⟨Nat.le_of_ble_eq_true rfl, Nat.le_of_ble_eq_true rfl⟩) (preRV (q := (RX8, TX8, 15)) (hP.sub [0, 1] rfl) hK 0 rfl rfl) rfl rfl hl.1 rfl (lv_room (Nat.le_of_ble_eq_true rfl)) dX8_split_4 ⟨Nat.zero_le _, Nat.zero_le _⟩)) (fun r_1 hw => ?_)
  replace hm := bst hm hw.1
  have J15_1 : ∀ (y_2 : Int32), ∀ (H : Heap) (locs : List Loc) (ls : Array Slot), m_X8_split_J15 g_o_now gW v_o_kept v_o_reason p1 p2 p3 y_2 = R → va_P G vwCl (k_X8_split cA o o_now o_saved o_aside o_history o_chains o_buffer o_numbers v_o_thrown v_o_kept v_o_reason v_o_errorPosition v_o_isSaved v_o_length v_o_at v_o_isWrong g_o_now gA gW) H → va_D A (k_X8_split cA o o_now o_saved o_aside o_history o_chains o_buffer o_numbers v_o_thrown v_o_kept v_o_reason v_o_errorPosition v_o_isSaved v_o_length v_o_at v_o_isWrong g_o_now gA gW) → va_S A s.heap H locs → lv_has ls 4 [(0, .ref o), (1, .int p1), (2, .int p2), (3, .int p3)] → W p l e ({ frames := 4, cells := 0, slots := 0, locals := 100 } : Room) s m av below meth c H locs 0 0 Q (F0 m 15 ls [.int y_2, .int (1 : Int32), .ref o]) := by
    intro y_2 H locs ls hm hP hD hS hl
    unfold m_X8_split_J15 at hm
    have hPc := hP.sub (ws' := (k_X8_fails cA o o_now o_saved o_aside o_history o_chains o_buffer o_numbers v_o_thrown v_o_kept v_o_reason v_o_errorPosition v_o_isSaved v_o_length v_o_at v_o_isWrong)) [0] rfl
    have hDc := hD.sub (ws' := (k_X8_fails cA o o_now o_saved o_aside o_history o_chains o_buffer o_numbers v_o_thrown v_o_kept v_o_reason v_o_errorPosition v_o_isSaved v_o_length v_o_at v_o_isWrong)) [0] (by decide) rfl
    have hFc := va_free (wc := (k_X8_fails cA o o_now o_saved o_aside o_history o_chains o_buffer o_numbers v_o_thrown v_o_kept v_o_reason v_o_errorPosition v_o_isSaved v_o_length v_o_at v_o_isWrong)) hD hS hA [0] rfl
    refine va_calli (va_runV (As := [.int (1 : Int32), .int y_2]) (rest := []) ⟨hx, hb, hml, hown, hts⟩ (c_X8_fails l G cA o o_now o_saved o_aside o_history o_chains o_buffer o_numbers H.size (1 : Int32) y_2 v_o_thrown v_o_kept v_o_reason v_o_errorPosition v_o_isSaved v_o_length v_o_at v_o_isWrong _ rfl (bnz hm hz)) (cwV 2 hts gX8_split_X8_fails rfl rfl rfl (by decide +kernel) ⟨Nat.le_of_ble_eq_true rfl, Nat.le_of_ble_eq_true rfl⟩) (preMV (q := (RX8, TX8, 15)) hPc hDc hK 0 rfl rfl) rfl rfl hl.1 rfl (lv_room (Nat.le_of_ble_eq_true rfl)) dX8_split_15 ⟨Nat.zero_le _, Nat.zero_le _⟩) hS (fun q _ h => hFc q h) hFc (fun r_3 u_4 t H locs ht hvm hw hB hz1 hk1 hS' => ?_)
    obtain ⟨v_4, rfl⟩ : ∃ z, z = u_4 := ⟨_, rfl⟩
    replace hm := bst hm hw.1
    replace hB : va_P G vwCl _ _ := hB
    rw [ht] at hB
    have hj := va_backB (E := (e_X8_split cA o o_now o_saved o_aside o_history o_chains o_buffer o_numbers v_o_thrown v_o_kept v_o_reason v_o_errorPosition v_o_isSaved v_o_length v_o_at v_o_isWrong g_o_now gA)) (E' := (e_X8_split cA o o_now o_saved o_aside o_history o_chains o_buffer o_numbers v_4 v_o_kept v_o_reason v_o_errorPosition v_o_isSaved v_o_length v_o_at v_o_isWrong g_o_now gA)) (B := (gblk cA gA gW)) hP hD [0] rfl hk1 hB [(true, 0), (false, 1), (false, 2)] rfl (by decide) rfl
    replace hP : va_P G vwCl (k_X8_split cA o o_now o_saved o_aside o_history o_chains o_buffer o_numbers v_4 v_o_kept v_o_reason v_o_errorPosition v_o_isSaved v_o_length v_o_at v_o_isWrong g_o_now gA gW) H := hj.1
    replace hD : va_D A (k_X8_split cA o o_now o_saved o_aside o_history o_chains o_buffer o_numbers v_4 v_o_kept v_o_reason v_o_errorPosition v_o_isSaved v_o_length v_o_at v_o_isWrong g_o_now gA gW) := hj.2
    replace hS := hS'
    clear hj hPc hDc hFc hB
    refine lv_if_ne (tgt := 40) hx hb dX8_split_18 (by decide) (fun c_5 => ?_) (fun c_5 => ?_)
    · replace hm := ie hm c_5
      refine lv_iconst (v := (0 : Int32)) hx hb dX8_split_40 (by decide) ?_
      exact hret _ _ _ (v_4, v_o_kept, v_o_reason, g_o_now, gW) _ _ dX8_split_41 rfl hP hS hm.symm
    · replace hm := it hm c_5
      refine lv_aload_n hx hb dX8_split_21 rfl (lv_at hl 0 rfl) ?_
      refine lv_iconst (v := (2 : Int32)) hx hb dX8_split_22 (by decide) ?_
      refine lv_aload_n hx hb dX8_split_23 rfl (lv_at hl 0 rfl) ?_
      refine lv_aload_n hx hb dX8_split_24 rfl (lv_at hl 0 rfl) ?_
      refine lv_iload_n hx hb dX8_split_25 rfl (lv_at hl 1 rfl) ?_
      refine lv_iload_n hx hb dX8_split_26 rfl (lv_at hl 2 rfl) ?_
      refine lv_iload_n hx hb dX8_split_27 rfl (lv_at hl 3 rfl) ?_
      refine vp_callSi (va_Run.run (va_runV (As := [.int p1, .int p2, .int p3]) (rest := [.ref o, .int (2 : Int32), .ref o]) ⟨hx, hb, hml, hown, hts⟩ (c_X8_whyNoSplit l G cA o o_now o_saved o_aside o_history o_chains o_buffer o_numbers p1 p2 p3 v_4 v_o_kept v_o_reason v_o_errorPosition v_o_isSaved v_o_length v_o_at v_o_isWrong g_o_now _ rfl (bnz hm hz)) (cwV 3 hts gX8_split_X8_whyNoSplit rfl rfl rfl (by decide +kernel) ⟨Nat.le_of_ble_eq_true rfl, Nat.le_of_ble_eq_true rfl⟩) (preRV (q := (RX8, TX8, 15)) (hP.sub [0, 1] rfl) hK 0 rfl rfl) rfl rfl hl.1 rfl (lv_room (Nat.le_of_ble_eq_true rfl)) dX8_split_28 ⟨Nat.zero_le _, Nat.zero_le _⟩)) (fun r_6 hw => ?_)
      replace hm := bst hm hw
      have hPc := hP.sub (ws' := (k_X8_isRefused cA o o_now o_saved o_aside o_history o_chains o_buffer o_numbers v_4 v_o_kept v_o_reason v_o_errorPosition v_o_isSaved v_o_length v_o_at v_o_isWrong)) [0] rfl
      have hDc := hD.sub (ws' := (k_X8_isRefused cA o o_now o_saved o_aside o_history o_chains o_buffer o_numbers v_4 v_o_kept v_o_reason v_o_errorPosition v_o_isSaved v_o_length v_o_at v_o_isWrong)) [0] (by decide) rfl
      have hFc := va_free (wc := (k_X8_isRefused cA o o_now o_saved o_aside o_history o_chains o_buffer o_numbers v_4 v_o_kept v_o_reason v_o_errorPosition v_o_isSaved v_o_length v_o_at v_o_isWrong)) hD hS hA [0] rfl
      refine va_calli (va_runV (As := [.int r_6]) (rest := [.int (2 : Int32), .ref o]) ⟨hx, hb, hml, hown, hts⟩ (c_X8_isRefused l G cA o o_now o_saved o_aside o_history o_chains o_buffer o_numbers H.size r_6 v_4 v_o_kept v_o_reason v_o_errorPosition v_o_isSaved v_o_length v_o_at v_o_isWrong _ rfl (bnz hm hz)) (cwV 1 hts gX8_split_X8_isRefused rfl rfl rfl (by decide +kernel) ⟨Nat.le_of_ble_eq_true rfl, Nat.le_of_ble_eq_true rfl⟩) (preMV (q := (RX8, TX8, 15)) hPc hDc hK 0 rfl rfl) rfl rfl hl.1 rfl (lv_room (Nat.le_of_ble_eq_true rfl)) dX8_split_31 ⟨Nat.zero_le _, Nat.zero_le _⟩) hS (fun q _ h => hFc q h) hFc (fun r_7 u_8 t H locs ht hvm hw hB hz1 hk1 hS' => ?_)
      obtain ⟨v_8, rfl⟩ : ∃ z, z = u_8 := ⟨_, rfl⟩
      replace hm := bst hm hw.1
      replace hB : va_P G vwCl _ _ := hB
      rw [ht] at hB
      have hj := va_backB (E := (e_X8_split cA o o_now o_saved o_aside o_history o_chains o_buffer o_numbers v_4 v_o_kept v_o_reason v_o_errorPosition v_o_isSaved v_o_length v_o_at v_o_isWrong g_o_now gA)) (E' := (e_X8_split cA o o_now o_saved o_aside o_history o_chains o_buffer o_numbers v_4 v_o_kept v_8 v_o_errorPosition v_o_isSaved v_o_length v_o_at v_o_isWrong g_o_now gA)) (B := (gblk cA gA gW)) hP hD [0] rfl hk1 hB [(true, 0), (false, 1), (false, 2)] rfl (by decide) rfl
      replace hP : va_P G vwCl (k_X8_split cA o o_now o_saved o_aside o_history o_chains o_buffer o_numbers v_4 v_o_kept v_8 v_o_errorPosition v_o_isSaved v_o_length v_o_at v_o_isWrong g_o_now gA gW) H := hj.1
      replace hD : va_D A (k_X8_split cA o o_now o_saved o_aside o_history o_chains o_buffer o_numbers v_4 v_o_kept v_8 v_o_errorPosition v_o_isSaved v_o_length v_o_at v_o_isWrong g_o_now gA gW) := hj.2
      replace hS := hS'
      clear hj hPc hDc hFc hB
      have hPc := hP.sub (ws' := (k_X8_fails cA o o_now o_saved o_aside o_history o_chains o_buffer o_numbers v_4 v_o_kept v_8 v_o_errorPosition v_o_isSaved v_o_length v_o_at v_o_isWrong)) [0] rfl
      have hDc := hD.sub (ws' := (k_X8_fails cA o o_now o_saved o_aside o_history o_chains o_buffer o_numbers v_4 v_o_kept v_8 v_o_errorPosition v_o_isSaved v_o_length v_o_at v_o_isWrong)) [0] (by decide) rfl
      have hFc := va_free (wc := (k_X8_fails cA o o_now o_saved o_aside o_history o_chains o_buffer o_numbers v_4 v_o_kept v_8 v_o_errorPosition v_o_isSaved v_o_length v_o_at v_o_isWrong)) hD hS hA [0] rfl
      refine va_calli (va_runV (As := [.int (2 : Int32), .int r_7]) (rest := []) ⟨hx, hb, hml, hown, hts⟩ (c_X8_fails l G cA o o_now o_saved o_aside o_history o_chains o_buffer o_numbers H.size (2 : Int32) r_7 v_4 v_o_kept v_8 v_o_errorPosition v_o_isSaved v_o_length v_o_at v_o_isWrong _ rfl (bnz hm hz)) (cwV 2 hts gX8_split_X8_fails rfl rfl rfl (by decide +kernel) ⟨Nat.le_of_ble_eq_true rfl, Nat.le_of_ble_eq_true rfl⟩) (preMV (q := (RX8, TX8, 15)) hPc hDc hK 0 rfl rfl) rfl rfl hl.1 rfl (lv_room (Nat.le_of_ble_eq_true rfl)) dX8_split_34 ⟨Nat.zero_le _, Nat.zero_le _⟩) hS (fun q _ h => hFc q h) hFc (fun r_9 u_10 t H locs ht hvm hw hB hz1 hk1 hS' => ?_)
      obtain ⟨v_10, rfl⟩ : ∃ z, z = u_10 := ⟨_, rfl⟩
      replace hm := bst hm hw.1
      replace hB : va_P G vwCl _ _ := hB
      rw [ht] at hB
      have hj := va_backB (E := (e_X8_split cA o o_now o_saved o_aside o_history o_chains o_buffer o_numbers v_4 v_o_kept v_8 v_o_errorPosition v_o_isSaved v_o_length v_o_at v_o_isWrong g_o_now gA)) (E' := (e_X8_split cA o o_now o_saved o_aside o_history o_chains o_buffer o_numbers v_10 v_o_kept v_8 v_o_errorPosition v_o_isSaved v_o_length v_o_at v_o_isWrong g_o_now gA)) (B := (gblk cA gA gW)) hP hD [0] rfl hk1 hB [(true, 0), (false, 1), (false, 2)] rfl (by decide) rfl
      replace hP : va_P G vwCl (k_X8_split cA o o_now o_saved o_aside o_history o_chains o_buffer o_numbers v_10 v_o_kept v_8 v_o_errorPosition v_o_isSaved v_o_length v_o_at v_o_isWrong g_o_now gA gW) H := hj.1
      replace hD : va_D A (k_X8_split cA o o_now o_saved o_aside o_history o_chains o_buffer o_numbers v_10 v_o_kept v_8 v_o_errorPosition v_o_isSaved v_o_length v_o_at v_o_isWrong g_o_now gA gW) := hj.2
      replace hS := hS'
      clear hj hPc hDc hFc hB
      refine lv_if_eq (tgt := 42) hx hb dX8_split_37 (by decide) (fun c_11 => ?_) (fun c_11 => ?_)
      · replace hm := it hm c_11
        refine lv_aload_n hx hb dX8_split_42 rfl (lv_at hl 0 rfl) ?_
        refine lv_aload_n hx hb dX8_split_43 rfl (lv_at hl 0 rfl) ?_
        refine va_get (D := G) (ci := 10) (v := .ref o_now) (C := RX8) (T := TX8) (N := 15) hx hb hts i_X8 hown hK.1 hP 0 rfl rfl 1 (by decide) w_0 (fun _ h9 => h9) rfl dX8_split_44 ?_
        have hPc : va_P G vwCl (k_X8_remember cA o o_now o_saved o_aside o_history o_chains o_buffer o_numbers o_now v_10 v_o_kept v_8 v_o_errorPosition v_o_isSaved v_o_length v_o_at v_o_isWrong g_o_now gA gW) H := va_subC (E := (e_X8_split cA o o_now o_saved o_aside o_history o_chains o_buffer o_numbers v_10 v_o_kept v_8 v_o_errorPosition v_o_isSaved v_o_length v_o_at v_o_isWrong g_o_now gA)) (Ec := (e_X8_remember cA o o_now o_saved o_aside o_history o_chains o_buffer o_numbers o_now v_10 v_o_kept v_8 v_o_errorPosition v_o_isSaved v_o_length v_o_at v_o_isWrong g_o_now gA)) (B := (gblk cA gA gW)) hP [0, 2, 1] rfl
        have hDc : va_D A (k_X8_remember cA o o_now o_saved o_aside o_history o_chains o_buffer o_numbers o_now v_10 v_o_kept v_8 v_o_errorPosition v_o_isSaved v_o_length v_o_at v_o_isWrong g_o_now gA gW) := va_subCD (E := (e_X8_split cA o o_now o_saved o_aside o_history o_chains o_buffer o_numbers v_10 v_o_kept v_8 v_o_errorPosition v_o_isSaved v_o_length v_o_at v_o_isWrong g_o_now gA)) (Ec := (e_X8_remember cA o o_now o_saved o_aside o_history o_chains o_buffer o_numbers o_now v_10 v_o_kept v_8 v_o_errorPosition v_o_isSaved v_o_length v_o_at v_o_isWrong g_o_now gA)) (B := (gblk cA gA gW)) hD [0, 2, 1] (by decide) rfl
        have hFc : ∀ q, va_A (k_X8_remember cA o o_now o_saved o_aside o_history o_chains o_buffer o_numbers o_now v_10 v_o_kept v_8 v_o_errorPosition v_o_isSaved v_o_length v_o_at v_o_isWrong g_o_now gA gW) H.size q → A q := va_freeC (E := (e_X8_split cA o o_now o_saved o_aside o_history o_chains o_buffer o_numbers v_10 v_o_kept v_8 v_o_errorPosition v_o_isSaved v_o_length v_o_at v_o_isWrong g_o_now gA)) (Ec := (e_X8_remember cA o o_now o_saved o_aside o_history o_chains o_buffer o_numbers o_now v_10 v_o_kept v_8 v_o_errorPosition v_o_isSaved v_o_length v_o_at v_o_isWrong g_o_now gA)) (B := (gblk cA gA gW)) hD hS hA [0, 2, 1] rfl
        refine va_callv (va_runV (As := [.ref o_now]) (rest := []) ⟨hx, hb, hml, hown, hts⟩ (c_X8_remember l G cA o o_now o_saved o_aside o_history o_chains o_buffer o_numbers o_now H.size v_10 v_o_kept v_8 v_o_errorPosition v_o_isSaved v_o_length v_o_at v_o_isWrong g_o_now gA gW _ rfl (bnz hm hz)) (cwV 1 hts gX8_split_X8_remember rfl rfl rfl (by decide +kernel) ⟨Nat.le_of_ble_eq_true rfl, Nat.le_of_ble_eq_true rfl⟩) (preMV (q := (RX8, TX8, 15)) hPc hDc hK 0 rfl rfl) rfl rfl hl.1 rfl (lv_room (Nat.le_of_ble_eq_true rfl)) dX8_split_47 ⟨Nat.zero_le _, Nat.zero_le _⟩) hS (fun q _ h => hFc q h) hFc (fun u_13 t H locs ht hvm hw hB hz1 hk1 hS' => ?_)
        obtain ⟨v_12, h_13⟩ := u_13
        replace hm := bst hm hw
        replace hB : va_P G vwCl _ _ := hB
        rw [ht] at hB
        have hj := va_backC (E := (e_X8_split cA o o_now o_saved o_aside o_history o_chains o_buffer o_numbers v_10 v_o_kept v_8 v_o_errorPosition v_o_isSaved v_o_length v_o_at v_o_isWrong g_o_now gA)) (E' := (e_X8_split cA o o_now o_saved o_aside o_history o_chains o_buffer o_numbers v_10 v_12 v_8 v_o_errorPosition v_o_isSaved v_o_length v_o_at v_o_isWrong g_o_now gA)) (Ec := (e_X8_remember cA o o_now o_saved o_aside o_history o_chains o_buffer o_numbers o_now v_10 v_o_kept v_8 v_o_errorPosition v_o_isSaved v_o_length v_o_at v_o_isWrong g_o_now gA)) (Ec1 := (e_X8_remember cA o o_now o_saved o_aside o_history o_chains o_buffer o_numbers o_now v_10 v_12 v_8 v_o_errorPosition v_o_isSaved v_o_length v_o_at v_o_isWrong g_o_now gA)) (B := (gblk cA gA gW)) (B1 := (gblk cA gA h_13)) hP hD [0, 2, 1] rfl hk1 hB (gblk_addr ..) [(true, 0), (true, 2), (true, 1)] rfl (by decide) rfl
        replace hP : va_P G vwCl (k_X8_split cA o o_now o_saved o_aside o_history o_chains o_buffer o_numbers v_10 v_12 v_8 v_o_errorPosition v_o_isSaved v_o_length v_o_at v_o_isWrong g_o_now gA h_13) H := hj.1
        replace hD : va_D A (k_X8_split cA o o_now o_saved o_aside o_history o_chains o_buffer o_numbers v_10 v_12 v_8 v_o_errorPosition v_o_isSaved v_o_length v_o_at v_o_isWrong g_o_now gA h_13) := hj.2
        replace hS := hS'
        clear hj hPc hDc hFc hB
        refine lv_aload_n hx hb dX8_split_50 rfl (lv_at hl 0 rfl) ?_
        refine lv_iload_n hx hb dX8_split_51 rfl (lv_at hl 1 rfl) ?_
        refine lv_iload_n hx hb dX8_split_52 rfl (lv_at hl 2 rfl) ?_
        refine lv_iload_n hx hb dX8_split_53 rfl (lv_at hl 3 rfl) ?_
        have hPc := hP.sub (ws' := (k_X8_doSplit cA o o_now o_saved o_aside o_history o_chains o_buffer o_numbers v_10 v_12 v_8 v_o_errorPosition v_o_isSaved v_o_length v_o_at v_o_isWrong g_o_now)) [0, 1] rfl
        have hDc := hD.sub (ws' := (k_X8_doSplit cA o o_now o_saved o_aside o_history o_chains o_buffer o_numbers v_10 v_12 v_8 v_o_errorPosition v_o_isSaved v_o_length v_o_at v_o_isWrong g_o_now)) [0, 1] (by decide) rfl
        have hFc := va_free (wc := (k_X8_doSplit cA o o_now o_saved o_aside o_history o_chains o_buffer o_numbers v_10 v_12 v_8 v_o_errorPosition v_o_isSaved v_o_length v_o_at v_o_isWrong g_o_now)) hD hS hA [0, 1] rfl
        refine va_calli (va_runV (As := [.int p1, .int p2, .int p3]) (rest := []) ⟨hx, hb, hml, hown, hts⟩ (c_X8_doSplit l G cA o o_now o_saved o_aside o_history o_chains o_buffer o_numbers H.size p1 p2 p3 v_10 v_12 v_8 v_o_errorPosition v_o_isSaved v_o_length v_o_at v_o_isWrong g_o_now _ rfl (bnz hm hz)) (cwV 3 hts gX8_split_X8_doSplit rfl rfl rfl (by decide +kernel) ⟨Nat.le_of_ble_eq_true rfl, Nat.le_of_ble_eq_true rfl⟩) (preMV (q := (RX8, TX8, 15)) hPc hDc hK 0 rfl rfl) rfl rfl hl.1 rfl (lv_room (Nat.le_of_ble_eq_true rfl)) dX8_split_54 ⟨Nat.zero_le _, Nat.zero_le _⟩) hS (fun q _ h => hFc q h) hFc (fun r_14 u_15 t H locs ht hvm hw hB hz1 hk1 hS' => ?_)
        obtain ⟨g_15, rfl⟩ : ∃ z, z = u_15 := ⟨_, rfl⟩
        replace hm := bst hm hw
        replace hB : va_P G vwCl _ _ := hB
        rw [ht] at hB
        have hj := va_backB (E := (e_X8_split cA o o_now o_saved o_aside o_history o_chains o_buffer o_numbers v_10 v_12 v_8 v_o_errorPosition v_o_isSaved v_o_length v_o_at v_o_isWrong g_o_now gA)) (E' := (e_X8_split cA o o_now o_saved o_aside o_history o_chains o_buffer o_numbers v_10 v_12 v_8 v_o_errorPosition v_o_isSaved v_o_length v_o_at v_o_isWrong g_15 gA)) (B := (gblk cA gA h_13)) hP hD [0, 1] rfl hk1 hB [(true, 0), (true, 1), (false, 2)] rfl (by decide) rfl
        replace hP : va_P G vwCl (k_X8_split cA o o_now o_saved o_aside o_history o_chains o_buffer o_numbers v_10 v_12 v_8 v_o_errorPosition v_o_isSaved v_o_length v_o_at v_o_isWrong g_15 gA h_13) H := hj.1
        replace hD : va_D A (k_X8_split cA o o_now o_saved o_aside o_history o_chains o_buffer o_numbers v_10 v_12 v_8 v_o_errorPosition v_o_isSaved v_o_length v_o_at v_o_isWrong g_15 gA h_13) := hj.2
        replace hS := hS'
        clear hj hPc hDc hFc hB
        exact hret _ _ _ (v_10, v_12, v_8, g_15, h_13) _ _ dX8_split_57 rfl hP hS hm.symm
      · replace hm := ie hm c_11
        refine lv_iconst (v := (0 : Int32)) hx hb dX8_split_40 (by decide) ?_
        exact hret _ _ _ (v_10, v_o_kept, v_8, g_o_now, gW) _ _ dX8_split_41 rfl hP hS hm.symm
  refine lv_if_ne (tgt := 14) hx hb dX8_split_7 (by decide) (fun c_16 => ?_) (fun c_16 => ?_)
  · replace hm := ie hm c_16
    refine lv_iconst (v := (0 : Int32)) hx hb dX8_split_14 (by decide) ?_
    exact J15_1 (0 : Int32) _ _ _ hm hP hD hS (lv_sub hl [0, 1, 2, 3] rfl)
  · replace hm := it hm c_16
    refine lv_iconst (v := (1 : Int32)) hx hb dX8_split_10 (by decide) ?_
    refine lv_goto (tgt := 15) hx hb dX8_split_11 (by decide) ?_
    exact J15_1 (1 : Int32) _ _ _ hm hP hD hS (lv_sub hl [0, 1, 2, 3] rfl)
def m_X8_merge_J41 (g_o_now : Nat → Int32) (gW : Nat → Nat → Int32) (v_o_kept : Int32) (v_o_reason : Int32) (p1 : Int32) (p2 : Int32) : (Int32) → Option (Int32 × Int32 × Int32 × Int32 × (Nat → Int32) × (Nat → Nat → Int32)) := fun y_6 => Option.bind (m_X8_fails (2 : Int32) y_6) (fun q => match q with
  | (r_7, v_8) => (if r_7 = 0 then Option.bind (m_X8_whyNoMerge p1 p2 g_o_now) (fun r_10 => Option.bind (m_X8_isRefused r_10 v_o_reason) (fun q => match q with
  | (r_11, v_12) => Option.bind (m_X8_fails (3 : Int32) r_11) (fun q => match q with
  | (r_13, v_14) => (if r_13 = 0 then Option.bind (m_X8_remember v_o_kept g_o_now gW) (fun q => match q with
  | (v_16, h_17) => Option.bind (m_X8_doMerge p1 p2 g_o_now) (fun q => match q with
  | (r_18, g_19) => some (r_18, v_14, v_16, v_12, g_19, h_17))) else some ((0 : Int32), v_14, v_o_kept, v_12, g_o_now, gW))))) else some ((0 : Int32), v_8, v_o_kept, v_o_reason, g_o_now, gW)))
def m_X8_merge_J23 (g_o_now : Nat → Int32) (gW : Nat → Nat → Int32) (v_o_kept : Int32) (v_o_reason : Int32) (p1 : Int32) (p2 : Int32) : (Int32) → Option (Int32 × Int32 × Int32 × Int32 × (Nat → Int32) × (Nat → Nat → Int32)) := fun y_2 => Option.bind (m_X8_fails (1 : Int32) y_2) (fun q => match q with
  | (r_3, v_4) => (if r_3 = 0 then (if p1 = p2 then m_X8_merge_J41 g_o_now gW v_o_kept v_o_reason p1 p2 (1 : Int32) else m_X8_merge_J41 g_o_now gW v_o_kept v_o_reason p1 p2 (0 : Int32)) else some ((0 : Int32), v_4, v_o_kept, v_o_reason, g_o_now, gW)))
def m_X8_merge (p1 : Int32) (p2 : Int32) (v_o_kept : Int32) (v_o_reason : Int32) (g_o_now : Nat → Int32) (gW : Nat → Nat → Int32) : Option (Int32 × Int32 × Int32 × Int32 × (Nat → Int32) × (Nat → Nat → Int32)) := Option.bind (m_X8_isParcel p1 g_o_now) (fun r_1 => (if r_1 = 0 then m_X8_merge_J23 g_o_now gW v_o_kept v_o_reason p1 p2 (1 : Int32) else Option.bind (m_X8_isParcel p2 g_o_now) (fun r_22 => (if r_22 = 0 then m_X8_merge_J23 g_o_now gW v_o_kept v_o_reason p1 p2 (1 : Int32) else m_X8_merge_J23 g_o_now gW v_o_kept v_o_reason p1 p2 (0 : Int32)))))
abbrev e_X8_merge (cA : Nat → ClassId) (o o_now o_saved o_aside o_history o_chains o_buffer o_numbers : Nat) (v_o_thrown : Int32) (v_o_kept : Int32) (v_o_reason : Int32) (v_o_errorPosition : Int32) (v_o_isSaved : Int32) (v_o_length : Int32) (v_o_at : Int32) (v_o_isWrong : Int32) (g_o_now : Nat → Int32) (gA : Nat → Nat) : va_W := [(o, .inr (10, [.int v_o_thrown, .ref o_now, .ref o_saved, .ref o_aside, .ref o_history, .int v_o_kept, .int v_o_reason, .int v_o_errorPosition, .int v_o_isSaved, .ref o_chains, .ref o_buffer, .int v_o_length, .int v_o_at, .int v_o_isWrong, .ref o_numbers])), (o_now, .inl (cA 0, 621, .inl g_o_now)), (o_history, .inl (cA 3, 6, .inr (.inr (.inr (.inr (fun j => some (gA j)))))))]
abbrev k_X8_merge (cA : Nat → ClassId) (o o_now o_saved o_aside o_history o_chains o_buffer o_numbers : Nat) (v_o_thrown : Int32) (v_o_kept : Int32) (v_o_reason : Int32) (v_o_errorPosition : Int32) (v_o_isSaved : Int32) (v_o_length : Int32) (v_o_at : Int32) (v_o_isWrong : Int32) (g_o_now : Nat → Int32) (gA : Nat → Nat) (gW : Nat → Nat → Int32) : va_W := e_X8_merge cA o o_now o_saved o_aside o_history o_chains o_buffer o_numbers v_o_thrown v_o_kept v_o_reason v_o_errorPosition v_o_isSaved v_o_length v_o_at v_o_isWrong g_o_now gA ++ gblk cA gA gW
set_option maxHeartbeats 4000000 in
set_option maxRecDepth 100000 in
/-- X8_merge: as its model -/
theorem c_X8_merge (l : Launch) (G : va_G) (cA : Nat → ClassId) (o o_now o_saved o_aside o_history o_chains o_buffer o_numbers : Nat) (sz : Nat) (p1 : Int32) (p2 : Int32) (v_o_thrown : Int32) (v_o_kept : Int32) (v_o_reason : Int32) (v_o_errorPosition : Int32) (v_o_isSaved : Int32) (v_o_length : Int32) (v_o_at : Int32) (v_o_isWrong : Int32) (g_o_now : Nat → Int32) (gA : Nat → Nat) (gW : Nat → Nat → Int32) (R : Option (Int32 × Int32 × Int32 × Int32 × (Nat → Int32) × (Nat → Nat → Int32))) (hR : m_X8_merge p1 p2 v_o_kept v_o_reason g_o_now gW = R) (hz : R ≠ none) : Met l yX8_merge wsX8_merge ({ frames := 4, cells := 0, slots := 0, locals := 96 } : Room) (va_Pc [.ref o, .int p1, .int p2] (PM G cA (k_X8_merge cA o o_now o_saved o_aside o_history o_chains o_buffer o_numbers v_o_thrown v_o_kept v_o_reason v_o_errorPosition v_o_isSaved v_o_length v_o_at v_o_isWrong g_o_now gA gW) sz)) (va_Qi (fun (r : Int32) (u : Int32 × Int32 × Int32 × (Nat → Int32) × (Nat → Nat → Int32)) => R = some (r, u)) (BM G (fun (u : Int32 × Int32 × Int32 × (Nat → Int32) × (Nat → Nat → Int32)) => (k_X8_merge cA o o_now o_saved o_aside o_history o_chains o_buffer o_numbers u.1 u.2.1 u.2.2.1 v_o_errorPosition v_o_isSaved v_o_length v_o_at v_o_isWrong u.2.2.2.1 gA u.2.2.2.2))) (va_A (k_X8_merge cA o o_now o_saved o_aside o_history o_chains o_buffer o_numbers v_o_thrown v_o_kept v_o_reason v_o_errorPosition v_o_isSaved v_o_length v_o_at v_o_isWrong g_o_now gA gW) sz)) 0 0 (va_A (k_X8_merge cA o o_now o_saved o_aside o_history o_chains o_buffer o_numbers v_o_thrown v_o_kept v_o_reason v_o_errorPosition v_o_isSaved v_o_length v_o_at v_o_isWrong g_o_now gA gW) sz) := by
  refine metM .int (by decide) rfl (Nat.le_of_ble_eq_true rfl) ?_
  intro p e s m av below meth c Q ls A H hx hb hml hts hown hP hK hD hA hS hl hret
  replace hl : lv_has ls 3 [(0, .ref o), (1, .int p1), (2, .int p2)] := hl
  have w_0 := hts (.fieldLink RX8 9 "ParcelRegistryModel" "now" "[I") (by decide +kernel)
  have i_X8 : ∀ w ∈ wsX80, w ∈ wsX8_merge := by decide +kernel
  have hm := hR
  unfold m_X8_merge at hm
  refine lv_aload_n hx hb dX8_merge_0 rfl (lv_at hl 0 rfl) ?_
  refine lv_iconst (v := (1 : Int32)) hx hb dX8_merge_1 (by decide) ?_
  refine lv_aload_n hx hb dX8_merge_2 rfl (lv_at hl 0 rfl) ?_
  refine lv_iload_n hx hb dX8_merge_3 rfl (lv_at hl 1 rfl) ?_
  refine vp_callSi (va_Run.run (va_runV (As := [.int p1]) (rest := [.int (1 : Int32), .ref o]) ⟨hx, hb, hml, hown, hts⟩ (c_X8_isParcel l G cA o o_now o_saved o_aside o_history o_chains o_buffer o_numbers p1 v_o_thrown v_o_kept v_o_reason v_o_errorPosition v_o_isSaved v_o_length v_o_at v_o_isWrong g_o_now _ rfl (bnz hm hz)) (cwV 1 hts gX8_merge_X8_isParcel rfl rfl rfl (by decide +kernel) ⟨Nat.le_of_ble_eq_true rfl, Nat.le_of_ble_eq_true rfl⟩) (preRV (q := (RX8, TX8, 15)) (hP.sub [0, 1] rfl) hK 0 rfl rfl) rfl rfl hl.1 rfl (lv_room (Nat.le_of_ble_eq_true rfl)) dX8_merge_4 ⟨Nat.zero_le _, Nat.zero_le _⟩)) (fun r_1 hw => ?_)
  replace hm := bst hm hw.1
  have J23_2 : ∀ (y_2 : Int32), ∀ (H : Heap) (locs : List Loc) (ls : Array Slot), m_X8_merge_J23 g_o_now gW v_o_kept v_o_reason p1 p2 y_2 = R → va_P G vwCl (k_X8_merge cA o o_now o_saved o_aside o_history o_chains o_buffer o_numbers v_o_thrown v_o_kept v_o_reason v_o_errorPosition v_o_isSaved v_o_length v_o_at v_o_isWrong g_o_now gA gW) H → va_D A (k_X8_merge cA o o_now o_saved o_aside o_history o_chains o_buffer o_numbers v_o_thrown v_o_kept v_o_reason v_o_errorPosition v_o_isSaved v_o_length v_o_at v_o_isWrong g_o_now gA gW) → va_S A s.heap H locs → lv_has ls 3 [(0, .ref o), (1, .int p1), (2, .int p2)] → W p l e ({ frames := 4, cells := 0, slots := 0, locals := 96 } : Room) s m av below meth c H locs 0 0 Q (F0 m 23 ls [.int y_2, .int (1 : Int32), .ref o]) := by
    intro y_2 H locs ls hm hP hD hS hl
    unfold m_X8_merge_J23 at hm
    have hPc := hP.sub (ws' := (k_X8_fails cA o o_now o_saved o_aside o_history o_chains o_buffer o_numbers v_o_thrown v_o_kept v_o_reason v_o_errorPosition v_o_isSaved v_o_length v_o_at v_o_isWrong)) [0] rfl
    have hDc := hD.sub (ws' := (k_X8_fails cA o o_now o_saved o_aside o_history o_chains o_buffer o_numbers v_o_thrown v_o_kept v_o_reason v_o_errorPosition v_o_isSaved v_o_length v_o_at v_o_isWrong)) [0] (by decide) rfl
    have hFc := va_free (wc := (k_X8_fails cA o o_now o_saved o_aside o_history o_chains o_buffer o_numbers v_o_thrown v_o_kept v_o_reason v_o_errorPosition v_o_isSaved v_o_length v_o_at v_o_isWrong)) hD hS hA [0] rfl
    refine va_calli (va_runV (As := [.int (1 : Int32), .int y_2]) (rest := []) ⟨hx, hb, hml, hown, hts⟩ (c_X8_fails l G cA o o_now o_saved o_aside o_history o_chains o_buffer o_numbers H.size (1 : Int32) y_2 v_o_thrown v_o_kept v_o_reason v_o_errorPosition v_o_isSaved v_o_length v_o_at v_o_isWrong _ rfl (bnz hm hz)) (cwV 2 hts gX8_merge_X8_fails rfl rfl rfl (by decide +kernel) ⟨Nat.le_of_ble_eq_true rfl, Nat.le_of_ble_eq_true rfl⟩) (preMV (q := (RX8, TX8, 15)) hPc hDc hK 0 rfl rfl) rfl rfl hl.1 rfl (lv_room (Nat.le_of_ble_eq_true rfl)) dX8_merge_23 ⟨Nat.zero_le _, Nat.zero_le _⟩) hS (fun q _ h => hFc q h) hFc (fun r_3 u_4 t H locs ht hvm hw hB hz1 hk1 hS' => ?_)
    obtain ⟨v_4, rfl⟩ : ∃ z, z = u_4 := ⟨_, rfl⟩
    replace hm := bst hm hw.1
    replace hB : va_P G vwCl _ _ := hB
    rw [ht] at hB
    have hj := va_backB (E := (e_X8_merge cA o o_now o_saved o_aside o_history o_chains o_buffer o_numbers v_o_thrown v_o_kept v_o_reason v_o_errorPosition v_o_isSaved v_o_length v_o_at v_o_isWrong g_o_now gA)) (E' := (e_X8_merge cA o o_now o_saved o_aside o_history o_chains o_buffer o_numbers v_4 v_o_kept v_o_reason v_o_errorPosition v_o_isSaved v_o_length v_o_at v_o_isWrong g_o_now gA)) (B := (gblk cA gA gW)) hP hD [0] rfl hk1 hB [(true, 0), (false, 1), (false, 2)] rfl (by decide) rfl
    replace hP : va_P G vwCl (k_X8_merge cA o o_now o_saved o_aside o_history o_chains o_buffer o_numbers v_4 v_o_kept v_o_reason v_o_errorPosition v_o_isSaved v_o_length v_o_at v_o_isWrong g_o_now gA gW) H := hj.1
    replace hD : va_D A (k_X8_merge cA o o_now o_saved o_aside o_history o_chains o_buffer o_numbers v_4 v_o_kept v_o_reason v_o_errorPosition v_o_isSaved v_o_length v_o_at v_o_isWrong g_o_now gA gW) := hj.2
    replace hS := hS'
    clear hj hPc hDc hFc hB
    refine lv_if_ne (tgt := 65) hx hb dX8_merge_26 (by decide) (fun c_5 => ?_) (fun c_5 => ?_)
    · replace hm := ie hm c_5
      refine lv_iconst (v := (0 : Int32)) hx hb dX8_merge_65 (by decide) ?_
      exact hret _ _ _ (v_4, v_o_kept, v_o_reason, g_o_now, gW) _ _ dX8_merge_66 rfl hP hS hm.symm
    · replace hm := it hm c_5
      refine lv_aload_n hx hb dX8_merge_29 rfl (lv_at hl 0 rfl) ?_
      refine lv_iconst (v := (2 : Int32)) hx hb dX8_merge_30 (by decide) ?_
      refine lv_iload_n hx hb dX8_merge_31 rfl (lv_at hl 1 rfl) ?_
      refine lv_iload_n hx hb dX8_merge_32 rfl (lv_at hl 2 rfl) ?_
      have J41_1 : ∀ (y_6 : Int32), ∀ (H : Heap) (locs : List Loc) (ls : Array Slot), m_X8_merge_J41 g_o_now gW v_o_kept v_o_reason p1 p2 y_6 = R → va_P G vwCl (k_X8_merge cA o o_now o_saved o_aside o_history o_chains o_buffer o_numbers v_4 v_o_kept v_o_reason v_o_errorPosition v_o_isSaved v_o_length v_o_at v_o_isWrong g_o_now gA gW) H → va_D A (k_X8_merge cA o o_now o_saved o_aside o_history o_chains o_buffer o_numbers v_4 v_o_kept v_o_reason v_o_errorPosition v_o_isSaved v_o_length v_o_at v_o_isWrong g_o_now gA gW) → va_S A s.heap H locs → lv_has ls 3 [(0, .ref o), (1, .int p1), (2, .int p2)] → W p l e ({ frames := 4, cells := 0, slots := 0, locals := 96 } : Room) s m av below meth c H locs 0 0 Q (F0 m 41 ls [.int y_6, .int (2 : Int32), .ref o]) := by
        intro y_6 H locs ls hm hP hD hS hl
        unfold m_X8_merge_J41 at hm
        have hPc := hP.sub (ws' := (k_X8_fails cA o o_now o_saved o_aside o_history o_chains o_buffer o_numbers v_4 v_o_kept v_o_reason v_o_errorPosition v_o_isSaved v_o_length v_o_at v_o_isWrong)) [0] rfl
        have hDc := hD.sub (ws' := (k_X8_fails cA o o_now o_saved o_aside o_history o_chains o_buffer o_numbers v_4 v_o_kept v_o_reason v_o_errorPosition v_o_isSaved v_o_length v_o_at v_o_isWrong)) [0] (by decide) rfl
        have hFc := va_free (wc := (k_X8_fails cA o o_now o_saved o_aside o_history o_chains o_buffer o_numbers v_4 v_o_kept v_o_reason v_o_errorPosition v_o_isSaved v_o_length v_o_at v_o_isWrong)) hD hS hA [0] rfl
        refine va_calli (va_runV (As := [.int (2 : Int32), .int y_6]) (rest := []) ⟨hx, hb, hml, hown, hts⟩ (c_X8_fails l G cA o o_now o_saved o_aside o_history o_chains o_buffer o_numbers H.size (2 : Int32) y_6 v_4 v_o_kept v_o_reason v_o_errorPosition v_o_isSaved v_o_length v_o_at v_o_isWrong _ rfl (bnz hm hz)) (cwV 2 hts gX8_merge_X8_fails rfl rfl rfl (by decide +kernel) ⟨Nat.le_of_ble_eq_true rfl, Nat.le_of_ble_eq_true rfl⟩) (preMV (q := (RX8, TX8, 15)) hPc hDc hK 0 rfl rfl) rfl rfl hl.1 rfl (lv_room (Nat.le_of_ble_eq_true rfl)) dX8_merge_41 ⟨Nat.zero_le _, Nat.zero_le _⟩) hS (fun q _ h => hFc q h) hFc (fun r_7 u_8 t H locs ht hvm hw hB hz1 hk1 hS' => ?_)
        obtain ⟨v_8, rfl⟩ : ∃ z, z = u_8 := ⟨_, rfl⟩
        replace hm := bst hm hw.1
        replace hB : va_P G vwCl _ _ := hB
        rw [ht] at hB
        have hj := va_backB (E := (e_X8_merge cA o o_now o_saved o_aside o_history o_chains o_buffer o_numbers v_4 v_o_kept v_o_reason v_o_errorPosition v_o_isSaved v_o_length v_o_at v_o_isWrong g_o_now gA)) (E' := (e_X8_merge cA o o_now o_saved o_aside o_history o_chains o_buffer o_numbers v_8 v_o_kept v_o_reason v_o_errorPosition v_o_isSaved v_o_length v_o_at v_o_isWrong g_o_now gA)) (B := (gblk cA gA gW)) hP hD [0] rfl hk1 hB [(true, 0), (false, 1), (false, 2)] rfl (by decide) rfl
        replace hP : va_P G vwCl (k_X8_merge cA o o_now o_saved o_aside o_history o_chains o_buffer o_numbers v_8 v_o_kept v_o_reason v_o_errorPosition v_o_isSaved v_o_length v_o_at v_o_isWrong g_o_now gA gW) H := hj.1
        replace hD : va_D A (k_X8_merge cA o o_now o_saved o_aside o_history o_chains o_buffer o_numbers v_8 v_o_kept v_o_reason v_o_errorPosition v_o_isSaved v_o_length v_o_at v_o_isWrong g_o_now gA gW) := hj.2
        replace hS := hS'
        clear hj hPc hDc hFc hB
        refine lv_if_ne (tgt := 65) hx hb dX8_merge_44 (by decide) (fun c_9 => ?_) (fun c_9 => ?_)
        · replace hm := ie hm c_9
          refine lv_iconst (v := (0 : Int32)) hx hb dX8_merge_65 (by decide) ?_
          exact hret _ _ _ (v_8, v_o_kept, v_o_reason, g_o_now, gW) _ _ dX8_merge_66 rfl hP hS hm.symm
        · replace hm := it hm c_9
          refine lv_aload_n hx hb dX8_merge_47 rfl (lv_at hl 0 rfl) ?_
          refine lv_iconst (v := (3 : Int32)) hx hb dX8_merge_48 (by decide) ?_
          refine lv_aload_n hx hb dX8_merge_49 rfl (lv_at hl 0 rfl) ?_
          refine lv_aload_n hx hb dX8_merge_50 rfl (lv_at hl 0 rfl) ?_
          refine lv_iload_n hx hb dX8_merge_51 rfl (lv_at hl 1 rfl) ?_
          refine lv_iload_n hx hb dX8_merge_52 rfl (lv_at hl 2 rfl) ?_
          refine vp_callSi (va_Run.run (va_runV (As := [.int p1, .int p2]) (rest := [.ref o, .int (3 : Int32), .ref o]) ⟨hx, hb, hml, hown, hts⟩ (c_X8_whyNoMerge l G cA o o_now o_saved o_aside o_history o_chains o_buffer o_numbers p1 p2 v_8 v_o_kept v_o_reason v_o_errorPosition v_o_isSaved v_o_length v_o_at v_o_isWrong g_o_now _ rfl (bnz hm hz)) (cwV 2 hts gX8_merge_X8_whyNoMerge rfl rfl rfl (by decide +kernel) ⟨Nat.le_of_ble_eq_true rfl, Nat.le_of_ble_eq_true rfl⟩) (preRV (q := (RX8, TX8, 15)) (hP.sub [0, 1] rfl) hK 0 rfl rfl) rfl rfl hl.1 rfl (lv_room (Nat.le_of_ble_eq_true rfl)) dX8_merge_53 ⟨Nat.zero_le _, Nat.zero_le _⟩)) (fun r_10 hw => ?_)
          replace hm := bst hm hw
          have hPc := hP.sub (ws' := (k_X8_isRefused cA o o_now o_saved o_aside o_history o_chains o_buffer o_numbers v_8 v_o_kept v_o_reason v_o_errorPosition v_o_isSaved v_o_length v_o_at v_o_isWrong)) [0] rfl
          have hDc := hD.sub (ws' := (k_X8_isRefused cA o o_now o_saved o_aside o_history o_chains o_buffer o_numbers v_8 v_o_kept v_o_reason v_o_errorPosition v_o_isSaved v_o_length v_o_at v_o_isWrong)) [0] (by decide) rfl
          have hFc := va_free (wc := (k_X8_isRefused cA o o_now o_saved o_aside o_history o_chains o_buffer o_numbers v_8 v_o_kept v_o_reason v_o_errorPosition v_o_isSaved v_o_length v_o_at v_o_isWrong)) hD hS hA [0] rfl
          refine va_calli (va_runV (As := [.int r_10]) (rest := [.int (3 : Int32), .ref o]) ⟨hx, hb, hml, hown, hts⟩ (c_X8_isRefused l G cA o o_now o_saved o_aside o_history o_chains o_buffer o_numbers H.size r_10 v_8 v_o_kept v_o_reason v_o_errorPosition v_o_isSaved v_o_length v_o_at v_o_isWrong _ rfl (bnz hm hz)) (cwV 1 hts gX8_merge_X8_isRefused rfl rfl rfl (by decide +kernel) ⟨Nat.le_of_ble_eq_true rfl, Nat.le_of_ble_eq_true rfl⟩) (preMV (q := (RX8, TX8, 15)) hPc hDc hK 0 rfl rfl) rfl rfl hl.1 rfl (lv_room (Nat.le_of_ble_eq_true rfl)) dX8_merge_56 ⟨Nat.zero_le _, Nat.zero_le _⟩) hS (fun q _ h => hFc q h) hFc (fun r_11 u_12 t H locs ht hvm hw hB hz1 hk1 hS' => ?_)
          obtain ⟨v_12, rfl⟩ : ∃ z, z = u_12 := ⟨_, rfl⟩
          replace hm := bst hm hw.1
          replace hB : va_P G vwCl _ _ := hB
          rw [ht] at hB
          have hj := va_backB (E := (e_X8_merge cA o o_now o_saved o_aside o_history o_chains o_buffer o_numbers v_8 v_o_kept v_o_reason v_o_errorPosition v_o_isSaved v_o_length v_o_at v_o_isWrong g_o_now gA)) (E' := (e_X8_merge cA o o_now o_saved o_aside o_history o_chains o_buffer o_numbers v_8 v_o_kept v_12 v_o_errorPosition v_o_isSaved v_o_length v_o_at v_o_isWrong g_o_now gA)) (B := (gblk cA gA gW)) hP hD [0] rfl hk1 hB [(true, 0), (false, 1), (false, 2)] rfl (by decide) rfl
          replace hP : va_P G vwCl (k_X8_merge cA o o_now o_saved o_aside o_history o_chains o_buffer o_numbers v_8 v_o_kept v_12 v_o_errorPosition v_o_isSaved v_o_length v_o_at v_o_isWrong g_o_now gA gW) H := hj.1
          replace hD : va_D A (k_X8_merge cA o o_now o_saved o_aside o_history o_chains o_buffer o_numbers v_8 v_o_kept v_12 v_o_errorPosition v_o_isSaved v_o_length v_o_at v_o_isWrong g_o_now gA gW) := hj.2
          replace hS := hS'
          clear hj hPc hDc hFc hB
          have hPc := hP.sub (ws' := (k_X8_fails cA o o_now o_saved o_aside o_history o_chains o_buffer o_numbers v_8 v_o_kept v_12 v_o_errorPosition v_o_isSaved v_o_length v_o_at v_o_isWrong)) [0] rfl
          have hDc := hD.sub (ws' := (k_X8_fails cA o o_now o_saved o_aside o_history o_chains o_buffer o_numbers v_8 v_o_kept v_12 v_o_errorPosition v_o_isSaved v_o_length v_o_at v_o_isWrong)) [0] (by decide) rfl
          have hFc := va_free (wc := (k_X8_fails cA o o_now o_saved o_aside o_history o_chains o_buffer o_numbers v_8 v_o_kept v_12 v_o_errorPosition v_o_isSaved v_o_length v_o_at v_o_isWrong)) hD hS hA [0] rfl
          refine va_calli (va_runV (As := [.int (3 : Int32), .int r_11]) (rest := []) ⟨hx, hb, hml, hown, hts⟩ (c_X8_fails l G cA o o_now o_saved o_aside o_history o_chains o_buffer o_numbers H.size (3 : Int32) r_11 v_8 v_o_kept v_12 v_o_errorPosition v_o_isSaved v_o_length v_o_at v_o_isWrong _ rfl (bnz hm hz)) (cwV 2 hts gX8_merge_X8_fails rfl rfl rfl (by decide +kernel) ⟨Nat.le_of_ble_eq_true rfl, Nat.le_of_ble_eq_true rfl⟩) (preMV (q := (RX8, TX8, 15)) hPc hDc hK 0 rfl rfl) rfl rfl hl.1 rfl (lv_room (Nat.le_of_ble_eq_true rfl)) dX8_merge_59 ⟨Nat.zero_le _, Nat.zero_le _⟩) hS (fun q _ h => hFc q h) hFc (fun r_13 u_14 t H locs ht hvm hw hB hz1 hk1 hS' => ?_)
          obtain ⟨v_14, rfl⟩ : ∃ z, z = u_14 := ⟨_, rfl⟩
          replace hm := bst hm hw.1
          replace hB : va_P G vwCl _ _ := hB
          rw [ht] at hB
          have hj := va_backB (E := (e_X8_merge cA o o_now o_saved o_aside o_history o_chains o_buffer o_numbers v_8 v_o_kept v_12 v_o_errorPosition v_o_isSaved v_o_length v_o_at v_o_isWrong g_o_now gA)) (E' := (e_X8_merge cA o o_now o_saved o_aside o_history o_chains o_buffer o_numbers v_14 v_o_kept v_12 v_o_errorPosition v_o_isSaved v_o_length v_o_at v_o_isWrong g_o_now gA)) (B := (gblk cA gA gW)) hP hD [0] rfl hk1 hB [(true, 0), (false, 1), (false, 2)] rfl (by decide) rfl
          replace hP : va_P G vwCl (k_X8_merge cA o o_now o_saved o_aside o_history o_chains o_buffer o_numbers v_14 v_o_kept v_12 v_o_errorPosition v_o_isSaved v_o_length v_o_at v_o_isWrong g_o_now gA gW) H := hj.1
          replace hD : va_D A (k_X8_merge cA o o_now o_saved o_aside o_history o_chains o_buffer o_numbers v_14 v_o_kept v_12 v_o_errorPosition v_o_isSaved v_o_length v_o_at v_o_isWrong g_o_now gA gW) := hj.2
          replace hS := hS'
          clear hj hPc hDc hFc hB
          refine lv_if_eq (tgt := 67) hx hb dX8_merge_62 (by decide) (fun c_15 => ?_) (fun c_15 => ?_)
          · replace hm := it hm c_15
            refine lv_aload_n hx hb dX8_merge_67 rfl (lv_at hl 0 rfl) ?_
            refine lv_aload_n hx hb dX8_merge_68 rfl (lv_at hl 0 rfl) ?_
            refine va_get (D := G) (ci := 10) (v := .ref o_now) (C := RX8) (T := TX8) (N := 15) hx hb hts i_X8 hown hK.1 hP 0 rfl rfl 1 (by decide) w_0 (fun _ h9 => h9) rfl dX8_merge_69 ?_
            have hPc : va_P G vwCl (k_X8_remember cA o o_now o_saved o_aside o_history o_chains o_buffer o_numbers o_now v_14 v_o_kept v_12 v_o_errorPosition v_o_isSaved v_o_length v_o_at v_o_isWrong g_o_now gA gW) H := va_subC (E := (e_X8_merge cA o o_now o_saved o_aside o_history o_chains o_buffer o_numbers v_14 v_o_kept v_12 v_o_errorPosition v_o_isSaved v_o_length v_o_at v_o_isWrong g_o_now gA)) (Ec := (e_X8_remember cA o o_now o_saved o_aside o_history o_chains o_buffer o_numbers o_now v_14 v_o_kept v_12 v_o_errorPosition v_o_isSaved v_o_length v_o_at v_o_isWrong g_o_now gA)) (B := (gblk cA gA gW)) hP [0, 2, 1] rfl
            have hDc : va_D A (k_X8_remember cA o o_now o_saved o_aside o_history o_chains o_buffer o_numbers o_now v_14 v_o_kept v_12 v_o_errorPosition v_o_isSaved v_o_length v_o_at v_o_isWrong g_o_now gA gW) := va_subCD (E := (e_X8_merge cA o o_now o_saved o_aside o_history o_chains o_buffer o_numbers v_14 v_o_kept v_12 v_o_errorPosition v_o_isSaved v_o_length v_o_at v_o_isWrong g_o_now gA)) (Ec := (e_X8_remember cA o o_now o_saved o_aside o_history o_chains o_buffer o_numbers o_now v_14 v_o_kept v_12 v_o_errorPosition v_o_isSaved v_o_length v_o_at v_o_isWrong g_o_now gA)) (B := (gblk cA gA gW)) hD [0, 2, 1] (by decide) rfl
            have hFc : ∀ q, va_A (k_X8_remember cA o o_now o_saved o_aside o_history o_chains o_buffer o_numbers o_now v_14 v_o_kept v_12 v_o_errorPosition v_o_isSaved v_o_length v_o_at v_o_isWrong g_o_now gA gW) H.size q → A q := va_freeC (E := (e_X8_merge cA o o_now o_saved o_aside o_history o_chains o_buffer o_numbers v_14 v_o_kept v_12 v_o_errorPosition v_o_isSaved v_o_length v_o_at v_o_isWrong g_o_now gA)) (Ec := (e_X8_remember cA o o_now o_saved o_aside o_history o_chains o_buffer o_numbers o_now v_14 v_o_kept v_12 v_o_errorPosition v_o_isSaved v_o_length v_o_at v_o_isWrong g_o_now gA)) (B := (gblk cA gA gW)) hD hS hA [0, 2, 1] rfl
            refine va_callv (va_runV (As := [.ref o_now]) (rest := []) ⟨hx, hb, hml, hown, hts⟩ (c_X8_remember l G cA o o_now o_saved o_aside o_history o_chains o_buffer o_numbers o_now H.size v_14 v_o_kept v_12 v_o_errorPosition v_o_isSaved v_o_length v_o_at v_o_isWrong g_o_now gA gW _ rfl (bnz hm hz)) (cwV 1 hts gX8_merge_X8_remember rfl rfl rfl (by decide +kernel) ⟨Nat.le_of_ble_eq_true rfl, Nat.le_of_ble_eq_true rfl⟩) (preMV (q := (RX8, TX8, 15)) hPc hDc hK 0 rfl rfl) rfl rfl hl.1 rfl (lv_room (Nat.le_of_ble_eq_true rfl)) dX8_merge_72 ⟨Nat.zero_le _, Nat.zero_le _⟩) hS (fun q _ h => hFc q h) hFc (fun u_17 t H locs ht hvm hw hB hz1 hk1 hS' => ?_)
            obtain ⟨v_16, h_17⟩ := u_17
            replace hm := bst hm hw
            replace hB : va_P G vwCl _ _ := hB
            rw [ht] at hB
            have hj := va_backC (E := (e_X8_merge cA o o_now o_saved o_aside o_history o_chains o_buffer o_numbers v_14 v_o_kept v_12 v_o_errorPosition v_o_isSaved v_o_length v_o_at v_o_isWrong g_o_now gA)) (E' := (e_X8_merge cA o o_now o_saved o_aside o_history o_chains o_buffer o_numbers v_14 v_16 v_12 v_o_errorPosition v_o_isSaved v_o_length v_o_at v_o_isWrong g_o_now gA)) (Ec := (e_X8_remember cA o o_now o_saved o_aside o_history o_chains o_buffer o_numbers o_now v_14 v_o_kept v_12 v_o_errorPosition v_o_isSaved v_o_length v_o_at v_o_isWrong g_o_now gA)) (Ec1 := (e_X8_remember cA o o_now o_saved o_aside o_history o_chains o_buffer o_numbers o_now v_14 v_16 v_12 v_o_errorPosition v_o_isSaved v_o_length v_o_at v_o_isWrong g_o_now gA)) (B := (gblk cA gA gW)) (B1 := (gblk cA gA h_17)) hP hD [0, 2, 1] rfl hk1 hB (gblk_addr ..) [(true, 0), (true, 2), (true, 1)] rfl (by decide) rfl
            replace hP : va_P G vwCl (k_X8_merge cA o o_now o_saved o_aside o_history o_chains o_buffer o_numbers v_14 v_16 v_12 v_o_errorPosition v_o_isSaved v_o_length v_o_at v_o_isWrong g_o_now gA h_17) H := hj.1
            replace hD : va_D A (k_X8_merge cA o o_now o_saved o_aside o_history o_chains o_buffer o_numbers v_14 v_16 v_12 v_o_errorPosition v_o_isSaved v_o_length v_o_at v_o_isWrong g_o_now gA h_17) := hj.2
            replace hS := hS'
            clear hj hPc hDc hFc hB
            refine lv_aload_n hx hb dX8_merge_75 rfl (lv_at hl 0 rfl) ?_
            refine lv_iload_n hx hb dX8_merge_76 rfl (lv_at hl 1 rfl) ?_
            refine lv_iload_n hx hb dX8_merge_77 rfl (lv_at hl 2 rfl) ?_
            have hPc := hP.sub (ws' := (k_X8_doMerge cA o o_now o_saved o_aside o_history o_chains o_buffer o_numbers v_14 v_16 v_12 v_o_errorPosition v_o_isSaved v_o_length v_o_at v_o_isWrong g_o_now)) [0, 1] rfl
            have hDc := hD.sub (ws' := (k_X8_doMerge cA o o_now o_saved o_aside o_history o_chains o_buffer o_numbers v_14 v_16 v_12 v_o_errorPosition v_o_isSaved v_o_length v_o_at v_o_isWrong g_o_now)) [0, 1] (by decide) rfl
            have hFc := va_free (wc := (k_X8_doMerge cA o o_now o_saved o_aside o_history o_chains o_buffer o_numbers v_14 v_16 v_12 v_o_errorPosition v_o_isSaved v_o_length v_o_at v_o_isWrong g_o_now)) hD hS hA [0, 1] rfl
            refine va_calli (va_runV (As := [.int p1, .int p2]) (rest := []) ⟨hx, hb, hml, hown, hts⟩ (c_X8_doMerge l G cA o o_now o_saved o_aside o_history o_chains o_buffer o_numbers H.size p1 p2 v_14 v_16 v_12 v_o_errorPosition v_o_isSaved v_o_length v_o_at v_o_isWrong g_o_now _ rfl (bnz hm hz)) (cwV 2 hts gX8_merge_X8_doMerge rfl rfl rfl (by decide +kernel) ⟨Nat.le_of_ble_eq_true rfl, Nat.le_of_ble_eq_true rfl⟩) (preMV (q := (RX8, TX8, 15)) hPc hDc hK 0 rfl rfl) rfl rfl hl.1 rfl (lv_room (Nat.le_of_ble_eq_true rfl)) dX8_merge_78 ⟨Nat.zero_le _, Nat.zero_le _⟩) hS (fun q _ h => hFc q h) hFc (fun r_18 u_19 t H locs ht hvm hw hB hz1 hk1 hS' => ?_)
            obtain ⟨g_19, rfl⟩ : ∃ z, z = u_19 := ⟨_, rfl⟩
            replace hm := bst hm hw
            replace hB : va_P G vwCl _ _ := hB
            rw [ht] at hB
            have hj := va_backB (E := (e_X8_merge cA o o_now o_saved o_aside o_history o_chains o_buffer o_numbers v_14 v_16 v_12 v_o_errorPosition v_o_isSaved v_o_length v_o_at v_o_isWrong g_o_now gA)) (E' := (e_X8_merge cA o o_now o_saved o_aside o_history o_chains o_buffer o_numbers v_14 v_16 v_12 v_o_errorPosition v_o_isSaved v_o_length v_o_at v_o_isWrong g_19 gA)) (B := (gblk cA gA h_17)) hP hD [0, 1] rfl hk1 hB [(true, 0), (true, 1), (false, 2)] rfl (by decide) rfl
            replace hP : va_P G vwCl (k_X8_merge cA o o_now o_saved o_aside o_history o_chains o_buffer o_numbers v_14 v_16 v_12 v_o_errorPosition v_o_isSaved v_o_length v_o_at v_o_isWrong g_19 gA h_17) H := hj.1
            replace hD : va_D A (k_X8_merge cA o o_now o_saved o_aside o_history o_chains o_buffer o_numbers v_14 v_16 v_12 v_o_errorPosition v_o_isSaved v_o_length v_o_at v_o_isWrong g_19 gA h_17) := hj.2
            replace hS := hS'
            clear hj hPc hDc hFc hB
            exact hret _ _ _ (v_14, v_16, v_12, g_19, h_17) _ _ dX8_merge_81 rfl hP hS hm.symm
          · replace hm := ie hm c_15
            refine lv_iconst (v := (0 : Int32)) hx hb dX8_merge_65 (by decide) ?_
            exact hret _ _ _ (v_14, v_o_kept, v_12, g_o_now, gW) _ _ dX8_merge_66 rfl hP hS hm.symm
      refine lv_icmp_ne (tgt := 40) hx hb dX8_merge_33 (by decide) (fun c_20 => ?_) (fun c_20 => ?_)
      · replace hm := ie hm c_20
        refine lv_iconst (v := (0 : Int32)) hx hb dX8_merge_40 (by decide) ?_
        exact J41_1 (0 : Int32) _ _ _ hm hP hD hS (lv_sub hl [0, 1, 2] rfl)
      · replace hm := it hm c_20
        refine lv_iconst (v := (1 : Int32)) hx hb dX8_merge_36 (by decide) ?_
        refine lv_goto (tgt := 41) hx hb dX8_merge_37 (by decide) ?_
        exact J41_1 (1 : Int32) _ _ _ hm hP hD hS (lv_sub hl [0, 1, 2] rfl)
  refine lv_if_eq (tgt := 18) hx hb dX8_merge_7 (by decide) (fun c_21 => ?_) (fun c_21 => ?_)
  · replace hm := it hm c_21
    refine lv_iconst (v := (1 : Int32)) hx hb dX8_merge_18 (by decide) ?_
    refine lv_goto (tgt := 23) hx hb dX8_merge_19 (by decide) ?_
    exact J23_2 (1 : Int32) _ _ _ hm hP hD hS (lv_sub hl [0, 1, 2] rfl)
  · replace hm := ie hm c_21
    refine lv_aload_n hx hb dX8_merge_10 rfl (lv_at hl 0 rfl) ?_
    refine lv_iload_n hx hb dX8_merge_11 rfl (lv_at hl 2 rfl) ?_
    refine vp_callSi (va_Run.run (va_runV (As := [.int p2]) (rest := [.int (1 : Int32), .ref o]) ⟨hx, hb, hml, hown, hts⟩ (c_X8_isParcel l G cA o o_now o_saved o_aside o_history o_chains o_buffer o_numbers p2 v_o_thrown v_o_kept v_o_reason v_o_errorPosition v_o_isSaved v_o_length v_o_at v_o_isWrong g_o_now _ rfl (bnz hm hz)) (cwV 1 hts gX8_merge_X8_isParcel rfl rfl rfl (by decide +kernel) ⟨Nat.le_of_ble_eq_true rfl, Nat.le_of_ble_eq_true rfl⟩) (preRV (q := (RX8, TX8, 15)) (hP.sub [0, 1] rfl) hK 0 rfl rfl) rfl rfl hl.1 rfl (lv_room (Nat.le_of_ble_eq_true rfl)) dX8_merge_12 ⟨Nat.zero_le _, Nat.zero_le _⟩)) (fun r_22 hw => ?_)
    replace hm := bst hm hw.1
    refine lv_if_ne (tgt := 22) hx hb dX8_merge_15 (by decide) (fun c_23 => ?_) (fun c_23 => ?_)
    · replace hm := ie hm c_23
      refine lv_iconst (v := (0 : Int32)) hx hb dX8_merge_22 (by decide) ?_
      exact J23_2 (0 : Int32) _ _ _ hm hP hD hS (lv_sub hl [0, 1, 2] rfl)
    · replace hm := it hm c_23
      refine lv_iconst (v := (1 : Int32)) hx hb dX8_merge_18 (by decide) ?_
      refine lv_goto (tgt := 23) hx hb dX8_merge_19 (by decide) ?_
      exact J23_2 (1 : Int32) _ _ _ hm hP hD hS (lv_sub hl [0, 1, 2] rfl)
def m_X8_deed_J62 (g_o_now : Nat → Int32) (gW : Nat → Nat → Int32) (v_o_kept : Int32) (p1 : Int32) (p2 : Int32) (p3 : Int32) (p4 : Int32) : (Int32) → Option (Int32 × Int32 × Int32 × (Nat → Int32) × (Nat → Nat → Int32)) := fun y_7 => Option.bind (m_X8_fails (2 : Int32) y_7) (fun q => match q with
  | (r_8, v_9) => (if r_8 = 0 then Option.bind (m_X8_takesNoDeed p1 g_o_now) (fun r_11 => Option.bind (m_X8_fails (3 : Int32) r_11) (fun q => match q with
  | (r_12, v_13) => (if r_12 = 0 then Option.bind (m_X8_remember v_o_kept g_o_now gW) (fun q => match q with
  | (v_15, h_16) => Option.bind (m_X8_doDeed p1 p2 p3 p4 g_o_now) (fun q => match q with
  | (r_17, g_18) => (if r_17 = 0 then some ((0 : Int32), v_13, v_15, g_18, h_16) else some ((1 : Int32), v_13, v_15, g_18, h_16)))) else some ((0 : Int32), v_13, v_o_kept, g_o_now, gW)))) else some ((0 : Int32), v_9, v_o_kept, g_o_now, gW)))
def m_X8_deed_J15 (g_o_now : Nat → Int32) (gW : Nat → Nat → Int32) (v_o_kept : Int32) (p1 : Int32) (p2 : Int32) (p3 : Int32) (p4 : Int32) : (Int32) → Option (Int32 × Int32 × Int32 × (Nat → Int32) × (Nat → Nat → Int32)) := fun y_2 => Option.bind (m_X8_fails (1 : Int32) y_2) (fun q => match q with
  | (r_3, v_4) => (if r_3 = 0 then Option.bind (m_X8_isPerson p2) (fun r_6 => (if r_6 = 0 then m_X8_deed_J62 g_o_now gW v_o_kept p1 p2 p3 p4 (1 : Int32) else Option.bind (m_X8_isPerson p3) (fun r_21 => (if r_21 = 0 then m_X8_deed_J62 g_o_now gW v_o_kept p1 p2 p3 p4 (1 : Int32) else Option.bind (m_X8_of p1 (1 : Int32) g_o_now) (fun r_23 => gd (ix (0 : Int32) 621) (Option.bind (m_X8_isBetween p4 r_23 (g_o_now (0 : Int32).toNatClampNeg)) (fun r_25 => (if r_25 = 0 then m_X8_deed_J62 g_o_now gW v_o_kept p1 p2 p3 p4 (1 : Int32) else m_X8_deed_J62 g_o_now gW v_o_kept p1 p2 p3 p4 (0 : Int32))))))))) else some ((0 : Int32), v_4, v_o_kept, g_o_now, gW)))
def m_X8_deed (p1 : Int32) (p2 : Int32) (p3 : Int32) (p4 : Int32) (v_o_kept : Int32) (g_o_now : Nat → Int32) (gW : Nat → Nat → Int32) : Option (Int32 × Int32 × Int32 × (Nat → Int32) × (Nat → Nat → Int32)) := Option.bind (m_X8_isParcel p1 g_o_now) (fun r_1 => (if r_1 = 0 then m_X8_deed_J15 g_o_now gW v_o_kept p1 p2 p3 p4 (1 : Int32) else m_X8_deed_J15 g_o_now gW v_o_kept p1 p2 p3 p4 (0 : Int32)))
abbrev e_X8_deed (cA : Nat → ClassId) (o o_now o_saved o_aside o_history o_chains o_buffer o_numbers : Nat) (v_o_thrown : Int32) (v_o_kept : Int32) (v_o_reason : Int32) (v_o_errorPosition : Int32) (v_o_isSaved : Int32) (v_o_length : Int32) (v_o_at : Int32) (v_o_isWrong : Int32) (g_o_now : Nat → Int32) (gA : Nat → Nat) : va_W := [(o, .inr (10, [.int v_o_thrown, .ref o_now, .ref o_saved, .ref o_aside, .ref o_history, .int v_o_kept, .int v_o_reason, .int v_o_errorPosition, .int v_o_isSaved, .ref o_chains, .ref o_buffer, .int v_o_length, .int v_o_at, .int v_o_isWrong, .ref o_numbers])), (o_now, .inl (cA 0, 621, .inl g_o_now)), (o_history, .inl (cA 3, 6, .inr (.inr (.inr (.inr (fun j => some (gA j)))))))]
abbrev k_X8_deed (cA : Nat → ClassId) (o o_now o_saved o_aside o_history o_chains o_buffer o_numbers : Nat) (v_o_thrown : Int32) (v_o_kept : Int32) (v_o_reason : Int32) (v_o_errorPosition : Int32) (v_o_isSaved : Int32) (v_o_length : Int32) (v_o_at : Int32) (v_o_isWrong : Int32) (g_o_now : Nat → Int32) (gA : Nat → Nat) (gW : Nat → Nat → Int32) : va_W := e_X8_deed cA o o_now o_saved o_aside o_history o_chains o_buffer o_numbers v_o_thrown v_o_kept v_o_reason v_o_errorPosition v_o_isSaved v_o_length v_o_at v_o_isWrong g_o_now gA ++ gblk cA gA gW
set_option maxHeartbeats 4000000 in
set_option maxRecDepth 100000 in
/-- X8_deed: as its model -/
theorem c_X8_deed (l : Launch) (G : va_G) (cA : Nat → ClassId) (o o_now o_saved o_aside o_history o_chains o_buffer o_numbers : Nat) (sz : Nat) (p1 : Int32) (p2 : Int32) (p3 : Int32) (p4 : Int32) (v_o_thrown : Int32) (v_o_kept : Int32) (v_o_reason : Int32) (v_o_errorPosition : Int32) (v_o_isSaved : Int32) (v_o_length : Int32) (v_o_at : Int32) (v_o_isWrong : Int32) (g_o_now : Nat → Int32) (gA : Nat → Nat) (gW : Nat → Nat → Int32) (R : Option (Int32 × Int32 × Int32 × (Nat → Int32) × (Nat → Nat → Int32))) (hR : m_X8_deed p1 p2 p3 p4 v_o_kept g_o_now gW = R) (hz : R ≠ none) : Met l yX8_deed wsX8_deed ({ frames := 4, cells := 0, slots := 0, locals := 95 } : Room) (va_Pc [.ref o, .int p1, .int p2, .int p3, .int p4] (PM G cA (k_X8_deed cA o o_now o_saved o_aside o_history o_chains o_buffer o_numbers v_o_thrown v_o_kept v_o_reason v_o_errorPosition v_o_isSaved v_o_length v_o_at v_o_isWrong g_o_now gA gW) sz)) (va_Qi (fun (r : Int32) (u : Int32 × Int32 × (Nat → Int32) × (Nat → Nat → Int32)) => R = some (r, u)) (BM G (fun (u : Int32 × Int32 × (Nat → Int32) × (Nat → Nat → Int32)) => (k_X8_deed cA o o_now o_saved o_aside o_history o_chains o_buffer o_numbers u.1 u.2.1 v_o_reason v_o_errorPosition v_o_isSaved v_o_length v_o_at v_o_isWrong u.2.2.1 gA u.2.2.2))) (va_A (k_X8_deed cA o o_now o_saved o_aside o_history o_chains o_buffer o_numbers v_o_thrown v_o_kept v_o_reason v_o_errorPosition v_o_isSaved v_o_length v_o_at v_o_isWrong g_o_now gA gW) sz)) 0 0 (va_A (k_X8_deed cA o o_now o_saved o_aside o_history o_chains o_buffer o_numbers v_o_thrown v_o_kept v_o_reason v_o_errorPosition v_o_isSaved v_o_length v_o_at v_o_isWrong g_o_now gA gW) sz) := by
  refine metM .int (by decide) rfl (Nat.le_of_ble_eq_true rfl) ?_
  intro p e s m av below meth c Q ls A H hx hb hml hts hown hP hK hD hA hS hl hret
  replace hl : lv_has ls 5 [(0, .ref o), (1, .int p1), (2, .int p2), (3, .int p3), (4, .int p4)] := hl
  have w_0 := hts (.fieldLink RX8 9 "ParcelRegistryModel" "now" "[I") (by decide +kernel)
  have i_X8 : ∀ w ∈ wsX80, w ∈ wsX8_deed := by decide +kernel
  have hm := hR
  unfold m_X8_deed at hm
  refine lv_aload_n hx hb dX8_deed_0 rfl (lv_at hl 0 rfl) ?_
  refine lv_iconst (v := (1 : Int32)) hx hb dX8_deed_1 (by decide) ?_
  refine lv_aload_n hx hb dX8_deed_2 rfl (lv_at hl 0 rfl) ?_
  refine lv_iload_n hx hb dX8_deed_3 rfl (lv_at hl 1 rfl) ?_
  refine vp_callSi (va_Run.run (va_runV (As := [.int p1]) (rest := [.int (1 : Int32), .ref o]) ⟨hx, hb, hml, hown, hts⟩ (c_X8_isParcel l G cA o o_now o_saved o_aside o_history o_chains o_buffer o_numbers p1 v_o_thrown v_o_kept v_o_reason v_o_errorPosition v_o_isSaved v_o_length v_o_at v_o_isWrong g_o_now _ rfl (bnz hm hz)) (cwV 1 hts gX8_deed_X8_isParcel rfl rfl rfl (by decide +kernel) ⟨Nat.le_of_ble_eq_true rfl, Nat.le_of_ble_eq_true rfl⟩) (preRV (q := (RX8, TX8, 15)) (hP.sub [0, 1] rfl) hK 0 rfl rfl) rfl rfl hl.1 rfl (lv_room (Nat.le_of_ble_eq_true rfl)) dX8_deed_4 ⟨Nat.zero_le _, Nat.zero_le _⟩)) (fun r_1 hw => ?_)
  replace hm := bst hm hw.1
  have J15_2 : ∀ (y_2 : Int32), ∀ (H : Heap) (locs : List Loc) (ls : Array Slot), m_X8_deed_J15 g_o_now gW v_o_kept p1 p2 p3 p4 y_2 = R → va_P G vwCl (k_X8_deed cA o o_now o_saved o_aside o_history o_chains o_buffer o_numbers v_o_thrown v_o_kept v_o_reason v_o_errorPosition v_o_isSaved v_o_length v_o_at v_o_isWrong g_o_now gA gW) H → va_D A (k_X8_deed cA o o_now o_saved o_aside o_history o_chains o_buffer o_numbers v_o_thrown v_o_kept v_o_reason v_o_errorPosition v_o_isSaved v_o_length v_o_at v_o_isWrong g_o_now gA gW) → va_S A s.heap H locs → lv_has ls 5 [(0, .ref o), (1, .int p1), (2, .int p2), (3, .int p3), (4, .int p4)] → W p l e ({ frames := 4, cells := 0, slots := 0, locals := 95 } : Room) s m av below meth c H locs 0 0 Q (F0 m 15 ls [.int y_2, .int (1 : Int32), .ref o]) := by
    intro y_2 H locs ls hm hP hD hS hl
    unfold m_X8_deed_J15 at hm
    have hPc := hP.sub (ws' := (k_X8_fails cA o o_now o_saved o_aside o_history o_chains o_buffer o_numbers v_o_thrown v_o_kept v_o_reason v_o_errorPosition v_o_isSaved v_o_length v_o_at v_o_isWrong)) [0] rfl
    have hDc := hD.sub (ws' := (k_X8_fails cA o o_now o_saved o_aside o_history o_chains o_buffer o_numbers v_o_thrown v_o_kept v_o_reason v_o_errorPosition v_o_isSaved v_o_length v_o_at v_o_isWrong)) [0] (by decide) rfl
    have hFc := va_free (wc := (k_X8_fails cA o o_now o_saved o_aside o_history o_chains o_buffer o_numbers v_o_thrown v_o_kept v_o_reason v_o_errorPosition v_o_isSaved v_o_length v_o_at v_o_isWrong)) hD hS hA [0] rfl
    refine va_calli (va_runV (As := [.int (1 : Int32), .int y_2]) (rest := []) ⟨hx, hb, hml, hown, hts⟩ (c_X8_fails l G cA o o_now o_saved o_aside o_history o_chains o_buffer o_numbers H.size (1 : Int32) y_2 v_o_thrown v_o_kept v_o_reason v_o_errorPosition v_o_isSaved v_o_length v_o_at v_o_isWrong _ rfl (bnz hm hz)) (cwV 2 hts gX8_deed_X8_fails rfl rfl rfl (by decide +kernel) ⟨Nat.le_of_ble_eq_true rfl, Nat.le_of_ble_eq_true rfl⟩) (preMV (q := (RX8, TX8, 15)) hPc hDc hK 0 rfl rfl) rfl rfl hl.1 rfl (lv_room (Nat.le_of_ble_eq_true rfl)) dX8_deed_15 ⟨Nat.zero_le _, Nat.zero_le _⟩) hS (fun q _ h => hFc q h) hFc (fun r_3 u_4 t H locs ht hvm hw hB hz1 hk1 hS' => ?_)
    obtain ⟨v_4, rfl⟩ : ∃ z, z = u_4 := ⟨_, rfl⟩
    replace hm := bst hm hw.1
    replace hB : va_P G vwCl _ _ := hB
    rw [ht] at hB
    have hj := va_backB (E := (e_X8_deed cA o o_now o_saved o_aside o_history o_chains o_buffer o_numbers v_o_thrown v_o_kept v_o_reason v_o_errorPosition v_o_isSaved v_o_length v_o_at v_o_isWrong g_o_now gA)) (E' := (e_X8_deed cA o o_now o_saved o_aside o_history o_chains o_buffer o_numbers v_4 v_o_kept v_o_reason v_o_errorPosition v_o_isSaved v_o_length v_o_at v_o_isWrong g_o_now gA)) (B := (gblk cA gA gW)) hP hD [0] rfl hk1 hB [(true, 0), (false, 1), (false, 2)] rfl (by decide) rfl
    replace hP : va_P G vwCl (k_X8_deed cA o o_now o_saved o_aside o_history o_chains o_buffer o_numbers v_4 v_o_kept v_o_reason v_o_errorPosition v_o_isSaved v_o_length v_o_at v_o_isWrong g_o_now gA gW) H := hj.1
    replace hD : va_D A (k_X8_deed cA o o_now o_saved o_aside o_history o_chains o_buffer o_numbers v_4 v_o_kept v_o_reason v_o_errorPosition v_o_isSaved v_o_length v_o_at v_o_isWrong g_o_now gA gW) := hj.2
    replace hS := hS'
    clear hj hPc hDc hFc hB
    refine lv_if_ne (tgt := 81) hx hb dX8_deed_18 (by decide) (fun c_5 => ?_) (fun c_5 => ?_)
    · replace hm := ie hm c_5
      refine lv_iconst (v := (0 : Int32)) hx hb dX8_deed_81 (by decide) ?_
      exact hret _ _ _ (v_4, v_o_kept, g_o_now, gW) _ _ dX8_deed_82 rfl hP hS hm.symm
    · replace hm := it hm c_5
      refine lv_aload_n hx hb dX8_deed_21 rfl (lv_at hl 0 rfl) ?_
      refine lv_iconst (v := (2 : Int32)) hx hb dX8_deed_22 (by decide) ?_
      refine lv_iload_n hx hb dX8_deed_23 rfl (lv_at hl 2 rfl) ?_
      refine vp_callSi (va_Run.run (va_runS (As := [.int p2]) (rest := [.int (2 : Int32), .ref o]) ⟨hx, hb, hml, hown, hts⟩ (c_X8_isPerson l G cA p2 _ rfl (bnz hm hz)) (va_cwS 1 hts gX8_deed_X8_isPerson rfl rfl rfl (by decide +kernel) ⟨Nat.le_of_ble_eq_true rfl, Nat.le_of_ble_eq_true rfl⟩) (preRS (hP.sub [] rfl) hK) rfl rfl hl.1 rfl (lv_room (Nat.le_of_ble_eq_true rfl)) dX8_deed_24 ⟨Nat.zero_le _, Nat.zero_le _⟩)) (fun r_6 hw => ?_)
      replace hm := bst hm hw.1
      have J62_1 : ∀ (y_7 : Int32), ∀ (H : Heap) (locs : List Loc) (ls : Array Slot), m_X8_deed_J62 g_o_now gW v_o_kept p1 p2 p3 p4 y_7 = R → va_P G vwCl (k_X8_deed cA o o_now o_saved o_aside o_history o_chains o_buffer o_numbers v_4 v_o_kept v_o_reason v_o_errorPosition v_o_isSaved v_o_length v_o_at v_o_isWrong g_o_now gA gW) H → va_D A (k_X8_deed cA o o_now o_saved o_aside o_history o_chains o_buffer o_numbers v_4 v_o_kept v_o_reason v_o_errorPosition v_o_isSaved v_o_length v_o_at v_o_isWrong g_o_now gA gW) → va_S A s.heap H locs → lv_has ls 5 [(0, .ref o), (1, .int p1), (2, .int p2), (3, .int p3), (4, .int p4)] → W p l e ({ frames := 4, cells := 0, slots := 0, locals := 95 } : Room) s m av below meth c H locs 0 0 Q (F0 m 62 ls [.int y_7, .int (2 : Int32), .ref o]) := by
        intro y_7 H locs ls hm hP hD hS hl
        unfold m_X8_deed_J62 at hm
        have hPc := hP.sub (ws' := (k_X8_fails cA o o_now o_saved o_aside o_history o_chains o_buffer o_numbers v_4 v_o_kept v_o_reason v_o_errorPosition v_o_isSaved v_o_length v_o_at v_o_isWrong)) [0] rfl
        have hDc := hD.sub (ws' := (k_X8_fails cA o o_now o_saved o_aside o_history o_chains o_buffer o_numbers v_4 v_o_kept v_o_reason v_o_errorPosition v_o_isSaved v_o_length v_o_at v_o_isWrong)) [0] (by decide) rfl
        have hFc := va_free (wc := (k_X8_fails cA o o_now o_saved o_aside o_history o_chains o_buffer o_numbers v_4 v_o_kept v_o_reason v_o_errorPosition v_o_isSaved v_o_length v_o_at v_o_isWrong)) hD hS hA [0] rfl
        refine va_calli (va_runV (As := [.int (2 : Int32), .int y_7]) (rest := []) ⟨hx, hb, hml, hown, hts⟩ (c_X8_fails l G cA o o_now o_saved o_aside o_history o_chains o_buffer o_numbers H.size (2 : Int32) y_7 v_4 v_o_kept v_o_reason v_o_errorPosition v_o_isSaved v_o_length v_o_at v_o_isWrong _ rfl (bnz hm hz)) (cwV 2 hts gX8_deed_X8_fails rfl rfl rfl (by decide +kernel) ⟨Nat.le_of_ble_eq_true rfl, Nat.le_of_ble_eq_true rfl⟩) (preMV (q := (RX8, TX8, 15)) hPc hDc hK 0 rfl rfl) rfl rfl hl.1 rfl (lv_room (Nat.le_of_ble_eq_true rfl)) dX8_deed_62 ⟨Nat.zero_le _, Nat.zero_le _⟩) hS (fun q _ h => hFc q h) hFc (fun r_8 u_9 t H locs ht hvm hw hB hz1 hk1 hS' => ?_)
        obtain ⟨v_9, rfl⟩ : ∃ z, z = u_9 := ⟨_, rfl⟩
        replace hm := bst hm hw.1
        replace hB : va_P G vwCl _ _ := hB
        rw [ht] at hB
        have hj := va_backB (E := (e_X8_deed cA o o_now o_saved o_aside o_history o_chains o_buffer o_numbers v_4 v_o_kept v_o_reason v_o_errorPosition v_o_isSaved v_o_length v_o_at v_o_isWrong g_o_now gA)) (E' := (e_X8_deed cA o o_now o_saved o_aside o_history o_chains o_buffer o_numbers v_9 v_o_kept v_o_reason v_o_errorPosition v_o_isSaved v_o_length v_o_at v_o_isWrong g_o_now gA)) (B := (gblk cA gA gW)) hP hD [0] rfl hk1 hB [(true, 0), (false, 1), (false, 2)] rfl (by decide) rfl
        replace hP : va_P G vwCl (k_X8_deed cA o o_now o_saved o_aside o_history o_chains o_buffer o_numbers v_9 v_o_kept v_o_reason v_o_errorPosition v_o_isSaved v_o_length v_o_at v_o_isWrong g_o_now gA gW) H := hj.1
        replace hD : va_D A (k_X8_deed cA o o_now o_saved o_aside o_history o_chains o_buffer o_numbers v_9 v_o_kept v_o_reason v_o_errorPosition v_o_isSaved v_o_length v_o_at v_o_isWrong g_o_now gA gW) := hj.2
        replace hS := hS'
        clear hj hPc hDc hFc hB
        refine lv_if_ne (tgt := 81) hx hb dX8_deed_65 (by decide) (fun c_10 => ?_) (fun c_10 => ?_)
        · replace hm := ie hm c_10
          refine lv_iconst (v := (0 : Int32)) hx hb dX8_deed_81 (by decide) ?_
          exact hret _ _ _ (v_9, v_o_kept, g_o_now, gW) _ _ dX8_deed_82 rfl hP hS hm.symm
        · replace hm := it hm c_10
          refine lv_aload_n hx hb dX8_deed_68 rfl (lv_at hl 0 rfl) ?_
          refine lv_iconst (v := (3 : Int32)) hx hb dX8_deed_69 (by decide) ?_
          refine lv_aload_n hx hb dX8_deed_70 rfl (lv_at hl 0 rfl) ?_
          refine lv_iload_n hx hb dX8_deed_71 rfl (lv_at hl 1 rfl) ?_
          refine vp_callSi (va_Run.run (va_runV (As := [.int p1]) (rest := [.int (3 : Int32), .ref o]) ⟨hx, hb, hml, hown, hts⟩ (c_X8_takesNoDeed l G cA o o_now o_saved o_aside o_history o_chains o_buffer o_numbers p1 v_9 v_o_kept v_o_reason v_o_errorPosition v_o_isSaved v_o_length v_o_at v_o_isWrong g_o_now _ rfl (bnz hm hz)) (cwV 1 hts gX8_deed_X8_takesNoDeed rfl rfl rfl (by decide +kernel) ⟨Nat.le_of_ble_eq_true rfl, Nat.le_of_ble_eq_true rfl⟩) (preRV (q := (RX8, TX8, 15)) (hP.sub [0, 1] rfl) hK 0 rfl rfl) rfl rfl hl.1 rfl (lv_room (Nat.le_of_ble_eq_true rfl)) dX8_deed_72 ⟨Nat.zero_le _, Nat.zero_le _⟩)) (fun r_11 hw => ?_)
          replace hm := bst hm hw.1
          have hPc := hP.sub (ws' := (k_X8_fails cA o o_now o_saved o_aside o_history o_chains o_buffer o_numbers v_9 v_o_kept v_o_reason v_o_errorPosition v_o_isSaved v_o_length v_o_at v_o_isWrong)) [0] rfl
          have hDc := hD.sub (ws' := (k_X8_fails cA o o_now o_saved o_aside o_history o_chains o_buffer o_numbers v_9 v_o_kept v_o_reason v_o_errorPosition v_o_isSaved v_o_length v_o_at v_o_isWrong)) [0] (by decide) rfl
          have hFc := va_free (wc := (k_X8_fails cA o o_now o_saved o_aside o_history o_chains o_buffer o_numbers v_9 v_o_kept v_o_reason v_o_errorPosition v_o_isSaved v_o_length v_o_at v_o_isWrong)) hD hS hA [0] rfl
          refine va_calli (va_runV (As := [.int (3 : Int32), .int r_11]) (rest := []) ⟨hx, hb, hml, hown, hts⟩ (c_X8_fails l G cA o o_now o_saved o_aside o_history o_chains o_buffer o_numbers H.size (3 : Int32) r_11 v_9 v_o_kept v_o_reason v_o_errorPosition v_o_isSaved v_o_length v_o_at v_o_isWrong _ rfl (bnz hm hz)) (cwV 2 hts gX8_deed_X8_fails rfl rfl rfl (by decide +kernel) ⟨Nat.le_of_ble_eq_true rfl, Nat.le_of_ble_eq_true rfl⟩) (preMV (q := (RX8, TX8, 15)) hPc hDc hK 0 rfl rfl) rfl rfl hl.1 rfl (lv_room (Nat.le_of_ble_eq_true rfl)) dX8_deed_75 ⟨Nat.zero_le _, Nat.zero_le _⟩) hS (fun q _ h => hFc q h) hFc (fun r_12 u_13 t H locs ht hvm hw hB hz1 hk1 hS' => ?_)
          obtain ⟨v_13, rfl⟩ : ∃ z, z = u_13 := ⟨_, rfl⟩
          replace hm := bst hm hw.1
          replace hB : va_P G vwCl _ _ := hB
          rw [ht] at hB
          have hj := va_backB (E := (e_X8_deed cA o o_now o_saved o_aside o_history o_chains o_buffer o_numbers v_9 v_o_kept v_o_reason v_o_errorPosition v_o_isSaved v_o_length v_o_at v_o_isWrong g_o_now gA)) (E' := (e_X8_deed cA o o_now o_saved o_aside o_history o_chains o_buffer o_numbers v_13 v_o_kept v_o_reason v_o_errorPosition v_o_isSaved v_o_length v_o_at v_o_isWrong g_o_now gA)) (B := (gblk cA gA gW)) hP hD [0] rfl hk1 hB [(true, 0), (false, 1), (false, 2)] rfl (by decide) rfl
          replace hP : va_P G vwCl (k_X8_deed cA o o_now o_saved o_aside o_history o_chains o_buffer o_numbers v_13 v_o_kept v_o_reason v_o_errorPosition v_o_isSaved v_o_length v_o_at v_o_isWrong g_o_now gA gW) H := hj.1
          replace hD : va_D A (k_X8_deed cA o o_now o_saved o_aside o_history o_chains o_buffer o_numbers v_13 v_o_kept v_o_reason v_o_errorPosition v_o_isSaved v_o_length v_o_at v_o_isWrong g_o_now gA gW) := hj.2
          replace hS := hS'
          clear hj hPc hDc hFc hB
          refine lv_if_eq (tgt := 83) hx hb dX8_deed_78 (by decide) (fun c_14 => ?_) (fun c_14 => ?_)
          · replace hm := it hm c_14
            refine lv_aload_n hx hb dX8_deed_83 rfl (lv_at hl 0 rfl) ?_
            refine lv_aload_n hx hb dX8_deed_84 rfl (lv_at hl 0 rfl) ?_
            refine va_get (D := G) (ci := 10) (v := .ref o_now) (C := RX8) (T := TX8) (N := 15) hx hb hts i_X8 hown hK.1 hP 0 rfl rfl 1 (by decide) w_0 (fun _ h9 => h9) rfl dX8_deed_85 ?_
            have hPc : va_P G vwCl (k_X8_remember cA o o_now o_saved o_aside o_history o_chains o_buffer o_numbers o_now v_13 v_o_kept v_o_reason v_o_errorPosition v_o_isSaved v_o_length v_o_at v_o_isWrong g_o_now gA gW) H := va_subC (E := (e_X8_deed cA o o_now o_saved o_aside o_history o_chains o_buffer o_numbers v_13 v_o_kept v_o_reason v_o_errorPosition v_o_isSaved v_o_length v_o_at v_o_isWrong g_o_now gA)) (Ec := (e_X8_remember cA o o_now o_saved o_aside o_history o_chains o_buffer o_numbers o_now v_13 v_o_kept v_o_reason v_o_errorPosition v_o_isSaved v_o_length v_o_at v_o_isWrong g_o_now gA)) (B := (gblk cA gA gW)) hP [0, 2, 1] rfl
            have hDc : va_D A (k_X8_remember cA o o_now o_saved o_aside o_history o_chains o_buffer o_numbers o_now v_13 v_o_kept v_o_reason v_o_errorPosition v_o_isSaved v_o_length v_o_at v_o_isWrong g_o_now gA gW) := va_subCD (E := (e_X8_deed cA o o_now o_saved o_aside o_history o_chains o_buffer o_numbers v_13 v_o_kept v_o_reason v_o_errorPosition v_o_isSaved v_o_length v_o_at v_o_isWrong g_o_now gA)) (Ec := (e_X8_remember cA o o_now o_saved o_aside o_history o_chains o_buffer o_numbers o_now v_13 v_o_kept v_o_reason v_o_errorPosition v_o_isSaved v_o_length v_o_at v_o_isWrong g_o_now gA)) (B := (gblk cA gA gW)) hD [0, 2, 1] (by decide) rfl
            have hFc : ∀ q, va_A (k_X8_remember cA o o_now o_saved o_aside o_history o_chains o_buffer o_numbers o_now v_13 v_o_kept v_o_reason v_o_errorPosition v_o_isSaved v_o_length v_o_at v_o_isWrong g_o_now gA gW) H.size q → A q := va_freeC (E := (e_X8_deed cA o o_now o_saved o_aside o_history o_chains o_buffer o_numbers v_13 v_o_kept v_o_reason v_o_errorPosition v_o_isSaved v_o_length v_o_at v_o_isWrong g_o_now gA)) (Ec := (e_X8_remember cA o o_now o_saved o_aside o_history o_chains o_buffer o_numbers o_now v_13 v_o_kept v_o_reason v_o_errorPosition v_o_isSaved v_o_length v_o_at v_o_isWrong g_o_now gA)) (B := (gblk cA gA gW)) hD hS hA [0, 2, 1] rfl
            refine va_callv (va_runV (As := [.ref o_now]) (rest := []) ⟨hx, hb, hml, hown, hts⟩ (c_X8_remember l G cA o o_now o_saved o_aside o_history o_chains o_buffer o_numbers o_now H.size v_13 v_o_kept v_o_reason v_o_errorPosition v_o_isSaved v_o_length v_o_at v_o_isWrong g_o_now gA gW _ rfl (bnz hm hz)) (cwV 1 hts gX8_deed_X8_remember rfl rfl rfl (by decide +kernel) ⟨Nat.le_of_ble_eq_true rfl, Nat.le_of_ble_eq_true rfl⟩) (preMV (q := (RX8, TX8, 15)) hPc hDc hK 0 rfl rfl) rfl rfl hl.1 rfl (lv_room (Nat.le_of_ble_eq_true rfl)) dX8_deed_88 ⟨Nat.zero_le _, Nat.zero_le _⟩) hS (fun q _ h => hFc q h) hFc (fun u_16 t H locs ht hvm hw hB hz1 hk1 hS' => ?_)
            obtain ⟨v_15, h_16⟩ := u_16
            replace hm := bst hm hw
            replace hB : va_P G vwCl _ _ := hB
            rw [ht] at hB
            have hj := va_backC (E := (e_X8_deed cA o o_now o_saved o_aside o_history o_chains o_buffer o_numbers v_13 v_o_kept v_o_reason v_o_errorPosition v_o_isSaved v_o_length v_o_at v_o_isWrong g_o_now gA)) (E' := (e_X8_deed cA o o_now o_saved o_aside o_history o_chains o_buffer o_numbers v_13 v_15 v_o_reason v_o_errorPosition v_o_isSaved v_o_length v_o_at v_o_isWrong g_o_now gA)) (Ec := (e_X8_remember cA o o_now o_saved o_aside o_history o_chains o_buffer o_numbers o_now v_13 v_o_kept v_o_reason v_o_errorPosition v_o_isSaved v_o_length v_o_at v_o_isWrong g_o_now gA)) (Ec1 := (e_X8_remember cA o o_now o_saved o_aside o_history o_chains o_buffer o_numbers o_now v_13 v_15 v_o_reason v_o_errorPosition v_o_isSaved v_o_length v_o_at v_o_isWrong g_o_now gA)) (B := (gblk cA gA gW)) (B1 := (gblk cA gA h_16)) hP hD [0, 2, 1] rfl hk1 hB (gblk_addr ..) [(true, 0), (true, 2), (true, 1)] rfl (by decide) rfl
            replace hP : va_P G vwCl (k_X8_deed cA o o_now o_saved o_aside o_history o_chains o_buffer o_numbers v_13 v_15 v_o_reason v_o_errorPosition v_o_isSaved v_o_length v_o_at v_o_isWrong g_o_now gA h_16) H := hj.1
            replace hD : va_D A (k_X8_deed cA o o_now o_saved o_aside o_history o_chains o_buffer o_numbers v_13 v_15 v_o_reason v_o_errorPosition v_o_isSaved v_o_length v_o_at v_o_isWrong g_o_now gA h_16) := hj.2
            replace hS := hS'
            clear hj hPc hDc hFc hB
            refine lv_aload_n hx hb dX8_deed_91 rfl (lv_at hl 0 rfl) ?_
            refine lv_iload_n hx hb dX8_deed_92 rfl (lv_at hl 1 rfl) ?_
            refine lv_iload_n hx hb dX8_deed_93 rfl (lv_at hl 2 rfl) ?_
            refine lv_iload_n hx hb dX8_deed_94 rfl (lv_at hl 3 rfl) ?_
            refine lv_iload hx hb dX8_deed_95 (lv_at hl 4 rfl) ?_
            have hPc := hP.sub (ws' := (k_X8_doDeed cA o o_now o_saved o_aside o_history o_chains o_buffer o_numbers v_13 v_15 v_o_reason v_o_errorPosition v_o_isSaved v_o_length v_o_at v_o_isWrong g_o_now)) [0, 1] rfl
            have hDc := hD.sub (ws' := (k_X8_doDeed cA o o_now o_saved o_aside o_history o_chains o_buffer o_numbers v_13 v_15 v_o_reason v_o_errorPosition v_o_isSaved v_o_length v_o_at v_o_isWrong g_o_now)) [0, 1] (by decide) rfl
            have hFc := va_free (wc := (k_X8_doDeed cA o o_now o_saved o_aside o_history o_chains o_buffer o_numbers v_13 v_15 v_o_reason v_o_errorPosition v_o_isSaved v_o_length v_o_at v_o_isWrong g_o_now)) hD hS hA [0, 1] rfl
            refine va_calli (va_runV (As := [.int p1, .int p2, .int p3, .int p4]) (rest := []) ⟨hx, hb, hml, hown, hts⟩ (c_X8_doDeed l G cA o o_now o_saved o_aside o_history o_chains o_buffer o_numbers H.size p1 p2 p3 p4 v_13 v_15 v_o_reason v_o_errorPosition v_o_isSaved v_o_length v_o_at v_o_isWrong g_o_now _ rfl (bnz hm hz)) (cwV 4 hts gX8_deed_X8_doDeed rfl rfl rfl (by decide +kernel) ⟨Nat.le_of_ble_eq_true rfl, Nat.le_of_ble_eq_true rfl⟩) (preMV (q := (RX8, TX8, 15)) hPc hDc hK 0 rfl rfl) rfl rfl hl.1 rfl (lv_room (Nat.le_of_ble_eq_true rfl)) dX8_deed_97 ⟨Nat.zero_le _, Nat.zero_le _⟩) hS (fun q _ h => hFc q h) hFc (fun r_17 u_18 t H locs ht hvm hw hB hz1 hk1 hS' => ?_)
            obtain ⟨g_18, rfl⟩ : ∃ z, z = u_18 := ⟨_, rfl⟩
            replace hm := bst hm hw.1
            replace hB : va_P G vwCl _ _ := hB
            rw [ht] at hB
            have hj := va_backB (E := (e_X8_deed cA o o_now o_saved o_aside o_history o_chains o_buffer o_numbers v_13 v_15 v_o_reason v_o_errorPosition v_o_isSaved v_o_length v_o_at v_o_isWrong g_o_now gA)) (E' := (e_X8_deed cA o o_now o_saved o_aside o_history o_chains o_buffer o_numbers v_13 v_15 v_o_reason v_o_errorPosition v_o_isSaved v_o_length v_o_at v_o_isWrong g_18 gA)) (B := (gblk cA gA h_16)) hP hD [0, 1] rfl hk1 hB [(true, 0), (true, 1), (false, 2)] rfl (by decide) rfl
            replace hP : va_P G vwCl (k_X8_deed cA o o_now o_saved o_aside o_history o_chains o_buffer o_numbers v_13 v_15 v_o_reason v_o_errorPosition v_o_isSaved v_o_length v_o_at v_o_isWrong g_18 gA h_16) H := hj.1
            replace hD : va_D A (k_X8_deed cA o o_now o_saved o_aside o_history o_chains o_buffer o_numbers v_13 v_15 v_o_reason v_o_errorPosition v_o_isSaved v_o_length v_o_at v_o_isWrong g_18 gA h_16) := hj.2
            replace hS := hS'
            clear hj hPc hDc hFc hB
            refine lv_if_eq (tgt := 107) hx hb dX8_deed_100 (by decide) (fun c_19 => ?_) (fun c_19 => ?_)
            · replace hm := it hm c_19
              refine lv_iconst (v := (0 : Int32)) hx hb dX8_deed_107 (by decide) ?_
              exact hret _ _ _ (v_13, v_15, g_18, h_16) _ _ dX8_deed_108 rfl hP hS hm.symm
            · replace hm := ie hm c_19
              refine lv_iconst (v := (1 : Int32)) hx hb dX8_deed_103 (by decide) ?_
              refine lv_goto (tgt := 108) hx hb dX8_deed_104 (by decide) ?_
              exact hret _ _ _ (v_13, v_15, g_18, h_16) _ _ dX8_deed_108 rfl hP hS hm.symm
          · replace hm := ie hm c_14
            refine lv_iconst (v := (0 : Int32)) hx hb dX8_deed_81 (by decide) ?_
            exact hret _ _ _ (v_13, v_o_kept, g_o_now, gW) _ _ dX8_deed_82 rfl hP hS hm.symm
      refine lv_if_eq (tgt := 57) hx hb dX8_deed_27 (by decide) (fun c_20 => ?_) (fun c_20 => ?_)
      · replace hm := it hm c_20
        refine lv_iconst (v := (1 : Int32)) hx hb dX8_deed_57 (by decide) ?_
        refine lv_goto (tgt := 62) hx hb dX8_deed_58 (by decide) ?_
        exact J62_1 (1 : Int32) _ _ _ hm hP hD hS (lv_sub hl [0, 1, 2, 3, 4] rfl)
      · replace hm := ie hm c_20
        refine lv_iload_n hx hb dX8_deed_30 rfl (lv_at hl 3 rfl) ?_
        refine vp_callSi (va_Run.run (va_runS (As := [.int p3]) (rest := [.int (2 : Int32), .ref o]) ⟨hx, hb, hml, hown, hts⟩ (c_X8_isPerson l G cA p3 _ rfl (bnz hm hz)) (va_cwS 1 hts gX8_deed_X8_isPerson rfl rfl rfl (by decide +kernel) ⟨Nat.le_of_ble_eq_true rfl, Nat.le_of_ble_eq_true rfl⟩) (preRS (hP.sub [] rfl) hK) rfl rfl hl.1 rfl (lv_room (Nat.le_of_ble_eq_true rfl)) dX8_deed_31 ⟨Nat.zero_le _, Nat.zero_le _⟩)) (fun r_21 hw => ?_)
        replace hm := bst hm hw.1
        refine lv_if_eq (tgt := 57) hx hb dX8_deed_34 (by decide) (fun c_22 => ?_) (fun c_22 => ?_)
        · replace hm := it hm c_22
          refine lv_iconst (v := (1 : Int32)) hx hb dX8_deed_57 (by decide) ?_
          refine lv_goto (tgt := 62) hx hb dX8_deed_58 (by decide) ?_
          exact J62_1 (1 : Int32) _ _ _ hm hP hD hS (lv_sub hl [0, 1, 2, 3, 4] rfl)
        · replace hm := ie hm c_22
          refine lv_iload hx hb dX8_deed_37 (lv_at hl 4 rfl) ?_
          refine lv_aload_n hx hb dX8_deed_39 rfl (lv_at hl 0 rfl) ?_
          refine lv_iload_n hx hb dX8_deed_40 rfl (lv_at hl 1 rfl) ?_
          refine lv_iconst (v := (1 : Int32)) hx hb dX8_deed_41 (by decide) ?_
          refine vp_callSi (va_Run.run (va_runV (As := [.int p1, .int (1 : Int32)]) (rest := [.int p4, .int (2 : Int32), .ref o]) ⟨hx, hb, hml, hown, hts⟩ (c_X8_of l G cA o o_now o_saved o_aside o_history o_chains o_buffer o_numbers p1 (1 : Int32) v_4 v_o_kept v_o_reason v_o_errorPosition v_o_isSaved v_o_length v_o_at v_o_isWrong g_o_now _ rfl (bnz hm hz)) (cwV 2 hts gX8_deed_X8_of rfl rfl rfl (by decide +kernel) ⟨Nat.le_of_ble_eq_true rfl, Nat.le_of_ble_eq_true rfl⟩) (preRV (q := (RX8, TX8, 15)) (hP.sub [0, 1] rfl) hK 0 rfl rfl) rfl rfl hl.1 rfl (lv_room (Nat.le_of_ble_eq_true rfl)) dX8_deed_42 ⟨Nat.zero_le _, Nat.zero_le _⟩)) (fun r_23 hw => ?_)
          replace hm := bst hm hw
          refine lv_aload_n hx hb dX8_deed_45 rfl (lv_at hl 0 rfl) ?_
          refine va_get (D := G) (ci := 10) (v := .ref o_now) (C := RX8) (T := TX8) (N := 15) hx hb hts i_X8 hown hK.1 hP 0 rfl rfl 1 (by decide) w_0 (fun _ h9 => h9) rfl dX8_deed_46 ?_
          refine lv_iconst (v := (0 : Int32)) hx hb dX8_deed_49 (by decide) ?_
          replace hm := gdo hm hz
          obtain ⟨gi_24, hm⟩ := hm
          refine va_iald hx hb hK.1 hP 1 0 (cA := cA 0) (n := 621) (f := g_o_now) rfl rfl (ixi gi_24) dX8_deed_50 ?_
          refine vp_callSi (va_Run.run (va_runS (As := [.int p4, .int r_23, .int (g_o_now (0 : Int32).toNatClampNeg)]) (rest := [.int (2 : Int32), .ref o]) ⟨hx, hb, hml, hown, hts⟩ (c_X8_isBetween l G cA p4 r_23 (g_o_now (0 : Int32).toNatClampNeg) _ rfl (bnz hm hz)) (va_cwS 3 hts gX8_deed_X8_isBetween rfl rfl rfl (by decide +kernel) ⟨Nat.le_of_ble_eq_true rfl, Nat.le_of_ble_eq_true rfl⟩) (preRS (hP.sub [] rfl) hK) rfl rfl hl.1 rfl (lv_room (Nat.le_of_ble_eq_true rfl)) dX8_deed_51 ⟨Nat.zero_le _, Nat.zero_le _⟩)) (fun r_25 hw => ?_)
          replace hm := bst hm hw.1
          refine lv_if_ne (tgt := 61) hx hb dX8_deed_54 (by decide) (fun c_26 => ?_) (fun c_26 => ?_)
          · replace hm := ie hm c_26
            refine lv_iconst (v := (0 : Int32)) hx hb dX8_deed_61 (by decide) ?_
            exact J62_1 (0 : Int32) _ _ _ hm hP hD hS (lv_sub hl [0, 1, 2, 3, 4] rfl)
          · replace hm := it hm c_26
            refine lv_iconst (v := (1 : Int32)) hx hb dX8_deed_57 (by decide) ?_
            refine lv_goto (tgt := 62) hx hb dX8_deed_58 (by decide) ?_
            exact J62_1 (1 : Int32) _ _ _ hm hP hD hS (lv_sub hl [0, 1, 2, 3, 4] rfl)
  refine lv_if_ne (tgt := 14) hx hb dX8_deed_7 (by decide) (fun c_27 => ?_) (fun c_27 => ?_)
  · replace hm := ie hm c_27
    refine lv_iconst (v := (0 : Int32)) hx hb dX8_deed_14 (by decide) ?_
    exact J15_2 (0 : Int32) _ _ _ hm hP hD hS (lv_sub hl [0, 1, 2, 3, 4] rfl)
  · replace hm := it hm c_27
    refine lv_iconst (v := (1 : Int32)) hx hb dX8_deed_10 (by decide) ?_
    refine lv_goto (tgt := 15) hx hb dX8_deed_11 (by decide) ?_
    exact J15_2 (1 : Int32) _ _ _ hm hP hD hS (lv_sub hl [0, 1, 2, 3, 4] rfl)
def m_X8_addEasement_J48 (g_o_now : Nat → Int32) (gW : Nat → Nat → Int32) (v_o_kept : Int32) (p1 : Int32) (p2 : Int32) (p3 : Int32) : (Int32) → Option (Int32 × Int32 × Int32 × (Nat → Int32) × (Nat → Nat → Int32)) := fun y_7 => Option.bind (m_X8_fails (2 : Int32) y_7) (fun q => match q with
  | (r_8, v_9) => (if r_8 = 0 then Option.bind (m_X8_takesNoEasement p2 p3 g_o_now) (fun r_11 => Option.bind (m_X8_fails (3 : Int32) r_11) (fun q => match q with
  | (r_12, v_13) => (if r_12 = 0 then Option.bind (m_X8_remember v_o_kept g_o_now gW) (fun q => match q with
  | (v_15, h_16) => Option.bind (m_X8_newEasement p1 p2 p3 g_o_now) (fun q => match q with
  | (r_17, g_18) => some (r_17, v_13, v_15, g_18, h_16))) else some ((0 : Int32), v_13, v_o_kept, g_o_now, gW)))) else some ((0 : Int32), v_9, v_o_kept, g_o_now, gW)))
def m_X8_addEasement_J23 (g_o_now : Nat → Int32) (gW : Nat → Nat → Int32) (v_o_kept : Int32) (p1 : Int32) (p2 : Int32) (p3 : Int32) : (Int32) → Option (Int32 × Int32 × Int32 × (Nat → Int32) × (Nat → Nat → Int32)) := fun y_2 => Option.bind (m_X8_fails (1 : Int32) y_2) (fun q => match q with
  | (r_3, v_4) => (if r_3 = 0 then Option.bind (m_X8_isKind p1) (fun r_6 => (if r_6 = 0 then m_X8_addEasement_J48 g_o_now gW v_o_kept p1 p2 p3 (1 : Int32) else (if p2 = p3 then m_X8_addEasement_J48 g_o_now gW v_o_kept p1 p2 p3 (1 : Int32) else m_X8_addEasement_J48 g_o_now gW v_o_kept p1 p2 p3 (0 : Int32)))) else some ((0 : Int32), v_4, v_o_kept, g_o_now, gW)))
def m_X8_addEasement (p1 : Int32) (p2 : Int32) (p3 : Int32) (v_o_kept : Int32) (g_o_now : Nat → Int32) (gW : Nat → Nat → Int32) : Option (Int32 × Int32 × Int32 × (Nat → Int32) × (Nat → Nat → Int32)) := Option.bind (m_X8_isParcel p2 g_o_now) (fun r_1 => (if r_1 = 0 then m_X8_addEasement_J23 g_o_now gW v_o_kept p1 p2 p3 (1 : Int32) else Option.bind (m_X8_isParcel p3 g_o_now) (fun r_22 => (if r_22 = 0 then m_X8_addEasement_J23 g_o_now gW v_o_kept p1 p2 p3 (1 : Int32) else m_X8_addEasement_J23 g_o_now gW v_o_kept p1 p2 p3 (0 : Int32)))))
abbrev e_X8_addEasement (cA : Nat → ClassId) (o o_now o_saved o_aside o_history o_chains o_buffer o_numbers : Nat) (v_o_thrown : Int32) (v_o_kept : Int32) (v_o_reason : Int32) (v_o_errorPosition : Int32) (v_o_isSaved : Int32) (v_o_length : Int32) (v_o_at : Int32) (v_o_isWrong : Int32) (g_o_now : Nat → Int32) (gA : Nat → Nat) : va_W := [(o, .inr (10, [.int v_o_thrown, .ref o_now, .ref o_saved, .ref o_aside, .ref o_history, .int v_o_kept, .int v_o_reason, .int v_o_errorPosition, .int v_o_isSaved, .ref o_chains, .ref o_buffer, .int v_o_length, .int v_o_at, .int v_o_isWrong, .ref o_numbers])), (o_now, .inl (cA 0, 621, .inl g_o_now)), (o_history, .inl (cA 3, 6, .inr (.inr (.inr (.inr (fun j => some (gA j)))))))]
abbrev k_X8_addEasement (cA : Nat → ClassId) (o o_now o_saved o_aside o_history o_chains o_buffer o_numbers : Nat) (v_o_thrown : Int32) (v_o_kept : Int32) (v_o_reason : Int32) (v_o_errorPosition : Int32) (v_o_isSaved : Int32) (v_o_length : Int32) (v_o_at : Int32) (v_o_isWrong : Int32) (g_o_now : Nat → Int32) (gA : Nat → Nat) (gW : Nat → Nat → Int32) : va_W := e_X8_addEasement cA o o_now o_saved o_aside o_history o_chains o_buffer o_numbers v_o_thrown v_o_kept v_o_reason v_o_errorPosition v_o_isSaved v_o_length v_o_at v_o_isWrong g_o_now gA ++ gblk cA gA gW
set_option maxHeartbeats 4000000 in
set_option maxRecDepth 100000 in
/-- X8_addEasement: as its model -/
theorem c_X8_addEasement (l : Launch) (G : va_G) (cA : Nat → ClassId) (o o_now o_saved o_aside o_history o_chains o_buffer o_numbers : Nat) (sz : Nat) (p1 : Int32) (p2 : Int32) (p3 : Int32) (v_o_thrown : Int32) (v_o_kept : Int32) (v_o_reason : Int32) (v_o_errorPosition : Int32) (v_o_isSaved : Int32) (v_o_length : Int32) (v_o_at : Int32) (v_o_isWrong : Int32) (g_o_now : Nat → Int32) (gA : Nat → Nat) (gW : Nat → Nat → Int32) (R : Option (Int32 × Int32 × Int32 × (Nat → Int32) × (Nat → Nat → Int32))) (hR : m_X8_addEasement p1 p2 p3 v_o_kept g_o_now gW = R) (hz : R ≠ none) : Met l yX8_addEasement wsX8_addEasement ({ frames := 4, cells := 0, slots := 0, locals := 86 } : Room) (va_Pc [.ref o, .int p1, .int p2, .int p3] (PM G cA (k_X8_addEasement cA o o_now o_saved o_aside o_history o_chains o_buffer o_numbers v_o_thrown v_o_kept v_o_reason v_o_errorPosition v_o_isSaved v_o_length v_o_at v_o_isWrong g_o_now gA gW) sz)) (va_Qi (fun (r : Int32) (u : Int32 × Int32 × (Nat → Int32) × (Nat → Nat → Int32)) => R = some (r, u)) (BM G (fun (u : Int32 × Int32 × (Nat → Int32) × (Nat → Nat → Int32)) => (k_X8_addEasement cA o o_now o_saved o_aside o_history o_chains o_buffer o_numbers u.1 u.2.1 v_o_reason v_o_errorPosition v_o_isSaved v_o_length v_o_at v_o_isWrong u.2.2.1 gA u.2.2.2))) (va_A (k_X8_addEasement cA o o_now o_saved o_aside o_history o_chains o_buffer o_numbers v_o_thrown v_o_kept v_o_reason v_o_errorPosition v_o_isSaved v_o_length v_o_at v_o_isWrong g_o_now gA gW) sz)) 0 0 (va_A (k_X8_addEasement cA o o_now o_saved o_aside o_history o_chains o_buffer o_numbers v_o_thrown v_o_kept v_o_reason v_o_errorPosition v_o_isSaved v_o_length v_o_at v_o_isWrong g_o_now gA gW) sz) := by
  refine metM .int (by decide) rfl (Nat.le_of_ble_eq_true rfl) ?_
  intro p e s m av below meth c Q ls A H hx hb hml hts hown hP hK hD hA hS hl hret
  replace hl : lv_has ls 4 [(0, .ref o), (1, .int p1), (2, .int p2), (3, .int p3)] := hl
  have w_0 := hts (.fieldLink RX8 9 "ParcelRegistryModel" "now" "[I") (by decide +kernel)
  have i_X8 : ∀ w ∈ wsX80, w ∈ wsX8_addEasement := by decide +kernel
  have hm := hR
  unfold m_X8_addEasement at hm
  refine lv_aload_n hx hb dX8_addEasement_0 rfl (lv_at hl 0 rfl) ?_
  refine lv_iconst (v := (1 : Int32)) hx hb dX8_addEasement_1 (by decide) ?_
  refine lv_aload_n hx hb dX8_addEasement_2 rfl (lv_at hl 0 rfl) ?_
  refine lv_iload_n hx hb dX8_addEasement_3 rfl (lv_at hl 2 rfl) ?_
  refine vp_callSi (va_Run.run (va_runV (As := [.int p2]) (rest := [.int (1 : Int32), .ref o]) ⟨hx, hb, hml, hown, hts⟩ (c_X8_isParcel l G cA o o_now o_saved o_aside o_history o_chains o_buffer o_numbers p2 v_o_thrown v_o_kept v_o_reason v_o_errorPosition v_o_isSaved v_o_length v_o_at v_o_isWrong g_o_now _ rfl (bnz hm hz)) (cwV 1 hts gX8_addEasement_X8_isParcel rfl rfl rfl (by decide +kernel) ⟨Nat.le_of_ble_eq_true rfl, Nat.le_of_ble_eq_true rfl⟩) (preRV (q := (RX8, TX8, 15)) (hP.sub [0, 1] rfl) hK 0 rfl rfl) rfl rfl hl.1 rfl (lv_room (Nat.le_of_ble_eq_true rfl)) dX8_addEasement_4 ⟨Nat.zero_le _, Nat.zero_le _⟩)) (fun r_1 hw => ?_)
  replace hm := bst hm hw.1
  have J23_2 : ∀ (y_2 : Int32), ∀ (H : Heap) (locs : List Loc) (ls : Array Slot), m_X8_addEasement_J23 g_o_now gW v_o_kept p1 p2 p3 y_2 = R → va_P G vwCl (k_X8_addEasement cA o o_now o_saved o_aside o_history o_chains o_buffer o_numbers v_o_thrown v_o_kept v_o_reason v_o_errorPosition v_o_isSaved v_o_length v_o_at v_o_isWrong g_o_now gA gW) H → va_D A (k_X8_addEasement cA o o_now o_saved o_aside o_history o_chains o_buffer o_numbers v_o_thrown v_o_kept v_o_reason v_o_errorPosition v_o_isSaved v_o_length v_o_at v_o_isWrong g_o_now gA gW) → va_S A s.heap H locs → lv_has ls 4 [(0, .ref o), (1, .int p1), (2, .int p2), (3, .int p3)] → W p l e ({ frames := 4, cells := 0, slots := 0, locals := 86 } : Room) s m av below meth c H locs 0 0 Q (F0 m 23 ls [.int y_2, .int (1 : Int32), .ref o]) := by
    intro y_2 H locs ls hm hP hD hS hl
    unfold m_X8_addEasement_J23 at hm
    have hPc := hP.sub (ws' := (k_X8_fails cA o o_now o_saved o_aside o_history o_chains o_buffer o_numbers v_o_thrown v_o_kept v_o_reason v_o_errorPosition v_o_isSaved v_o_length v_o_at v_o_isWrong)) [0] rfl
    have hDc := hD.sub (ws' := (k_X8_fails cA o o_now o_saved o_aside o_history o_chains o_buffer o_numbers v_o_thrown v_o_kept v_o_reason v_o_errorPosition v_o_isSaved v_o_length v_o_at v_o_isWrong)) [0] (by decide) rfl
    have hFc := va_free (wc := (k_X8_fails cA o o_now o_saved o_aside o_history o_chains o_buffer o_numbers v_o_thrown v_o_kept v_o_reason v_o_errorPosition v_o_isSaved v_o_length v_o_at v_o_isWrong)) hD hS hA [0] rfl
    refine va_calli (va_runV (As := [.int (1 : Int32), .int y_2]) (rest := []) ⟨hx, hb, hml, hown, hts⟩ (c_X8_fails l G cA o o_now o_saved o_aside o_history o_chains o_buffer o_numbers H.size (1 : Int32) y_2 v_o_thrown v_o_kept v_o_reason v_o_errorPosition v_o_isSaved v_o_length v_o_at v_o_isWrong _ rfl (bnz hm hz)) (cwV 2 hts gX8_addEasement_X8_fails rfl rfl rfl (by decide +kernel) ⟨Nat.le_of_ble_eq_true rfl, Nat.le_of_ble_eq_true rfl⟩) (preMV (q := (RX8, TX8, 15)) hPc hDc hK 0 rfl rfl) rfl rfl hl.1 rfl (lv_room (Nat.le_of_ble_eq_true rfl)) dX8_addEasement_23 ⟨Nat.zero_le _, Nat.zero_le _⟩) hS (fun q _ h => hFc q h) hFc (fun r_3 u_4 t H locs ht hvm hw hB hz1 hk1 hS' => ?_)
    obtain ⟨v_4, rfl⟩ : ∃ z, z = u_4 := ⟨_, rfl⟩
    replace hm := bst hm hw.1
    replace hB : va_P G vwCl _ _ := hB
    rw [ht] at hB
    have hj := va_backB (E := (e_X8_addEasement cA o o_now o_saved o_aside o_history o_chains o_buffer o_numbers v_o_thrown v_o_kept v_o_reason v_o_errorPosition v_o_isSaved v_o_length v_o_at v_o_isWrong g_o_now gA)) (E' := (e_X8_addEasement cA o o_now o_saved o_aside o_history o_chains o_buffer o_numbers v_4 v_o_kept v_o_reason v_o_errorPosition v_o_isSaved v_o_length v_o_at v_o_isWrong g_o_now gA)) (B := (gblk cA gA gW)) hP hD [0] rfl hk1 hB [(true, 0), (false, 1), (false, 2)] rfl (by decide) rfl
    replace hP : va_P G vwCl (k_X8_addEasement cA o o_now o_saved o_aside o_history o_chains o_buffer o_numbers v_4 v_o_kept v_o_reason v_o_errorPosition v_o_isSaved v_o_length v_o_at v_o_isWrong g_o_now gA gW) H := hj.1
    replace hD : va_D A (k_X8_addEasement cA o o_now o_saved o_aside o_history o_chains o_buffer o_numbers v_4 v_o_kept v_o_reason v_o_errorPosition v_o_isSaved v_o_length v_o_at v_o_isWrong g_o_now gA gW) := hj.2
    replace hS := hS'
    clear hj hPc hDc hFc hB
    refine lv_if_ne (tgt := 68) hx hb dX8_addEasement_26 (by decide) (fun c_5 => ?_) (fun c_5 => ?_)
    · replace hm := ie hm c_5
      refine lv_iconst (v := (0 : Int32)) hx hb dX8_addEasement_68 (by decide) ?_
      exact hret _ _ _ (v_4, v_o_kept, g_o_now, gW) _ _ dX8_addEasement_69 rfl hP hS hm.symm
    · replace hm := it hm c_5
      refine lv_aload_n hx hb dX8_addEasement_29 rfl (lv_at hl 0 rfl) ?_
      refine lv_iconst (v := (2 : Int32)) hx hb dX8_addEasement_30 (by decide) ?_
      refine lv_iload_n hx hb dX8_addEasement_31 rfl (lv_at hl 1 rfl) ?_
      refine vp_callSi (va_Run.run (va_runS (As := [.int p1]) (rest := [.int (2 : Int32), .ref o]) ⟨hx, hb, hml, hown, hts⟩ (c_X8_isKind l G cA p1 _ rfl (bnz hm hz)) (va_cwS 1 hts gX8_addEasement_X8_isKind rfl rfl rfl (by decide +kernel) ⟨Nat.le_of_ble_eq_true rfl, Nat.le_of_ble_eq_true rfl⟩) (preRS (hP.sub [] rfl) hK) rfl rfl hl.1 rfl (lv_room (Nat.le_of_ble_eq_true rfl)) dX8_addEasement_32 ⟨Nat.zero_le _, Nat.zero_le _⟩)) (fun r_6 hw => ?_)
      replace hm := bst hm hw.1
      have J48_1 : ∀ (y_7 : Int32), ∀ (H : Heap) (locs : List Loc) (ls : Array Slot), m_X8_addEasement_J48 g_o_now gW v_o_kept p1 p2 p3 y_7 = R → va_P G vwCl (k_X8_addEasement cA o o_now o_saved o_aside o_history o_chains o_buffer o_numbers v_4 v_o_kept v_o_reason v_o_errorPosition v_o_isSaved v_o_length v_o_at v_o_isWrong g_o_now gA gW) H → va_D A (k_X8_addEasement cA o o_now o_saved o_aside o_history o_chains o_buffer o_numbers v_4 v_o_kept v_o_reason v_o_errorPosition v_o_isSaved v_o_length v_o_at v_o_isWrong g_o_now gA gW) → va_S A s.heap H locs → lv_has ls 4 [(0, .ref o), (1, .int p1), (2, .int p2), (3, .int p3)] → W p l e ({ frames := 4, cells := 0, slots := 0, locals := 86 } : Room) s m av below meth c H locs 0 0 Q (F0 m 48 ls [.int y_7, .int (2 : Int32), .ref o]) := by
        intro y_7 H locs ls hm hP hD hS hl
        unfold m_X8_addEasement_J48 at hm
        have hPc := hP.sub (ws' := (k_X8_fails cA o o_now o_saved o_aside o_history o_chains o_buffer o_numbers v_4 v_o_kept v_o_reason v_o_errorPosition v_o_isSaved v_o_length v_o_at v_o_isWrong)) [0] rfl
        have hDc := hD.sub (ws' := (k_X8_fails cA o o_now o_saved o_aside o_history o_chains o_buffer o_numbers v_4 v_o_kept v_o_reason v_o_errorPosition v_o_isSaved v_o_length v_o_at v_o_isWrong)) [0] (by decide) rfl
        have hFc := va_free (wc := (k_X8_fails cA o o_now o_saved o_aside o_history o_chains o_buffer o_numbers v_4 v_o_kept v_o_reason v_o_errorPosition v_o_isSaved v_o_length v_o_at v_o_isWrong)) hD hS hA [0] rfl
        refine va_calli (va_runV (As := [.int (2 : Int32), .int y_7]) (rest := []) ⟨hx, hb, hml, hown, hts⟩ (c_X8_fails l G cA o o_now o_saved o_aside o_history o_chains o_buffer o_numbers H.size (2 : Int32) y_7 v_4 v_o_kept v_o_reason v_o_errorPosition v_o_isSaved v_o_length v_o_at v_o_isWrong _ rfl (bnz hm hz)) (cwV 2 hts gX8_addEasement_X8_fails rfl rfl rfl (by decide +kernel) ⟨Nat.le_of_ble_eq_true rfl, Nat.le_of_ble_eq_true rfl⟩) (preMV (q := (RX8, TX8, 15)) hPc hDc hK 0 rfl rfl) rfl rfl hl.1 rfl (lv_room (Nat.le_of_ble_eq_true rfl)) dX8_addEasement_48 ⟨Nat.zero_le _, Nat.zero_le _⟩) hS (fun q _ h => hFc q h) hFc (fun r_8 u_9 t H locs ht hvm hw hB hz1 hk1 hS' => ?_)
        obtain ⟨v_9, rfl⟩ : ∃ z, z = u_9 := ⟨_, rfl⟩
        replace hm := bst hm hw.1
        replace hB : va_P G vwCl _ _ := hB
        rw [ht] at hB
        have hj := va_backB (E := (e_X8_addEasement cA o o_now o_saved o_aside o_history o_chains o_buffer o_numbers v_4 v_o_kept v_o_reason v_o_errorPosition v_o_isSaved v_o_length v_o_at v_o_isWrong g_o_now gA)) (E' := (e_X8_addEasement cA o o_now o_saved o_aside o_history o_chains o_buffer o_numbers v_9 v_o_kept v_o_reason v_o_errorPosition v_o_isSaved v_o_length v_o_at v_o_isWrong g_o_now gA)) (B := (gblk cA gA gW)) hP hD [0] rfl hk1 hB [(true, 0), (false, 1), (false, 2)] rfl (by decide) rfl
        replace hP : va_P G vwCl (k_X8_addEasement cA o o_now o_saved o_aside o_history o_chains o_buffer o_numbers v_9 v_o_kept v_o_reason v_o_errorPosition v_o_isSaved v_o_length v_o_at v_o_isWrong g_o_now gA gW) H := hj.1
        replace hD : va_D A (k_X8_addEasement cA o o_now o_saved o_aside o_history o_chains o_buffer o_numbers v_9 v_o_kept v_o_reason v_o_errorPosition v_o_isSaved v_o_length v_o_at v_o_isWrong g_o_now gA gW) := hj.2
        replace hS := hS'
        clear hj hPc hDc hFc hB
        refine lv_if_ne (tgt := 68) hx hb dX8_addEasement_51 (by decide) (fun c_10 => ?_) (fun c_10 => ?_)
        · replace hm := ie hm c_10
          refine lv_iconst (v := (0 : Int32)) hx hb dX8_addEasement_68 (by decide) ?_
          exact hret _ _ _ (v_9, v_o_kept, g_o_now, gW) _ _ dX8_addEasement_69 rfl hP hS hm.symm
        · replace hm := it hm c_10
          refine lv_aload_n hx hb dX8_addEasement_54 rfl (lv_at hl 0 rfl) ?_
          refine lv_iconst (v := (3 : Int32)) hx hb dX8_addEasement_55 (by decide) ?_
          refine lv_aload_n hx hb dX8_addEasement_56 rfl (lv_at hl 0 rfl) ?_
          refine lv_iload_n hx hb dX8_addEasement_57 rfl (lv_at hl 2 rfl) ?_
          refine lv_iload_n hx hb dX8_addEasement_58 rfl (lv_at hl 3 rfl) ?_
          refine vp_callSi (va_Run.run (va_runV (As := [.int p2, .int p3]) (rest := [.int (3 : Int32), .ref o]) ⟨hx, hb, hml, hown, hts⟩ (c_X8_takesNoEasement l G cA o o_now o_saved o_aside o_history o_chains o_buffer o_numbers p2 p3 v_9 v_o_kept v_o_reason v_o_errorPosition v_o_isSaved v_o_length v_o_at v_o_isWrong g_o_now _ rfl (bnz hm hz)) (cwV 2 hts gX8_addEasement_X8_takesNoEasement rfl rfl rfl (by decide +kernel) ⟨Nat.le_of_ble_eq_true rfl, Nat.le_of_ble_eq_true rfl⟩) (preRV (q := (RX8, TX8, 15)) (hP.sub [0, 1] rfl) hK 0 rfl rfl) rfl rfl hl.1 rfl (lv_room (Nat.le_of_ble_eq_true rfl)) dX8_addEasement_59 ⟨Nat.zero_le _, Nat.zero_le _⟩)) (fun r_11 hw => ?_)
          replace hm := bst hm hw.1
          have hPc := hP.sub (ws' := (k_X8_fails cA o o_now o_saved o_aside o_history o_chains o_buffer o_numbers v_9 v_o_kept v_o_reason v_o_errorPosition v_o_isSaved v_o_length v_o_at v_o_isWrong)) [0] rfl
          have hDc := hD.sub (ws' := (k_X8_fails cA o o_now o_saved o_aside o_history o_chains o_buffer o_numbers v_9 v_o_kept v_o_reason v_o_errorPosition v_o_isSaved v_o_length v_o_at v_o_isWrong)) [0] (by decide) rfl
          have hFc := va_free (wc := (k_X8_fails cA o o_now o_saved o_aside o_history o_chains o_buffer o_numbers v_9 v_o_kept v_o_reason v_o_errorPosition v_o_isSaved v_o_length v_o_at v_o_isWrong)) hD hS hA [0] rfl
          refine va_calli (va_runV (As := [.int (3 : Int32), .int r_11]) (rest := []) ⟨hx, hb, hml, hown, hts⟩ (c_X8_fails l G cA o o_now o_saved o_aside o_history o_chains o_buffer o_numbers H.size (3 : Int32) r_11 v_9 v_o_kept v_o_reason v_o_errorPosition v_o_isSaved v_o_length v_o_at v_o_isWrong _ rfl (bnz hm hz)) (cwV 2 hts gX8_addEasement_X8_fails rfl rfl rfl (by decide +kernel) ⟨Nat.le_of_ble_eq_true rfl, Nat.le_of_ble_eq_true rfl⟩) (preMV (q := (RX8, TX8, 15)) hPc hDc hK 0 rfl rfl) rfl rfl hl.1 rfl (lv_room (Nat.le_of_ble_eq_true rfl)) dX8_addEasement_62 ⟨Nat.zero_le _, Nat.zero_le _⟩) hS (fun q _ h => hFc q h) hFc (fun r_12 u_13 t H locs ht hvm hw hB hz1 hk1 hS' => ?_)
          obtain ⟨v_13, rfl⟩ : ∃ z, z = u_13 := ⟨_, rfl⟩
          replace hm := bst hm hw.1
          replace hB : va_P G vwCl _ _ := hB
          rw [ht] at hB
          have hj := va_backB (E := (e_X8_addEasement cA o o_now o_saved o_aside o_history o_chains o_buffer o_numbers v_9 v_o_kept v_o_reason v_o_errorPosition v_o_isSaved v_o_length v_o_at v_o_isWrong g_o_now gA)) (E' := (e_X8_addEasement cA o o_now o_saved o_aside o_history o_chains o_buffer o_numbers v_13 v_o_kept v_o_reason v_o_errorPosition v_o_isSaved v_o_length v_o_at v_o_isWrong g_o_now gA)) (B := (gblk cA gA gW)) hP hD [0] rfl hk1 hB [(true, 0), (false, 1), (false, 2)] rfl (by decide) rfl
          replace hP : va_P G vwCl (k_X8_addEasement cA o o_now o_saved o_aside o_history o_chains o_buffer o_numbers v_13 v_o_kept v_o_reason v_o_errorPosition v_o_isSaved v_o_length v_o_at v_o_isWrong g_o_now gA gW) H := hj.1
          replace hD : va_D A (k_X8_addEasement cA o o_now o_saved o_aside o_history o_chains o_buffer o_numbers v_13 v_o_kept v_o_reason v_o_errorPosition v_o_isSaved v_o_length v_o_at v_o_isWrong g_o_now gA gW) := hj.2
          replace hS := hS'
          clear hj hPc hDc hFc hB
          refine lv_if_eq (tgt := 70) hx hb dX8_addEasement_65 (by decide) (fun c_14 => ?_) (fun c_14 => ?_)
          · replace hm := it hm c_14
            refine lv_aload_n hx hb dX8_addEasement_70 rfl (lv_at hl 0 rfl) ?_
            refine lv_aload_n hx hb dX8_addEasement_71 rfl (lv_at hl 0 rfl) ?_
            refine va_get (D := G) (ci := 10) (v := .ref o_now) (C := RX8) (T := TX8) (N := 15) hx hb hts i_X8 hown hK.1 hP 0 rfl rfl 1 (by decide) w_0 (fun _ h9 => h9) rfl dX8_addEasement_72 ?_
            have hPc : va_P G vwCl (k_X8_remember cA o o_now o_saved o_aside o_history o_chains o_buffer o_numbers o_now v_13 v_o_kept v_o_reason v_o_errorPosition v_o_isSaved v_o_length v_o_at v_o_isWrong g_o_now gA gW) H := va_subC (E := (e_X8_addEasement cA o o_now o_saved o_aside o_history o_chains o_buffer o_numbers v_13 v_o_kept v_o_reason v_o_errorPosition v_o_isSaved v_o_length v_o_at v_o_isWrong g_o_now gA)) (Ec := (e_X8_remember cA o o_now o_saved o_aside o_history o_chains o_buffer o_numbers o_now v_13 v_o_kept v_o_reason v_o_errorPosition v_o_isSaved v_o_length v_o_at v_o_isWrong g_o_now gA)) (B := (gblk cA gA gW)) hP [0, 2, 1] rfl
            have hDc : va_D A (k_X8_remember cA o o_now o_saved o_aside o_history o_chains o_buffer o_numbers o_now v_13 v_o_kept v_o_reason v_o_errorPosition v_o_isSaved v_o_length v_o_at v_o_isWrong g_o_now gA gW) := va_subCD (E := (e_X8_addEasement cA o o_now o_saved o_aside o_history o_chains o_buffer o_numbers v_13 v_o_kept v_o_reason v_o_errorPosition v_o_isSaved v_o_length v_o_at v_o_isWrong g_o_now gA)) (Ec := (e_X8_remember cA o o_now o_saved o_aside o_history o_chains o_buffer o_numbers o_now v_13 v_o_kept v_o_reason v_o_errorPosition v_o_isSaved v_o_length v_o_at v_o_isWrong g_o_now gA)) (B := (gblk cA gA gW)) hD [0, 2, 1] (by decide) rfl
            have hFc : ∀ q, va_A (k_X8_remember cA o o_now o_saved o_aside o_history o_chains o_buffer o_numbers o_now v_13 v_o_kept v_o_reason v_o_errorPosition v_o_isSaved v_o_length v_o_at v_o_isWrong g_o_now gA gW) H.size q → A q := va_freeC (E := (e_X8_addEasement cA o o_now o_saved o_aside o_history o_chains o_buffer o_numbers v_13 v_o_kept v_o_reason v_o_errorPosition v_o_isSaved v_o_length v_o_at v_o_isWrong g_o_now gA)) (Ec := (e_X8_remember cA o o_now o_saved o_aside o_history o_chains o_buffer o_numbers o_now v_13 v_o_kept v_o_reason v_o_errorPosition v_o_isSaved v_o_length v_o_at v_o_isWrong g_o_now gA)) (B := (gblk cA gA gW)) hD hS hA [0, 2, 1] rfl
            refine va_callv (va_runV (As := [.ref o_now]) (rest := []) ⟨hx, hb, hml, hown, hts⟩ (c_X8_remember l G cA o o_now o_saved o_aside o_history o_chains o_buffer o_numbers o_now H.size v_13 v_o_kept v_o_reason v_o_errorPosition v_o_isSaved v_o_length v_o_at v_o_isWrong g_o_now gA gW _ rfl (bnz hm hz)) (cwV 1 hts gX8_addEasement_X8_remember rfl rfl rfl (by decide +kernel) ⟨Nat.le_of_ble_eq_true rfl, Nat.le_of_ble_eq_true rfl⟩) (preMV (q := (RX8, TX8, 15)) hPc hDc hK 0 rfl rfl) rfl rfl hl.1 rfl (lv_room (Nat.le_of_ble_eq_true rfl)) dX8_addEasement_75 ⟨Nat.zero_le _, Nat.zero_le _⟩) hS (fun q _ h => hFc q h) hFc (fun u_16 t H locs ht hvm hw hB hz1 hk1 hS' => ?_)
            obtain ⟨v_15, h_16⟩ := u_16
            replace hm := bst hm hw
            replace hB : va_P G vwCl _ _ := hB
            rw [ht] at hB
            have hj := va_backC (E := (e_X8_addEasement cA o o_now o_saved o_aside o_history o_chains o_buffer o_numbers v_13 v_o_kept v_o_reason v_o_errorPosition v_o_isSaved v_o_length v_o_at v_o_isWrong g_o_now gA)) (E' := (e_X8_addEasement cA o o_now o_saved o_aside o_history o_chains o_buffer o_numbers v_13 v_15 v_o_reason v_o_errorPosition v_o_isSaved v_o_length v_o_at v_o_isWrong g_o_now gA)) (Ec := (e_X8_remember cA o o_now o_saved o_aside o_history o_chains o_buffer o_numbers o_now v_13 v_o_kept v_o_reason v_o_errorPosition v_o_isSaved v_o_length v_o_at v_o_isWrong g_o_now gA)) (Ec1 := (e_X8_remember cA o o_now o_saved o_aside o_history o_chains o_buffer o_numbers o_now v_13 v_15 v_o_reason v_o_errorPosition v_o_isSaved v_o_length v_o_at v_o_isWrong g_o_now gA)) (B := (gblk cA gA gW)) (B1 := (gblk cA gA h_16)) hP hD [0, 2, 1] rfl hk1 hB (gblk_addr ..) [(true, 0), (true, 2), (true, 1)] rfl (by decide) rfl
            replace hP : va_P G vwCl (k_X8_addEasement cA o o_now o_saved o_aside o_history o_chains o_buffer o_numbers v_13 v_15 v_o_reason v_o_errorPosition v_o_isSaved v_o_length v_o_at v_o_isWrong g_o_now gA h_16) H := hj.1
            replace hD : va_D A (k_X8_addEasement cA o o_now o_saved o_aside o_history o_chains o_buffer o_numbers v_13 v_15 v_o_reason v_o_errorPosition v_o_isSaved v_o_length v_o_at v_o_isWrong g_o_now gA h_16) := hj.2
            replace hS := hS'
            clear hj hPc hDc hFc hB
            refine lv_aload_n hx hb dX8_addEasement_78 rfl (lv_at hl 0 rfl) ?_
            refine lv_iload_n hx hb dX8_addEasement_79 rfl (lv_at hl 1 rfl) ?_
            refine lv_iload_n hx hb dX8_addEasement_80 rfl (lv_at hl 2 rfl) ?_
            refine lv_iload_n hx hb dX8_addEasement_81 rfl (lv_at hl 3 rfl) ?_
            have hPc := hP.sub (ws' := (k_X8_newEasement cA o o_now o_saved o_aside o_history o_chains o_buffer o_numbers v_13 v_15 v_o_reason v_o_errorPosition v_o_isSaved v_o_length v_o_at v_o_isWrong g_o_now)) [0, 1] rfl
            have hDc := hD.sub (ws' := (k_X8_newEasement cA o o_now o_saved o_aside o_history o_chains o_buffer o_numbers v_13 v_15 v_o_reason v_o_errorPosition v_o_isSaved v_o_length v_o_at v_o_isWrong g_o_now)) [0, 1] (by decide) rfl
            have hFc := va_free (wc := (k_X8_newEasement cA o o_now o_saved o_aside o_history o_chains o_buffer o_numbers v_13 v_15 v_o_reason v_o_errorPosition v_o_isSaved v_o_length v_o_at v_o_isWrong g_o_now)) hD hS hA [0, 1] rfl
            refine va_calli (va_runV (As := [.int p1, .int p2, .int p3]) (rest := []) ⟨hx, hb, hml, hown, hts⟩ (c_X8_newEasement l G cA o o_now o_saved o_aside o_history o_chains o_buffer o_numbers H.size p1 p2 p3 v_13 v_15 v_o_reason v_o_errorPosition v_o_isSaved v_o_length v_o_at v_o_isWrong g_o_now _ rfl (bnz hm hz)) (cwV 3 hts gX8_addEasement_X8_newEasement rfl rfl rfl (by decide +kernel) ⟨Nat.le_of_ble_eq_true rfl, Nat.le_of_ble_eq_true rfl⟩) (preMV (q := (RX8, TX8, 15)) hPc hDc hK 0 rfl rfl) rfl rfl hl.1 rfl (lv_room (Nat.le_of_ble_eq_true rfl)) dX8_addEasement_82 ⟨Nat.zero_le _, Nat.zero_le _⟩) hS (fun q _ h => hFc q h) hFc (fun r_17 u_18 t H locs ht hvm hw hB hz1 hk1 hS' => ?_)
            obtain ⟨g_18, rfl⟩ : ∃ z, z = u_18 := ⟨_, rfl⟩
            replace hm := bst hm hw
            replace hB : va_P G vwCl _ _ := hB
            rw [ht] at hB
            have hj := va_backB (E := (e_X8_addEasement cA o o_now o_saved o_aside o_history o_chains o_buffer o_numbers v_13 v_15 v_o_reason v_o_errorPosition v_o_isSaved v_o_length v_o_at v_o_isWrong g_o_now gA)) (E' := (e_X8_addEasement cA o o_now o_saved o_aside o_history o_chains o_buffer o_numbers v_13 v_15 v_o_reason v_o_errorPosition v_o_isSaved v_o_length v_o_at v_o_isWrong g_18 gA)) (B := (gblk cA gA h_16)) hP hD [0, 1] rfl hk1 hB [(true, 0), (true, 1), (false, 2)] rfl (by decide) rfl
            replace hP : va_P G vwCl (k_X8_addEasement cA o o_now o_saved o_aside o_history o_chains o_buffer o_numbers v_13 v_15 v_o_reason v_o_errorPosition v_o_isSaved v_o_length v_o_at v_o_isWrong g_18 gA h_16) H := hj.1
            replace hD : va_D A (k_X8_addEasement cA o o_now o_saved o_aside o_history o_chains o_buffer o_numbers v_13 v_15 v_o_reason v_o_errorPosition v_o_isSaved v_o_length v_o_at v_o_isWrong g_18 gA h_16) := hj.2
            replace hS := hS'
            clear hj hPc hDc hFc hB
            exact hret _ _ _ (v_13, v_15, g_18, h_16) _ _ dX8_addEasement_85 rfl hP hS hm.symm
          · replace hm := ie hm c_14
            refine lv_iconst (v := (0 : Int32)) hx hb dX8_addEasement_68 (by decide) ?_
            exact hret _ _ _ (v_13, v_o_kept, g_o_now, gW) _ _ dX8_addEasement_69 rfl hP hS hm.symm
      refine lv_if_eq (tgt := 43) hx hb dX8_addEasement_35 (by decide) (fun c_19 => ?_) (fun c_19 => ?_)
      · replace hm := it hm c_19
        refine lv_iconst (v := (1 : Int32)) hx hb dX8_addEasement_43 (by decide) ?_
        refine lv_goto (tgt := 48) hx hb dX8_addEasement_44 (by decide) ?_
        exact J48_1 (1 : Int32) _ _ _ hm hP hD hS (lv_sub hl [0, 1, 2, 3] rfl)
      · replace hm := ie hm c_19
        refine lv_iload_n hx hb dX8_addEasement_38 rfl (lv_at hl 2 rfl) ?_
        refine lv_iload_n hx hb dX8_addEasement_39 rfl (lv_at hl 3 rfl) ?_
        refine lv_icmp_ne (tgt := 47) hx hb dX8_addEasement_40 (by decide) (fun c_20 => ?_) (fun c_20 => ?_)
        · replace hm := ie hm c_20
          refine lv_iconst (v := (0 : Int32)) hx hb dX8_addEasement_47 (by decide) ?_
          exact J48_1 (0 : Int32) _ _ _ hm hP hD hS (lv_sub hl [0, 1, 2, 3] rfl)
        · replace hm := it hm c_20
          refine lv_iconst (v := (1 : Int32)) hx hb dX8_addEasement_43 (by decide) ?_
          refine lv_goto (tgt := 48) hx hb dX8_addEasement_44 (by decide) ?_
          exact J48_1 (1 : Int32) _ _ _ hm hP hD hS (lv_sub hl [0, 1, 2, 3] rfl)
  refine lv_if_eq (tgt := 18) hx hb dX8_addEasement_7 (by decide) (fun c_21 => ?_) (fun c_21 => ?_)
  · replace hm := it hm c_21
    refine lv_iconst (v := (1 : Int32)) hx hb dX8_addEasement_18 (by decide) ?_
    refine lv_goto (tgt := 23) hx hb dX8_addEasement_19 (by decide) ?_
    exact J23_2 (1 : Int32) _ _ _ hm hP hD hS (lv_sub hl [0, 1, 2, 3] rfl)
  · replace hm := ie hm c_21
    refine lv_aload_n hx hb dX8_addEasement_10 rfl (lv_at hl 0 rfl) ?_
    refine lv_iload_n hx hb dX8_addEasement_11 rfl (lv_at hl 3 rfl) ?_
    refine vp_callSi (va_Run.run (va_runV (As := [.int p3]) (rest := [.int (1 : Int32), .ref o]) ⟨hx, hb, hml, hown, hts⟩ (c_X8_isParcel l G cA o o_now o_saved o_aside o_history o_chains o_buffer o_numbers p3 v_o_thrown v_o_kept v_o_reason v_o_errorPosition v_o_isSaved v_o_length v_o_at v_o_isWrong g_o_now _ rfl (bnz hm hz)) (cwV 1 hts gX8_addEasement_X8_isParcel rfl rfl rfl (by decide +kernel) ⟨Nat.le_of_ble_eq_true rfl, Nat.le_of_ble_eq_true rfl⟩) (preRV (q := (RX8, TX8, 15)) (hP.sub [0, 1] rfl) hK 0 rfl rfl) rfl rfl hl.1 rfl (lv_room (Nat.le_of_ble_eq_true rfl)) dX8_addEasement_12 ⟨Nat.zero_le _, Nat.zero_le _⟩)) (fun r_22 hw => ?_)
    replace hm := bst hm hw.1
    refine lv_if_ne (tgt := 22) hx hb dX8_addEasement_15 (by decide) (fun c_23 => ?_) (fun c_23 => ?_)
    · replace hm := ie hm c_23
      refine lv_iconst (v := (0 : Int32)) hx hb dX8_addEasement_22 (by decide) ?_
      exact J23_2 (0 : Int32) _ _ _ hm hP hD hS (lv_sub hl [0, 1, 2, 3] rfl)
    · replace hm := it hm c_23
      refine lv_iconst (v := (1 : Int32)) hx hb dX8_addEasement_18 (by decide) ?_
      refine lv_goto (tgt := 23) hx hb dX8_addEasement_19 (by decide) ?_
      exact J23_2 (1 : Int32) _ _ _ hm hP hD hS (lv_sub hl [0, 1, 2, 3] rfl)
def m_X8_endEasement_J36 (g_o_now : Nat → Int32) (gW : Nat → Nat → Int32) (v_o_kept : Int32) (p1 : Int32) : (Int32) → Option (Int32 × Int32 × Int32 × (Nat → Int32) × (Nat → Nat → Int32)) := fun y_7 => Option.bind (m_X8_fails (2 : Int32) y_7) (fun q => match q with
  | (r_8, v_9) => (if r_8 = 0 then Option.bind (m_X8_remember v_o_kept g_o_now gW) (fun q => match q with
  | (v_11, h_12) => gd (ix (0 : Int32) 621) (Option.bind (m_X8_setEasement p1 (4 : Int32) (g_o_now (0 : Int32).toNatClampNeg) g_o_now) (fun g_14 => Option.bind (m_X8_countEasements g_14) (fun r_15 => some (r_15, v_9, v_11, g_14, h_12))))) else some ((0 : Int32), v_9, v_o_kept, g_o_now, gW)))
def m_X8_endEasement_J15 (g_o_now : Nat → Int32) (gW : Nat → Nat → Int32) (v_o_kept : Int32) (p1 : Int32) : (Int32) → Option (Int32 × Int32 × Int32 × (Nat → Int32) × (Nat → Nat → Int32)) := fun y_2 => Option.bind (m_X8_fails (1 : Int32) y_2) (fun q => match q with
  | (r_3, v_4) => (if r_3 = 0 then Option.bind (m_X8_lasts p1 g_o_now) (fun r_6 => (if r_6 = 0 then m_X8_endEasement_J36 g_o_now gW v_o_kept p1 (1 : Int32) else m_X8_endEasement_J36 g_o_now gW v_o_kept p1 (0 : Int32))) else some ((0 : Int32), v_4, v_o_kept, g_o_now, gW)))
def m_X8_endEasement (p1 : Int32) (v_o_kept : Int32) (g_o_now : Nat → Int32) (gW : Nat → Nat → Int32) : Option (Int32 × Int32 × Int32 × (Nat → Int32) × (Nat → Nat → Int32)) := Option.bind (m_X8_isEasement p1 g_o_now) (fun r_1 => (if r_1 = 0 then m_X8_endEasement_J15 g_o_now gW v_o_kept p1 (1 : Int32) else m_X8_endEasement_J15 g_o_now gW v_o_kept p1 (0 : Int32)))
abbrev e_X8_endEasement (cA : Nat → ClassId) (o o_now o_saved o_aside o_history o_chains o_buffer o_numbers : Nat) (v_o_thrown : Int32) (v_o_kept : Int32) (v_o_reason : Int32) (v_o_errorPosition : Int32) (v_o_isSaved : Int32) (v_o_length : Int32) (v_o_at : Int32) (v_o_isWrong : Int32) (g_o_now : Nat → Int32) (gA : Nat → Nat) : va_W := [(o, .inr (10, [.int v_o_thrown, .ref o_now, .ref o_saved, .ref o_aside, .ref o_history, .int v_o_kept, .int v_o_reason, .int v_o_errorPosition, .int v_o_isSaved, .ref o_chains, .ref o_buffer, .int v_o_length, .int v_o_at, .int v_o_isWrong, .ref o_numbers])), (o_now, .inl (cA 0, 621, .inl g_o_now)), (o_history, .inl (cA 3, 6, .inr (.inr (.inr (.inr (fun j => some (gA j)))))))]
abbrev k_X8_endEasement (cA : Nat → ClassId) (o o_now o_saved o_aside o_history o_chains o_buffer o_numbers : Nat) (v_o_thrown : Int32) (v_o_kept : Int32) (v_o_reason : Int32) (v_o_errorPosition : Int32) (v_o_isSaved : Int32) (v_o_length : Int32) (v_o_at : Int32) (v_o_isWrong : Int32) (g_o_now : Nat → Int32) (gA : Nat → Nat) (gW : Nat → Nat → Int32) : va_W := e_X8_endEasement cA o o_now o_saved o_aside o_history o_chains o_buffer o_numbers v_o_thrown v_o_kept v_o_reason v_o_errorPosition v_o_isSaved v_o_length v_o_at v_o_isWrong g_o_now gA ++ gblk cA gA gW
set_option maxHeartbeats 4000000 in
set_option maxRecDepth 100000 in
/-- X8_endEasement: as its model -/
theorem c_X8_endEasement (l : Launch) (G : va_G) (cA : Nat → ClassId) (o o_now o_saved o_aside o_history o_chains o_buffer o_numbers : Nat) (sz : Nat) (p1 : Int32) (v_o_thrown : Int32) (v_o_kept : Int32) (v_o_reason : Int32) (v_o_errorPosition : Int32) (v_o_isSaved : Int32) (v_o_length : Int32) (v_o_at : Int32) (v_o_isWrong : Int32) (g_o_now : Nat → Int32) (gA : Nat → Nat) (gW : Nat → Nat → Int32) (R : Option (Int32 × Int32 × Int32 × (Nat → Int32) × (Nat → Nat → Int32))) (hR : m_X8_endEasement p1 v_o_kept g_o_now gW = R) (hz : R ≠ none) : Met l yX8_endEasement wsX8_endEasement ({ frames := 3, cells := 0, slots := 0, locals := 65 } : Room) (va_Pc [.ref o, .int p1] (PM G cA (k_X8_endEasement cA o o_now o_saved o_aside o_history o_chains o_buffer o_numbers v_o_thrown v_o_kept v_o_reason v_o_errorPosition v_o_isSaved v_o_length v_o_at v_o_isWrong g_o_now gA gW) sz)) (va_Qi (fun (r : Int32) (u : Int32 × Int32 × (Nat → Int32) × (Nat → Nat → Int32)) => R = some (r, u)) (BM G (fun (u : Int32 × Int32 × (Nat → Int32) × (Nat → Nat → Int32)) => (k_X8_endEasement cA o o_now o_saved o_aside o_history o_chains o_buffer o_numbers u.1 u.2.1 v_o_reason v_o_errorPosition v_o_isSaved v_o_length v_o_at v_o_isWrong u.2.2.1 gA u.2.2.2))) (va_A (k_X8_endEasement cA o o_now o_saved o_aside o_history o_chains o_buffer o_numbers v_o_thrown v_o_kept v_o_reason v_o_errorPosition v_o_isSaved v_o_length v_o_at v_o_isWrong g_o_now gA gW) sz)) 0 0 (va_A (k_X8_endEasement cA o o_now o_saved o_aside o_history o_chains o_buffer o_numbers v_o_thrown v_o_kept v_o_reason v_o_errorPosition v_o_isSaved v_o_length v_o_at v_o_isWrong g_o_now gA gW) sz) := by
  refine metM .int (by decide) rfl (Nat.le_of_ble_eq_true rfl) ?_
  intro p e s m av below meth c Q ls A H hx hb hml hts hown hP hK hD hA hS hl hret
  replace hl : lv_has ls 2 [(0, .ref o), (1, .int p1)] := hl
  have w_0 := hts (.fieldLink RX8 9 "ParcelRegistryModel" "now" "[I") (by decide +kernel)
  have i_X8 : ∀ w ∈ wsX80, w ∈ wsX8_endEasement := by decide +kernel
  have hm := hR
  unfold m_X8_endEasement at hm
  refine lv_aload_n hx hb dX8_endEasement_0 rfl (lv_at hl 0 rfl) ?_
  refine lv_iconst (v := (1 : Int32)) hx hb dX8_endEasement_1 (by decide) ?_
  refine lv_aload_n hx hb dX8_endEasement_2 rfl (lv_at hl 0 rfl) ?_
  refine lv_iload_n hx hb dX8_endEasement_3 rfl (lv_at hl 1 rfl) ?_
  refine vp_callSi (va_Run.run (va_runV (As := [.int p1]) (rest := [.int (1 : Int32), .ref o]) ⟨hx, hb, hml, hown, hts⟩ (c_X8_isEasement l G cA o o_now o_saved o_aside o_history o_chains o_buffer o_numbers p1 v_o_thrown v_o_kept v_o_reason v_o_errorPosition v_o_isSaved v_o_length v_o_at v_o_isWrong g_o_now _ rfl (bnz hm hz)) (cwV 1 hts gX8_endEasement_X8_isEasement rfl rfl rfl (by decide +kernel) ⟨Nat.le_of_ble_eq_true rfl, Nat.le_of_ble_eq_true rfl⟩) (preRV (q := (RX8, TX8, 15)) (hP.sub [0, 1] rfl) hK 0 rfl rfl) rfl rfl hl.1 rfl (lv_room (Nat.le_of_ble_eq_true rfl)) dX8_endEasement_4 ⟨Nat.zero_le _, Nat.zero_le _⟩)) (fun r_1 hw => ?_)
  replace hm := bst hm hw.1
  have J15_2 : ∀ (y_2 : Int32), ∀ (H : Heap) (locs : List Loc) (ls : Array Slot), m_X8_endEasement_J15 g_o_now gW v_o_kept p1 y_2 = R → va_P G vwCl (k_X8_endEasement cA o o_now o_saved o_aside o_history o_chains o_buffer o_numbers v_o_thrown v_o_kept v_o_reason v_o_errorPosition v_o_isSaved v_o_length v_o_at v_o_isWrong g_o_now gA gW) H → va_D A (k_X8_endEasement cA o o_now o_saved o_aside o_history o_chains o_buffer o_numbers v_o_thrown v_o_kept v_o_reason v_o_errorPosition v_o_isSaved v_o_length v_o_at v_o_isWrong g_o_now gA gW) → va_S A s.heap H locs → lv_has ls 2 [(0, .ref o), (1, .int p1)] → W p l e ({ frames := 3, cells := 0, slots := 0, locals := 65 } : Room) s m av below meth c H locs 0 0 Q (F0 m 15 ls [.int y_2, .int (1 : Int32), .ref o]) := by
    intro y_2 H locs ls hm hP hD hS hl
    unfold m_X8_endEasement_J15 at hm
    have hPc := hP.sub (ws' := (k_X8_fails cA o o_now o_saved o_aside o_history o_chains o_buffer o_numbers v_o_thrown v_o_kept v_o_reason v_o_errorPosition v_o_isSaved v_o_length v_o_at v_o_isWrong)) [0] rfl
    have hDc := hD.sub (ws' := (k_X8_fails cA o o_now o_saved o_aside o_history o_chains o_buffer o_numbers v_o_thrown v_o_kept v_o_reason v_o_errorPosition v_o_isSaved v_o_length v_o_at v_o_isWrong)) [0] (by decide) rfl
    have hFc := va_free (wc := (k_X8_fails cA o o_now o_saved o_aside o_history o_chains o_buffer o_numbers v_o_thrown v_o_kept v_o_reason v_o_errorPosition v_o_isSaved v_o_length v_o_at v_o_isWrong)) hD hS hA [0] rfl
    refine va_calli (va_runV (As := [.int (1 : Int32), .int y_2]) (rest := []) ⟨hx, hb, hml, hown, hts⟩ (c_X8_fails l G cA o o_now o_saved o_aside o_history o_chains o_buffer o_numbers H.size (1 : Int32) y_2 v_o_thrown v_o_kept v_o_reason v_o_errorPosition v_o_isSaved v_o_length v_o_at v_o_isWrong _ rfl (bnz hm hz)) (cwV 2 hts gX8_endEasement_X8_fails rfl rfl rfl (by decide +kernel) ⟨Nat.le_of_ble_eq_true rfl, Nat.le_of_ble_eq_true rfl⟩) (preMV (q := (RX8, TX8, 15)) hPc hDc hK 0 rfl rfl) rfl rfl hl.1 rfl (lv_room (Nat.le_of_ble_eq_true rfl)) dX8_endEasement_15 ⟨Nat.zero_le _, Nat.zero_le _⟩) hS (fun q _ h => hFc q h) hFc (fun r_3 u_4 t H locs ht hvm hw hB hz1 hk1 hS' => ?_)
    obtain ⟨v_4, rfl⟩ : ∃ z, z = u_4 := ⟨_, rfl⟩
    replace hm := bst hm hw.1
    replace hB : va_P G vwCl _ _ := hB
    rw [ht] at hB
    have hj := va_backB (E := (e_X8_endEasement cA o o_now o_saved o_aside o_history o_chains o_buffer o_numbers v_o_thrown v_o_kept v_o_reason v_o_errorPosition v_o_isSaved v_o_length v_o_at v_o_isWrong g_o_now gA)) (E' := (e_X8_endEasement cA o o_now o_saved o_aside o_history o_chains o_buffer o_numbers v_4 v_o_kept v_o_reason v_o_errorPosition v_o_isSaved v_o_length v_o_at v_o_isWrong g_o_now gA)) (B := (gblk cA gA gW)) hP hD [0] rfl hk1 hB [(true, 0), (false, 1), (false, 2)] rfl (by decide) rfl
    replace hP : va_P G vwCl (k_X8_endEasement cA o o_now o_saved o_aside o_history o_chains o_buffer o_numbers v_4 v_o_kept v_o_reason v_o_errorPosition v_o_isSaved v_o_length v_o_at v_o_isWrong g_o_now gA gW) H := hj.1
    replace hD : va_D A (k_X8_endEasement cA o o_now o_saved o_aside o_history o_chains o_buffer o_numbers v_4 v_o_kept v_o_reason v_o_errorPosition v_o_isSaved v_o_length v_o_at v_o_isWrong g_o_now gA gW) := hj.2
    replace hS := hS'
    clear hj hPc hDc hFc hB
    refine lv_if_ne (tgt := 42) hx hb dX8_endEasement_18 (by decide) (fun c_5 => ?_) (fun c_5 => ?_)
    · replace hm := ie hm c_5
      refine lv_iconst (v := (0 : Int32)) hx hb dX8_endEasement_42 (by decide) ?_
      exact hret _ _ _ (v_4, v_o_kept, g_o_now, gW) _ _ dX8_endEasement_43 rfl hP hS hm.symm
    · replace hm := it hm c_5
      refine lv_aload_n hx hb dX8_endEasement_21 rfl (lv_at hl 0 rfl) ?_
      refine lv_iconst (v := (2 : Int32)) hx hb dX8_endEasement_22 (by decide) ?_
      refine lv_aload_n hx hb dX8_endEasement_23 rfl (lv_at hl 0 rfl) ?_
      refine lv_iload_n hx hb dX8_endEasement_24 rfl (lv_at hl 1 rfl) ?_
      refine vp_callSi (va_Run.run (va_runV (As := [.int p1]) (rest := [.int (2 : Int32), .ref o]) ⟨hx, hb, hml, hown, hts⟩ (c_X8_lasts l G cA o o_now o_saved o_aside o_history o_chains o_buffer o_numbers p1 v_4 v_o_kept v_o_reason v_o_errorPosition v_o_isSaved v_o_length v_o_at v_o_isWrong g_o_now _ rfl (bnz hm hz)) (cwV 1 hts gX8_endEasement_X8_lasts rfl rfl rfl (by decide +kernel) ⟨Nat.le_of_ble_eq_true rfl, Nat.le_of_ble_eq_true rfl⟩) (preRV (q := (RX8, TX8, 15)) (hP.sub [0, 1] rfl) hK 0 rfl rfl) rfl rfl hl.1 rfl (lv_room (Nat.le_of_ble_eq_true rfl)) dX8_endEasement_25 ⟨Nat.zero_le _, Nat.zero_le _⟩)) (fun r_6 hw => ?_)
      replace hm := bst hm hw.1
      have J36_1 : ∀ (y_7 : Int32), ∀ (H : Heap) (locs : List Loc) (ls : Array Slot), m_X8_endEasement_J36 g_o_now gW v_o_kept p1 y_7 = R → va_P G vwCl (k_X8_endEasement cA o o_now o_saved o_aside o_history o_chains o_buffer o_numbers v_4 v_o_kept v_o_reason v_o_errorPosition v_o_isSaved v_o_length v_o_at v_o_isWrong g_o_now gA gW) H → va_D A (k_X8_endEasement cA o o_now o_saved o_aside o_history o_chains o_buffer o_numbers v_4 v_o_kept v_o_reason v_o_errorPosition v_o_isSaved v_o_length v_o_at v_o_isWrong g_o_now gA gW) → va_S A s.heap H locs → lv_has ls 2 [(0, .ref o), (1, .int p1)] → W p l e ({ frames := 3, cells := 0, slots := 0, locals := 65 } : Room) s m av below meth c H locs 0 0 Q (F0 m 36 ls [.int y_7, .int (2 : Int32), .ref o]) := by
        intro y_7 H locs ls hm hP hD hS hl
        unfold m_X8_endEasement_J36 at hm
        have hPc := hP.sub (ws' := (k_X8_fails cA o o_now o_saved o_aside o_history o_chains o_buffer o_numbers v_4 v_o_kept v_o_reason v_o_errorPosition v_o_isSaved v_o_length v_o_at v_o_isWrong)) [0] rfl
        have hDc := hD.sub (ws' := (k_X8_fails cA o o_now o_saved o_aside o_history o_chains o_buffer o_numbers v_4 v_o_kept v_o_reason v_o_errorPosition v_o_isSaved v_o_length v_o_at v_o_isWrong)) [0] (by decide) rfl
        have hFc := va_free (wc := (k_X8_fails cA o o_now o_saved o_aside o_history o_chains o_buffer o_numbers v_4 v_o_kept v_o_reason v_o_errorPosition v_o_isSaved v_o_length v_o_at v_o_isWrong)) hD hS hA [0] rfl
        refine va_calli (va_runV (As := [.int (2 : Int32), .int y_7]) (rest := []) ⟨hx, hb, hml, hown, hts⟩ (c_X8_fails l G cA o o_now o_saved o_aside o_history o_chains o_buffer o_numbers H.size (2 : Int32) y_7 v_4 v_o_kept v_o_reason v_o_errorPosition v_o_isSaved v_o_length v_o_at v_o_isWrong _ rfl (bnz hm hz)) (cwV 2 hts gX8_endEasement_X8_fails rfl rfl rfl (by decide +kernel) ⟨Nat.le_of_ble_eq_true rfl, Nat.le_of_ble_eq_true rfl⟩) (preMV (q := (RX8, TX8, 15)) hPc hDc hK 0 rfl rfl) rfl rfl hl.1 rfl (lv_room (Nat.le_of_ble_eq_true rfl)) dX8_endEasement_36 ⟨Nat.zero_le _, Nat.zero_le _⟩) hS (fun q _ h => hFc q h) hFc (fun r_8 u_9 t H locs ht hvm hw hB hz1 hk1 hS' => ?_)
        obtain ⟨v_9, rfl⟩ : ∃ z, z = u_9 := ⟨_, rfl⟩
        replace hm := bst hm hw.1
        replace hB : va_P G vwCl _ _ := hB
        rw [ht] at hB
        have hj := va_backB (E := (e_X8_endEasement cA o o_now o_saved o_aside o_history o_chains o_buffer o_numbers v_4 v_o_kept v_o_reason v_o_errorPosition v_o_isSaved v_o_length v_o_at v_o_isWrong g_o_now gA)) (E' := (e_X8_endEasement cA o o_now o_saved o_aside o_history o_chains o_buffer o_numbers v_9 v_o_kept v_o_reason v_o_errorPosition v_o_isSaved v_o_length v_o_at v_o_isWrong g_o_now gA)) (B := (gblk cA gA gW)) hP hD [0] rfl hk1 hB [(true, 0), (false, 1), (false, 2)] rfl (by decide) rfl
        replace hP : va_P G vwCl (k_X8_endEasement cA o o_now o_saved o_aside o_history o_chains o_buffer o_numbers v_9 v_o_kept v_o_reason v_o_errorPosition v_o_isSaved v_o_length v_o_at v_o_isWrong g_o_now gA gW) H := hj.1
        replace hD : va_D A (k_X8_endEasement cA o o_now o_saved o_aside o_history o_chains o_buffer o_numbers v_9 v_o_kept v_o_reason v_o_errorPosition v_o_isSaved v_o_length v_o_at v_o_isWrong g_o_now gA gW) := hj.2
        replace hS := hS'
        clear hj hPc hDc hFc hB
        refine lv_if_eq (tgt := 44) hx hb dX8_endEasement_39 (by decide) (fun c_10 => ?_) (fun c_10 => ?_)
        · replace hm := it hm c_10
          refine lv_aload_n hx hb dX8_endEasement_44 rfl (lv_at hl 0 rfl) ?_
          refine lv_aload_n hx hb dX8_endEasement_45 rfl (lv_at hl 0 rfl) ?_
          refine va_get (D := G) (ci := 10) (v := .ref o_now) (C := RX8) (T := TX8) (N := 15) hx hb hts i_X8 hown hK.1 hP 0 rfl rfl 1 (by decide) w_0 (fun _ h9 => h9) rfl dX8_endEasement_46 ?_
          have hPc : va_P G vwCl (k_X8_remember cA o o_now o_saved o_aside o_history o_chains o_buffer o_numbers o_now v_9 v_o_kept v_o_reason v_o_errorPosition v_o_isSaved v_o_length v_o_at v_o_isWrong g_o_now gA gW) H := va_subC (E := (e_X8_endEasement cA o o_now o_saved o_aside o_history o_chains o_buffer o_numbers v_9 v_o_kept v_o_reason v_o_errorPosition v_o_isSaved v_o_length v_o_at v_o_isWrong g_o_now gA)) (Ec := (e_X8_remember cA o o_now o_saved o_aside o_history o_chains o_buffer o_numbers o_now v_9 v_o_kept v_o_reason v_o_errorPosition v_o_isSaved v_o_length v_o_at v_o_isWrong g_o_now gA)) (B := (gblk cA gA gW)) hP [0, 2, 1] rfl
          have hDc : va_D A (k_X8_remember cA o o_now o_saved o_aside o_history o_chains o_buffer o_numbers o_now v_9 v_o_kept v_o_reason v_o_errorPosition v_o_isSaved v_o_length v_o_at v_o_isWrong g_o_now gA gW) := va_subCD (E := (e_X8_endEasement cA o o_now o_saved o_aside o_history o_chains o_buffer o_numbers v_9 v_o_kept v_o_reason v_o_errorPosition v_o_isSaved v_o_length v_o_at v_o_isWrong g_o_now gA)) (Ec := (e_X8_remember cA o o_now o_saved o_aside o_history o_chains o_buffer o_numbers o_now v_9 v_o_kept v_o_reason v_o_errorPosition v_o_isSaved v_o_length v_o_at v_o_isWrong g_o_now gA)) (B := (gblk cA gA gW)) hD [0, 2, 1] (by decide) rfl
          have hFc : ∀ q, va_A (k_X8_remember cA o o_now o_saved o_aside o_history o_chains o_buffer o_numbers o_now v_9 v_o_kept v_o_reason v_o_errorPosition v_o_isSaved v_o_length v_o_at v_o_isWrong g_o_now gA gW) H.size q → A q := va_freeC (E := (e_X8_endEasement cA o o_now o_saved o_aside o_history o_chains o_buffer o_numbers v_9 v_o_kept v_o_reason v_o_errorPosition v_o_isSaved v_o_length v_o_at v_o_isWrong g_o_now gA)) (Ec := (e_X8_remember cA o o_now o_saved o_aside o_history o_chains o_buffer o_numbers o_now v_9 v_o_kept v_o_reason v_o_errorPosition v_o_isSaved v_o_length v_o_at v_o_isWrong g_o_now gA)) (B := (gblk cA gA gW)) hD hS hA [0, 2, 1] rfl
          refine va_callv (va_runV (As := [.ref o_now]) (rest := []) ⟨hx, hb, hml, hown, hts⟩ (c_X8_remember l G cA o o_now o_saved o_aside o_history o_chains o_buffer o_numbers o_now H.size v_9 v_o_kept v_o_reason v_o_errorPosition v_o_isSaved v_o_length v_o_at v_o_isWrong g_o_now gA gW _ rfl (bnz hm hz)) (cwV 1 hts gX8_endEasement_X8_remember rfl rfl rfl (by decide +kernel) ⟨Nat.le_of_ble_eq_true rfl, Nat.le_of_ble_eq_true rfl⟩) (preMV (q := (RX8, TX8, 15)) hPc hDc hK 0 rfl rfl) rfl rfl hl.1 rfl (lv_room (Nat.le_of_ble_eq_true rfl)) dX8_endEasement_49 ⟨Nat.zero_le _, Nat.zero_le _⟩) hS (fun q _ h => hFc q h) hFc (fun u_12 t H locs ht hvm hw hB hz1 hk1 hS' => ?_)
          obtain ⟨v_11, h_12⟩ := u_12
          replace hm := bst hm hw
          replace hB : va_P G vwCl _ _ := hB
          rw [ht] at hB
          have hj := va_backC (E := (e_X8_endEasement cA o o_now o_saved o_aside o_history o_chains o_buffer o_numbers v_9 v_o_kept v_o_reason v_o_errorPosition v_o_isSaved v_o_length v_o_at v_o_isWrong g_o_now gA)) (E' := (e_X8_endEasement cA o o_now o_saved o_aside o_history o_chains o_buffer o_numbers v_9 v_11 v_o_reason v_o_errorPosition v_o_isSaved v_o_length v_o_at v_o_isWrong g_o_now gA)) (Ec := (e_X8_remember cA o o_now o_saved o_aside o_history o_chains o_buffer o_numbers o_now v_9 v_o_kept v_o_reason v_o_errorPosition v_o_isSaved v_o_length v_o_at v_o_isWrong g_o_now gA)) (Ec1 := (e_X8_remember cA o o_now o_saved o_aside o_history o_chains o_buffer o_numbers o_now v_9 v_11 v_o_reason v_o_errorPosition v_o_isSaved v_o_length v_o_at v_o_isWrong g_o_now gA)) (B := (gblk cA gA gW)) (B1 := (gblk cA gA h_12)) hP hD [0, 2, 1] rfl hk1 hB (gblk_addr ..) [(true, 0), (true, 2), (true, 1)] rfl (by decide) rfl
          replace hP : va_P G vwCl (k_X8_endEasement cA o o_now o_saved o_aside o_history o_chains o_buffer o_numbers v_9 v_11 v_o_reason v_o_errorPosition v_o_isSaved v_o_length v_o_at v_o_isWrong g_o_now gA h_12) H := hj.1
          replace hD : va_D A (k_X8_endEasement cA o o_now o_saved o_aside o_history o_chains o_buffer o_numbers v_9 v_11 v_o_reason v_o_errorPosition v_o_isSaved v_o_length v_o_at v_o_isWrong g_o_now gA h_12) := hj.2
          replace hS := hS'
          clear hj hPc hDc hFc hB
          refine lv_aload_n hx hb dX8_endEasement_52 rfl (lv_at hl 0 rfl) ?_
          refine lv_iload_n hx hb dX8_endEasement_53 rfl (lv_at hl 1 rfl) ?_
          refine lv_iconst (v := (4 : Int32)) hx hb dX8_endEasement_54 (by decide) ?_
          refine lv_aload_n hx hb dX8_endEasement_55 rfl (lv_at hl 0 rfl) ?_
          refine va_get (D := G) (ci := 10) (v := .ref o_now) (C := RX8) (T := TX8) (N := 15) hx hb hts i_X8 hown hK.1 hP 0 rfl rfl 1 (by decide) w_0 (fun _ h9 => h9) rfl dX8_endEasement_56 ?_
          refine lv_iconst (v := (0 : Int32)) hx hb dX8_endEasement_59 (by decide) ?_
          replace hm := gdo hm hz
          obtain ⟨gi_13, hm⟩ := hm
          refine va_iald hx hb hK.1 hP 1 0 (cA := cA 0) (n := 621) (f := g_o_now) rfl rfl (ixi gi_13) dX8_endEasement_60 ?_
          have hPc := hP.sub (ws' := (k_X8_setEasement cA o o_now o_saved o_aside o_history o_chains o_buffer o_numbers v_9 v_11 v_o_reason v_o_errorPosition v_o_isSaved v_o_length v_o_at v_o_isWrong g_o_now)) [0, 1] rfl
          have hDc := hD.sub (ws' := (k_X8_setEasement cA o o_now o_saved o_aside o_history o_chains o_buffer o_numbers v_9 v_11 v_o_reason v_o_errorPosition v_o_isSaved v_o_length v_o_at v_o_isWrong g_o_now)) [0, 1] (by decide) rfl
          have hFc := va_free (wc := (k_X8_setEasement cA o o_now o_saved o_aside o_history o_chains o_buffer o_numbers v_9 v_11 v_o_reason v_o_errorPosition v_o_isSaved v_o_length v_o_at v_o_isWrong g_o_now)) hD hS hA [0, 1] rfl
          refine va_callv (va_runV (As := [.int p1, .int (4 : Int32), .int (g_o_now (0 : Int32).toNatClampNeg)]) (rest := []) ⟨hx, hb, hml, hown, hts⟩ (c_X8_setEasement l G cA o o_now o_saved o_aside o_history o_chains o_buffer o_numbers H.size p1 (4 : Int32) (g_o_now (0 : Int32).toNatClampNeg) v_9 v_11 v_o_reason v_o_errorPosition v_o_isSaved v_o_length v_o_at v_o_isWrong g_o_now _ rfl (bnz hm hz)) (cwV 3 hts gX8_endEasement_X8_setEasement rfl rfl rfl (by decide +kernel) ⟨Nat.le_of_ble_eq_true rfl, Nat.le_of_ble_eq_true rfl⟩) (preMV (q := (RX8, TX8, 15)) hPc hDc hK 0 rfl rfl) rfl rfl hl.1 rfl (lv_room (Nat.le_of_ble_eq_true rfl)) dX8_endEasement_61 ⟨Nat.zero_le _, Nat.zero_le _⟩) hS (fun q _ h => hFc q h) hFc (fun u_14 t H locs ht hvm hw hB hz1 hk1 hS' => ?_)
          obtain ⟨g_14, rfl⟩ : ∃ z, z = u_14 := ⟨_, rfl⟩
          replace hm := bst hm hw
          replace hB : va_P G vwCl _ _ := hB
          rw [ht] at hB
          have hj := va_backB (E := (e_X8_endEasement cA o o_now o_saved o_aside o_history o_chains o_buffer o_numbers v_9 v_11 v_o_reason v_o_errorPosition v_o_isSaved v_o_length v_o_at v_o_isWrong g_o_now gA)) (E' := (e_X8_endEasement cA o o_now o_saved o_aside o_history o_chains o_buffer o_numbers v_9 v_11 v_o_reason v_o_errorPosition v_o_isSaved v_o_length v_o_at v_o_isWrong g_14 gA)) (B := (gblk cA gA h_12)) hP hD [0, 1] rfl hk1 hB [(true, 0), (true, 1), (false, 2)] rfl (by decide) rfl
          replace hP : va_P G vwCl (k_X8_endEasement cA o o_now o_saved o_aside o_history o_chains o_buffer o_numbers v_9 v_11 v_o_reason v_o_errorPosition v_o_isSaved v_o_length v_o_at v_o_isWrong g_14 gA h_12) H := hj.1
          replace hD : va_D A (k_X8_endEasement cA o o_now o_saved o_aside o_history o_chains o_buffer o_numbers v_9 v_11 v_o_reason v_o_errorPosition v_o_isSaved v_o_length v_o_at v_o_isWrong g_14 gA h_12) := hj.2
          replace hS := hS'
          clear hj hPc hDc hFc hB
          refine lv_aload_n hx hb dX8_endEasement_64 rfl (lv_at hl 0 rfl) ?_
          refine vp_callSi (va_Run.run (va_runV (As := []) (rest := []) ⟨hx, hb, hml, hown, hts⟩ (c_X8_countEasements l G cA o o_now o_saved o_aside o_history o_chains o_buffer o_numbers v_9 v_11 v_o_reason v_o_errorPosition v_o_isSaved v_o_length v_o_at v_o_isWrong g_14 _ rfl (bnz hm hz)) (cwV 0 hts gX8_endEasement_X8_countEasements rfl rfl rfl (by decide +kernel) ⟨Nat.le_of_ble_eq_true rfl, Nat.le_of_ble_eq_true rfl⟩) (preRV (q := (RX8, TX8, 15)) (hP.sub [0, 1] rfl) hK 0 rfl rfl) rfl rfl hl.1 rfl (lv_room (Nat.le_of_ble_eq_true rfl)) dX8_endEasement_65 ⟨Nat.zero_le _, Nat.zero_le _⟩)) (fun r_15 hw => ?_)
          replace hm := bst hm hw
          exact hret _ _ _ (v_9, v_11, g_14, h_12) _ _ dX8_endEasement_68 rfl hP hS hm.symm
        · replace hm := ie hm c_10
          refine lv_iconst (v := (0 : Int32)) hx hb dX8_endEasement_42 (by decide) ?_
          exact hret _ _ _ (v_9, v_o_kept, g_o_now, gW) _ _ dX8_endEasement_43 rfl hP hS hm.symm
      refine lv_if_ne (tgt := 35) hx hb dX8_endEasement_28 (by decide) (fun c_16 => ?_) (fun c_16 => ?_)
      · replace hm := ie hm c_16
        refine lv_iconst (v := (0 : Int32)) hx hb dX8_endEasement_35 (by decide) ?_
        exact J36_1 (0 : Int32) _ _ _ hm hP hD hS (lv_sub hl [0, 1] rfl)
      · replace hm := it hm c_16
        refine lv_iconst (v := (1 : Int32)) hx hb dX8_endEasement_31 (by decide) ?_
        refine lv_goto (tgt := 36) hx hb dX8_endEasement_32 (by decide) ?_
        exact J36_1 (1 : Int32) _ _ _ hm hP hD hS (lv_sub hl [0, 1] rfl)
  refine lv_if_ne (tgt := 14) hx hb dX8_endEasement_7 (by decide) (fun c_17 => ?_) (fun c_17 => ?_)
  · replace hm := ie hm c_17
    refine lv_iconst (v := (0 : Int32)) hx hb dX8_endEasement_14 (by decide) ?_
    exact J15_2 (0 : Int32) _ _ _ hm hP hD hS (lv_sub hl [0, 1] rfl)
  · replace hm := it hm c_17
    refine lv_iconst (v := (1 : Int32)) hx hb dX8_endEasement_10 (by decide) ?_
    refine lv_goto (tgt := 15) hx hb dX8_endEasement_11 (by decide) ?_
    exact J15_2 (1 : Int32) _ _ _ hm hP hD hS (lv_sub hl [0, 1] rfl)
def m_X8_addLien_J42 (g_o_now : Nat → Int32) (gW : Nat → Nat → Int32) (v_o_kept : Int32) (p1 : Int32) (p2 : Int32) (p3 : Int32) : (Int32) → Option (Int32 × Int32 × Int32 × (Nat → Int32) × (Nat → Nat → Int32)) := fun y_7 => Option.bind (m_X8_fails (2 : Int32) y_7) (fun q => match q with
  | (r_8, v_9) => (if r_8 = 0 then Option.bind (m_X8_takesNoLien p1 g_o_now) (fun r_11 => Option.bind (m_X8_fails (3 : Int32) r_11) (fun q => match q with
  | (r_12, v_13) => (if r_12 = 0 then Option.bind (m_X8_remember v_o_kept g_o_now gW) (fun q => match q with
  | (v_15, h_16) => Option.bind (m_X8_doLien p1 p2 p3 g_o_now) (fun q => match q with
  | (r_17, g_18) => some (r_17, v_13, v_15, g_18, h_16))) else some ((0 : Int32), v_13, v_o_kept, g_o_now, gW)))) else some ((0 : Int32), v_9, v_o_kept, g_o_now, gW)))
def m_X8_addLien_J15 (g_o_now : Nat → Int32) (gW : Nat → Nat → Int32) (v_o_kept : Int32) (p1 : Int32) (p2 : Int32) (p3 : Int32) : (Int32) → Option (Int32 × Int32 × Int32 × (Nat → Int32) × (Nat → Nat → Int32)) := fun y_2 => Option.bind (m_X8_fails (1 : Int32) y_2) (fun q => match q with
  | (r_3, v_4) => (if r_3 = 0 then Option.bind (m_X8_isPerson p2) (fun r_6 => (if r_6 = 0 then m_X8_addLien_J42 g_o_now gW v_o_kept p1 p2 p3 (1 : Int32) else Option.bind (m_X8_isAmount p3) (fun r_20 => (if r_20 = 0 then m_X8_addLien_J42 g_o_now gW v_o_kept p1 p2 p3 (1 : Int32) else m_X8_addLien_J42 g_o_now gW v_o_kept p1 p2 p3 (0 : Int32))))) else some ((0 : Int32), v_4, v_o_kept, g_o_now, gW)))
def m_X8_addLien (p1 : Int32) (p2 : Int32) (p3 : Int32) (v_o_kept : Int32) (g_o_now : Nat → Int32) (gW : Nat → Nat → Int32) : Option (Int32 × Int32 × Int32 × (Nat → Int32) × (Nat → Nat → Int32)) := Option.bind (m_X8_isParcel p1 g_o_now) (fun r_1 => (if r_1 = 0 then m_X8_addLien_J15 g_o_now gW v_o_kept p1 p2 p3 (1 : Int32) else m_X8_addLien_J15 g_o_now gW v_o_kept p1 p2 p3 (0 : Int32)))
abbrev e_X8_addLien (cA : Nat → ClassId) (o o_now o_saved o_aside o_history o_chains o_buffer o_numbers : Nat) (v_o_thrown : Int32) (v_o_kept : Int32) (v_o_reason : Int32) (v_o_errorPosition : Int32) (v_o_isSaved : Int32) (v_o_length : Int32) (v_o_at : Int32) (v_o_isWrong : Int32) (g_o_now : Nat → Int32) (gA : Nat → Nat) : va_W := [(o, .inr (10, [.int v_o_thrown, .ref o_now, .ref o_saved, .ref o_aside, .ref o_history, .int v_o_kept, .int v_o_reason, .int v_o_errorPosition, .int v_o_isSaved, .ref o_chains, .ref o_buffer, .int v_o_length, .int v_o_at, .int v_o_isWrong, .ref o_numbers])), (o_now, .inl (cA 0, 621, .inl g_o_now)), (o_history, .inl (cA 3, 6, .inr (.inr (.inr (.inr (fun j => some (gA j)))))))]
abbrev k_X8_addLien (cA : Nat → ClassId) (o o_now o_saved o_aside o_history o_chains o_buffer o_numbers : Nat) (v_o_thrown : Int32) (v_o_kept : Int32) (v_o_reason : Int32) (v_o_errorPosition : Int32) (v_o_isSaved : Int32) (v_o_length : Int32) (v_o_at : Int32) (v_o_isWrong : Int32) (g_o_now : Nat → Int32) (gA : Nat → Nat) (gW : Nat → Nat → Int32) : va_W := e_X8_addLien cA o o_now o_saved o_aside o_history o_chains o_buffer o_numbers v_o_thrown v_o_kept v_o_reason v_o_errorPosition v_o_isSaved v_o_length v_o_at v_o_isWrong g_o_now gA ++ gblk cA gA gW
set_option maxHeartbeats 4000000 in
set_option maxRecDepth 100000 in
/-- X8_addLien: as its model -/
theorem c_X8_addLien (l : Launch) (G : va_G) (cA : Nat → ClassId) (o o_now o_saved o_aside o_history o_chains o_buffer o_numbers : Nat) (sz : Nat) (p1 : Int32) (p2 : Int32) (p3 : Int32) (v_o_thrown : Int32) (v_o_kept : Int32) (v_o_reason : Int32) (v_o_errorPosition : Int32) (v_o_isSaved : Int32) (v_o_length : Int32) (v_o_at : Int32) (v_o_isWrong : Int32) (g_o_now : Nat → Int32) (gA : Nat → Nat) (gW : Nat → Nat → Int32) (R : Option (Int32 × Int32 × Int32 × (Nat → Int32) × (Nat → Nat → Int32))) (hR : m_X8_addLien p1 p2 p3 v_o_kept g_o_now gW = R) (hz : R ≠ none) : Met l yX8_addLien wsX8_addLien ({ frames := 4, cells := 0, slots := 0, locals := 85 } : Room) (va_Pc [.ref o, .int p1, .int p2, .int p3] (PM G cA (k_X8_addLien cA o o_now o_saved o_aside o_history o_chains o_buffer o_numbers v_o_thrown v_o_kept v_o_reason v_o_errorPosition v_o_isSaved v_o_length v_o_at v_o_isWrong g_o_now gA gW) sz)) (va_Qi (fun (r : Int32) (u : Int32 × Int32 × (Nat → Int32) × (Nat → Nat → Int32)) => R = some (r, u)) (BM G (fun (u : Int32 × Int32 × (Nat → Int32) × (Nat → Nat → Int32)) => (k_X8_addLien cA o o_now o_saved o_aside o_history o_chains o_buffer o_numbers u.1 u.2.1 v_o_reason v_o_errorPosition v_o_isSaved v_o_length v_o_at v_o_isWrong u.2.2.1 gA u.2.2.2))) (va_A (k_X8_addLien cA o o_now o_saved o_aside o_history o_chains o_buffer o_numbers v_o_thrown v_o_kept v_o_reason v_o_errorPosition v_o_isSaved v_o_length v_o_at v_o_isWrong g_o_now gA gW) sz)) 0 0 (va_A (k_X8_addLien cA o o_now o_saved o_aside o_history o_chains o_buffer o_numbers v_o_thrown v_o_kept v_o_reason v_o_errorPosition v_o_isSaved v_o_length v_o_at v_o_isWrong g_o_now gA gW) sz) := by
  refine metM .int (by decide) rfl (Nat.le_of_ble_eq_true rfl) ?_
  intro p e s m av below meth c Q ls A H hx hb hml hts hown hP hK hD hA hS hl hret
  replace hl : lv_has ls 4 [(0, .ref o), (1, .int p1), (2, .int p2), (3, .int p3)] := hl
  have w_0 := hts (.fieldLink RX8 9 "ParcelRegistryModel" "now" "[I") (by decide +kernel)
  have i_X8 : ∀ w ∈ wsX80, w ∈ wsX8_addLien := by decide +kernel
  have hm := hR
  unfold m_X8_addLien at hm
  refine lv_aload_n hx hb dX8_addLien_0 rfl (lv_at hl 0 rfl) ?_
  refine lv_iconst (v := (1 : Int32)) hx hb dX8_addLien_1 (by decide) ?_
  refine lv_aload_n hx hb dX8_addLien_2 rfl (lv_at hl 0 rfl) ?_
  refine lv_iload_n hx hb dX8_addLien_3 rfl (lv_at hl 1 rfl) ?_
  refine vp_callSi (va_Run.run (va_runV (As := [.int p1]) (rest := [.int (1 : Int32), .ref o]) ⟨hx, hb, hml, hown, hts⟩ (c_X8_isParcel l G cA o o_now o_saved o_aside o_history o_chains o_buffer o_numbers p1 v_o_thrown v_o_kept v_o_reason v_o_errorPosition v_o_isSaved v_o_length v_o_at v_o_isWrong g_o_now _ rfl (bnz hm hz)) (cwV 1 hts gX8_addLien_X8_isParcel rfl rfl rfl (by decide +kernel) ⟨Nat.le_of_ble_eq_true rfl, Nat.le_of_ble_eq_true rfl⟩) (preRV (q := (RX8, TX8, 15)) (hP.sub [0, 1] rfl) hK 0 rfl rfl) rfl rfl hl.1 rfl (lv_room (Nat.le_of_ble_eq_true rfl)) dX8_addLien_4 ⟨Nat.zero_le _, Nat.zero_le _⟩)) (fun r_1 hw => ?_)
  replace hm := bst hm hw.1
  have J15_2 : ∀ (y_2 : Int32), ∀ (H : Heap) (locs : List Loc) (ls : Array Slot), m_X8_addLien_J15 g_o_now gW v_o_kept p1 p2 p3 y_2 = R → va_P G vwCl (k_X8_addLien cA o o_now o_saved o_aside o_history o_chains o_buffer o_numbers v_o_thrown v_o_kept v_o_reason v_o_errorPosition v_o_isSaved v_o_length v_o_at v_o_isWrong g_o_now gA gW) H → va_D A (k_X8_addLien cA o o_now o_saved o_aside o_history o_chains o_buffer o_numbers v_o_thrown v_o_kept v_o_reason v_o_errorPosition v_o_isSaved v_o_length v_o_at v_o_isWrong g_o_now gA gW) → va_S A s.heap H locs → lv_has ls 4 [(0, .ref o), (1, .int p1), (2, .int p2), (3, .int p3)] → W p l e ({ frames := 4, cells := 0, slots := 0, locals := 85 } : Room) s m av below meth c H locs 0 0 Q (F0 m 15 ls [.int y_2, .int (1 : Int32), .ref o]) := by
    intro y_2 H locs ls hm hP hD hS hl
    unfold m_X8_addLien_J15 at hm
    have hPc := hP.sub (ws' := (k_X8_fails cA o o_now o_saved o_aside o_history o_chains o_buffer o_numbers v_o_thrown v_o_kept v_o_reason v_o_errorPosition v_o_isSaved v_o_length v_o_at v_o_isWrong)) [0] rfl
    have hDc := hD.sub (ws' := (k_X8_fails cA o o_now o_saved o_aside o_history o_chains o_buffer o_numbers v_o_thrown v_o_kept v_o_reason v_o_errorPosition v_o_isSaved v_o_length v_o_at v_o_isWrong)) [0] (by decide) rfl
    have hFc := va_free (wc := (k_X8_fails cA o o_now o_saved o_aside o_history o_chains o_buffer o_numbers v_o_thrown v_o_kept v_o_reason v_o_errorPosition v_o_isSaved v_o_length v_o_at v_o_isWrong)) hD hS hA [0] rfl
    refine va_calli (va_runV (As := [.int (1 : Int32), .int y_2]) (rest := []) ⟨hx, hb, hml, hown, hts⟩ (c_X8_fails l G cA o o_now o_saved o_aside o_history o_chains o_buffer o_numbers H.size (1 : Int32) y_2 v_o_thrown v_o_kept v_o_reason v_o_errorPosition v_o_isSaved v_o_length v_o_at v_o_isWrong _ rfl (bnz hm hz)) (cwV 2 hts gX8_addLien_X8_fails rfl rfl rfl (by decide +kernel) ⟨Nat.le_of_ble_eq_true rfl, Nat.le_of_ble_eq_true rfl⟩) (preMV (q := (RX8, TX8, 15)) hPc hDc hK 0 rfl rfl) rfl rfl hl.1 rfl (lv_room (Nat.le_of_ble_eq_true rfl)) dX8_addLien_15 ⟨Nat.zero_le _, Nat.zero_le _⟩) hS (fun q _ h => hFc q h) hFc (fun r_3 u_4 t H locs ht hvm hw hB hz1 hk1 hS' => ?_)
    obtain ⟨v_4, rfl⟩ : ∃ z, z = u_4 := ⟨_, rfl⟩
    replace hm := bst hm hw.1
    replace hB : va_P G vwCl _ _ := hB
    rw [ht] at hB
    have hj := va_backB (E := (e_X8_addLien cA o o_now o_saved o_aside o_history o_chains o_buffer o_numbers v_o_thrown v_o_kept v_o_reason v_o_errorPosition v_o_isSaved v_o_length v_o_at v_o_isWrong g_o_now gA)) (E' := (e_X8_addLien cA o o_now o_saved o_aside o_history o_chains o_buffer o_numbers v_4 v_o_kept v_o_reason v_o_errorPosition v_o_isSaved v_o_length v_o_at v_o_isWrong g_o_now gA)) (B := (gblk cA gA gW)) hP hD [0] rfl hk1 hB [(true, 0), (false, 1), (false, 2)] rfl (by decide) rfl
    replace hP : va_P G vwCl (k_X8_addLien cA o o_now o_saved o_aside o_history o_chains o_buffer o_numbers v_4 v_o_kept v_o_reason v_o_errorPosition v_o_isSaved v_o_length v_o_at v_o_isWrong g_o_now gA gW) H := hj.1
    replace hD : va_D A (k_X8_addLien cA o o_now o_saved o_aside o_history o_chains o_buffer o_numbers v_4 v_o_kept v_o_reason v_o_errorPosition v_o_isSaved v_o_length v_o_at v_o_isWrong g_o_now gA gW) := hj.2
    replace hS := hS'
    clear hj hPc hDc hFc hB
    refine lv_if_ne (tgt := 61) hx hb dX8_addLien_18 (by decide) (fun c_5 => ?_) (fun c_5 => ?_)
    · replace hm := ie hm c_5
      refine lv_iconst (v := (0 : Int32)) hx hb dX8_addLien_61 (by decide) ?_
      exact hret _ _ _ (v_4, v_o_kept, g_o_now, gW) _ _ dX8_addLien_62 rfl hP hS hm.symm
    · replace hm := it hm c_5
      refine lv_aload_n hx hb dX8_addLien_21 rfl (lv_at hl 0 rfl) ?_
      refine lv_iconst (v := (2 : Int32)) hx hb dX8_addLien_22 (by decide) ?_
      refine lv_iload_n hx hb dX8_addLien_23 rfl (lv_at hl 2 rfl) ?_
      refine vp_callSi (va_Run.run (va_runS (As := [.int p2]) (rest := [.int (2 : Int32), .ref o]) ⟨hx, hb, hml, hown, hts⟩ (c_X8_isPerson l G cA p2 _ rfl (bnz hm hz)) (va_cwS 1 hts gX8_addLien_X8_isPerson rfl rfl rfl (by decide +kernel) ⟨Nat.le_of_ble_eq_true rfl, Nat.le_of_ble_eq_true rfl⟩) (preRS (hP.sub [] rfl) hK) rfl rfl hl.1 rfl (lv_room (Nat.le_of_ble_eq_true rfl)) dX8_addLien_24 ⟨Nat.zero_le _, Nat.zero_le _⟩)) (fun r_6 hw => ?_)
      replace hm := bst hm hw.1
      have J42_1 : ∀ (y_7 : Int32), ∀ (H : Heap) (locs : List Loc) (ls : Array Slot), m_X8_addLien_J42 g_o_now gW v_o_kept p1 p2 p3 y_7 = R → va_P G vwCl (k_X8_addLien cA o o_now o_saved o_aside o_history o_chains o_buffer o_numbers v_4 v_o_kept v_o_reason v_o_errorPosition v_o_isSaved v_o_length v_o_at v_o_isWrong g_o_now gA gW) H → va_D A (k_X8_addLien cA o o_now o_saved o_aside o_history o_chains o_buffer o_numbers v_4 v_o_kept v_o_reason v_o_errorPosition v_o_isSaved v_o_length v_o_at v_o_isWrong g_o_now gA gW) → va_S A s.heap H locs → lv_has ls 4 [(0, .ref o), (1, .int p1), (2, .int p2), (3, .int p3)] → W p l e ({ frames := 4, cells := 0, slots := 0, locals := 85 } : Room) s m av below meth c H locs 0 0 Q (F0 m 42 ls [.int y_7, .int (2 : Int32), .ref o]) := by
        intro y_7 H locs ls hm hP hD hS hl
        unfold m_X8_addLien_J42 at hm
        have hPc := hP.sub (ws' := (k_X8_fails cA o o_now o_saved o_aside o_history o_chains o_buffer o_numbers v_4 v_o_kept v_o_reason v_o_errorPosition v_o_isSaved v_o_length v_o_at v_o_isWrong)) [0] rfl
        have hDc := hD.sub (ws' := (k_X8_fails cA o o_now o_saved o_aside o_history o_chains o_buffer o_numbers v_4 v_o_kept v_o_reason v_o_errorPosition v_o_isSaved v_o_length v_o_at v_o_isWrong)) [0] (by decide) rfl
        have hFc := va_free (wc := (k_X8_fails cA o o_now o_saved o_aside o_history o_chains o_buffer o_numbers v_4 v_o_kept v_o_reason v_o_errorPosition v_o_isSaved v_o_length v_o_at v_o_isWrong)) hD hS hA [0] rfl
        refine va_calli (va_runV (As := [.int (2 : Int32), .int y_7]) (rest := []) ⟨hx, hb, hml, hown, hts⟩ (c_X8_fails l G cA o o_now o_saved o_aside o_history o_chains o_buffer o_numbers H.size (2 : Int32) y_7 v_4 v_o_kept v_o_reason v_o_errorPosition v_o_isSaved v_o_length v_o_at v_o_isWrong _ rfl (bnz hm hz)) (cwV 2 hts gX8_addLien_X8_fails rfl rfl rfl (by decide +kernel) ⟨Nat.le_of_ble_eq_true rfl, Nat.le_of_ble_eq_true rfl⟩) (preMV (q := (RX8, TX8, 15)) hPc hDc hK 0 rfl rfl) rfl rfl hl.1 rfl (lv_room (Nat.le_of_ble_eq_true rfl)) dX8_addLien_42 ⟨Nat.zero_le _, Nat.zero_le _⟩) hS (fun q _ h => hFc q h) hFc (fun r_8 u_9 t H locs ht hvm hw hB hz1 hk1 hS' => ?_)
        obtain ⟨v_9, rfl⟩ : ∃ z, z = u_9 := ⟨_, rfl⟩
        replace hm := bst hm hw.1
        replace hB : va_P G vwCl _ _ := hB
        rw [ht] at hB
        have hj := va_backB (E := (e_X8_addLien cA o o_now o_saved o_aside o_history o_chains o_buffer o_numbers v_4 v_o_kept v_o_reason v_o_errorPosition v_o_isSaved v_o_length v_o_at v_o_isWrong g_o_now gA)) (E' := (e_X8_addLien cA o o_now o_saved o_aside o_history o_chains o_buffer o_numbers v_9 v_o_kept v_o_reason v_o_errorPosition v_o_isSaved v_o_length v_o_at v_o_isWrong g_o_now gA)) (B := (gblk cA gA gW)) hP hD [0] rfl hk1 hB [(true, 0), (false, 1), (false, 2)] rfl (by decide) rfl
        replace hP : va_P G vwCl (k_X8_addLien cA o o_now o_saved o_aside o_history o_chains o_buffer o_numbers v_9 v_o_kept v_o_reason v_o_errorPosition v_o_isSaved v_o_length v_o_at v_o_isWrong g_o_now gA gW) H := hj.1
        replace hD : va_D A (k_X8_addLien cA o o_now o_saved o_aside o_history o_chains o_buffer o_numbers v_9 v_o_kept v_o_reason v_o_errorPosition v_o_isSaved v_o_length v_o_at v_o_isWrong g_o_now gA gW) := hj.2
        replace hS := hS'
        clear hj hPc hDc hFc hB
        refine lv_if_ne (tgt := 61) hx hb dX8_addLien_45 (by decide) (fun c_10 => ?_) (fun c_10 => ?_)
        · replace hm := ie hm c_10
          refine lv_iconst (v := (0 : Int32)) hx hb dX8_addLien_61 (by decide) ?_
          exact hret _ _ _ (v_9, v_o_kept, g_o_now, gW) _ _ dX8_addLien_62 rfl hP hS hm.symm
        · replace hm := it hm c_10
          refine lv_aload_n hx hb dX8_addLien_48 rfl (lv_at hl 0 rfl) ?_
          refine lv_iconst (v := (3 : Int32)) hx hb dX8_addLien_49 (by decide) ?_
          refine lv_aload_n hx hb dX8_addLien_50 rfl (lv_at hl 0 rfl) ?_
          refine lv_iload_n hx hb dX8_addLien_51 rfl (lv_at hl 1 rfl) ?_
          refine vp_callSi (va_Run.run (va_runV (As := [.int p1]) (rest := [.int (3 : Int32), .ref o]) ⟨hx, hb, hml, hown, hts⟩ (c_X8_takesNoLien l G cA o o_now o_saved o_aside o_history o_chains o_buffer o_numbers p1 v_9 v_o_kept v_o_reason v_o_errorPosition v_o_isSaved v_o_length v_o_at v_o_isWrong g_o_now _ rfl (bnz hm hz)) (cwV 1 hts gX8_addLien_X8_takesNoLien rfl rfl rfl (by decide +kernel) ⟨Nat.le_of_ble_eq_true rfl, Nat.le_of_ble_eq_true rfl⟩) (preRV (q := (RX8, TX8, 15)) (hP.sub [0, 1] rfl) hK 0 rfl rfl) rfl rfl hl.1 rfl (lv_room (Nat.le_of_ble_eq_true rfl)) dX8_addLien_52 ⟨Nat.zero_le _, Nat.zero_le _⟩)) (fun r_11 hw => ?_)
          replace hm := bst hm hw.1
          have hPc := hP.sub (ws' := (k_X8_fails cA o o_now o_saved o_aside o_history o_chains o_buffer o_numbers v_9 v_o_kept v_o_reason v_o_errorPosition v_o_isSaved v_o_length v_o_at v_o_isWrong)) [0] rfl
          have hDc := hD.sub (ws' := (k_X8_fails cA o o_now o_saved o_aside o_history o_chains o_buffer o_numbers v_9 v_o_kept v_o_reason v_o_errorPosition v_o_isSaved v_o_length v_o_at v_o_isWrong)) [0] (by decide) rfl
          have hFc := va_free (wc := (k_X8_fails cA o o_now o_saved o_aside o_history o_chains o_buffer o_numbers v_9 v_o_kept v_o_reason v_o_errorPosition v_o_isSaved v_o_length v_o_at v_o_isWrong)) hD hS hA [0] rfl
          refine va_calli (va_runV (As := [.int (3 : Int32), .int r_11]) (rest := []) ⟨hx, hb, hml, hown, hts⟩ (c_X8_fails l G cA o o_now o_saved o_aside o_history o_chains o_buffer o_numbers H.size (3 : Int32) r_11 v_9 v_o_kept v_o_reason v_o_errorPosition v_o_isSaved v_o_length v_o_at v_o_isWrong _ rfl (bnz hm hz)) (cwV 2 hts gX8_addLien_X8_fails rfl rfl rfl (by decide +kernel) ⟨Nat.le_of_ble_eq_true rfl, Nat.le_of_ble_eq_true rfl⟩) (preMV (q := (RX8, TX8, 15)) hPc hDc hK 0 rfl rfl) rfl rfl hl.1 rfl (lv_room (Nat.le_of_ble_eq_true rfl)) dX8_addLien_55 ⟨Nat.zero_le _, Nat.zero_le _⟩) hS (fun q _ h => hFc q h) hFc (fun r_12 u_13 t H locs ht hvm hw hB hz1 hk1 hS' => ?_)
          obtain ⟨v_13, rfl⟩ : ∃ z, z = u_13 := ⟨_, rfl⟩
          replace hm := bst hm hw.1
          replace hB : va_P G vwCl _ _ := hB
          rw [ht] at hB
          have hj := va_backB (E := (e_X8_addLien cA o o_now o_saved o_aside o_history o_chains o_buffer o_numbers v_9 v_o_kept v_o_reason v_o_errorPosition v_o_isSaved v_o_length v_o_at v_o_isWrong g_o_now gA)) (E' := (e_X8_addLien cA o o_now o_saved o_aside o_history o_chains o_buffer o_numbers v_13 v_o_kept v_o_reason v_o_errorPosition v_o_isSaved v_o_length v_o_at v_o_isWrong g_o_now gA)) (B := (gblk cA gA gW)) hP hD [0] rfl hk1 hB [(true, 0), (false, 1), (false, 2)] rfl (by decide) rfl
          replace hP : va_P G vwCl (k_X8_addLien cA o o_now o_saved o_aside o_history o_chains o_buffer o_numbers v_13 v_o_kept v_o_reason v_o_errorPosition v_o_isSaved v_o_length v_o_at v_o_isWrong g_o_now gA gW) H := hj.1
          replace hD : va_D A (k_X8_addLien cA o o_now o_saved o_aside o_history o_chains o_buffer o_numbers v_13 v_o_kept v_o_reason v_o_errorPosition v_o_isSaved v_o_length v_o_at v_o_isWrong g_o_now gA gW) := hj.2
          replace hS := hS'
          clear hj hPc hDc hFc hB
          refine lv_if_eq (tgt := 63) hx hb dX8_addLien_58 (by decide) (fun c_14 => ?_) (fun c_14 => ?_)
          · replace hm := it hm c_14
            refine lv_aload_n hx hb dX8_addLien_63 rfl (lv_at hl 0 rfl) ?_
            refine lv_aload_n hx hb dX8_addLien_64 rfl (lv_at hl 0 rfl) ?_
            refine va_get (D := G) (ci := 10) (v := .ref o_now) (C := RX8) (T := TX8) (N := 15) hx hb hts i_X8 hown hK.1 hP 0 rfl rfl 1 (by decide) w_0 (fun _ h9 => h9) rfl dX8_addLien_65 ?_
            have hPc : va_P G vwCl (k_X8_remember cA o o_now o_saved o_aside o_history o_chains o_buffer o_numbers o_now v_13 v_o_kept v_o_reason v_o_errorPosition v_o_isSaved v_o_length v_o_at v_o_isWrong g_o_now gA gW) H := va_subC (E := (e_X8_addLien cA o o_now o_saved o_aside o_history o_chains o_buffer o_numbers v_13 v_o_kept v_o_reason v_o_errorPosition v_o_isSaved v_o_length v_o_at v_o_isWrong g_o_now gA)) (Ec := (e_X8_remember cA o o_now o_saved o_aside o_history o_chains o_buffer o_numbers o_now v_13 v_o_kept v_o_reason v_o_errorPosition v_o_isSaved v_o_length v_o_at v_o_isWrong g_o_now gA)) (B := (gblk cA gA gW)) hP [0, 2, 1] rfl
            have hDc : va_D A (k_X8_remember cA o o_now o_saved o_aside o_history o_chains o_buffer o_numbers o_now v_13 v_o_kept v_o_reason v_o_errorPosition v_o_isSaved v_o_length v_o_at v_o_isWrong g_o_now gA gW) := va_subCD (E := (e_X8_addLien cA o o_now o_saved o_aside o_history o_chains o_buffer o_numbers v_13 v_o_kept v_o_reason v_o_errorPosition v_o_isSaved v_o_length v_o_at v_o_isWrong g_o_now gA)) (Ec := (e_X8_remember cA o o_now o_saved o_aside o_history o_chains o_buffer o_numbers o_now v_13 v_o_kept v_o_reason v_o_errorPosition v_o_isSaved v_o_length v_o_at v_o_isWrong g_o_now gA)) (B := (gblk cA gA gW)) hD [0, 2, 1] (by decide) rfl
            have hFc : ∀ q, va_A (k_X8_remember cA o o_now o_saved o_aside o_history o_chains o_buffer o_numbers o_now v_13 v_o_kept v_o_reason v_o_errorPosition v_o_isSaved v_o_length v_o_at v_o_isWrong g_o_now gA gW) H.size q → A q := va_freeC (E := (e_X8_addLien cA o o_now o_saved o_aside o_history o_chains o_buffer o_numbers v_13 v_o_kept v_o_reason v_o_errorPosition v_o_isSaved v_o_length v_o_at v_o_isWrong g_o_now gA)) (Ec := (e_X8_remember cA o o_now o_saved o_aside o_history o_chains o_buffer o_numbers o_now v_13 v_o_kept v_o_reason v_o_errorPosition v_o_isSaved v_o_length v_o_at v_o_isWrong g_o_now gA)) (B := (gblk cA gA gW)) hD hS hA [0, 2, 1] rfl
            refine va_callv (va_runV (As := [.ref o_now]) (rest := []) ⟨hx, hb, hml, hown, hts⟩ (c_X8_remember l G cA o o_now o_saved o_aside o_history o_chains o_buffer o_numbers o_now H.size v_13 v_o_kept v_o_reason v_o_errorPosition v_o_isSaved v_o_length v_o_at v_o_isWrong g_o_now gA gW _ rfl (bnz hm hz)) (cwV 1 hts gX8_addLien_X8_remember rfl rfl rfl (by decide +kernel) ⟨Nat.le_of_ble_eq_true rfl, Nat.le_of_ble_eq_true rfl⟩) (preMV (q := (RX8, TX8, 15)) hPc hDc hK 0 rfl rfl) rfl rfl hl.1 rfl (lv_room (Nat.le_of_ble_eq_true rfl)) dX8_addLien_68 ⟨Nat.zero_le _, Nat.zero_le _⟩) hS (fun q _ h => hFc q h) hFc (fun u_16 t H locs ht hvm hw hB hz1 hk1 hS' => ?_)
            obtain ⟨v_15, h_16⟩ := u_16
            replace hm := bst hm hw
            replace hB : va_P G vwCl _ _ := hB
            rw [ht] at hB
            have hj := va_backC (E := (e_X8_addLien cA o o_now o_saved o_aside o_history o_chains o_buffer o_numbers v_13 v_o_kept v_o_reason v_o_errorPosition v_o_isSaved v_o_length v_o_at v_o_isWrong g_o_now gA)) (E' := (e_X8_addLien cA o o_now o_saved o_aside o_history o_chains o_buffer o_numbers v_13 v_15 v_o_reason v_o_errorPosition v_o_isSaved v_o_length v_o_at v_o_isWrong g_o_now gA)) (Ec := (e_X8_remember cA o o_now o_saved o_aside o_history o_chains o_buffer o_numbers o_now v_13 v_o_kept v_o_reason v_o_errorPosition v_o_isSaved v_o_length v_o_at v_o_isWrong g_o_now gA)) (Ec1 := (e_X8_remember cA o o_now o_saved o_aside o_history o_chains o_buffer o_numbers o_now v_13 v_15 v_o_reason v_o_errorPosition v_o_isSaved v_o_length v_o_at v_o_isWrong g_o_now gA)) (B := (gblk cA gA gW)) (B1 := (gblk cA gA h_16)) hP hD [0, 2, 1] rfl hk1 hB (gblk_addr ..) [(true, 0), (true, 2), (true, 1)] rfl (by decide) rfl
            replace hP : va_P G vwCl (k_X8_addLien cA o o_now o_saved o_aside o_history o_chains o_buffer o_numbers v_13 v_15 v_o_reason v_o_errorPosition v_o_isSaved v_o_length v_o_at v_o_isWrong g_o_now gA h_16) H := hj.1
            replace hD : va_D A (k_X8_addLien cA o o_now o_saved o_aside o_history o_chains o_buffer o_numbers v_13 v_15 v_o_reason v_o_errorPosition v_o_isSaved v_o_length v_o_at v_o_isWrong g_o_now gA h_16) := hj.2
            replace hS := hS'
            clear hj hPc hDc hFc hB
            refine lv_aload_n hx hb dX8_addLien_71 rfl (lv_at hl 0 rfl) ?_
            refine lv_iload_n hx hb dX8_addLien_72 rfl (lv_at hl 1 rfl) ?_
            refine lv_iload_n hx hb dX8_addLien_73 rfl (lv_at hl 2 rfl) ?_
            refine lv_iload_n hx hb dX8_addLien_74 rfl (lv_at hl 3 rfl) ?_
            have hPc := hP.sub (ws' := (k_X8_doLien cA o o_now o_saved o_aside o_history o_chains o_buffer o_numbers v_13 v_15 v_o_reason v_o_errorPosition v_o_isSaved v_o_length v_o_at v_o_isWrong g_o_now)) [0, 1] rfl
            have hDc := hD.sub (ws' := (k_X8_doLien cA o o_now o_saved o_aside o_history o_chains o_buffer o_numbers v_13 v_15 v_o_reason v_o_errorPosition v_o_isSaved v_o_length v_o_at v_o_isWrong g_o_now)) [0, 1] (by decide) rfl
            have hFc := va_free (wc := (k_X8_doLien cA o o_now o_saved o_aside o_history o_chains o_buffer o_numbers v_13 v_15 v_o_reason v_o_errorPosition v_o_isSaved v_o_length v_o_at v_o_isWrong g_o_now)) hD hS hA [0, 1] rfl
            refine va_calli (va_runV (As := [.int p1, .int p2, .int p3]) (rest := []) ⟨hx, hb, hml, hown, hts⟩ (c_X8_doLien l G cA o o_now o_saved o_aside o_history o_chains o_buffer o_numbers H.size p1 p2 p3 v_13 v_15 v_o_reason v_o_errorPosition v_o_isSaved v_o_length v_o_at v_o_isWrong g_o_now _ rfl (bnz hm hz)) (cwV 3 hts gX8_addLien_X8_doLien rfl rfl rfl (by decide +kernel) ⟨Nat.le_of_ble_eq_true rfl, Nat.le_of_ble_eq_true rfl⟩) (preMV (q := (RX8, TX8, 15)) hPc hDc hK 0 rfl rfl) rfl rfl hl.1 rfl (lv_room (Nat.le_of_ble_eq_true rfl)) dX8_addLien_75 ⟨Nat.zero_le _, Nat.zero_le _⟩) hS (fun q _ h => hFc q h) hFc (fun r_17 u_18 t H locs ht hvm hw hB hz1 hk1 hS' => ?_)
            obtain ⟨g_18, rfl⟩ : ∃ z, z = u_18 := ⟨_, rfl⟩
            replace hm := bst hm hw
            replace hB : va_P G vwCl _ _ := hB
            rw [ht] at hB
            have hj := va_backB (E := (e_X8_addLien cA o o_now o_saved o_aside o_history o_chains o_buffer o_numbers v_13 v_15 v_o_reason v_o_errorPosition v_o_isSaved v_o_length v_o_at v_o_isWrong g_o_now gA)) (E' := (e_X8_addLien cA o o_now o_saved o_aside o_history o_chains o_buffer o_numbers v_13 v_15 v_o_reason v_o_errorPosition v_o_isSaved v_o_length v_o_at v_o_isWrong g_18 gA)) (B := (gblk cA gA h_16)) hP hD [0, 1] rfl hk1 hB [(true, 0), (true, 1), (false, 2)] rfl (by decide) rfl
            replace hP : va_P G vwCl (k_X8_addLien cA o o_now o_saved o_aside o_history o_chains o_buffer o_numbers v_13 v_15 v_o_reason v_o_errorPosition v_o_isSaved v_o_length v_o_at v_o_isWrong g_18 gA h_16) H := hj.1
            replace hD : va_D A (k_X8_addLien cA o o_now o_saved o_aside o_history o_chains o_buffer o_numbers v_13 v_15 v_o_reason v_o_errorPosition v_o_isSaved v_o_length v_o_at v_o_isWrong g_18 gA h_16) := hj.2
            replace hS := hS'
            clear hj hPc hDc hFc hB
            exact hret _ _ _ (v_13, v_15, g_18, h_16) _ _ dX8_addLien_78 rfl hP hS hm.symm
          · replace hm := ie hm c_14
            refine lv_iconst (v := (0 : Int32)) hx hb dX8_addLien_61 (by decide) ?_
            exact hret _ _ _ (v_13, v_o_kept, g_o_now, gW) _ _ dX8_addLien_62 rfl hP hS hm.symm
      refine lv_if_eq (tgt := 37) hx hb dX8_addLien_27 (by decide) (fun c_19 => ?_) (fun c_19 => ?_)
      · replace hm := it hm c_19
        refine lv_iconst (v := (1 : Int32)) hx hb dX8_addLien_37 (by decide) ?_
        refine lv_goto (tgt := 42) hx hb dX8_addLien_38 (by decide) ?_
        exact J42_1 (1 : Int32) _ _ _ hm hP hD hS (lv_sub hl [0, 1, 2, 3] rfl)
      · replace hm := ie hm c_19
        refine lv_iload_n hx hb dX8_addLien_30 rfl (lv_at hl 3 rfl) ?_
        refine vp_callSi (va_Run.run (va_runS (As := [.int p3]) (rest := [.int (2 : Int32), .ref o]) ⟨hx, hb, hml, hown, hts⟩ (c_X8_isAmount l G cA p3 _ rfl (bnz hm hz)) (va_cwS 1 hts gX8_addLien_X8_isAmount rfl rfl rfl (by decide +kernel) ⟨Nat.le_of_ble_eq_true rfl, Nat.le_of_ble_eq_true rfl⟩) (preRS (hP.sub [] rfl) hK) rfl rfl hl.1 rfl (lv_room (Nat.le_of_ble_eq_true rfl)) dX8_addLien_31 ⟨Nat.zero_le _, Nat.zero_le _⟩)) (fun r_20 hw => ?_)
        replace hm := bst hm hw.1
        refine lv_if_ne (tgt := 41) hx hb dX8_addLien_34 (by decide) (fun c_21 => ?_) (fun c_21 => ?_)
        · replace hm := ie hm c_21
          refine lv_iconst (v := (0 : Int32)) hx hb dX8_addLien_41 (by decide) ?_
          exact J42_1 (0 : Int32) _ _ _ hm hP hD hS (lv_sub hl [0, 1, 2, 3] rfl)
        · replace hm := it hm c_21
          refine lv_iconst (v := (1 : Int32)) hx hb dX8_addLien_37 (by decide) ?_
          refine lv_goto (tgt := 42) hx hb dX8_addLien_38 (by decide) ?_
          exact J42_1 (1 : Int32) _ _ _ hm hP hD hS (lv_sub hl [0, 1, 2, 3] rfl)
  refine lv_if_ne (tgt := 14) hx hb dX8_addLien_7 (by decide) (fun c_22 => ?_) (fun c_22 => ?_)
  · replace hm := ie hm c_22
    refine lv_iconst (v := (0 : Int32)) hx hb dX8_addLien_14 (by decide) ?_
    exact J15_2 (0 : Int32) _ _ _ hm hP hD hS (lv_sub hl [0, 1, 2, 3] rfl)
  · replace hm := it hm c_22
    refine lv_iconst (v := (1 : Int32)) hx hb dX8_addLien_10 (by decide) ?_
    refine lv_goto (tgt := 15) hx hb dX8_addLien_11 (by decide) ?_
    exact J15_2 (1 : Int32) _ _ _ hm hP hD hS (lv_sub hl [0, 1, 2, 3] rfl)
def m_X8_release_J36 (g_o_now : Nat → Int32) (gW : Nat → Nat → Int32) (v_o_kept : Int32) (p1 : Int32) : (Int32) → Option (Int32 × Int32 × Int32 × (Nat → Int32) × (Nat → Nat → Int32)) := fun y_7 => Option.bind (m_X8_fails (2 : Int32) y_7) (fun q => match q with
  | (r_8, v_9) => (if r_8 = 0 then Option.bind (m_X8_remember v_o_kept g_o_now gW) (fun q => match q with
  | (v_11, h_12) => Option.bind (m_X8_rankOf p1 g_o_now) (fun r_13 => Option.bind (m_X8_takeOut r_13 g_o_now) (fun g_14 => some (r_13, v_9, v_11, g_14, h_12)))) else some ((0 : Int32), v_9, v_o_kept, g_o_now, gW)))
def m_X8_release_J15 (g_o_now : Nat → Int32) (gW : Nat → Nat → Int32) (v_o_kept : Int32) (p1 : Int32) : (Int32) → Option (Int32 × Int32 × Int32 × (Nat → Int32) × (Nat → Nat → Int32)) := fun y_2 => Option.bind (m_X8_fails (1 : Int32) y_2) (fun q => match q with
  | (r_3, v_4) => (if r_3 = 0 then Option.bind (m_X8_rankOf p1 g_o_now) (fun r_6 => (if 0 ≤ r_6 then m_X8_release_J36 g_o_now gW v_o_kept p1 (0 : Int32) else m_X8_release_J36 g_o_now gW v_o_kept p1 (1 : Int32))) else some ((0 : Int32), v_4, v_o_kept, g_o_now, gW)))
def m_X8_release (p1 : Int32) (v_o_kept : Int32) (g_o_now : Nat → Int32) (gW : Nat → Nat → Int32) : Option (Int32 × Int32 × Int32 × (Nat → Int32) × (Nat → Nat → Int32)) := Option.bind (m_X8_isLien p1 g_o_now) (fun r_1 => (if r_1 = 0 then m_X8_release_J15 g_o_now gW v_o_kept p1 (1 : Int32) else m_X8_release_J15 g_o_now gW v_o_kept p1 (0 : Int32)))
abbrev e_X8_release (cA : Nat → ClassId) (o o_now o_saved o_aside o_history o_chains o_buffer o_numbers : Nat) (v_o_thrown : Int32) (v_o_kept : Int32) (v_o_reason : Int32) (v_o_errorPosition : Int32) (v_o_isSaved : Int32) (v_o_length : Int32) (v_o_at : Int32) (v_o_isWrong : Int32) (g_o_now : Nat → Int32) (gA : Nat → Nat) : va_W := [(o, .inr (10, [.int v_o_thrown, .ref o_now, .ref o_saved, .ref o_aside, .ref o_history, .int v_o_kept, .int v_o_reason, .int v_o_errorPosition, .int v_o_isSaved, .ref o_chains, .ref o_buffer, .int v_o_length, .int v_o_at, .int v_o_isWrong, .ref o_numbers])), (o_now, .inl (cA 0, 621, .inl g_o_now)), (o_history, .inl (cA 3, 6, .inr (.inr (.inr (.inr (fun j => some (gA j)))))))]
abbrev k_X8_release (cA : Nat → ClassId) (o o_now o_saved o_aside o_history o_chains o_buffer o_numbers : Nat) (v_o_thrown : Int32) (v_o_kept : Int32) (v_o_reason : Int32) (v_o_errorPosition : Int32) (v_o_isSaved : Int32) (v_o_length : Int32) (v_o_at : Int32) (v_o_isWrong : Int32) (g_o_now : Nat → Int32) (gA : Nat → Nat) (gW : Nat → Nat → Int32) : va_W := e_X8_release cA o o_now o_saved o_aside o_history o_chains o_buffer o_numbers v_o_thrown v_o_kept v_o_reason v_o_errorPosition v_o_isSaved v_o_length v_o_at v_o_isWrong g_o_now gA ++ gblk cA gA gW
set_option maxHeartbeats 4000000 in
set_option maxRecDepth 100000 in
/-- X8_release: as its model -/
theorem c_X8_release (l : Launch) (G : va_G) (cA : Nat → ClassId) (o o_now o_saved o_aside o_history o_chains o_buffer o_numbers : Nat) (sz : Nat) (p1 : Int32) (v_o_thrown : Int32) (v_o_kept : Int32) (v_o_reason : Int32) (v_o_errorPosition : Int32) (v_o_isSaved : Int32) (v_o_length : Int32) (v_o_at : Int32) (v_o_isWrong : Int32) (g_o_now : Nat → Int32) (gA : Nat → Nat) (gW : Nat → Nat → Int32) (R : Option (Int32 × Int32 × Int32 × (Nat → Int32) × (Nat → Nat → Int32))) (hR : m_X8_release p1 v_o_kept g_o_now gW = R) (hz : R ≠ none) : Met l yX8_release wsX8_release ({ frames := 2, cells := 0, slots := 0, locals := 44 } : Room) (va_Pc [.ref o, .int p1] (PM G cA (k_X8_release cA o o_now o_saved o_aside o_history o_chains o_buffer o_numbers v_o_thrown v_o_kept v_o_reason v_o_errorPosition v_o_isSaved v_o_length v_o_at v_o_isWrong g_o_now gA gW) sz)) (va_Qi (fun (r : Int32) (u : Int32 × Int32 × (Nat → Int32) × (Nat → Nat → Int32)) => R = some (r, u)) (BM G (fun (u : Int32 × Int32 × (Nat → Int32) × (Nat → Nat → Int32)) => (k_X8_release cA o o_now o_saved o_aside o_history o_chains o_buffer o_numbers u.1 u.2.1 v_o_reason v_o_errorPosition v_o_isSaved v_o_length v_o_at v_o_isWrong u.2.2.1 gA u.2.2.2))) (va_A (k_X8_release cA o o_now o_saved o_aside o_history o_chains o_buffer o_numbers v_o_thrown v_o_kept v_o_reason v_o_errorPosition v_o_isSaved v_o_length v_o_at v_o_isWrong g_o_now gA gW) sz)) 0 0 (va_A (k_X8_release cA o o_now o_saved o_aside o_history o_chains o_buffer o_numbers v_o_thrown v_o_kept v_o_reason v_o_errorPosition v_o_isSaved v_o_length v_o_at v_o_isWrong g_o_now gA gW) sz) := by
  refine metM .int (by decide) rfl (Nat.le_of_ble_eq_true rfl) ?_
  intro p e s m av below meth c Q ls A H hx hb hml hts hown hP hK hD hA hS hl hret
  replace hl : lv_has ls 3 [(0, .ref o), (1, .int p1)] := hl
  have w_0 := hts (.fieldLink RX8 9 "ParcelRegistryModel" "now" "[I") (by decide +kernel)
  have i_X8 : ∀ w ∈ wsX80, w ∈ wsX8_release := by decide +kernel
  have hm := hR
  unfold m_X8_release at hm
  refine lv_aload_n hx hb dX8_release_0 rfl (lv_at hl 0 rfl) ?_
  refine lv_iconst (v := (1 : Int32)) hx hb dX8_release_1 (by decide) ?_
  refine lv_aload_n hx hb dX8_release_2 rfl (lv_at hl 0 rfl) ?_
  refine lv_iload_n hx hb dX8_release_3 rfl (lv_at hl 1 rfl) ?_
  refine vp_callSi (va_Run.run (va_runV (As := [.int p1]) (rest := [.int (1 : Int32), .ref o]) ⟨hx, hb, hml, hown, hts⟩ (c_X8_isLien l G cA o o_now o_saved o_aside o_history o_chains o_buffer o_numbers p1 v_o_thrown v_o_kept v_o_reason v_o_errorPosition v_o_isSaved v_o_length v_o_at v_o_isWrong g_o_now _ rfl (bnz hm hz)) (cwV 1 hts gX8_release_X8_isLien rfl rfl rfl (by decide +kernel) ⟨Nat.le_of_ble_eq_true rfl, Nat.le_of_ble_eq_true rfl⟩) (preRV (q := (RX8, TX8, 15)) (hP.sub [0, 1] rfl) hK 0 rfl rfl) rfl rfl hl.1 rfl (lv_room (Nat.le_of_ble_eq_true rfl)) dX8_release_4 ⟨Nat.zero_le _, Nat.zero_le _⟩)) (fun r_1 hw => ?_)
  replace hm := bst hm hw.1
  have J15_2 : ∀ (y_2 : Int32), ∀ (H : Heap) (locs : List Loc) (ls : Array Slot), m_X8_release_J15 g_o_now gW v_o_kept p1 y_2 = R → va_P G vwCl (k_X8_release cA o o_now o_saved o_aside o_history o_chains o_buffer o_numbers v_o_thrown v_o_kept v_o_reason v_o_errorPosition v_o_isSaved v_o_length v_o_at v_o_isWrong g_o_now gA gW) H → va_D A (k_X8_release cA o o_now o_saved o_aside o_history o_chains o_buffer o_numbers v_o_thrown v_o_kept v_o_reason v_o_errorPosition v_o_isSaved v_o_length v_o_at v_o_isWrong g_o_now gA gW) → va_S A s.heap H locs → lv_has ls 3 [(0, .ref o), (1, .int p1)] → W p l e ({ frames := 2, cells := 0, slots := 0, locals := 44 } : Room) s m av below meth c H locs 0 0 Q (F0 m 15 ls [.int y_2, .int (1 : Int32), .ref o]) := by
    intro y_2 H locs ls hm hP hD hS hl
    unfold m_X8_release_J15 at hm
    have hPc := hP.sub (ws' := (k_X8_fails cA o o_now o_saved o_aside o_history o_chains o_buffer o_numbers v_o_thrown v_o_kept v_o_reason v_o_errorPosition v_o_isSaved v_o_length v_o_at v_o_isWrong)) [0] rfl
    have hDc := hD.sub (ws' := (k_X8_fails cA o o_now o_saved o_aside o_history o_chains o_buffer o_numbers v_o_thrown v_o_kept v_o_reason v_o_errorPosition v_o_isSaved v_o_length v_o_at v_o_isWrong)) [0] (by decide) rfl
    have hFc := va_free (wc := (k_X8_fails cA o o_now o_saved o_aside o_history o_chains o_buffer o_numbers v_o_thrown v_o_kept v_o_reason v_o_errorPosition v_o_isSaved v_o_length v_o_at v_o_isWrong)) hD hS hA [0] rfl
    refine va_calli (va_runV (As := [.int (1 : Int32), .int y_2]) (rest := []) ⟨hx, hb, hml, hown, hts⟩ (c_X8_fails l G cA o o_now o_saved o_aside o_history o_chains o_buffer o_numbers H.size (1 : Int32) y_2 v_o_thrown v_o_kept v_o_reason v_o_errorPosition v_o_isSaved v_o_length v_o_at v_o_isWrong _ rfl (bnz hm hz)) (cwV 2 hts gX8_release_X8_fails rfl rfl rfl (by decide +kernel) ⟨Nat.le_of_ble_eq_true rfl, Nat.le_of_ble_eq_true rfl⟩) (preMV (q := (RX8, TX8, 15)) hPc hDc hK 0 rfl rfl) rfl rfl hl.1 rfl (lv_room (Nat.le_of_ble_eq_true rfl)) dX8_release_15 ⟨Nat.zero_le _, Nat.zero_le _⟩) hS (fun q _ h => hFc q h) hFc (fun r_3 u_4 t H locs ht hvm hw hB hz1 hk1 hS' => ?_)
    obtain ⟨v_4, rfl⟩ : ∃ z, z = u_4 := ⟨_, rfl⟩
    replace hm := bst hm hw.1
    replace hB : va_P G vwCl _ _ := hB
    rw [ht] at hB
    have hj := va_backB (E := (e_X8_release cA o o_now o_saved o_aside o_history o_chains o_buffer o_numbers v_o_thrown v_o_kept v_o_reason v_o_errorPosition v_o_isSaved v_o_length v_o_at v_o_isWrong g_o_now gA)) (E' := (e_X8_release cA o o_now o_saved o_aside o_history o_chains o_buffer o_numbers v_4 v_o_kept v_o_reason v_o_errorPosition v_o_isSaved v_o_length v_o_at v_o_isWrong g_o_now gA)) (B := (gblk cA gA gW)) hP hD [0] rfl hk1 hB [(true, 0), (false, 1), (false, 2)] rfl (by decide) rfl
    replace hP : va_P G vwCl (k_X8_release cA o o_now o_saved o_aside o_history o_chains o_buffer o_numbers v_4 v_o_kept v_o_reason v_o_errorPosition v_o_isSaved v_o_length v_o_at v_o_isWrong g_o_now gA gW) H := hj.1
    replace hD : va_D A (k_X8_release cA o o_now o_saved o_aside o_history o_chains o_buffer o_numbers v_4 v_o_kept v_o_reason v_o_errorPosition v_o_isSaved v_o_length v_o_at v_o_isWrong g_o_now gA gW) := hj.2
    replace hS := hS'
    clear hj hPc hDc hFc hB
    refine lv_if_ne (tgt := 42) hx hb dX8_release_18 (by decide) (fun c_5 => ?_) (fun c_5 => ?_)
    · replace hm := ie hm c_5
      refine lv_iconst (v := (0 : Int32)) hx hb dX8_release_42 (by decide) ?_
      exact hret _ _ _ (v_4, v_o_kept, g_o_now, gW) _ _ dX8_release_43 rfl hP hS hm.symm
    · replace hm := it hm c_5
      refine lv_aload_n hx hb dX8_release_21 rfl (lv_at hl 0 rfl) ?_
      refine lv_iconst (v := (2 : Int32)) hx hb dX8_release_22 (by decide) ?_
      refine lv_aload_n hx hb dX8_release_23 rfl (lv_at hl 0 rfl) ?_
      refine lv_iload_n hx hb dX8_release_24 rfl (lv_at hl 1 rfl) ?_
      refine vp_callSi (va_Run.run (va_runV (As := [.int p1]) (rest := [.int (2 : Int32), .ref o]) ⟨hx, hb, hml, hown, hts⟩ (c_X8_rankOf l G cA o o_now o_saved o_aside o_history o_chains o_buffer o_numbers p1 v_4 v_o_kept v_o_reason v_o_errorPosition v_o_isSaved v_o_length v_o_at v_o_isWrong g_o_now _ rfl (bnz hm hz)) (cwV 1 hts gX8_release_X8_rankOf rfl rfl rfl (by decide +kernel) ⟨Nat.le_of_ble_eq_true rfl, Nat.le_of_ble_eq_true rfl⟩) (preRV (q := (RX8, TX8, 15)) (hP.sub [0, 1] rfl) hK 0 rfl rfl) rfl rfl hl.1 rfl (lv_room (Nat.le_of_ble_eq_true rfl)) dX8_release_25 ⟨Nat.zero_le _, Nat.zero_le _⟩)) (fun r_6 hw => ?_)
      replace hm := bst hm hw
      have J36_1 : ∀ (y_7 : Int32), ∀ (H : Heap) (locs : List Loc) (ls : Array Slot), m_X8_release_J36 g_o_now gW v_o_kept p1 y_7 = R → va_P G vwCl (k_X8_release cA o o_now o_saved o_aside o_history o_chains o_buffer o_numbers v_4 v_o_kept v_o_reason v_o_errorPosition v_o_isSaved v_o_length v_o_at v_o_isWrong g_o_now gA gW) H → va_D A (k_X8_release cA o o_now o_saved o_aside o_history o_chains o_buffer o_numbers v_4 v_o_kept v_o_reason v_o_errorPosition v_o_isSaved v_o_length v_o_at v_o_isWrong g_o_now gA gW) → va_S A s.heap H locs → lv_has ls 3 [(0, .ref o), (1, .int p1)] → W p l e ({ frames := 2, cells := 0, slots := 0, locals := 44 } : Room) s m av below meth c H locs 0 0 Q (F0 m 36 ls [.int y_7, .int (2 : Int32), .ref o]) := by
        intro y_7 H locs ls hm hP hD hS hl
        unfold m_X8_release_J36 at hm
        have hPc := hP.sub (ws' := (k_X8_fails cA o o_now o_saved o_aside o_history o_chains o_buffer o_numbers v_4 v_o_kept v_o_reason v_o_errorPosition v_o_isSaved v_o_length v_o_at v_o_isWrong)) [0] rfl
        have hDc := hD.sub (ws' := (k_X8_fails cA o o_now o_saved o_aside o_history o_chains o_buffer o_numbers v_4 v_o_kept v_o_reason v_o_errorPosition v_o_isSaved v_o_length v_o_at v_o_isWrong)) [0] (by decide) rfl
        have hFc := va_free (wc := (k_X8_fails cA o o_now o_saved o_aside o_history o_chains o_buffer o_numbers v_4 v_o_kept v_o_reason v_o_errorPosition v_o_isSaved v_o_length v_o_at v_o_isWrong)) hD hS hA [0] rfl
        refine va_calli (va_runV (As := [.int (2 : Int32), .int y_7]) (rest := []) ⟨hx, hb, hml, hown, hts⟩ (c_X8_fails l G cA o o_now o_saved o_aside o_history o_chains o_buffer o_numbers H.size (2 : Int32) y_7 v_4 v_o_kept v_o_reason v_o_errorPosition v_o_isSaved v_o_length v_o_at v_o_isWrong _ rfl (bnz hm hz)) (cwV 2 hts gX8_release_X8_fails rfl rfl rfl (by decide +kernel) ⟨Nat.le_of_ble_eq_true rfl, Nat.le_of_ble_eq_true rfl⟩) (preMV (q := (RX8, TX8, 15)) hPc hDc hK 0 rfl rfl) rfl rfl hl.1 rfl (lv_room (Nat.le_of_ble_eq_true rfl)) dX8_release_36 ⟨Nat.zero_le _, Nat.zero_le _⟩) hS (fun q _ h => hFc q h) hFc (fun r_8 u_9 t H locs ht hvm hw hB hz1 hk1 hS' => ?_)
        obtain ⟨v_9, rfl⟩ : ∃ z, z = u_9 := ⟨_, rfl⟩
        replace hm := bst hm hw.1
        replace hB : va_P G vwCl _ _ := hB
        rw [ht] at hB
        have hj := va_backB (E := (e_X8_release cA o o_now o_saved o_aside o_history o_chains o_buffer o_numbers v_4 v_o_kept v_o_reason v_o_errorPosition v_o_isSaved v_o_length v_o_at v_o_isWrong g_o_now gA)) (E' := (e_X8_release cA o o_now o_saved o_aside o_history o_chains o_buffer o_numbers v_9 v_o_kept v_o_reason v_o_errorPosition v_o_isSaved v_o_length v_o_at v_o_isWrong g_o_now gA)) (B := (gblk cA gA gW)) hP hD [0] rfl hk1 hB [(true, 0), (false, 1), (false, 2)] rfl (by decide) rfl
        replace hP : va_P G vwCl (k_X8_release cA o o_now o_saved o_aside o_history o_chains o_buffer o_numbers v_9 v_o_kept v_o_reason v_o_errorPosition v_o_isSaved v_o_length v_o_at v_o_isWrong g_o_now gA gW) H := hj.1
        replace hD : va_D A (k_X8_release cA o o_now o_saved o_aside o_history o_chains o_buffer o_numbers v_9 v_o_kept v_o_reason v_o_errorPosition v_o_isSaved v_o_length v_o_at v_o_isWrong g_o_now gA gW) := hj.2
        replace hS := hS'
        clear hj hPc hDc hFc hB
        refine lv_if_eq (tgt := 44) hx hb dX8_release_39 (by decide) (fun c_10 => ?_) (fun c_10 => ?_)
        · replace hm := it hm c_10
          refine lv_aload_n hx hb dX8_release_44 rfl (lv_at hl 0 rfl) ?_
          refine lv_aload_n hx hb dX8_release_45 rfl (lv_at hl 0 rfl) ?_
          refine va_get (D := G) (ci := 10) (v := .ref o_now) (C := RX8) (T := TX8) (N := 15) hx hb hts i_X8 hown hK.1 hP 0 rfl rfl 1 (by decide) w_0 (fun _ h9 => h9) rfl dX8_release_46 ?_
          have hPc : va_P G vwCl (k_X8_remember cA o o_now o_saved o_aside o_history o_chains o_buffer o_numbers o_now v_9 v_o_kept v_o_reason v_o_errorPosition v_o_isSaved v_o_length v_o_at v_o_isWrong g_o_now gA gW) H := va_subC (E := (e_X8_release cA o o_now o_saved o_aside o_history o_chains o_buffer o_numbers v_9 v_o_kept v_o_reason v_o_errorPosition v_o_isSaved v_o_length v_o_at v_o_isWrong g_o_now gA)) (Ec := (e_X8_remember cA o o_now o_saved o_aside o_history o_chains o_buffer o_numbers o_now v_9 v_o_kept v_o_reason v_o_errorPosition v_o_isSaved v_o_length v_o_at v_o_isWrong g_o_now gA)) (B := (gblk cA gA gW)) hP [0, 2, 1] rfl
          have hDc : va_D A (k_X8_remember cA o o_now o_saved o_aside o_history o_chains o_buffer o_numbers o_now v_9 v_o_kept v_o_reason v_o_errorPosition v_o_isSaved v_o_length v_o_at v_o_isWrong g_o_now gA gW) := va_subCD (E := (e_X8_release cA o o_now o_saved o_aside o_history o_chains o_buffer o_numbers v_9 v_o_kept v_o_reason v_o_errorPosition v_o_isSaved v_o_length v_o_at v_o_isWrong g_o_now gA)) (Ec := (e_X8_remember cA o o_now o_saved o_aside o_history o_chains o_buffer o_numbers o_now v_9 v_o_kept v_o_reason v_o_errorPosition v_o_isSaved v_o_length v_o_at v_o_isWrong g_o_now gA)) (B := (gblk cA gA gW)) hD [0, 2, 1] (by decide) rfl
          have hFc : ∀ q, va_A (k_X8_remember cA o o_now o_saved o_aside o_history o_chains o_buffer o_numbers o_now v_9 v_o_kept v_o_reason v_o_errorPosition v_o_isSaved v_o_length v_o_at v_o_isWrong g_o_now gA gW) H.size q → A q := va_freeC (E := (e_X8_release cA o o_now o_saved o_aside o_history o_chains o_buffer o_numbers v_9 v_o_kept v_o_reason v_o_errorPosition v_o_isSaved v_o_length v_o_at v_o_isWrong g_o_now gA)) (Ec := (e_X8_remember cA o o_now o_saved o_aside o_history o_chains o_buffer o_numbers o_now v_9 v_o_kept v_o_reason v_o_errorPosition v_o_isSaved v_o_length v_o_at v_o_isWrong g_o_now gA)) (B := (gblk cA gA gW)) hD hS hA [0, 2, 1] rfl
          refine va_callv (va_runV (As := [.ref o_now]) (rest := []) ⟨hx, hb, hml, hown, hts⟩ (c_X8_remember l G cA o o_now o_saved o_aside o_history o_chains o_buffer o_numbers o_now H.size v_9 v_o_kept v_o_reason v_o_errorPosition v_o_isSaved v_o_length v_o_at v_o_isWrong g_o_now gA gW _ rfl (bnz hm hz)) (cwV 1 hts gX8_release_X8_remember rfl rfl rfl (by decide +kernel) ⟨Nat.le_of_ble_eq_true rfl, Nat.le_of_ble_eq_true rfl⟩) (preMV (q := (RX8, TX8, 15)) hPc hDc hK 0 rfl rfl) rfl rfl hl.1 rfl (lv_room (Nat.le_of_ble_eq_true rfl)) dX8_release_49 ⟨Nat.zero_le _, Nat.zero_le _⟩) hS (fun q _ h => hFc q h) hFc (fun u_12 t H locs ht hvm hw hB hz1 hk1 hS' => ?_)
          obtain ⟨v_11, h_12⟩ := u_12
          replace hm := bst hm hw
          replace hB : va_P G vwCl _ _ := hB
          rw [ht] at hB
          have hj := va_backC (E := (e_X8_release cA o o_now o_saved o_aside o_history o_chains o_buffer o_numbers v_9 v_o_kept v_o_reason v_o_errorPosition v_o_isSaved v_o_length v_o_at v_o_isWrong g_o_now gA)) (E' := (e_X8_release cA o o_now o_saved o_aside o_history o_chains o_buffer o_numbers v_9 v_11 v_o_reason v_o_errorPosition v_o_isSaved v_o_length v_o_at v_o_isWrong g_o_now gA)) (Ec := (e_X8_remember cA o o_now o_saved o_aside o_history o_chains o_buffer o_numbers o_now v_9 v_o_kept v_o_reason v_o_errorPosition v_o_isSaved v_o_length v_o_at v_o_isWrong g_o_now gA)) (Ec1 := (e_X8_remember cA o o_now o_saved o_aside o_history o_chains o_buffer o_numbers o_now v_9 v_11 v_o_reason v_o_errorPosition v_o_isSaved v_o_length v_o_at v_o_isWrong g_o_now gA)) (B := (gblk cA gA gW)) (B1 := (gblk cA gA h_12)) hP hD [0, 2, 1] rfl hk1 hB (gblk_addr ..) [(true, 0), (true, 2), (true, 1)] rfl (by decide) rfl
          replace hP : va_P G vwCl (k_X8_release cA o o_now o_saved o_aside o_history o_chains o_buffer o_numbers v_9 v_11 v_o_reason v_o_errorPosition v_o_isSaved v_o_length v_o_at v_o_isWrong g_o_now gA h_12) H := hj.1
          replace hD : va_D A (k_X8_release cA o o_now o_saved o_aside o_history o_chains o_buffer o_numbers v_9 v_11 v_o_reason v_o_errorPosition v_o_isSaved v_o_length v_o_at v_o_isWrong g_o_now gA h_12) := hj.2
          replace hS := hS'
          clear hj hPc hDc hFc hB
          refine lv_aload_n hx hb dX8_release_52 rfl (lv_at hl 0 rfl) ?_
          refine lv_iload_n hx hb dX8_release_53 rfl (lv_at hl 1 rfl) ?_
          refine vp_callSi (va_Run.run (va_runV (As := [.int p1]) (rest := []) ⟨hx, hb, hml, hown, hts⟩ (c_X8_rankOf l G cA o o_now o_saved o_aside o_history o_chains o_buffer o_numbers p1 v_9 v_11 v_o_reason v_o_errorPosition v_o_isSaved v_o_length v_o_at v_o_isWrong g_o_now _ rfl (bnz hm hz)) (cwV 1 hts gX8_release_X8_rankOf rfl rfl rfl (by decide +kernel) ⟨Nat.le_of_ble_eq_true rfl, Nat.le_of_ble_eq_true rfl⟩) (preRV (q := (RX8, TX8, 15)) (hP.sub [0, 1] rfl) hK 0 rfl rfl) rfl rfl hl.1 rfl (lv_room (Nat.le_of_ble_eq_true rfl)) dX8_release_54 ⟨Nat.zero_le _, Nat.zero_le _⟩)) (fun r_13 hw => ?_)
          replace hm := bst hm hw
          refine lv_istore_n (lv' := [(2, .int r_13), (0, .ref o), (1, .int p1)]) hx hb dX8_release_57 rfl hl (by decide) rfl (fun ls hl => ?_)
          refine lv_aload_n hx hb dX8_release_58 rfl (lv_at hl 1 rfl) ?_
          refine lv_iload_n hx hb dX8_release_59 rfl (lv_at hl 0 rfl) ?_
          have hPc := hP.sub (ws' := (k_X8_takeOut cA o o_now o_saved o_aside o_history o_chains o_buffer o_numbers v_9 v_11 v_o_reason v_o_errorPosition v_o_isSaved v_o_length v_o_at v_o_isWrong g_o_now)) [0, 1] rfl
          have hDc := hD.sub (ws' := (k_X8_takeOut cA o o_now o_saved o_aside o_history o_chains o_buffer o_numbers v_9 v_11 v_o_reason v_o_errorPosition v_o_isSaved v_o_length v_o_at v_o_isWrong g_o_now)) [0, 1] (by decide) rfl
          have hFc := va_free (wc := (k_X8_takeOut cA o o_now o_saved o_aside o_history o_chains o_buffer o_numbers v_9 v_11 v_o_reason v_o_errorPosition v_o_isSaved v_o_length v_o_at v_o_isWrong g_o_now)) hD hS hA [0, 1] rfl
          refine va_callv (va_runV (As := [.int r_13]) (rest := []) ⟨hx, hb, hml, hown, hts⟩ (c_X8_takeOut l G cA o o_now o_saved o_aside o_history o_chains o_buffer o_numbers H.size r_13 v_9 v_11 v_o_reason v_o_errorPosition v_o_isSaved v_o_length v_o_at v_o_isWrong g_o_now _ rfl (bnz hm hz)) (cwV 1 hts gX8_release_X8_takeOut rfl rfl rfl (by decide +kernel) ⟨Nat.le_of_ble_eq_true rfl, Nat.le_of_ble_eq_true rfl⟩) (preMV (q := (RX8, TX8, 15)) hPc hDc hK 0 rfl rfl) rfl rfl hl.1 rfl (lv_room (Nat.le_of_ble_eq_true rfl)) dX8_release_60 ⟨Nat.zero_le _, Nat.zero_le _⟩) hS (fun q _ h => hFc q h) hFc (fun u_14 t H locs ht hvm hw hB hz1 hk1 hS' => ?_)
          obtain ⟨g_14, rfl⟩ : ∃ z, z = u_14 := ⟨_, rfl⟩
          replace hm := bst hm hw
          replace hB : va_P G vwCl _ _ := hB
          rw [ht] at hB
          have hj := va_backB (E := (e_X8_release cA o o_now o_saved o_aside o_history o_chains o_buffer o_numbers v_9 v_11 v_o_reason v_o_errorPosition v_o_isSaved v_o_length v_o_at v_o_isWrong g_o_now gA)) (E' := (e_X8_release cA o o_now o_saved o_aside o_history o_chains o_buffer o_numbers v_9 v_11 v_o_reason v_o_errorPosition v_o_isSaved v_o_length v_o_at v_o_isWrong g_14 gA)) (B := (gblk cA gA h_12)) hP hD [0, 1] rfl hk1 hB [(true, 0), (true, 1), (false, 2)] rfl (by decide) rfl
          replace hP : va_P G vwCl (k_X8_release cA o o_now o_saved o_aside o_history o_chains o_buffer o_numbers v_9 v_11 v_o_reason v_o_errorPosition v_o_isSaved v_o_length v_o_at v_o_isWrong g_14 gA h_12) H := hj.1
          replace hD : va_D A (k_X8_release cA o o_now o_saved o_aside o_history o_chains o_buffer o_numbers v_9 v_11 v_o_reason v_o_errorPosition v_o_isSaved v_o_length v_o_at v_o_isWrong g_14 gA h_12) := hj.2
          replace hS := hS'
          clear hj hPc hDc hFc hB
          refine lv_iload_n hx hb dX8_release_63 rfl (lv_at hl 0 rfl) ?_
          exact hret _ _ _ (v_9, v_11, g_14, h_12) _ _ dX8_release_64 rfl hP hS hm.symm
        · replace hm := ie hm c_10
          refine lv_iconst (v := (0 : Int32)) hx hb dX8_release_42 (by decide) ?_
          exact hret _ _ _ (v_9, v_o_kept, g_o_now, gW) _ _ dX8_release_43 rfl hP hS hm.symm
      refine lv_if_ge (tgt := 35) hx hb dX8_release_28 (by decide) (fun c_15 => ?_) (fun c_15 => ?_)
      · replace hm := it hm c_15
        refine lv_iconst (v := (0 : Int32)) hx hb dX8_release_35 (by decide) ?_
        exact J36_1 (0 : Int32) _ _ _ hm hP hD hS (lv_sub hl [0, 1] rfl)
      · replace hm := ie hm c_15
        refine lv_iconst (v := (1 : Int32)) hx hb dX8_release_31 (by decide) ?_
        refine lv_goto (tgt := 36) hx hb dX8_release_32 (by decide) ?_
        exact J36_1 (1 : Int32) _ _ _ hm hP hD hS (lv_sub hl [0, 1] rfl)
  refine lv_if_ne (tgt := 14) hx hb dX8_release_7 (by decide) (fun c_16 => ?_) (fun c_16 => ?_)
  · replace hm := ie hm c_16
    refine lv_iconst (v := (0 : Int32)) hx hb dX8_release_14 (by decide) ?_
    exact J15_2 (0 : Int32) _ _ _ hm hP hD hS (lv_sub hl [0, 1] rfl)
  · replace hm := it hm c_16
    refine lv_iconst (v := (1 : Int32)) hx hb dX8_release_10 (by decide) ?_
    refine lv_goto (tgt := 15) hx hb dX8_release_11 (by decide) ?_
    exact J15_2 (1 : Int32) _ _ _ hm hP hD hS (lv_sub hl [0, 1] rfl)
def m_X8_postpone_L86 (p1 : Int32) (v_9 : Int32) (v_11 : Int32) (h_12 : Nat → Nat → Int32) (r_13 : Int32) : ((Int32 × (Nat → Int32)) → Option (Int32 × Int32 × Int32 × (Nat → Int32) × (Nat → Nat → Int32))) → (Int32 × (Nat → Int32)) → Option (Int32 × Int32 × Int32 × (Nat → Int32) × (Nat → Nat → Int32)) := fun rec_17 v => match v with
  | (x_15, g_16) => (if r_13 ≤ x_15 then gd (ix ((601 : Int32) + r_13) 621) (some (r_13, v_9, v_11, upd g_16 ((601 : Int32) + r_13).toNatClampNeg p1, h_12)) else gd (ix (((601 : Int32) + x_15) + (1 : Int32)) 621) (gd (ix ((601 : Int32) + x_15) 621) (rec_17 (x_15 + (1 : Int32), upd g_16 ((601 : Int32) + x_15).toNatClampNeg (g_16 (((601 : Int32) + x_15) + (1 : Int32)).toNatClampNeg)))))
def m_X8_postpone_J57 (g_o_now : Nat → Int32) (gW : Nat → Nat → Int32) (v_o_kept : Int32) (p1 : Int32) (p2 : Int32) : (Int32) → Option (Int32 × Int32 × Int32 × (Nat → Int32) × (Nat → Nat → Int32)) := fun y_7 => Option.bind (m_X8_fails (2 : Int32) y_7) (fun q => match q with
  | (r_8, v_9) => (if r_8 = 0 then Option.bind (m_X8_remember v_o_kept g_o_now gW) (fun q => match q with
  | (v_11, h_12) => Option.bind (m_X8_rankOf p2 g_o_now) (fun r_13 => Option.bind (m_X8_rankOf p1 g_o_now) (fun r_14 => fuel (m_X8_postpone_L86 p1 v_9 v_11 h_12 r_13) FU (r_14, g_o_now)))) else some ((0 : Int32), v_9, v_o_kept, g_o_now, gW)))
def m_X8_postpone_J23 (g_o_now : Nat → Int32) (gW : Nat → Nat → Int32) (v_o_kept : Int32) (p1 : Int32) (p2 : Int32) : (Int32) → Option (Int32 × Int32 × Int32 × (Nat → Int32) × (Nat → Nat → Int32)) := fun y_2 => Option.bind (m_X8_fails (1 : Int32) y_2) (fun q => match q with
  | (r_3, v_4) => (if r_3 = 0 then Option.bind (m_X8_rankOf p1 g_o_now) (fun r_6 => (if r_6 < 0 then m_X8_postpone_J57 g_o_now gW v_o_kept p1 p2 (1 : Int32) else Option.bind (m_X8_rankOf p2 g_o_now) (fun r_23 => Option.bind (m_X8_rankOf p1 g_o_now) (fun r_24 => (if r_24 < r_23 then m_X8_postpone_J57 g_o_now gW v_o_kept p1 p2 (0 : Int32) else m_X8_postpone_J57 g_o_now gW v_o_kept p1 p2 (1 : Int32)))))) else some ((0 : Int32), v_4, v_o_kept, g_o_now, gW)))
def m_X8_postpone (p1 : Int32) (p2 : Int32) (v_o_kept : Int32) (g_o_now : Nat → Int32) (gW : Nat → Nat → Int32) : Option (Int32 × Int32 × Int32 × (Nat → Int32) × (Nat → Nat → Int32)) := Option.bind (m_X8_isLien p1 g_o_now) (fun r_1 => (if r_1 = 0 then m_X8_postpone_J23 g_o_now gW v_o_kept p1 p2 (1 : Int32) else Option.bind (m_X8_isLien p2 g_o_now) (fun r_27 => (if r_27 = 0 then m_X8_postpone_J23 g_o_now gW v_o_kept p1 p2 (1 : Int32) else m_X8_postpone_J23 g_o_now gW v_o_kept p1 p2 (0 : Int32)))))
abbrev e_X8_postpone (cA : Nat → ClassId) (o o_now o_saved o_aside o_history o_chains o_buffer o_numbers : Nat) (v_o_thrown : Int32) (v_o_kept : Int32) (v_o_reason : Int32) (v_o_errorPosition : Int32) (v_o_isSaved : Int32) (v_o_length : Int32) (v_o_at : Int32) (v_o_isWrong : Int32) (g_o_now : Nat → Int32) (gA : Nat → Nat) : va_W := [(o, .inr (10, [.int v_o_thrown, .ref o_now, .ref o_saved, .ref o_aside, .ref o_history, .int v_o_kept, .int v_o_reason, .int v_o_errorPosition, .int v_o_isSaved, .ref o_chains, .ref o_buffer, .int v_o_length, .int v_o_at, .int v_o_isWrong, .ref o_numbers])), (o_now, .inl (cA 0, 621, .inl g_o_now)), (o_history, .inl (cA 3, 6, .inr (.inr (.inr (.inr (fun j => some (gA j)))))))]
abbrev k_X8_postpone (cA : Nat → ClassId) (o o_now o_saved o_aside o_history o_chains o_buffer o_numbers : Nat) (v_o_thrown : Int32) (v_o_kept : Int32) (v_o_reason : Int32) (v_o_errorPosition : Int32) (v_o_isSaved : Int32) (v_o_length : Int32) (v_o_at : Int32) (v_o_isWrong : Int32) (g_o_now : Nat → Int32) (gA : Nat → Nat) (gW : Nat → Nat → Int32) : va_W := e_X8_postpone cA o o_now o_saved o_aside o_history o_chains o_buffer o_numbers v_o_thrown v_o_kept v_o_reason v_o_errorPosition v_o_isSaved v_o_length v_o_at v_o_isWrong g_o_now gA ++ gblk cA gA gW
set_option maxHeartbeats 4000000 in
set_option maxRecDepth 100000 in
/-- X8_postpone: as its model -/
theorem c_X8_postpone (l : Launch) (G : va_G) (cA : Nat → ClassId) (o o_now o_saved o_aside o_history o_chains o_buffer o_numbers : Nat) (sz : Nat) (p1 : Int32) (p2 : Int32) (v_o_thrown : Int32) (v_o_kept : Int32) (v_o_reason : Int32) (v_o_errorPosition : Int32) (v_o_isSaved : Int32) (v_o_length : Int32) (v_o_at : Int32) (v_o_isWrong : Int32) (g_o_now : Nat → Int32) (gA : Nat → Nat) (gW : Nat → Nat → Int32) (R : Option (Int32 × Int32 × Int32 × (Nat → Int32) × (Nat → Nat → Int32))) (hR : m_X8_postpone p1 p2 v_o_kept g_o_now gW = R) (hz : R ≠ none) : Met l yX8_postpone wsX8_postpone ({ frames := 2, cells := 0, slots := 0, locals := 44 } : Room) (va_Pc [.ref o, .int p1, .int p2] (PM G cA (k_X8_postpone cA o o_now o_saved o_aside o_history o_chains o_buffer o_numbers v_o_thrown v_o_kept v_o_reason v_o_errorPosition v_o_isSaved v_o_length v_o_at v_o_isWrong g_o_now gA gW) sz)) (va_Qi (fun (r : Int32) (u : Int32 × Int32 × (Nat → Int32) × (Nat → Nat → Int32)) => R = some (r, u)) (BM G (fun (u : Int32 × Int32 × (Nat → Int32) × (Nat → Nat → Int32)) => (k_X8_postpone cA o o_now o_saved o_aside o_history o_chains o_buffer o_numbers u.1 u.2.1 v_o_reason v_o_errorPosition v_o_isSaved v_o_length v_o_at v_o_isWrong u.2.2.1 gA u.2.2.2))) (va_A (k_X8_postpone cA o o_now o_saved o_aside o_history o_chains o_buffer o_numbers v_o_thrown v_o_kept v_o_reason v_o_errorPosition v_o_isSaved v_o_length v_o_at v_o_isWrong g_o_now gA gW) sz)) 0 0 (va_A (k_X8_postpone cA o o_now o_saved o_aside o_history o_chains o_buffer o_numbers v_o_thrown v_o_kept v_o_reason v_o_errorPosition v_o_isSaved v_o_length v_o_at v_o_isWrong g_o_now gA gW) sz) := by
  refine metM .int (by decide) rfl (Nat.le_of_ble_eq_true rfl) ?_
  intro p e s m av below meth c Q ls A H hx hb hml hts hown hP hK hD hA hS hl hret
  replace hl : lv_has ls 5 [(0, .ref o), (1, .int p1), (2, .int p2)] := hl
  have w_0 := hts (.fieldLink RX8 9 "ParcelRegistryModel" "now" "[I") (by decide +kernel)
  have i_X8 : ∀ w ∈ wsX80, w ∈ wsX8_postpone := by decide +kernel
  have hm := hR
  unfold m_X8_postpone at hm
  refine lv_aload_n hx hb dX8_postpone_0 rfl (lv_at hl 0 rfl) ?_
  refine lv_iconst (v := (1 : Int32)) hx hb dX8_postpone_1 (by decide) ?_
  refine lv_aload_n hx hb dX8_postpone_2 rfl (lv_at hl 0 rfl) ?_
  refine lv_iload_n hx hb dX8_postpone_3 rfl (lv_at hl 1 rfl) ?_
  refine vp_callSi (va_Run.run (va_runV (As := [.int p1]) (rest := [.int (1 : Int32), .ref o]) ⟨hx, hb, hml, hown, hts⟩ (c_X8_isLien l G cA o o_now o_saved o_aside o_history o_chains o_buffer o_numbers p1 v_o_thrown v_o_kept v_o_reason v_o_errorPosition v_o_isSaved v_o_length v_o_at v_o_isWrong g_o_now _ rfl (bnz hm hz)) (cwV 1 hts gX8_postpone_X8_isLien rfl rfl rfl (by decide +kernel) ⟨Nat.le_of_ble_eq_true rfl, Nat.le_of_ble_eq_true rfl⟩) (preRV (q := (RX8, TX8, 15)) (hP.sub [0, 1] rfl) hK 0 rfl rfl) rfl rfl hl.1 rfl (lv_room (Nat.le_of_ble_eq_true rfl)) dX8_postpone_4 ⟨Nat.zero_le _, Nat.zero_le _⟩)) (fun r_1 hw => ?_)
  replace hm := bst hm hw.1
  have J23_3 : ∀ (y_2 : Int32), ∀ (H : Heap) (locs : List Loc) (ls : Array Slot), m_X8_postpone_J23 g_o_now gW v_o_kept p1 p2 y_2 = R → va_P G vwCl (k_X8_postpone cA o o_now o_saved o_aside o_history o_chains o_buffer o_numbers v_o_thrown v_o_kept v_o_reason v_o_errorPosition v_o_isSaved v_o_length v_o_at v_o_isWrong g_o_now gA gW) H → va_D A (k_X8_postpone cA o o_now o_saved o_aside o_history o_chains o_buffer o_numbers v_o_thrown v_o_kept v_o_reason v_o_errorPosition v_o_isSaved v_o_length v_o_at v_o_isWrong g_o_now gA gW) → va_S A s.heap H locs → lv_has ls 5 [(0, .ref o), (1, .int p1), (2, .int p2)] → W p l e ({ frames := 2, cells := 0, slots := 0, locals := 44 } : Room) s m av below meth c H locs 0 0 Q (F0 m 23 ls [.int y_2, .int (1 : Int32), .ref o]) := by
    intro y_2 H locs ls hm hP hD hS hl
    unfold m_X8_postpone_J23 at hm
    have hPc := hP.sub (ws' := (k_X8_fails cA o o_now o_saved o_aside o_history o_chains o_buffer o_numbers v_o_thrown v_o_kept v_o_reason v_o_errorPosition v_o_isSaved v_o_length v_o_at v_o_isWrong)) [0] rfl
    have hDc := hD.sub (ws' := (k_X8_fails cA o o_now o_saved o_aside o_history o_chains o_buffer o_numbers v_o_thrown v_o_kept v_o_reason v_o_errorPosition v_o_isSaved v_o_length v_o_at v_o_isWrong)) [0] (by decide) rfl
    have hFc := va_free (wc := (k_X8_fails cA o o_now o_saved o_aside o_history o_chains o_buffer o_numbers v_o_thrown v_o_kept v_o_reason v_o_errorPosition v_o_isSaved v_o_length v_o_at v_o_isWrong)) hD hS hA [0] rfl
    refine va_calli (va_runV (As := [.int (1 : Int32), .int y_2]) (rest := []) ⟨hx, hb, hml, hown, hts⟩ (c_X8_fails l G cA o o_now o_saved o_aside o_history o_chains o_buffer o_numbers H.size (1 : Int32) y_2 v_o_thrown v_o_kept v_o_reason v_o_errorPosition v_o_isSaved v_o_length v_o_at v_o_isWrong _ rfl (bnz hm hz)) (cwV 2 hts gX8_postpone_X8_fails rfl rfl rfl (by decide +kernel) ⟨Nat.le_of_ble_eq_true rfl, Nat.le_of_ble_eq_true rfl⟩) (preMV (q := (RX8, TX8, 15)) hPc hDc hK 0 rfl rfl) rfl rfl hl.1 rfl (lv_room (Nat.le_of_ble_eq_true rfl)) dX8_postpone_23 ⟨Nat.zero_le _, Nat.zero_le _⟩) hS (fun q _ h => hFc q h) hFc (fun r_3 u_4 t H locs ht hvm hw hB hz1 hk1 hS' => ?_)
    obtain ⟨v_4, rfl⟩ : ∃ z, z = u_4 := ⟨_, rfl⟩
    replace hm := bst hm hw.1
    replace hB : va_P G vwCl _ _ := hB
    rw [ht] at hB
    have hj := va_backB (E := (e_X8_postpone cA o o_now o_saved o_aside o_history o_chains o_buffer o_numbers v_o_thrown v_o_kept v_o_reason v_o_errorPosition v_o_isSaved v_o_length v_o_at v_o_isWrong g_o_now gA)) (E' := (e_X8_postpone cA o o_now o_saved o_aside o_history o_chains o_buffer o_numbers v_4 v_o_kept v_o_reason v_o_errorPosition v_o_isSaved v_o_length v_o_at v_o_isWrong g_o_now gA)) (B := (gblk cA gA gW)) hP hD [0] rfl hk1 hB [(true, 0), (false, 1), (false, 2)] rfl (by decide) rfl
    replace hP : va_P G vwCl (k_X8_postpone cA o o_now o_saved o_aside o_history o_chains o_buffer o_numbers v_4 v_o_kept v_o_reason v_o_errorPosition v_o_isSaved v_o_length v_o_at v_o_isWrong g_o_now gA gW) H := hj.1
    replace hD : va_D A (k_X8_postpone cA o o_now o_saved o_aside o_history o_chains o_buffer o_numbers v_4 v_o_kept v_o_reason v_o_errorPosition v_o_isSaved v_o_length v_o_at v_o_isWrong g_o_now gA gW) := hj.2
    replace hS := hS'
    clear hj hPc hDc hFc hB
    refine lv_if_ne (tgt := 63) hx hb dX8_postpone_26 (by decide) (fun c_5 => ?_) (fun c_5 => ?_)
    · replace hm := ie hm c_5
      refine lv_iconst (v := (0 : Int32)) hx hb dX8_postpone_63 (by decide) ?_
      exact hret _ _ _ (v_4, v_o_kept, g_o_now, gW) _ _ dX8_postpone_64 rfl hP hS hm.symm
    · replace hm := it hm c_5
      refine lv_aload_n hx hb dX8_postpone_29 rfl (lv_at hl 0 rfl) ?_
      refine lv_iconst (v := (2 : Int32)) hx hb dX8_postpone_30 (by decide) ?_
      refine lv_aload_n hx hb dX8_postpone_31 rfl (lv_at hl 0 rfl) ?_
      refine lv_iload_n hx hb dX8_postpone_32 rfl (lv_at hl 1 rfl) ?_
      refine vp_callSi (va_Run.run (va_runV (As := [.int p1]) (rest := [.int (2 : Int32), .ref o]) ⟨hx, hb, hml, hown, hts⟩ (c_X8_rankOf l G cA o o_now o_saved o_aside o_history o_chains o_buffer o_numbers p1 v_4 v_o_kept v_o_reason v_o_errorPosition v_o_isSaved v_o_length v_o_at v_o_isWrong g_o_now _ rfl (bnz hm hz)) (cwV 1 hts gX8_postpone_X8_rankOf rfl rfl rfl (by decide +kernel) ⟨Nat.le_of_ble_eq_true rfl, Nat.le_of_ble_eq_true rfl⟩) (preRV (q := (RX8, TX8, 15)) (hP.sub [0, 1] rfl) hK 0 rfl rfl) rfl rfl hl.1 rfl (lv_room (Nat.le_of_ble_eq_true rfl)) dX8_postpone_33 ⟨Nat.zero_le _, Nat.zero_le _⟩)) (fun r_6 hw => ?_)
      replace hm := bst hm hw
      have J57_2 : ∀ (y_7 : Int32), ∀ (H : Heap) (locs : List Loc) (ls : Array Slot), m_X8_postpone_J57 g_o_now gW v_o_kept p1 p2 y_7 = R → va_P G vwCl (k_X8_postpone cA o o_now o_saved o_aside o_history o_chains o_buffer o_numbers v_4 v_o_kept v_o_reason v_o_errorPosition v_o_isSaved v_o_length v_o_at v_o_isWrong g_o_now gA gW) H → va_D A (k_X8_postpone cA o o_now o_saved o_aside o_history o_chains o_buffer o_numbers v_4 v_o_kept v_o_reason v_o_errorPosition v_o_isSaved v_o_length v_o_at v_o_isWrong g_o_now gA gW) → va_S A s.heap H locs → lv_has ls 5 [(0, .ref o), (1, .int p1), (2, .int p2)] → W p l e ({ frames := 2, cells := 0, slots := 0, locals := 44 } : Room) s m av below meth c H locs 0 0 Q (F0 m 57 ls [.int y_7, .int (2 : Int32), .ref o]) := by
        intro y_7 H locs ls hm hP hD hS hl
        unfold m_X8_postpone_J57 at hm
        have hPc := hP.sub (ws' := (k_X8_fails cA o o_now o_saved o_aside o_history o_chains o_buffer o_numbers v_4 v_o_kept v_o_reason v_o_errorPosition v_o_isSaved v_o_length v_o_at v_o_isWrong)) [0] rfl
        have hDc := hD.sub (ws' := (k_X8_fails cA o o_now o_saved o_aside o_history o_chains o_buffer o_numbers v_4 v_o_kept v_o_reason v_o_errorPosition v_o_isSaved v_o_length v_o_at v_o_isWrong)) [0] (by decide) rfl
        have hFc := va_free (wc := (k_X8_fails cA o o_now o_saved o_aside o_history o_chains o_buffer o_numbers v_4 v_o_kept v_o_reason v_o_errorPosition v_o_isSaved v_o_length v_o_at v_o_isWrong)) hD hS hA [0] rfl
        refine va_calli (va_runV (As := [.int (2 : Int32), .int y_7]) (rest := []) ⟨hx, hb, hml, hown, hts⟩ (c_X8_fails l G cA o o_now o_saved o_aside o_history o_chains o_buffer o_numbers H.size (2 : Int32) y_7 v_4 v_o_kept v_o_reason v_o_errorPosition v_o_isSaved v_o_length v_o_at v_o_isWrong _ rfl (bnz hm hz)) (cwV 2 hts gX8_postpone_X8_fails rfl rfl rfl (by decide +kernel) ⟨Nat.le_of_ble_eq_true rfl, Nat.le_of_ble_eq_true rfl⟩) (preMV (q := (RX8, TX8, 15)) hPc hDc hK 0 rfl rfl) rfl rfl hl.1 rfl (lv_room (Nat.le_of_ble_eq_true rfl)) dX8_postpone_57 ⟨Nat.zero_le _, Nat.zero_le _⟩) hS (fun q _ h => hFc q h) hFc (fun r_8 u_9 t H locs ht hvm hw hB hz1 hk1 hS' => ?_)
        obtain ⟨v_9, rfl⟩ : ∃ z, z = u_9 := ⟨_, rfl⟩
        replace hm := bst hm hw.1
        replace hB : va_P G vwCl _ _ := hB
        rw [ht] at hB
        have hj := va_backB (E := (e_X8_postpone cA o o_now o_saved o_aside o_history o_chains o_buffer o_numbers v_4 v_o_kept v_o_reason v_o_errorPosition v_o_isSaved v_o_length v_o_at v_o_isWrong g_o_now gA)) (E' := (e_X8_postpone cA o o_now o_saved o_aside o_history o_chains o_buffer o_numbers v_9 v_o_kept v_o_reason v_o_errorPosition v_o_isSaved v_o_length v_o_at v_o_isWrong g_o_now gA)) (B := (gblk cA gA gW)) hP hD [0] rfl hk1 hB [(true, 0), (false, 1), (false, 2)] rfl (by decide) rfl
        replace hP : va_P G vwCl (k_X8_postpone cA o o_now o_saved o_aside o_history o_chains o_buffer o_numbers v_9 v_o_kept v_o_reason v_o_errorPosition v_o_isSaved v_o_length v_o_at v_o_isWrong g_o_now gA gW) H := hj.1
        replace hD : va_D A (k_X8_postpone cA o o_now o_saved o_aside o_history o_chains o_buffer o_numbers v_9 v_o_kept v_o_reason v_o_errorPosition v_o_isSaved v_o_length v_o_at v_o_isWrong g_o_now gA gW) := hj.2
        replace hS := hS'
        clear hj hPc hDc hFc hB
        refine lv_if_eq (tgt := 65) hx hb dX8_postpone_60 (by decide) (fun c_10 => ?_) (fun c_10 => ?_)
        · replace hm := it hm c_10
          refine lv_aload_n hx hb dX8_postpone_65 rfl (lv_at hl 0 rfl) ?_
          refine lv_aload_n hx hb dX8_postpone_66 rfl (lv_at hl 0 rfl) ?_
          refine va_get (D := G) (ci := 10) (v := .ref o_now) (C := RX8) (T := TX8) (N := 15) hx hb hts i_X8 hown hK.1 hP 0 rfl rfl 1 (by decide) w_0 (fun _ h9 => h9) rfl dX8_postpone_67 ?_
          have hPc : va_P G vwCl (k_X8_remember cA o o_now o_saved o_aside o_history o_chains o_buffer o_numbers o_now v_9 v_o_kept v_o_reason v_o_errorPosition v_o_isSaved v_o_length v_o_at v_o_isWrong g_o_now gA gW) H := va_subC (E := (e_X8_postpone cA o o_now o_saved o_aside o_history o_chains o_buffer o_numbers v_9 v_o_kept v_o_reason v_o_errorPosition v_o_isSaved v_o_length v_o_at v_o_isWrong g_o_now gA)) (Ec := (e_X8_remember cA o o_now o_saved o_aside o_history o_chains o_buffer o_numbers o_now v_9 v_o_kept v_o_reason v_o_errorPosition v_o_isSaved v_o_length v_o_at v_o_isWrong g_o_now gA)) (B := (gblk cA gA gW)) hP [0, 2, 1] rfl
          have hDc : va_D A (k_X8_remember cA o o_now o_saved o_aside o_history o_chains o_buffer o_numbers o_now v_9 v_o_kept v_o_reason v_o_errorPosition v_o_isSaved v_o_length v_o_at v_o_isWrong g_o_now gA gW) := va_subCD (E := (e_X8_postpone cA o o_now o_saved o_aside o_history o_chains o_buffer o_numbers v_9 v_o_kept v_o_reason v_o_errorPosition v_o_isSaved v_o_length v_o_at v_o_isWrong g_o_now gA)) (Ec := (e_X8_remember cA o o_now o_saved o_aside o_history o_chains o_buffer o_numbers o_now v_9 v_o_kept v_o_reason v_o_errorPosition v_o_isSaved v_o_length v_o_at v_o_isWrong g_o_now gA)) (B := (gblk cA gA gW)) hD [0, 2, 1] (by decide) rfl
          have hFc : ∀ q, va_A (k_X8_remember cA o o_now o_saved o_aside o_history o_chains o_buffer o_numbers o_now v_9 v_o_kept v_o_reason v_o_errorPosition v_o_isSaved v_o_length v_o_at v_o_isWrong g_o_now gA gW) H.size q → A q := va_freeC (E := (e_X8_postpone cA o o_now o_saved o_aside o_history o_chains o_buffer o_numbers v_9 v_o_kept v_o_reason v_o_errorPosition v_o_isSaved v_o_length v_o_at v_o_isWrong g_o_now gA)) (Ec := (e_X8_remember cA o o_now o_saved o_aside o_history o_chains o_buffer o_numbers o_now v_9 v_o_kept v_o_reason v_o_errorPosition v_o_isSaved v_o_length v_o_at v_o_isWrong g_o_now gA)) (B := (gblk cA gA gW)) hD hS hA [0, 2, 1] rfl
          refine va_callv (va_runV (As := [.ref o_now]) (rest := []) ⟨hx, hb, hml, hown, hts⟩ (c_X8_remember l G cA o o_now o_saved o_aside o_history o_chains o_buffer o_numbers o_now H.size v_9 v_o_kept v_o_reason v_o_errorPosition v_o_isSaved v_o_length v_o_at v_o_isWrong g_o_now gA gW _ rfl (bnz hm hz)) (cwV 1 hts gX8_postpone_X8_remember rfl rfl rfl (by decide +kernel) ⟨Nat.le_of_ble_eq_true rfl, Nat.le_of_ble_eq_true rfl⟩) (preMV (q := (RX8, TX8, 15)) hPc hDc hK 0 rfl rfl) rfl rfl hl.1 rfl (lv_room (Nat.le_of_ble_eq_true rfl)) dX8_postpone_70 ⟨Nat.zero_le _, Nat.zero_le _⟩) hS (fun q _ h => hFc q h) hFc (fun u_12 t H locs ht hvm hw hB hz1 hk1 hS' => ?_)
          obtain ⟨v_11, h_12⟩ := u_12
          replace hm := bst hm hw
          replace hB : va_P G vwCl _ _ := hB
          rw [ht] at hB
          have hj := va_backC (E := (e_X8_postpone cA o o_now o_saved o_aside o_history o_chains o_buffer o_numbers v_9 v_o_kept v_o_reason v_o_errorPosition v_o_isSaved v_o_length v_o_at v_o_isWrong g_o_now gA)) (E' := (e_X8_postpone cA o o_now o_saved o_aside o_history o_chains o_buffer o_numbers v_9 v_11 v_o_reason v_o_errorPosition v_o_isSaved v_o_length v_o_at v_o_isWrong g_o_now gA)) (Ec := (e_X8_remember cA o o_now o_saved o_aside o_history o_chains o_buffer o_numbers o_now v_9 v_o_kept v_o_reason v_o_errorPosition v_o_isSaved v_o_length v_o_at v_o_isWrong g_o_now gA)) (Ec1 := (e_X8_remember cA o o_now o_saved o_aside o_history o_chains o_buffer o_numbers o_now v_9 v_11 v_o_reason v_o_errorPosition v_o_isSaved v_o_length v_o_at v_o_isWrong g_o_now gA)) (B := (gblk cA gA gW)) (B1 := (gblk cA gA h_12)) hP hD [0, 2, 1] rfl hk1 hB (gblk_addr ..) [(true, 0), (true, 2), (true, 1)] rfl (by decide) rfl
          replace hP : va_P G vwCl (k_X8_postpone cA o o_now o_saved o_aside o_history o_chains o_buffer o_numbers v_9 v_11 v_o_reason v_o_errorPosition v_o_isSaved v_o_length v_o_at v_o_isWrong g_o_now gA h_12) H := hj.1
          replace hD : va_D A (k_X8_postpone cA o o_now o_saved o_aside o_history o_chains o_buffer o_numbers v_9 v_11 v_o_reason v_o_errorPosition v_o_isSaved v_o_length v_o_at v_o_isWrong g_o_now gA h_12) := hj.2
          replace hS := hS'
          clear hj hPc hDc hFc hB
          refine lv_aload_n hx hb dX8_postpone_73 rfl (lv_at hl 0 rfl) ?_
          refine lv_iload_n hx hb dX8_postpone_74 rfl (lv_at hl 2 rfl) ?_
          refine vp_callSi (va_Run.run (va_runV (As := [.int p2]) (rest := []) ⟨hx, hb, hml, hown, hts⟩ (c_X8_rankOf l G cA o o_now o_saved o_aside o_history o_chains o_buffer o_numbers p2 v_9 v_11 v_o_reason v_o_errorPosition v_o_isSaved v_o_length v_o_at v_o_isWrong g_o_now _ rfl (bnz hm hz)) (cwV 1 hts gX8_postpone_X8_rankOf rfl rfl rfl (by decide +kernel) ⟨Nat.le_of_ble_eq_true rfl, Nat.le_of_ble_eq_true rfl⟩) (preRV (q := (RX8, TX8, 15)) (hP.sub [0, 1] rfl) hK 0 rfl rfl) rfl rfl hl.1 rfl (lv_room (Nat.le_of_ble_eq_true rfl)) dX8_postpone_75 ⟨Nat.zero_le _, Nat.zero_le _⟩)) (fun r_13 hw => ?_)
          replace hm := bst hm hw
          refine lv_istore_n (lv' := [(3, .int r_13), (0, .ref o), (1, .int p1), (2, .int p2)]) hx hb dX8_postpone_78 rfl hl (by decide) rfl (fun ls hl => ?_)
          refine lv_aload_n hx hb dX8_postpone_79 rfl (lv_at hl 1 rfl) ?_
          refine lv_iload_n hx hb dX8_postpone_80 rfl (lv_at hl 2 rfl) ?_
          refine vp_callSi (va_Run.run (va_runV (As := [.int p1]) (rest := []) ⟨hx, hb, hml, hown, hts⟩ (c_X8_rankOf l G cA o o_now o_saved o_aside o_history o_chains o_buffer o_numbers p1 v_9 v_11 v_o_reason v_o_errorPosition v_o_isSaved v_o_length v_o_at v_o_isWrong g_o_now _ rfl (bnz hm hz)) (cwV 1 hts gX8_postpone_X8_rankOf rfl rfl rfl (by decide +kernel) ⟨Nat.le_of_ble_eq_true rfl, Nat.le_of_ble_eq_true rfl⟩) (preRV (q := (RX8, TX8, 15)) (hP.sub [0, 1] rfl) hK 0 rfl rfl) rfl rfl hl.1 rfl (lv_room (Nat.le_of_ble_eq_true rfl)) dX8_postpone_81 ⟨Nat.zero_le _, Nat.zero_le _⟩)) (fun r_14 hw => ?_)
          replace hm := bst hm hw
          refine lv_istore (lv' := [(4, .int r_14), (3, .int r_13), (0, .ref o), (1, .int p1), (2, .int p2)]) hx hb dX8_postpone_84 hl (by decide) rfl (fun ls hl => ?_)
          have L86_1 : ∀ (n : Nat), ∀ (x_15 : Int32) (g_16 : Nat → Int32), ∀ (H : Heap) (locs : List Loc) (ls : Array Slot), fuel (m_X8_postpone_L86 p1 v_9 v_11 h_12 r_13) n (x_15, g_16) = R → va_P G vwCl (k_X8_postpone cA o o_now o_saved o_aside o_history o_chains o_buffer o_numbers v_9 v_11 v_o_reason v_o_errorPosition v_o_isSaved v_o_length v_o_at v_o_isWrong g_16 gA h_12) H → va_D A (k_X8_postpone cA o o_now o_saved o_aside o_history o_chains o_buffer o_numbers v_9 v_11 v_o_reason v_o_errorPosition v_o_isSaved v_o_length v_o_at v_o_isWrong g_16 gA h_12) → va_S A s.heap H locs → lv_has ls 5 [(0, .ref o), (1, .int p1), (3, .int r_13), (4, .int x_15)] → W p l e ({ frames := 2, cells := 0, slots := 0, locals := 44 } : Room) s m av below meth c H locs 0 0 Q (F0 m 86 ls []) := by
            intro n
            induction n with
            | zero =>
              intro x_15 g_16 H locs ls hm hP hD hS hl
              exact (fu0 hm hz).elim
            | succ n ih86 =>
              intro x_15 g_16 H locs ls hm hP hD hS hl
              replace hm := fus hm
              generalize fuel (m_X8_postpone_L86 p1 v_9 v_11 h_12 r_13) n = rec_17 at hm ih86
              unfold m_X8_postpone_L86 at hm
              refine lv_iload hx hb dX8_postpone_86 (lv_at hl 3 rfl) ?_
              refine lv_iload_n hx hb dX8_postpone_88 rfl (lv_at hl 2 rfl) ?_
              refine lv_icmp_ge (tgt := 122) hx hb dX8_postpone_89 (by decide) (fun c_18 => ?_) (fun c_18 => ?_)
              · replace hm := it hm c_18
                refine lv_aload_n hx hb dX8_postpone_122 rfl (lv_at hl 0 rfl) ?_
                refine va_get (D := G) (ci := 10) (v := .ref o_now) (C := RX8) (T := TX8) (N := 15) hx hb hts i_X8 hown hK.1 hP 0 rfl rfl 1 (by decide) w_0 (fun _ h9 => h9) rfl dX8_postpone_123 ?_
                refine lv_sipush (v := (601 : Int32)) hx hb dX8_postpone_126 (by decide) ?_
                refine lv_iload_n hx hb dX8_postpone_129 rfl (lv_at hl 2 rfl) ?_
                refine lv_iadd hx hb dX8_postpone_130 ?_
                refine lv_iload_n hx hb dX8_postpone_131 rfl (lv_at hl 1 rfl) ?_
                replace hm := gdo hm hz
                obtain ⟨gi_19, hm⟩ := hm
                refine va_iast hx hb hK.1 hP hD hS 1 0 (cA := cA 0) (n := 621) (f := g_16) rfl rfl (ixi gi_19) dX8_postpone_132 (fun H locs hP' hD' hS' => ?_)
                replace hP : va_P G vwCl (k_X8_postpone cA o o_now o_saved o_aside o_history o_chains o_buffer o_numbers v_9 v_11 v_o_reason v_o_errorPosition v_o_isSaved v_o_length v_o_at v_o_isWrong (upd g_16 ((601 : Int32) + r_13).toNatClampNeg p1) gA h_12) H := hP'
                replace hD : va_D A (k_X8_postpone cA o o_now o_saved o_aside o_history o_chains o_buffer o_numbers v_9 v_11 v_o_reason v_o_errorPosition v_o_isSaved v_o_length v_o_at v_o_isWrong (upd g_16 ((601 : Int32) + r_13).toNatClampNeg p1) gA h_12) := hD'
                replace hS := hS'
                refine lv_iload_n hx hb dX8_postpone_133 rfl (lv_at hl 2 rfl) ?_
                exact hret _ _ _ (v_9, v_11, upd g_16 ((601 : Int32) + r_13).toNatClampNeg p1, h_12) _ _ dX8_postpone_134 rfl hP hS hm.symm
              · replace hm := ie hm c_18
                refine lv_aload_n hx hb dX8_postpone_92 rfl (lv_at hl 0 rfl) ?_
                refine va_get (D := G) (ci := 10) (v := .ref o_now) (C := RX8) (T := TX8) (N := 15) hx hb hts i_X8 hown hK.1 hP 0 rfl rfl 1 (by decide) w_0 (fun _ h9 => h9) rfl dX8_postpone_93 ?_
                refine lv_sipush (v := (601 : Int32)) hx hb dX8_postpone_96 (by decide) ?_
                refine lv_iload hx hb dX8_postpone_99 (lv_at hl 3 rfl) ?_
                refine lv_iadd hx hb dX8_postpone_101 ?_
                refine lv_aload_n hx hb dX8_postpone_102 rfl (lv_at hl 0 rfl) ?_
                refine va_get (D := G) (ci := 10) (v := .ref o_now) (C := RX8) (T := TX8) (N := 15) hx hb hts i_X8 hown hK.1 hP 0 rfl rfl 1 (by decide) w_0 (fun _ h9 => h9) rfl dX8_postpone_103 ?_
                refine lv_sipush (v := (601 : Int32)) hx hb dX8_postpone_106 (by decide) ?_
                refine lv_iload hx hb dX8_postpone_109 (lv_at hl 3 rfl) ?_
                refine lv_iadd hx hb dX8_postpone_111 ?_
                refine lv_iconst (v := (1 : Int32)) hx hb dX8_postpone_112 (by decide) ?_
                refine lv_iadd hx hb dX8_postpone_113 ?_
                replace hm := gdo hm hz
                obtain ⟨gi_20, hm⟩ := hm
                refine va_iald hx hb hK.1 hP 1 0 (cA := cA 0) (n := 621) (f := g_16) rfl rfl (ixi gi_20) dX8_postpone_114 ?_
                replace hm := gdo hm hz
                obtain ⟨gi_21, hm⟩ := hm
                refine va_iast hx hb hK.1 hP hD hS 1 0 (cA := cA 0) (n := 621) (f := g_16) rfl rfl (ixi gi_21) dX8_postpone_115 (fun H locs hP' hD' hS' => ?_)
                replace hP : va_P G vwCl (k_X8_postpone cA o o_now o_saved o_aside o_history o_chains o_buffer o_numbers v_9 v_11 v_o_reason v_o_errorPosition v_o_isSaved v_o_length v_o_at v_o_isWrong (upd g_16 ((601 : Int32) + x_15).toNatClampNeg (g_16 (((601 : Int32) + x_15) + (1 : Int32)).toNatClampNeg)) gA h_12) H := hP'
                replace hD : va_D A (k_X8_postpone cA o o_now o_saved o_aside o_history o_chains o_buffer o_numbers v_9 v_11 v_o_reason v_o_errorPosition v_o_isSaved v_o_length v_o_at v_o_isWrong (upd g_16 ((601 : Int32) + x_15).toNatClampNeg (g_16 (((601 : Int32) + x_15) + (1 : Int32)).toNatClampNeg)) gA h_12) := hD'
                replace hS := hS'
                refine lv_iinc (v := x_15 + (1 : Int32)) (lv' := [(4, .int (x_15 + (1 : Int32))), (0, .ref o), (1, .int p1), (3, .int r_13)]) hx hb dX8_postpone_116 hl (k := 3) rfl rfl (by decide) rfl (fun ls hl => ?_)
                refine lv_goto (tgt := 86) hx hb dX8_postpone_119 (by decide) ?_
                exact ih86 (x_15 + (1 : Int32)) (upd g_16 ((601 : Int32) + x_15).toNatClampNeg (g_16 (((601 : Int32) + x_15) + (1 : Int32)).toNatClampNeg)) _ _ _ hm hP hD hS (lv_sub hl [1, 2, 3, 0] rfl)
          exact L86_1 _ r_14 g_o_now _ _ _ hm hP hD hS (lv_sub hl [2, 3, 1, 0] rfl)
        · replace hm := ie hm c_10
          refine lv_iconst (v := (0 : Int32)) hx hb dX8_postpone_63 (by decide) ?_
          exact hret _ _ _ (v_9, v_o_kept, g_o_now, gW) _ _ dX8_postpone_64 rfl hP hS hm.symm
      refine lv_if_lt (tgt := 52) hx hb dX8_postpone_36 (by decide) (fun c_22 => ?_) (fun c_22 => ?_)
      · replace hm := it hm c_22
        refine lv_iconst (v := (1 : Int32)) hx hb dX8_postpone_52 (by decide) ?_
        refine lv_goto (tgt := 57) hx hb dX8_postpone_53 (by decide) ?_
        exact J57_2 (1 : Int32) _ _ _ hm hP hD hS (lv_sub hl [0, 1, 2] rfl)
      · replace hm := ie hm c_22
        refine lv_aload_n hx hb dX8_postpone_39 rfl (lv_at hl 0 rfl) ?_
        refine lv_iload_n hx hb dX8_postpone_40 rfl (lv_at hl 2 rfl) ?_
        refine vp_callSi (va_Run.run (va_runV (As := [.int p2]) (rest := [.int (2 : Int32), .ref o]) ⟨hx, hb, hml, hown, hts⟩ (c_X8_rankOf l G cA o o_now o_saved o_aside o_history o_chains o_buffer o_numbers p2 v_4 v_o_kept v_o_reason v_o_errorPosition v_o_isSaved v_o_length v_o_at v_o_isWrong g_o_now _ rfl (bnz hm hz)) (cwV 1 hts gX8_postpone_X8_rankOf rfl rfl rfl (by decide +kernel) ⟨Nat.le_of_ble_eq_true rfl, Nat.le_of_ble_eq_true rfl⟩) (preRV (q := (RX8, TX8, 15)) (hP.sub [0, 1] rfl) hK 0 rfl rfl) rfl rfl hl.1 rfl (lv_room (Nat.le_of_ble_eq_true rfl)) dX8_postpone_41 ⟨Nat.zero_le _, Nat.zero_le _⟩)) (fun r_23 hw => ?_)
        replace hm := bst hm hw
        refine lv_aload_n hx hb dX8_postpone_44 rfl (lv_at hl 0 rfl) ?_
        refine lv_iload_n hx hb dX8_postpone_45 rfl (lv_at hl 1 rfl) ?_
        refine vp_callSi (va_Run.run (va_runV (As := [.int p1]) (rest := [.int r_23, .int (2 : Int32), .ref o]) ⟨hx, hb, hml, hown, hts⟩ (c_X8_rankOf l G cA o o_now o_saved o_aside o_history o_chains o_buffer o_numbers p1 v_4 v_o_kept v_o_reason v_o_errorPosition v_o_isSaved v_o_length v_o_at v_o_isWrong g_o_now _ rfl (bnz hm hz)) (cwV 1 hts gX8_postpone_X8_rankOf rfl rfl rfl (by decide +kernel) ⟨Nat.le_of_ble_eq_true rfl, Nat.le_of_ble_eq_true rfl⟩) (preRV (q := (RX8, TX8, 15)) (hP.sub [0, 1] rfl) hK 0 rfl rfl) rfl rfl hl.1 rfl (lv_room (Nat.le_of_ble_eq_true rfl)) dX8_postpone_46 ⟨Nat.zero_le _, Nat.zero_le _⟩)) (fun r_24 hw => ?_)
        replace hm := bst hm hw
        refine lv_icmp_gt (tgt := 56) hx hb dX8_postpone_49 (by decide) (fun c_25 => ?_) (fun c_25 => ?_)
        · replace hm := it hm c_25
          refine lv_iconst (v := (0 : Int32)) hx hb dX8_postpone_56 (by decide) ?_
          exact J57_2 (0 : Int32) _ _ _ hm hP hD hS (lv_sub hl [0, 1, 2] rfl)
        · replace hm := ie hm c_25
          refine lv_iconst (v := (1 : Int32)) hx hb dX8_postpone_52 (by decide) ?_
          refine lv_goto (tgt := 57) hx hb dX8_postpone_53 (by decide) ?_
          exact J57_2 (1 : Int32) _ _ _ hm hP hD hS (lv_sub hl [0, 1, 2] rfl)
  refine lv_if_eq (tgt := 18) hx hb dX8_postpone_7 (by decide) (fun c_26 => ?_) (fun c_26 => ?_)
  · replace hm := it hm c_26
    refine lv_iconst (v := (1 : Int32)) hx hb dX8_postpone_18 (by decide) ?_
    refine lv_goto (tgt := 23) hx hb dX8_postpone_19 (by decide) ?_
    exact J23_3 (1 : Int32) _ _ _ hm hP hD hS (lv_sub hl [0, 1, 2] rfl)
  · replace hm := ie hm c_26
    refine lv_aload_n hx hb dX8_postpone_10 rfl (lv_at hl 0 rfl) ?_
    refine lv_iload_n hx hb dX8_postpone_11 rfl (lv_at hl 2 rfl) ?_
    refine vp_callSi (va_Run.run (va_runV (As := [.int p2]) (rest := [.int (1 : Int32), .ref o]) ⟨hx, hb, hml, hown, hts⟩ (c_X8_isLien l G cA o o_now o_saved o_aside o_history o_chains o_buffer o_numbers p2 v_o_thrown v_o_kept v_o_reason v_o_errorPosition v_o_isSaved v_o_length v_o_at v_o_isWrong g_o_now _ rfl (bnz hm hz)) (cwV 1 hts gX8_postpone_X8_isLien rfl rfl rfl (by decide +kernel) ⟨Nat.le_of_ble_eq_true rfl, Nat.le_of_ble_eq_true rfl⟩) (preRV (q := (RX8, TX8, 15)) (hP.sub [0, 1] rfl) hK 0 rfl rfl) rfl rfl hl.1 rfl (lv_room (Nat.le_of_ble_eq_true rfl)) dX8_postpone_12 ⟨Nat.zero_le _, Nat.zero_le _⟩)) (fun r_27 hw => ?_)
    replace hm := bst hm hw.1
    refine lv_if_ne (tgt := 22) hx hb dX8_postpone_15 (by decide) (fun c_28 => ?_) (fun c_28 => ?_)
    · replace hm := ie hm c_28
      refine lv_iconst (v := (0 : Int32)) hx hb dX8_postpone_22 (by decide) ?_
      exact J23_3 (0 : Int32) _ _ _ hm hP hD hS (lv_sub hl [0, 1, 2] rfl)
    · replace hm := it hm c_28
      refine lv_iconst (v := (1 : Int32)) hx hb dX8_postpone_18 (by decide) ?_
      refine lv_goto (tgt := 23) hx hb dX8_postpone_19 (by decide) ?_
      exact J23_3 (1 : Int32) _ _ _ hm hP hD hS (lv_sub hl [0, 1, 2] rfl)
def m_X8_advance_J45 (g_o_now : Nat → Int32) (gW : Nat → Nat → Int32) (v_o_kept : Int32) (p1 : Int32) : (Int32) → Option (Int32 × Int32 × Int32 × (Nat → Int32) × (Nat → Nat → Int32)) := fun y_7 => Option.bind (m_X8_fails (2 : Int32) y_7) (fun q => match q with
  | (r_8, v_9) => (if r_8 = 0 then Option.bind (m_X8_remember v_o_kept g_o_now gW) (fun q => match q with
  | (v_11, h_12) => gd (ix (0 : Int32) 621) (gd (ix (0 : Int32) 621) (gd (ix (0 : Int32) 621) (some ((upd g_o_now (0 : Int32).toNatClampNeg ((g_o_now (0 : Int32).toNatClampNeg) + p1)) (0 : Int32).toNatClampNeg, v_9, v_11, upd g_o_now (0 : Int32).toNatClampNeg ((g_o_now (0 : Int32).toNatClampNeg) + p1), h_12))))) else some ((0 : Int32), v_9, v_o_kept, g_o_now, gW)))
def m_X8_advance_J18 (g_o_now : Nat → Int32) (gW : Nat → Nat → Int32) (v_o_kept : Int32) (p1 : Int32) : (Int32) → Option (Int32 × Int32 × Int32 × (Nat → Int32) × (Nat → Nat → Int32)) := fun y_2 => Option.bind (m_X8_fails (1 : Int32) y_2) (fun q => match q with
  | (r_3, v_4) => (if r_3 = 0 then gd (ix (0 : Int32) 621) ((if ((g_o_now (0 : Int32).toNatClampNeg) + p1) ≤ (9999 : Int32) then m_X8_advance_J45 g_o_now gW v_o_kept p1 (0 : Int32) else m_X8_advance_J45 g_o_now gW v_o_kept p1 (1 : Int32))) else some ((0 : Int32), v_4, v_o_kept, g_o_now, gW)))
def m_X8_advance (p1 : Int32) (v_o_kept : Int32) (g_o_now : Nat → Int32) (gW : Nat → Nat → Int32) : Option (Int32 × Int32 × Int32 × (Nat → Int32) × (Nat → Nat → Int32)) := Option.bind (m_X8_isBetween p1 (0 : Int32) (999 : Int32)) (fun r_1 => (if r_1 = 0 then m_X8_advance_J18 g_o_now gW v_o_kept p1 (1 : Int32) else m_X8_advance_J18 g_o_now gW v_o_kept p1 (0 : Int32)))
abbrev e_X8_advance (cA : Nat → ClassId) (o o_now o_saved o_aside o_history o_chains o_buffer o_numbers : Nat) (v_o_thrown : Int32) (v_o_kept : Int32) (v_o_reason : Int32) (v_o_errorPosition : Int32) (v_o_isSaved : Int32) (v_o_length : Int32) (v_o_at : Int32) (v_o_isWrong : Int32) (g_o_now : Nat → Int32) (gA : Nat → Nat) : va_W := [(o, .inr (10, [.int v_o_thrown, .ref o_now, .ref o_saved, .ref o_aside, .ref o_history, .int v_o_kept, .int v_o_reason, .int v_o_errorPosition, .int v_o_isSaved, .ref o_chains, .ref o_buffer, .int v_o_length, .int v_o_at, .int v_o_isWrong, .ref o_numbers])), (o_now, .inl (cA 0, 621, .inl g_o_now)), (o_history, .inl (cA 3, 6, .inr (.inr (.inr (.inr (fun j => some (gA j)))))))]
abbrev k_X8_advance (cA : Nat → ClassId) (o o_now o_saved o_aside o_history o_chains o_buffer o_numbers : Nat) (v_o_thrown : Int32) (v_o_kept : Int32) (v_o_reason : Int32) (v_o_errorPosition : Int32) (v_o_isSaved : Int32) (v_o_length : Int32) (v_o_at : Int32) (v_o_isWrong : Int32) (g_o_now : Nat → Int32) (gA : Nat → Nat) (gW : Nat → Nat → Int32) : va_W := e_X8_advance cA o o_now o_saved o_aside o_history o_chains o_buffer o_numbers v_o_thrown v_o_kept v_o_reason v_o_errorPosition v_o_isSaved v_o_length v_o_at v_o_isWrong g_o_now gA ++ gblk cA gA gW
set_option maxHeartbeats 4000000 in
set_option maxRecDepth 100000 in
/-- X8_advance: as its model -/
theorem c_X8_advance (l : Launch) (G : va_G) (cA : Nat → ClassId) (o o_now o_saved o_aside o_history o_chains o_buffer o_numbers : Nat) (sz : Nat) (p1 : Int32) (v_o_thrown : Int32) (v_o_kept : Int32) (v_o_reason : Int32) (v_o_errorPosition : Int32) (v_o_isSaved : Int32) (v_o_length : Int32) (v_o_at : Int32) (v_o_isWrong : Int32) (g_o_now : Nat → Int32) (gA : Nat → Nat) (gW : Nat → Nat → Int32) (R : Option (Int32 × Int32 × Int32 × (Nat → Int32) × (Nat → Nat → Int32))) (hR : m_X8_advance p1 v_o_kept g_o_now gW = R) (hz : R ≠ none) : Met l yX8_advance wsX8_advance ({ frames := 2, cells := 0, slots := 0, locals := 44 } : Room) (va_Pc [.ref o, .int p1] (PM G cA (k_X8_advance cA o o_now o_saved o_aside o_history o_chains o_buffer o_numbers v_o_thrown v_o_kept v_o_reason v_o_errorPosition v_o_isSaved v_o_length v_o_at v_o_isWrong g_o_now gA gW) sz)) (va_Qi (fun (r : Int32) (u : Int32 × Int32 × (Nat → Int32) × (Nat → Nat → Int32)) => R = some (r, u)) (BM G (fun (u : Int32 × Int32 × (Nat → Int32) × (Nat → Nat → Int32)) => (k_X8_advance cA o o_now o_saved o_aside o_history o_chains o_buffer o_numbers u.1 u.2.1 v_o_reason v_o_errorPosition v_o_isSaved v_o_length v_o_at v_o_isWrong u.2.2.1 gA u.2.2.2))) (va_A (k_X8_advance cA o o_now o_saved o_aside o_history o_chains o_buffer o_numbers v_o_thrown v_o_kept v_o_reason v_o_errorPosition v_o_isSaved v_o_length v_o_at v_o_isWrong g_o_now gA gW) sz)) 0 0 (va_A (k_X8_advance cA o o_now o_saved o_aside o_history o_chains o_buffer o_numbers v_o_thrown v_o_kept v_o_reason v_o_errorPosition v_o_isSaved v_o_length v_o_at v_o_isWrong g_o_now gA gW) sz) := by
  refine metM .int (by decide) rfl (Nat.le_of_ble_eq_true rfl) ?_
  intro p e s m av below meth c Q ls A H hx hb hml hts hown hP hK hD hA hS hl hret
  replace hl : lv_has ls 2 [(0, .ref o), (1, .int p1)] := hl
  have w_0 := hts (.fieldLink RX8 9 "ParcelRegistryModel" "now" "[I") (by decide +kernel)
  have i_X8 : ∀ w ∈ wsX80, w ∈ wsX8_advance := by decide +kernel
  have hm := hR
  unfold m_X8_advance at hm
  refine lv_aload_n hx hb dX8_advance_0 rfl (lv_at hl 0 rfl) ?_
  refine lv_iconst (v := (1 : Int32)) hx hb dX8_advance_1 (by decide) ?_
  refine lv_iload_n hx hb dX8_advance_2 rfl (lv_at hl 1 rfl) ?_
  refine lv_iconst (v := (0 : Int32)) hx hb dX8_advance_3 (by decide) ?_
  refine lv_sipush (v := (999 : Int32)) hx hb dX8_advance_4 (by decide) ?_
  refine vp_callSi (va_Run.run (va_runS (As := [.int p1, .int (0 : Int32), .int (999 : Int32)]) (rest := [.int (1 : Int32), .ref o]) ⟨hx, hb, hml, hown, hts⟩ (c_X8_isBetween l G cA p1 (0 : Int32) (999 : Int32) _ rfl (bnz hm hz)) (va_cwS 3 hts gX8_advance_X8_isBetween rfl rfl rfl (by decide +kernel) ⟨Nat.le_of_ble_eq_true rfl, Nat.le_of_ble_eq_true rfl⟩) (preRS (hP.sub [] rfl) hK) rfl rfl hl.1 rfl (lv_room (Nat.le_of_ble_eq_true rfl)) dX8_advance_7 ⟨Nat.zero_le _, Nat.zero_le _⟩)) (fun r_1 hw => ?_)
  replace hm := bst hm hw.1
  have J18_2 : ∀ (y_2 : Int32), ∀ (H : Heap) (locs : List Loc) (ls : Array Slot), m_X8_advance_J18 g_o_now gW v_o_kept p1 y_2 = R → va_P G vwCl (k_X8_advance cA o o_now o_saved o_aside o_history o_chains o_buffer o_numbers v_o_thrown v_o_kept v_o_reason v_o_errorPosition v_o_isSaved v_o_length v_o_at v_o_isWrong g_o_now gA gW) H → va_D A (k_X8_advance cA o o_now o_saved o_aside o_history o_chains o_buffer o_numbers v_o_thrown v_o_kept v_o_reason v_o_errorPosition v_o_isSaved v_o_length v_o_at v_o_isWrong g_o_now gA gW) → va_S A s.heap H locs → lv_has ls 2 [(0, .ref o), (1, .int p1)] → W p l e ({ frames := 2, cells := 0, slots := 0, locals := 44 } : Room) s m av below meth c H locs 0 0 Q (F0 m 18 ls [.int y_2, .int (1 : Int32), .ref o]) := by
    intro y_2 H locs ls hm hP hD hS hl
    unfold m_X8_advance_J18 at hm
    have hPc := hP.sub (ws' := (k_X8_fails cA o o_now o_saved o_aside o_history o_chains o_buffer o_numbers v_o_thrown v_o_kept v_o_reason v_o_errorPosition v_o_isSaved v_o_length v_o_at v_o_isWrong)) [0] rfl
    have hDc := hD.sub (ws' := (k_X8_fails cA o o_now o_saved o_aside o_history o_chains o_buffer o_numbers v_o_thrown v_o_kept v_o_reason v_o_errorPosition v_o_isSaved v_o_length v_o_at v_o_isWrong)) [0] (by decide) rfl
    have hFc := va_free (wc := (k_X8_fails cA o o_now o_saved o_aside o_history o_chains o_buffer o_numbers v_o_thrown v_o_kept v_o_reason v_o_errorPosition v_o_isSaved v_o_length v_o_at v_o_isWrong)) hD hS hA [0] rfl
    refine va_calli (va_runV (As := [.int (1 : Int32), .int y_2]) (rest := []) ⟨hx, hb, hml, hown, hts⟩ (c_X8_fails l G cA o o_now o_saved o_aside o_history o_chains o_buffer o_numbers H.size (1 : Int32) y_2 v_o_thrown v_o_kept v_o_reason v_o_errorPosition v_o_isSaved v_o_length v_o_at v_o_isWrong _ rfl (bnz hm hz)) (cwV 2 hts gX8_advance_X8_fails rfl rfl rfl (by decide +kernel) ⟨Nat.le_of_ble_eq_true rfl, Nat.le_of_ble_eq_true rfl⟩) (preMV (q := (RX8, TX8, 15)) hPc hDc hK 0 rfl rfl) rfl rfl hl.1 rfl (lv_room (Nat.le_of_ble_eq_true rfl)) dX8_advance_18 ⟨Nat.zero_le _, Nat.zero_le _⟩) hS (fun q _ h => hFc q h) hFc (fun r_3 u_4 t H locs ht hvm hw hB hz1 hk1 hS' => ?_)
    obtain ⟨v_4, rfl⟩ : ∃ z, z = u_4 := ⟨_, rfl⟩
    replace hm := bst hm hw.1
    replace hB : va_P G vwCl _ _ := hB
    rw [ht] at hB
    have hj := va_backB (E := (e_X8_advance cA o o_now o_saved o_aside o_history o_chains o_buffer o_numbers v_o_thrown v_o_kept v_o_reason v_o_errorPosition v_o_isSaved v_o_length v_o_at v_o_isWrong g_o_now gA)) (E' := (e_X8_advance cA o o_now o_saved o_aside o_history o_chains o_buffer o_numbers v_4 v_o_kept v_o_reason v_o_errorPosition v_o_isSaved v_o_length v_o_at v_o_isWrong g_o_now gA)) (B := (gblk cA gA gW)) hP hD [0] rfl hk1 hB [(true, 0), (false, 1), (false, 2)] rfl (by decide) rfl
    replace hP : va_P G vwCl (k_X8_advance cA o o_now o_saved o_aside o_history o_chains o_buffer o_numbers v_4 v_o_kept v_o_reason v_o_errorPosition v_o_isSaved v_o_length v_o_at v_o_isWrong g_o_now gA gW) H := hj.1
    replace hD : va_D A (k_X8_advance cA o o_now o_saved o_aside o_history o_chains o_buffer o_numbers v_4 v_o_kept v_o_reason v_o_errorPosition v_o_isSaved v_o_length v_o_at v_o_isWrong g_o_now gA gW) := hj.2
    replace hS := hS'
    clear hj hPc hDc hFc hB
    refine lv_if_ne (tgt := 51) hx hb dX8_advance_21 (by decide) (fun c_5 => ?_) (fun c_5 => ?_)
    · replace hm := ie hm c_5
      refine lv_iconst (v := (0 : Int32)) hx hb dX8_advance_51 (by decide) ?_
      exact hret _ _ _ (v_4, v_o_kept, g_o_now, gW) _ _ dX8_advance_52 rfl hP hS hm.symm
    · replace hm := it hm c_5
      refine lv_aload_n hx hb dX8_advance_24 rfl (lv_at hl 0 rfl) ?_
      refine lv_iconst (v := (2 : Int32)) hx hb dX8_advance_25 (by decide) ?_
      refine lv_aload_n hx hb dX8_advance_26 rfl (lv_at hl 0 rfl) ?_
      refine va_get (D := G) (ci := 10) (v := .ref o_now) (C := RX8) (T := TX8) (N := 15) hx hb hts i_X8 hown hK.1 hP 0 rfl rfl 1 (by decide) w_0 (fun _ h9 => h9) rfl dX8_advance_27 ?_
      refine lv_iconst (v := (0 : Int32)) hx hb dX8_advance_30 (by decide) ?_
      replace hm := gdo hm hz
      obtain ⟨gi_6, hm⟩ := hm
      refine va_iald hx hb hK.1 hP 1 0 (cA := cA 0) (n := 621) (f := g_o_now) rfl rfl (ixi gi_6) dX8_advance_31 ?_
      refine lv_iload_n hx hb dX8_advance_32 rfl (lv_at hl 1 rfl) ?_
      refine lv_iadd hx hb dX8_advance_33 ?_
      refine lv_sipush (v := (9999 : Int32)) hx hb dX8_advance_34 (by decide) ?_
      have J45_1 : ∀ (y_7 : Int32), ∀ (H : Heap) (locs : List Loc) (ls : Array Slot), m_X8_advance_J45 g_o_now gW v_o_kept p1 y_7 = R → va_P G vwCl (k_X8_advance cA o o_now o_saved o_aside o_history o_chains o_buffer o_numbers v_4 v_o_kept v_o_reason v_o_errorPosition v_o_isSaved v_o_length v_o_at v_o_isWrong g_o_now gA gW) H → va_D A (k_X8_advance cA o o_now o_saved o_aside o_history o_chains o_buffer o_numbers v_4 v_o_kept v_o_reason v_o_errorPosition v_o_isSaved v_o_length v_o_at v_o_isWrong g_o_now gA gW) → va_S A s.heap H locs → lv_has ls 2 [(0, .ref o), (1, .int p1)] → W p l e ({ frames := 2, cells := 0, slots := 0, locals := 44 } : Room) s m av below meth c H locs 0 0 Q (F0 m 45 ls [.int y_7, .int (2 : Int32), .ref o]) := by
        intro y_7 H locs ls hm hP hD hS hl
        unfold m_X8_advance_J45 at hm
        have hPc := hP.sub (ws' := (k_X8_fails cA o o_now o_saved o_aside o_history o_chains o_buffer o_numbers v_4 v_o_kept v_o_reason v_o_errorPosition v_o_isSaved v_o_length v_o_at v_o_isWrong)) [0] rfl
        have hDc := hD.sub (ws' := (k_X8_fails cA o o_now o_saved o_aside o_history o_chains o_buffer o_numbers v_4 v_o_kept v_o_reason v_o_errorPosition v_o_isSaved v_o_length v_o_at v_o_isWrong)) [0] (by decide) rfl
        have hFc := va_free (wc := (k_X8_fails cA o o_now o_saved o_aside o_history o_chains o_buffer o_numbers v_4 v_o_kept v_o_reason v_o_errorPosition v_o_isSaved v_o_length v_o_at v_o_isWrong)) hD hS hA [0] rfl
        refine va_calli (va_runV (As := [.int (2 : Int32), .int y_7]) (rest := []) ⟨hx, hb, hml, hown, hts⟩ (c_X8_fails l G cA o o_now o_saved o_aside o_history o_chains o_buffer o_numbers H.size (2 : Int32) y_7 v_4 v_o_kept v_o_reason v_o_errorPosition v_o_isSaved v_o_length v_o_at v_o_isWrong _ rfl (bnz hm hz)) (cwV 2 hts gX8_advance_X8_fails rfl rfl rfl (by decide +kernel) ⟨Nat.le_of_ble_eq_true rfl, Nat.le_of_ble_eq_true rfl⟩) (preMV (q := (RX8, TX8, 15)) hPc hDc hK 0 rfl rfl) rfl rfl hl.1 rfl (lv_room (Nat.le_of_ble_eq_true rfl)) dX8_advance_45 ⟨Nat.zero_le _, Nat.zero_le _⟩) hS (fun q _ h => hFc q h) hFc (fun r_8 u_9 t H locs ht hvm hw hB hz1 hk1 hS' => ?_)
        obtain ⟨v_9, rfl⟩ : ∃ z, z = u_9 := ⟨_, rfl⟩
        replace hm := bst hm hw.1
        replace hB : va_P G vwCl _ _ := hB
        rw [ht] at hB
        have hj := va_backB (E := (e_X8_advance cA o o_now o_saved o_aside o_history o_chains o_buffer o_numbers v_4 v_o_kept v_o_reason v_o_errorPosition v_o_isSaved v_o_length v_o_at v_o_isWrong g_o_now gA)) (E' := (e_X8_advance cA o o_now o_saved o_aside o_history o_chains o_buffer o_numbers v_9 v_o_kept v_o_reason v_o_errorPosition v_o_isSaved v_o_length v_o_at v_o_isWrong g_o_now gA)) (B := (gblk cA gA gW)) hP hD [0] rfl hk1 hB [(true, 0), (false, 1), (false, 2)] rfl (by decide) rfl
        replace hP : va_P G vwCl (k_X8_advance cA o o_now o_saved o_aside o_history o_chains o_buffer o_numbers v_9 v_o_kept v_o_reason v_o_errorPosition v_o_isSaved v_o_length v_o_at v_o_isWrong g_o_now gA gW) H := hj.1
        replace hD : va_D A (k_X8_advance cA o o_now o_saved o_aside o_history o_chains o_buffer o_numbers v_9 v_o_kept v_o_reason v_o_errorPosition v_o_isSaved v_o_length v_o_at v_o_isWrong g_o_now gA gW) := hj.2
        replace hS := hS'
        clear hj hPc hDc hFc hB
        refine lv_if_eq (tgt := 53) hx hb dX8_advance_48 (by decide) (fun c_10 => ?_) (fun c_10 => ?_)
        · replace hm := it hm c_10
          refine lv_aload_n hx hb dX8_advance_53 rfl (lv_at hl 0 rfl) ?_
          refine lv_aload_n hx hb dX8_advance_54 rfl (lv_at hl 0 rfl) ?_
          refine va_get (D := G) (ci := 10) (v := .ref o_now) (C := RX8) (T := TX8) (N := 15) hx hb hts i_X8 hown hK.1 hP 0 rfl rfl 1 (by decide) w_0 (fun _ h9 => h9) rfl dX8_advance_55 ?_
          have hPc : va_P G vwCl (k_X8_remember cA o o_now o_saved o_aside o_history o_chains o_buffer o_numbers o_now v_9 v_o_kept v_o_reason v_o_errorPosition v_o_isSaved v_o_length v_o_at v_o_isWrong g_o_now gA gW) H := va_subC (E := (e_X8_advance cA o o_now o_saved o_aside o_history o_chains o_buffer o_numbers v_9 v_o_kept v_o_reason v_o_errorPosition v_o_isSaved v_o_length v_o_at v_o_isWrong g_o_now gA)) (Ec := (e_X8_remember cA o o_now o_saved o_aside o_history o_chains o_buffer o_numbers o_now v_9 v_o_kept v_o_reason v_o_errorPosition v_o_isSaved v_o_length v_o_at v_o_isWrong g_o_now gA)) (B := (gblk cA gA gW)) hP [0, 2, 1] rfl
          have hDc : va_D A (k_X8_remember cA o o_now o_saved o_aside o_history o_chains o_buffer o_numbers o_now v_9 v_o_kept v_o_reason v_o_errorPosition v_o_isSaved v_o_length v_o_at v_o_isWrong g_o_now gA gW) := va_subCD (E := (e_X8_advance cA o o_now o_saved o_aside o_history o_chains o_buffer o_numbers v_9 v_o_kept v_o_reason v_o_errorPosition v_o_isSaved v_o_length v_o_at v_o_isWrong g_o_now gA)) (Ec := (e_X8_remember cA o o_now o_saved o_aside o_history o_chains o_buffer o_numbers o_now v_9 v_o_kept v_o_reason v_o_errorPosition v_o_isSaved v_o_length v_o_at v_o_isWrong g_o_now gA)) (B := (gblk cA gA gW)) hD [0, 2, 1] (by decide) rfl
          have hFc : ∀ q, va_A (k_X8_remember cA o o_now o_saved o_aside o_history o_chains o_buffer o_numbers o_now v_9 v_o_kept v_o_reason v_o_errorPosition v_o_isSaved v_o_length v_o_at v_o_isWrong g_o_now gA gW) H.size q → A q := va_freeC (E := (e_X8_advance cA o o_now o_saved o_aside o_history o_chains o_buffer o_numbers v_9 v_o_kept v_o_reason v_o_errorPosition v_o_isSaved v_o_length v_o_at v_o_isWrong g_o_now gA)) (Ec := (e_X8_remember cA o o_now o_saved o_aside o_history o_chains o_buffer o_numbers o_now v_9 v_o_kept v_o_reason v_o_errorPosition v_o_isSaved v_o_length v_o_at v_o_isWrong g_o_now gA)) (B := (gblk cA gA gW)) hD hS hA [0, 2, 1] rfl
          refine va_callv (va_runV (As := [.ref o_now]) (rest := []) ⟨hx, hb, hml, hown, hts⟩ (c_X8_remember l G cA o o_now o_saved o_aside o_history o_chains o_buffer o_numbers o_now H.size v_9 v_o_kept v_o_reason v_o_errorPosition v_o_isSaved v_o_length v_o_at v_o_isWrong g_o_now gA gW _ rfl (bnz hm hz)) (cwV 1 hts gX8_advance_X8_remember rfl rfl rfl (by decide +kernel) ⟨Nat.le_of_ble_eq_true rfl, Nat.le_of_ble_eq_true rfl⟩) (preMV (q := (RX8, TX8, 15)) hPc hDc hK 0 rfl rfl) rfl rfl hl.1 rfl (lv_room (Nat.le_of_ble_eq_true rfl)) dX8_advance_58 ⟨Nat.zero_le _, Nat.zero_le _⟩) hS (fun q _ h => hFc q h) hFc (fun u_12 t H locs ht hvm hw hB hz1 hk1 hS' => ?_)
          obtain ⟨v_11, h_12⟩ := u_12
          replace hm := bst hm hw
          replace hB : va_P G vwCl _ _ := hB
          rw [ht] at hB
          have hj := va_backC (E := (e_X8_advance cA o o_now o_saved o_aside o_history o_chains o_buffer o_numbers v_9 v_o_kept v_o_reason v_o_errorPosition v_o_isSaved v_o_length v_o_at v_o_isWrong g_o_now gA)) (E' := (e_X8_advance cA o o_now o_saved o_aside o_history o_chains o_buffer o_numbers v_9 v_11 v_o_reason v_o_errorPosition v_o_isSaved v_o_length v_o_at v_o_isWrong g_o_now gA)) (Ec := (e_X8_remember cA o o_now o_saved o_aside o_history o_chains o_buffer o_numbers o_now v_9 v_o_kept v_o_reason v_o_errorPosition v_o_isSaved v_o_length v_o_at v_o_isWrong g_o_now gA)) (Ec1 := (e_X8_remember cA o o_now o_saved o_aside o_history o_chains o_buffer o_numbers o_now v_9 v_11 v_o_reason v_o_errorPosition v_o_isSaved v_o_length v_o_at v_o_isWrong g_o_now gA)) (B := (gblk cA gA gW)) (B1 := (gblk cA gA h_12)) hP hD [0, 2, 1] rfl hk1 hB (gblk_addr ..) [(true, 0), (true, 2), (true, 1)] rfl (by decide) rfl
          replace hP : va_P G vwCl (k_X8_advance cA o o_now o_saved o_aside o_history o_chains o_buffer o_numbers v_9 v_11 v_o_reason v_o_errorPosition v_o_isSaved v_o_length v_o_at v_o_isWrong g_o_now gA h_12) H := hj.1
          replace hD : va_D A (k_X8_advance cA o o_now o_saved o_aside o_history o_chains o_buffer o_numbers v_9 v_11 v_o_reason v_o_errorPosition v_o_isSaved v_o_length v_o_at v_o_isWrong g_o_now gA h_12) := hj.2
          replace hS := hS'
          clear hj hPc hDc hFc hB
          refine lv_aload_n hx hb dX8_advance_61 rfl (lv_at hl 0 rfl) ?_
          refine va_get (D := G) (ci := 10) (v := .ref o_now) (C := RX8) (T := TX8) (N := 15) hx hb hts i_X8 hown hK.1 hP 0 rfl rfl 1 (by decide) w_0 (fun _ h9 => h9) rfl dX8_advance_62 ?_
          refine lv_iconst (v := (0 : Int32)) hx hb dX8_advance_65 (by decide) ?_
          refine lv_dup2_11 hx hb dX8_advance_66 rfl rfl ?_
          replace hm := gdo hm hz
          obtain ⟨gi_13, hm⟩ := hm
          refine va_iald hx hb hK.1 hP 1 0 (cA := cA 0) (n := 621) (f := g_o_now) rfl rfl (ixi gi_13) dX8_advance_67 ?_
          refine lv_iload_n hx hb dX8_advance_68 rfl (lv_at hl 1 rfl) ?_
          refine lv_iadd hx hb dX8_advance_69 ?_
          replace hm := gdo hm hz
          obtain ⟨gi_14, hm⟩ := hm
          refine va_iast hx hb hK.1 hP hD hS 1 0 (cA := cA 0) (n := 621) (f := g_o_now) rfl rfl (ixi gi_14) dX8_advance_70 (fun H locs hP' hD' hS' => ?_)
          replace hP : va_P G vwCl (k_X8_advance cA o o_now o_saved o_aside o_history o_chains o_buffer o_numbers v_9 v_11 v_o_reason v_o_errorPosition v_o_isSaved v_o_length v_o_at v_o_isWrong (upd g_o_now (0 : Int32).toNatClampNeg ((g_o_now (0 : Int32).toNatClampNeg) + p1)) gA h_12) H := hP'
          replace hD : va_D A (k_X8_advance cA o o_now o_saved o_aside o_history o_chains o_buffer o_numbers v_9 v_11 v_o_reason v_o_errorPosition v_o_isSaved v_o_length v_o_at v_o_isWrong (upd g_o_now (0 : Int32).toNatClampNeg ((g_o_now (0 : Int32).toNatClampNeg) + p1)) gA h_12) := hD'
          replace hS := hS'
          refine lv_aload_n hx hb dX8_advance_71 rfl (lv_at hl 0 rfl) ?_
          refine va_get (D := G) (ci := 10) (v := .ref o_now) (C := RX8) (T := TX8) (N := 15) hx hb hts i_X8 hown hK.1 hP 0 rfl rfl 1 (by decide) w_0 (fun _ h9 => h9) rfl dX8_advance_72 ?_
          refine lv_iconst (v := (0 : Int32)) hx hb dX8_advance_75 (by decide) ?_
          replace hm := gdo hm hz
          obtain ⟨gi_15, hm⟩ := hm
          refine va_iald hx hb hK.1 hP 1 0 (cA := cA 0) (n := 621) (f := upd g_o_now (0 : Int32).toNatClampNeg ((g_o_now (0 : Int32).toNatClampNeg) + p1)) rfl rfl (ixi gi_15) dX8_advance_76 ?_
          exact hret _ _ _ (v_9, v_11, upd g_o_now (0 : Int32).toNatClampNeg ((g_o_now (0 : Int32).toNatClampNeg) + p1), h_12) _ _ dX8_advance_77 rfl hP hS hm.symm
        · replace hm := ie hm c_10
          refine lv_iconst (v := (0 : Int32)) hx hb dX8_advance_51 (by decide) ?_
          exact hret _ _ _ (v_9, v_o_kept, g_o_now, gW) _ _ dX8_advance_52 rfl hP hS hm.symm
      refine lv_icmp_le (tgt := 44) hx hb dX8_advance_37 (by decide) (fun c_16 => ?_) (fun c_16 => ?_)
      · replace hm := it hm c_16
        refine lv_iconst (v := (0 : Int32)) hx hb dX8_advance_44 (by decide) ?_
        exact J45_1 (0 : Int32) _ _ _ hm hP hD hS (lv_sub hl [0, 1] rfl)
      · replace hm := ie hm c_16
        refine lv_iconst (v := (1 : Int32)) hx hb dX8_advance_40 (by decide) ?_
        refine lv_goto (tgt := 45) hx hb dX8_advance_41 (by decide) ?_
        exact J45_1 (1 : Int32) _ _ _ hm hP hD hS (lv_sub hl [0, 1] rfl)
  refine lv_if_ne (tgt := 17) hx hb dX8_advance_10 (by decide) (fun c_17 => ?_) (fun c_17 => ?_)
  · replace hm := ie hm c_17
    refine lv_iconst (v := (0 : Int32)) hx hb dX8_advance_17 (by decide) ?_
    exact J18_2 (0 : Int32) _ _ _ hm hP hD hS (lv_sub hl [0, 1] rfl)
  · replace hm := it hm c_17
    refine lv_iconst (v := (1 : Int32)) hx hb dX8_advance_13 (by decide) ?_
    refine lv_goto (tgt := 18) hx hb dX8_advance_14 (by decide) ?_
    exact J18_2 (1 : Int32) _ _ _ hm hP hD hS (lv_sub hl [0, 1] rfl)
def m_X8_append_J40 (g_o_buffer : Nat → Int32) (v_o_length : Int32) (p1 : Int32) : (Int32) → Option (Int32 × Int32 × Int32 × (Nat → Int32)) := fun y_6 => Option.bind (m_X8_fails (2 : Int32) y_6) (fun q => match q with
  | (r_7, v_8) => (if r_7 = 0 then gd (ix v_o_length 80) (some (v_o_length + (1 : Int32), v_8, v_o_length + (1 : Int32), upd g_o_buffer v_o_length.toNatClampNeg (vp_nar .char p1))) else some ((0 : Int32), v_8, v_o_length, g_o_buffer)))
def m_X8_append_J18 (g_o_buffer : Nat → Int32) (v_o_length : Int32) (p1 : Int32) : (Int32) → Option (Int32 × Int32 × Int32 × (Nat → Int32)) := fun y_2 => Option.bind (m_X8_fails (1 : Int32) y_2) (fun q => match q with
  | (r_3, v_4) => (if r_3 = 0 then (if v_o_length = (80 : Int32) then m_X8_append_J40 g_o_buffer v_o_length p1 (1 : Int32) else m_X8_append_J40 g_o_buffer v_o_length p1 (0 : Int32)) else some ((0 : Int32), v_4, v_o_length, g_o_buffer)))
def m_X8_append (p1 : Int32) (v_o_length : Int32) (g_o_buffer : Nat → Int32) : Option (Int32 × Int32 × Int32 × (Nat → Int32)) := Option.bind (m_X8_isBetween p1 (32 : Int32) (126 : Int32)) (fun r_1 => (if r_1 = 0 then m_X8_append_J18 g_o_buffer v_o_length p1 (1 : Int32) else m_X8_append_J18 g_o_buffer v_o_length p1 (0 : Int32)))
abbrev k_X8_append (cA : Nat → ClassId) (o o_now o_saved o_aside o_history o_chains o_buffer o_numbers : Nat) (v_o_thrown : Int32) (v_o_kept : Int32) (v_o_reason : Int32) (v_o_errorPosition : Int32) (v_o_isSaved : Int32) (v_o_length : Int32) (v_o_at : Int32) (v_o_isWrong : Int32) (g_o_buffer : Nat → Int32) : va_W := [(o, .inr (10, [.int v_o_thrown, .ref o_now, .ref o_saved, .ref o_aside, .ref o_history, .int v_o_kept, .int v_o_reason, .int v_o_errorPosition, .int v_o_isSaved, .ref o_chains, .ref o_buffer, .int v_o_length, .int v_o_at, .int v_o_isWrong, .ref o_numbers])), (o_buffer, .inl (cA 1, 80, .inl g_o_buffer))]
set_option maxHeartbeats 4000000 in
set_option maxRecDepth 100000 in
/-- X8_append: as its model -/
theorem c_X8_append (l : Launch) (G : va_G) (cA : Nat → ClassId) (o o_now o_saved o_aside o_history o_chains o_buffer o_numbers : Nat) (sz : Nat) (p1 : Int32) (v_o_thrown : Int32) (v_o_kept : Int32) (v_o_reason : Int32) (v_o_errorPosition : Int32) (v_o_isSaved : Int32) (v_o_length : Int32) (v_o_at : Int32) (v_o_isWrong : Int32) (g_o_buffer : Nat → Int32) (R : Option (Int32 × Int32 × Int32 × (Nat → Int32))) (hR : m_X8_append p1 v_o_length g_o_buffer = R) (hz : R ≠ none) : Met l yX8_append wsX8_append ({ frames := 1, cells := 0, slots := 0, locals := 22 } : Room) (va_Pc [.ref o, .int p1] (PM G cA (k_X8_append cA o o_now o_saved o_aside o_history o_chains o_buffer o_numbers v_o_thrown v_o_kept v_o_reason v_o_errorPosition v_o_isSaved v_o_length v_o_at v_o_isWrong g_o_buffer) sz)) (va_Qi (fun (r : Int32) (u : Int32 × Int32 × (Nat → Int32)) => R = some (r, u)) (BM G (fun (u : Int32 × Int32 × (Nat → Int32)) => (k_X8_append cA o o_now o_saved o_aside o_history o_chains o_buffer o_numbers u.1 v_o_kept v_o_reason v_o_errorPosition v_o_isSaved u.2.1 v_o_at v_o_isWrong u.2.2))) (va_A (k_X8_append cA o o_now o_saved o_aside o_history o_chains o_buffer o_numbers v_o_thrown v_o_kept v_o_reason v_o_errorPosition v_o_isSaved v_o_length v_o_at v_o_isWrong g_o_buffer) sz)) 0 0 (va_A (k_X8_append cA o o_now o_saved o_aside o_history o_chains o_buffer o_numbers v_o_thrown v_o_kept v_o_reason v_o_errorPosition v_o_isSaved v_o_length v_o_at v_o_isWrong g_o_buffer) sz) := by
  refine metM .int (by decide) rfl (Nat.le_of_ble_eq_true rfl) ?_
  intro p e s m av below meth c Q ls A H hx hb hml hts hown hP hK hD hA hS hl hret
  replace hl : lv_has ls 2 [(0, .ref o), (1, .int p1)] := hl
  have w_0 := hts (.fieldLink RX8 237 "ParcelRegistryModel" "length" "I") (by decide +kernel)
  have w_1 := hts (.fieldLink RX8 31 "ParcelRegistryModel" "buffer" "[C") (by decide +kernel)
  have i_X8 : ∀ w ∈ wsX80, w ∈ wsX8_append := by decide +kernel
  have hm := hR
  unfold m_X8_append at hm
  refine lv_aload_n hx hb dX8_append_0 rfl (lv_at hl 0 rfl) ?_
  refine lv_iconst (v := (1 : Int32)) hx hb dX8_append_1 (by decide) ?_
  refine lv_iload_n hx hb dX8_append_2 rfl (lv_at hl 1 rfl) ?_
  refine lv_bipush (v := (32 : Int32)) hx hb dX8_append_3 (by decide) ?_
  refine lv_bipush (v := (126 : Int32)) hx hb dX8_append_5 (by decide) ?_
  refine vp_callSi (va_Run.run (va_runS (As := [.int p1, .int (32 : Int32), .int (126 : Int32)]) (rest := [.int (1 : Int32), .ref o]) ⟨hx, hb, hml, hown, hts⟩ (c_X8_isBetween l G cA p1 (32 : Int32) (126 : Int32) _ rfl (bnz hm hz)) (va_cwS 3 hts gX8_append_X8_isBetween rfl rfl rfl (by decide +kernel) ⟨Nat.le_of_ble_eq_true rfl, Nat.le_of_ble_eq_true rfl⟩) (preRS (hP.sub [] rfl) hK) rfl rfl hl.1 rfl (lv_room (Nat.le_of_ble_eq_true rfl)) dX8_append_7 ⟨Nat.zero_le _, Nat.zero_le _⟩)) (fun r_1 hw => ?_)
  replace hm := bst hm hw.1
  have J18_2 : ∀ (y_2 : Int32), ∀ (H : Heap) (locs : List Loc) (ls : Array Slot), m_X8_append_J18 g_o_buffer v_o_length p1 y_2 = R → va_P G vwCl (k_X8_append cA o o_now o_saved o_aside o_history o_chains o_buffer o_numbers v_o_thrown v_o_kept v_o_reason v_o_errorPosition v_o_isSaved v_o_length v_o_at v_o_isWrong g_o_buffer) H → va_D A (k_X8_append cA o o_now o_saved o_aside o_history o_chains o_buffer o_numbers v_o_thrown v_o_kept v_o_reason v_o_errorPosition v_o_isSaved v_o_length v_o_at v_o_isWrong g_o_buffer) → va_S A s.heap H locs → lv_has ls 2 [(0, .ref o), (1, .int p1)] → W p l e ({ frames := 1, cells := 0, slots := 0, locals := 22 } : Room) s m av below meth c H locs 0 0 Q (F0 m 18 ls [.int y_2, .int (1 : Int32), .ref o]) := by
    intro y_2 H locs ls hm hP hD hS hl
    unfold m_X8_append_J18 at hm
    have hPc := hP.sub (ws' := (k_X8_fails cA o o_now o_saved o_aside o_history o_chains o_buffer o_numbers v_o_thrown v_o_kept v_o_reason v_o_errorPosition v_o_isSaved v_o_length v_o_at v_o_isWrong)) [0] rfl
    have hDc := hD.sub (ws' := (k_X8_fails cA o o_now o_saved o_aside o_history o_chains o_buffer o_numbers v_o_thrown v_o_kept v_o_reason v_o_errorPosition v_o_isSaved v_o_length v_o_at v_o_isWrong)) [0] (by decide) rfl
    have hFc := va_free (wc := (k_X8_fails cA o o_now o_saved o_aside o_history o_chains o_buffer o_numbers v_o_thrown v_o_kept v_o_reason v_o_errorPosition v_o_isSaved v_o_length v_o_at v_o_isWrong)) hD hS hA [0] rfl
    refine va_calli (va_runV (As := [.int (1 : Int32), .int y_2]) (rest := []) ⟨hx, hb, hml, hown, hts⟩ (c_X8_fails l G cA o o_now o_saved o_aside o_history o_chains o_buffer o_numbers H.size (1 : Int32) y_2 v_o_thrown v_o_kept v_o_reason v_o_errorPosition v_o_isSaved v_o_length v_o_at v_o_isWrong _ rfl (bnz hm hz)) (cwV 2 hts gX8_append_X8_fails rfl rfl rfl (by decide +kernel) ⟨Nat.le_of_ble_eq_true rfl, Nat.le_of_ble_eq_true rfl⟩) (preMV (q := (RX8, TX8, 15)) hPc hDc hK 0 rfl rfl) rfl rfl hl.1 rfl (lv_room (Nat.le_of_ble_eq_true rfl)) dX8_append_18 ⟨Nat.zero_le _, Nat.zero_le _⟩) hS (fun q _ h => hFc q h) hFc (fun r_3 u_4 t H locs ht hvm hw hB hz1 hk1 hS' => ?_)
    obtain ⟨v_4, rfl⟩ : ∃ z, z = u_4 := ⟨_, rfl⟩
    replace hm := bst hm hw.1
    replace hB : va_P G vwCl _ _ := hB
    rw [ht] at hB
    have hj := va_back (ws' := (k_X8_append cA o o_now o_saved o_aside o_history o_chains o_buffer o_numbers v_4 v_o_kept v_o_reason v_o_errorPosition v_o_isSaved v_o_length v_o_at v_o_isWrong g_o_buffer)) hP hD [0] rfl hk1 hB [(true, 0), (false, 1)] rfl (by decide) rfl
    replace hP : va_P G vwCl (k_X8_append cA o o_now o_saved o_aside o_history o_chains o_buffer o_numbers v_4 v_o_kept v_o_reason v_o_errorPosition v_o_isSaved v_o_length v_o_at v_o_isWrong g_o_buffer) H := hj.1
    replace hD : va_D A (k_X8_append cA o o_now o_saved o_aside o_history o_chains o_buffer o_numbers v_4 v_o_kept v_o_reason v_o_errorPosition v_o_isSaved v_o_length v_o_at v_o_isWrong g_o_buffer) := hj.2
    replace hS := hS'
    clear hj hPc hDc hFc hB
    refine lv_if_ne (tgt := 46) hx hb dX8_append_21 (by decide) (fun c_5 => ?_) (fun c_5 => ?_)
    · replace hm := ie hm c_5
      refine lv_iconst (v := (0 : Int32)) hx hb dX8_append_46 (by decide) ?_
      exact hret _ _ _ (v_4, v_o_length, g_o_buffer) _ _ dX8_append_47 rfl hP hS hm.symm
    · replace hm := it hm c_5
      refine lv_aload_n hx hb dX8_append_24 rfl (lv_at hl 0 rfl) ?_
      refine lv_iconst (v := (2 : Int32)) hx hb dX8_append_25 (by decide) ?_
      refine lv_aload_n hx hb dX8_append_26 rfl (lv_at hl 0 rfl) ?_
      refine va_get (D := G) (ci := 10) (v := .int v_o_length) (C := RX8) (T := TX8) (N := 15) hx hb hts i_X8 hown hK.1 hP 0 rfl rfl 11 (by decide) w_0 (fun _ h9 => h9) rfl dX8_append_27 ?_
      refine lv_bipush (v := (80 : Int32)) hx hb dX8_append_30 (by decide) ?_
      have J40_1 : ∀ (y_6 : Int32), ∀ (H : Heap) (locs : List Loc) (ls : Array Slot), m_X8_append_J40 g_o_buffer v_o_length p1 y_6 = R → va_P G vwCl (k_X8_append cA o o_now o_saved o_aside o_history o_chains o_buffer o_numbers v_4 v_o_kept v_o_reason v_o_errorPosition v_o_isSaved v_o_length v_o_at v_o_isWrong g_o_buffer) H → va_D A (k_X8_append cA o o_now o_saved o_aside o_history o_chains o_buffer o_numbers v_4 v_o_kept v_o_reason v_o_errorPosition v_o_isSaved v_o_length v_o_at v_o_isWrong g_o_buffer) → va_S A s.heap H locs → lv_has ls 2 [(0, .ref o), (1, .int p1)] → W p l e ({ frames := 1, cells := 0, slots := 0, locals := 22 } : Room) s m av below meth c H locs 0 0 Q (F0 m 40 ls [.int y_6, .int (2 : Int32), .ref o]) := by
        intro y_6 H locs ls hm hP hD hS hl
        unfold m_X8_append_J40 at hm
        have hPc := hP.sub (ws' := (k_X8_fails cA o o_now o_saved o_aside o_history o_chains o_buffer o_numbers v_4 v_o_kept v_o_reason v_o_errorPosition v_o_isSaved v_o_length v_o_at v_o_isWrong)) [0] rfl
        have hDc := hD.sub (ws' := (k_X8_fails cA o o_now o_saved o_aside o_history o_chains o_buffer o_numbers v_4 v_o_kept v_o_reason v_o_errorPosition v_o_isSaved v_o_length v_o_at v_o_isWrong)) [0] (by decide) rfl
        have hFc := va_free (wc := (k_X8_fails cA o o_now o_saved o_aside o_history o_chains o_buffer o_numbers v_4 v_o_kept v_o_reason v_o_errorPosition v_o_isSaved v_o_length v_o_at v_o_isWrong)) hD hS hA [0] rfl
        refine va_calli (va_runV (As := [.int (2 : Int32), .int y_6]) (rest := []) ⟨hx, hb, hml, hown, hts⟩ (c_X8_fails l G cA o o_now o_saved o_aside o_history o_chains o_buffer o_numbers H.size (2 : Int32) y_6 v_4 v_o_kept v_o_reason v_o_errorPosition v_o_isSaved v_o_length v_o_at v_o_isWrong _ rfl (bnz hm hz)) (cwV 2 hts gX8_append_X8_fails rfl rfl rfl (by decide +kernel) ⟨Nat.le_of_ble_eq_true rfl, Nat.le_of_ble_eq_true rfl⟩) (preMV (q := (RX8, TX8, 15)) hPc hDc hK 0 rfl rfl) rfl rfl hl.1 rfl (lv_room (Nat.le_of_ble_eq_true rfl)) dX8_append_40 ⟨Nat.zero_le _, Nat.zero_le _⟩) hS (fun q _ h => hFc q h) hFc (fun r_7 u_8 t H locs ht hvm hw hB hz1 hk1 hS' => ?_)
        obtain ⟨v_8, rfl⟩ : ∃ z, z = u_8 := ⟨_, rfl⟩
        replace hm := bst hm hw.1
        replace hB : va_P G vwCl _ _ := hB
        rw [ht] at hB
        have hj := va_back (ws' := (k_X8_append cA o o_now o_saved o_aside o_history o_chains o_buffer o_numbers v_8 v_o_kept v_o_reason v_o_errorPosition v_o_isSaved v_o_length v_o_at v_o_isWrong g_o_buffer)) hP hD [0] rfl hk1 hB [(true, 0), (false, 1)] rfl (by decide) rfl
        replace hP : va_P G vwCl (k_X8_append cA o o_now o_saved o_aside o_history o_chains o_buffer o_numbers v_8 v_o_kept v_o_reason v_o_errorPosition v_o_isSaved v_o_length v_o_at v_o_isWrong g_o_buffer) H := hj.1
        replace hD : va_D A (k_X8_append cA o o_now o_saved o_aside o_history o_chains o_buffer o_numbers v_8 v_o_kept v_o_reason v_o_errorPosition v_o_isSaved v_o_length v_o_at v_o_isWrong g_o_buffer) := hj.2
        replace hS := hS'
        clear hj hPc hDc hFc hB
        refine lv_if_eq (tgt := 48) hx hb dX8_append_43 (by decide) (fun c_9 => ?_) (fun c_9 => ?_)
        · replace hm := it hm c_9
          refine lv_aload_n hx hb dX8_append_48 rfl (lv_at hl 0 rfl) ?_
          refine va_get (D := G) (ci := 10) (v := .ref o_buffer) (C := RX8) (T := TX8) (N := 15) hx hb hts i_X8 hown hK.1 hP 0 rfl rfl 10 (by decide) w_1 (fun _ h9 => h9) rfl dX8_append_49 ?_
          refine lv_aload_n hx hb dX8_append_52 rfl (lv_at hl 0 rfl) ?_
          refine va_get (D := G) (ci := 10) (v := .int v_o_length) (C := RX8) (T := TX8) (N := 15) hx hb hts i_X8 hown hK.1 hP 0 rfl rfl 11 (by decide) w_0 (fun _ h9 => h9) rfl dX8_append_53 ?_
          refine lv_iload_n hx hb dX8_append_56 rfl (lv_at hl 1 rfl) ?_
          replace hm := gdo hm hz
          obtain ⟨gi_10, hm⟩ := hm
          refine va_cast hx hb hK.1 hP hD hS 1 1 (cA := cA 1) (n := 80) (f := g_o_buffer) rfl rfl (ixi gi_10) dX8_append_57 (fun H locs hP' hD' hS' => ?_)
          replace hP : va_P G vwCl (k_X8_append cA o o_now o_saved o_aside o_history o_chains o_buffer o_numbers v_8 v_o_kept v_o_reason v_o_errorPosition v_o_isSaved v_o_length v_o_at v_o_isWrong (upd g_o_buffer v_o_length.toNatClampNeg (vp_nar .char p1))) H := hP'
          replace hD : va_D A (k_X8_append cA o o_now o_saved o_aside o_history o_chains o_buffer o_numbers v_8 v_o_kept v_o_reason v_o_errorPosition v_o_isSaved v_o_length v_o_at v_o_isWrong (upd g_o_buffer v_o_length.toNatClampNeg (vp_nar .char p1))) := hD'
          replace hS := hS'
          refine lv_aload_n hx hb dX8_append_58 rfl (lv_at hl 0 rfl) ?_
          refine lv_dup hx hb dX8_append_59 rfl ?_
          refine va_get (D := G) (ci := 10) (v := .int v_o_length) (C := RX8) (T := TX8) (N := 15) hx hb hts i_X8 hown hK.1 hP 0 rfl rfl 11 (by decide) w_0 (fun _ h9 => h9) rfl dX8_append_60 ?_
          refine lv_iconst (v := (1 : Int32)) hx hb dX8_append_63 (by decide) ?_
          refine lv_iadd hx hb dX8_append_64 ?_
          refine va_put (D := G) (ci := 10) (v := .int (v_o_length + (1 : Int32))) (ty := .int) (C := RX8) (T := TX8) (N := 15) hx hb hts i_X8 tyX8 tyX8_ok nmX8 hown hK.1 hP hD hS 0 rfl rfl 11 (by decide) w_0 (fun _ h9 => h9) rfl (by decide +kernel) rfl rfl (Nat.le_of_ble_eq_true rfl) dX8_append_65 (fun H locs hP' hD' hS' => ?_)
          replace hP : va_P G vwCl (k_X8_append cA o o_now o_saved o_aside o_history o_chains o_buffer o_numbers v_8 v_o_kept v_o_reason v_o_errorPosition v_o_isSaved (v_o_length + (1 : Int32)) v_o_at v_o_isWrong (upd g_o_buffer v_o_length.toNatClampNeg (vp_nar .char p1))) H := hP'
          replace hD : va_D A (k_X8_append cA o o_now o_saved o_aside o_history o_chains o_buffer o_numbers v_8 v_o_kept v_o_reason v_o_errorPosition v_o_isSaved (v_o_length + (1 : Int32)) v_o_at v_o_isWrong (upd g_o_buffer v_o_length.toNatClampNeg (vp_nar .char p1))) := hD'
          replace hS := hS'
          refine lv_aload_n hx hb dX8_append_68 rfl (lv_at hl 0 rfl) ?_
          refine va_get (D := G) (ci := 10) (v := .int (v_o_length + (1 : Int32))) (C := RX8) (T := TX8) (N := 15) hx hb hts i_X8 hown hK.1 hP 0 rfl rfl 11 (by decide) w_0 (fun _ h9 => h9) rfl dX8_append_69 ?_
          exact hret _ _ _ (v_8, v_o_length + (1 : Int32), upd g_o_buffer v_o_length.toNatClampNeg (vp_nar .char p1)) _ _ dX8_append_72 rfl hP hS hm.symm
        · replace hm := ie hm c_9
          refine lv_iconst (v := (0 : Int32)) hx hb dX8_append_46 (by decide) ?_
          exact hret _ _ _ (v_8, v_o_length, g_o_buffer) _ _ dX8_append_47 rfl hP hS hm.symm
      refine lv_icmp_ne (tgt := 39) hx hb dX8_append_32 (by decide) (fun c_11 => ?_) (fun c_11 => ?_)
      · replace hm := ie hm c_11
        refine lv_iconst (v := (0 : Int32)) hx hb dX8_append_39 (by decide) ?_
        exact J40_1 (0 : Int32) _ _ _ hm hP hD hS (lv_sub hl [0, 1] rfl)
      · replace hm := it hm c_11
        refine lv_iconst (v := (1 : Int32)) hx hb dX8_append_35 (by decide) ?_
        refine lv_goto (tgt := 40) hx hb dX8_append_36 (by decide) ?_
        exact J40_1 (1 : Int32) _ _ _ hm hP hD hS (lv_sub hl [0, 1] rfl)
  refine lv_if_ne (tgt := 17) hx hb dX8_append_10 (by decide) (fun c_12 => ?_) (fun c_12 => ?_)
  · replace hm := ie hm c_12
    refine lv_iconst (v := (0 : Int32)) hx hb dX8_append_17 (by decide) ?_
    exact J18_2 (0 : Int32) _ _ _ hm hP hD hS (lv_sub hl [0, 1] rfl)
  · replace hm := it hm c_12
    refine lv_iconst (v := (1 : Int32)) hx hb dX8_append_13 (by decide) ?_
    refine lv_goto (tgt := 18) hx hb dX8_append_14 (by decide) ?_
    exact J18_2 (1 : Int32) _ _ _ hm hP hD hS (lv_sub hl [0, 1] rfl)
def m_X8_word (p1 : Int32) : Option (Nat) := (if p1 = 0 then some 0 else if p1 = 1 then some 1 else if p1 = 2 then some 2 else if p1 = 3 then some 3 else if p1 = 4 then some 4 else some 5)
abbrev k_X8_word (cA : Nat → ClassId)  : va_W := []
set_option maxHeartbeats 4000000 in
set_option maxRecDepth 100000 in
/-- X8_word: as its model -/
theorem c_X8_word (l : Launch) (z : Nat → Nat) (G : va_G) (cA : Nat → ClassId) (p1 : Int32) (R : Option (Nat)) (hR : m_X8_word p1 = R) (hz : R ≠ none) : Met l yX8_word wsX8_word ({ frames := 0, cells := 0, slots := 0, locals := 0 } : Room) (va_Pc [.int p1] (PRo z G cA (k_X8_word cA))) (va_Sr (fun r => R = some r) (fun k => .ref (z (12 + k)))) 0 0 (fun _ => False) := by
  refine metRs (by decide) rfl (Nat.le_of_ble_eq_true rfl) ?_
  intro p e s m av below meth c Q ls hx hb hml hts hown hP hK hT hO hl hret
  replace hl : lv_has ls 1 [(0, .int p1)] := hl
  have hS : va_S NoA s.heap s.heap [] := va_S.rf
  have hm := hR
  unfold m_X8_word at hm
  refine lv_iload_n hx hb dX8_word_0 rfl (lv_at hl 0 rfl) ?_
  by_cases c_1 : p1 = 0
  · replace hm := it hm c_1
    refine lv_tableIn (off := 35) (tgt := 36) hx hb dX8_word_1 (by rw [c_1]; decide) (by rw [c_1]; decide) (by rw [c_1]; rfl) (by decide) ?_
    refine va_ldcS hx hb hown (hT.1 (RX8, 250, "split", 12) (List.mem_of_getElem? (i := 6) rfl)) dX8_word_36 ?_
    exact hret _ _ _ dX8_word_38 hm.symm
  · replace hm := ie hm c_1
    by_cases c_2 : p1 = 1
    · replace hm := it hm c_2
      refine lv_tableIn (off := 38) (tgt := 39) hx hb dX8_word_1 (by rw [c_2]; decide) (by rw [c_2]; decide) (by rw [c_2]; rfl) (by decide) ?_
      refine va_ldcS hx hb hown (hT.1 (RX8, 252, "merge", 13) (List.mem_of_getElem? (i := 7) rfl)) dX8_word_39 ?_
      exact hret _ _ _ dX8_word_41 hm.symm
    · replace hm := ie hm c_2
      by_cases c_3 : p1 = 2
      · replace hm := it hm c_3
        refine lv_tableIn (off := 41) (tgt := 42) hx hb dX8_word_1 (by rw [c_3]; decide) (by rw [c_3]; decide) (by rw [c_3]; rfl) (by decide) ?_
        refine va_ldcS hx hb hown (hT.1 (RX8, 254, "deed", 14) (List.mem_of_getElem? (i := 8) rfl)) dX8_word_42 ?_
        exact hret _ _ _ dX8_word_44 hm.symm
      · replace hm := ie hm c_3
        by_cases c_4 : p1 = 3
        · replace hm := it hm c_4
          refine lv_tableIn (off := 44) (tgt := 45) hx hb dX8_word_1 (by rw [c_4]; decide) (by rw [c_4]; decide) (by rw [c_4]; rfl) (by decide) ?_
          refine va_ldcSW hx hb hown (hT.1 (RX8, 256, "way", 15) (List.mem_of_getElem? (i := 9) rfl)) dX8_word_45 ?_
          exact hret _ _ _ dX8_word_48 hm.symm
        · replace hm := ie hm c_4
          by_cases c_5 : p1 = 4
          · replace hm := it hm c_5
            refine lv_tableIn (off := 48) (tgt := 49) hx hb dX8_word_1 (by rw [c_5]; decide) (by rw [c_5]; decide) (by rw [c_5]; rfl) (by decide) ?_
            refine va_ldcSW hx hb hown (hT.1 (RX8, 258, "lien", 16) (List.mem_of_getElem? (i := 10) rfl)) dX8_word_49 ?_
            exact hret _ _ _ dX8_word_52 hm.symm
          · replace hm := ie hm c_5
            have tc_1 := lv_neT (a := 0) c_1 rfl
            have tc_2 := lv_neT (a := 1) c_2 rfl
            have tc_3 := lv_neT (a := 2) c_3 rfl
            have tc_4 := lv_neT (a := 3) c_4 rfl
            have tc_5 := lv_neT (a := 4) c_5 rfl
            refine lv_tableOut hx hb dX8_word_1 (by omega) (tgt := 53) (by decide) ?_
            refine va_ldcSW hx hb hown (hT.1 (RX8, 260, "days", 17) (List.mem_of_getElem? (i := 11) rfl)) dX8_word_53 ?_
            exact hret _ _ _ dX8_word_56 hm.symm
def m_X8_isPrefix_L22 (g_o_buffer : Nat → Int32) (v_o_length : Int32) (v_o_at : Int32) (p1 : Int32) (p2 : Nat) : ((Int32 × Int32) → Option (Int32)) → (Int32 × Int32) → Option (Int32) := fun rec_6 v => match v with
  | (x_4, x_5) => (if x_4 = 0 then gd (isb x_4) (some x_4) else (if v_o_at < x_5 then gd (isb x_4) (some x_4) else (if v_o_length ≤ x_5 then rec_6 ((0 : Int32), x_5 + (1 : Int32)) else gd (ix x_5 80) (gd (decide (p2 < 6)) (gd (ix (x_5 - p1) (lenS.getD p2 0)) (nm (sch ((bytS.getD p2 []).getD (x_5 - p1).toNatClampNeg 0)) (fun r_14 => (if (g_o_buffer x_5.toNatClampNeg) = r_14 then rec_6 ((1 : Int32), x_5 + (1 : Int32)) else rec_6 ((0 : Int32), x_5 + (1 : Int32))))))))))
def m_X8_isPrefix_J18 (g_o_buffer : Nat → Int32) (v_o_length : Int32) (v_o_at : Int32) (p1 : Int32) (p2 : Nat) : (Int32) → Option (Int32) := fun y_3 => fuel (m_X8_isPrefix_L22 g_o_buffer v_o_length v_o_at p1 p2) FU (y_3, p1)
def m_X8_isPrefix (p1 : Int32) (p2 : Nat) (v_o_length : Int32) (v_o_at : Int32) (g_o_buffer : Nat → Int32) : Option (Int32) := gd (decide (p2 < 6)) (nm (nI (lenS.getD p2 0)) (fun r_2 => (if r_2 ≤ (v_o_at - p1) then m_X8_isPrefix_J18 g_o_buffer v_o_length v_o_at p1 p2 (0 : Int32) else m_X8_isPrefix_J18 g_o_buffer v_o_length v_o_at p1 p2 (1 : Int32))))
abbrev k_X8_isPrefix (cA : Nat → ClassId) (o o_now o_saved o_aside o_history o_chains o_buffer o_numbers : Nat) (v_o_thrown : Int32) (v_o_kept : Int32) (v_o_reason : Int32) (v_o_errorPosition : Int32) (v_o_isSaved : Int32) (v_o_length : Int32) (v_o_at : Int32) (v_o_isWrong : Int32) (g_o_buffer : Nat → Int32) : va_W := [(o, .inr (10, [.int v_o_thrown, .ref o_now, .ref o_saved, .ref o_aside, .ref o_history, .int v_o_kept, .int v_o_reason, .int v_o_errorPosition, .int v_o_isSaved, .ref o_chains, .ref o_buffer, .int v_o_length, .int v_o_at, .int v_o_isWrong, .ref o_numbers])), (o_buffer, .inl (cA 1, 80, .inl g_o_buffer))]
set_option maxHeartbeats 4000000 in
set_option maxRecDepth 100000 in
/-- X8_isPrefix: as its model -/
theorem c_X8_isPrefix (l : Launch) (z : Nat → Nat) (G : va_G) (cA : Nat → ClassId) (o o_now o_saved o_aside o_history o_chains o_buffer o_numbers : Nat) (p1 : Int32) (p2 : Nat) (v_o_thrown : Int32) (v_o_kept : Int32) (v_o_reason : Int32) (v_o_errorPosition : Int32) (v_o_isSaved : Int32) (v_o_length : Int32) (v_o_at : Int32) (v_o_isWrong : Int32) (g_o_buffer : Nat → Int32) (R : Option (Int32)) (hR : m_X8_isPrefix p1 p2 v_o_length v_o_at g_o_buffer = R) (hz : R ≠ none) : Met l yX8_isPrefix wsX8_isPrefix ({ frames := 4, cells := 0, slots := 0, locals := 85 } : Room) (va_Pc [.ref o, .int p1, .ref (z (12 + p2))] (PRo z G cA (k_X8_isPrefix cA o o_now o_saved o_aside o_history o_chains o_buffer o_numbers v_o_thrown v_o_kept v_o_reason v_o_errorPosition v_o_isSaved v_o_length v_o_at v_o_isWrong g_o_buffer))) (vp_Si (fun r => R = some r ∧ (r = 0 ∨ r = 1))) 0 0 (fun _ => False) := by
  refine metRo .boolean (by decide) rfl (Nat.le_of_ble_eq_true rfl) ?_
  intro p e s m av below meth c Q ls hx hb hml hts hown hP hK hT hO hl hret
  replace hl : lv_has ls 5 [(0, .ref o), (1, .int p1), (2, .ref (z (12 + p2)))] := hl
  have w_0 := hts (.fieldLink RX8 244 "ParcelRegistryModel" "at" "I") (by decide +kernel)
  have w_1 := hts (.fieldLink RX8 237 "ParcelRegistryModel" "length" "I") (by decide +kernel)
  have w_2 := hts (.fieldLink RX8 31 "ParcelRegistryModel" "buffer" "[C") (by decide +kernel)
  have i_X8 : ∀ w ∈ wsX80, w ∈ wsX8_isPrefix := by decide +kernel
  have hS : va_S NoA s.heap s.heap [] := va_S.rf
  have hm := hR
  unfold m_X8_isPrefix at hm
  refine lv_aload_n hx hb dX8_isPrefix_0 rfl (lv_at hl 0 rfl) ?_
  refine va_get (D := G) (ci := 10) (v := .int v_o_at) (C := RX8) (T := TX8) (N := 15) hx hb hts i_X8 hown hK.1 hP 0 rfl rfl 12 (by decide) w_0 (fun _ h9 => h9) rfl dX8_isPrefix_1 ?_
  refine lv_iload_n hx hb dX8_isPrefix_4 rfl (lv_at hl 1 rfl) ?_
  refine lv_isub hx hb dX8_isPrefix_5 ?_
  refine lv_aload_n hx hb dX8_isPrefix_6 rfl (lv_at hl 2 rfl) ?_
  replace hm := gdo hm hz
  obtain ⟨hs_1, hm⟩ := hm
  replace hs_1 := of_decide_eq_true hs_1
  refine vp_callSi (va_Run.run (va_runV (As := []) (rest := [.int (v_o_at - p1)]) ⟨hx, hb, hml, hown, hts⟩ (c_strlen l (z (12 + p2)) (z (18 + p2)) (lenS.getD p2 0) (fun j => (bytS.getD p2 []).getD j 0)) (cwV 0 hts gX8_isPrefix_J0_length_8abf5 rfl rfl rfl (by decide +kernel) ⟨Nat.le_of_ble_eq_true rfl, Nat.le_of_ble_eq_true rfl⟩) ⟨blSZ, va_Orecv ((hO.2.1.1 p2 hs_1).1) hS, fun U hU hW => ⟨rfl, SZ.of8 hO hS hU hW.alike p2 hs_1⟩⟩ rfl rfl hl.1 rfl (lv_room (Nat.le_of_ble_eq_true rfl)) dX8_isPrefix_7 ⟨Nat.zero_le _, Nat.zero_le _⟩)) (fun r_2 hw => ?_)
  replace hm := nmo hm hw
  have J18_2 : ∀ (y_3 : Int32), ∀ (ls : Array Slot), m_X8_isPrefix_J18 g_o_buffer v_o_length v_o_at p1 p2 y_3 = R → lv_has ls 5 [(0, .ref o), (1, .int p1), (2, .ref (z (12 + p2)))] → W p l e ({ frames := 4, cells := 0, slots := 0, locals := 85 } : Room) s m av below meth c s.heap [] 0 0 Q (F0 m 18 ls [.int y_3]) := by
    intro y_3 ls hm hl
    unfold m_X8_isPrefix_J18 at hm
    refine lv_istore_n (lv' := [(3, .int y_3), (0, .ref o), (1, .int p1), (2, .ref (z (12 + p2)))]) hx hb dX8_isPrefix_18 rfl hl (by decide) rfl (fun ls hl => ?_)
    refine lv_iload_n hx hb dX8_isPrefix_19 rfl (lv_at hl 2 rfl) ?_
    refine lv_istore (lv' := [(4, .int p1), (3, .int y_3), (0, .ref o), (1, .int p1), (2, .ref (z (12 + p2)))]) hx hb dX8_isPrefix_20 hl (by decide) rfl (fun ls hl => ?_)
    have L22_1 : ∀ (n : Nat), ∀ (x_4 : Int32) (x_5 : Int32), ∀ (ls : Array Slot), fuel (m_X8_isPrefix_L22 g_o_buffer v_o_length v_o_at p1 p2) n (x_4, x_5) = R → lv_has ls 5 [(0, .ref o), (1, .int p1), (2, .ref (z (12 + p2))), (3, .int x_4), (4, .int x_5)] → W p l e ({ frames := 4, cells := 0, slots := 0, locals := 85 } : Room) s m av below meth c s.heap [] 0 0 Q (F0 m 22 ls []) := by
      intro n
      induction n with
      | zero =>
        intro x_4 x_5 ls hm hl
        exact (fu0 hm hz).elim
      | succ n ih22 =>
        intro x_4 x_5 ls hm hl
        replace hm := fus hm
        generalize fuel (m_X8_isPrefix_L22 g_o_buffer v_o_length v_o_at p1 p2) n = rec_6 at hm ih22
        unfold m_X8_isPrefix_L22 at hm
        refine lv_iload_n hx hb dX8_isPrefix_22 rfl (lv_at hl 3 rfl) ?_
        refine lv_if_eq (tgt := 74) hx hb dX8_isPrefix_23 (by decide) (fun c_7 => ?_) (fun c_7 => ?_)
        · replace hm := it hm c_7
          refine lv_iload_n hx hb dX8_isPrefix_74 rfl (lv_at hl 3 rfl) ?_
          replace hm := gdo hm hz
          obtain ⟨gb_8, hm⟩ := hm
          exact hret _ _ _ dX8_isPrefix_75 (nz (isbz gb_8)) ⟨hm.symm, (isbz gb_8)⟩
        · replace hm := ie hm c_7
          refine lv_iload hx hb dX8_isPrefix_26 (lv_at hl 4 rfl) ?_
          refine lv_aload_n hx hb dX8_isPrefix_28 rfl (lv_at hl 0 rfl) ?_
          refine va_get (D := G) (ci := 10) (v := .int v_o_at) (C := RX8) (T := TX8) (N := 15) hx hb hts i_X8 hown hK.1 hP 0 rfl rfl 12 (by decide) w_0 (fun _ h9 => h9) rfl dX8_isPrefix_29 ?_
          refine lv_icmp_gt (tgt := 74) hx hb dX8_isPrefix_32 (by decide) (fun c_9 => ?_) (fun c_9 => ?_)
          · replace hm := it hm c_9
            refine lv_iload_n hx hb dX8_isPrefix_74 rfl (lv_at hl 3 rfl) ?_
            replace hm := gdo hm hz
            obtain ⟨gb_10, hm⟩ := hm
            exact hret _ _ _ dX8_isPrefix_75 (nz (isbz gb_10)) ⟨hm.symm, (isbz gb_10)⟩
          · replace hm := ie hm c_9
            refine lv_iload hx hb dX8_isPrefix_35 (lv_at hl 4 rfl) ?_
            refine lv_aload_n hx hb dX8_isPrefix_37 rfl (lv_at hl 0 rfl) ?_
            refine va_get (D := G) (ci := 10) (v := .int v_o_length) (C := RX8) (T := TX8) (N := 15) hx hb hts i_X8 hown hK.1 hP 0 rfl rfl 11 (by decide) w_1 (fun _ h9 => h9) rfl dX8_isPrefix_38 ?_
            refine lv_icmp_ge (tgt := 66) hx hb dX8_isPrefix_41 (by decide) (fun c_11 => ?_) (fun c_11 => ?_)
            · replace hm := it hm c_11
              refine lv_iconst (v := (0 : Int32)) hx hb dX8_isPrefix_66 (by decide) ?_
              refine lv_istore_n (lv' := [(3, .int (0 : Int32)), (0, .ref o), (1, .int p1), (2, .ref (z (12 + p2))), (4, .int x_5)]) hx hb dX8_isPrefix_67 rfl hl (by decide) rfl (fun ls hl => ?_)
              refine lv_iinc (v := x_5 + (1 : Int32)) (lv' := [(4, .int (x_5 + (1 : Int32))), (3, .int (0 : Int32)), (0, .ref o), (1, .int p1), (2, .ref (z (12 + p2)))]) hx hb dX8_isPrefix_68 hl (k := 4) rfl rfl (by decide) rfl (fun ls hl => ?_)
              refine lv_goto (tgt := 22) hx hb dX8_isPrefix_71 (by decide) ?_
              exact ih22 (0 : Int32) (x_5 + (1 : Int32)) _ hm (lv_sub hl [2, 3, 4, 1, 0] rfl)
            · replace hm := ie hm c_11
              refine lv_aload_n hx hb dX8_isPrefix_44 rfl (lv_at hl 0 rfl) ?_
              refine va_get (D := G) (ci := 10) (v := .ref o_buffer) (C := RX8) (T := TX8) (N := 15) hx hb hts i_X8 hown hK.1 hP 0 rfl rfl 10 (by decide) w_2 (fun _ h9 => h9) rfl dX8_isPrefix_45 ?_
              refine lv_iload hx hb dX8_isPrefix_48 (lv_at hl 4 rfl) ?_
              replace hm := gdo hm hz
              obtain ⟨gi_12, hm⟩ := hm
              refine va_cald hx hb hK.1 hP 1 1 (cA := cA 1) (n := 80) (f := g_o_buffer) rfl rfl (ixi gi_12) dX8_isPrefix_50 ?_
              refine lv_aload_n hx hb dX8_isPrefix_51 rfl (lv_at hl 2 rfl) ?_
              refine lv_iload hx hb dX8_isPrefix_52 (lv_at hl 4 rfl) ?_
              refine lv_iload_n hx hb dX8_isPrefix_54 rfl (lv_at hl 1 rfl) ?_
              refine lv_isub hx hb dX8_isPrefix_55 ?_
              replace hm := gdo hm hz
              obtain ⟨hs_13, hm⟩ := hm
              replace hs_13 := of_decide_eq_true hs_13
              replace hm := gdo hm hz
              obtain ⟨gi_15, hm⟩ := hm
              refine vp_callSi (va_Run.run (va_runV (As := [.int (x_5 - p1)]) (rest := [.int (g_o_buffer x_5.toNatClampNeg)]) ⟨hx, hb, hml, hown, hts⟩ (c_charAt l (z (12 + p2)) (z (18 + p2)) (lenS.getD p2 0) (fun j => (bytS.getD p2 []).getD j 0) (x_5 - p1) (lenS_lt _) (ixi gi_15)) (cwV 1 hts gX8_isPrefix_J0_charAt_5068e rfl rfl rfl (by decide +kernel) ⟨Nat.le_of_ble_eq_true rfl, Nat.le_of_ble_eq_true rfl⟩) ⟨blSZ, va_Orecv ((hO.2.1.1 p2 hs_13).1) hS, fun U hU hW => ⟨rfl, SZ.of8 hO hS hU hW.alike p2 hs_13⟩⟩ rfl rfl hl.1 rfl (lv_room (Nat.le_of_ble_eq_true rfl)) dX8_isPrefix_56 ⟨Nat.zero_le _, Nat.zero_le _⟩)) (fun r_14 hw => ?_)
              replace hm := nmo hm hw
              refine lv_icmp_ne (tgt := 66) hx hb dX8_isPrefix_59 (by decide) (fun c_16 => ?_) (fun c_16 => ?_)
              · replace hm := ie hm c_16
                refine lv_iconst (v := (0 : Int32)) hx hb dX8_isPrefix_66 (by decide) ?_
                refine lv_istore_n (lv' := [(3, .int (0 : Int32)), (0, .ref o), (1, .int p1), (2, .ref (z (12 + p2))), (4, .int x_5)]) hx hb dX8_isPrefix_67 rfl hl (by decide) rfl (fun ls hl => ?_)
                refine lv_iinc (v := x_5 + (1 : Int32)) (lv' := [(4, .int (x_5 + (1 : Int32))), (3, .int (0 : Int32)), (0, .ref o), (1, .int p1), (2, .ref (z (12 + p2)))]) hx hb dX8_isPrefix_68 hl (k := 4) rfl rfl (by decide) rfl (fun ls hl => ?_)
                refine lv_goto (tgt := 22) hx hb dX8_isPrefix_71 (by decide) ?_
                exact ih22 (0 : Int32) (x_5 + (1 : Int32)) _ hm (lv_sub hl [2, 3, 4, 1, 0] rfl)
              · replace hm := it hm c_16
                refine lv_iconst (v := (1 : Int32)) hx hb dX8_isPrefix_62 (by decide) ?_
                refine lv_goto (tgt := 67) hx hb dX8_isPrefix_63 (by decide) ?_
                refine lv_istore_n (lv' := [(3, .int (1 : Int32)), (0, .ref o), (1, .int p1), (2, .ref (z (12 + p2))), (4, .int x_5)]) hx hb dX8_isPrefix_67 rfl hl (by decide) rfl (fun ls hl => ?_)
                refine lv_iinc (v := x_5 + (1 : Int32)) (lv' := [(4, .int (x_5 + (1 : Int32))), (3, .int (1 : Int32)), (0, .ref o), (1, .int p1), (2, .ref (z (12 + p2)))]) hx hb dX8_isPrefix_68 hl (k := 4) rfl rfl (by decide) rfl (fun ls hl => ?_)
                refine lv_goto (tgt := 22) hx hb dX8_isPrefix_71 (by decide) ?_
                exact ih22 (1 : Int32) (x_5 + (1 : Int32)) _ hm (lv_sub hl [2, 3, 4, 1, 0] rfl)
    exact L22_1 _ y_3 p1 _ hm (lv_sub hl [2, 3, 4, 1, 0] rfl)
  refine lv_icmp_ge (tgt := 17) hx hb dX8_isPrefix_10 (by decide) (fun c_17 => ?_) (fun c_17 => ?_)
  · replace hm := it hm c_17
    refine lv_iconst (v := (0 : Int32)) hx hb dX8_isPrefix_17 (by decide) ?_
    exact J18_2 (0 : Int32) _ hm (lv_sub hl [0, 1, 2] rfl)
  · replace hm := ie hm c_17
    refine lv_iconst (v := (1 : Int32)) hx hb dX8_isPrefix_13 (by decide) ?_
    refine lv_goto (tgt := 18) hx hb dX8_isPrefix_14 (by decide) ?_
    exact J18_2 (1 : Int32) _ hm (lv_sub hl [0, 1, 2] rfl)
def m_X8_readWord_J118  : (Int32 × Int32 × Int32) → Option (Int32 × Int32 × Int32) := fun v => match v with
  | (x_1, v_2, v_3) => (if v_3 = 0 then some (x_1, v_2, v_3) else some ((-1 : Int32), v_2, v_3))
def m_X8_readWord_J94 (v_6 : Int32) (rec_8 : (Int32 × Int32 × Int32) → Option (Int32 × Int32 × Int32)) (x_11 : Int32) (x_12 : Int32) : (Int32) → Option (Int32 × Int32 × Int32) := fun y_13 => gd (isb y_13) ((if x_12 = 0 then rec_8 (x_11, v_6 + (0 : Int32), y_13) else rec_8 (x_11, v_6 + (1 : Int32), y_13)))
def m_X8_readWord_J84 (v_6 : Int32) (rec_8 : (Int32 × Int32 × Int32) → Option (Int32 × Int32 × Int32)) : (Int32 × Int32) → Option (Int32 × Int32 × Int32) := fun v => match v with
  | (x_11, x_12) => (if x_12 = 0 then m_X8_readWord_J94 v_6 rec_8 x_11 x_12 (1 : Int32) else m_X8_readWord_J94 v_6 rec_8 x_11 x_12 (0 : Int32))
def m_X8_readWord_L23 (g_o_buffer : Nat → Int32) (v_o_length : Int32) (v_o_at : Int32) (v_6 : Int32) (rec_8 : (Int32 × Int32 × Int32) → Option (Int32 × Int32 × Int32)) : ((Int32 × Int32 × Int32) → Option (Int32 × Int32 × Int32)) → (Int32 × Int32 × Int32) → Option (Int32 × Int32 × Int32) := fun rec_20 v => match v with
  | (x_17, x_18, x_19) => (if (6 : Int32) ≤ x_19 then m_X8_readWord_J84 v_6 rec_8 (x_17, x_18) else Option.bind (m_X8_word x_19) (fun t_22 => Option.bind (m_X8_isPrefix v_o_at t_22 v_o_length v_6 g_o_buffer) (fun r_23 => (if r_23 = 0 then rec_20 (x_17, x_18 ||| r_23, x_19 + (1 : Int32)) else Option.bind (m_X8_word x_19) (fun t_25 => gd (decide (t_25 < 6)) (nm (nI (lenS.getD t_25 0)) (fun r_27 => (if ((v_6 - v_o_at) + (1 : Int32)) = r_27 then rec_20 (x_19, x_18 ||| r_23, x_19 + (1 : Int32)) else rec_20 (x_17, x_18 ||| r_23, x_19 + (1 : Int32))))))))))
def m_X8_readWord_L7 (g_o_buffer : Nat → Int32) (v_o_length : Int32) (v_o_at : Int32) : ((Int32 × Int32 × Int32) → Option (Int32 × Int32 × Int32)) → (Int32 × Int32 × Int32) → Option (Int32 × Int32 × Int32) := fun rec_8 v => match v with
  | (x_5, v_6, v_7) => (if v_7 = 0 then (if 0 ≤ x_5 then m_X8_readWord_J118 (x_5, v_6, v_7) else fuel (m_X8_readWord_L23 g_o_buffer v_o_length v_o_at v_6 rec_8) FU (x_5, (0 : Int32), (0 : Int32))) else m_X8_readWord_J118 (x_5, v_6, v_7))
def m_X8_readWord (v_o_length : Int32) (v_o_at : Int32) (v_o_isWrong : Int32) (g_o_buffer : Nat → Int32) : Option (Int32 × Int32 × Int32) := fuel (m_X8_readWord_L7 g_o_buffer v_o_length v_o_at) FU ((-1 : Int32), v_o_at, v_o_isWrong)
abbrev k_X8_readWord (cA : Nat → ClassId) (o o_now o_saved o_aside o_history o_chains o_buffer o_numbers : Nat) (v_o_thrown : Int32) (v_o_kept : Int32) (v_o_reason : Int32) (v_o_errorPosition : Int32) (v_o_isSaved : Int32) (v_o_length : Int32) (v_o_at : Int32) (v_o_isWrong : Int32) (g_o_buffer : Nat → Int32) : va_W := [(o, .inr (10, [.int v_o_thrown, .ref o_now, .ref o_saved, .ref o_aside, .ref o_history, .int v_o_kept, .int v_o_reason, .int v_o_errorPosition, .int v_o_isSaved, .ref o_chains, .ref o_buffer, .int v_o_length, .int v_o_at, .int v_o_isWrong, .ref o_numbers])), (o_buffer, .inl (cA 1, 80, .inl g_o_buffer))]
set_option maxHeartbeats 4000000 in
set_option maxRecDepth 100000 in
/-- X8_readWord: as its model -/
theorem c_X8_readWord (l : Launch) (z : Nat → Nat) (G : va_G) (cA : Nat → ClassId) (o o_now o_saved o_aside o_history o_chains o_buffer o_numbers : Nat) (sz : Nat) (v_o_thrown : Int32) (v_o_kept : Int32) (v_o_reason : Int32) (v_o_errorPosition : Int32) (v_o_isSaved : Int32) (v_o_length : Int32) (v_o_at : Int32) (v_o_isWrong : Int32) (g_o_buffer : Nat → Int32) (R : Option (Int32 × Int32 × Int32)) (hR : m_X8_readWord v_o_length v_o_at v_o_isWrong g_o_buffer = R) (hz : R ≠ none) : Met l yX8_readWord wsX8_readWord ({ frames := 5, cells := 0, slots := 0, locals := 109 } : Room) (va_Pc [.ref o] (PMo z G cA (k_X8_readWord cA o o_now o_saved o_aside o_history o_chains o_buffer o_numbers v_o_thrown v_o_kept v_o_reason v_o_errorPosition v_o_isSaved v_o_length v_o_at v_o_isWrong g_o_buffer) sz)) (va_Qi (fun (r : Int32) (u : Int32 × Int32) => R = some (r, u)) (BM G (fun (u : Int32 × Int32) => (k_X8_readWord cA o o_now o_saved o_aside o_history o_chains o_buffer o_numbers v_o_thrown v_o_kept v_o_reason v_o_errorPosition v_o_isSaved v_o_length u.1 u.2 g_o_buffer))) (va_A (k_X8_readWord cA o o_now o_saved o_aside o_history o_chains o_buffer o_numbers v_o_thrown v_o_kept v_o_reason v_o_errorPosition v_o_isSaved v_o_length v_o_at v_o_isWrong g_o_buffer) sz)) 0 0 (va_A (k_X8_readWord cA o o_now o_saved o_aside o_history o_chains o_buffer o_numbers v_o_thrown v_o_kept v_o_reason v_o_errorPosition v_o_isSaved v_o_length v_o_at v_o_isWrong g_o_buffer) sz) := by
  refine metMo .int (by decide) rfl (Nat.le_of_ble_eq_true rfl) ?_
  intro p e s m av below meth c Q ls A H hx hb hml hts hown hP hK hT hO hD hA hS hl hret
  replace hl : lv_has ls 6 [(0, .ref o)] := hl
  have w_0 := hts (.fieldLink RX8 244 "ParcelRegistryModel" "at" "I") (by decide +kernel)
  have w_1 := hts (.fieldLink RX8 240 "ParcelRegistryModel" "isWrong" "Z") (by decide +kernel)
  have i_X8 : ∀ w ∈ wsX80, w ∈ wsX8_readWord := by decide +kernel
  have hm := hR
  unfold m_X8_readWord at hm
  refine lv_aload_n hx hb dX8_readWord_0 rfl (lv_at hl 0 rfl) ?_
  refine va_get (D := G) (ci := 10) (v := .int v_o_at) (C := RX8) (T := TX8) (N := 15) hx hb hts i_X8 hown hK.1 hP 0 rfl rfl 12 (by decide) w_0 (fun _ h9 => h9) rfl dX8_readWord_1 ?_
  refine lv_istore_n (lv' := [(1, .int v_o_at), (0, .ref o)]) hx hb dX8_readWord_4 rfl hl (by decide) rfl (fun ls hl => ?_)
  refine lv_iconst (v := (-1 : Int32)) hx hb dX8_readWord_5 (by decide) ?_
  refine lv_istore_n (lv' := [(2, .int (-1 : Int32)), (1, .int v_o_at), (0, .ref o)]) hx hb dX8_readWord_6 rfl hl (by decide) rfl (fun ls hl => ?_)
  have J118_1 : ∀ (x_1 : Int32) (v_2 : Int32) (v_3 : Int32), ∀ (H : Heap) (locs : List Loc) (ls : Array Slot), m_X8_readWord_J118 (x_1, v_2, v_3) = R → va_P G vwCl (k_X8_readWord cA o o_now o_saved o_aside o_history o_chains o_buffer o_numbers v_o_thrown v_o_kept v_o_reason v_o_errorPosition v_o_isSaved v_o_length v_2 v_3 g_o_buffer) H → va_D A (k_X8_readWord cA o o_now o_saved o_aside o_history o_chains o_buffer o_numbers v_o_thrown v_o_kept v_o_reason v_o_errorPosition v_o_isSaved v_o_length v_2 v_3 g_o_buffer) → va_S A s.heap H locs → lv_has ls 6 [(0, .ref o), (2, .int x_1)] → W p l e ({ frames := 5, cells := 0, slots := 0, locals := 109 } : Room) s m av below meth c H locs 0 0 Q (F0 m 118 ls []) := by
    intro x_1 v_2 v_3 H locs ls hm hP hD hS hl
    unfold m_X8_readWord_J118 at hm
    refine lv_aload_n hx hb dX8_readWord_118 rfl (lv_at hl 0 rfl) ?_
    refine va_get (D := G) (ci := 10) (v := .int v_3) (C := RX8) (T := TX8) (N := 15) hx hb hts i_X8 hown hK.1 hP 0 rfl rfl 13 (by decide) w_1 (fun _ h9 => h9) rfl dX8_readWord_119 ?_
    refine lv_if_eq (tgt := 129) hx hb dX8_readWord_122 (by decide) (fun c_4 => ?_) (fun c_4 => ?_)
    · replace hm := it hm c_4
      refine lv_iload_n hx hb dX8_readWord_129 rfl (lv_at hl 1 rfl) ?_
      exact hret _ _ _ (v_2, v_3) _ _ dX8_readWord_130 rfl hP hS hm.symm
    · replace hm := ie hm c_4
      refine lv_iconst (v := (-1 : Int32)) hx hb dX8_readWord_125 (by decide) ?_
      refine lv_goto (tgt := 130) hx hb dX8_readWord_126 (by decide) ?_
      exact hret _ _ _ (v_2, v_3) _ _ dX8_readWord_130 rfl hP hS hm.symm
  have L7_5 : ∀ (n : Nat), ∀ (x_5 : Int32) (v_6 : Int32) (v_7 : Int32), ∀ (H : Heap) (locs : List Loc) (ls : Array Slot), fuel (m_X8_readWord_L7 g_o_buffer v_o_length v_o_at) n (x_5, v_6, v_7) = R → va_P G vwCl (k_X8_readWord cA o o_now o_saved o_aside o_history o_chains o_buffer o_numbers v_o_thrown v_o_kept v_o_reason v_o_errorPosition v_o_isSaved v_o_length v_6 v_7 g_o_buffer) H → va_D A (k_X8_readWord cA o o_now o_saved o_aside o_history o_chains o_buffer o_numbers v_o_thrown v_o_kept v_o_reason v_o_errorPosition v_o_isSaved v_o_length v_6 v_7 g_o_buffer) → va_S A s.heap H locs → lv_has ls 6 [(0, .ref o), (1, .int v_o_at), (2, .int x_5)] → W p l e ({ frames := 5, cells := 0, slots := 0, locals := 109 } : Room) s m av below meth c H locs 0 0 Q (F0 m 7 ls []) := by
    intro n
    induction n with
    | zero =>
      intro x_5 v_6 v_7 H locs ls hm hP hD hS hl
      exact (fu0 hm hz).elim
    | succ n ih7 =>
      intro x_5 v_6 v_7 H locs ls hm hP hD hS hl
      replace hm := fus hm
      generalize fuel (m_X8_readWord_L7 g_o_buffer v_o_length v_o_at) n = rec_8 at hm ih7
      unfold m_X8_readWord_L7 at hm
      refine lv_aload_n hx hb dX8_readWord_7 rfl (lv_at hl 0 rfl) ?_
      refine va_get (D := G) (ci := 10) (v := .int v_7) (C := RX8) (T := TX8) (N := 15) hx hb hts i_X8 hown hK.1 hP 0 rfl rfl 13 (by decide) w_1 (fun _ h9 => h9) rfl dX8_readWord_8 ?_
      refine lv_if_ne (tgt := 118) hx hb dX8_readWord_11 (by decide) (fun c_9 => ?_) (fun c_9 => ?_)
      · replace hm := ie hm c_9
        exact J118_1 x_5 v_6 v_7 _ _ _ hm hP hD hS (lv_sub hl [0, 2] rfl)
      · replace hm := it hm c_9
        refine lv_iload_n hx hb dX8_readWord_14 rfl (lv_at hl 2 rfl) ?_
        refine lv_if_ge (tgt := 118) hx hb dX8_readWord_15 (by decide) (fun c_10 => ?_) (fun c_10 => ?_)
        · replace hm := it hm c_10
          exact J118_1 x_5 v_6 v_7 _ _ _ hm hP hD hS (lv_sub hl [0, 2] rfl)
        · replace hm := ie hm c_10
          refine lv_iconst (v := (0 : Int32)) hx hb dX8_readWord_18 (by decide) ?_
          refine lv_istore_n (lv' := [(3, .int (0 : Int32)), (0, .ref o), (1, .int v_o_at), (2, .int x_5)]) hx hb dX8_readWord_19 rfl hl (by decide) rfl (fun ls hl => ?_)
          refine lv_iconst (v := (0 : Int32)) hx hb dX8_readWord_20 (by decide) ?_
          refine lv_istore (lv' := [(4, .int (0 : Int32)), (3, .int (0 : Int32)), (0, .ref o), (1, .int v_o_at), (2, .int x_5)]) hx hb dX8_readWord_21 hl (by decide) rfl (fun ls hl => ?_)
          have J84_3 : ∀ (x_11 : Int32) (x_12 : Int32), ∀ (H : Heap) (locs : List Loc) (ls : Array Slot), m_X8_readWord_J84 v_6 rec_8 (x_11, x_12) = R → va_P G vwCl (k_X8_readWord cA o o_now o_saved o_aside o_history o_chains o_buffer o_numbers v_o_thrown v_o_kept v_o_reason v_o_errorPosition v_o_isSaved v_o_length v_6 v_7 g_o_buffer) H → va_D A (k_X8_readWord cA o o_now o_saved o_aside o_history o_chains o_buffer o_numbers v_o_thrown v_o_kept v_o_reason v_o_errorPosition v_o_isSaved v_o_length v_6 v_7 g_o_buffer) → va_S A s.heap H locs → lv_has ls 6 [(0, .ref o), (1, .int v_o_at), (2, .int x_11), (3, .int x_12)] → W p l e ({ frames := 5, cells := 0, slots := 0, locals := 109 } : Room) s m av below meth c H locs 0 0 Q (F0 m 84 ls []) := by
            intro x_11 x_12 H locs ls hm hP hD hS hl
            unfold m_X8_readWord_J84 at hm
            refine lv_aload_n hx hb dX8_readWord_84 rfl (lv_at hl 0 rfl) ?_
            refine lv_iload_n hx hb dX8_readWord_85 rfl (lv_at hl 3 rfl) ?_
            have J94_2 : ∀ (y_13 : Int32), ∀ (H : Heap) (locs : List Loc) (ls : Array Slot), m_X8_readWord_J94 v_6 rec_8 x_11 x_12 y_13 = R → va_P G vwCl (k_X8_readWord cA o o_now o_saved o_aside o_history o_chains o_buffer o_numbers v_o_thrown v_o_kept v_o_reason v_o_errorPosition v_o_isSaved v_o_length v_6 v_7 g_o_buffer) H → va_D A (k_X8_readWord cA o o_now o_saved o_aside o_history o_chains o_buffer o_numbers v_o_thrown v_o_kept v_o_reason v_o_errorPosition v_o_isSaved v_o_length v_6 v_7 g_o_buffer) → va_S A s.heap H locs → lv_has ls 6 [(0, .ref o), (1, .int v_o_at), (2, .int x_11), (3, .int x_12)] → W p l e ({ frames := 5, cells := 0, slots := 0, locals := 109 } : Room) s m av below meth c H locs 0 0 Q (F0 m 94 ls [.int y_13, .ref o]) := by
              intro y_13 H locs ls hm hP hD hS hl
              unfold m_X8_readWord_J94 at hm
              replace hm := gdo hm hz
              obtain ⟨gb_14, hm⟩ := hm
              refine va_put (D := G) (ci := 10) (v := .int y_13) (ty := .boolean) (C := RX8) (T := TX8) (N := 15) hx hb hts i_X8 tyX8 tyX8_ok nmX8 hown hK.1 hP hD hS 0 rfl rfl 13 (by decide) w_1 (fun _ h9 => h9) rfl (by decide +kernel) (nz (isbz gb_14)) (fz (isbz gb_14)) (Nat.le_of_ble_eq_true rfl) dX8_readWord_94 (fun H locs hP' hD' hS' => ?_)
              replace hP : va_P G vwCl (k_X8_readWord cA o o_now o_saved o_aside o_history o_chains o_buffer o_numbers v_o_thrown v_o_kept v_o_reason v_o_errorPosition v_o_isSaved v_o_length v_6 y_13 g_o_buffer) H := hP'
              replace hD : va_D A (k_X8_readWord cA o o_now o_saved o_aside o_history o_chains o_buffer o_numbers v_o_thrown v_o_kept v_o_reason v_o_errorPosition v_o_isSaved v_o_length v_6 y_13 g_o_buffer) := hD'
              replace hS := hS'
              refine lv_aload_n hx hb dX8_readWord_97 rfl (lv_at hl 0 rfl) ?_
              refine lv_dup hx hb dX8_readWord_98 rfl ?_
              refine va_get (D := G) (ci := 10) (v := .int v_6) (C := RX8) (T := TX8) (N := 15) hx hb hts i_X8 hown hK.1 hP 0 rfl rfl 12 (by decide) w_0 (fun _ h9 => h9) rfl dX8_readWord_99 ?_
              refine lv_iload_n hx hb dX8_readWord_102 rfl (lv_at hl 3 rfl) ?_
              refine lv_if_eq (tgt := 110) hx hb dX8_readWord_103 (by decide) (fun c_15 => ?_) (fun c_15 => ?_)
              · replace hm := it hm c_15
                refine lv_iconst (v := (0 : Int32)) hx hb dX8_readWord_110 (by decide) ?_
                refine lv_iadd hx hb dX8_readWord_111 ?_
                refine va_put (D := G) (ci := 10) (v := .int (v_6 + (0 : Int32))) (ty := .int) (C := RX8) (T := TX8) (N := 15) hx hb hts i_X8 tyX8 tyX8_ok nmX8 hown hK.1 hP hD hS 0 rfl rfl 12 (by decide) w_0 (fun _ h9 => h9) rfl (by decide +kernel) rfl rfl (Nat.le_of_ble_eq_true rfl) dX8_readWord_112 (fun H locs hP' hD' hS' => ?_)
                replace hP : va_P G vwCl (k_X8_readWord cA o o_now o_saved o_aside o_history o_chains o_buffer o_numbers v_o_thrown v_o_kept v_o_reason v_o_errorPosition v_o_isSaved v_o_length (v_6 + (0 : Int32)) y_13 g_o_buffer) H := hP'
                replace hD : va_D A (k_X8_readWord cA o o_now o_saved o_aside o_history o_chains o_buffer o_numbers v_o_thrown v_o_kept v_o_reason v_o_errorPosition v_o_isSaved v_o_length (v_6 + (0 : Int32)) y_13 g_o_buffer) := hD'
                replace hS := hS'
                refine lv_goto (tgt := 7) hx hb dX8_readWord_115 (by decide) ?_
                exact ih7 x_11 (v_6 + (0 : Int32)) y_13 _ _ _ hm hP hD hS (lv_sub hl [0, 1, 2] rfl)
              · replace hm := ie hm c_15
                refine lv_iconst (v := (1 : Int32)) hx hb dX8_readWord_106 (by decide) ?_
                refine lv_goto (tgt := 111) hx hb dX8_readWord_107 (by decide) ?_
                refine lv_iadd hx hb dX8_readWord_111 ?_
                refine va_put (D := G) (ci := 10) (v := .int (v_6 + (1 : Int32))) (ty := .int) (C := RX8) (T := TX8) (N := 15) hx hb hts i_X8 tyX8 tyX8_ok nmX8 hown hK.1 hP hD hS 0 rfl rfl 12 (by decide) w_0 (fun _ h9 => h9) rfl (by decide +kernel) rfl rfl (Nat.le_of_ble_eq_true rfl) dX8_readWord_112 (fun H locs hP' hD' hS' => ?_)
                replace hP : va_P G vwCl (k_X8_readWord cA o o_now o_saved o_aside o_history o_chains o_buffer o_numbers v_o_thrown v_o_kept v_o_reason v_o_errorPosition v_o_isSaved v_o_length (v_6 + (1 : Int32)) y_13 g_o_buffer) H := hP'
                replace hD : va_D A (k_X8_readWord cA o o_now o_saved o_aside o_history o_chains o_buffer o_numbers v_o_thrown v_o_kept v_o_reason v_o_errorPosition v_o_isSaved v_o_length (v_6 + (1 : Int32)) y_13 g_o_buffer) := hD'
                replace hS := hS'
                refine lv_goto (tgt := 7) hx hb dX8_readWord_115 (by decide) ?_
                exact ih7 x_11 (v_6 + (1 : Int32)) y_13 _ _ _ hm hP hD hS (lv_sub hl [0, 1, 2] rfl)
            refine lv_if_ne (tgt := 93) hx hb dX8_readWord_86 (by decide) (fun c_16 => ?_) (fun c_16 => ?_)
            · replace hm := ie hm c_16
              refine lv_iconst (v := (0 : Int32)) hx hb dX8_readWord_93 (by decide) ?_
              exact J94_2 (0 : Int32) _ _ _ hm hP hD hS (lv_sub hl [0, 1, 2, 3] rfl)
            · replace hm := it hm c_16
              refine lv_iconst (v := (1 : Int32)) hx hb dX8_readWord_89 (by decide) ?_
              refine lv_goto (tgt := 94) hx hb dX8_readWord_90 (by decide) ?_
              exact J94_2 (1 : Int32) _ _ _ hm hP hD hS (lv_sub hl [0, 1, 2, 3] rfl)
          have L23_4 : ∀ (n : Nat), ∀ (x_17 : Int32) (x_18 : Int32) (x_19 : Int32), ∀ (H : Heap) (locs : List Loc) (ls : Array Slot), fuel (m_X8_readWord_L23 g_o_buffer v_o_length v_o_at v_6 rec_8) n (x_17, x_18, x_19) = R → va_P G vwCl (k_X8_readWord cA o o_now o_saved o_aside o_history o_chains o_buffer o_numbers v_o_thrown v_o_kept v_o_reason v_o_errorPosition v_o_isSaved v_o_length v_6 v_7 g_o_buffer) H → va_D A (k_X8_readWord cA o o_now o_saved o_aside o_history o_chains o_buffer o_numbers v_o_thrown v_o_kept v_o_reason v_o_errorPosition v_o_isSaved v_o_length v_6 v_7 g_o_buffer) → va_S A s.heap H locs → lv_has ls 6 [(0, .ref o), (1, .int v_o_at), (2, .int x_17), (3, .int x_18), (4, .int x_19)] → W p l e ({ frames := 5, cells := 0, slots := 0, locals := 109 } : Room) s m av below meth c H locs 0 0 Q (F0 m 23 ls []) := by
            intro n
            induction n with
            | zero =>
              intro x_17 x_18 x_19 H locs ls hm hP hD hS hl
              exact (fu0 hm hz).elim
            | succ n ih23 =>
              intro x_17 x_18 x_19 H locs ls hm hP hD hS hl
              replace hm := fus hm
              generalize fuel (m_X8_readWord_L23 g_o_buffer v_o_length v_o_at v_6 rec_8) n = rec_20 at hm ih23
              unfold m_X8_readWord_L23 at hm
              refine lv_iload hx hb dX8_readWord_23 (lv_at hl 4 rfl) ?_
              refine lv_bipush (v := (6 : Int32)) hx hb dX8_readWord_25 (by decide) ?_
              refine lv_icmp_ge (tgt := 84) hx hb dX8_readWord_27 (by decide) (fun c_21 => ?_) (fun c_21 => ?_)
              · replace hm := it hm c_21
                exact J84_3 x_17 x_18 _ _ _ hm hP hD hS (lv_sub hl [0, 1, 2, 3] rfl)
              · replace hm := ie hm c_21
                refine lv_aload_n hx hb dX8_readWord_30 rfl (lv_at hl 0 rfl) ?_
                refine lv_iload_n hx hb dX8_readWord_31 rfl (lv_at hl 1 rfl) ?_
                refine lv_iload hx hb dX8_readWord_32 (lv_at hl 4 rfl) ?_
                refine va_csr (va_Run.run (va_runS (As := [.int x_19]) (rest := [.int v_o_at, .ref o]) ⟨hx, hb, hml, hown, hts⟩ (c_X8_word l z G cA x_19 _ rfl (bnz hm hz)) (va_cwS 1 hts gX8_readWord_X8_word rfl rfl rfl (by decide +kernel) ⟨Nat.le_of_ble_eq_true rfl, Nat.le_of_ble_eq_true rfl⟩) (preRSo (hP.sub [] rfl) hK hT hO hS) rfl rfl hl.1 rfl (lv_room (Nat.le_of_ble_eq_true rfl)) dX8_readWord_34 ⟨Nat.zero_le _, Nat.zero_le _⟩)) (fun t_22 hw => ?_)
                replace hm := bst hm hw
                refine vp_callSi (va_Run.run (va_runV (As := [.int v_o_at, .ref (z (12 + t_22))]) (rest := []) ⟨hx, hb, hml, hown, hts⟩ (c_X8_isPrefix l z G cA o o_now o_saved o_aside o_history o_chains o_buffer o_numbers v_o_at t_22 v_o_thrown v_o_kept v_o_reason v_o_errorPosition v_o_isSaved v_o_length v_6 v_7 g_o_buffer _ rfl (bnz hm hz)) (cwV 2 hts gX8_readWord_X8_isPrefix rfl rfl rfl (by decide +kernel) ⟨Nat.le_of_ble_eq_true rfl, Nat.le_of_ble_eq_true rfl⟩) (preRVo (q := (RX8, TX8, 15)) (hP.sub [0, 1] rfl) hK hT hO hS 0 rfl rfl) rfl rfl hl.1 rfl (lv_room (Nat.le_of_ble_eq_true rfl)) dX8_readWord_37 ⟨Nat.zero_le _, Nat.zero_le _⟩)) (fun r_23 hw => ?_)
                replace hm := bst hm hw.1
                refine lv_istore (lv' := [(5, .int r_23), (0, .ref o), (1, .int v_o_at), (2, .int x_17), (3, .int x_18), (4, .int x_19)]) hx hb dX8_readWord_40 hl (by decide) rfl (fun ls hl => ?_)
                refine lv_iload_n hx hb dX8_readWord_42 rfl (lv_at hl 4 rfl) ?_
                refine lv_iload hx hb dX8_readWord_43 (lv_at hl 0 rfl) ?_
                refine lv_ior hx hb dX8_readWord_45 ?_
                refine lv_istore_n (lv' := [(3, .int (x_18 ||| r_23)), (5, .int r_23), (0, .ref o), (1, .int v_o_at), (2, .int x_17), (4, .int x_19)]) hx hb dX8_readWord_46 rfl hl (by decide) rfl (fun ls hl => ?_)
                refine lv_iload hx hb dX8_readWord_47 (lv_at hl 1 rfl) ?_
                refine lv_if_eq (tgt := 76) hx hb dX8_readWord_49 (by decide) (fun c_24 => ?_) (fun c_24 => ?_)
                · replace hm := it hm c_24
                  refine lv_iload_n hx hb dX8_readWord_76 rfl (lv_at hl 4 rfl) ?_
                  refine lv_istore_n (lv' := [(2, .int x_17), (3, .int (x_18 ||| r_23)), (5, .int r_23), (0, .ref o), (1, .int v_o_at), (4, .int x_19)]) hx hb dX8_readWord_77 rfl hl (by decide) rfl (fun ls hl => ?_)
                  refine lv_iinc (v := x_19 + (1 : Int32)) (lv' := [(4, .int (x_19 + (1 : Int32))), (2, .int x_17), (3, .int (x_18 ||| r_23)), (5, .int r_23), (0, .ref o), (1, .int v_o_at)]) hx hb dX8_readWord_78 hl (k := 5) rfl rfl (by decide) rfl (fun ls hl => ?_)
                  refine lv_goto (tgt := 23) hx hb dX8_readWord_81 (by decide) ?_
                  exact ih23 x_17 (x_18 ||| r_23) (x_19 + (1 : Int32)) _ _ _ hm hP hD hS (lv_sub hl [4, 5, 1, 2, 0] rfl)
                · replace hm := ie hm c_24
                  refine lv_aload_n hx hb dX8_readWord_52 rfl (lv_at hl 2 rfl) ?_
                  refine va_get (D := G) (ci := 10) (v := .int v_6) (C := RX8) (T := TX8) (N := 15) hx hb hts i_X8 hown hK.1 hP 0 rfl rfl 12 (by decide) w_0 (fun _ h9 => h9) rfl dX8_readWord_53 ?_
                  refine lv_iload_n hx hb dX8_readWord_56 rfl (lv_at hl 3 rfl) ?_
                  refine lv_isub hx hb dX8_readWord_57 ?_
                  refine lv_iconst (v := (1 : Int32)) hx hb dX8_readWord_58 (by decide) ?_
                  refine lv_iadd hx hb dX8_readWord_59 ?_
                  refine lv_iload hx hb dX8_readWord_60 (lv_at hl 5 rfl) ?_
                  refine va_csr (va_Run.run (va_runS (As := [.int x_19]) (rest := [.int ((v_6 - v_o_at) + (1 : Int32))]) ⟨hx, hb, hml, hown, hts⟩ (c_X8_word l z G cA x_19 _ rfl (bnz hm hz)) (va_cwS 1 hts gX8_readWord_X8_word rfl rfl rfl (by decide +kernel) ⟨Nat.le_of_ble_eq_true rfl, Nat.le_of_ble_eq_true rfl⟩) (preRSo (hP.sub [] rfl) hK hT hO hS) rfl rfl hl.1 rfl (lv_room (Nat.le_of_ble_eq_true rfl)) dX8_readWord_62 ⟨Nat.zero_le _, Nat.zero_le _⟩)) (fun t_25 hw => ?_)
                  replace hm := bst hm hw
                  replace hm := gdo hm hz
                  obtain ⟨hs_26, hm⟩ := hm
                  replace hs_26 := of_decide_eq_true hs_26
                  refine vp_callSi (va_Run.run (va_runV (As := []) (rest := [.int ((v_6 - v_o_at) + (1 : Int32))]) ⟨hx, hb, hml, hown, hts⟩ (c_strlen l (z (12 + t_25)) (z (18 + t_25)) (lenS.getD t_25 0) (fun j => (bytS.getD t_25 []).getD j 0)) (cwV 0 hts gX8_readWord_J0_length_8abf5 rfl rfl rfl (by decide +kernel) ⟨Nat.le_of_ble_eq_true rfl, Nat.le_of_ble_eq_true rfl⟩) ⟨blSZ, va_Orecv ((hO.2.1.1 t_25 hs_26).1) hS, fun U hU hW => ⟨rfl, SZ.of8 hO hS hU hW.alike t_25 hs_26⟩⟩ rfl rfl hl.1 rfl (lv_room (Nat.le_of_ble_eq_true rfl)) dX8_readWord_65 ⟨Nat.zero_le _, Nat.zero_le _⟩)) (fun r_27 hw => ?_)
                  replace hm := nmo hm hw
                  refine lv_icmp_ne (tgt := 76) hx hb dX8_readWord_68 (by decide) (fun c_28 => ?_) (fun c_28 => ?_)
                  · replace hm := ie hm c_28
                    refine lv_iload_n hx hb dX8_readWord_76 rfl (lv_at hl 4 rfl) ?_
                    refine lv_istore_n (lv' := [(2, .int x_17), (3, .int (x_18 ||| r_23)), (5, .int r_23), (0, .ref o), (1, .int v_o_at), (4, .int x_19)]) hx hb dX8_readWord_77 rfl hl (by decide) rfl (fun ls hl => ?_)
                    refine lv_iinc (v := x_19 + (1 : Int32)) (lv' := [(4, .int (x_19 + (1 : Int32))), (2, .int x_17), (3, .int (x_18 ||| r_23)), (5, .int r_23), (0, .ref o), (1, .int v_o_at)]) hx hb dX8_readWord_78 hl (k := 5) rfl rfl (by decide) rfl (fun ls hl => ?_)
                    refine lv_goto (tgt := 23) hx hb dX8_readWord_81 (by decide) ?_
                    exact ih23 x_17 (x_18 ||| r_23) (x_19 + (1 : Int32)) _ _ _ hm hP hD hS (lv_sub hl [4, 5, 1, 2, 0] rfl)
                  · replace hm := it hm c_28
                    refine lv_iload hx hb dX8_readWord_71 (lv_at hl 5 rfl) ?_
                    refine lv_goto (tgt := 77) hx hb dX8_readWord_73 (by decide) ?_
                    refine lv_istore_n (lv' := [(2, .int x_19), (3, .int (x_18 ||| r_23)), (5, .int r_23), (0, .ref o), (1, .int v_o_at), (4, .int x_19)]) hx hb dX8_readWord_77 rfl hl (by decide) rfl (fun ls hl => ?_)
                    refine lv_iinc (v := x_19 + (1 : Int32)) (lv' := [(4, .int (x_19 + (1 : Int32))), (2, .int x_19), (3, .int (x_18 ||| r_23)), (5, .int r_23), (0, .ref o), (1, .int v_o_at)]) hx hb dX8_readWord_78 hl (k := 5) rfl rfl (by decide) rfl (fun ls hl => ?_)
                    refine lv_goto (tgt := 23) hx hb dX8_readWord_81 (by decide) ?_
                    exact ih23 x_19 (x_18 ||| r_23) (x_19 + (1 : Int32)) _ _ _ hm hP hD hS (lv_sub hl [4, 5, 1, 2, 0] rfl)
          exact L23_4 _ x_5 (0 : Int32) (0 : Int32) _ _ _ hm hP hD hS (lv_sub hl [2, 3, 4, 1, 0] rfl)
  exact L7_5 _ (-1 : Int32) v_o_at v_o_isWrong _ _ _ hm hP hD hS (lv_sub hl [2, 1, 0] rfl)
def m_X8_readCommand_J68 (r_1 : Int32) (g_6 : Nat → Int32) : (Int32 × Int32) → Option (Int32 × Int32 × Int32 × (Nat → Int32)) := fun v => match v with
  | (v_7, v_8) => (if v_8 = 0 then some (r_1, v_7, v_8, g_6) else some ((-1 : Int32), v_7, v_8, g_6))
def m_X8_readCommand_J55 (g_o_buffer : Nat → Int32) (v_o_length : Int32) (r_1 : Int32) : (Int32 × Int32 × (Nat → Int32)) → Option (Int32 × Int32 × Int32 × (Nat → Int32)) := fun v => match v with
  | (v_4, v_5, g_6) => (if v_5 = 0 then Option.bind (m_X8_must (59 : Int32) v_o_length v_4 v_5 g_o_buffer) (fun q => match q with
  | (v_11, v_12) => m_X8_readCommand_J68 r_1 g_6 (v_11, v_12)) else m_X8_readCommand_J68 r_1 g_6 (v_4, v_5))
def m_X8_readCommand_L7 (g_o_buffer : Nat → Int32) (v_o_length : Int32) (r_1 : Int32) : ((Int32 × Int32 × Int32 × (Nat → Int32)) → Option (Int32 × Int32 × Int32 × (Nat → Int32))) → (Int32 × Int32 × Int32 × (Nat → Int32)) → Option (Int32 × Int32 × Int32 × (Nat → Int32)) := fun rec_17 v => match v with
  | (x_13, v_14, v_15, g_16) => Option.bind (m_X8_countNumbers r_1) (fun r_18 => (if r_18 ≤ x_13 then m_X8_readCommand_J55 g_o_buffer v_o_length r_1 (v_14, v_15, g_16) else (if v_15 = 0 then Option.bind (m_X8_must (32 : Int32) v_o_length v_14 v_15 g_o_buffer) (fun q => match q with
  | (v_21, v_22) => (if v_22 = 0 then Option.bind (m_X8_readNumber v_o_length v_21 v_22 g_o_buffer) (fun q => match q with
  | (r_24, v_25, v_26) => gd (ix x_13 3) (rec_17 (x_13 + (1 : Int32), v_25, v_26, upd g_16 x_13.toNatClampNeg r_24))) else gd (ix x_13 3) (rec_17 (x_13 + (1 : Int32), v_21, v_22, upd g_16 x_13.toNatClampNeg (0 : Int32))))) else m_X8_readCommand_J55 g_o_buffer v_o_length r_1 (v_14, v_15, g_16))))
def m_X8_readCommand (v_o_length : Int32) (v_o_at : Int32) (v_o_isWrong : Int32) (g_o_buffer : Nat → Int32) (g_o_numbers : Nat → Int32) : Option (Int32 × Int32 × Int32 × (Nat → Int32)) := Option.bind (m_X8_readWord v_o_length v_o_at v_o_isWrong g_o_buffer) (fun q => match q with
  | (r_1, v_2, v_3) => fuel (m_X8_readCommand_L7 g_o_buffer v_o_length r_1) FU ((0 : Int32), v_2, v_3, g_o_numbers))
abbrev k_X8_readCommand (cA : Nat → ClassId) (o o_now o_saved o_aside o_history o_chains o_buffer o_numbers : Nat) (v_o_thrown : Int32) (v_o_kept : Int32) (v_o_reason : Int32) (v_o_errorPosition : Int32) (v_o_isSaved : Int32) (v_o_length : Int32) (v_o_at : Int32) (v_o_isWrong : Int32) (g_o_buffer : Nat → Int32) (g_o_numbers : Nat → Int32) : va_W := [(o, .inr (10, [.int v_o_thrown, .ref o_now, .ref o_saved, .ref o_aside, .ref o_history, .int v_o_kept, .int v_o_reason, .int v_o_errorPosition, .int v_o_isSaved, .ref o_chains, .ref o_buffer, .int v_o_length, .int v_o_at, .int v_o_isWrong, .ref o_numbers])), (o_buffer, .inl (cA 1, 80, .inl g_o_buffer)), (o_numbers, .inl (cA 0, 3, .inl g_o_numbers))]
set_option maxHeartbeats 4000000 in
set_option maxRecDepth 100000 in
/-- X8_readCommand: as its model -/
theorem c_X8_readCommand (l : Launch) (z : Nat → Nat) (G : va_G) (cA : Nat → ClassId) (o o_now o_saved o_aside o_history o_chains o_buffer o_numbers : Nat) (sz : Nat) (v_o_thrown : Int32) (v_o_kept : Int32) (v_o_reason : Int32) (v_o_errorPosition : Int32) (v_o_isSaved : Int32) (v_o_length : Int32) (v_o_at : Int32) (v_o_isWrong : Int32) (g_o_buffer : Nat → Int32) (g_o_numbers : Nat → Int32) (R : Option (Int32 × Int32 × Int32 × (Nat → Int32))) (hR : m_X8_readCommand v_o_length v_o_at v_o_isWrong g_o_buffer g_o_numbers = R) (hz : R ≠ none) : Met l yX8_readCommand wsX8_readCommand ({ frames := 6, cells := 0, slots := 0, locals := 134 } : Room) (va_Pc [.ref o] (PMo z G cA (k_X8_readCommand cA o o_now o_saved o_aside o_history o_chains o_buffer o_numbers v_o_thrown v_o_kept v_o_reason v_o_errorPosition v_o_isSaved v_o_length v_o_at v_o_isWrong g_o_buffer g_o_numbers) sz)) (va_Qi (fun (r : Int32) (u : Int32 × Int32 × (Nat → Int32)) => R = some (r, u)) (BM G (fun (u : Int32 × Int32 × (Nat → Int32)) => (k_X8_readCommand cA o o_now o_saved o_aside o_history o_chains o_buffer o_numbers v_o_thrown v_o_kept v_o_reason v_o_errorPosition v_o_isSaved v_o_length u.1 u.2.1 g_o_buffer u.2.2))) (va_A (k_X8_readCommand cA o o_now o_saved o_aside o_history o_chains o_buffer o_numbers v_o_thrown v_o_kept v_o_reason v_o_errorPosition v_o_isSaved v_o_length v_o_at v_o_isWrong g_o_buffer g_o_numbers) sz)) 0 0 (va_A (k_X8_readCommand cA o o_now o_saved o_aside o_history o_chains o_buffer o_numbers v_o_thrown v_o_kept v_o_reason v_o_errorPosition v_o_isSaved v_o_length v_o_at v_o_isWrong g_o_buffer g_o_numbers) sz) := by
  refine metMo .int (by decide) rfl (Nat.le_of_ble_eq_true rfl) ?_
  intro p e s m av below meth c Q ls A H hx hb hml hts hown hP hK hT hO hD hA hS hl hret
  replace hl : lv_has ls 3 [(0, .ref o)] := hl
  have w_0 := hts (.fieldLink RX8 240 "ParcelRegistryModel" "isWrong" "Z") (by decide +kernel)
  have w_1 := hts (.fieldLink RX8 35 "ParcelRegistryModel" "numbers" "[I") (by decide +kernel)
  have i_X8 : ∀ w ∈ wsX80, w ∈ wsX8_readCommand := by decide +kernel
  have hm := hR
  unfold m_X8_readCommand at hm
  refine lv_aload_n hx hb dX8_readCommand_0 rfl (lv_at hl 0 rfl) ?_
  have hPc := hP.sub (ws' := (k_X8_readWord cA o o_now o_saved o_aside o_history o_chains o_buffer o_numbers v_o_thrown v_o_kept v_o_reason v_o_errorPosition v_o_isSaved v_o_length v_o_at v_o_isWrong g_o_buffer)) [0, 1] rfl
  have hDc := hD.sub (ws' := (k_X8_readWord cA o o_now o_saved o_aside o_history o_chains o_buffer o_numbers v_o_thrown v_o_kept v_o_reason v_o_errorPosition v_o_isSaved v_o_length v_o_at v_o_isWrong g_o_buffer)) [0, 1] (by decide) rfl
  have hFc := va_free (wc := (k_X8_readWord cA o o_now o_saved o_aside o_history o_chains o_buffer o_numbers v_o_thrown v_o_kept v_o_reason v_o_errorPosition v_o_isSaved v_o_length v_o_at v_o_isWrong g_o_buffer)) hD hS hA [0, 1] rfl
  refine va_calli (va_runV (As := []) (rest := []) ⟨hx, hb, hml, hown, hts⟩ (c_X8_readWord l z G cA o o_now o_saved o_aside o_history o_chains o_buffer o_numbers H.size v_o_thrown v_o_kept v_o_reason v_o_errorPosition v_o_isSaved v_o_length v_o_at v_o_isWrong g_o_buffer _ rfl (bnz hm hz)) (cwV 0 hts gX8_readCommand_X8_readWord rfl rfl rfl (by decide +kernel) ⟨Nat.le_of_ble_eq_true rfl, Nat.le_of_ble_eq_true rfl⟩) (preMVo (q := (RX8, TX8, 15)) hPc hDc hK hT hO hS hFc 0 rfl rfl) rfl rfl hl.1 rfl (lv_room (Nat.le_of_ble_eq_true rfl)) dX8_readCommand_1 ⟨Nat.zero_le _, Nat.zero_le _⟩) hS (fun q _ h => hFc q h) hFc (fun r_1 u_3 t H locs ht hvm hw hB hz1 hk1 hS' => ?_)
  obtain ⟨v_2, v_3⟩ := u_3
  replace hm := bst hm hw
  replace hB : va_P G vwCl _ _ := hB
  rw [ht] at hB
  have hj := va_back (ws' := (k_X8_readCommand cA o o_now o_saved o_aside o_history o_chains o_buffer o_numbers v_o_thrown v_o_kept v_o_reason v_o_errorPosition v_o_isSaved v_o_length v_2 v_3 g_o_buffer g_o_numbers)) hP hD [0, 1] rfl hk1 hB [(true, 0), (true, 1), (false, 2)] rfl (by decide) rfl
  replace hP : va_P G vwCl (k_X8_readCommand cA o o_now o_saved o_aside o_history o_chains o_buffer o_numbers v_o_thrown v_o_kept v_o_reason v_o_errorPosition v_o_isSaved v_o_length v_2 v_3 g_o_buffer g_o_numbers) H := hj.1
  replace hD : va_D A (k_X8_readCommand cA o o_now o_saved o_aside o_history o_chains o_buffer o_numbers v_o_thrown v_o_kept v_o_reason v_o_errorPosition v_o_isSaved v_o_length v_2 v_3 g_o_buffer g_o_numbers) := hj.2
  replace hS := hS'
  clear hj hPc hDc hFc hB
  refine lv_istore_n (lv' := [(1, .int r_1), (0, .ref o)]) hx hb dX8_readCommand_4 rfl hl (by decide) rfl (fun ls hl => ?_)
  refine lv_iconst (v := (0 : Int32)) hx hb dX8_readCommand_5 (by decide) ?_
  refine lv_istore_n (lv' := [(2, .int (0 : Int32)), (1, .int r_1), (0, .ref o)]) hx hb dX8_readCommand_6 rfl hl (by decide) rfl (fun ls hl => ?_)
  have J55_2 : ∀ (v_4 : Int32) (v_5 : Int32) (g_6 : Nat → Int32), ∀ (H : Heap) (locs : List Loc) (ls : Array Slot), m_X8_readCommand_J55 g_o_buffer v_o_length r_1 (v_4, v_5, g_6) = R → va_P G vwCl (k_X8_readCommand cA o o_now o_saved o_aside o_history o_chains o_buffer o_numbers v_o_thrown v_o_kept v_o_reason v_o_errorPosition v_o_isSaved v_o_length v_4 v_5 g_o_buffer g_6) H → va_D A (k_X8_readCommand cA o o_now o_saved o_aside o_history o_chains o_buffer o_numbers v_o_thrown v_o_kept v_o_reason v_o_errorPosition v_o_isSaved v_o_length v_4 v_5 g_o_buffer g_6) → va_S A s.heap H locs → lv_has ls 3 [(0, .ref o), (1, .int r_1)] → W p l e ({ frames := 6, cells := 0, slots := 0, locals := 134 } : Room) s m av below meth c H locs 0 0 Q (F0 m 55 ls []) := by
    intro v_4 v_5 g_6 H locs ls hm hP hD hS hl
    unfold m_X8_readCommand_J55 at hm
    refine lv_aload_n hx hb dX8_readCommand_55 rfl (lv_at hl 0 rfl) ?_
    refine va_get (D := G) (ci := 10) (v := .int v_5) (C := RX8) (T := TX8) (N := 15) hx hb hts i_X8 hown hK.1 hP 0 rfl rfl 13 (by decide) w_0 (fun _ h9 => h9) rfl dX8_readCommand_56 ?_
    have J68_1 : ∀ (v_7 : Int32) (v_8 : Int32), ∀ (H : Heap) (locs : List Loc) (ls : Array Slot), m_X8_readCommand_J68 r_1 g_6 (v_7, v_8) = R → va_P G vwCl (k_X8_readCommand cA o o_now o_saved o_aside o_history o_chains o_buffer o_numbers v_o_thrown v_o_kept v_o_reason v_o_errorPosition v_o_isSaved v_o_length v_7 v_8 g_o_buffer g_6) H → va_D A (k_X8_readCommand cA o o_now o_saved o_aside o_history o_chains o_buffer o_numbers v_o_thrown v_o_kept v_o_reason v_o_errorPosition v_o_isSaved v_o_length v_7 v_8 g_o_buffer g_6) → va_S A s.heap H locs → lv_has ls 3 [(0, .ref o), (1, .int r_1)] → W p l e ({ frames := 6, cells := 0, slots := 0, locals := 134 } : Room) s m av below meth c H locs 0 0 Q (F0 m 68 ls []) := by
      intro v_7 v_8 H locs ls hm hP hD hS hl
      unfold m_X8_readCommand_J68 at hm
      refine lv_aload_n hx hb dX8_readCommand_68 rfl (lv_at hl 0 rfl) ?_
      refine va_get (D := G) (ci := 10) (v := .int v_8) (C := RX8) (T := TX8) (N := 15) hx hb hts i_X8 hown hK.1 hP 0 rfl rfl 13 (by decide) w_0 (fun _ h9 => h9) rfl dX8_readCommand_69 ?_
      refine lv_if_eq (tgt := 79) hx hb dX8_readCommand_72 (by decide) (fun c_9 => ?_) (fun c_9 => ?_)
      · replace hm := it hm c_9
        refine lv_iload_n hx hb dX8_readCommand_79 rfl (lv_at hl 1 rfl) ?_
        exact hret _ _ _ (v_7, v_8, g_6) _ _ dX8_readCommand_80 rfl hP hS hm.symm
      · replace hm := ie hm c_9
        refine lv_iconst (v := (-1 : Int32)) hx hb dX8_readCommand_75 (by decide) ?_
        refine lv_goto (tgt := 80) hx hb dX8_readCommand_76 (by decide) ?_
        exact hret _ _ _ (v_7, v_8, g_6) _ _ dX8_readCommand_80 rfl hP hS hm.symm
    refine lv_if_ne (tgt := 68) hx hb dX8_readCommand_59 (by decide) (fun c_10 => ?_) (fun c_10 => ?_)
    · replace hm := ie hm c_10
      exact J68_1 v_4 v_5 _ _ _ hm hP hD hS (lv_sub hl [0, 1] rfl)
    · replace hm := it hm c_10
      refine lv_aload_n hx hb dX8_readCommand_62 rfl (lv_at hl 0 rfl) ?_
      refine lv_bipush (v := (59 : Int32)) hx hb dX8_readCommand_63 (by decide) ?_
      have hPc := hP.sub (ws' := (k_X8_must cA o o_now o_saved o_aside o_history o_chains o_buffer o_numbers v_o_thrown v_o_kept v_o_reason v_o_errorPosition v_o_isSaved v_o_length v_4 v_5 g_o_buffer)) [0, 1] rfl
      have hDc := hD.sub (ws' := (k_X8_must cA o o_now o_saved o_aside o_history o_chains o_buffer o_numbers v_o_thrown v_o_kept v_o_reason v_o_errorPosition v_o_isSaved v_o_length v_4 v_5 g_o_buffer)) [0, 1] (by decide) rfl
      have hFc := va_free (wc := (k_X8_must cA o o_now o_saved o_aside o_history o_chains o_buffer o_numbers v_o_thrown v_o_kept v_o_reason v_o_errorPosition v_o_isSaved v_o_length v_4 v_5 g_o_buffer)) hD hS hA [0, 1] rfl
      refine va_callv (va_runV (As := [.int (59 : Int32)]) (rest := []) ⟨hx, hb, hml, hown, hts⟩ (c_X8_must l G cA o o_now o_saved o_aside o_history o_chains o_buffer o_numbers H.size (59 : Int32) v_o_thrown v_o_kept v_o_reason v_o_errorPosition v_o_isSaved v_o_length v_4 v_5 g_o_buffer _ rfl (bnz hm hz)) (cwV 1 hts gX8_readCommand_X8_must rfl rfl rfl (by decide +kernel) ⟨Nat.le_of_ble_eq_true rfl, Nat.le_of_ble_eq_true rfl⟩) (preMV (q := (RX8, TX8, 15)) hPc hDc hK 0 rfl rfl) rfl rfl hl.1 rfl (lv_room (Nat.le_of_ble_eq_true rfl)) dX8_readCommand_65 ⟨Nat.zero_le _, Nat.zero_le _⟩) hS (fun q _ h => hFc q h) hFc (fun u_12 t H locs ht hvm hw hB hz1 hk1 hS' => ?_)
      obtain ⟨v_11, v_12⟩ := u_12
      replace hm := bst hm hw
      replace hB : va_P G vwCl _ _ := hB
      rw [ht] at hB
      have hj := va_back (ws' := (k_X8_readCommand cA o o_now o_saved o_aside o_history o_chains o_buffer o_numbers v_o_thrown v_o_kept v_o_reason v_o_errorPosition v_o_isSaved v_o_length v_11 v_12 g_o_buffer g_6)) hP hD [0, 1] rfl hk1 hB [(true, 0), (true, 1), (false, 2)] rfl (by decide) rfl
      replace hP : va_P G vwCl (k_X8_readCommand cA o o_now o_saved o_aside o_history o_chains o_buffer o_numbers v_o_thrown v_o_kept v_o_reason v_o_errorPosition v_o_isSaved v_o_length v_11 v_12 g_o_buffer g_6) H := hj.1
      replace hD : va_D A (k_X8_readCommand cA o o_now o_saved o_aside o_history o_chains o_buffer o_numbers v_o_thrown v_o_kept v_o_reason v_o_errorPosition v_o_isSaved v_o_length v_11 v_12 g_o_buffer g_6) := hj.2
      replace hS := hS'
      clear hj hPc hDc hFc hB
      exact J68_1 v_11 v_12 _ _ _ hm hP hD hS (lv_sub hl [0, 1] rfl)
  have L7_3 : ∀ (n : Nat), ∀ (x_13 : Int32) (v_14 : Int32) (v_15 : Int32) (g_16 : Nat → Int32), ∀ (H : Heap) (locs : List Loc) (ls : Array Slot), fuel (m_X8_readCommand_L7 g_o_buffer v_o_length r_1) n (x_13, v_14, v_15, g_16) = R → va_P G vwCl (k_X8_readCommand cA o o_now o_saved o_aside o_history o_chains o_buffer o_numbers v_o_thrown v_o_kept v_o_reason v_o_errorPosition v_o_isSaved v_o_length v_14 v_15 g_o_buffer g_16) H → va_D A (k_X8_readCommand cA o o_now o_saved o_aside o_history o_chains o_buffer o_numbers v_o_thrown v_o_kept v_o_reason v_o_errorPosition v_o_isSaved v_o_length v_14 v_15 g_o_buffer g_16) → va_S A s.heap H locs → lv_has ls 3 [(0, .ref o), (1, .int r_1), (2, .int x_13)] → W p l e ({ frames := 6, cells := 0, slots := 0, locals := 134 } : Room) s m av below meth c H locs 0 0 Q (F0 m 7 ls []) := by
    intro n
    induction n with
    | zero =>
      intro x_13 v_14 v_15 g_16 H locs ls hm hP hD hS hl
      exact (fu0 hm hz).elim
    | succ n ih7 =>
      intro x_13 v_14 v_15 g_16 H locs ls hm hP hD hS hl
      replace hm := fus hm
      generalize fuel (m_X8_readCommand_L7 g_o_buffer v_o_length r_1) n = rec_17 at hm ih7
      unfold m_X8_readCommand_L7 at hm
      refine lv_iload_n hx hb dX8_readCommand_7 rfl (lv_at hl 2 rfl) ?_
      refine lv_iload_n hx hb dX8_readCommand_8 rfl (lv_at hl 1 rfl) ?_
      refine vp_callSi (va_Run.run (va_runS (As := [.int r_1]) (rest := [.int x_13]) ⟨hx, hb, hml, hown, hts⟩ (c_X8_countNumbers l G cA r_1 _ rfl (bnz hm hz)) (va_cwS 1 hts gX8_readCommand_X8_countNumbers rfl rfl rfl (by decide +kernel) ⟨Nat.le_of_ble_eq_true rfl, Nat.le_of_ble_eq_true rfl⟩) (preRS (hP.sub [] rfl) hK) rfl rfl hl.1 rfl (lv_room (Nat.le_of_ble_eq_true rfl)) dX8_readCommand_9 ⟨Nat.zero_le _, Nat.zero_le _⟩)) (fun r_18 hw => ?_)
      replace hm := bst hm hw
      refine lv_icmp_ge (tgt := 55) hx hb dX8_readCommand_12 (by decide) (fun c_19 => ?_) (fun c_19 => ?_)
      · replace hm := it hm c_19
        exact J55_2 v_14 v_15 g_16 _ _ _ hm hP hD hS (lv_sub hl [0, 1] rfl)
      · replace hm := ie hm c_19
        refine lv_aload_n hx hb dX8_readCommand_15 rfl (lv_at hl 0 rfl) ?_
        refine va_get (D := G) (ci := 10) (v := .int v_15) (C := RX8) (T := TX8) (N := 15) hx hb hts i_X8 hown hK.1 hP 0 rfl rfl 13 (by decide) w_0 (fun _ h9 => h9) rfl dX8_readCommand_16 ?_
        refine lv_if_ne (tgt := 55) hx hb dX8_readCommand_19 (by decide) (fun c_20 => ?_) (fun c_20 => ?_)
        · replace hm := ie hm c_20
          exact J55_2 v_14 v_15 g_16 _ _ _ hm hP hD hS (lv_sub hl [0, 1] rfl)
        · replace hm := it hm c_20
          refine lv_aload_n hx hb dX8_readCommand_22 rfl (lv_at hl 0 rfl) ?_
          refine lv_bipush (v := (32 : Int32)) hx hb dX8_readCommand_23 (by decide) ?_
          have hPc := hP.sub (ws' := (k_X8_must cA o o_now o_saved o_aside o_history o_chains o_buffer o_numbers v_o_thrown v_o_kept v_o_reason v_o_errorPosition v_o_isSaved v_o_length v_14 v_15 g_o_buffer)) [0, 1] rfl
          have hDc := hD.sub (ws' := (k_X8_must cA o o_now o_saved o_aside o_history o_chains o_buffer o_numbers v_o_thrown v_o_kept v_o_reason v_o_errorPosition v_o_isSaved v_o_length v_14 v_15 g_o_buffer)) [0, 1] (by decide) rfl
          have hFc := va_free (wc := (k_X8_must cA o o_now o_saved o_aside o_history o_chains o_buffer o_numbers v_o_thrown v_o_kept v_o_reason v_o_errorPosition v_o_isSaved v_o_length v_14 v_15 g_o_buffer)) hD hS hA [0, 1] rfl
          refine va_callv (va_runV (As := [.int (32 : Int32)]) (rest := []) ⟨hx, hb, hml, hown, hts⟩ (c_X8_must l G cA o o_now o_saved o_aside o_history o_chains o_buffer o_numbers H.size (32 : Int32) v_o_thrown v_o_kept v_o_reason v_o_errorPosition v_o_isSaved v_o_length v_14 v_15 g_o_buffer _ rfl (bnz hm hz)) (cwV 1 hts gX8_readCommand_X8_must rfl rfl rfl (by decide +kernel) ⟨Nat.le_of_ble_eq_true rfl, Nat.le_of_ble_eq_true rfl⟩) (preMV (q := (RX8, TX8, 15)) hPc hDc hK 0 rfl rfl) rfl rfl hl.1 rfl (lv_room (Nat.le_of_ble_eq_true rfl)) dX8_readCommand_25 ⟨Nat.zero_le _, Nat.zero_le _⟩) hS (fun q _ h => hFc q h) hFc (fun u_22 t H locs ht hvm hw hB hz1 hk1 hS' => ?_)
          obtain ⟨v_21, v_22⟩ := u_22
          replace hm := bst hm hw
          replace hB : va_P G vwCl _ _ := hB
          rw [ht] at hB
          have hj := va_back (ws' := (k_X8_readCommand cA o o_now o_saved o_aside o_history o_chains o_buffer o_numbers v_o_thrown v_o_kept v_o_reason v_o_errorPosition v_o_isSaved v_o_length v_21 v_22 g_o_buffer g_16)) hP hD [0, 1] rfl hk1 hB [(true, 0), (true, 1), (false, 2)] rfl (by decide) rfl
          replace hP : va_P G vwCl (k_X8_readCommand cA o o_now o_saved o_aside o_history o_chains o_buffer o_numbers v_o_thrown v_o_kept v_o_reason v_o_errorPosition v_o_isSaved v_o_length v_21 v_22 g_o_buffer g_16) H := hj.1
          replace hD : va_D A (k_X8_readCommand cA o o_now o_saved o_aside o_history o_chains o_buffer o_numbers v_o_thrown v_o_kept v_o_reason v_o_errorPosition v_o_isSaved v_o_length v_21 v_22 g_o_buffer g_16) := hj.2
          replace hS := hS'
          clear hj hPc hDc hFc hB
          refine lv_aload_n hx hb dX8_readCommand_28 rfl (lv_at hl 0 rfl) ?_
          refine va_get (D := G) (ci := 10) (v := .ref o_numbers) (C := RX8) (T := TX8) (N := 15) hx hb hts i_X8 hown hK.1 hP 0 rfl rfl 14 (by decide) w_1 (fun _ h9 => h9) rfl dX8_readCommand_29 ?_
          refine lv_iload_n hx hb dX8_readCommand_32 rfl (lv_at hl 2 rfl) ?_
          refine lv_aload_n hx hb dX8_readCommand_33 rfl (lv_at hl 0 rfl) ?_
          refine va_get (D := G) (ci := 10) (v := .int v_22) (C := RX8) (T := TX8) (N := 15) hx hb hts i_X8 hown hK.1 hP 0 rfl rfl 13 (by decide) w_0 (fun _ h9 => h9) rfl dX8_readCommand_34 ?_
          refine lv_if_eq (tgt := 44) hx hb dX8_readCommand_37 (by decide) (fun c_23 => ?_) (fun c_23 => ?_)
          · replace hm := it hm c_23
            refine lv_aload_n hx hb dX8_readCommand_44 rfl (lv_at hl 0 rfl) ?_
            have hPc := hP.sub (ws' := (k_X8_readNumber cA o o_now o_saved o_aside o_history o_chains o_buffer o_numbers v_o_thrown v_o_kept v_o_reason v_o_errorPosition v_o_isSaved v_o_length v_21 v_22 g_o_buffer)) [0, 1] rfl
            have hDc := hD.sub (ws' := (k_X8_readNumber cA o o_now o_saved o_aside o_history o_chains o_buffer o_numbers v_o_thrown v_o_kept v_o_reason v_o_errorPosition v_o_isSaved v_o_length v_21 v_22 g_o_buffer)) [0, 1] (by decide) rfl
            have hFc := va_free (wc := (k_X8_readNumber cA o o_now o_saved o_aside o_history o_chains o_buffer o_numbers v_o_thrown v_o_kept v_o_reason v_o_errorPosition v_o_isSaved v_o_length v_21 v_22 g_o_buffer)) hD hS hA [0, 1] rfl
            refine va_calli (va_runV (As := []) (rest := [.int x_13, .ref o_numbers]) ⟨hx, hb, hml, hown, hts⟩ (c_X8_readNumber l G cA o o_now o_saved o_aside o_history o_chains o_buffer o_numbers H.size v_o_thrown v_o_kept v_o_reason v_o_errorPosition v_o_isSaved v_o_length v_21 v_22 g_o_buffer _ rfl (bnz hm hz)) (cwV 0 hts gX8_readCommand_X8_readNumber rfl rfl rfl (by decide +kernel) ⟨Nat.le_of_ble_eq_true rfl, Nat.le_of_ble_eq_true rfl⟩) (preMV (q := (RX8, TX8, 15)) hPc hDc hK 0 rfl rfl) rfl rfl hl.1 rfl (lv_room (Nat.le_of_ble_eq_true rfl)) dX8_readCommand_45 ⟨Nat.zero_le _, Nat.zero_le _⟩) hS (fun q _ h => hFc q h) hFc (fun r_24 u_26 t H locs ht hvm hw hB hz1 hk1 hS' => ?_)
            obtain ⟨v_25, v_26⟩ := u_26
            replace hm := bst hm hw
            replace hB : va_P G vwCl _ _ := hB
            rw [ht] at hB
            have hj := va_back (ws' := (k_X8_readCommand cA o o_now o_saved o_aside o_history o_chains o_buffer o_numbers v_o_thrown v_o_kept v_o_reason v_o_errorPosition v_o_isSaved v_o_length v_25 v_26 g_o_buffer g_16)) hP hD [0, 1] rfl hk1 hB [(true, 0), (true, 1), (false, 2)] rfl (by decide) rfl
            replace hP : va_P G vwCl (k_X8_readCommand cA o o_now o_saved o_aside o_history o_chains o_buffer o_numbers v_o_thrown v_o_kept v_o_reason v_o_errorPosition v_o_isSaved v_o_length v_25 v_26 g_o_buffer g_16) H := hj.1
            replace hD : va_D A (k_X8_readCommand cA o o_now o_saved o_aside o_history o_chains o_buffer o_numbers v_o_thrown v_o_kept v_o_reason v_o_errorPosition v_o_isSaved v_o_length v_25 v_26 g_o_buffer g_16) := hj.2
            replace hS := hS'
            clear hj hPc hDc hFc hB
            replace hm := gdo hm hz
            obtain ⟨gi_27, hm⟩ := hm
            refine va_iast hx hb hK.1 hP hD hS 2 0 (cA := cA 0) (n := 3) (f := g_16) rfl rfl (ixi gi_27) dX8_readCommand_48 (fun H locs hP' hD' hS' => ?_)
            replace hP : va_P G vwCl (k_X8_readCommand cA o o_now o_saved o_aside o_history o_chains o_buffer o_numbers v_o_thrown v_o_kept v_o_reason v_o_errorPosition v_o_isSaved v_o_length v_25 v_26 g_o_buffer (upd g_16 x_13.toNatClampNeg r_24)) H := hP'
            replace hD : va_D A (k_X8_readCommand cA o o_now o_saved o_aside o_history o_chains o_buffer o_numbers v_o_thrown v_o_kept v_o_reason v_o_errorPosition v_o_isSaved v_o_length v_25 v_26 g_o_buffer (upd g_16 x_13.toNatClampNeg r_24)) := hD'
            replace hS := hS'
            refine lv_iinc (v := x_13 + (1 : Int32)) (lv' := [(2, .int (x_13 + (1 : Int32))), (0, .ref o), (1, .int r_1)]) hx hb dX8_readCommand_49 hl (k := 2) rfl rfl (by decide) rfl (fun ls hl => ?_)
            refine lv_goto (tgt := 7) hx hb dX8_readCommand_52 (by decide) ?_
            exact ih7 (x_13 + (1 : Int32)) v_25 v_26 (upd g_16 x_13.toNatClampNeg r_24) _ _ _ hm hP hD hS (lv_sub hl [1, 2, 0] rfl)
          · replace hm := ie hm c_23
            refine lv_iconst (v := (0 : Int32)) hx hb dX8_readCommand_40 (by decide) ?_
            refine lv_goto (tgt := 48) hx hb dX8_readCommand_41 (by decide) ?_
            replace hm := gdo hm hz
            obtain ⟨gi_28, hm⟩ := hm
            refine va_iast hx hb hK.1 hP hD hS 2 0 (cA := cA 0) (n := 3) (f := g_16) rfl rfl (ixi gi_28) dX8_readCommand_48 (fun H locs hP' hD' hS' => ?_)
            replace hP : va_P G vwCl (k_X8_readCommand cA o o_now o_saved o_aside o_history o_chains o_buffer o_numbers v_o_thrown v_o_kept v_o_reason v_o_errorPosition v_o_isSaved v_o_length v_21 v_22 g_o_buffer (upd g_16 x_13.toNatClampNeg (0 : Int32))) H := hP'
            replace hD : va_D A (k_X8_readCommand cA o o_now o_saved o_aside o_history o_chains o_buffer o_numbers v_o_thrown v_o_kept v_o_reason v_o_errorPosition v_o_isSaved v_o_length v_21 v_22 g_o_buffer (upd g_16 x_13.toNatClampNeg (0 : Int32))) := hD'
            replace hS := hS'
            refine lv_iinc (v := x_13 + (1 : Int32)) (lv' := [(2, .int (x_13 + (1 : Int32))), (0, .ref o), (1, .int r_1)]) hx hb dX8_readCommand_49 hl (k := 2) rfl rfl (by decide) rfl (fun ls hl => ?_)
            refine lv_goto (tgt := 7) hx hb dX8_readCommand_52 (by decide) ?_
            exact ih7 (x_13 + (1 : Int32)) v_21 v_22 (upd g_16 x_13.toNatClampNeg (0 : Int32)) _ _ _ hm hP hD hS (lv_sub hl [1, 2, 0] rfl)
  exact L7_3 _ (0 : Int32) v_2 v_3 g_o_numbers _ _ _ hm hP hD hS (lv_sub hl [2, 1, 0] rfl)
def m_X8_read_J135 (gW : Nat → Nat → Int32) (v_o_kept : Int32) (v_o_errorPosition : Int32) (x_1 : Int32) (g_6 : Nat → Int32) (v_8 : Int32) (v_9 : Int32) (v_10 : Int32) (g_11 : Nat → Int32) (g_12 : Nat → Int32) : (Int32) → Option (Int32 × Int32 × Int32 × Int32 × Int32 × Int32 × Int32 × Int32 × (Nat → Int32) × (Nat → Int32) × (Nat → Int32) × (Nat → Nat → Int32)) := fun y_13 => Option.bind (m_X8_fails (2 : Int32) y_13) (fun q => match q with
  | (r_14, v_15) => (if r_14 = 0 then Option.bind (m_X8_remember v_o_kept g_6 gW) (fun q => match q with
  | (v_17, h_18) => some (x_1, v_15, v_17, v_8, v_o_errorPosition, (0 : Int32), v_9, v_10, g_11, g_6, g_12, h_18)) else Option.bind (m_X8_copyRow g_6 g_11) (fun g_19 => some ((0 : Int32), v_15, v_o_kept, v_8, v_o_errorPosition, (0 : Int32), v_9, v_10, g_19, g_6, g_12, gW))))
def m_X8_read_J119 (gW : Nat → Nat → Int32) (v_o_kept : Int32) (v_o_errorPosition : Int32) (x_1 : Int32) (g_6 : Nat → Int32) : (Int32 × Int32 × Int32 × Int32 × (Nat → Int32) × (Nat → Int32)) → Option (Int32 × Int32 × Int32 × Int32 × Int32 × Int32 × Int32 × Int32 × (Nat → Int32) × (Nat → Int32) × (Nat → Int32) × (Nat → Nat → Int32)) := fun v => match v with
  | (x_7, v_8, v_9, v_10, g_11, g_12) => (if x_7 = 0 then m_X8_read_J135 gW v_o_kept v_o_errorPosition x_1 g_6 v_8 v_9 v_10 g_11 g_12 (1 : Int32) else m_X8_read_J135 gW v_o_kept v_o_errorPosition x_1 g_6 v_8 v_9 v_10 g_11 g_12 (0 : Int32))
def m_X8_read_L92 (gW : Nat → Nat → Int32) (v_o_kept : Int32) (v_o_errorPosition : Int32) (g_o_buffer : Nat → Int32) (v_o_length : Int32) (x_1 : Int32) (g_6 : Nat → Int32) : ((Int32 × Int32 × Int32 × Int32 × (Nat → Int32) × (Nat → Int32)) → Option (Int32 × Int32 × Int32 × Int32 × Int32 × Int32 × Int32 × Int32 × (Nat → Int32) × (Nat → Int32) × (Nat → Int32) × (Nat → Nat → Int32))) → (Int32 × Int32 × Int32 × Int32 × (Nat → Int32) × (Nat → Int32)) → Option (Int32 × Int32 × Int32 × Int32 × Int32 × Int32 × Int32 × Int32 × (Nat → Int32) × (Nat → Int32) × (Nat → Int32) × (Nat → Nat → Int32)) := fun rec_27 v => match v with
  | (x_21, v_22, v_23, v_24, g_25, g_26) => (if x_21 = 0 then m_X8_read_J119 gW v_o_kept v_o_errorPosition x_1 g_6 (x_21, v_22, v_23, v_24, g_25, g_26) else (if v_o_length ≤ v_23 then m_X8_read_J119 gW v_o_kept v_o_errorPosition x_1 g_6 (x_21, v_22, v_23, v_24, g_25, g_26) else Option.bind (m_X8_readCommand v_o_length v_23 v_24 g_o_buffer g_26) (fun q => match q with
  | (r_30, v_31, v_32, g_33) => Option.bind (m_X8_does r_30 v_22 g_25 g_33) (fun q => match q with
  | (r_34, v_35, g_36) => rec_27 (r_34, v_35, v_31, v_32, g_36, g_33)))))
def m_X8_read_J45 (g_o_now : Nat → Int32) (g_o_aside : Nat → Int32) (gW : Nat → Nat → Int32) (v_o_kept : Int32) (v_o_reason : Int32) (v_o_errorPosition : Int32) (g_o_buffer : Nat → Int32) (v_o_length : Int32) : (Int32 × Int32 × Int32 × (Nat → Int32)) → Option (Int32 × Int32 × Int32 × Int32 × Int32 × Int32 × Int32 × Int32 × (Nat → Int32) × (Nat → Int32) × (Nat → Int32) × (Nat → Nat → Int32)) := fun v => match v with
  | (x_1, v_2, v_3, g_4) => (if v_3 = 0 then Option.bind (m_X8_copyRow g_o_now g_o_aside) (fun g_6 => fuel (m_X8_read_L92 gW v_o_kept v_o_errorPosition g_o_buffer v_o_length x_1 g_6) FU ((1 : Int32), v_o_reason, (0 : Int32), v_3, g_o_now, g_4)) else Option.bind (m_X8_fails (1 : Int32) (1 : Int32)) (fun q => match q with
  | (r_37, v_38) => some ((0 : Int32), v_38, v_o_kept, v_o_reason, v_2, (0 : Int32), v_2, v_3, g_o_now, g_o_aside, g_4, gW)))
def m_X8_read_J34 (g_o_buffer : Nat → Int32) (v_o_length : Int32) (x_39 : Int32) (v_40 : Int32) (v_41 : Int32) (g_42 : Nat → Int32) (rec_43 : (Int32 × Int32 × Int32 × (Nat → Int32)) → Option (Int32 × Int32 × Int32 × Int32 × Int32 × Int32 × Int32 × Int32 × (Nat → Int32) × (Nat → Int32) × (Nat → Int32) × (Nat → Nat → Int32))) : (Unit) → Option (Int32 × Int32 × Int32 × Int32 × Int32 × Int32 × Int32 × Int32 × (Nat → Int32) × (Nat → Int32) × (Nat → Int32) × (Nat → Nat → Int32)) := fun _ => Option.bind (m_X8_readCommand v_o_length v_40 v_41 g_o_buffer g_42) (fun q => match q with
  | (r_45, v_46, v_47, g_48) => rec_43 (x_39 + (1 : Int32), v_46, v_47, g_48))
def m_X8_read_L12 (g_o_now : Nat → Int32) (g_o_aside : Nat → Int32) (gW : Nat → Nat → Int32) (v_o_kept : Int32) (v_o_reason : Int32) (v_o_errorPosition : Int32) (g_o_buffer : Nat → Int32) (v_o_length : Int32) : ((Int32 × Int32 × Int32 × (Nat → Int32)) → Option (Int32 × Int32 × Int32 × Int32 × Int32 × Int32 × Int32 × Int32 × (Nat → Int32) × (Nat → Int32) × (Nat → Int32) × (Nat → Nat → Int32))) → (Int32 × Int32 × Int32 × (Nat → Int32)) → Option (Int32 × Int32 × Int32 × Int32 × Int32 × Int32 × Int32 × Int32 × (Nat → Int32) × (Nat → Int32) × (Nat → Int32) × (Nat → Nat → Int32)) := fun rec_43 v => match v with
  | (x_39, v_40, v_41, g_42) => (if v_41 = 0 then (if x_39 = 0 then m_X8_read_J34 g_o_buffer v_o_length x_39 v_40 v_41 g_42 rec_43 () else (if v_o_length ≤ v_40 then m_X8_read_J45 g_o_now g_o_aside gW v_o_kept v_o_reason v_o_errorPosition g_o_buffer v_o_length (x_39, v_40, v_41, g_42) else m_X8_read_J34 g_o_buffer v_o_length x_39 v_40 v_41 g_42 rec_43 ())) else m_X8_read_J45 g_o_now g_o_aside gW v_o_kept v_o_reason v_o_errorPosition g_o_buffer v_o_length (x_39, v_40, v_41, g_42))
def m_X8_read (v_o_kept : Int32) (v_o_reason : Int32) (v_o_errorPosition : Int32) (v_o_length : Int32) (g_o_now : Nat → Int32) (g_o_aside : Nat → Int32) (g_o_buffer : Nat → Int32) (g_o_numbers : Nat → Int32) (gW : Nat → Nat → Int32) : Option (Int32 × Int32 × Int32 × Int32 × Int32 × Int32 × Int32 × Int32 × (Nat → Int32) × (Nat → Int32) × (Nat → Int32) × (Nat → Nat → Int32)) := fuel (m_X8_read_L12 g_o_now g_o_aside gW v_o_kept v_o_reason v_o_errorPosition g_o_buffer v_o_length) FU ((0 : Int32), (0 : Int32), (0 : Int32), g_o_numbers)
abbrev e_X8_read (cA : Nat → ClassId) (o o_now o_saved o_aside o_history o_chains o_buffer o_numbers : Nat) (v_o_thrown : Int32) (v_o_kept : Int32) (v_o_reason : Int32) (v_o_errorPosition : Int32) (v_o_isSaved : Int32) (v_o_length : Int32) (v_o_at : Int32) (v_o_isWrong : Int32) (g_o_now : Nat → Int32) (g_o_aside : Nat → Int32) (g_o_buffer : Nat → Int32) (g_o_numbers : Nat → Int32) (gA : Nat → Nat) : va_W := [(o, .inr (10, [.int v_o_thrown, .ref o_now, .ref o_saved, .ref o_aside, .ref o_history, .int v_o_kept, .int v_o_reason, .int v_o_errorPosition, .int v_o_isSaved, .ref o_chains, .ref o_buffer, .int v_o_length, .int v_o_at, .int v_o_isWrong, .ref o_numbers])), (o_now, .inl (cA 0, 621, .inl g_o_now)), (o_aside, .inl (cA 0, 621, .inl g_o_aside)), (o_history, .inl (cA 3, 6, .inr (.inr (.inr (.inr (fun j => some (gA j))))))), (o_buffer, .inl (cA 1, 80, .inl g_o_buffer)), (o_numbers, .inl (cA 0, 3, .inl g_o_numbers))]
abbrev k_X8_read (cA : Nat → ClassId) (o o_now o_saved o_aside o_history o_chains o_buffer o_numbers : Nat) (v_o_thrown : Int32) (v_o_kept : Int32) (v_o_reason : Int32) (v_o_errorPosition : Int32) (v_o_isSaved : Int32) (v_o_length : Int32) (v_o_at : Int32) (v_o_isWrong : Int32) (g_o_now : Nat → Int32) (g_o_aside : Nat → Int32) (g_o_buffer : Nat → Int32) (g_o_numbers : Nat → Int32) (gA : Nat → Nat) (gW : Nat → Nat → Int32) : va_W := e_X8_read cA o o_now o_saved o_aside o_history o_chains o_buffer o_numbers v_o_thrown v_o_kept v_o_reason v_o_errorPosition v_o_isSaved v_o_length v_o_at v_o_isWrong g_o_now g_o_aside g_o_buffer g_o_numbers gA ++ gblk cA gA gW
set_option maxHeartbeats 4000000 in
set_option maxRecDepth 100000 in
/-- X8_read: as its model -/
theorem c_X8_read (l : Launch) (z : Nat → Nat) (G : va_G) (cA : Nat → ClassId) (o o_now o_saved o_aside o_history o_chains o_buffer o_numbers : Nat) (sz : Nat) (v_o_thrown : Int32) (v_o_kept : Int32) (v_o_reason : Int32) (v_o_errorPosition : Int32) (v_o_isSaved : Int32) (v_o_length : Int32) (v_o_at : Int32) (v_o_isWrong : Int32) (g_o_now : Nat → Int32) (g_o_aside : Nat → Int32) (g_o_buffer : Nat → Int32) (g_o_numbers : Nat → Int32) (gA : Nat → Nat) (gW : Nat → Nat → Int32) (R : Option (Int32 × Int32 × Int32 × Int32 × Int32 × Int32 × Int32 × Int32 × (Nat → Int32) × (Nat → Int32) × (Nat → Int32) × (Nat → Nat → Int32))) (hR : m_X8_read v_o_kept v_o_reason v_o_errorPosition v_o_length g_o_now g_o_aside g_o_buffer g_o_numbers gW = R) (hz : R ≠ none) : Met l yX8_read wsX8_read ({ frames := 7, cells := 0, slots := 0, locals := 156 } : Room) (va_Pc [.ref o] (PMo z G cA (k_X8_read cA o o_now o_saved o_aside o_history o_chains o_buffer o_numbers v_o_thrown v_o_kept v_o_reason v_o_errorPosition v_o_isSaved v_o_length v_o_at v_o_isWrong g_o_now g_o_aside g_o_buffer g_o_numbers gA gW) sz)) (va_Qi (fun (r : Int32) (u : Int32 × Int32 × Int32 × Int32 × Int32 × Int32 × Int32 × (Nat → Int32) × (Nat → Int32) × (Nat → Int32) × (Nat → Nat → Int32)) => R = some (r, u)) (BM G (fun (u : Int32 × Int32 × Int32 × Int32 × Int32 × Int32 × Int32 × (Nat → Int32) × (Nat → Int32) × (Nat → Int32) × (Nat → Nat → Int32)) => (k_X8_read cA o o_now o_saved o_aside o_history o_chains o_buffer o_numbers u.1 u.2.1 u.2.2.1 u.2.2.2.1 v_o_isSaved u.2.2.2.2.1 u.2.2.2.2.2.1 u.2.2.2.2.2.2.1 u.2.2.2.2.2.2.2.1 u.2.2.2.2.2.2.2.2.1 g_o_buffer u.2.2.2.2.2.2.2.2.2.1 gA u.2.2.2.2.2.2.2.2.2.2))) (va_A (k_X8_read cA o o_now o_saved o_aside o_history o_chains o_buffer o_numbers v_o_thrown v_o_kept v_o_reason v_o_errorPosition v_o_isSaved v_o_length v_o_at v_o_isWrong g_o_now g_o_aside g_o_buffer g_o_numbers gA gW) sz)) 0 0 (va_A (k_X8_read cA o o_now o_saved o_aside o_history o_chains o_buffer o_numbers v_o_thrown v_o_kept v_o_reason v_o_errorPosition v_o_isSaved v_o_length v_o_at v_o_isWrong g_o_now g_o_aside g_o_buffer g_o_numbers gA gW) sz) := by
  refine metMo .int (by decide) rfl (Nat.le_of_ble_eq_true rfl) ?_
  intro p e s m av below meth c Q ls A H hx hb hml hts hown hP hK hT hO hD hA hS hl hret
  replace hl : lv_has ls 3 [(0, .ref o)] := hl
  have w_0 := hts (.fieldLink RX8 244 "ParcelRegistryModel" "at" "I") (by decide +kernel)
  have w_1 := hts (.fieldLink RX8 240 "ParcelRegistryModel" "isWrong" "Z") (by decide +kernel)
  have w_2 := hts (.fieldLink RX8 9 "ParcelRegistryModel" "now" "[I") (by decide +kernel)
  have w_3 := hts (.fieldLink RX8 16 "ParcelRegistryModel" "aside" "[I") (by decide +kernel)
  have w_4 := hts (.fieldLink RX8 237 "ParcelRegistryModel" "length" "I") (by decide +kernel)
  have w_5 := hts (.fieldLink RX8 24 "ParcelRegistryModel" "errorPosition" "I") (by decide +kernel)
  have i_X8 : ∀ w ∈ wsX80, w ∈ wsX8_read := by decide +kernel
  have hm := hR
  unfold m_X8_read at hm
  refine lv_aload_n hx hb dX8_read_0 rfl (lv_at hl 0 rfl) ?_
  refine lv_iconst (v := (0 : Int32)) hx hb dX8_read_1 (by decide) ?_
  refine va_put (D := G) (ci := 10) (v := .int (0 : Int32)) (ty := .int) (C := RX8) (T := TX8) (N := 15) hx hb hts i_X8 tyX8 tyX8_ok nmX8 hown hK.1 hP hD hS 0 rfl rfl 12 (by decide) w_0 (fun _ h9 => h9) rfl (by decide +kernel) rfl rfl (Nat.le_of_ble_eq_true rfl) dX8_read_2 (fun H locs hP' hD' hS' => ?_)
  replace hP : va_P G vwCl (k_X8_read cA o o_now o_saved o_aside o_history o_chains o_buffer o_numbers v_o_thrown v_o_kept v_o_reason v_o_errorPosition v_o_isSaved v_o_length (0 : Int32) v_o_isWrong g_o_now g_o_aside g_o_buffer g_o_numbers gA gW) H := hP'
  replace hD : va_D A (k_X8_read cA o o_now o_saved o_aside o_history o_chains o_buffer o_numbers v_o_thrown v_o_kept v_o_reason v_o_errorPosition v_o_isSaved v_o_length (0 : Int32) v_o_isWrong g_o_now g_o_aside g_o_buffer g_o_numbers gA gW) := hD'
  replace hS := hS'
  refine lv_aload_n hx hb dX8_read_5 rfl (lv_at hl 0 rfl) ?_
  refine lv_iconst (v := (0 : Int32)) hx hb dX8_read_6 (by decide) ?_
  refine va_put (D := G) (ci := 10) (v := .int (0 : Int32)) (ty := .boolean) (C := RX8) (T := TX8) (N := 15) hx hb hts i_X8 tyX8 tyX8_ok nmX8 hown hK.1 hP hD hS 0 rfl rfl 13 (by decide) w_1 (fun _ h9 => h9) rfl (by decide +kernel) rfl rfl (Nat.le_of_ble_eq_true rfl) dX8_read_7 (fun H locs hP' hD' hS' => ?_)
  replace hP : va_P G vwCl (k_X8_read cA o o_now o_saved o_aside o_history o_chains o_buffer o_numbers v_o_thrown v_o_kept v_o_reason v_o_errorPosition v_o_isSaved v_o_length (0 : Int32) (0 : Int32) g_o_now g_o_aside g_o_buffer g_o_numbers gA gW) H := hP'
  replace hD : va_D A (k_X8_read cA o o_now o_saved o_aside o_history o_chains o_buffer o_numbers v_o_thrown v_o_kept v_o_reason v_o_errorPosition v_o_isSaved v_o_length (0 : Int32) (0 : Int32) g_o_now g_o_aside g_o_buffer g_o_numbers gA gW) := hD'
  replace hS := hS'
  refine lv_iconst (v := (0 : Int32)) hx hb dX8_read_10 (by decide) ?_
  refine lv_istore_n (lv' := [(1, .int (0 : Int32)), (0, .ref o)]) hx hb dX8_read_11 rfl hl (by decide) rfl (fun ls hl => ?_)
  have J45_4 : ∀ (x_1 : Int32) (v_2 : Int32) (v_3 : Int32) (g_4 : Nat → Int32), ∀ (H : Heap) (locs : List Loc) (ls : Array Slot), m_X8_read_J45 g_o_now g_o_aside gW v_o_kept v_o_reason v_o_errorPosition g_o_buffer v_o_length (x_1, v_2, v_3, g_4) = R → va_P G vwCl (k_X8_read cA o o_now o_saved o_aside o_history o_chains o_buffer o_numbers v_o_thrown v_o_kept v_o_reason v_o_errorPosition v_o_isSaved v_o_length v_2 v_3 g_o_now g_o_aside g_o_buffer g_4 gA gW) H → va_D A (k_X8_read cA o o_now o_saved o_aside o_history o_chains o_buffer o_numbers v_o_thrown v_o_kept v_o_reason v_o_errorPosition v_o_isSaved v_o_length v_2 v_3 g_o_now g_o_aside g_o_buffer g_4 gA gW) → va_S A s.heap H locs → lv_has ls 3 [(0, .ref o), (1, .int x_1)] → W p l e ({ frames := 7, cells := 0, slots := 0, locals := 156 } : Room) s m av below meth c H locs 0 0 Q (F0 m 45 ls []) := by
    intro x_1 v_2 v_3 g_4 H locs ls hm hP hD hS hl
    unfold m_X8_read_J45 at hm
    refine lv_aload_n hx hb dX8_read_45 rfl (lv_at hl 0 rfl) ?_
    refine va_get (D := G) (ci := 10) (v := .int v_3) (C := RX8) (T := TX8) (N := 15) hx hb hts i_X8 hown hK.1 hP 0 rfl rfl 13 (by decide) w_1 (fun _ h9 => h9) rfl dX8_read_46 ?_
    refine lv_if_eq (tgt := 74) hx hb dX8_read_49 (by decide) (fun c_5 => ?_) (fun c_5 => ?_)
    · replace hm := it hm c_5
      refine lv_aload_n hx hb dX8_read_74 rfl (lv_at hl 0 rfl) ?_
      refine va_get (D := G) (ci := 10) (v := .ref o_now) (C := RX8) (T := TX8) (N := 15) hx hb hts i_X8 hown hK.1 hP 0 rfl rfl 1 (by decide) w_2 (fun _ h9 => h9) rfl dX8_read_75 ?_
      refine lv_aload_n hx hb dX8_read_78 rfl (lv_at hl 0 rfl) ?_
      refine va_get (D := G) (ci := 10) (v := .ref o_aside) (C := RX8) (T := TX8) (N := 15) hx hb hts i_X8 hown hK.1 hP 0 rfl rfl 3 (by decide) w_3 (fun _ h9 => h9) rfl dX8_read_79 ?_
      have hPc := hP.sub (ws' := (k_X8_copyRow cA o_now o_aside g_o_now g_o_aside)) [1, 2] rfl
      have hDc := hD.sub (ws' := (k_X8_copyRow cA o_now o_aside g_o_now g_o_aside)) [1, 2] (by decide) rfl
      have hFc := va_free (wc := (k_X8_copyRow cA o_now o_aside g_o_now g_o_aside)) hD hS hA [1, 2] rfl
      refine va_callv (va_runS (As := [.ref o_now, .ref o_aside]) (rest := []) ⟨hx, hb, hml, hown, hts⟩ (c_X8_copyRow l G cA o_now o_aside H.size g_o_now g_o_aside _ rfl (bnz hm hz)) (va_cwS 2 hts gX8_read_X8_copyRow rfl rfl rfl (by decide +kernel) ⟨Nat.le_of_ble_eq_true rfl, Nat.le_of_ble_eq_true rfl⟩) (preMS hPc hDc hK) rfl rfl hl.1 rfl (lv_room (Nat.le_of_ble_eq_true rfl)) dX8_read_82 ⟨Nat.zero_le _, Nat.zero_le _⟩) hS (fun q _ h => hFc q h) hFc (fun u_6 t H locs ht hvm hw hB hz1 hk1 hS' => ?_)
      obtain ⟨g_6, rfl⟩ : ∃ z, z = u_6 := ⟨_, rfl⟩
      replace hm := bst hm hw
      replace hB : va_P G vwCl _ _ := hB
      rw [ht] at hB
      have hj := va_backB (E := (e_X8_read cA o o_now o_saved o_aside o_history o_chains o_buffer o_numbers v_o_thrown v_o_kept v_o_reason v_o_errorPosition v_o_isSaved v_o_length v_2 v_3 g_o_now g_o_aside g_o_buffer g_4 gA)) (E' := (e_X8_read cA o o_now o_saved o_aside o_history o_chains o_buffer o_numbers v_o_thrown v_o_kept v_o_reason v_o_errorPosition v_o_isSaved v_o_length v_2 v_3 g_o_now g_6 g_o_buffer g_4 gA)) (B := (gblk cA gA gW)) hP hD [1, 2] rfl hk1 hB [(false, 0), (true, 0), (true, 1), (false, 3), (false, 4), (false, 5)] rfl (by decide) rfl
      replace hP : va_P G vwCl (k_X8_read cA o o_now o_saved o_aside o_history o_chains o_buffer o_numbers v_o_thrown v_o_kept v_o_reason v_o_errorPosition v_o_isSaved v_o_length v_2 v_3 g_o_now g_6 g_o_buffer g_4 gA gW) H := hj.1
      replace hD : va_D A (k_X8_read cA o o_now o_saved o_aside o_history o_chains o_buffer o_numbers v_o_thrown v_o_kept v_o_reason v_o_errorPosition v_o_isSaved v_o_length v_2 v_3 g_o_now g_6 g_o_buffer g_4 gA gW) := hj.2
      replace hS := hS'
      clear hj hPc hDc hFc hB
      refine lv_aload_n hx hb dX8_read_85 rfl (lv_at hl 0 rfl) ?_
      refine lv_iconst (v := (0 : Int32)) hx hb dX8_read_86 (by decide) ?_
      refine va_put (D := G) (ci := 10) (v := .int (0 : Int32)) (ty := .int) (C := RX8) (T := TX8) (N := 15) hx hb hts i_X8 tyX8 tyX8_ok nmX8 hown hK.1 hP hD hS 0 rfl rfl 12 (by decide) w_0 (fun _ h9 => h9) rfl (by decide +kernel) rfl rfl (Nat.le_of_ble_eq_true rfl) dX8_read_87 (fun H locs hP' hD' hS' => ?_)
      replace hP : va_P G vwCl (k_X8_read cA o o_now o_saved o_aside o_history o_chains o_buffer o_numbers v_o_thrown v_o_kept v_o_reason v_o_errorPosition v_o_isSaved v_o_length (0 : Int32) v_3 g_o_now g_6 g_o_buffer g_4 gA gW) H := hP'
      replace hD : va_D A (k_X8_read cA o o_now o_saved o_aside o_history o_chains o_buffer o_numbers v_o_thrown v_o_kept v_o_reason v_o_errorPosition v_o_isSaved v_o_length (0 : Int32) v_3 g_o_now g_6 g_o_buffer g_4 gA gW) := hD'
      replace hS := hS'
      refine lv_iconst (v := (1 : Int32)) hx hb dX8_read_90 (by decide) ?_
      refine lv_istore_n (lv' := [(2, .int (1 : Int32)), (0, .ref o), (1, .int x_1)]) hx hb dX8_read_91 rfl hl (by decide) rfl (fun ls hl => ?_)
      have J119_2 : ∀ (x_7 : Int32) (v_8 : Int32) (v_9 : Int32) (v_10 : Int32) (g_11 : Nat → Int32) (g_12 : Nat → Int32), ∀ (H : Heap) (locs : List Loc) (ls : Array Slot), m_X8_read_J119 gW v_o_kept v_o_errorPosition x_1 g_6 (x_7, v_8, v_9, v_10, g_11, g_12) = R → va_P G vwCl (k_X8_read cA o o_now o_saved o_aside o_history o_chains o_buffer o_numbers v_o_thrown v_o_kept v_8 v_o_errorPosition v_o_isSaved v_o_length v_9 v_10 g_11 g_6 g_o_buffer g_12 gA gW) H → va_D A (k_X8_read cA o o_now o_saved o_aside o_history o_chains o_buffer o_numbers v_o_thrown v_o_kept v_8 v_o_errorPosition v_o_isSaved v_o_length v_9 v_10 g_11 g_6 g_o_buffer g_12 gA gW) → va_S A s.heap H locs → lv_has ls 3 [(0, .ref o), (1, .int x_1), (2, .int x_7)] → W p l e ({ frames := 7, cells := 0, slots := 0, locals := 156 } : Room) s m av below meth c H locs 0 0 Q (F0 m 119 ls []) := by
        intro x_7 v_8 v_9 v_10 g_11 g_12 H locs ls hm hP hD hS hl
        unfold m_X8_read_J119 at hm
        refine lv_aload_n hx hb dX8_read_119 rfl (lv_at hl 0 rfl) ?_
        refine lv_iconst (v := (0 : Int32)) hx hb dX8_read_120 (by decide) ?_
        refine va_put (D := G) (ci := 10) (v := .int (0 : Int32)) (ty := .int) (C := RX8) (T := TX8) (N := 15) hx hb hts i_X8 tyX8 tyX8_ok nmX8 hown hK.1 hP hD hS 0 rfl rfl 11 (by decide) w_4 (fun _ h9 => h9) rfl (by decide +kernel) rfl rfl (Nat.le_of_ble_eq_true rfl) dX8_read_121 (fun H locs hP' hD' hS' => ?_)
        replace hP : va_P G vwCl (k_X8_read cA o o_now o_saved o_aside o_history o_chains o_buffer o_numbers v_o_thrown v_o_kept v_8 v_o_errorPosition v_o_isSaved (0 : Int32) v_9 v_10 g_11 g_6 g_o_buffer g_12 gA gW) H := hP'
        replace hD : va_D A (k_X8_read cA o o_now o_saved o_aside o_history o_chains o_buffer o_numbers v_o_thrown v_o_kept v_8 v_o_errorPosition v_o_isSaved (0 : Int32) v_9 v_10 g_11 g_6 g_o_buffer g_12 gA gW) := hD'
        replace hS := hS'
        refine lv_aload_n hx hb dX8_read_124 rfl (lv_at hl 0 rfl) ?_
        refine lv_iconst (v := (2 : Int32)) hx hb dX8_read_125 (by decide) ?_
        refine lv_iload_n hx hb dX8_read_126 rfl (lv_at hl 2 rfl) ?_
        have J135_1 : ∀ (y_13 : Int32), ∀ (H : Heap) (locs : List Loc) (ls : Array Slot), m_X8_read_J135 gW v_o_kept v_o_errorPosition x_1 g_6 v_8 v_9 v_10 g_11 g_12 y_13 = R → va_P G vwCl (k_X8_read cA o o_now o_saved o_aside o_history o_chains o_buffer o_numbers v_o_thrown v_o_kept v_8 v_o_errorPosition v_o_isSaved (0 : Int32) v_9 v_10 g_11 g_6 g_o_buffer g_12 gA gW) H → va_D A (k_X8_read cA o o_now o_saved o_aside o_history o_chains o_buffer o_numbers v_o_thrown v_o_kept v_8 v_o_errorPosition v_o_isSaved (0 : Int32) v_9 v_10 g_11 g_6 g_o_buffer g_12 gA gW) → va_S A s.heap H locs → lv_has ls 3 [(0, .ref o), (1, .int x_1)] → W p l e ({ frames := 7, cells := 0, slots := 0, locals := 156 } : Room) s m av below meth c H locs 0 0 Q (F0 m 135 ls [.int y_13, .int (2 : Int32), .ref o]) := by
          intro y_13 H locs ls hm hP hD hS hl
          unfold m_X8_read_J135 at hm
          have hPc := hP.sub (ws' := (k_X8_fails cA o o_now o_saved o_aside o_history o_chains o_buffer o_numbers v_o_thrown v_o_kept v_8 v_o_errorPosition v_o_isSaved (0 : Int32) v_9 v_10)) [0] rfl
          have hDc := hD.sub (ws' := (k_X8_fails cA o o_now o_saved o_aside o_history o_chains o_buffer o_numbers v_o_thrown v_o_kept v_8 v_o_errorPosition v_o_isSaved (0 : Int32) v_9 v_10)) [0] (by decide) rfl
          have hFc := va_free (wc := (k_X8_fails cA o o_now o_saved o_aside o_history o_chains o_buffer o_numbers v_o_thrown v_o_kept v_8 v_o_errorPosition v_o_isSaved (0 : Int32) v_9 v_10)) hD hS hA [0] rfl
          refine va_calli (va_runV (As := [.int (2 : Int32), .int y_13]) (rest := []) ⟨hx, hb, hml, hown, hts⟩ (c_X8_fails l G cA o o_now o_saved o_aside o_history o_chains o_buffer o_numbers H.size (2 : Int32) y_13 v_o_thrown v_o_kept v_8 v_o_errorPosition v_o_isSaved (0 : Int32) v_9 v_10 _ rfl (bnz hm hz)) (cwV 2 hts gX8_read_X8_fails rfl rfl rfl (by decide +kernel) ⟨Nat.le_of_ble_eq_true rfl, Nat.le_of_ble_eq_true rfl⟩) (preMV (q := (RX8, TX8, 15)) hPc hDc hK 0 rfl rfl) rfl rfl hl.1 rfl (lv_room (Nat.le_of_ble_eq_true rfl)) dX8_read_135 ⟨Nat.zero_le _, Nat.zero_le _⟩) hS (fun q _ h => hFc q h) hFc (fun r_14 u_15 t H locs ht hvm hw hB hz1 hk1 hS' => ?_)
          obtain ⟨v_15, rfl⟩ : ∃ z, z = u_15 := ⟨_, rfl⟩
          replace hm := bst hm hw.1
          replace hB : va_P G vwCl _ _ := hB
          rw [ht] at hB
          have hj := va_backB (E := (e_X8_read cA o o_now o_saved o_aside o_history o_chains o_buffer o_numbers v_o_thrown v_o_kept v_8 v_o_errorPosition v_o_isSaved (0 : Int32) v_9 v_10 g_11 g_6 g_o_buffer g_12 gA)) (E' := (e_X8_read cA o o_now o_saved o_aside o_history o_chains o_buffer o_numbers v_15 v_o_kept v_8 v_o_errorPosition v_o_isSaved (0 : Int32) v_9 v_10 g_11 g_6 g_o_buffer g_12 gA)) (B := (gblk cA gA gW)) hP hD [0] rfl hk1 hB [(true, 0), (false, 1), (false, 2), (false, 3), (false, 4), (false, 5)] rfl (by decide) rfl
          replace hP : va_P G vwCl (k_X8_read cA o o_now o_saved o_aside o_history o_chains o_buffer o_numbers v_15 v_o_kept v_8 v_o_errorPosition v_o_isSaved (0 : Int32) v_9 v_10 g_11 g_6 g_o_buffer g_12 gA gW) H := hj.1
          replace hD : va_D A (k_X8_read cA o o_now o_saved o_aside o_history o_chains o_buffer o_numbers v_15 v_o_kept v_8 v_o_errorPosition v_o_isSaved (0 : Int32) v_9 v_10 g_11 g_6 g_o_buffer g_12 gA gW) := hj.2
          replace hS := hS'
          clear hj hPc hDc hFc hB
          refine lv_if_eq (tgt := 154) hx hb dX8_read_138 (by decide) (fun c_16 => ?_) (fun c_16 => ?_)
          · replace hm := it hm c_16
            refine lv_aload_n hx hb dX8_read_154 rfl (lv_at hl 0 rfl) ?_
            refine lv_aload_n hx hb dX8_read_155 rfl (lv_at hl 0 rfl) ?_
            refine va_get (D := G) (ci := 10) (v := .ref o_aside) (C := RX8) (T := TX8) (N := 15) hx hb hts i_X8 hown hK.1 hP 0 rfl rfl 3 (by decide) w_3 (fun _ h9 => h9) rfl dX8_read_156 ?_
            have hPc : va_P G vwCl (k_X8_remember cA o o_now o_saved o_aside o_history o_chains o_buffer o_numbers o_aside v_15 v_o_kept v_8 v_o_errorPosition v_o_isSaved (0 : Int32) v_9 v_10 g_6 gA gW) H := va_subC (E := (e_X8_read cA o o_now o_saved o_aside o_history o_chains o_buffer o_numbers v_15 v_o_kept v_8 v_o_errorPosition v_o_isSaved (0 : Int32) v_9 v_10 g_11 g_6 g_o_buffer g_12 gA)) (Ec := (e_X8_remember cA o o_now o_saved o_aside o_history o_chains o_buffer o_numbers o_aside v_15 v_o_kept v_8 v_o_errorPosition v_o_isSaved (0 : Int32) v_9 v_10 g_6 gA)) (B := (gblk cA gA gW)) hP [0, 3, 2] rfl
            have hDc : va_D A (k_X8_remember cA o o_now o_saved o_aside o_history o_chains o_buffer o_numbers o_aside v_15 v_o_kept v_8 v_o_errorPosition v_o_isSaved (0 : Int32) v_9 v_10 g_6 gA gW) := va_subCD (E := (e_X8_read cA o o_now o_saved o_aside o_history o_chains o_buffer o_numbers v_15 v_o_kept v_8 v_o_errorPosition v_o_isSaved (0 : Int32) v_9 v_10 g_11 g_6 g_o_buffer g_12 gA)) (Ec := (e_X8_remember cA o o_now o_saved o_aside o_history o_chains o_buffer o_numbers o_aside v_15 v_o_kept v_8 v_o_errorPosition v_o_isSaved (0 : Int32) v_9 v_10 g_6 gA)) (B := (gblk cA gA gW)) hD [0, 3, 2] (by decide) rfl
            have hFc : ∀ q, va_A (k_X8_remember cA o o_now o_saved o_aside o_history o_chains o_buffer o_numbers o_aside v_15 v_o_kept v_8 v_o_errorPosition v_o_isSaved (0 : Int32) v_9 v_10 g_6 gA gW) H.size q → A q := va_freeC (E := (e_X8_read cA o o_now o_saved o_aside o_history o_chains o_buffer o_numbers v_15 v_o_kept v_8 v_o_errorPosition v_o_isSaved (0 : Int32) v_9 v_10 g_11 g_6 g_o_buffer g_12 gA)) (Ec := (e_X8_remember cA o o_now o_saved o_aside o_history o_chains o_buffer o_numbers o_aside v_15 v_o_kept v_8 v_o_errorPosition v_o_isSaved (0 : Int32) v_9 v_10 g_6 gA)) (B := (gblk cA gA gW)) hD hS hA [0, 3, 2] rfl
            refine va_callv (va_runV (As := [.ref o_aside]) (rest := []) ⟨hx, hb, hml, hown, hts⟩ (c_X8_remember l G cA o o_now o_saved o_aside o_history o_chains o_buffer o_numbers o_aside H.size v_15 v_o_kept v_8 v_o_errorPosition v_o_isSaved (0 : Int32) v_9 v_10 g_6 gA gW _ rfl (bnz hm hz)) (cwV 1 hts gX8_read_X8_remember rfl rfl rfl (by decide +kernel) ⟨Nat.le_of_ble_eq_true rfl, Nat.le_of_ble_eq_true rfl⟩) (preMV (q := (RX8, TX8, 15)) hPc hDc hK 0 rfl rfl) rfl rfl hl.1 rfl (lv_room (Nat.le_of_ble_eq_true rfl)) dX8_read_159 ⟨Nat.zero_le _, Nat.zero_le _⟩) hS (fun q _ h => hFc q h) hFc (fun u_18 t H locs ht hvm hw hB hz1 hk1 hS' => ?_)
            obtain ⟨v_17, h_18⟩ := u_18
            replace hm := bst hm hw
            replace hB : va_P G vwCl _ _ := hB
            rw [ht] at hB
            have hj := va_backC (E := (e_X8_read cA o o_now o_saved o_aside o_history o_chains o_buffer o_numbers v_15 v_o_kept v_8 v_o_errorPosition v_o_isSaved (0 : Int32) v_9 v_10 g_11 g_6 g_o_buffer g_12 gA)) (E' := (e_X8_read cA o o_now o_saved o_aside o_history o_chains o_buffer o_numbers v_15 v_17 v_8 v_o_errorPosition v_o_isSaved (0 : Int32) v_9 v_10 g_11 g_6 g_o_buffer g_12 gA)) (Ec := (e_X8_remember cA o o_now o_saved o_aside o_history o_chains o_buffer o_numbers o_aside v_15 v_o_kept v_8 v_o_errorPosition v_o_isSaved (0 : Int32) v_9 v_10 g_6 gA)) (Ec1 := (e_X8_remember cA o o_now o_saved o_aside o_history o_chains o_buffer o_numbers o_aside v_15 v_17 v_8 v_o_errorPosition v_o_isSaved (0 : Int32) v_9 v_10 g_6 gA)) (B := (gblk cA gA gW)) (B1 := (gblk cA gA h_18)) hP hD [0, 3, 2] rfl hk1 hB (gblk_addr ..) [(true, 0), (false, 1), (true, 2), (true, 1), (false, 4), (false, 5)] rfl (by decide) rfl
            replace hP : va_P G vwCl (k_X8_read cA o o_now o_saved o_aside o_history o_chains o_buffer o_numbers v_15 v_17 v_8 v_o_errorPosition v_o_isSaved (0 : Int32) v_9 v_10 g_11 g_6 g_o_buffer g_12 gA h_18) H := hj.1
            replace hD : va_D A (k_X8_read cA o o_now o_saved o_aside o_history o_chains o_buffer o_numbers v_15 v_17 v_8 v_o_errorPosition v_o_isSaved (0 : Int32) v_9 v_10 g_11 g_6 g_o_buffer g_12 gA h_18) := hj.2
            replace hS := hS'
            clear hj hPc hDc hFc hB
            refine lv_iload_n hx hb dX8_read_162 rfl (lv_at hl 1 rfl) ?_
            exact hret _ _ _ (v_15, v_17, v_8, v_o_errorPosition, (0 : Int32), v_9, v_10, g_11, g_6, g_12, h_18) _ _ dX8_read_163 rfl hP hS hm.symm
          · replace hm := ie hm c_16
            refine lv_aload_n hx hb dX8_read_141 rfl (lv_at hl 0 rfl) ?_
            refine va_get (D := G) (ci := 10) (v := .ref o_aside) (C := RX8) (T := TX8) (N := 15) hx hb hts i_X8 hown hK.1 hP 0 rfl rfl 3 (by decide) w_3 (fun _ h9 => h9) rfl dX8_read_142 ?_
            refine lv_aload_n hx hb dX8_read_145 rfl (lv_at hl 0 rfl) ?_
            refine va_get (D := G) (ci := 10) (v := .ref o_now) (C := RX8) (T := TX8) (N := 15) hx hb hts i_X8 hown hK.1 hP 0 rfl rfl 1 (by decide) w_2 (fun _ h9 => h9) rfl dX8_read_146 ?_
            have hPc := hP.sub (ws' := (k_X8_copyRow cA o_aside o_now g_6 g_11)) [2, 1] rfl
            have hDc := hD.sub (ws' := (k_X8_copyRow cA o_aside o_now g_6 g_11)) [2, 1] (by decide) rfl
            have hFc := va_free (wc := (k_X8_copyRow cA o_aside o_now g_6 g_11)) hD hS hA [2, 1] rfl
            refine va_callv (va_runS (As := [.ref o_aside, .ref o_now]) (rest := []) ⟨hx, hb, hml, hown, hts⟩ (c_X8_copyRow l G cA o_aside o_now H.size g_6 g_11 _ rfl (bnz hm hz)) (va_cwS 2 hts gX8_read_X8_copyRow rfl rfl rfl (by decide +kernel) ⟨Nat.le_of_ble_eq_true rfl, Nat.le_of_ble_eq_true rfl⟩) (preMS hPc hDc hK) rfl rfl hl.1 rfl (lv_room (Nat.le_of_ble_eq_true rfl)) dX8_read_149 ⟨Nat.zero_le _, Nat.zero_le _⟩) hS (fun q _ h => hFc q h) hFc (fun u_19 t H locs ht hvm hw hB hz1 hk1 hS' => ?_)
            obtain ⟨g_19, rfl⟩ : ∃ z, z = u_19 := ⟨_, rfl⟩
            replace hm := bst hm hw
            replace hB : va_P G vwCl _ _ := hB
            rw [ht] at hB
            have hj := va_backB (E := (e_X8_read cA o o_now o_saved o_aside o_history o_chains o_buffer o_numbers v_15 v_o_kept v_8 v_o_errorPosition v_o_isSaved (0 : Int32) v_9 v_10 g_11 g_6 g_o_buffer g_12 gA)) (E' := (e_X8_read cA o o_now o_saved o_aside o_history o_chains o_buffer o_numbers v_15 v_o_kept v_8 v_o_errorPosition v_o_isSaved (0 : Int32) v_9 v_10 g_19 g_6 g_o_buffer g_12 gA)) (B := (gblk cA gA gW)) hP hD [2, 1] rfl hk1 hB [(false, 0), (true, 1), (true, 0), (false, 3), (false, 4), (false, 5)] rfl (by decide) rfl
            replace hP : va_P G vwCl (k_X8_read cA o o_now o_saved o_aside o_history o_chains o_buffer o_numbers v_15 v_o_kept v_8 v_o_errorPosition v_o_isSaved (0 : Int32) v_9 v_10 g_19 g_6 g_o_buffer g_12 gA gW) H := hj.1
            replace hD : va_D A (k_X8_read cA o o_now o_saved o_aside o_history o_chains o_buffer o_numbers v_15 v_o_kept v_8 v_o_errorPosition v_o_isSaved (0 : Int32) v_9 v_10 g_19 g_6 g_o_buffer g_12 gA gW) := hj.2
            replace hS := hS'
            clear hj hPc hDc hFc hB
            refine lv_iconst (v := (0 : Int32)) hx hb dX8_read_152 (by decide) ?_
            exact hret _ _ _ (v_15, v_o_kept, v_8, v_o_errorPosition, (0 : Int32), v_9, v_10, g_19, g_6, g_12, gW) _ _ dX8_read_153 rfl hP hS hm.symm
        refine lv_if_ne (tgt := 134) hx hb dX8_read_127 (by decide) (fun c_20 => ?_) (fun c_20 => ?_)
        · replace hm := ie hm c_20
          refine lv_iconst (v := (0 : Int32)) hx hb dX8_read_134 (by decide) ?_
          exact J135_1 (0 : Int32) _ _ _ hm hP hD hS (lv_sub hl [0, 1] rfl)
        · replace hm := it hm c_20
          refine lv_iconst (v := (1 : Int32)) hx hb dX8_read_130 (by decide) ?_
          refine lv_goto (tgt := 135) hx hb dX8_read_131 (by decide) ?_
          exact J135_1 (1 : Int32) _ _ _ hm hP hD hS (lv_sub hl [0, 1] rfl)
      have L92_3 : ∀ (n : Nat), ∀ (x_21 : Int32) (v_22 : Int32) (v_23 : Int32) (v_24 : Int32) (g_25 : Nat → Int32) (g_26 : Nat → Int32), ∀ (H : Heap) (locs : List Loc) (ls : Array Slot), fuel (m_X8_read_L92 gW v_o_kept v_o_errorPosition g_o_buffer v_o_length x_1 g_6) n (x_21, v_22, v_23, v_24, g_25, g_26) = R → va_P G vwCl (k_X8_read cA o o_now o_saved o_aside o_history o_chains o_buffer o_numbers v_o_thrown v_o_kept v_22 v_o_errorPosition v_o_isSaved v_o_length v_23 v_24 g_25 g_6 g_o_buffer g_26 gA gW) H → va_D A (k_X8_read cA o o_now o_saved o_aside o_history o_chains o_buffer o_numbers v_o_thrown v_o_kept v_22 v_o_errorPosition v_o_isSaved v_o_length v_23 v_24 g_25 g_6 g_o_buffer g_26 gA gW) → va_S A s.heap H locs → lv_has ls 3 [(0, .ref o), (1, .int x_1), (2, .int x_21)] → W p l e ({ frames := 7, cells := 0, slots := 0, locals := 156 } : Room) s m av below meth c H locs 0 0 Q (F0 m 92 ls []) := by
        intro n
        induction n with
        | zero =>
          intro x_21 v_22 v_23 v_24 g_25 g_26 H locs ls hm hP hD hS hl
          exact (fu0 hm hz).elim
        | succ n ih92 =>
          intro x_21 v_22 v_23 v_24 g_25 g_26 H locs ls hm hP hD hS hl
          replace hm := fus hm
          generalize fuel (m_X8_read_L92 gW v_o_kept v_o_errorPosition g_o_buffer v_o_length x_1 g_6) n = rec_27 at hm ih92
          unfold m_X8_read_L92 at hm
          refine lv_iload_n hx hb dX8_read_92 rfl (lv_at hl 2 rfl) ?_
          refine lv_if_eq (tgt := 119) hx hb dX8_read_93 (by decide) (fun c_28 => ?_) (fun c_28 => ?_)
          · replace hm := it hm c_28
            exact J119_2 x_21 v_22 v_23 v_24 g_25 g_26 _ _ _ hm hP hD hS (lv_sub hl [0, 1, 2] rfl)
          · replace hm := ie hm c_28
            refine lv_aload_n hx hb dX8_read_96 rfl (lv_at hl 0 rfl) ?_
            refine va_get (D := G) (ci := 10) (v := .int v_23) (C := RX8) (T := TX8) (N := 15) hx hb hts i_X8 hown hK.1 hP 0 rfl rfl 12 (by decide) w_0 (fun _ h9 => h9) rfl dX8_read_97 ?_
            refine lv_aload_n hx hb dX8_read_100 rfl (lv_at hl 0 rfl) ?_
            refine va_get (D := G) (ci := 10) (v := .int v_o_length) (C := RX8) (T := TX8) (N := 15) hx hb hts i_X8 hown hK.1 hP 0 rfl rfl 11 (by decide) w_4 (fun _ h9 => h9) rfl dX8_read_101 ?_
            refine lv_icmp_ge (tgt := 119) hx hb dX8_read_104 (by decide) (fun c_29 => ?_) (fun c_29 => ?_)
            · replace hm := it hm c_29
              exact J119_2 x_21 v_22 v_23 v_24 g_25 g_26 _ _ _ hm hP hD hS (lv_sub hl [0, 1, 2] rfl)
            · replace hm := ie hm c_29
              refine lv_aload_n hx hb dX8_read_107 rfl (lv_at hl 0 rfl) ?_
              refine lv_aload_n hx hb dX8_read_108 rfl (lv_at hl 0 rfl) ?_
              have hPc := hP.sub (ws' := (k_X8_readCommand cA o o_now o_saved o_aside o_history o_chains o_buffer o_numbers v_o_thrown v_o_kept v_22 v_o_errorPosition v_o_isSaved v_o_length v_23 v_24 g_o_buffer g_26)) [0, 4, 5] rfl
              have hDc := hD.sub (ws' := (k_X8_readCommand cA o o_now o_saved o_aside o_history o_chains o_buffer o_numbers v_o_thrown v_o_kept v_22 v_o_errorPosition v_o_isSaved v_o_length v_23 v_24 g_o_buffer g_26)) [0, 4, 5] (by decide) rfl
              have hFc := va_free (wc := (k_X8_readCommand cA o o_now o_saved o_aside o_history o_chains o_buffer o_numbers v_o_thrown v_o_kept v_22 v_o_errorPosition v_o_isSaved v_o_length v_23 v_24 g_o_buffer g_26)) hD hS hA [0, 4, 5] rfl
              refine va_calli (va_runV (As := []) (rest := [.ref o]) ⟨hx, hb, hml, hown, hts⟩ (c_X8_readCommand l z G cA o o_now o_saved o_aside o_history o_chains o_buffer o_numbers H.size v_o_thrown v_o_kept v_22 v_o_errorPosition v_o_isSaved v_o_length v_23 v_24 g_o_buffer g_26 _ rfl (bnz hm hz)) (cwV 0 hts gX8_read_X8_readCommand rfl rfl rfl (by decide +kernel) ⟨Nat.le_of_ble_eq_true rfl, Nat.le_of_ble_eq_true rfl⟩) (preMVo (q := (RX8, TX8, 15)) hPc hDc hK hT hO hS hFc 0 rfl rfl) rfl rfl hl.1 rfl (lv_room (Nat.le_of_ble_eq_true rfl)) dX8_read_109 ⟨Nat.zero_le _, Nat.zero_le _⟩) hS (fun q _ h => hFc q h) hFc (fun r_30 u_33 t H locs ht hvm hw hB hz1 hk1 hS' => ?_)
              obtain ⟨v_31, v_32, g_33⟩ := u_33
              replace hm := bst hm hw
              replace hB : va_P G vwCl _ _ := hB
              rw [ht] at hB
              have hj := va_backB (E := (e_X8_read cA o o_now o_saved o_aside o_history o_chains o_buffer o_numbers v_o_thrown v_o_kept v_22 v_o_errorPosition v_o_isSaved v_o_length v_23 v_24 g_25 g_6 g_o_buffer g_26 gA)) (E' := (e_X8_read cA o o_now o_saved o_aside o_history o_chains o_buffer o_numbers v_o_thrown v_o_kept v_22 v_o_errorPosition v_o_isSaved v_o_length v_31 v_32 g_25 g_6 g_o_buffer g_33 gA)) (B := (gblk cA gA gW)) hP hD [0, 4, 5] rfl hk1 hB [(true, 0), (false, 1), (false, 2), (false, 3), (true, 1), (true, 2)] rfl (by decide) rfl
              replace hP : va_P G vwCl (k_X8_read cA o o_now o_saved o_aside o_history o_chains o_buffer o_numbers v_o_thrown v_o_kept v_22 v_o_errorPosition v_o_isSaved v_o_length v_31 v_32 g_25 g_6 g_o_buffer g_33 gA gW) H := hj.1
              replace hD : va_D A (k_X8_read cA o o_now o_saved o_aside o_history o_chains o_buffer o_numbers v_o_thrown v_o_kept v_22 v_o_errorPosition v_o_isSaved v_o_length v_31 v_32 g_25 g_6 g_o_buffer g_33 gA gW) := hj.2
              replace hS := hS'
              clear hj hPc hDc hFc hB
              have hPc := hP.sub (ws' := (k_X8_does cA o o_now o_saved o_aside o_history o_chains o_buffer o_numbers v_o_thrown v_o_kept v_22 v_o_errorPosition v_o_isSaved v_o_length v_31 v_32 g_25 g_33)) [0, 1, 5] rfl
              have hDc := hD.sub (ws' := (k_X8_does cA o o_now o_saved o_aside o_history o_chains o_buffer o_numbers v_o_thrown v_o_kept v_22 v_o_errorPosition v_o_isSaved v_o_length v_31 v_32 g_25 g_33)) [0, 1, 5] (by decide) rfl
              have hFc := va_free (wc := (k_X8_does cA o o_now o_saved o_aside o_history o_chains o_buffer o_numbers v_o_thrown v_o_kept v_22 v_o_errorPosition v_o_isSaved v_o_length v_31 v_32 g_25 g_33)) hD hS hA [0, 1, 5] rfl
              refine va_calli (va_runV (As := [.int r_30]) (rest := []) ⟨hx, hb, hml, hown, hts⟩ (c_X8_does l G cA o o_now o_saved o_aside o_history o_chains o_buffer o_numbers H.size r_30 v_o_thrown v_o_kept v_22 v_o_errorPosition v_o_isSaved v_o_length v_31 v_32 g_25 g_33 _ rfl (bnz hm hz)) (cwV 1 hts gX8_read_X8_does rfl rfl rfl (by decide +kernel) ⟨Nat.le_of_ble_eq_true rfl, Nat.le_of_ble_eq_true rfl⟩) (preMV (q := (RX8, TX8, 15)) hPc hDc hK 0 rfl rfl) rfl rfl hl.1 rfl (lv_room (Nat.le_of_ble_eq_true rfl)) dX8_read_112 ⟨Nat.zero_le _, Nat.zero_le _⟩) hS (fun q _ h => hFc q h) hFc (fun r_34 u_36 t H locs ht hvm hw hB hz1 hk1 hS' => ?_)
              obtain ⟨v_35, g_36⟩ := u_36
              replace hm := bst hm hw.1
              replace hB : va_P G vwCl _ _ := hB
              rw [ht] at hB
              have hj := va_backB (E := (e_X8_read cA o o_now o_saved o_aside o_history o_chains o_buffer o_numbers v_o_thrown v_o_kept v_22 v_o_errorPosition v_o_isSaved v_o_length v_31 v_32 g_25 g_6 g_o_buffer g_33 gA)) (E' := (e_X8_read cA o o_now o_saved o_aside o_history o_chains o_buffer o_numbers v_o_thrown v_o_kept v_35 v_o_errorPosition v_o_isSaved v_o_length v_31 v_32 g_36 g_6 g_o_buffer g_33 gA)) (B := (gblk cA gA gW)) hP hD [0, 1, 5] rfl hk1 hB [(true, 0), (true, 1), (false, 2), (false, 3), (false, 4), (true, 2)] rfl (by decide) rfl
              replace hP : va_P G vwCl (k_X8_read cA o o_now o_saved o_aside o_history o_chains o_buffer o_numbers v_o_thrown v_o_kept v_35 v_o_errorPosition v_o_isSaved v_o_length v_31 v_32 g_36 g_6 g_o_buffer g_33 gA gW) H := hj.1
              replace hD : va_D A (k_X8_read cA o o_now o_saved o_aside o_history o_chains o_buffer o_numbers v_o_thrown v_o_kept v_35 v_o_errorPosition v_o_isSaved v_o_length v_31 v_32 g_36 g_6 g_o_buffer g_33 gA gW) := hj.2
              replace hS := hS'
              clear hj hPc hDc hFc hB
              refine lv_istore_n (lv' := [(2, .int r_34), (0, .ref o), (1, .int x_1)]) hx hb dX8_read_115 rfl hl (by decide) rfl (fun ls hl => ?_)
              refine lv_goto (tgt := 92) hx hb dX8_read_116 (by decide) ?_
              exact ih92 r_34 v_35 v_31 v_32 g_36 g_33 _ _ _ hm hP hD hS (lv_sub hl [1, 2, 0] rfl)
      exact L92_3 _ (1 : Int32) v_o_reason (0 : Int32) v_3 g_o_now g_4 _ _ _ hm hP hD hS (lv_sub hl [1, 2, 0] rfl)
    · replace hm := ie hm c_5
      refine lv_aload_n hx hb dX8_read_52 rfl (lv_at hl 0 rfl) ?_
      refine lv_aload_n hx hb dX8_read_53 rfl (lv_at hl 0 rfl) ?_
      refine va_get (D := G) (ci := 10) (v := .int v_2) (C := RX8) (T := TX8) (N := 15) hx hb hts i_X8 hown hK.1 hP 0 rfl rfl 12 (by decide) w_0 (fun _ h9 => h9) rfl dX8_read_54 ?_
      refine va_put (D := G) (ci := 10) (v := .int v_2) (ty := .int) (C := RX8) (T := TX8) (N := 15) hx hb hts i_X8 tyX8 tyX8_ok nmX8 hown hK.1 hP hD hS 0 rfl rfl 7 (by decide) w_5 (fun _ h9 => h9) rfl (by decide +kernel) rfl rfl (Nat.le_of_ble_eq_true rfl) dX8_read_57 (fun H locs hP' hD' hS' => ?_)
      replace hP : va_P G vwCl (k_X8_read cA o o_now o_saved o_aside o_history o_chains o_buffer o_numbers v_o_thrown v_o_kept v_o_reason v_2 v_o_isSaved v_o_length v_2 v_3 g_o_now g_o_aside g_o_buffer g_4 gA gW) H := hP'
      replace hD : va_D A (k_X8_read cA o o_now o_saved o_aside o_history o_chains o_buffer o_numbers v_o_thrown v_o_kept v_o_reason v_2 v_o_isSaved v_o_length v_2 v_3 g_o_now g_o_aside g_o_buffer g_4 gA gW) := hD'
      replace hS := hS'
      refine lv_aload_n hx hb dX8_read_60 rfl (lv_at hl 0 rfl) ?_
      refine lv_iconst (v := (0 : Int32)) hx hb dX8_read_61 (by decide) ?_
      refine va_put (D := G) (ci := 10) (v := .int (0 : Int32)) (ty := .int) (C := RX8) (T := TX8) (N := 15) hx hb hts i_X8 tyX8 tyX8_ok nmX8 hown hK.1 hP hD hS 0 rfl rfl 11 (by decide) w_4 (fun _ h9 => h9) rfl (by decide +kernel) rfl rfl (Nat.le_of_ble_eq_true rfl) dX8_read_62 (fun H locs hP' hD' hS' => ?_)
      replace hP : va_P G vwCl (k_X8_read cA o o_now o_saved o_aside o_history o_chains o_buffer o_numbers v_o_thrown v_o_kept v_o_reason v_2 v_o_isSaved (0 : Int32) v_2 v_3 g_o_now g_o_aside g_o_buffer g_4 gA gW) H := hP'
      replace hD : va_D A (k_X8_read cA o o_now o_saved o_aside o_history o_chains o_buffer o_numbers v_o_thrown v_o_kept v_o_reason v_2 v_o_isSaved (0 : Int32) v_2 v_3 g_o_now g_o_aside g_o_buffer g_4 gA gW) := hD'
      replace hS := hS'
      refine lv_aload_n hx hb dX8_read_65 rfl (lv_at hl 0 rfl) ?_
      refine lv_iconst (v := (1 : Int32)) hx hb dX8_read_66 (by decide) ?_
      refine lv_iconst (v := (1 : Int32)) hx hb dX8_read_67 (by decide) ?_
      have hPc := hP.sub (ws' := (k_X8_fails cA o o_now o_saved o_aside o_history o_chains o_buffer o_numbers v_o_thrown v_o_kept v_o_reason v_2 v_o_isSaved (0 : Int32) v_2 v_3)) [0] rfl
      have hDc := hD.sub (ws' := (k_X8_fails cA o o_now o_saved o_aside o_history o_chains o_buffer o_numbers v_o_thrown v_o_kept v_o_reason v_2 v_o_isSaved (0 : Int32) v_2 v_3)) [0] (by decide) rfl
      have hFc := va_free (wc := (k_X8_fails cA o o_now o_saved o_aside o_history o_chains o_buffer o_numbers v_o_thrown v_o_kept v_o_reason v_2 v_o_isSaved (0 : Int32) v_2 v_3)) hD hS hA [0] rfl
      refine va_calli (va_runV (As := [.int (1 : Int32), .int (1 : Int32)]) (rest := []) ⟨hx, hb, hml, hown, hts⟩ (c_X8_fails l G cA o o_now o_saved o_aside o_history o_chains o_buffer o_numbers H.size (1 : Int32) (1 : Int32) v_o_thrown v_o_kept v_o_reason v_2 v_o_isSaved (0 : Int32) v_2 v_3 _ rfl (bnz hm hz)) (cwV 2 hts gX8_read_X8_fails rfl rfl rfl (by decide +kernel) ⟨Nat.le_of_ble_eq_true rfl, Nat.le_of_ble_eq_true rfl⟩) (preMV (q := (RX8, TX8, 15)) hPc hDc hK 0 rfl rfl) rfl rfl hl.1 rfl (lv_room (Nat.le_of_ble_eq_true rfl)) dX8_read_68 ⟨Nat.zero_le _, Nat.zero_le _⟩) hS (fun q _ h => hFc q h) hFc (fun r_37 u_38 t H locs ht hvm hw hB hz1 hk1 hS' => ?_)
      obtain ⟨v_38, rfl⟩ : ∃ z, z = u_38 := ⟨_, rfl⟩
      replace hm := bst hm hw.1
      replace hB : va_P G vwCl _ _ := hB
      rw [ht] at hB
      have hj := va_backB (E := (e_X8_read cA o o_now o_saved o_aside o_history o_chains o_buffer o_numbers v_o_thrown v_o_kept v_o_reason v_2 v_o_isSaved (0 : Int32) v_2 v_3 g_o_now g_o_aside g_o_buffer g_4 gA)) (E' := (e_X8_read cA o o_now o_saved o_aside o_history o_chains o_buffer o_numbers v_38 v_o_kept v_o_reason v_2 v_o_isSaved (0 : Int32) v_2 v_3 g_o_now g_o_aside g_o_buffer g_4 gA)) (B := (gblk cA gA gW)) hP hD [0] rfl hk1 hB [(true, 0), (false, 1), (false, 2), (false, 3), (false, 4), (false, 5)] rfl (by decide) rfl
      replace hP : va_P G vwCl (k_X8_read cA o o_now o_saved o_aside o_history o_chains o_buffer o_numbers v_38 v_o_kept v_o_reason v_2 v_o_isSaved (0 : Int32) v_2 v_3 g_o_now g_o_aside g_o_buffer g_4 gA gW) H := hj.1
      replace hD : va_D A (k_X8_read cA o o_now o_saved o_aside o_history o_chains o_buffer o_numbers v_38 v_o_kept v_o_reason v_2 v_o_isSaved (0 : Int32) v_2 v_3 g_o_now g_o_aside g_o_buffer g_4 gA gW) := hj.2
      replace hS := hS'
      clear hj hPc hDc hFc hB
      refine lv_pop hx hb dX8_read_71 rfl ?_
      refine lv_iconst (v := (0 : Int32)) hx hb dX8_read_72 (by decide) ?_
      exact hret _ _ _ (v_38, v_o_kept, v_o_reason, v_2, (0 : Int32), v_2, v_3, g_o_now, g_o_aside, g_4, gW) _ _ dX8_read_73 rfl hP hS hm.symm
  have L12_6 : ∀ (n : Nat), ∀ (x_39 : Int32) (v_40 : Int32) (v_41 : Int32) (g_42 : Nat → Int32), ∀ (H : Heap) (locs : List Loc) (ls : Array Slot), fuel (m_X8_read_L12 g_o_now g_o_aside gW v_o_kept v_o_reason v_o_errorPosition g_o_buffer v_o_length) n (x_39, v_40, v_41, g_42) = R → va_P G vwCl (k_X8_read cA o o_now o_saved o_aside o_history o_chains o_buffer o_numbers v_o_thrown v_o_kept v_o_reason v_o_errorPosition v_o_isSaved v_o_length v_40 v_41 g_o_now g_o_aside g_o_buffer g_42 gA gW) H → va_D A (k_X8_read cA o o_now o_saved o_aside o_history o_chains o_buffer o_numbers v_o_thrown v_o_kept v_o_reason v_o_errorPosition v_o_isSaved v_o_length v_40 v_41 g_o_now g_o_aside g_o_buffer g_42 gA gW) → va_S A s.heap H locs → lv_has ls 3 [(0, .ref o), (1, .int x_39)] → W p l e ({ frames := 7, cells := 0, slots := 0, locals := 156 } : Room) s m av below meth c H locs 0 0 Q (F0 m 12 ls []) := by
    intro n
    induction n with
    | zero =>
      intro x_39 v_40 v_41 g_42 H locs ls hm hP hD hS hl
      exact (fu0 hm hz).elim
    | succ n ih12 =>
      intro x_39 v_40 v_41 g_42 H locs ls hm hP hD hS hl
      replace hm := fus hm
      generalize fuel (m_X8_read_L12 g_o_now g_o_aside gW v_o_kept v_o_reason v_o_errorPosition g_o_buffer v_o_length) n = rec_43 at hm ih12
      unfold m_X8_read_L12 at hm
      refine lv_aload_n hx hb dX8_read_12 rfl (lv_at hl 0 rfl) ?_
      refine va_get (D := G) (ci := 10) (v := .int v_41) (C := RX8) (T := TX8) (N := 15) hx hb hts i_X8 hown hK.1 hP 0 rfl rfl 13 (by decide) w_1 (fun _ h9 => h9) rfl dX8_read_13 ?_
      refine lv_if_ne (tgt := 45) hx hb dX8_read_16 (by decide) (fun c_44 => ?_) (fun c_44 => ?_)
      · replace hm := ie hm c_44
        exact J45_4 x_39 v_40 v_41 g_42 _ _ _ hm hP hD hS (lv_sub hl [0, 1] rfl)
      · replace hm := it hm c_44
        refine lv_iload_n hx hb dX8_read_19 rfl (lv_at hl 1 rfl) ?_
        have J34_5 :  ∀ (H : Heap) (locs : List Loc) (ls : Array Slot), m_X8_read_J34 g_o_buffer v_o_length x_39 v_40 v_41 g_42 rec_43 () = R → va_P G vwCl (k_X8_read cA o o_now o_saved o_aside o_history o_chains o_buffer o_numbers v_o_thrown v_o_kept v_o_reason v_o_errorPosition v_o_isSaved v_o_length v_40 v_41 g_o_now g_o_aside g_o_buffer g_42 gA gW) H → va_D A (k_X8_read cA o o_now o_saved o_aside o_history o_chains o_buffer o_numbers v_o_thrown v_o_kept v_o_reason v_o_errorPosition v_o_isSaved v_o_length v_40 v_41 g_o_now g_o_aside g_o_buffer g_42 gA gW) → va_S A s.heap H locs → lv_has ls 3 [(0, .ref o), (1, .int x_39)] → W p l e ({ frames := 7, cells := 0, slots := 0, locals := 156 } : Room) s m av below meth c H locs 0 0 Q (F0 m 34 ls []) := by
          intro H locs ls hm hP hD hS hl
          unfold m_X8_read_J34 at hm
          refine lv_aload_n hx hb dX8_read_34 rfl (lv_at hl 0 rfl) ?_
          have hPc := hP.sub (ws' := (k_X8_readCommand cA o o_now o_saved o_aside o_history o_chains o_buffer o_numbers v_o_thrown v_o_kept v_o_reason v_o_errorPosition v_o_isSaved v_o_length v_40 v_41 g_o_buffer g_42)) [0, 4, 5] rfl
          have hDc := hD.sub (ws' := (k_X8_readCommand cA o o_now o_saved o_aside o_history o_chains o_buffer o_numbers v_o_thrown v_o_kept v_o_reason v_o_errorPosition v_o_isSaved v_o_length v_40 v_41 g_o_buffer g_42)) [0, 4, 5] (by decide) rfl
          have hFc := va_free (wc := (k_X8_readCommand cA o o_now o_saved o_aside o_history o_chains o_buffer o_numbers v_o_thrown v_o_kept v_o_reason v_o_errorPosition v_o_isSaved v_o_length v_40 v_41 g_o_buffer g_42)) hD hS hA [0, 4, 5] rfl
          refine va_calli (va_runV (As := []) (rest := []) ⟨hx, hb, hml, hown, hts⟩ (c_X8_readCommand l z G cA o o_now o_saved o_aside o_history o_chains o_buffer o_numbers H.size v_o_thrown v_o_kept v_o_reason v_o_errorPosition v_o_isSaved v_o_length v_40 v_41 g_o_buffer g_42 _ rfl (bnz hm hz)) (cwV 0 hts gX8_read_X8_readCommand rfl rfl rfl (by decide +kernel) ⟨Nat.le_of_ble_eq_true rfl, Nat.le_of_ble_eq_true rfl⟩) (preMVo (q := (RX8, TX8, 15)) hPc hDc hK hT hO hS hFc 0 rfl rfl) rfl rfl hl.1 rfl (lv_room (Nat.le_of_ble_eq_true rfl)) dX8_read_35 ⟨Nat.zero_le _, Nat.zero_le _⟩) hS (fun q _ h => hFc q h) hFc (fun r_45 u_48 t H locs ht hvm hw hB hz1 hk1 hS' => ?_)
          obtain ⟨v_46, v_47, g_48⟩ := u_48
          replace hm := bst hm hw
          replace hB : va_P G vwCl _ _ := hB
          rw [ht] at hB
          have hj := va_backB (E := (e_X8_read cA o o_now o_saved o_aside o_history o_chains o_buffer o_numbers v_o_thrown v_o_kept v_o_reason v_o_errorPosition v_o_isSaved v_o_length v_40 v_41 g_o_now g_o_aside g_o_buffer g_42 gA)) (E' := (e_X8_read cA o o_now o_saved o_aside o_history o_chains o_buffer o_numbers v_o_thrown v_o_kept v_o_reason v_o_errorPosition v_o_isSaved v_o_length v_46 v_47 g_o_now g_o_aside g_o_buffer g_48 gA)) (B := (gblk cA gA gW)) hP hD [0, 4, 5] rfl hk1 hB [(true, 0), (false, 1), (false, 2), (false, 3), (true, 1), (true, 2)] rfl (by decide) rfl
          replace hP : va_P G vwCl (k_X8_read cA o o_now o_saved o_aside o_history o_chains o_buffer o_numbers v_o_thrown v_o_kept v_o_reason v_o_errorPosition v_o_isSaved v_o_length v_46 v_47 g_o_now g_o_aside g_o_buffer g_48 gA gW) H := hj.1
          replace hD : va_D A (k_X8_read cA o o_now o_saved o_aside o_history o_chains o_buffer o_numbers v_o_thrown v_o_kept v_o_reason v_o_errorPosition v_o_isSaved v_o_length v_46 v_47 g_o_now g_o_aside g_o_buffer g_48 gA gW) := hj.2
          replace hS := hS'
          clear hj hPc hDc hFc hB
          refine lv_pop hx hb dX8_read_38 rfl ?_
          refine lv_iinc (v := x_39 + (1 : Int32)) (lv' := [(1, .int (x_39 + (1 : Int32))), (0, .ref o)]) hx hb dX8_read_39 hl (k := 1) rfl rfl (by decide) rfl (fun ls hl => ?_)
          refine lv_goto (tgt := 12) hx hb dX8_read_42 (by decide) ?_
          exact ih12 (x_39 + (1 : Int32)) v_46 v_47 g_48 _ _ _ hm hP hD hS (lv_sub hl [1, 0] rfl)
        refine lv_if_eq (tgt := 34) hx hb dX8_read_20 (by decide) (fun c_49 => ?_) (fun c_49 => ?_)
        · replace hm := it hm c_49
          exact J34_5  _ _ _ hm hP hD hS (lv_sub hl [0, 1] rfl)
        · replace hm := ie hm c_49
          refine lv_aload_n hx hb dX8_read_23 rfl (lv_at hl 0 rfl) ?_
          refine va_get (D := G) (ci := 10) (v := .int v_40) (C := RX8) (T := TX8) (N := 15) hx hb hts i_X8 hown hK.1 hP 0 rfl rfl 12 (by decide) w_0 (fun _ h9 => h9) rfl dX8_read_24 ?_
          refine lv_aload_n hx hb dX8_read_27 rfl (lv_at hl 0 rfl) ?_
          refine va_get (D := G) (ci := 10) (v := .int v_o_length) (C := RX8) (T := TX8) (N := 15) hx hb hts i_X8 hown hK.1 hP 0 rfl rfl 11 (by decide) w_4 (fun _ h9 => h9) rfl dX8_read_28 ?_
          refine lv_icmp_ge (tgt := 45) hx hb dX8_read_31 (by decide) (fun c_50 => ?_) (fun c_50 => ?_)
          · replace hm := it hm c_50
            exact J45_4 x_39 v_40 v_41 g_42 _ _ _ hm hP hD hS (lv_sub hl [0, 1] rfl)
          · replace hm := ie hm c_50
            exact J34_5  _ _ _ hm hP hD hS (lv_sub hl [0, 1] rfl)
  exact L12_6 _ (0 : Int32) (0 : Int32) (0 : Int32) g_o_numbers _ _ _ hm hP hD hS (lv_sub hl [1, 0] rfl)
def m_X8_undo_J14 (g_o_now : Nat → Int32) (gW : Nat → Nat → Int32) (v_o_kept : Int32) : (Int32) → Option (Int32 × Int32 × Int32 × (Nat → Int32)) := fun y_1 => Option.bind (m_X8_fails (1 : Int32) y_1) (fun q => match q with
  | (r_2, v_3) => (if r_2 = 0 then gd (ix (v_o_kept - (1 : Int32)) 6) (Option.bind (m_X8_copyRow (gW (v_o_kept - (1 : Int32)).toNatClampNeg) g_o_now) (fun g_6 => some (v_o_kept - (1 : Int32), v_3, v_o_kept - (1 : Int32), g_6))) else some ((0 : Int32), v_3, v_o_kept, g_o_now)))
def m_X8_undo (v_o_kept : Int32) (g_o_now : Nat → Int32) (gW : Nat → Nat → Int32) : Option (Int32 × Int32 × Int32 × (Nat → Int32)) := (if v_o_kept = 0 then m_X8_undo_J14 g_o_now gW v_o_kept (1 : Int32) else m_X8_undo_J14 g_o_now gW v_o_kept (0 : Int32))
abbrev e_X8_undo (cA : Nat → ClassId) (o o_now o_saved o_aside o_history o_chains o_buffer o_numbers : Nat) (v_o_thrown : Int32) (v_o_kept : Int32) (v_o_reason : Int32) (v_o_errorPosition : Int32) (v_o_isSaved : Int32) (v_o_length : Int32) (v_o_at : Int32) (v_o_isWrong : Int32) (g_o_now : Nat → Int32) (gA : Nat → Nat) : va_W := [(o, .inr (10, [.int v_o_thrown, .ref o_now, .ref o_saved, .ref o_aside, .ref o_history, .int v_o_kept, .int v_o_reason, .int v_o_errorPosition, .int v_o_isSaved, .ref o_chains, .ref o_buffer, .int v_o_length, .int v_o_at, .int v_o_isWrong, .ref o_numbers])), (o_now, .inl (cA 0, 621, .inl g_o_now)), (o_history, .inl (cA 3, 6, .inr (.inr (.inr (.inr (fun j => some (gA j)))))))]
abbrev k_X8_undo (cA : Nat → ClassId) (o o_now o_saved o_aside o_history o_chains o_buffer o_numbers : Nat) (v_o_thrown : Int32) (v_o_kept : Int32) (v_o_reason : Int32) (v_o_errorPosition : Int32) (v_o_isSaved : Int32) (v_o_length : Int32) (v_o_at : Int32) (v_o_isWrong : Int32) (g_o_now : Nat → Int32) (gA : Nat → Nat) (gW : Nat → Nat → Int32) : va_W := e_X8_undo cA o o_now o_saved o_aside o_history o_chains o_buffer o_numbers v_o_thrown v_o_kept v_o_reason v_o_errorPosition v_o_isSaved v_o_length v_o_at v_o_isWrong g_o_now gA ++ gblk cA gA gW
set_option maxHeartbeats 4000000 in
set_option maxRecDepth 100000 in
/-- X8_undo: as its model -/
theorem c_X8_undo (l : Launch) (G : va_G) (cA : Nat → ClassId) (o o_now o_saved o_aside o_history o_chains o_buffer o_numbers : Nat) (sz : Nat) (v_o_thrown : Int32) (v_o_kept : Int32) (v_o_reason : Int32) (v_o_errorPosition : Int32) (v_o_isSaved : Int32) (v_o_length : Int32) (v_o_at : Int32) (v_o_isWrong : Int32) (g_o_now : Nat → Int32) (gA : Nat → Nat) (gW : Nat → Nat → Int32) (R : Option (Int32 × Int32 × Int32 × (Nat → Int32))) (hR : m_X8_undo v_o_kept g_o_now gW = R) (hz : R ≠ none) : Met l yX8_undo wsX8_undo ({ frames := 1, cells := 0, slots := 0, locals := 22 } : Room) (va_Pc [.ref o] (PM G cA (k_X8_undo cA o o_now o_saved o_aside o_history o_chains o_buffer o_numbers v_o_thrown v_o_kept v_o_reason v_o_errorPosition v_o_isSaved v_o_length v_o_at v_o_isWrong g_o_now gA gW) sz)) (va_Qi (fun (r : Int32) (u : Int32 × Int32 × (Nat → Int32)) => R = some (r, u)) (BM G (fun (u : Int32 × Int32 × (Nat → Int32)) => (k_X8_undo cA o o_now o_saved o_aside o_history o_chains o_buffer o_numbers u.1 u.2.1 v_o_reason v_o_errorPosition v_o_isSaved v_o_length v_o_at v_o_isWrong u.2.2 gA gW))) (va_A (k_X8_undo cA o o_now o_saved o_aside o_history o_chains o_buffer o_numbers v_o_thrown v_o_kept v_o_reason v_o_errorPosition v_o_isSaved v_o_length v_o_at v_o_isWrong g_o_now gA gW) sz)) 0 0 (va_A (k_X8_undo cA o o_now o_saved o_aside o_history o_chains o_buffer o_numbers v_o_thrown v_o_kept v_o_reason v_o_errorPosition v_o_isSaved v_o_length v_o_at v_o_isWrong g_o_now gA gW) sz) := by
  refine metM .int (by decide) rfl (Nat.le_of_ble_eq_true rfl) ?_
  intro p e s m av below meth c Q ls A H hx hb hml hts hown hP hK hD hA hS hl hret
  replace hl : lv_has ls 1 [(0, .ref o)] := hl
  have w_0 := hts (.fieldLink RX8 41 "ParcelRegistryModel" "kept" "I") (by decide +kernel)
  have w_1 := hts (.fieldLink RX8 21 "ParcelRegistryModel" "history" "[[I") (by decide +kernel)
  have w_2 := hts (.fieldLink RX8 9 "ParcelRegistryModel" "now" "[I") (by decide +kernel)
  have i_X8 : ∀ w ∈ wsX80, w ∈ wsX8_undo := by decide +kernel
  have hm := hR
  unfold m_X8_undo at hm
  refine lv_aload_n hx hb dX8_undo_0 rfl (lv_at hl 0 rfl) ?_
  refine lv_iconst (v := (1 : Int32)) hx hb dX8_undo_1 (by decide) ?_
  refine lv_aload_n hx hb dX8_undo_2 rfl (lv_at hl 0 rfl) ?_
  refine va_get (D := G) (ci := 10) (v := .int v_o_kept) (C := RX8) (T := TX8) (N := 15) hx hb hts i_X8 hown hK.1 hP 0 rfl rfl 5 (by decide) w_0 (fun _ h9 => h9) rfl dX8_undo_3 ?_
  have J14_1 : ∀ (y_1 : Int32), ∀ (H : Heap) (locs : List Loc) (ls : Array Slot), m_X8_undo_J14 g_o_now gW v_o_kept y_1 = R → va_P G vwCl (k_X8_undo cA o o_now o_saved o_aside o_history o_chains o_buffer o_numbers v_o_thrown v_o_kept v_o_reason v_o_errorPosition v_o_isSaved v_o_length v_o_at v_o_isWrong g_o_now gA gW) H → va_D A (k_X8_undo cA o o_now o_saved o_aside o_history o_chains o_buffer o_numbers v_o_thrown v_o_kept v_o_reason v_o_errorPosition v_o_isSaved v_o_length v_o_at v_o_isWrong g_o_now gA gW) → va_S A s.heap H locs → lv_has ls 1 [(0, .ref o)] → W p l e ({ frames := 1, cells := 0, slots := 0, locals := 22 } : Room) s m av below meth c H locs 0 0 Q (F0 m 14 ls [.int y_1, .int (1 : Int32), .ref o]) := by
    intro y_1 H locs ls hm hP hD hS hl
    unfold m_X8_undo_J14 at hm
    have hPc := hP.sub (ws' := (k_X8_fails cA o o_now o_saved o_aside o_history o_chains o_buffer o_numbers v_o_thrown v_o_kept v_o_reason v_o_errorPosition v_o_isSaved v_o_length v_o_at v_o_isWrong)) [0] rfl
    have hDc := hD.sub (ws' := (k_X8_fails cA o o_now o_saved o_aside o_history o_chains o_buffer o_numbers v_o_thrown v_o_kept v_o_reason v_o_errorPosition v_o_isSaved v_o_length v_o_at v_o_isWrong)) [0] (by decide) rfl
    have hFc := va_free (wc := (k_X8_fails cA o o_now o_saved o_aside o_history o_chains o_buffer o_numbers v_o_thrown v_o_kept v_o_reason v_o_errorPosition v_o_isSaved v_o_length v_o_at v_o_isWrong)) hD hS hA [0] rfl
    refine va_calli (va_runV (As := [.int (1 : Int32), .int y_1]) (rest := []) ⟨hx, hb, hml, hown, hts⟩ (c_X8_fails l G cA o o_now o_saved o_aside o_history o_chains o_buffer o_numbers H.size (1 : Int32) y_1 v_o_thrown v_o_kept v_o_reason v_o_errorPosition v_o_isSaved v_o_length v_o_at v_o_isWrong _ rfl (bnz hm hz)) (cwV 2 hts gX8_undo_X8_fails rfl rfl rfl (by decide +kernel) ⟨Nat.le_of_ble_eq_true rfl, Nat.le_of_ble_eq_true rfl⟩) (preMV (q := (RX8, TX8, 15)) hPc hDc hK 0 rfl rfl) rfl rfl hl.1 rfl (lv_room (Nat.le_of_ble_eq_true rfl)) dX8_undo_14 ⟨Nat.zero_le _, Nat.zero_le _⟩) hS (fun q _ h => hFc q h) hFc (fun r_2 u_3 t H locs ht hvm hw hB hz1 hk1 hS' => ?_)
    obtain ⟨v_3, rfl⟩ : ∃ z, z = u_3 := ⟨_, rfl⟩
    replace hm := bst hm hw.1
    replace hB : va_P G vwCl _ _ := hB
    rw [ht] at hB
    have hj := va_backB (E := (e_X8_undo cA o o_now o_saved o_aside o_history o_chains o_buffer o_numbers v_o_thrown v_o_kept v_o_reason v_o_errorPosition v_o_isSaved v_o_length v_o_at v_o_isWrong g_o_now gA)) (E' := (e_X8_undo cA o o_now o_saved o_aside o_history o_chains o_buffer o_numbers v_3 v_o_kept v_o_reason v_o_errorPosition v_o_isSaved v_o_length v_o_at v_o_isWrong g_o_now gA)) (B := (gblk cA gA gW)) hP hD [0] rfl hk1 hB [(true, 0), (false, 1), (false, 2)] rfl (by decide) rfl
    replace hP : va_P G vwCl (k_X8_undo cA o o_now o_saved o_aside o_history o_chains o_buffer o_numbers v_3 v_o_kept v_o_reason v_o_errorPosition v_o_isSaved v_o_length v_o_at v_o_isWrong g_o_now gA gW) H := hj.1
    replace hD : va_D A (k_X8_undo cA o o_now o_saved o_aside o_history o_chains o_buffer o_numbers v_3 v_o_kept v_o_reason v_o_errorPosition v_o_isSaved v_o_length v_o_at v_o_isWrong g_o_now gA gW) := hj.2
    replace hS := hS'
    clear hj hPc hDc hFc hB
    refine lv_if_eq (tgt := 22) hx hb dX8_undo_17 (by decide) (fun c_4 => ?_) (fun c_4 => ?_)
    · replace hm := it hm c_4
      refine lv_aload_n hx hb dX8_undo_22 rfl (lv_at hl 0 rfl) ?_
      refine lv_dup hx hb dX8_undo_23 rfl ?_
      refine va_get (D := G) (ci := 10) (v := .int v_o_kept) (C := RX8) (T := TX8) (N := 15) hx hb hts i_X8 hown hK.1 hP 0 rfl rfl 5 (by decide) w_0 (fun _ h9 => h9) rfl dX8_undo_24 ?_
      refine lv_iconst (v := (1 : Int32)) hx hb dX8_undo_27 (by decide) ?_
      refine lv_isub hx hb dX8_undo_28 ?_
      refine va_put (D := G) (ci := 10) (v := .int (v_o_kept - (1 : Int32))) (ty := .int) (C := RX8) (T := TX8) (N := 15) hx hb hts i_X8 tyX8 tyX8_ok nmX8 hown hK.1 hP hD hS 0 rfl rfl 5 (by decide) w_0 (fun _ h9 => h9) rfl (by decide +kernel) rfl rfl (Nat.le_of_ble_eq_true rfl) dX8_undo_29 (fun H locs hP' hD' hS' => ?_)
      replace hP : va_P G vwCl (k_X8_undo cA o o_now o_saved o_aside o_history o_chains o_buffer o_numbers v_3 (v_o_kept - (1 : Int32)) v_o_reason v_o_errorPosition v_o_isSaved v_o_length v_o_at v_o_isWrong g_o_now gA gW) H := hP'
      replace hD : va_D A (k_X8_undo cA o o_now o_saved o_aside o_history o_chains o_buffer o_numbers v_3 (v_o_kept - (1 : Int32)) v_o_reason v_o_errorPosition v_o_isSaved v_o_length v_o_at v_o_isWrong g_o_now gA gW) := hD'
      replace hS := hS'
      refine lv_aload_n hx hb dX8_undo_32 rfl (lv_at hl 0 rfl) ?_
      refine va_get (D := G) (ci := 10) (v := .ref o_history) (C := RX8) (T := TX8) (N := 15) hx hb hts i_X8 hown hK.1 hP 0 rfl rfl 4 (by decide) w_1 (fun _ h9 => h9) rfl dX8_undo_33 ?_
      refine lv_aload_n hx hb dX8_undo_36 rfl (lv_at hl 0 rfl) ?_
      refine va_get (D := G) (ci := 10) (v := .int (v_o_kept - (1 : Int32))) (C := RX8) (T := TX8) (N := 15) hx hb hts i_X8 hown hK.1 hP 0 rfl rfl 5 (by decide) w_0 (fun _ h9 => h9) rfl dX8_undo_37 ?_
      replace hm := gdo hm hz
      obtain ⟨gi_5, hm⟩ := hm
      refine va_aldA hx hb hK.1 hP 2 3 (cA := cA 3) (ty := .int) (n := 6) (f := fun j => some (gA j)) rfl rfl (ixi gi_5) dX8_undo_40 ?_
      refine W.eq (g2 := F0 m 41 ls [.ref (gA (v_o_kept - (1 : Int32)).toNatClampNeg)]) rfl ?_
      refine lv_aload_n hx hb dX8_undo_41 rfl (lv_at hl 0 rfl) ?_
      refine va_get (D := G) (ci := 10) (v := .ref o_now) (C := RX8) (T := TX8) (N := 15) hx hb hts i_X8 hown hK.1 hP 0 rfl rfl 1 (by decide) w_2 (fun _ h9 => h9) rfl dX8_undo_42 ?_
      have hp : (k_X8_undo cA o o_now o_saved o_aside o_history o_chains o_buffer o_numbers v_3 (v_o_kept - (1 : Int32)) v_o_reason v_o_errorPosition v_o_isSaved v_o_length v_o_at v_o_isWrong g_o_now gA gW).Perm ([((gA (v_o_kept - (1 : Int32)).toNatClampNeg), .inl (cA 0, 621, .inl (gW (v_o_kept - (1 : Int32)).toNatClampNeg))), (o_now, .inl (cA 0, 621, .inl g_o_now))] ++ ((e_X8_undo cA o o_now o_saved o_aside o_history o_chains o_buffer o_numbers v_3 (v_o_kept - (1 : Int32)) v_o_reason v_o_errorPosition v_o_isSaved v_o_length v_o_at v_o_isWrong g_o_now gA).eraseIdx 1 ++ (gblkR cA gA gW (v_o_kept - (1 : Int32)).toNatClampNeg))) := gc_C 1 rfl (gp_perm (ixn gi_5))
      have hPc : va_P G vwCl (k_X8_copyRow cA (gA (v_o_kept - (1 : Int32)).toNatClampNeg) o_now (gW (v_o_kept - (1 : Int32)).toNatClampNeg) g_o_now) H := (hP.perm hp).left
      have hDc : va_D A (k_X8_copyRow cA (gA (v_o_kept - (1 : Int32)).toNatClampNeg) o_now (gW (v_o_kept - (1 : Int32)).toNatClampNeg) g_o_now) := (hD.perm hp).left
      have hFc := va_freePm hp hD hS hA
      refine va_callv (va_runS (As := [.ref (gA (v_o_kept - (1 : Int32)).toNatClampNeg), .ref o_now]) (rest := []) ⟨hx, hb, hml, hown, hts⟩ (c_X8_copyRow l G cA (gA (v_o_kept - (1 : Int32)).toNatClampNeg) o_now H.size (gW (v_o_kept - (1 : Int32)).toNatClampNeg) g_o_now _ rfl (bnz hm hz)) (va_cwS 2 hts gX8_undo_X8_copyRow rfl rfl rfl (by decide +kernel) ⟨Nat.le_of_ble_eq_true rfl, Nat.le_of_ble_eq_true rfl⟩) (preMS hPc hDc hK) rfl rfl hl.1 rfl (lv_room (Nat.le_of_ble_eq_true rfl)) dX8_undo_45 ⟨Nat.zero_le _, Nat.zero_le _⟩) hS (fun q _ h => hFc q h) hFc (fun g_6 t H locs ht hvm hw hB hz1 hk1 hS' => ?_)
      replace hm := bst hm hw
      replace hB : va_P G vwCl (k_X8_copyRow cA (gA (v_o_kept - (1 : Int32)).toNatClampNeg) o_now (gW (v_o_kept - (1 : Int32)).toNatClampNeg) g_6) t.heap := hB
      rw [ht] at hB
      have hj := va_backP hp hP hD hk1 hB rfl
      have hp2 : (k_X8_undo cA o o_now o_saved o_aside o_history o_chains o_buffer o_numbers v_3 (v_o_kept - (1 : Int32)) v_o_reason v_o_errorPosition v_o_isSaved v_o_length v_o_at v_o_isWrong g_6 gA gW).Perm ([((gA (v_o_kept - (1 : Int32)).toNatClampNeg), .inl (cA 0, 621, .inl (gW (v_o_kept - (1 : Int32)).toNatClampNeg))), (o_now, .inl (cA 0, 621, .inl g_6))] ++ ((e_X8_undo cA o o_now o_saved o_aside o_history o_chains o_buffer o_numbers v_3 (v_o_kept - (1 : Int32)) v_o_reason v_o_errorPosition v_o_isSaved v_o_length v_o_at v_o_isWrong g_o_now gA).eraseIdx 1 ++ (gblkR cA gA gW (v_o_kept - (1 : Int32)).toNatClampNeg))) := gc_C 1 rfl (gp_perm (ixn gi_5))
      replace hP : va_P G vwCl (k_X8_undo cA o o_now o_saved o_aside o_history o_chains o_buffer o_numbers v_3 (v_o_kept - (1 : Int32)) v_o_reason v_o_errorPosition v_o_isSaved v_o_length v_o_at v_o_isWrong g_6 gA gW) H := hj.1.perm hp2.symm
      replace hD : va_D A (k_X8_undo cA o o_now o_saved o_aside o_history o_chains o_buffer o_numbers v_3 (v_o_kept - (1 : Int32)) v_o_reason v_o_errorPosition v_o_isSaved v_o_length v_o_at v_o_isWrong g_6 gA gW) := hj.2.perm hp2.symm
      replace hS := hS'
      clear hj hp hp2 hPc hDc hFc hB
      refine lv_aload_n hx hb dX8_undo_48 rfl (lv_at hl 0 rfl) ?_
      refine va_get (D := G) (ci := 10) (v := .int (v_o_kept - (1 : Int32))) (C := RX8) (T := TX8) (N := 15) hx hb hts i_X8 hown hK.1 hP 0 rfl rfl 5 (by decide) w_0 (fun _ h9 => h9) rfl dX8_undo_49 ?_
      exact hret _ _ _ (v_3, v_o_kept - (1 : Int32), g_6) _ _ dX8_undo_52 rfl hP hS hm.symm
    · replace hm := ie hm c_4
      refine lv_iconst (v := (0 : Int32)) hx hb dX8_undo_20 (by decide) ?_
      exact hret _ _ _ (v_3, v_o_kept, g_o_now) _ _ dX8_undo_21 rfl hP hS hm.symm
  refine lv_if_ne (tgt := 13) hx hb dX8_undo_6 (by decide) (fun c_7 => ?_) (fun c_7 => ?_)
  · replace hm := ie hm c_7
    refine lv_iconst (v := (0 : Int32)) hx hb dX8_undo_13 (by decide) ?_
    exact J14_1 (0 : Int32) _ _ _ hm hP hD hS (lv_sub hl [0] rfl)
  · replace hm := it hm c_7
    refine lv_iconst (v := (1 : Int32)) hx hb dX8_undo_9 (by decide) ?_
    refine lv_goto (tgt := 14) hx hb dX8_undo_10 (by decide) ?_
    exact J14_1 (1 : Int32) _ _ _ hm hP hD hS (lv_sub hl [0] rfl)
