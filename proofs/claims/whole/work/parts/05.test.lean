
def m_X4_has (p1 : Int32) (v_o_count : Int32) : Option (Int32) := (if p1 < 0 then some (0 : Int32) else (if v_o_count ≤ p1 then some (0 : Int32) else some (1 : Int32)))
abbrev k_X4_has (cA : Nat → ClassId) (o o_area o_firstDay o_lastDay o_neighbours o_parents o_root : Nat) (v_o_count : Int32) : va_W := [(o, .inr (6, [.int v_o_count, .ref o_area, .ref o_firstDay, .ref o_lastDay, .ref o_neighbours, .ref o_parents, .ref o_root]))]
set_option maxHeartbeats 4000000 in
set_option maxRecDepth 100000 in
/-- X4_has: as its model -/
theorem c_X4_has (l : Launch) (G : va_G) (cA : Nat → ClassId) (o o_area o_firstDay o_lastDay o_neighbours o_parents o_root : Nat) (p1 : Int32) (v_o_count : Int32) (R : Option (Int32)) (hR : m_X4_has p1 v_o_count = R) (hz : R ≠ none) : Met l yX4_has wsX4_has ({ frames := 0, cells := 0, slots := 0, locals := 0 } : Room) (va_Pc [.ref o, .int p1] (PR G cA (k_X4_has cA o o_area o_firstDay o_lastDay o_neighbours o_parents o_root v_o_count))) (vp_Si (fun r => R = some r ∧ (r = 0 ∨ r = 1))) 0 0 (fun _ => False) := by
  refine metR .boolean (by decide) rfl (Nat.le_of_ble_eq_true rfl) ?_
  intro p e s m av below meth c Q ls hx hb hml hts hown hP hK hl hret
  replace hl : lv_has ls 2 [(0, .ref o), (1, .int p1)] := hl
  have w_0 := hts (.fieldLink RX4 9 "ParcelRegistry$Parcels" "count" "I") (by decide +kernel)
  have i_X4 : ∀ w ∈ wsX40, w ∈ wsX4_has := by decide +kernel
  have hm := hR
  unfold m_X4_has at hm
  refine lv_iload_n hx hb dX4_has_0 rfl (lv_at hl 1 rfl) ?_
  refine lv_if_lt (tgt := 16) hx hb dX4_has_1 (by decide) (fun c_1 => ?_) (fun c_1 => ?_)
  · replace hm := it hm c_1
    refine lv_iconst (v := (0 : Int32)) hx hb dX4_has_16 (by decide) ?_
    exact hret _ _ _ dX4_has_17 rfl ⟨hm.symm, (by decide)⟩
  · replace hm := ie hm c_1
    refine lv_iload_n hx hb dX4_has_4 rfl (lv_at hl 1 rfl) ?_
    refine lv_aload_n hx hb dX4_has_5 rfl (lv_at hl 0 rfl) ?_
    refine va_get (D := G) (ci := 6) (v := .int v_o_count) (C := RX4) (T := TX4) (N := 7) hx hb hts i_X4 hown hK.1 hP 0 rfl rfl 0 (by decide) w_0 (fun _ h9 => h9) rfl dX4_has_6 ?_
    refine lv_icmp_ge (tgt := 16) hx hb dX4_has_9 (by decide) (fun c_2 => ?_) (fun c_2 => ?_)
    · replace hm := it hm c_2
      refine lv_iconst (v := (0 : Int32)) hx hb dX4_has_16 (by decide) ?_
      exact hret _ _ _ dX4_has_17 rfl ⟨hm.symm, (by decide)⟩
    · replace hm := ie hm c_2
      refine lv_iconst (v := (1 : Int32)) hx hb dX4_has_12 (by decide) ?_
      refine lv_goto (tgt := 17) hx hb dX4_has_13 (by decide) ?_
      exact hret _ _ _ dX4_has_17 rfl ⟨hm.symm, (by decide)⟩

def m_X4_isPresent (p1 : Int32) (v_o_count : Int32) (g_o_lastDay : Nat → Int32) : Option (Int32) := Option.bind (m_X4_has p1 v_o_count) (fun r_1 => (if r_1 = 0 then some (0 : Int32) else gd (ix p1 24) ((if (g_o_lastDay p1.toNatClampNeg) = (-1 : Int32) then some (1 : Int32) else some (0 : Int32)))))
abbrev k_X4_isPresent (cA : Nat → ClassId) (o o_area o_firstDay o_lastDay o_neighbours o_parents o_root : Nat) (v_o_count : Int32) (g_o_lastDay : Nat → Int32) : va_W := [(o, .inr (6, [.int v_o_count, .ref o_area, .ref o_firstDay, .ref o_lastDay, .ref o_neighbours, .ref o_parents, .ref o_root])), (o_lastDay, .inl (cA 0, 24, .inl g_o_lastDay))]
set_option maxHeartbeats 4000000 in
set_option maxRecDepth 100000 in
/-- X4_isPresent: as its model -/
theorem c_X4_isPresent (l : Launch) (G : va_G) (cA : Nat → ClassId) (o o_area o_firstDay o_lastDay o_neighbours o_parents o_root : Nat) (p1 : Int32) (v_o_count : Int32) (g_o_lastDay : Nat → Int32) (R : Option (Int32)) (hR : m_X4_isPresent p1 v_o_count g_o_lastDay = R) (hz : R ≠ none) : Met l yX4_isPresent wsX4_isPresent ({ frames := 1, cells := 0, slots := 0, locals := 21 } : Room) (va_Pc [.ref o, .int p1] (PR G cA (k_X4_isPresent cA o o_area o_firstDay o_lastDay o_neighbours o_parents o_root v_o_count g_o_lastDay))) (vp_Si (fun r => R = some r ∧ (r = 0 ∨ r = 1))) 0 0 (fun _ => False) := by
  refine metR .boolean (by decide) rfl (Nat.le_of_ble_eq_true rfl) ?_
  intro p e s m av below meth c Q ls hx hb hml hts hown hP hK hl hret
  replace hl : lv_has ls 2 [(0, .ref o), (1, .int p1)] := hl
  have w_0 := hts (.fieldLink RX4 22 "ParcelRegistry$Parcels" "lastDay" "[I") (by decide +kernel)
  have i_X4 : ∀ w ∈ wsX40, w ∈ wsX4_isPresent := by decide +kernel
  have hm := hR
  unfold m_X4_isPresent at hm
  refine lv_aload_n hx hb dX4_isPresent_0 rfl (lv_at hl 0 rfl) ?_
  refine lv_iload_n hx hb dX4_isPresent_1 rfl (lv_at hl 1 rfl) ?_
  refine vp_callSi (va_Run.run (va_runV (As := [.int p1]) (rest := []) ⟨hx, hb, hml, hown, hts⟩ (c_X4_has l G cA o o_area o_firstDay o_lastDay o_neighbours o_parents o_root p1 v_o_count _ rfl (bnz hm hz)) (cwV 1 hts gX4_isPresent_X4_has rfl rfl rfl (by decide +kernel) ⟨Nat.le_of_ble_eq_true rfl, Nat.le_of_ble_eq_true rfl⟩) (preRV (q := (RX4, TX4, 7)) (hP.sub [0] rfl) hK 0 rfl rfl) rfl rfl hl.1 rfl (lv_room (Nat.le_of_ble_eq_true rfl)) dX4_isPresent_2 ⟨Nat.zero_le _, Nat.zero_le _⟩)) (fun r_1 hw => ?_)
  replace hm := bst hm hw.1
  refine lv_if_eq (tgt := 22) hx hb dX4_isPresent_5 (by decide) (fun c_2 => ?_) (fun c_2 => ?_)
  · replace hm := it hm c_2
    refine lv_iconst (v := (0 : Int32)) hx hb dX4_isPresent_22 (by decide) ?_
    exact hret _ _ _ dX4_isPresent_23 rfl ⟨hm.symm, (by decide)⟩
  · replace hm := ie hm c_2
    refine lv_aload_n hx hb dX4_isPresent_8 rfl (lv_at hl 0 rfl) ?_
    refine va_get (D := G) (ci := 6) (v := .ref o_lastDay) (C := RX4) (T := TX4) (N := 7) hx hb hts i_X4 hown hK.1 hP 0 rfl rfl 3 (by decide) w_0 (fun _ h9 => h9) rfl dX4_isPresent_9 ?_
    refine lv_iload_n hx hb dX4_isPresent_12 rfl (lv_at hl 1 rfl) ?_
    replace hm := gdo hm hz
    obtain ⟨gi_3, hm⟩ := hm
    refine va_iald hx hb hK.1 hP 1 0 (cA := cA 0) (n := 24) (f := g_o_lastDay) rfl rfl (ixi gi_3) dX4_isPresent_13 ?_
    refine lv_iconst (v := (-1 : Int32)) hx hb dX4_isPresent_14 (by decide) ?_
    refine lv_icmp_ne (tgt := 22) hx hb dX4_isPresent_15 (by decide) (fun c_4 => ?_) (fun c_4 => ?_)
    · replace hm := ie hm c_4
      refine lv_iconst (v := (0 : Int32)) hx hb dX4_isPresent_22 (by decide) ?_
      exact hret _ _ _ dX4_isPresent_23 rfl ⟨hm.symm, (by decide)⟩
    · replace hm := it hm c_4
      refine lv_iconst (v := (1 : Int32)) hx hb dX4_isPresent_18 (by decide) ?_
      refine lv_goto (tgt := 23) hx hb dX4_isPresent_19 (by decide) ?_
      exact hret _ _ _ dX4_isPresent_23 rfl ⟨hm.symm, (by decide)⟩

def m_X4_neighboursOf (p1 : Int32) (v_o_count : Int32) (g_o_neighbours : Nat → Int32) : Option (Int32) := Option.bind (m_X4_has p1 v_o_count) (fun r_1 => (if r_1 = 0 then some (0 : Int32) else gd (ix p1 24) (some (g_o_neighbours p1.toNatClampNeg))))
abbrev k_X4_neighboursOf (cA : Nat → ClassId) (o o_area o_firstDay o_lastDay o_neighbours o_parents o_root : Nat) (v_o_count : Int32) (g_o_neighbours : Nat → Int32) : va_W := [(o, .inr (6, [.int v_o_count, .ref o_area, .ref o_firstDay, .ref o_lastDay, .ref o_neighbours, .ref o_parents, .ref o_root])), (o_neighbours, .inl (cA 0, 24, .inl g_o_neighbours))]
set_option maxHeartbeats 4000000 in
set_option maxRecDepth 100000 in
/-- X4_neighboursOf: as its model -/
theorem c_X4_neighboursOf (l : Launch) (G : va_G) (cA : Nat → ClassId) (o o_area o_firstDay o_lastDay o_neighbours o_parents o_root : Nat) (p1 : Int32) (v_o_count : Int32) (g_o_neighbours : Nat → Int32) (R : Option (Int32)) (hR : m_X4_neighboursOf p1 v_o_count g_o_neighbours = R) (hz : R ≠ none) : Met l yX4_neighboursOf wsX4_neighboursOf ({ frames := 1, cells := 0, slots := 0, locals := 21 } : Room) (va_Pc [.ref o, .int p1] (PR G cA (k_X4_neighboursOf cA o o_area o_firstDay o_lastDay o_neighbours o_parents o_root v_o_count g_o_neighbours))) (vp_Si (fun r => R = some r)) 0 0 (fun _ => False) := by
  refine metR .int (by decide) rfl (Nat.le_of_ble_eq_true rfl) ?_
  intro p e s m av below meth c Q ls hx hb hml hts hown hP hK hl hret
  replace hl : lv_has ls 2 [(0, .ref o), (1, .int p1)] := hl
  have w_0 := hts (.fieldLink RX4 25 "ParcelRegistry$Parcels" "neighbours" "[I") (by decide +kernel)
  have i_X4 : ∀ w ∈ wsX40, w ∈ wsX4_neighboursOf := by decide +kernel
  have hm := hR
  unfold m_X4_neighboursOf at hm
  refine lv_aload_n hx hb dX4_neighboursOf_0 rfl (lv_at hl 0 rfl) ?_
  refine lv_iload_n hx hb dX4_neighboursOf_1 rfl (lv_at hl 1 rfl) ?_
  refine vp_callSi (va_Run.run (va_runV (As := [.int p1]) (rest := []) ⟨hx, hb, hml, hown, hts⟩ (c_X4_has l G cA o o_area o_firstDay o_lastDay o_neighbours o_parents o_root p1 v_o_count _ rfl (bnz hm hz)) (cwV 1 hts gX4_neighboursOf_X4_has rfl rfl rfl (by decide +kernel) ⟨Nat.le_of_ble_eq_true rfl, Nat.le_of_ble_eq_true rfl⟩) (preRV (q := (RX4, TX4, 7)) (hP.sub [0] rfl) hK 0 rfl rfl) rfl rfl hl.1 rfl (lv_room (Nat.le_of_ble_eq_true rfl)) dX4_neighboursOf_2 ⟨Nat.zero_le _, Nat.zero_le _⟩)) (fun r_1 hw => ?_)
  replace hm := bst hm hw.1
  refine lv_if_eq (tgt := 17) hx hb dX4_neighboursOf_5 (by decide) (fun c_2 => ?_) (fun c_2 => ?_)
  · replace hm := it hm c_2
    refine lv_iconst (v := (0 : Int32)) hx hb dX4_neighboursOf_17 (by decide) ?_
    exact hret _ _ _ dX4_neighboursOf_18 rfl hm.symm
  · replace hm := ie hm c_2
    refine lv_aload_n hx hb dX4_neighboursOf_8 rfl (lv_at hl 0 rfl) ?_
    refine va_get (D := G) (ci := 6) (v := .ref o_neighbours) (C := RX4) (T := TX4) (N := 7) hx hb hts i_X4 hown hK.1 hP 0 rfl rfl 4 (by decide) w_0 (fun _ h9 => h9) rfl dX4_neighboursOf_9 ?_
    refine lv_iload_n hx hb dX4_neighboursOf_12 rfl (lv_at hl 1 rfl) ?_
    replace hm := gdo hm hz
    obtain ⟨gi_3, hm⟩ := hm
    refine va_iald hx hb hK.1 hP 1 0 (cA := cA 0) (n := 24) (f := g_o_neighbours) rfl rfl (ixi gi_3) dX4_neighboursOf_13 ?_
    refine lv_goto (tgt := 18) hx hb dX4_neighboursOf_14 (by decide) ?_
    exact hret _ _ _ dX4_neighboursOf_18 rfl hm.symm

def m_X7_isIn (p1 : Int32) (p2 : Int32) : Option (Int32) := (if (((p1.toUInt32 >>> (p2.toUInt32 &&& Int32.toUInt32 31)).toInt32) &&& (1 : Int32)) = 0 then some (0 : Int32) else some (1 : Int32))
abbrev k_X7_isIn (cA : Nat → ClassId)  : va_W := []
set_option maxHeartbeats 4000000 in
set_option maxRecDepth 100000 in
/-- X7_isIn: as its model -/
theorem c_X7_isIn (l : Launch) (G : va_G) (cA : Nat → ClassId) (p1 : Int32) (p2 : Int32) (R : Option (Int32)) (hR : m_X7_isIn p1 p2 = R) (hz : R ≠ none) : Met l yX7_isIn wsX7_isIn ({ frames := 0, cells := 0, slots := 0, locals := 0 } : Room) (va_Pc [.int p1, .int p2] (PR G cA (k_X7_isIn cA))) (vp_Si (fun r => R = some r ∧ (r = 0 ∨ r = 1))) 0 0 (fun _ => False) := by
  refine metR .boolean (by decide) rfl (Nat.le_of_ble_eq_true rfl) ?_
  intro p e s m av below meth c Q ls hx hb hml hts hown hP hK hl hret
  replace hl : lv_has ls 2 [(0, .int p1), (1, .int p2)] := hl
  have hm := hR
  unfold m_X7_isIn at hm
  refine lv_iload_n hx hb dX7_isIn_0 rfl (lv_at hl 0 rfl) ?_
  refine lv_iload_n hx hb dX7_isIn_1 rfl (lv_at hl 1 rfl) ?_
  refine lv_iushr hx hb dX7_isIn_2 rfl ?_
  refine lv_iconst (v := (1 : Int32)) hx hb dX7_isIn_3 (by decide) ?_
  refine lv_iand hx hb dX7_isIn_4 ?_
  refine lv_if_eq (tgt := 12) hx hb dX7_isIn_5 (by decide) (fun c_1 => ?_) (fun c_1 => ?_)
  · replace hm := it hm c_1
    refine lv_iconst (v := (0 : Int32)) hx hb dX7_isIn_12 (by decide) ?_
    exact hret _ _ _ dX7_isIn_13 rfl ⟨hm.symm, (by decide)⟩
  · replace hm := ie hm c_1
    refine lv_iconst (v := (1 : Int32)) hx hb dX7_isIn_8 (by decide) ?_
    refine lv_goto (tgt := 13) hx hb dX7_isIn_9 (by decide) ?_
    exact hret _ _ _ dX7_isIn_13 rfl ⟨hm.symm, (by decide)⟩

def m_X4_areNeighbours (p1 : Int32) (p2 : Int32) (v_o_count : Int32) (g_o_neighbours : Nat → Int32) : Option (Int32) := Option.bind (m_X4_neighboursOf p1 v_o_count g_o_neighbours) (fun r_1 => Option.bind (m_X7_isIn r_1 p2) (fun r_2 => some r_2))
abbrev k_X4_areNeighbours (cA : Nat → ClassId) (o o_area o_firstDay o_lastDay o_neighbours o_parents o_root : Nat) (v_o_count : Int32) (g_o_neighbours : Nat → Int32) : va_W := [(o, .inr (6, [.int v_o_count, .ref o_area, .ref o_firstDay, .ref o_lastDay, .ref o_neighbours, .ref o_parents, .ref o_root])), (o_neighbours, .inl (cA 0, 24, .inl g_o_neighbours))]
set_option maxHeartbeats 4000000 in
set_option maxRecDepth 100000 in
/-- X4_areNeighbours: as its model -/
theorem c_X4_areNeighbours (l : Launch) (G : va_G) (cA : Nat → ClassId) (o o_area o_firstDay o_lastDay o_neighbours o_parents o_root : Nat) (p1 : Int32) (p2 : Int32) (v_o_count : Int32) (g_o_neighbours : Nat → Int32) (R : Option (Int32)) (hR : m_X4_areNeighbours p1 p2 v_o_count g_o_neighbours = R) (hz : R ≠ none) : Met l yX4_areNeighbours wsX4_areNeighbours ({ frames := 2, cells := 0, slots := 0, locals := 42 } : Room) (va_Pc [.ref o, .int p1, .int p2] (PR G cA (k_X4_areNeighbours cA o o_area o_firstDay o_lastDay o_neighbours o_parents o_root v_o_count g_o_neighbours))) (vp_Si (fun r => R = some r ∧ (r = 0 ∨ r = 1))) 0 0 (fun _ => False) := by
  refine metR .boolean (by decide) rfl (Nat.le_of_ble_eq_true rfl) ?_
  intro p e s m av below meth c Q ls hx hb hml hts hown hP hK hl hret
  replace hl : lv_has ls 3 [(0, .ref o), (1, .int p1), (2, .int p2)] := hl
  have w_0 := hts (.initialized RX7) (by decide +kernel)
  have w_1 := hts (.static yX7_isIn) (by decide +kernel)
  have hm := hR
  unfold m_X4_areNeighbours at hm
  refine lv_aload_n hx hb dX4_areNeighbours_0 rfl (lv_at hl 0 rfl) ?_
  refine lv_iload_n hx hb dX4_areNeighbours_1 rfl (lv_at hl 1 rfl) ?_
  refine vp_callSi (va_Run.run (va_runV (As := [.int p1]) (rest := []) ⟨hx, hb, hml, hown, hts⟩ (c_X4_neighboursOf l G cA o o_area o_firstDay o_lastDay o_neighbours o_parents o_root p1 v_o_count g_o_neighbours _ rfl (bnz hm hz)) (cwV 1 hts gX4_areNeighbours_X4_neighboursOf rfl rfl rfl (by decide +kernel) ⟨Nat.le_of_ble_eq_true rfl, Nat.le_of_ble_eq_true rfl⟩) (preRV (q := (RX4, TX4, 7)) (hP.sub [0, 1] rfl) hK 0 rfl rfl) rfl rfl hl.1 rfl (lv_room (Nat.le_of_ble_eq_true rfl)) dX4_areNeighbours_2 ⟨Nat.zero_le _, Nat.zero_le _⟩)) (fun r_1 hw => ?_)
  replace hm := bst hm hw
  refine lv_iload_n hx hb dX4_areNeighbours_5 rfl (lv_at hl 2 rfl) ?_
  refine vp_callSi (va_Run.run (va_runSN (As := [.int r_1, .int p2]) (rest := []) ⟨hx, hb, hml, hown, hts⟩ (c_X7_isIn l G cA r_1 p2 _ rfl (bnz hm hz)) ⟨va_cnB (host := "ParcelRegistry") 2 hts gX4_areNeighbours_X7_isIn_n48 rfl rfl rfl (hK.2 (RX4, 48, yX7_isIn) (List.mem_of_getElem? (i := 9) rfl)) w_0 (by decide +kernel) ⟨Nat.le_of_ble_eq_true rfl, Nat.le_of_ble_eq_true rfl⟩, w_1, trivial⟩ (preRS (hP.sub [] rfl) hK) rfl rfl hl.1 rfl (lv_room (Nat.le_of_ble_eq_true rfl)) dX4_areNeighbours_6 ⟨Nat.zero_le _, Nat.zero_le _⟩)) (fun r_2 hw => ?_)
  replace hm := bst hm hw.1
  replace hm := gdo hm hz
  obtain ⟨gb_3, hm⟩ := hm
  exact hret _ _ _ dX4_areNeighbours_9 (nz (isbz gb_3)) ⟨hm.symm, (isbz gb_3)⟩

def m_X4_come (p1 : Int32) (p2 : Int32) (p3 : Int32) (p4 : Int32) (v_o_count : Int32) (g_o_area : Nat → Int32) (g_o_firstDay : Nat → Int32) (g_o_lastDay : Nat → Int32) (g_o_neighbours : Nat → Int32) (g_o_parents : Nat → Int32) (g_o_root : Nat → Int32) : Option (Int32 × Int32 × (Nat → Int32) × (Nat → Int32) × (Nat → Int32) × (Nat → Int32) × (Nat → Int32) × (Nat → Int32)) := (if v_o_count < (24 : Int32) then gd (ix v_o_count 24) (gd (ix v_o_count 24) (gd (ix v_o_count 24) (gd (ix v_o_count 24) (gd (ix v_o_count 24) (gd (ix v_o_count 24) (some ((v_o_count + (1 : Int32)) - (1 : Int32), v_o_count + (1 : Int32), upd g_o_area v_o_count.toNatClampNeg p1, upd g_o_firstDay v_o_count.toNatClampNeg p4, upd g_o_lastDay v_o_count.toNatClampNeg (-1 : Int32), upd g_o_neighbours v_o_count.toNatClampNeg (0 : Int32), upd g_o_parents v_o_count.toNatClampNeg p3, upd g_o_root v_o_count.toNatClampNeg p2))))))) else some ((-1 : Int32), v_o_count, g_o_area, g_o_firstDay, g_o_lastDay, g_o_neighbours, g_o_parents, g_o_root))
abbrev k_X4_come (cA : Nat → ClassId) (o o_area o_firstDay o_lastDay o_neighbours o_parents o_root : Nat) (v_o_count : Int32) (g_o_area : Nat → Int32) (g_o_firstDay : Nat → Int32) (g_o_lastDay : Nat → Int32) (g_o_neighbours : Nat → Int32) (g_o_parents : Nat → Int32) (g_o_root : Nat → Int32) : va_W := [(o, .inr (6, [.int v_o_count, .ref o_area, .ref o_firstDay, .ref o_lastDay, .ref o_neighbours, .ref o_parents, .ref o_root])), (o_area, .inl (cA 0, 24, .inl g_o_area)), (o_firstDay, .inl (cA 0, 24, .inl g_o_firstDay)), (o_lastDay, .inl (cA 0, 24, .inl g_o_lastDay)), (o_neighbours, .inl (cA 0, 24, .inl g_o_neighbours)), (o_parents, .inl (cA 0, 24, .inl g_o_parents)), (o_root, .inl (cA 0, 24, .inl g_o_root))]
set_option maxHeartbeats 4000000 in
set_option maxRecDepth 100000 in
/-- X4_come: as its model -/
theorem c_X4_come (l : Launch) (G : va_G) (cA : Nat → ClassId) (o o_area o_firstDay o_lastDay o_neighbours o_parents o_root : Nat) (sz : Nat) (p1 : Int32) (p2 : Int32) (p3 : Int32) (p4 : Int32) (v_o_count : Int32) (g_o_area : Nat → Int32) (g_o_firstDay : Nat → Int32) (g_o_lastDay : Nat → Int32) (g_o_neighbours : Nat → Int32) (g_o_parents : Nat → Int32) (g_o_root : Nat → Int32) (R : Option (Int32 × Int32 × (Nat → Int32) × (Nat → Int32) × (Nat → Int32) × (Nat → Int32) × (Nat → Int32) × (Nat → Int32))) (hR : m_X4_come p1 p2 p3 p4 v_o_count g_o_area g_o_firstDay g_o_lastDay g_o_neighbours g_o_parents g_o_root = R) (hz : R ≠ none) : Met l yX4_come wsX4_come ({ frames := 0, cells := 0, slots := 0, locals := 0 } : Room) (va_Pc [.ref o, .int p1, .int p2, .int p3, .int p4] (PM G cA (k_X4_come cA o o_area o_firstDay o_lastDay o_neighbours o_parents o_root v_o_count g_o_area g_o_firstDay g_o_lastDay g_o_neighbours g_o_parents g_o_root) sz)) (va_Qi (fun (r : Int32) (u : Int32 × (Nat → Int32) × (Nat → Int32) × (Nat → Int32) × (Nat → Int32) × (Nat → Int32) × (Nat → Int32)) => R = some (r, u)) (BM G (fun (u : Int32 × (Nat → Int32) × (Nat → Int32) × (Nat → Int32) × (Nat → Int32) × (Nat → Int32) × (Nat → Int32)) => (k_X4_come cA o o_area o_firstDay o_lastDay o_neighbours o_parents o_root u.1 u.2.1 u.2.2.1 u.2.2.2.1 u.2.2.2.2.1 u.2.2.2.2.2.1 u.2.2.2.2.2.2))) (va_A (k_X4_come cA o o_area o_firstDay o_lastDay o_neighbours o_parents o_root v_o_count g_o_area g_o_firstDay g_o_lastDay g_o_neighbours g_o_parents g_o_root) sz)) 0 0 (va_A (k_X4_come cA o o_area o_firstDay o_lastDay o_neighbours o_parents o_root v_o_count g_o_area g_o_firstDay g_o_lastDay g_o_neighbours g_o_parents g_o_root) sz) := by
  refine metM .int (by decide) rfl (Nat.le_of_ble_eq_true rfl) ?_
  intro p e s m av below meth c Q ls A H hx hb hml hts hown hP hK hD hA hS hl hret
  replace hl : lv_has ls 5 [(0, .ref o), (1, .int p1), (2, .int p2), (3, .int p3), (4, .int p4)] := hl
  have w_0 := hts (.fieldLink RX4 9 "ParcelRegistry$Parcels" "count" "I") (by decide +kernel)
  have w_1 := hts (.fieldLink RX4 15 "ParcelRegistry$Parcels" "area" "[I") (by decide +kernel)
  have w_2 := hts (.fieldLink RX4 19 "ParcelRegistry$Parcels" "firstDay" "[I") (by decide +kernel)
  have w_3 := hts (.fieldLink RX4 22 "ParcelRegistry$Parcels" "lastDay" "[I") (by decide +kernel)
  have w_4 := hts (.fieldLink RX4 25 "ParcelRegistry$Parcels" "neighbours" "[I") (by decide +kernel)
  have w_5 := hts (.fieldLink RX4 28 "ParcelRegistry$Parcels" "parents" "[I") (by decide +kernel)
  have w_6 := hts (.fieldLink RX4 31 "ParcelRegistry$Parcels" "root" "[I") (by decide +kernel)
  have i_X4 : ∀ w ∈ wsX40, w ∈ wsX4_come := by decide +kernel
  have hm := hR
  unfold m_X4_come at hm
  refine lv_aload_n hx hb dX4_come_0 rfl (lv_at hl 0 rfl) ?_
  refine va_get (D := G) (ci := 6) (v := .int v_o_count) (C := RX4) (T := TX4) (N := 7) hx hb hts i_X4 hown hK.1 hP 0 rfl rfl 0 (by decide) w_0 (fun _ h9 => h9) rfl dX4_come_1 ?_
  refine lv_bipush (v := (24 : Int32)) hx hb dX4_come_4 (by decide) ?_
  refine lv_icmp_lt (tgt := 11) hx hb dX4_come_6 (by decide) (fun c_1 => ?_) (fun c_1 => ?_)
  · replace hm := it hm c_1
    refine lv_aload_n hx hb dX4_come_11 rfl (lv_at hl 0 rfl) ?_
    refine va_get (D := G) (ci := 6) (v := .ref o_area) (C := RX4) (T := TX4) (N := 7) hx hb hts i_X4 hown hK.1 hP 0 rfl rfl 1 (by decide) w_1 (fun _ h9 => h9) rfl dX4_come_12 ?_
    refine lv_aload_n hx hb dX4_come_15 rfl (lv_at hl 0 rfl) ?_
    refine va_get (D := G) (ci := 6) (v := .int v_o_count) (C := RX4) (T := TX4) (N := 7) hx hb hts i_X4 hown hK.1 hP 0 rfl rfl 0 (by decide) w_0 (fun _ h9 => h9) rfl dX4_come_16 ?_
    refine lv_iload_n hx hb dX4_come_19 rfl (lv_at hl 1 rfl) ?_
    replace hm := gdo hm hz
    obtain ⟨gi_2, hm⟩ := hm
    refine va_iast hx hb hK.1 hP hD hS 1 0 (cA := cA 0) (n := 24) (f := g_o_area) rfl rfl (ixi gi_2) dX4_come_20 (fun H locs hP' hD' hS' => ?_)
    replace hP : va_P G vwCl (k_X4_come cA o o_area o_firstDay o_lastDay o_neighbours o_parents o_root v_o_count (upd g_o_area v_o_count.toNatClampNeg p1) g_o_firstDay g_o_lastDay g_o_neighbours g_o_parents g_o_root) H := hP'
    replace hD : va_D A (k_X4_come cA o o_area o_firstDay o_lastDay o_neighbours o_parents o_root v_o_count (upd g_o_area v_o_count.toNatClampNeg p1) g_o_firstDay g_o_lastDay g_o_neighbours g_o_parents g_o_root) := hD'
    replace hS := hS'
    refine lv_aload_n hx hb dX4_come_21 rfl (lv_at hl 0 rfl) ?_
    refine va_get (D := G) (ci := 6) (v := .ref o_firstDay) (C := RX4) (T := TX4) (N := 7) hx hb hts i_X4 hown hK.1 hP 0 rfl rfl 2 (by decide) w_2 (fun _ h9 => h9) rfl dX4_come_22 ?_
    refine lv_aload_n hx hb dX4_come_25 rfl (lv_at hl 0 rfl) ?_
    refine va_get (D := G) (ci := 6) (v := .int v_o_count) (C := RX4) (T := TX4) (N := 7) hx hb hts i_X4 hown hK.1 hP 0 rfl rfl 0 (by decide) w_0 (fun _ h9 => h9) rfl dX4_come_26 ?_
    refine lv_iload hx hb dX4_come_29 (lv_at hl 4 rfl) ?_
    replace hm := gdo hm hz
    obtain ⟨gi_3, hm⟩ := hm
    refine va_iast hx hb hK.1 hP hD hS 2 0 (cA := cA 0) (n := 24) (f := g_o_firstDay) rfl rfl (ixi gi_3) dX4_come_31 (fun H locs hP' hD' hS' => ?_)
    replace hP : va_P G vwCl (k_X4_come cA o o_area o_firstDay o_lastDay o_neighbours o_parents o_root v_o_count (upd g_o_area v_o_count.toNatClampNeg p1) (upd g_o_firstDay v_o_count.toNatClampNeg p4) g_o_lastDay g_o_neighbours g_o_parents g_o_root) H := hP'
    replace hD : va_D A (k_X4_come cA o o_area o_firstDay o_lastDay o_neighbours o_parents o_root v_o_count (upd g_o_area v_o_count.toNatClampNeg p1) (upd g_o_firstDay v_o_count.toNatClampNeg p4) g_o_lastDay g_o_neighbours g_o_parents g_o_root) := hD'
    replace hS := hS'
    refine lv_aload_n hx hb dX4_come_32 rfl (lv_at hl 0 rfl) ?_
    refine va_get (D := G) (ci := 6) (v := .ref o_lastDay) (C := RX4) (T := TX4) (N := 7) hx hb hts i_X4 hown hK.1 hP 0 rfl rfl 3 (by decide) w_3 (fun _ h9 => h9) rfl dX4_come_33 ?_
    refine lv_aload_n hx hb dX4_come_36 rfl (lv_at hl 0 rfl) ?_
    refine va_get (D := G) (ci := 6) (v := .int v_o_count) (C := RX4) (T := TX4) (N := 7) hx hb hts i_X4 hown hK.1 hP 0 rfl rfl 0 (by decide) w_0 (fun _ h9 => h9) rfl dX4_come_37 ?_
    refine lv_iconst (v := (-1 : Int32)) hx hb dX4_come_40 (by decide) ?_
    replace hm := gdo hm hz
    obtain ⟨gi_4, hm⟩ := hm
    refine va_iast hx hb hK.1 hP hD hS 3 0 (cA := cA 0) (n := 24) (f := g_o_lastDay) rfl rfl (ixi gi_4) dX4_come_41 (fun H locs hP' hD' hS' => ?_)
    replace hP : va_P G vwCl (k_X4_come cA o o_area o_firstDay o_lastDay o_neighbours o_parents o_root v_o_count (upd g_o_area v_o_count.toNatClampNeg p1) (upd g_o_firstDay v_o_count.toNatClampNeg p4) (upd g_o_lastDay v_o_count.toNatClampNeg (-1 : Int32)) g_o_neighbours g_o_parents g_o_root) H := hP'
    replace hD : va_D A (k_X4_come cA o o_area o_firstDay o_lastDay o_neighbours o_parents o_root v_o_count (upd g_o_area v_o_count.toNatClampNeg p1) (upd g_o_firstDay v_o_count.toNatClampNeg p4) (upd g_o_lastDay v_o_count.toNatClampNeg (-1 : Int32)) g_o_neighbours g_o_parents g_o_root) := hD'
    replace hS := hS'
    refine lv_aload_n hx hb dX4_come_42 rfl (lv_at hl 0 rfl) ?_
    refine va_get (D := G) (ci := 6) (v := .ref o_neighbours) (C := RX4) (T := TX4) (N := 7) hx hb hts i_X4 hown hK.1 hP 0 rfl rfl 4 (by decide) w_4 (fun _ h9 => h9) rfl dX4_come_43 ?_
    refine lv_aload_n hx hb dX4_come_46 rfl (lv_at hl 0 rfl) ?_
    refine va_get (D := G) (ci := 6) (v := .int v_o_count) (C := RX4) (T := TX4) (N := 7) hx hb hts i_X4 hown hK.1 hP 0 rfl rfl 0 (by decide) w_0 (fun _ h9 => h9) rfl dX4_come_47 ?_
    refine lv_iconst (v := (0 : Int32)) hx hb dX4_come_50 (by decide) ?_
    replace hm := gdo hm hz
    obtain ⟨gi_5, hm⟩ := hm
    refine va_iast hx hb hK.1 hP hD hS 4 0 (cA := cA 0) (n := 24) (f := g_o_neighbours) rfl rfl (ixi gi_5) dX4_come_51 (fun H locs hP' hD' hS' => ?_)
    replace hP : va_P G vwCl (k_X4_come cA o o_area o_firstDay o_lastDay o_neighbours o_parents o_root v_o_count (upd g_o_area v_o_count.toNatClampNeg p1) (upd g_o_firstDay v_o_count.toNatClampNeg p4) (upd g_o_lastDay v_o_count.toNatClampNeg (-1 : Int32)) (upd g_o_neighbours v_o_count.toNatClampNeg (0 : Int32)) g_o_parents g_o_root) H := hP'
    replace hD : va_D A (k_X4_come cA o o_area o_firstDay o_lastDay o_neighbours o_parents o_root v_o_count (upd g_o_area v_o_count.toNatClampNeg p1) (upd g_o_firstDay v_o_count.toNatClampNeg p4) (upd g_o_lastDay v_o_count.toNatClampNeg (-1 : Int32)) (upd g_o_neighbours v_o_count.toNatClampNeg (0 : Int32)) g_o_parents g_o_root) := hD'
    replace hS := hS'
    refine lv_aload_n hx hb dX4_come_52 rfl (lv_at hl 0 rfl) ?_
    refine va_get (D := G) (ci := 6) (v := .ref o_parents) (C := RX4) (T := TX4) (N := 7) hx hb hts i_X4 hown hK.1 hP 0 rfl rfl 5 (by decide) w_5 (fun _ h9 => h9) rfl dX4_come_53 ?_
    refine lv_aload_n hx hb dX4_come_56 rfl (lv_at hl 0 rfl) ?_
    refine va_get (D := G) (ci := 6) (v := .int v_o_count) (C := RX4) (T := TX4) (N := 7) hx hb hts i_X4 hown hK.1 hP 0 rfl rfl 0 (by decide) w_0 (fun _ h9 => h9) rfl dX4_come_57 ?_
    refine lv_iload_n hx hb dX4_come_60 rfl (lv_at hl 3 rfl) ?_
    replace hm := gdo hm hz
    obtain ⟨gi_6, hm⟩ := hm
    refine va_iast hx hb hK.1 hP hD hS 5 0 (cA := cA 0) (n := 24) (f := g_o_parents) rfl rfl (ixi gi_6) dX4_come_61 (fun H locs hP' hD' hS' => ?_)
    replace hP : va_P G vwCl (k_X4_come cA o o_area o_firstDay o_lastDay o_neighbours o_parents o_root v_o_count (upd g_o_area v_o_count.toNatClampNeg p1) (upd g_o_firstDay v_o_count.toNatClampNeg p4) (upd g_o_lastDay v_o_count.toNatClampNeg (-1 : Int32)) (upd g_o_neighbours v_o_count.toNatClampNeg (0 : Int32)) (upd g_o_parents v_o_count.toNatClampNeg p3) g_o_root) H := hP'
    replace hD : va_D A (k_X4_come cA o o_area o_firstDay o_lastDay o_neighbours o_parents o_root v_o_count (upd g_o_area v_o_count.toNatClampNeg p1) (upd g_o_firstDay v_o_count.toNatClampNeg p4) (upd g_o_lastDay v_o_count.toNatClampNeg (-1 : Int32)) (upd g_o_neighbours v_o_count.toNatClampNeg (0 : Int32)) (upd g_o_parents v_o_count.toNatClampNeg p3) g_o_root) := hD'
    replace hS := hS'
    refine lv_aload_n hx hb dX4_come_62 rfl (lv_at hl 0 rfl) ?_
    refine va_get (D := G) (ci := 6) (v := .ref o_root) (C := RX4) (T := TX4) (N := 7) hx hb hts i_X4 hown hK.1 hP 0 rfl rfl 6 (by decide) w_6 (fun _ h9 => h9) rfl dX4_come_63 ?_
    refine lv_aload_n hx hb dX4_come_66 rfl (lv_at hl 0 rfl) ?_
    refine va_get (D := G) (ci := 6) (v := .int v_o_count) (C := RX4) (T := TX4) (N := 7) hx hb hts i_X4 hown hK.1 hP 0 rfl rfl 0 (by decide) w_0 (fun _ h9 => h9) rfl dX4_come_67 ?_
    refine lv_iload_n hx hb dX4_come_70 rfl (lv_at hl 2 rfl) ?_
    replace hm := gdo hm hz
    obtain ⟨gi_7, hm⟩ := hm
    refine va_iast hx hb hK.1 hP hD hS 6 0 (cA := cA 0) (n := 24) (f := g_o_root) rfl rfl (ixi gi_7) dX4_come_71 (fun H locs hP' hD' hS' => ?_)
    replace hP : va_P G vwCl (k_X4_come cA o o_area o_firstDay o_lastDay o_neighbours o_parents o_root v_o_count (upd g_o_area v_o_count.toNatClampNeg p1) (upd g_o_firstDay v_o_count.toNatClampNeg p4) (upd g_o_lastDay v_o_count.toNatClampNeg (-1 : Int32)) (upd g_o_neighbours v_o_count.toNatClampNeg (0 : Int32)) (upd g_o_parents v_o_count.toNatClampNeg p3) (upd g_o_root v_o_count.toNatClampNeg p2)) H := hP'
    replace hD : va_D A (k_X4_come cA o o_area o_firstDay o_lastDay o_neighbours o_parents o_root v_o_count (upd g_o_area v_o_count.toNatClampNeg p1) (upd g_o_firstDay v_o_count.toNatClampNeg p4) (upd g_o_lastDay v_o_count.toNatClampNeg (-1 : Int32)) (upd g_o_neighbours v_o_count.toNatClampNeg (0 : Int32)) (upd g_o_parents v_o_count.toNatClampNeg p3) (upd g_o_root v_o_count.toNatClampNeg p2)) := hD'
    replace hS := hS'
    refine lv_aload_n hx hb dX4_come_72 rfl (lv_at hl 0 rfl) ?_
    refine lv_dup hx hb dX4_come_73 rfl ?_
    refine va_get (D := G) (ci := 6) (v := .int v_o_count) (C := RX4) (T := TX4) (N := 7) hx hb hts i_X4 hown hK.1 hP 0 rfl rfl 0 (by decide) w_0 (fun _ h9 => h9) rfl dX4_come_74 ?_
    refine lv_iconst (v := (1 : Int32)) hx hb dX4_come_77 (by decide) ?_
    refine lv_iadd hx hb dX4_come_78 ?_
    refine va_put (D := G) (ci := 6) (v := .int (v_o_count + (1 : Int32))) (ty := .int) (C := RX4) (T := TX4) (N := 7) hx hb hts i_X4 tyX4 tyX4_ok nmX4 hown hK.1 hP hD hS 0 rfl rfl 0 (by decide) w_0 (fun _ h9 => h9) rfl (by decide +kernel) rfl rfl (Nat.le_of_ble_eq_true rfl) dX4_come_79 (fun H locs hP' hD' hS' => ?_)
    replace hP : va_P G vwCl (k_X4_come cA o o_area o_firstDay o_lastDay o_neighbours o_parents o_root (v_o_count + (1 : Int32)) (upd g_o_area v_o_count.toNatClampNeg p1) (upd g_o_firstDay v_o_count.toNatClampNeg p4) (upd g_o_lastDay v_o_count.toNatClampNeg (-1 : Int32)) (upd g_o_neighbours v_o_count.toNatClampNeg (0 : Int32)) (upd g_o_parents v_o_count.toNatClampNeg p3) (upd g_o_root v_o_count.toNatClampNeg p2)) H := hP'
    replace hD : va_D A (k_X4_come cA o o_area o_firstDay o_lastDay o_neighbours o_parents o_root (v_o_count + (1 : Int32)) (upd g_o_area v_o_count.toNatClampNeg p1) (upd g_o_firstDay v_o_count.toNatClampNeg p4) (upd g_o_lastDay v_o_count.toNatClampNeg (-1 : Int32)) (upd g_o_neighbours v_o_count.toNatClampNeg (0 : Int32)) (upd g_o_parents v_o_count.toNatClampNeg p3) (upd g_o_root v_o_count.toNatClampNeg p2)) := hD'
    replace hS := hS'
    refine lv_aload_n hx hb dX4_come_82 rfl (lv_at hl 0 rfl) ?_
    refine va_get (D := G) (ci := 6) (v := .int (v_o_count + (1 : Int32))) (C := RX4) (T := TX4) (N := 7) hx hb hts i_X4 hown hK.1 hP 0 rfl rfl 0 (by decide) w_0 (fun _ h9 => h9) rfl dX4_come_83 ?_
    refine lv_iconst (v := (1 : Int32)) hx hb dX4_come_86 (by decide) ?_
    refine lv_isub hx hb dX4_come_87 ?_
    exact hret _ _ _ (v_o_count + (1 : Int32), upd g_o_area v_o_count.toNatClampNeg p1, upd g_o_firstDay v_o_count.toNatClampNeg p4, upd g_o_lastDay v_o_count.toNatClampNeg (-1 : Int32), upd g_o_neighbours v_o_count.toNatClampNeg (0 : Int32), upd g_o_parents v_o_count.toNatClampNeg p3, upd g_o_root v_o_count.toNatClampNeg p2) _ _ dX4_come_88 rfl hP hS hm.symm
  · replace hm := ie hm c_1
    refine lv_iconst (v := (-1 : Int32)) hx hb dX4_come_9 (by decide) ?_
    exact hret _ _ _ (v_o_count, g_o_area, g_o_firstDay, g_o_lastDay, g_o_neighbours, g_o_parents, g_o_root) _ _ dX4_come_10 rfl hP hS hm.symm

def m_X4_link (p1 : Int32) (p2 : Int32) (v_o_count : Int32) (g_o_neighbours : Nat → Int32) : Option ((Nat → Int32)) := Option.bind (m_X4_has p1 v_o_count) (fun r_1 => (if r_1 = 0 then some g_o_neighbours else Option.bind (m_X4_has p2 v_o_count) (fun r_3 => (if r_3 = 0 then some g_o_neighbours else gd (ix p1 24) (gd (ix p1 24) (gd (ix p2 24) (gd (ix p2 24) (some (upd (upd g_o_neighbours p1.toNatClampNeg ((g_o_neighbours p1.toNatClampNeg) ||| ((1 : Int32) <<< (p2 &&& 31)))) p2.toNatClampNeg (((upd g_o_neighbours p1.toNatClampNeg ((g_o_neighbours p1.toNatClampNeg) ||| ((1 : Int32) <<< (p2 &&& 31)))) p2.toNatClampNeg) ||| ((1 : Int32) <<< (p1 &&& 31))))))))))))
abbrev k_X4_link (cA : Nat → ClassId) (o o_area o_firstDay o_lastDay o_neighbours o_parents o_root : Nat) (v_o_count : Int32) (g_o_neighbours : Nat → Int32) : va_W := [(o, .inr (6, [.int v_o_count, .ref o_area, .ref o_firstDay, .ref o_lastDay, .ref o_neighbours, .ref o_parents, .ref o_root])), (o_neighbours, .inl (cA 0, 24, .inl g_o_neighbours))]
set_option maxHeartbeats 4000000 in
set_option maxRecDepth 100000 in
/-- X4_link: as its model -/
theorem c_X4_link (l : Launch) (G : va_G) (cA : Nat → ClassId) (o o_area o_firstDay o_lastDay o_neighbours o_parents o_root : Nat) (sz : Nat) (p1 : Int32) (p2 : Int32) (v_o_count : Int32) (g_o_neighbours : Nat → Int32) (R : Option ((Nat → Int32))) (hR : m_X4_link p1 p2 v_o_count g_o_neighbours = R) (hz : R ≠ none) : Met l yX4_link wsX4_link ({ frames := 1, cells := 0, slots := 0, locals := 21 } : Room) (va_Pc [.ref o, .int p1, .int p2] (PM G cA (k_X4_link cA o o_area o_firstDay o_lastDay o_neighbours o_parents o_root v_o_count g_o_neighbours) sz)) (va_Qv (fun (u : (Nat → Int32)) => R = some u) (BM G (fun (u : (Nat → Int32)) => (k_X4_link cA o o_area o_firstDay o_lastDay o_neighbours o_parents o_root v_o_count u))) (va_A (k_X4_link cA o o_area o_firstDay o_lastDay o_neighbours o_parents o_root v_o_count g_o_neighbours) sz)) 0 0 (va_A (k_X4_link cA o o_area o_firstDay o_lastDay o_neighbours o_parents o_root v_o_count g_o_neighbours) sz) := by
  refine metV (by decide) rfl (Nat.le_of_ble_eq_true rfl) ?_
  intro p e s m av below meth c Q ls A H hx hb hml hts hown hP hK hD hA hS hl hret
  replace hl : lv_has ls 3 [(0, .ref o), (1, .int p1), (2, .int p2)] := hl
  have w_0 := hts (.fieldLink RX4 25 "ParcelRegistry$Parcels" "neighbours" "[I") (by decide +kernel)
  have i_X4 : ∀ w ∈ wsX40, w ∈ wsX4_link := by decide +kernel
  have hm := hR
  unfold m_X4_link at hm
  refine lv_aload_n hx hb dX4_link_0 rfl (lv_at hl 0 rfl) ?_
  refine lv_iload_n hx hb dX4_link_1 rfl (lv_at hl 1 rfl) ?_
  refine vp_callSi (va_Run.run (va_runV (As := [.int p1]) (rest := []) ⟨hx, hb, hml, hown, hts⟩ (c_X4_has l G cA o o_area o_firstDay o_lastDay o_neighbours o_parents o_root p1 v_o_count _ rfl (bnz hm hz)) (cwV 1 hts gX4_link_X4_has rfl rfl rfl (by decide +kernel) ⟨Nat.le_of_ble_eq_true rfl, Nat.le_of_ble_eq_true rfl⟩) (preRV (q := (RX4, TX4, 7)) (hP.sub [0] rfl) hK 0 rfl rfl) rfl rfl hl.1 rfl (lv_room (Nat.le_of_ble_eq_true rfl)) dX4_link_2 ⟨Nat.zero_le _, Nat.zero_le _⟩)) (fun r_1 hw => ?_)
  replace hm := bst hm hw.1
  refine lv_if_eq (tgt := 40) hx hb dX4_link_5 (by decide) (fun c_2 => ?_) (fun c_2 => ?_)
  · replace hm := it hm c_2
    exact hret _ _ g_o_neighbours _ _ dX4_link_40 hP hS hm.symm
  · replace hm := ie hm c_2
    refine lv_aload_n hx hb dX4_link_8 rfl (lv_at hl 0 rfl) ?_
    refine lv_iload_n hx hb dX4_link_9 rfl (lv_at hl 2 rfl) ?_
    refine vp_callSi (va_Run.run (va_runV (As := [.int p2]) (rest := []) ⟨hx, hb, hml, hown, hts⟩ (c_X4_has l G cA o o_area o_firstDay o_lastDay o_neighbours o_parents o_root p2 v_o_count _ rfl (bnz hm hz)) (cwV 1 hts gX4_link_X4_has rfl rfl rfl (by decide +kernel) ⟨Nat.le_of_ble_eq_true rfl, Nat.le_of_ble_eq_true rfl⟩) (preRV (q := (RX4, TX4, 7)) (hP.sub [0] rfl) hK 0 rfl rfl) rfl rfl hl.1 rfl (lv_room (Nat.le_of_ble_eq_true rfl)) dX4_link_10 ⟨Nat.zero_le _, Nat.zero_le _⟩)) (fun r_3 hw => ?_)
    replace hm := bst hm hw.1
    refine lv_if_eq (tgt := 40) hx hb dX4_link_13 (by decide) (fun c_4 => ?_) (fun c_4 => ?_)
    · replace hm := it hm c_4
      exact hret _ _ g_o_neighbours _ _ dX4_link_40 hP hS hm.symm
    · replace hm := ie hm c_4
      refine lv_aload_n hx hb dX4_link_16 rfl (lv_at hl 0 rfl) ?_
      refine va_get (D := G) (ci := 6) (v := .ref o_neighbours) (C := RX4) (T := TX4) (N := 7) hx hb hts i_X4 hown hK.1 hP 0 rfl rfl 4 (by decide) w_0 (fun _ h9 => h9) rfl dX4_link_17 ?_
      refine lv_iload_n hx hb dX4_link_20 rfl (lv_at hl 1 rfl) ?_
      refine lv_dup2_11 hx hb dX4_link_21 rfl rfl ?_
      replace hm := gdo hm hz
      obtain ⟨gi_5, hm⟩ := hm
      refine va_iald hx hb hK.1 hP 1 0 (cA := cA 0) (n := 24) (f := g_o_neighbours) rfl rfl (ixi gi_5) dX4_link_22 ?_
      refine lv_iconst (v := (1 : Int32)) hx hb dX4_link_23 (by decide) ?_
      refine lv_iload_n hx hb dX4_link_24 rfl (lv_at hl 2 rfl) ?_
      refine lv_ishl hx hb dX4_link_25 ?_
      refine lv_ior hx hb dX4_link_26 ?_
      replace hm := gdo hm hz
      obtain ⟨gi_6, hm⟩ := hm
      refine va_iast hx hb hK.1 hP hD hS 1 0 (cA := cA 0) (n := 24) (f := g_o_neighbours) rfl rfl (ixi gi_6) dX4_link_27 (fun H locs hP' hD' hS' => ?_)
      replace hP : va_P G vwCl (k_X4_link cA o o_area o_firstDay o_lastDay o_neighbours o_parents o_root v_o_count (upd g_o_neighbours p1.toNatClampNeg ((g_o_neighbours p1.toNatClampNeg) ||| ((1 : Int32) <<< (p2 &&& 31))))) H := hP'
      replace hD : va_D A (k_X4_link cA o o_area o_firstDay o_lastDay o_neighbours o_parents o_root v_o_count (upd g_o_neighbours p1.toNatClampNeg ((g_o_neighbours p1.toNatClampNeg) ||| ((1 : Int32) <<< (p2 &&& 31))))) := hD'
      replace hS := hS'
      refine lv_aload_n hx hb dX4_link_28 rfl (lv_at hl 0 rfl) ?_
      refine va_get (D := G) (ci := 6) (v := .ref o_neighbours) (C := RX4) (T := TX4) (N := 7) hx hb hts i_X4 hown hK.1 hP 0 rfl rfl 4 (by decide) w_0 (fun _ h9 => h9) rfl dX4_link_29 ?_
      refine lv_iload_n hx hb dX4_link_32 rfl (lv_at hl 2 rfl) ?_
      refine lv_dup2_11 hx hb dX4_link_33 rfl rfl ?_
      replace hm := gdo hm hz
      obtain ⟨gi_7, hm⟩ := hm
      refine va_iald hx hb hK.1 hP 1 0 (cA := cA 0) (n := 24) (f := upd g_o_neighbours p1.toNatClampNeg ((g_o_neighbours p1.toNatClampNeg) ||| ((1 : Int32) <<< (p2 &&& 31)))) rfl rfl (ixi gi_7) dX4_link_34 ?_
      refine lv_iconst (v := (1 : Int32)) hx hb dX4_link_35 (by decide) ?_
      refine lv_iload_n hx hb dX4_link_36 rfl (lv_at hl 1 rfl) ?_
      refine lv_ishl hx hb dX4_link_37 ?_
      refine lv_ior hx hb dX4_link_38 ?_
      replace hm := gdo hm hz
      obtain ⟨gi_8, hm⟩ := hm
      refine va_iast hx hb hK.1 hP hD hS 1 0 (cA := cA 0) (n := 24) (f := upd g_o_neighbours p1.toNatClampNeg ((g_o_neighbours p1.toNatClampNeg) ||| ((1 : Int32) <<< (p2 &&& 31)))) rfl rfl (ixi gi_8) dX4_link_39 (fun H locs hP' hD' hS' => ?_)
      replace hP : va_P G vwCl (k_X4_link cA o o_area o_firstDay o_lastDay o_neighbours o_parents o_root v_o_count (upd (upd g_o_neighbours p1.toNatClampNeg ((g_o_neighbours p1.toNatClampNeg) ||| ((1 : Int32) <<< (p2 &&& 31)))) p2.toNatClampNeg (((upd g_o_neighbours p1.toNatClampNeg ((g_o_neighbours p1.toNatClampNeg) ||| ((1 : Int32) <<< (p2 &&& 31)))) p2.toNatClampNeg) ||| ((1 : Int32) <<< (p1 &&& 31))))) H := hP'
      replace hD : va_D A (k_X4_link cA o o_area o_firstDay o_lastDay o_neighbours o_parents o_root v_o_count (upd (upd g_o_neighbours p1.toNatClampNeg ((g_o_neighbours p1.toNatClampNeg) ||| ((1 : Int32) <<< (p2 &&& 31)))) p2.toNatClampNeg (((upd g_o_neighbours p1.toNatClampNeg ((g_o_neighbours p1.toNatClampNeg) ||| ((1 : Int32) <<< (p2 &&& 31)))) p2.toNatClampNeg) ||| ((1 : Int32) <<< (p1 &&& 31))))) := hD'
      replace hS := hS'
      exact hret _ _ upd (upd g_o_neighbours p1.toNatClampNeg ((g_o_neighbours p1.toNatClampNeg) ||| ((1 : Int32) <<< (p2 &&& 31)))) p2.toNatClampNeg (((upd g_o_neighbours p1.toNatClampNeg ((g_o_neighbours p1.toNatClampNeg) ||| ((1 : Int32) <<< (p2 &&& 31)))) p2.toNatClampNeg) ||| ((1 : Int32) <<< (p1 &&& 31))) _ _ dX4_link_40 hP hS hm.symm

