/-! What throws or does nothing. -/
def m_X7_checkNumber (p1 : Int32) : Option Nat := some (if p1 = 0 then 1 else 0)
set_option maxHeartbeats 4000000 in
set_option maxRecDepth 100000 in
theorem c_X7_checkNumber_ok (l : Launch) (p1 : Int32) (h : m_X7_checkNumber p1 = some 0) : Met l yX7_checkNumber wsX7_checkNumber ({ frames := 0, cells := 0, slots := 0, locals := 0 } : Room) (va_Pc [.int p1] (fun _ => True)) (va_Sv (fun _ => True)) 0 0 (fun _ => False) := by
  have hp : ¬ p1 = 0 := fun q => by rw [q] at h; exact absurd h (by decide)
  refine metBv (by decide) rfl (Nat.le_of_ble_eq_true rfl) ?_
  intro p e s m av below meth c Q ls hx hb hml hts hown _ hl hret
  replace hl : lv_has ls 1 [(0, .int p1)] := hl
  refine lv_iload_n hx hb dX7_checkNumber_0 rfl (lv_at hl 0 rfl) ?_
  refine lv_if_ne (tgt := 15) hx hb dX7_checkNumber_1 (by decide) (fun _ => ?_) (fun c_1 => absurd c_1 hp)
  exact hret _ _ dX7_checkNumber_15
set_option maxHeartbeats 4000000 in
set_option maxRecDepth 100000 in
theorem c_X7_checkNumber_no (l : Launch) (hfl : l.stackTraces = false) (z : Nat → Nat) (G : va_G) (cA : Nat → ClassId) (sz : Nat) (p1 : Int32) (k : Nat) (h : m_X7_checkNumber p1 = some k) (h0 : ¬ k = 0) : vx_Met l yX7_checkNumber wsX7_checkNumber ({ frames := 6, cells := 1, slots := 6, locals := 82 } : Room) (va_Pc [.int p1] (PMo z G cA [] sz)) (va_Qv (fun _ : Unit => False) (fun _ _ => True) (va_A [] sz)) (vx_X (fun _ : Unit => True) (fun E _ _ => E = exN k) (va_A [] sz)) 1 6 (va_A [] sz) := by
  have hp : p1 = 0 := by
    by_cases q : p1 = 0
    · exact q
    · unfold m_X7_checkNumber at h
      rw [if_neg q] at h
      exact absurd (Option.some.inj h).symm h0
  have hk : k = 1 := by
    unfold m_X7_checkNumber at h
    rw [if_pos hp] at h
    exact (Option.some.inj h).symm
  refine vx_ofW (cc := cX7_checkNumber) (maxL := 1) (ret := none) (by decide) rfl ?_
  intro p e s m args0 below meth c s₁ B hml hexc hv
  obtain ⟨rfl, ⟨hsz, hP, hD0, hK⟩, hT, hO⟩ := hv
  subst hsz
  have hx := B.exec
  have hb := B.bytes
  have hts := atoms_spec (ws := wsX7_checkNumber) B.pre
  have hown : s.vm.findClass RX7 = some m.cls := findClass_of_methodNamed B.named
  have hlocks := B.notSynchronized
  have hl := lv_entry ([.int p1]) (n := 1) (Nat.le_of_ble_eq_true rfl)
  rw [lg_entry_eq]
  generalize (lg_sl ([.int p1]) ++ List.replicate (1 - (lg_sl ([.int p1])).length) Slot.unset).toArray = ls at hl ⊢
  replace hl : lv_has ls 1 [(0, .int p1)] := hl
  refine lv_iload_n hx hb dX7_checkNumber_0 rfl (lv_at hl 0 rfl) ?_
  refine lv_if_ne (tgt := 15) hx hb dX7_checkNumber_1 (by decide) (fun c_1 => absurd hp c_1) (fun _ => ?_)
  refine vx_throwSW (own := RX7) (cls := "java/lang/IndexOutOfBoundsException") (names := ["java/lang/RuntimeException", "java/lang/Exception"]) (text := "there is no such number") (sa := z 25) (A := va_A [] s.heap.size) hx hb hfl hown (by decide) (by decide) (hts (.classLink RX7 368 "java/lang/IndexOutOfBoundsException") (by decide +kernel)) (hts (.initialized "java/lang/IndexOutOfBoundsException") (by decide +kernel)) (hT.1 (RX7, 370, "there is no such number", 25) (List.mem_of_getElem? (i := 13) rfl)) (vx_hat (B := [.declares (Bundle.initS "java/lang/RuntimeException"), .declares (Bundle.initS "java/lang/Exception"), .declares (Bundle.initS "java/lang/Throwable"), .castable "java/lang/IndexOutOfBoundsException" "java/lang/IndexOutOfBoundsException"]) (fun w hw => hts w (List.mem_cons_of_mem _ (List.mem_append_right _ hw))) (by decide +kernel) (vx_c ((hT.2.2.2 _ (List.mem_of_getElem? (i := 0) rfl)).use rfl) (vx_c ((hT.2.2.2 _ (List.mem_of_getElem? (i := 1) rfl)).use rfl) (vx_c ((hT.2.2.2 _ (List.mem_of_getElem? (i := 2) rfl)).use rfl) (vx_c ((hT.2.1 1 (by decide)).use rfl) vx_n))))) (by decide +kernel) hO.2.2.2.1 hO.2.2.2.2.1 va_S.rf (hl.1.trans hml.symm) dX7_checkNumber_4 dX7_checkNumber_7 dX7_checkNumber_8 dX7_checkNumber_11 dX7_checkNumber_14 (fun x hx => (hexc x hx).elim) (Nat.le_of_ble_eq_true rfl) (Nat.le_of_ble_eq_true rfl) (Nat.le_of_ble_eq_true rfl) (Nat.le_of_ble_eq_true rfl) hlocks (fun t hvm h1 h2 => ⟨(), trivial, by rw [hk]; rfl, ⟨h1, fun q hq _ => h2 q hq⟩⟩) (fun q h => by cases h) (Nat.le_of_ble_eq_true rfl) (Nat.le_of_ble_eq_true rfl)
def m_X7_checkArgument (p1 : Int32) : Option Nat := some (if p1 = 0 then 2 else 0)
set_option maxHeartbeats 4000000 in
set_option maxRecDepth 100000 in
theorem c_X7_checkArgument_ok (l : Launch) (p1 : Int32) (h : m_X7_checkArgument p1 = some 0) : Met l yX7_checkArgument wsX7_checkArgument ({ frames := 0, cells := 0, slots := 0, locals := 0 } : Room) (va_Pc [.int p1] (fun _ => True)) (va_Sv (fun _ => True)) 0 0 (fun _ => False) := by
  have hp : ¬ p1 = 0 := fun q => by rw [q] at h; exact absurd h (by decide)
  refine metBv (by decide) rfl (Nat.le_of_ble_eq_true rfl) ?_
  intro p e s m av below meth c Q ls hx hb hml hts hown _ hl hret
  replace hl : lv_has ls 1 [(0, .int p1)] := hl
  refine lv_iload_n hx hb dX7_checkArgument_0 rfl (lv_at hl 0 rfl) ?_
  refine lv_if_ne (tgt := 15) hx hb dX7_checkArgument_1 (by decide) (fun _ => ?_) (fun c_1 => absurd c_1 hp)
  exact hret _ _ dX7_checkArgument_15
set_option maxHeartbeats 4000000 in
set_option maxRecDepth 100000 in
theorem c_X7_checkArgument_no (l : Launch) (hfl : l.stackTraces = false) (z : Nat → Nat) (G : va_G) (cA : Nat → ClassId) (sz : Nat) (p1 : Int32) (k : Nat) (h : m_X7_checkArgument p1 = some k) (h0 : ¬ k = 0) : vx_Met l yX7_checkArgument wsX7_checkArgument ({ frames := 6, cells := 1, slots := 6, locals := 82 } : Room) (va_Pc [.int p1] (PMo z G cA [] sz)) (va_Qv (fun _ : Unit => False) (fun _ _ => True) (va_A [] sz)) (vx_X (fun _ : Unit => True) (fun E _ _ => E = exN k) (va_A [] sz)) 1 6 (va_A [] sz) := by
  have hp : p1 = 0 := by
    by_cases q : p1 = 0
    · exact q
    · unfold m_X7_checkArgument at h
      rw [if_neg q] at h
      exact absurd (Option.some.inj h).symm h0
  have hk : k = 2 := by
    unfold m_X7_checkArgument at h
    rw [if_pos hp] at h
    exact (Option.some.inj h).symm
  refine vx_ofW (cc := cX7_checkArgument) (maxL := 1) (ret := none) (by decide) rfl ?_
  intro p e s m args0 below meth c s₁ B hml hexc hv
  obtain ⟨rfl, ⟨hsz, hP, hD0, hK⟩, hT, hO⟩ := hv
  subst hsz
  have hx := B.exec
  have hb := B.bytes
  have hts := atoms_spec (ws := wsX7_checkArgument) B.pre
  have hown : s.vm.findClass RX7 = some m.cls := findClass_of_methodNamed B.named
  have hlocks := B.notSynchronized
  have hl := lv_entry ([.int p1]) (n := 1) (Nat.le_of_ble_eq_true rfl)
  rw [lg_entry_eq]
  generalize (lg_sl ([.int p1]) ++ List.replicate (1 - (lg_sl ([.int p1])).length) Slot.unset).toArray = ls at hl ⊢
  replace hl : lv_has ls 1 [(0, .int p1)] := hl
  refine lv_iload_n hx hb dX7_checkArgument_0 rfl (lv_at hl 0 rfl) ?_
  refine lv_if_ne (tgt := 15) hx hb dX7_checkArgument_1 (by decide) (fun c_1 => absurd hp c_1) (fun _ => ?_)
  refine vx_throwSW (own := RX7) (cls := "java/lang/IllegalArgumentException") (names := ["java/lang/RuntimeException", "java/lang/Exception"]) (text := "an argument is not in its range") (sa := z 26) (A := va_A [] s.heap.size) hx hb hfl hown (by decide) (by decide) (hts (.classLink RX7 373 "java/lang/IllegalArgumentException") (by decide +kernel)) (hts (.initialized "java/lang/IllegalArgumentException") (by decide +kernel)) (hT.1 (RX7, 375, "an argument is not in its range", 26) (List.mem_of_getElem? (i := 14) rfl)) (vx_hat (B := [.declares (Bundle.initS "java/lang/RuntimeException"), .declares (Bundle.initS "java/lang/Exception"), .declares (Bundle.initS "java/lang/Throwable"), .castable "java/lang/IllegalArgumentException" "java/lang/IllegalArgumentException"]) (fun w hw => hts w (List.mem_cons_of_mem _ (List.mem_append_right _ hw))) (by decide +kernel) (vx_c ((hT.2.2.2 _ (List.mem_of_getElem? (i := 0) rfl)).use rfl) (vx_c ((hT.2.2.2 _ (List.mem_of_getElem? (i := 1) rfl)).use rfl) (vx_c ((hT.2.2.2 _ (List.mem_of_getElem? (i := 2) rfl)).use rfl) (vx_c ((hT.2.1 2 (by decide)).use rfl) vx_n))))) (by decide +kernel) hO.2.2.2.1 hO.2.2.2.2.1 va_S.rf (hl.1.trans hml.symm) dX7_checkArgument_4 dX7_checkArgument_7 dX7_checkArgument_8 dX7_checkArgument_11 dX7_checkArgument_14 (fun x hx => (hexc x hx).elim) (Nat.le_of_ble_eq_true rfl) (Nat.le_of_ble_eq_true rfl) (Nat.le_of_ble_eq_true rfl) (Nat.le_of_ble_eq_true rfl) hlocks (fun t hvm h1 h2 => ⟨(), trivial, by rw [hk]; rfl, ⟨h1, fun q hq _ => h2 q hq⟩⟩) (fun q h => by cases h) (Nat.le_of_ble_eq_true rfl) (Nat.le_of_ble_eq_true rfl)
def m_X7_checkState (p1 : Int32) : Option Nat := some (if p1 = 0 then 3 else 0)
set_option maxHeartbeats 4000000 in
set_option maxRecDepth 100000 in
theorem c_X7_checkState_ok (l : Launch) (p1 : Int32) (h : m_X7_checkState p1 = some 0) : Met l yX7_checkState wsX7_checkState ({ frames := 0, cells := 0, slots := 0, locals := 0 } : Room) (va_Pc [.int p1] (fun _ => True)) (va_Sv (fun _ => True)) 0 0 (fun _ => False) := by
  have hp : ¬ p1 = 0 := fun q => by rw [q] at h; exact absurd h (by decide)
  refine metBv (by decide) rfl (Nat.le_of_ble_eq_true rfl) ?_
  intro p e s m av below meth c Q ls hx hb hml hts hown _ hl hret
  replace hl : lv_has ls 1 [(0, .int p1)] := hl
  refine lv_iload_n hx hb dX7_checkState_0 rfl (lv_at hl 0 rfl) ?_
  refine lv_if_ne (tgt := 15) hx hb dX7_checkState_1 (by decide) (fun _ => ?_) (fun c_1 => absurd c_1 hp)
  exact hret _ _ dX7_checkState_15
set_option maxHeartbeats 4000000 in
set_option maxRecDepth 100000 in
theorem c_X7_checkState_no (l : Launch) (hfl : l.stackTraces = false) (z : Nat → Nat) (G : va_G) (cA : Nat → ClassId) (sz : Nat) (p1 : Int32) (k : Nat) (h : m_X7_checkState p1 = some k) (h0 : ¬ k = 0) : vx_Met l yX7_checkState wsX7_checkState ({ frames := 6, cells := 1, slots := 6, locals := 82 } : Room) (va_Pc [.int p1] (PMo z G cA [] sz)) (va_Qv (fun _ : Unit => False) (fun _ _ => True) (va_A [] sz)) (vx_X (fun _ : Unit => True) (fun E _ _ => E = exN k) (va_A [] sz)) 1 6 (va_A [] sz) := by
  have hp : p1 = 0 := by
    by_cases q : p1 = 0
    · exact q
    · unfold m_X7_checkState at h
      rw [if_neg q] at h
      exact absurd (Option.some.inj h).symm h0
  have hk : k = 3 := by
    unfold m_X7_checkState at h
    rw [if_pos hp] at h
    exact (Option.some.inj h).symm
  refine vx_ofW (cc := cX7_checkState) (maxL := 1) (ret := none) (by decide) rfl ?_
  intro p e s m args0 below meth c s₁ B hml hexc hv
  obtain ⟨rfl, ⟨hsz, hP, hD0, hK⟩, hT, hO⟩ := hv
  subst hsz
  have hx := B.exec
  have hb := B.bytes
  have hts := atoms_spec (ws := wsX7_checkState) B.pre
  have hown : s.vm.findClass RX7 = some m.cls := findClass_of_methodNamed B.named
  have hlocks := B.notSynchronized
  have hl := lv_entry ([.int p1]) (n := 1) (Nat.le_of_ble_eq_true rfl)
  rw [lg_entry_eq]
  generalize (lg_sl ([.int p1]) ++ List.replicate (1 - (lg_sl ([.int p1])).length) Slot.unset).toArray = ls at hl ⊢
  replace hl : lv_has ls 1 [(0, .int p1)] := hl
  refine lv_iload_n hx hb dX7_checkState_0 rfl (lv_at hl 0 rfl) ?_
  refine lv_if_ne (tgt := 15) hx hb dX7_checkState_1 (by decide) (fun c_1 => absurd hp c_1) (fun _ => ?_)
  refine vx_throwSW (own := RX7) (cls := "java/lang/IllegalStateException") (names := ["java/lang/RuntimeException", "java/lang/Exception"]) (text := "this cannot be done now") (sa := z 27) (A := va_A [] s.heap.size) hx hb hfl hown (by decide) (by decide) (hts (.classLink RX7 378 "java/lang/IllegalStateException") (by decide +kernel)) (hts (.initialized "java/lang/IllegalStateException") (by decide +kernel)) (hT.1 (RX7, 380, "this cannot be done now", 27) (List.mem_of_getElem? (i := 15) rfl)) (vx_hat (B := [.declares (Bundle.initS "java/lang/RuntimeException"), .declares (Bundle.initS "java/lang/Exception"), .declares (Bundle.initS "java/lang/Throwable"), .castable "java/lang/IllegalStateException" "java/lang/IllegalStateException"]) (fun w hw => hts w (List.mem_cons_of_mem _ (List.mem_append_right _ hw))) (by decide +kernel) (vx_c ((hT.2.2.2 _ (List.mem_of_getElem? (i := 0) rfl)).use rfl) (vx_c ((hT.2.2.2 _ (List.mem_of_getElem? (i := 1) rfl)).use rfl) (vx_c ((hT.2.2.2 _ (List.mem_of_getElem? (i := 2) rfl)).use rfl) (vx_c ((hT.2.1 3 (by decide)).use rfl) vx_n))))) (by decide +kernel) hO.2.2.2.1 hO.2.2.2.2.1 va_S.rf (hl.1.trans hml.symm) dX7_checkState_4 dX7_checkState_7 dX7_checkState_8 dX7_checkState_11 dX7_checkState_14 (fun x hx => (hexc x hx).elim) (Nat.le_of_ble_eq_true rfl) (Nat.le_of_ble_eq_true rfl) (Nat.le_of_ble_eq_true rfl) (Nat.le_of_ble_eq_true rfl) hlocks (fun t hvm h1 h2 => ⟨(), trivial, by rw [hk]; rfl, ⟨h1, fun q hq _ => h2 q hq⟩⟩) (fun q h => by cases h) (Nat.le_of_ble_eq_true rfl) (Nat.le_of_ble_eq_true rfl)
def m_X7_checkAnswer (p1 : Int32) : Option Nat := some (if p1 = 0 then 4 else 0)
set_option maxHeartbeats 4000000 in
set_option maxRecDepth 100000 in
theorem c_X7_checkAnswer_ok (l : Launch) (p1 : Int32) (h : m_X7_checkAnswer p1 = some 0) : Met l yX7_checkAnswer wsX7_checkAnswer ({ frames := 0, cells := 0, slots := 0, locals := 0 } : Room) (va_Pc [.int p1] (fun _ => True)) (va_Sv (fun _ => True)) 0 0 (fun _ => False) := by
  have hp : ¬ p1 = 0 := fun q => by rw [q] at h; exact absurd h (by decide)
  refine metBv (by decide) rfl (Nat.le_of_ble_eq_true rfl) ?_
  intro p e s m av below meth c Q ls hx hb hml hts hown _ hl hret
  replace hl : lv_has ls 1 [(0, .int p1)] := hl
  refine lv_iload_n hx hb dX7_checkAnswer_0 rfl (lv_at hl 0 rfl) ?_
  refine lv_if_ne (tgt := 15) hx hb dX7_checkAnswer_1 (by decide) (fun _ => ?_) (fun c_1 => absurd c_1 hp)
  exact hret _ _ dX7_checkAnswer_15
set_option maxHeartbeats 4000000 in
set_option maxRecDepth 100000 in
theorem c_X7_checkAnswer_no (l : Launch) (hfl : l.stackTraces = false) (z : Nat → Nat) (G : va_G) (cA : Nat → ClassId) (sz : Nat) (p1 : Int32) (k : Nat) (h : m_X7_checkAnswer p1 = some k) (h0 : ¬ k = 0) : vx_Met l yX7_checkAnswer wsX7_checkAnswer ({ frames := 6, cells := 1, slots := 6, locals := 82 } : Room) (va_Pc [.int p1] (PMo z G cA [] sz)) (va_Qv (fun _ : Unit => False) (fun _ _ => True) (va_A [] sz)) (vx_X (fun _ : Unit => True) (fun E _ _ => E = exN k) (va_A [] sz)) 1 6 (va_A [] sz) := by
  have hp : p1 = 0 := by
    by_cases q : p1 = 0
    · exact q
    · unfold m_X7_checkAnswer at h
      rw [if_neg q] at h
      exact absurd (Option.some.inj h).symm h0
  have hk : k = 4 := by
    unfold m_X7_checkAnswer at h
    rw [if_pos hp] at h
    exact (Option.some.inj h).symm
  refine vx_ofW (cc := cX7_checkAnswer) (maxL := 1) (ret := none) (by decide) rfl ?_
  intro p e s m args0 below meth c s₁ B hml hexc hv
  obtain ⟨rfl, ⟨hsz, hP, hD0, hK⟩, hT, hO⟩ := hv
  subst hsz
  have hx := B.exec
  have hb := B.bytes
  have hts := atoms_spec (ws := wsX7_checkAnswer) B.pre
  have hown : s.vm.findClass RX7 = some m.cls := findClass_of_methodNamed B.named
  have hlocks := B.notSynchronized
  have hl := lv_entry ([.int p1]) (n := 1) (Nat.le_of_ble_eq_true rfl)
  rw [lg_entry_eq]
  generalize (lg_sl ([.int p1]) ++ List.replicate (1 - (lg_sl ([.int p1])).length) Slot.unset).toArray = ls at hl ⊢
  replace hl : lv_has ls 1 [(0, .int p1)] := hl
  refine lv_iload_n hx hb dX7_checkAnswer_0 rfl (lv_at hl 0 rfl) ?_
  refine lv_if_ne (tgt := 15) hx hb dX7_checkAnswer_1 (by decide) (fun c_1 => absurd hp c_1) (fun _ => ?_)
  refine vx_throwSW (own := RX7) (cls := "java/util/NoSuchElementException") (names := ["java/lang/RuntimeException", "java/lang/Exception"]) (text := "there is no answer") (sa := z 28) (A := va_A [] s.heap.size) hx hb hfl hown (by decide) (by decide) (hts (.classLink RX7 383 "java/util/NoSuchElementException") (by decide +kernel)) (hts (.initialized "java/util/NoSuchElementException") (by decide +kernel)) (hT.1 (RX7, 385, "there is no answer", 28) (List.mem_of_getElem? (i := 16) rfl)) (vx_hat (B := [.declares (Bundle.initS "java/lang/RuntimeException"), .declares (Bundle.initS "java/lang/Exception"), .declares (Bundle.initS "java/lang/Throwable"), .castable "java/util/NoSuchElementException" "java/util/NoSuchElementException"]) (fun w hw => hts w (List.mem_cons_of_mem _ (List.mem_append_right _ hw))) (by decide +kernel) (vx_c ((hT.2.2.2 _ (List.mem_of_getElem? (i := 0) rfl)).use rfl) (vx_c ((hT.2.2.2 _ (List.mem_of_getElem? (i := 1) rfl)).use rfl) (vx_c ((hT.2.2.2 _ (List.mem_of_getElem? (i := 2) rfl)).use rfl) (vx_c ((hT.2.1 4 (by decide)).use rfl) vx_n))))) (by decide +kernel) hO.2.2.2.1 hO.2.2.2.2.1 va_S.rf (hl.1.trans hml.symm) dX7_checkAnswer_4 dX7_checkAnswer_7 dX7_checkAnswer_8 dX7_checkAnswer_11 dX7_checkAnswer_14 (fun x hx => (hexc x hx).elim) (Nat.le_of_ble_eq_true rfl) (Nat.le_of_ble_eq_true rfl) (Nat.le_of_ble_eq_true rfl) (Nat.le_of_ble_eq_true rfl) hlocks (fun t hvm h1 h2 => ⟨(), trivial, by rw [hk]; rfl, ⟨h1, fun q hq _ => h2 q hq⟩⟩) (fun q h => by cases h) (Nat.le_of_ble_eq_true rfl) (Nat.le_of_ble_eq_true rfl)
def m_X7_raise (p1 : Int32) : Option Nat := some (if p1 = 7 then 1 else if p1 = 8 then 2 else if p1 = 9 then 3 else if p1 < 1 then 0 else if 6 < p1 then 0 else 5)
set_option maxHeartbeats 4000000 in
set_option maxRecDepth 100000 in
theorem c_X7_raise_ok (l : Launch) (G : va_G) (cA : Nat → ClassId) (p1 : Int32) (h : m_X7_raise p1 = some 0) : Met l yX7_raise wsX7_raise ({ frames := 3, cells := 0, slots := 0, locals := 60 } : Room) (va_Pc [.int p1] (PR G cA [])) (va_Sv (fun _ => True)) 0 0 (fun _ => False) := by
  have e1 : m_X7_isRefusal p1 = some (if p1 < 1 then 0 else if 6 < p1 then 0 else 1) := by
    simp only [m_X7_isRefusal, m_X7_isFrom]
    by_cases q1 : p1 < 1
    · rw [if_pos q1, if_pos q1]; rfl
    · rw [if_neg q1, if_neg q1]
      by_cases q2 : (6 : Int32) < p1
      · rw [if_pos q2, if_pos q2]; rfl
      · rw [if_neg q2, if_neg q2]; rfl
  have hrf : m_X7_isRefusal p1 ≠ none := by rw [e1]; exact fun q => by cases q
  unfold m_X7_raise at h
  have h7 : ¬ p1 = 7 := fun q => by rw [if_pos q] at h; cases h
  rw [if_neg h7] at h
  have h8 : ¬ p1 = 8 := fun q => by rw [if_pos q] at h; cases h
  rw [if_neg h8] at h
  have h9 : ¬ p1 = 9 := fun q => by rw [if_pos q] at h; cases h
  rw [if_neg h9] at h
  have e2 : (if p1 < 1 then (0 : Int32) else if 6 < p1 then 0 else 1) = 0 := by
    by_cases q1 : p1 < 1
    · rw [if_pos q1]
    · rw [if_neg q1] at h ⊢
      by_cases q2 : (6 : Int32) < p1
      · rw [if_pos q2]
      · rw [if_neg q2] at h; cases h
  refine metBv (by decide) rfl (Nat.le_of_ble_eq_true rfl) ?_
  intro p e s m av below meth c Q ls hx hb hml hts hown hB hl hret
  obtain ⟨hP, hK⟩ := hB
  replace hl : lv_has ls 1 [(0, .int p1)] := hl
  refine lv_iload_n hx hb dX7_raise_0 rfl (lv_at hl 0 rfl) ?_
  refine lv_bipush (v := (7 : Int32)) hx hb dX7_raise_1 (by decide) ?_
  refine lv_icmp_eq (tgt := 10) hx hb dX7_raise_3 (by decide) (fun c_1 => absurd c_1 h7) (fun _ => ?_)
  refine lv_iconst (v := (1 : Int32)) hx hb dX7_raise_6 (by decide) ?_
  refine lv_goto (tgt := 11) hx hb dX7_raise_7 (by decide) ?_
  refine va_csv (va_Run.run (va_runS (As := [.int 1]) (rest := []) ⟨hx, hb, hml, hown, hts⟩ (c_X7_checkNumber_ok l 1 (by decide)) (va_cwS 1 hts gX7_raise_X7_checkNumber rfl rfl rfl (by decide +kernel) ⟨Nat.le_of_ble_eq_true rfl, Nat.le_of_ble_eq_true rfl⟩) ⟨fun _ _ _ _ q => ⟨q.1, trivial⟩, fun U hU hW => ⟨rfl, trivial⟩⟩ rfl rfl hl.1 rfl (lv_room (Nat.le_of_ble_eq_true rfl)) dX7_raise_11 ⟨Nat.zero_le _, Nat.zero_le _⟩)) ?_
  intro _
  refine lv_iload_n hx hb dX7_raise_14 rfl (lv_at hl 0 rfl) ?_
  refine lv_bipush (v := (8 : Int32)) hx hb dX7_raise_15 (by decide) ?_
  refine lv_icmp_eq (tgt := 24) hx hb dX7_raise_17 (by decide) (fun c_1 => absurd c_1 h8) (fun _ => ?_)
  refine lv_iconst (v := (1 : Int32)) hx hb dX7_raise_20 (by decide) ?_
  refine lv_goto (tgt := 25) hx hb dX7_raise_21 (by decide) ?_
  refine va_csv (va_Run.run (va_runS (As := [.int 1]) (rest := []) ⟨hx, hb, hml, hown, hts⟩ (c_X7_checkArgument_ok l 1 (by decide)) (va_cwS 1 hts gX7_raise_X7_checkArgument rfl rfl rfl (by decide +kernel) ⟨Nat.le_of_ble_eq_true rfl, Nat.le_of_ble_eq_true rfl⟩) ⟨fun _ _ _ _ q => ⟨q.1, trivial⟩, fun U hU hW => ⟨rfl, trivial⟩⟩ rfl rfl hl.1 rfl (lv_room (Nat.le_of_ble_eq_true rfl)) dX7_raise_25 ⟨Nat.zero_le _, Nat.zero_le _⟩)) ?_
  intro _
  refine lv_iload_n hx hb dX7_raise_28 rfl (lv_at hl 0 rfl) ?_
  refine lv_bipush (v := (9 : Int32)) hx hb dX7_raise_29 (by decide) ?_
  refine lv_icmp_eq (tgt := 38) hx hb dX7_raise_31 (by decide) (fun c_1 => absurd c_1 h9) (fun _ => ?_)
  refine lv_iconst (v := (1 : Int32)) hx hb dX7_raise_34 (by decide) ?_
  refine lv_goto (tgt := 39) hx hb dX7_raise_35 (by decide) ?_
  refine va_csv (va_Run.run (va_runS (As := [.int 1]) (rest := []) ⟨hx, hb, hml, hown, hts⟩ (c_X7_checkState_ok l 1 (by decide)) (va_cwS 1 hts gX7_raise_X7_checkState rfl rfl rfl (by decide +kernel) ⟨Nat.le_of_ble_eq_true rfl, Nat.le_of_ble_eq_true rfl⟩) ⟨fun _ _ _ _ q => ⟨q.1, trivial⟩, fun U hU hW => ⟨rfl, trivial⟩⟩ rfl rfl hl.1 rfl (lv_room (Nat.le_of_ble_eq_true rfl)) dX7_raise_39 ⟨Nat.zero_le _, Nat.zero_le _⟩)) ?_
  intro _
  refine lv_iload_n hx hb dX7_raise_42 rfl (lv_at hl 0 rfl) ?_
  refine vp_callSi (va_Run.run (va_runS (As := [.int p1]) (rest := []) ⟨hx, hb, hml, hown, hts⟩ (c_X7_isRefusal l G cA p1 _ rfl hrf) (va_cwS 1 hts gX7_raise_X7_isRefusal rfl rfl rfl (by decide +kernel) ⟨Nat.le_of_ble_eq_true rfl, Nat.le_of_ble_eq_true rfl⟩) (preRS hP hK) rfl rfl hl.1 rfl (lv_room (Nat.le_of_ble_eq_true rfl)) dX7_raise_43 ⟨Nat.zero_le _, Nat.zero_le _⟩)) (fun r_1 hw => ?_)
  replace hw := hw.1
  rw [e1, e2] at hw
  replace hw := Option.some.inj hw
  subst hw
  refine lv_if_eq (tgt := 60) hx hb dX7_raise_46 (by decide) (fun _ => ?_) (fun c_1 => absurd rfl c_1)
  exact hret _ _ dX7_raise_60
set_option maxHeartbeats 4000000 in
set_option maxRecDepth 100000 in
theorem c_X7_raise_no (l : Launch) (hfl : l.stackTraces = false) (z : Nat → Nat) (G : va_G) (cA : Nat → ClassId) (sz : Nat) (p1 : Int32) (k : Nat) (h : m_X7_raise p1 = some k) (h0 : ¬ k = 0) : vx_Met l yX7_raise wsX7_raise ({ frames := 7, cells := 1, slots := 6, locals := 110 } : Room) (va_Pc [.int p1] (PMo z G cA [] sz)) (va_Qv (fun _ : Unit => False) (fun _ _ => True) (va_A [] sz)) (vx_X (fun _ : Unit => True) (fun E _ _ => E = exN k) (va_A [] sz)) 1 6 (va_A [] sz) := by
  have e1 : m_X7_isRefusal p1 = some (if p1 < 1 then 0 else if 6 < p1 then 0 else 1) := by
    simp only [m_X7_isRefusal, m_X7_isFrom]
    by_cases q1 : p1 < 1
    · rw [if_pos q1, if_pos q1]; rfl
    · rw [if_neg q1, if_neg q1]
      by_cases q2 : (6 : Int32) < p1
      · rw [if_pos q2, if_pos q2]; rfl
      · rw [if_neg q2, if_neg q2]; rfl
  have hrf : m_X7_isRefusal p1 ≠ none := by rw [e1]; exact fun q => by cases q
  unfold m_X7_raise at h
  refine vx_ofW (cc := cX7_raise) (maxL := 1) (ret := none) (by decide) rfl ?_
  intro p e s m args0 below meth c s₁ B hml hexc hv
  obtain ⟨rfl, ⟨hsz, hP, hD0, hK⟩, hT, hO⟩ := hv
  subst hsz
  have hx := B.exec
  have hb := B.bytes
  have hts := atoms_spec (ws := wsX7_raise) B.pre
  have hown : s.vm.findClass RX7 = some m.cls := findClass_of_methodNamed B.named
  have hlocks := B.notSynchronized
  have hl := lv_entry ([.int p1]) (n := 1) (Nat.le_of_ble_eq_true rfl)
  rw [lg_entry_eq]
  generalize (lg_sl ([.int p1]) ++ List.replicate (1 - (lg_sl ([.int p1])).length) Slot.unset).toArray = ls at hl ⊢
  replace hl : lv_has ls 1 [(0, .int p1)] := hl
  by_cases h7 : p1 = 7
  · rw [if_pos h7] at h
    have hk : k = 1 := (Option.some.inj h).symm
    refine lv_iload_n hx hb dX7_raise_0 rfl (lv_at hl 0 rfl) ?_
    refine lv_bipush (v := (7 : Int32)) hx hb dX7_raise_1 (by decide) ?_
    refine lv_icmp_eq (tgt := 10) hx hb dX7_raise_3 (by decide) (fun _ => ?_) (fun c_1 => absurd h7 c_1)
    refine lv_iconst (v := (0 : Int32)) hx hb dX7_raise_10 (by decide) ?_
    refine vx_callv (vx_runS (As := [.int 0]) (rest := []) ⟨hx, hb, hml, hown, hts⟩ (c_X7_checkNumber_no l hfl z G cA s.heap.size 0 1 (by decide) (by decide)) (va_cwS 1 hts gX7_raise_X7_checkNumber rfl rfl rfl (by decide +kernel) ⟨Nat.le_of_ble_eq_true rfl, Nat.le_of_ble_eq_true rfl⟩) (preMSo (ws := []) (A0 := va_A [] s.heap.size) hP hD0.self hK hT hO va_S.rf (fun _ h => h)) rfl rfl hl.1 rfl (lv_room (Nat.le_of_ble_eq_true rfl)) dX7_raise_11 ⟨Nat.le_of_ble_eq_true rfl, Nat.le_of_ble_eq_true rfl⟩) (A0 := va_A [] s.heap.size) va_S.rf (fun q _ h => h) (fun q h => h) (fun q _ h => h) (fun E ce q u t H locs ht hvm hw hB hz1 hk1 hS' hce hcv hcl => ?_) (fun u t H1 locs1 h1 h2 h3 => h3.elim)
    exact vx_out (fun x hx => (hexc x hx).elim) hlocks hce hcv hcl (fun t ht hvm => ⟨(), trivial, by rw [hk]; exact hB, hS'.F ht⟩) hS'.2.2 (Nat.le_refl _) (Nat.le_refl _)
  rw [if_neg h7] at h
  refine lv_iload_n hx hb dX7_raise_0 rfl (lv_at hl 0 rfl) ?_
  refine lv_bipush (v := (7 : Int32)) hx hb dX7_raise_1 (by decide) ?_
  refine lv_icmp_eq (tgt := 10) hx hb dX7_raise_3 (by decide) (fun c_1 => absurd c_1 h7) (fun _ => ?_)
  refine lv_iconst (v := (1 : Int32)) hx hb dX7_raise_6 (by decide) ?_
  refine lv_goto (tgt := 11) hx hb dX7_raise_7 (by decide) ?_
  refine va_csv (va_Run.run (va_runS (As := [.int 1]) (rest := []) ⟨hx, hb, hml, hown, hts⟩ (c_X7_checkNumber_ok l 1 (by decide)) (va_cwS 1 hts gX7_raise_X7_checkNumber rfl rfl rfl (by decide +kernel) ⟨Nat.le_of_ble_eq_true rfl, Nat.le_of_ble_eq_true rfl⟩) ⟨fun _ _ _ _ q => ⟨q.1, trivial⟩, fun U hU hW => ⟨rfl, trivial⟩⟩ rfl rfl hl.1 rfl (lv_room (Nat.le_of_ble_eq_true rfl)) dX7_raise_11 ⟨Nat.zero_le _, Nat.zero_le _⟩)) ?_
  intro _
  by_cases h8 : p1 = 8
  · rw [if_pos h8] at h
    have hk : k = 2 := (Option.some.inj h).symm
    refine lv_iload_n hx hb dX7_raise_14 rfl (lv_at hl 0 rfl) ?_
    refine lv_bipush (v := (8 : Int32)) hx hb dX7_raise_15 (by decide) ?_
    refine lv_icmp_eq (tgt := 24) hx hb dX7_raise_17 (by decide) (fun _ => ?_) (fun c_1 => absurd h8 c_1)
    refine lv_iconst (v := (0 : Int32)) hx hb dX7_raise_24 (by decide) ?_
    refine vx_callv (vx_runS (As := [.int 0]) (rest := []) ⟨hx, hb, hml, hown, hts⟩ (c_X7_checkArgument_no l hfl z G cA s.heap.size 0 2 (by decide) (by decide)) (va_cwS 1 hts gX7_raise_X7_checkArgument rfl rfl rfl (by decide +kernel) ⟨Nat.le_of_ble_eq_true rfl, Nat.le_of_ble_eq_true rfl⟩) (preMSo (ws := []) (A0 := va_A [] s.heap.size) hP hD0.self hK hT hO va_S.rf (fun _ h => h)) rfl rfl hl.1 rfl (lv_room (Nat.le_of_ble_eq_true rfl)) dX7_raise_25 ⟨Nat.le_of_ble_eq_true rfl, Nat.le_of_ble_eq_true rfl⟩) (A0 := va_A [] s.heap.size) va_S.rf (fun q _ h => h) (fun q h => h) (fun q _ h => h) (fun E ce q u t H locs ht hvm hw hB hz1 hk1 hS' hce hcv hcl => ?_) (fun u t H1 locs1 h1 h2 h3 => h3.elim)
    exact vx_out (fun x hx => (hexc x hx).elim) hlocks hce hcv hcl (fun t ht hvm => ⟨(), trivial, by rw [hk]; exact hB, hS'.F ht⟩) hS'.2.2 (Nat.le_refl _) (Nat.le_refl _)
  rw [if_neg h8] at h
  refine lv_iload_n hx hb dX7_raise_14 rfl (lv_at hl 0 rfl) ?_
  refine lv_bipush (v := (8 : Int32)) hx hb dX7_raise_15 (by decide) ?_
  refine lv_icmp_eq (tgt := 24) hx hb dX7_raise_17 (by decide) (fun c_1 => absurd c_1 h8) (fun _ => ?_)
  refine lv_iconst (v := (1 : Int32)) hx hb dX7_raise_20 (by decide) ?_
  refine lv_goto (tgt := 25) hx hb dX7_raise_21 (by decide) ?_
  refine va_csv (va_Run.run (va_runS (As := [.int 1]) (rest := []) ⟨hx, hb, hml, hown, hts⟩ (c_X7_checkArgument_ok l 1 (by decide)) (va_cwS 1 hts gX7_raise_X7_checkArgument rfl rfl rfl (by decide +kernel) ⟨Nat.le_of_ble_eq_true rfl, Nat.le_of_ble_eq_true rfl⟩) ⟨fun _ _ _ _ q => ⟨q.1, trivial⟩, fun U hU hW => ⟨rfl, trivial⟩⟩ rfl rfl hl.1 rfl (lv_room (Nat.le_of_ble_eq_true rfl)) dX7_raise_25 ⟨Nat.zero_le _, Nat.zero_le _⟩)) ?_
  intro _
  by_cases h9 : p1 = 9
  · rw [if_pos h9] at h
    have hk : k = 3 := (Option.some.inj h).symm
    refine lv_iload_n hx hb dX7_raise_28 rfl (lv_at hl 0 rfl) ?_
    refine lv_bipush (v := (9 : Int32)) hx hb dX7_raise_29 (by decide) ?_
    refine lv_icmp_eq (tgt := 38) hx hb dX7_raise_31 (by decide) (fun _ => ?_) (fun c_1 => absurd h9 c_1)
    refine lv_iconst (v := (0 : Int32)) hx hb dX7_raise_38 (by decide) ?_
    refine vx_callv (vx_runS (As := [.int 0]) (rest := []) ⟨hx, hb, hml, hown, hts⟩ (c_X7_checkState_no l hfl z G cA s.heap.size 0 3 (by decide) (by decide)) (va_cwS 1 hts gX7_raise_X7_checkState rfl rfl rfl (by decide +kernel) ⟨Nat.le_of_ble_eq_true rfl, Nat.le_of_ble_eq_true rfl⟩) (preMSo (ws := []) (A0 := va_A [] s.heap.size) hP hD0.self hK hT hO va_S.rf (fun _ h => h)) rfl rfl hl.1 rfl (lv_room (Nat.le_of_ble_eq_true rfl)) dX7_raise_39 ⟨Nat.le_of_ble_eq_true rfl, Nat.le_of_ble_eq_true rfl⟩) (A0 := va_A [] s.heap.size) va_S.rf (fun q _ h => h) (fun q h => h) (fun q _ h => h) (fun E ce q u t H locs ht hvm hw hB hz1 hk1 hS' hce hcv hcl => ?_) (fun u t H1 locs1 h1 h2 h3 => h3.elim)
    exact vx_out (fun x hx => (hexc x hx).elim) hlocks hce hcv hcl (fun t ht hvm => ⟨(), trivial, by rw [hk]; exact hB, hS'.F ht⟩) hS'.2.2 (Nat.le_refl _) (Nat.le_refl _)
  rw [if_neg h9] at h
  refine lv_iload_n hx hb dX7_raise_28 rfl (lv_at hl 0 rfl) ?_
  refine lv_bipush (v := (9 : Int32)) hx hb dX7_raise_29 (by decide) ?_
  refine lv_icmp_eq (tgt := 38) hx hb dX7_raise_31 (by decide) (fun c_1 => absurd c_1 h9) (fun _ => ?_)
  refine lv_iconst (v := (1 : Int32)) hx hb dX7_raise_34 (by decide) ?_
  refine lv_goto (tgt := 39) hx hb dX7_raise_35 (by decide) ?_
  refine va_csv (va_Run.run (va_runS (As := [.int 1]) (rest := []) ⟨hx, hb, hml, hown, hts⟩ (c_X7_checkState_ok l 1 (by decide)) (va_cwS 1 hts gX7_raise_X7_checkState rfl rfl rfl (by decide +kernel) ⟨Nat.le_of_ble_eq_true rfl, Nat.le_of_ble_eq_true rfl⟩) ⟨fun _ _ _ _ q => ⟨q.1, trivial⟩, fun U hU hW => ⟨rfl, trivial⟩⟩ rfl rfl hl.1 rfl (lv_room (Nat.le_of_ble_eq_true rfl)) dX7_raise_39 ⟨Nat.zero_le _, Nat.zero_le _⟩)) ?_
  intro _
  have hq1 : ¬ p1 < 1 := fun q => by rw [if_pos q] at h; exact h0 (Option.some.inj h).symm
  rw [if_neg hq1] at h
  have hq2 : ¬ (6 : Int32) < p1 := fun q => by rw [if_pos q] at h; exact h0 (Option.some.inj h).symm
  rw [if_neg hq2] at h
  have hk : k = 5 := (Option.some.inj h).symm
  refine lv_iload_n hx hb dX7_raise_42 rfl (lv_at hl 0 rfl) ?_
  refine vp_callSi (va_Run.run (va_runS (As := [.int p1]) (rest := []) ⟨hx, hb, hml, hown, hts⟩ (c_X7_isRefusal l G cA p1 _ rfl hrf) (va_cwS 1 hts gX7_raise_X7_isRefusal rfl rfl rfl (by decide +kernel) ⟨Nat.le_of_ble_eq_true rfl, Nat.le_of_ble_eq_true rfl⟩) (preRS hP hK) rfl rfl hl.1 rfl (lv_room (Nat.le_of_ble_eq_true rfl)) dX7_raise_43 ⟨Nat.zero_le _, Nat.zero_le _⟩)) (fun r_1 hw => ?_)
  replace hw := hw.1
  rw [e1, if_neg hq1, if_neg hq2] at hw
  replace hw := Option.some.inj hw
  subst hw
  refine lv_if_eq (tgt := 60) hx hb dX7_raise_46 (by decide) (fun c_1 => absurd c_1 (by decide)) (fun _ => ?_)
  refine vx_throwSW (own := RX7) (cls := "java/lang/UnsupportedOperationException") (names := ["java/lang/RuntimeException", "java/lang/Exception"]) (text := "refused; reason() tells why") (sa := z 29) (A := va_A [] s.heap.size) hx hb hfl hown (by decide) (by decide) (hts (.classLink RX7 391 "java/lang/UnsupportedOperationException") (by decide +kernel)) (hts (.initialized "java/lang/UnsupportedOperationException") (by decide +kernel)) (hT.1 (RX7, 393, "refused; reason() tells why", 29) (List.mem_of_getElem? (i := 17) rfl)) (vx_hat (B := [.declares (Bundle.initS "java/lang/RuntimeException"), .declares (Bundle.initS "java/lang/Exception"), .declares (Bundle.initS "java/lang/Throwable"), .castable "java/lang/UnsupportedOperationException" "java/lang/UnsupportedOperationException"]) (fun w hw => hts w (by first | exact List.mem_cons_of_mem _ (List.mem_append_left _ (List.mem_append_left _ (List.mem_append_left _ (List.mem_append_right _ hw)))) | exact List.mem_cons_of_mem _ (List.mem_append_right _ hw) | exact List.mem_cons_of_mem _ (List.mem_append_left _ (List.mem_append_right _ hw)) | exact List.mem_cons_of_mem _ (List.mem_append_left _ (List.mem_append_left _ (List.mem_append_right _ hw))))) (by decide +kernel) (vx_c ((hT.2.2.2 _ (List.mem_of_getElem? (i := 0) rfl)).use rfl) (vx_c ((hT.2.2.2 _ (List.mem_of_getElem? (i := 1) rfl)).use rfl) (vx_c ((hT.2.2.2 _ (List.mem_of_getElem? (i := 2) rfl)).use rfl) (vx_c ((hT.2.1 5 (by decide)).use rfl) vx_n))))) (by decide +kernel) hO.2.2.2.1 hO.2.2.2.2.1 va_S.rf (hl.1.trans hml.symm) dX7_raise_49 dX7_raise_52 dX7_raise_53 dX7_raise_56 dX7_raise_59 (fun x hx => (hexc x hx).elim) (Nat.le_of_ble_eq_true rfl) (Nat.le_of_ble_eq_true rfl) (Nat.le_of_ble_eq_true rfl) (Nat.le_of_ble_eq_true rfl) hlocks (fun t hvm h1 h2 => ⟨(), trivial, by rw [hk]; rfl, ⟨h1, fun q hq _ => h2 q hq⟩⟩) (fun q h => by cases h) (Nat.le_of_ble_eq_true rfl) (Nat.le_of_ble_eq_true rfl)
