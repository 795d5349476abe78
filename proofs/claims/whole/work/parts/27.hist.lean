/-! The history: worlds as blocks; remember and takeBack. -/
/-- a world's values: day; parcels; deeds; easements; liens -/
abbrev WS : Type := Int32 × Int32 × (Nat → Int32) × (Nat → Int32) × (Nat → Int32) × (Nat → Int32) × (Nat → Int32) × (Nat → Int32) × Int32 × (Nat → Int32) × (Nat → Int32) × (Nat → Int32) × (Nat → Int32) × Int32 × (Nat → Int32) × (Nat → Int32) × (Nat → Int32) × (Nat → Int32) × (Nat → Int32) × Int32 × Int32 × (Nat → Int32) × (Nat → Int32) × (Nat → Int32) × (Nat → Int32)
/-- a world's cells -/
def wl (cA : Nat → ClassId) (a : Nat → Nat) (w : WS) : va_W := [(a 0, .inr (8, [.int w.1, .ref (a 1), .ref (a 8), .ref (a 14), .ref (a 20)])), (a 1, .inr (6, [.int w.2.1, .ref (a 2), .ref (a 3), .ref (a 4), .ref (a 5), .ref (a 6), .ref (a 7)])), (a 2, .inl (cA 0, 24, .inl w.2.2.1)), (a 3, .inl (cA 0, 24, .inl w.2.2.2.1)), (a 4, .inl (cA 0, 24, .inl w.2.2.2.2.1)), (a 5, .inl (cA 0, 24, .inl w.2.2.2.2.2.1)), (a 6, .inl (cA 0, 24, .inl w.2.2.2.2.2.2.1)), (a 7, .inl (cA 0, 24, .inl w.2.2.2.2.2.2.2.1)), (a 8, .inr (2, [.int w.2.2.2.2.2.2.2.2.1, .ref (a 9), .ref (a 10), .ref (a 11), .ref (a 12), .ref (a 13)])), (a 9, .inl (cA 0, 60, .inl w.2.2.2.2.2.2.2.2.2.1)), (a 10, .inl (cA 0, 60, .inl w.2.2.2.2.2.2.2.2.2.2.1)), (a 11, .inl (cA 0, 60, .inl w.2.2.2.2.2.2.2.2.2.2.2.1)), (a 12, .inl (cA 0, 60, .inl w.2.2.2.2.2.2.2.2.2.2.2.2.1)), (a 14, .inr (3, [.int w.2.2.2.2.2.2.2.2.2.2.2.2.2.1, .ref (a 15), .ref (a 16), .ref (a 17), .ref (a 18), .ref (a 19)])), (a 15, .inl (cA 0, 30, .inl w.2.2.2.2.2.2.2.2.2.2.2.2.2.2.1)), (a 16, .inl (cA 0, 30, .inl w.2.2.2.2.2.2.2.2.2.2.2.2.2.2.2.1)), (a 17, .inl (cA 0, 30, .inl w.2.2.2.2.2.2.2.2.2.2.2.2.2.2.2.2.1)), (a 18, .inl (cA 0, 30, .inl w.2.2.2.2.2.2.2.2.2.2.2.2.2.2.2.2.2.1)), (a 19, .inl (cA 0, 30, .inl w.2.2.2.2.2.2.2.2.2.2.2.2.2.2.2.2.2.2.1)), (a 20, .inr (5, [.int w.2.2.2.2.2.2.2.2.2.2.2.2.2.2.2.2.2.2.2.1, .int w.2.2.2.2.2.2.2.2.2.2.2.2.2.2.2.2.2.2.2.2.1, .ref (a 21), .ref (a 22), .ref (a 23), .ref (a 24)])), (a 21, .inl (cA 0, 20, .inl w.2.2.2.2.2.2.2.2.2.2.2.2.2.2.2.2.2.2.2.2.2.1)), (a 22, .inl (cA 0, 20, .inl w.2.2.2.2.2.2.2.2.2.2.2.2.2.2.2.2.2.2.2.2.2.2.1)), (a 23, .inl (cA 0, 20, .inl w.2.2.2.2.2.2.2.2.2.2.2.2.2.2.2.2.2.2.2.2.2.2.2.1)), (a 24, .inl (cA 0, 20, .inl w.2.2.2.2.2.2.2.2.2.2.2.2.2.2.2.2.2.2.2.2.2.2.2.2))]
def b25 (x0 x1 x2 x3 x4 x5 x6 x7 x8 x9 x10 x11 x12 x13 x14 x15 x16 x17 x18 x19 x20 x21 x22 x23 x24 : Nat) : Nat → Nat := fun i => match i with
  | 0 => x0
  | 1 => x1
  | 2 => x2
  | 3 => x3
  | 4 => x4
  | 5 => x5
  | 6 => x6
  | 7 => x7
  | 8 => x8
  | 9 => x9
  | 10 => x10
  | 11 => x11
  | 12 => x12
  | 13 => x13
  | 14 => x14
  | 15 => x15
  | 16 => x16
  | 17 => x17
  | 18 => x18
  | 19 => x19
  | 20 => x20
  | 21 => x21
  | 22 => x22
  | 23 => x23
  | _ => x24
def wcopy (w q : WS) : Option WS := m_X6_copyFrom (w.2.2.1) (w.2.2.2.1) (w.2.2.2.2.1) (w.2.2.2.2.2.1) (w.2.2.2.2.2.2.1) (w.2.2.2.2.2.2.2.1) (w.2.2.2.2.2.2.2.2.2.1) (w.2.2.2.2.2.2.2.2.2.2.1) (w.2.2.2.2.2.2.2.2.2.2.2.1) (w.2.2.2.2.2.2.2.2.2.2.2.2.1) (w.2.2.2.2.2.2.2.2.2.2.2.2.2.2.1) (w.2.2.2.2.2.2.2.2.2.2.2.2.2.2.2.1) (w.2.2.2.2.2.2.2.2.2.2.2.2.2.2.2.2.1) (w.2.2.2.2.2.2.2.2.2.2.2.2.2.2.2.2.2.1) (w.2.2.2.2.2.2.2.2.2.2.2.2.2.2.2.2.2.2.1) (w.2.2.2.2.2.2.2.2.2.2.2.2.2.2.2.2.2.2.2.2.2.1) (w.2.2.2.2.2.2.2.2.2.2.2.2.2.2.2.2.2.2.2.2.2.2.1) (w.2.2.2.2.2.2.2.2.2.2.2.2.2.2.2.2.2.2.2.2.2.2.2.1) (w.2.2.2.2.2.2.2.2.2.2.2.2.2.2.2.2.2.2.2.2.2.2.2.2) (q.1) (q.2.1) (q.2.2.1) (q.2.2.2.1) (q.2.2.2.2.1) (q.2.2.2.2.2.1) (q.2.2.2.2.2.2.1) (q.2.2.2.2.2.2.2.1) (q.2.2.2.2.2.2.2.2.1) (q.2.2.2.2.2.2.2.2.2.1) (q.2.2.2.2.2.2.2.2.2.2.1) (q.2.2.2.2.2.2.2.2.2.2.2.1) (q.2.2.2.2.2.2.2.2.2.2.2.2.1) (q.2.2.2.2.2.2.2.2.2.2.2.2.2.1) (q.2.2.2.2.2.2.2.2.2.2.2.2.2.2.1) (q.2.2.2.2.2.2.2.2.2.2.2.2.2.2.2.1) (q.2.2.2.2.2.2.2.2.2.2.2.2.2.2.2.2.1) (q.2.2.2.2.2.2.2.2.2.2.2.2.2.2.2.2.2.1) (q.2.2.2.2.2.2.2.2.2.2.2.2.2.2.2.2.2.2.1) (q.2.2.2.2.2.2.2.2.2.2.2.2.2.2.2.2.2.2.2.1) (q.2.2.2.2.2.2.2.2.2.2.2.2.2.2.2.2.2.2.2.2.1) (q.2.2.2.2.2.2.2.2.2.2.2.2.2.2.2.2.2.2.2.2.2.1) (q.2.2.2.2.2.2.2.2.2.2.2.2.2.2.2.2.2.2.2.2.2.2.1) (q.2.2.2.2.2.2.2.2.2.2.2.2.2.2.2.2.2.2.2.2.2.2.2.1) (q.2.2.2.2.2.2.2.2.2.2.2.2.2.2.2.2.2.2.2.2.2.2.2.2)
set_option maxHeartbeats 4000000 in
set_option maxRecDepth 100000 in
theorem c_wcopy (l : Launch) (G : va_G) (cA : Nat → ClassId) (a b : Nat → Nat) (sz : Nat) (w q : WS) (R : Option WS) (hR : wcopy w q = R) (hz : R ≠ none) : Met l yX6_copyFrom wsX6_copyFrom ({ frames := 2, cells := 0, slots := 0, locals := 61 } : Room) (va_Pc [.ref (a 0), .ref (b 0)] (PM G cA (wl cA a w ++ wl cA b q) sz)) (va_Qv (fun (u : WS) => R = some u) (BM G (fun (u : WS) => wl cA a u ++ wl cA b q)) (va_A (wl cA a w ++ wl cA b q) sz)) 0 0 (va_A (wl cA a w ++ wl cA b q) sz) := c_X6_copyFrom l G cA (a 0) (a 1) (a 8) (a 14) (a 20) (a 2) (a 3) (a 4) (a 5) (a 6) (a 7) (a 9) (a 10) (a 11) (a 12) (a 13) (a 15) (a 16) (a 17) (a 18) (a 19) (a 21) (a 22) (a 23) (a 24) (b 0) (b 1) (b 8) (b 14) (b 20) (b 2) (b 3) (b 4) (b 5) (b 6) (b 7) (b 9) (b 10) (b 11) (b 12) (b 13) (b 15) (b 16) (b 17) (b 18) (b 19) (b 21) (b 22) (b 23) (b 24) sz (w.1) (w.2.1) (w.2.2.1) (w.2.2.2.1) (w.2.2.2.2.1) (w.2.2.2.2.2.1) (w.2.2.2.2.2.2.1) (w.2.2.2.2.2.2.2.1) (w.2.2.2.2.2.2.2.2.1) (w.2.2.2.2.2.2.2.2.2.1) (w.2.2.2.2.2.2.2.2.2.2.1) (w.2.2.2.2.2.2.2.2.2.2.2.1) (w.2.2.2.2.2.2.2.2.2.2.2.2.1) (w.2.2.2.2.2.2.2.2.2.2.2.2.2.1) (w.2.2.2.2.2.2.2.2.2.2.2.2.2.2.1) (w.2.2.2.2.2.2.2.2.2.2.2.2.2.2.2.1) (w.2.2.2.2.2.2.2.2.2.2.2.2.2.2.2.2.1) (w.2.2.2.2.2.2.2.2.2.2.2.2.2.2.2.2.2.1) (w.2.2.2.2.2.2.2.2.2.2.2.2.2.2.2.2.2.2.1) (w.2.2.2.2.2.2.2.2.2.2.2.2.2.2.2.2.2.2.2.1) (w.2.2.2.2.2.2.2.2.2.2.2.2.2.2.2.2.2.2.2.2.1) (w.2.2.2.2.2.2.2.2.2.2.2.2.2.2.2.2.2.2.2.2.2.1) (w.2.2.2.2.2.2.2.2.2.2.2.2.2.2.2.2.2.2.2.2.2.2.1) (w.2.2.2.2.2.2.2.2.2.2.2.2.2.2.2.2.2.2.2.2.2.2.2.1) (w.2.2.2.2.2.2.2.2.2.2.2.2.2.2.2.2.2.2.2.2.2.2.2.2) (q.1) (q.2.1) (q.2.2.1) (q.2.2.2.1) (q.2.2.2.2.1) (q.2.2.2.2.2.1) (q.2.2.2.2.2.2.1) (q.2.2.2.2.2.2.2.1) (q.2.2.2.2.2.2.2.2.1) (q.2.2.2.2.2.2.2.2.2.1) (q.2.2.2.2.2.2.2.2.2.2.1) (q.2.2.2.2.2.2.2.2.2.2.2.1) (q.2.2.2.2.2.2.2.2.2.2.2.2.1) (q.2.2.2.2.2.2.2.2.2.2.2.2.2.1) (q.2.2.2.2.2.2.2.2.2.2.2.2.2.2.1) (q.2.2.2.2.2.2.2.2.2.2.2.2.2.2.2.1) (q.2.2.2.2.2.2.2.2.2.2.2.2.2.2.2.2.1) (q.2.2.2.2.2.2.2.2.2.2.2.2.2.2.2.2.2.1) (q.2.2.2.2.2.2.2.2.2.2.2.2.2.2.2.2.2.2.1) (q.2.2.2.2.2.2.2.2.2.2.2.2.2.2.2.2.2.2.2.1) (q.2.2.2.2.2.2.2.2.2.2.2.2.2.2.2.2.2.2.2.2.1) (q.2.2.2.2.2.2.2.2.2.2.2.2.2.2.2.2.2.2.2.2.2.1) (q.2.2.2.2.2.2.2.2.2.2.2.2.2.2.2.2.2.2.2.2.2.2.1) (q.2.2.2.2.2.2.2.2.2.2.2.2.2.2.2.2.2.2.2.2.2.2.2.1) (q.2.2.2.2.2.2.2.2.2.2.2.2.2.2.2.2.2.2.2.2.2.2.2.2) R hR hz
theorem wl_addr (cA : Nat → ClassId) (a : Nat → Nat) (u w : WS) : (wl cA a u).map Prod.fst = (wl cA a w).map Prod.fst := rfl
/-- the worlds of the ring -/
def hblk (cA : Nat → ClassId) (hA : Nat → Nat → Nat) (hW : Nat → WS) : va_W := blk 6 (fun j => wl cA (hA j)) hW
def hobj (cA : Nat → ClassId) (o r : Nat) (hA : Nat → Nat → Nat) (cnt nxt : Int32) : va_W := [(o, .inr (4, [.int cnt, .int nxt, .ref r])), (r, .inl (cA 2, 6, .inr (.inr (.inr (.inr (fun j => some (hA j 0)))))))]
def rem0 (cnt nxt : Int32) (q : WS) (hW : Nat → WS) : Option (Int32 × Int32 × (Nat → WS)) := gd (ix nxt 6) (Option.bind (wcopy (hW nxt.toNatClampNeg) q) (fun w => some ((if (6 : Int32) < cnt + 1 then (6 : Int32) else cnt + 1), (if nxt = 5 then (0 : Int32) else nxt + 1), hup hW nxt.toNatClampNeg w)))
def tb0 (cnt nxt : Int32) (q : WS) (hW : Nat → WS) : Option (Int32 × Int32 × WS) := if cnt = 0 then some (cnt, nxt, q) else nm (if nxt = 0 then (5 : Int32) else nxt - 1) (fun k => gd (ix k 6) (Option.bind (wcopy q (hW k.toNatClampNeg)) (fun w => some (cnt - 1, k, w))))
theorem ixn {i : Int32} {n : Nat} (h : ix i n = true) : i.toNatClampNeg < n := by
  rcases Nat.lt_or_ge i.toNatClampNeg n with q | q
  · exact q
  · exact absurd (Or.inr q) (ixi h)
theorem hbp1 {X Y Z U V : va_W} (h : Z.Perm (U ++ V)) : (X ++ (Y ++ Z)).Perm ((U ++ Y) ++ (X ++ V)) := by
  have h1 : (X ++ (Y ++ Z)).Perm (X ++ (Y ++ (U ++ V))) := (h.append_left Y).append_left X
  refine h1.trans ?_
  have h2 : (Y ++ (U ++ V)).Perm ((U ++ Y) ++ V) := by
    rw [← List.append_assoc]
    exact List.perm_append_comm.append_right V
  refine (h2.append_left X).trans ?_
  rw [← List.append_assoc X, ← List.append_assoc (U ++ Y)]
  exact List.perm_append_comm.append_right V
theorem hbp2 {X Y Z U V : va_W} (h : Z.Perm (U ++ V)) : (X ++ (Y ++ Z)).Perm ((Y ++ U) ++ (X ++ V)) := (hbp1 h).trans ((List.perm_append_comm (l₁ := U) (l₂ := Y)).append_right _)
set_option maxHeartbeats 4000000 in
set_option maxRecDepth 100000 in
theorem c_rem0 (l : Launch) (G : va_G) (cA : Nat → ClassId) (o r : Nat) (b : Nat → Nat) (hA : Nat → Nat → Nat) (sz : Nat) (cnt nxt : Int32) (q : WS) (hW : Nat → WS) (R : Option (Int32 × Int32 × (Nat → WS))) (hR : rem0 cnt nxt q hW = R) (hz : R ≠ none) : Met l yX2_remember wsX2_remember ({ frames := 3, cells := 0, slots := 0, locals := 82 } : Room) (va_Pc [.ref o, .ref (b 0)] (PM G cA (hobj cA o r hA cnt nxt ++ (wl cA b q ++ hblk cA hA hW)) sz)) (va_Qv (fun (u : Int32 × Int32 × (Nat → WS)) => R = some u) (BM G (fun (u : Int32 × Int32 × (Nat → WS)) => (hobj cA o r hA u.1 u.2.1 ++ (wl cA b q ++ hblk cA hA u.2.2)))) (va_A (hobj cA o r hA cnt nxt ++ (wl cA b q ++ hblk cA hA hW)) sz)) 0 0 (va_A (hobj cA o r hA cnt nxt ++ (wl cA b q ++ hblk cA hA hW)) sz) := by
  refine metV (by decide) rfl (Nat.le_of_ble_eq_true rfl) ?_
  intro p e s m av below meth c Q ls A H hx hb hml hts hown hP hK hD hA0 hS hl hret
  replace hl : lv_has ls 2 [(0, .ref o), (1, .ref (b 0))] := hl
  have w_0 := hts (.fieldLink RX2 7 "ParcelRegistry$History" "count" "I") (by decide +kernel)
  have w_1 := hts (.fieldLink RX2 13 "ParcelRegistry$History" "next" "I") (by decide +kernel)
  have w_2 := hts (.fieldLink RX2 18 "ParcelRegistry$History" "ring" "[LParcelRegistry$World;") (by decide +kernel)
  have i_X2 : ∀ w ∈ wsX20, w ∈ wsX2_remember := by decide +kernel
  have hm := hR
  unfold rem0 at hm
  refine lv_aload_n hx hb dX2_remember_0 rfl (lv_at hl 0 rfl) ?_
  refine va_get (D := G) (ci := 4) (v := .ref r) (C := RX2) (T := TX2) (N := 3) hx hb hts i_X2 hown hK.1 hP 0 rfl rfl 2 (by decide) w_2 (fun _ h9 => h9) rfl dX2_remember_1 ?_
  refine lv_aload_n hx hb dX2_remember_4 rfl (lv_at hl 0 rfl) ?_
  refine va_get (D := G) (ci := 4) (v := .int nxt) (C := RX2) (T := TX2) (N := 3) hx hb hts i_X2 hown hK.1 hP 0 rfl rfl 1 (by decide) w_1 (fun _ h9 => h9) rfl dX2_remember_5 ?_
  replace hm := gdo hm hz
  obtain ⟨g_1, hm⟩ := hm
  have hk := ixn g_1
  refine va_aldq hx hb hK.1 hP 1 2 (cA := cA 2) (C := "ParcelRegistry$World") (n := 6) (f := fun j => some (hA j 0)) rfl rfl (ixi g_1) dX2_remember_8 ?_
  refine W.eq (g2 := F0 m 9 ls [.ref (hA nxt.toNatClampNeg 0)]) rfl ?_
  refine lv_aload_n hx hb dX2_remember_9 rfl (lv_at hl 1 rfl) ?_
  have hp : (hobj cA o r hA cnt nxt ++ (wl cA b q ++ hblk cA hA hW)).Perm ((wl cA (hA nxt.toNatClampNeg) (hW nxt.toNatClampNeg) ++ wl cA b q) ++ (hobj cA o r hA cnt nxt ++ blkR 6 (fun j => wl cA (hA j)) hW nxt.toNatClampNeg)) := hbp1 (blk_perm hk)
  have hPc := (hP.perm hp).left
  have hDc := (hD.perm hp).left
  have hFc := va_freePm hp hD hS hA0
  refine va_callv (va_runV (As := [.ref (b 0)]) (rest := []) ⟨hx, hb, hml, hown, hts⟩ (c_wcopy l G cA (hA nxt.toNatClampNeg) b H.size (hW nxt.toNatClampNeg) q _ rfl (bnz hm hz)) (cwV 1 hts gX2_remember_X6_copyFrom rfl rfl rfl (by decide +kernel) ⟨Nat.le_of_ble_eq_true rfl, Nat.le_of_ble_eq_true rfl⟩) (preMV (q := (RX6, TX6, 5)) hPc hDc hK 0 rfl rfl) rfl rfl hl.1 rfl (lv_room (Nat.le_of_ble_eq_true rfl)) dX2_remember_10 ⟨Nat.zero_le _, Nat.zero_le _⟩) hS (fun q _ h => hFc q h) hFc (fun w t H locs ht hvm hw hB hz1 hk1 hS' => ?_)
  replace hm := bst hm hw
  replace hB : va_P G vwCl (wl cA (hA nxt.toNatClampNeg) w ++ wl cA b q) t.heap := hB
  rw [ht] at hB
  have hj := va_backP hp hP hD hk1 hB rfl
  have hp2 : (hobj cA o r hA cnt nxt ++ (wl cA b q ++ hblk cA hA (hup hW nxt.toNatClampNeg w))).Perm ((wl cA (hA nxt.toNatClampNeg) w ++ wl cA b q) ++ (hobj cA o r hA cnt nxt ++ blkR 6 (fun j => wl cA (hA j)) hW nxt.toNatClampNeg)) := hbp1 (blk_upd hk)
  replace hP := hj.1.perm hp2.symm
  replace hD := hj.2.perm hp2.symm
  replace hS := hS'
  clear hj hp hp2 hPc hDc hFc hB
  refine lv_aload_n hx hb dX2_remember_13 rfl (lv_at hl 0 rfl) ?_
  refine lv_aload_n hx hb dX2_remember_14 rfl (lv_at hl 0 rfl) ?_
  refine va_get (D := G) (ci := 4) (v := .int nxt) (C := RX2) (T := TX2) (N := 3) hx hb hts i_X2 hown hK.1 hP 0 rfl rfl 1 (by decide) w_1 (fun _ h9 => h9) rfl dX2_remember_15 ?_
  refine lv_iconst (v := (5 : Int32)) hx hb dX2_remember_18 (by decide) ?_
  refine lv_icmp_ne (tgt := 26) hx hb dX2_remember_19 (by decide) (fun c_1 => ?_) (fun c_1 => ?_)
  · rw [if_neg c_1] at hm
    refine lv_aload_n hx hb dX2_remember_26 rfl (lv_at hl 0 rfl) ?_
    refine va_get (D := G) (ci := 4) (v := .int nxt) (C := RX2) (T := TX2) (N := 3) hx hb hts i_X2 hown hK.1 hP 0 rfl rfl 1 (by decide) w_1 (fun _ h9 => h9) rfl dX2_remember_27 ?_
    refine lv_iconst (v := (1 : Int32)) hx hb dX2_remember_30 (by decide) ?_
    refine lv_iadd hx hb dX2_remember_31 ?_
    refine va_put (D := G) (ci := 4) (v := .int (nxt + 1)) (ty := .int) (C := RX2) (T := TX2) (N := 3) hx hb hts i_X2 tyX2 tyX2_ok nmX2 hown hK.1 hP hD hS 0 rfl rfl 1 (by decide) w_1 (fun _ h9 => h9) rfl (by decide +kernel) rfl rfl (Nat.le_of_ble_eq_true rfl) dX2_remember_32 (fun H locs hP' hD' hS' => ?_)
    replace hP : va_P G vwCl (hobj cA o r hA cnt (nxt + 1) ++ (wl cA b q ++ hblk cA hA (hup hW nxt.toNatClampNeg w))) H := hP'
    replace hD : va_D A (hobj cA o r hA cnt (nxt + 1) ++ (wl cA b q ++ hblk cA hA (hup hW nxt.toNatClampNeg w))) := hD'
    replace hS := hS'
    refine lv_aload_n hx hb dX2_remember_35 rfl (lv_at hl 0 rfl) ?_
    refine lv_aload_n hx hb dX2_remember_36 rfl (lv_at hl 0 rfl) ?_
    refine va_get (D := G) (ci := 4) (v := .int cnt) (C := RX2) (T := TX2) (N := 3) hx hb hts i_X2 hown hK.1 hP 0 rfl rfl 0 (by decide) w_0 (fun _ h9 => h9) rfl dX2_remember_37 ?_
    refine lv_iconst (v := (1 : Int32)) hx hb dX2_remember_40 (by decide) ?_
    refine lv_iadd hx hb dX2_remember_41 ?_
    refine lv_bipush (v := (6 : Int32)) hx hb dX2_remember_42 (by decide) ?_
    refine va_mmin hx hb (hml.trans hl.1.symm) hown (hts (.methodLink RX2 27 Lib.Math.min.name) (by decide +kernel)) (hts (.static Lib.Math.min.name) (by decide +kernel)) (hts (.initialized "java/lang/Math") (by decide +kernel)) (hts (.code Lib.Math.min.name Lib.Math.min.code 2 (some .int)) (by decide +kernel)) (Nat.le_of_ble_eq_true rfl) (Nat.le_of_ble_eq_true rfl) (Nat.zero_le _) (Nat.zero_le _) dX2_remember_44 ?_
    refine va_put (D := G) (ci := 4) (v := .int (if (6 : Int32) < cnt + 1 then (6 : Int32) else cnt + 1)) (ty := .int) (C := RX2) (T := TX2) (N := 3) hx hb hts i_X2 tyX2 tyX2_ok nmX2 hown hK.1 hP hD hS 0 rfl rfl 0 (by decide) w_0 (fun _ h9 => h9) rfl (by decide +kernel) rfl rfl (Nat.le_of_ble_eq_true rfl) dX2_remember_47 (fun H locs hP' hD' hS' => ?_)
    replace hP : va_P G vwCl (hobj cA o r hA (if (6 : Int32) < cnt + 1 then (6 : Int32) else cnt + 1) (nxt + 1) ++ (wl cA b q ++ hblk cA hA (hup hW nxt.toNatClampNeg w))) H := hP'
    replace hD : va_D A (hobj cA o r hA (if (6 : Int32) < cnt + 1 then (6 : Int32) else cnt + 1) (nxt + 1) ++ (wl cA b q ++ hblk cA hA (hup hW nxt.toNatClampNeg w))) := hD'
    replace hS := hS'
    exact hret _ _ ((if (6 : Int32) < cnt + 1 then (6 : Int32) else cnt + 1), nxt + 1, (hup hW nxt.toNatClampNeg w)) _ _ dX2_remember_50 hP hS hm.symm
  · rw [if_pos c_1] at hm
    refine lv_iconst (v := (0 : Int32)) hx hb dX2_remember_22 (by decide) ?_
    refine lv_goto (tgt := 32) hx hb dX2_remember_23 (by decide) ?_
    refine va_put (D := G) (ci := 4) (v := .int ((0 : Int32))) (ty := .int) (C := RX2) (T := TX2) (N := 3) hx hb hts i_X2 tyX2 tyX2_ok nmX2 hown hK.1 hP hD hS 0 rfl rfl 1 (by decide) w_1 (fun _ h9 => h9) rfl (by decide +kernel) rfl rfl (Nat.le_of_ble_eq_true rfl) dX2_remember_32 (fun H locs hP' hD' hS' => ?_)
    replace hP : va_P G vwCl (hobj cA o r hA cnt ((0 : Int32)) ++ (wl cA b q ++ hblk cA hA (hup hW nxt.toNatClampNeg w))) H := hP'
    replace hD : va_D A (hobj cA o r hA cnt ((0 : Int32)) ++ (wl cA b q ++ hblk cA hA (hup hW nxt.toNatClampNeg w))) := hD'
    replace hS := hS'
    refine lv_aload_n hx hb dX2_remember_35 rfl (lv_at hl 0 rfl) ?_
    refine lv_aload_n hx hb dX2_remember_36 rfl (lv_at hl 0 rfl) ?_
    refine va_get (D := G) (ci := 4) (v := .int cnt) (C := RX2) (T := TX2) (N := 3) hx hb hts i_X2 hown hK.1 hP 0 rfl rfl 0 (by decide) w_0 (fun _ h9 => h9) rfl dX2_remember_37 ?_
    refine lv_iconst (v := (1 : Int32)) hx hb dX2_remember_40 (by decide) ?_
    refine lv_iadd hx hb dX2_remember_41 ?_
    refine lv_bipush (v := (6 : Int32)) hx hb dX2_remember_42 (by decide) ?_
    refine va_mmin hx hb (hml.trans hl.1.symm) hown (hts (.methodLink RX2 27 Lib.Math.min.name) (by decide +kernel)) (hts (.static Lib.Math.min.name) (by decide +kernel)) (hts (.initialized "java/lang/Math") (by decide +kernel)) (hts (.code Lib.Math.min.name Lib.Math.min.code 2 (some .int)) (by decide +kernel)) (Nat.le_of_ble_eq_true rfl) (Nat.le_of_ble_eq_true rfl) (Nat.zero_le _) (Nat.zero_le _) dX2_remember_44 ?_
    refine va_put (D := G) (ci := 4) (v := .int (if (6 : Int32) < cnt + 1 then (6 : Int32) else cnt + 1)) (ty := .int) (C := RX2) (T := TX2) (N := 3) hx hb hts i_X2 tyX2 tyX2_ok nmX2 hown hK.1 hP hD hS 0 rfl rfl 0 (by decide) w_0 (fun _ h9 => h9) rfl (by decide +kernel) rfl rfl (Nat.le_of_ble_eq_true rfl) dX2_remember_47 (fun H locs hP' hD' hS' => ?_)
    replace hP : va_P G vwCl (hobj cA o r hA (if (6 : Int32) < cnt + 1 then (6 : Int32) else cnt + 1) ((0 : Int32)) ++ (wl cA b q ++ hblk cA hA (hup hW nxt.toNatClampNeg w))) H := hP'
    replace hD : va_D A (hobj cA o r hA (if (6 : Int32) < cnt + 1 then (6 : Int32) else cnt + 1) ((0 : Int32)) ++ (wl cA b q ++ hblk cA hA (hup hW nxt.toNatClampNeg w))) := hD'
    replace hS := hS'
    exact hret _ _ ((if (6 : Int32) < cnt + 1 then (6 : Int32) else cnt + 1), (0 : Int32), (hup hW nxt.toNatClampNeg w)) _ _ dX2_remember_50 hP hS hm.symm
set_option maxHeartbeats 4000000 in
set_option maxRecDepth 100000 in
theorem c_tb0 (l : Launch) (G : va_G) (cA : Nat → ClassId) (o r : Nat) (b : Nat → Nat) (hA : Nat → Nat → Nat) (sz : Nat) (cnt nxt : Int32) (q : WS) (hW : Nat → WS) (R : Option (Int32 × Int32 × WS)) (hR : tb0 cnt nxt q hW = R) (hz : R ≠ none) : Met l yX2_takeBack wsX2_takeBack ({ frames := 3, cells := 0, slots := 0, locals := 82 } : Room) (va_Pc [.ref o, .ref (b 0)] (PM G cA (hobj cA o r hA cnt nxt ++ (wl cA b q ++ hblk cA hA hW)) sz)) (va_Qv (fun (u : Int32 × Int32 × WS) => R = some u) (BM G (fun (u : Int32 × Int32 × WS) => (hobj cA o r hA u.1 u.2.1 ++ (wl cA b u.2.2 ++ hblk cA hA hW)))) (va_A (hobj cA o r hA cnt nxt ++ (wl cA b q ++ hblk cA hA hW)) sz)) 0 0 (va_A (hobj cA o r hA cnt nxt ++ (wl cA b q ++ hblk cA hA hW)) sz) := by
  refine metV (by decide) rfl (Nat.le_of_ble_eq_true rfl) ?_
  intro p e s m av below meth c Q ls A H hx hb hml hts hown hP hK hD hA0 hS hl hret
  replace hl : lv_has ls 2 [(0, .ref o), (1, .ref (b 0))] := hl
  have w_0 := hts (.fieldLink RX2 7 "ParcelRegistry$History" "count" "I") (by decide +kernel)
  have w_1 := hts (.fieldLink RX2 13 "ParcelRegistry$History" "next" "I") (by decide +kernel)
  have w_2 := hts (.fieldLink RX2 18 "ParcelRegistry$History" "ring" "[LParcelRegistry$World;") (by decide +kernel)
  have i_X2 : ∀ w ∈ wsX20, w ∈ wsX2_takeBack := by decide +kernel
  have hm := hR
  unfold tb0 at hm
  refine lv_aload_n hx hb dX2_takeBack_0 rfl (lv_at hl 0 rfl) ?_
  refine va_get (D := G) (ci := 4) (v := .int cnt) (C := RX2) (T := TX2) (N := 3) hx hb hts i_X2 hown hK.1 hP 0 rfl rfl 0 (by decide) w_0 (fun _ h9 => h9) rfl dX2_takeBack_1 ?_
  refine lv_if_ne (tgt := 8) hx hb dX2_takeBack_4 (by decide) (fun c_0 => ?_) (fun c_0 => ?_)
  · rw [if_neg c_0] at hm
    refine lv_aload_n hx hb dX2_takeBack_8 rfl (lv_at hl 0 rfl) ?_
    refine lv_aload_n hx hb dX2_takeBack_9 rfl (lv_at hl 0 rfl) ?_
    refine va_get (D := G) (ci := 4) (v := .int nxt) (C := RX2) (T := TX2) (N := 3) hx hb hts i_X2 hown hK.1 hP 0 rfl rfl 1 (by decide) w_1 (fun _ h9 => h9) rfl dX2_takeBack_10 ?_
    refine lv_if_ne (tgt := 20) hx hb dX2_takeBack_13 (by decide) (fun c_1 => ?_) (fun c_1 => ?_)
    · rw [if_neg c_1] at hm
      replace hm := nmo hm rfl
      refine lv_aload_n hx hb dX2_takeBack_20 rfl (lv_at hl 0 rfl) ?_
      refine va_get (D := G) (ci := 4) (v := .int nxt) (C := RX2) (T := TX2) (N := 3) hx hb hts i_X2 hown hK.1 hP 0 rfl rfl 1 (by decide) w_1 (fun _ h9 => h9) rfl dX2_takeBack_21 ?_
      refine lv_iconst (v := (1 : Int32)) hx hb dX2_takeBack_24 (by decide) ?_
      refine lv_isub hx hb dX2_takeBack_25 ?_
      refine va_put (D := G) (ci := 4) (v := .int (nxt - 1)) (ty := .int) (C := RX2) (T := TX2) (N := 3) hx hb hts i_X2 tyX2 tyX2_ok nmX2 hown hK.1 hP hD hS 0 rfl rfl 1 (by decide) w_1 (fun _ h9 => h9) rfl (by decide +kernel) rfl rfl (Nat.le_of_ble_eq_true rfl) dX2_takeBack_26 (fun H locs hP' hD' hS' => ?_)
      replace hP : va_P G vwCl (hobj cA o r hA cnt (nxt - 1) ++ (wl cA b q ++ hblk cA hA hW)) H := hP'
      replace hD : va_D A (hobj cA o r hA cnt (nxt - 1) ++ (wl cA b q ++ hblk cA hA hW)) := hD'
      replace hS := hS'
      refine lv_aload_n hx hb dX2_takeBack_29 rfl (lv_at hl 0 rfl) ?_
      refine lv_dup hx hb dX2_takeBack_30 rfl ?_
      refine va_get (D := G) (ci := 4) (v := .int cnt) (C := RX2) (T := TX2) (N := 3) hx hb hts i_X2 hown hK.1 hP 0 rfl rfl 0 (by decide) w_0 (fun _ h9 => h9) rfl dX2_takeBack_31 ?_
      refine lv_iconst (v := (1 : Int32)) hx hb dX2_takeBack_34 (by decide) ?_
      refine lv_isub hx hb dX2_takeBack_35 ?_
      refine va_put (D := G) (ci := 4) (v := .int (cnt - 1)) (ty := .int) (C := RX2) (T := TX2) (N := 3) hx hb hts i_X2 tyX2 tyX2_ok nmX2 hown hK.1 hP hD hS 0 rfl rfl 0 (by decide) w_0 (fun _ h9 => h9) rfl (by decide +kernel) rfl rfl (Nat.le_of_ble_eq_true rfl) dX2_takeBack_36 (fun H locs hP' hD' hS' => ?_)
      replace hP : va_P G vwCl (hobj cA o r hA (cnt - 1) (nxt - 1) ++ (wl cA b q ++ hblk cA hA hW)) H := hP'
      replace hD : va_D A (hobj cA o r hA (cnt - 1) (nxt - 1) ++ (wl cA b q ++ hblk cA hA hW)) := hD'
      replace hS := hS'
      refine lv_aload_n hx hb dX2_takeBack_39 rfl (lv_at hl 1 rfl) ?_
      refine lv_aload_n hx hb dX2_takeBack_40 rfl (lv_at hl 0 rfl) ?_
      refine va_get (D := G) (ci := 4) (v := .ref r) (C := RX2) (T := TX2) (N := 3) hx hb hts i_X2 hown hK.1 hP 0 rfl rfl 2 (by decide) w_2 (fun _ h9 => h9) rfl dX2_takeBack_41 ?_
      refine lv_aload_n hx hb dX2_takeBack_44 rfl (lv_at hl 0 rfl) ?_
      refine va_get (D := G) (ci := 4) (v := .int (nxt - 1)) (C := RX2) (T := TX2) (N := 3) hx hb hts i_X2 hown hK.1 hP 0 rfl rfl 1 (by decide) w_1 (fun _ h9 => h9) rfl dX2_takeBack_45 ?_
      replace hm := gdo hm hz
      obtain ⟨g_1, hm⟩ := hm
      have hk := ixn g_1
      refine va_aldq hx hb hK.1 hP 1 2 (cA := cA 2) (C := "ParcelRegistry$World") (n := 6) (f := fun j => some (hA j 0)) rfl rfl (ixi g_1) dX2_takeBack_48 ?_
      refine W.eq (g2 := F0 m 49 ls [.ref (hA (nxt - 1).toNatClampNeg 0), .ref (b 0)]) rfl ?_
      have hp : (hobj cA o r hA (cnt - 1) (nxt - 1) ++ (wl cA b q ++ hblk cA hA hW)).Perm ((wl cA b q ++ wl cA (hA (nxt - 1).toNatClampNeg) (hW (nxt - 1).toNatClampNeg)) ++ (hobj cA o r hA (cnt - 1) (nxt - 1) ++ blkR 6 (fun j => wl cA (hA j)) hW (nxt - 1).toNatClampNeg)) := hbp2 (blk_perm hk)
      have hPc := (hP.perm hp).left
      have hDc := (hD.perm hp).left
      have hFc := va_freePm hp hD hS hA0
      refine va_callv (va_runV (As := [.ref (hA (nxt - 1).toNatClampNeg 0)]) (rest := []) ⟨hx, hb, hml, hown, hts⟩ (c_wcopy l G cA b (hA (nxt - 1).toNatClampNeg) H.size q (hW (nxt - 1).toNatClampNeg) _ rfl (bnz hm hz)) (cwV 1 hts gX2_takeBack_X6_copyFrom rfl rfl rfl (by decide +kernel) ⟨Nat.le_of_ble_eq_true rfl, Nat.le_of_ble_eq_true rfl⟩) (preMV (q := (RX6, TX6, 5)) hPc hDc hK 0 rfl rfl) rfl rfl hl.1 rfl (lv_room (Nat.le_of_ble_eq_true rfl)) dX2_takeBack_49 ⟨Nat.zero_le _, Nat.zero_le _⟩) hS (fun q _ h => hFc q h) hFc (fun w t H locs ht hvm hw hB hz1 hk1 hS' => ?_)
      replace hm := bst hm hw
      replace hB : va_P G vwCl (wl cA b w ++ wl cA (hA (nxt - 1).toNatClampNeg) (hW (nxt - 1).toNatClampNeg)) t.heap := hB
      rw [ht] at hB
      have hj := va_backP hp hP hD hk1 hB rfl
      have hp2 : (hobj cA o r hA (cnt - 1) (nxt - 1) ++ (wl cA b w ++ hblk cA hA hW)).Perm ((wl cA b w ++ wl cA (hA (nxt - 1).toNatClampNeg) (hW (nxt - 1).toNatClampNeg)) ++ (hobj cA o r hA (cnt - 1) (nxt - 1) ++ blkR 6 (fun j => wl cA (hA j)) hW (nxt - 1).toNatClampNeg)) := hbp2 (blk_perm hk)
      replace hP := hj.1.perm hp2.symm
      replace hS := hS'
      exact hret _ _ (cnt - 1, nxt - 1, w) _ _ dX2_takeBack_52 hP hS hm.symm
    · rw [if_pos c_1] at hm
      replace hm := nmo hm rfl
      refine lv_iconst (v := (5 : Int32)) hx hb dX2_takeBack_16 (by decide) ?_
      refine lv_goto (tgt := 26) hx hb dX2_takeBack_17 (by decide) ?_
      refine va_put (D := G) (ci := 4) (v := .int ((5 : Int32))) (ty := .int) (C := RX2) (T := TX2) (N := 3) hx hb hts i_X2 tyX2 tyX2_ok nmX2 hown hK.1 hP hD hS 0 rfl rfl 1 (by decide) w_1 (fun _ h9 => h9) rfl (by decide +kernel) rfl rfl (Nat.le_of_ble_eq_true rfl) dX2_takeBack_26 (fun H locs hP' hD' hS' => ?_)
      replace hP : va_P G vwCl (hobj cA o r hA cnt ((5 : Int32)) ++ (wl cA b q ++ hblk cA hA hW)) H := hP'
      replace hD : va_D A (hobj cA o r hA cnt ((5 : Int32)) ++ (wl cA b q ++ hblk cA hA hW)) := hD'
      replace hS := hS'
      refine lv_aload_n hx hb dX2_takeBack_29 rfl (lv_at hl 0 rfl) ?_
      refine lv_dup hx hb dX2_takeBack_30 rfl ?_
      refine va_get (D := G) (ci := 4) (v := .int cnt) (C := RX2) (T := TX2) (N := 3) hx hb hts i_X2 hown hK.1 hP 0 rfl rfl 0 (by decide) w_0 (fun _ h9 => h9) rfl dX2_takeBack_31 ?_
      refine lv_iconst (v := (1 : Int32)) hx hb dX2_takeBack_34 (by decide) ?_
      refine lv_isub hx hb dX2_takeBack_35 ?_
      refine va_put (D := G) (ci := 4) (v := .int (cnt - 1)) (ty := .int) (C := RX2) (T := TX2) (N := 3) hx hb hts i_X2 tyX2 tyX2_ok nmX2 hown hK.1 hP hD hS 0 rfl rfl 0 (by decide) w_0 (fun _ h9 => h9) rfl (by decide +kernel) rfl rfl (Nat.le_of_ble_eq_true rfl) dX2_takeBack_36 (fun H locs hP' hD' hS' => ?_)
      replace hP : va_P G vwCl (hobj cA o r hA (cnt - 1) ((5 : Int32)) ++ (wl cA b q ++ hblk cA hA hW)) H := hP'
      replace hD : va_D A (hobj cA o r hA (cnt - 1) ((5 : Int32)) ++ (wl cA b q ++ hblk cA hA hW)) := hD'
      replace hS := hS'
      refine lv_aload_n hx hb dX2_takeBack_39 rfl (lv_at hl 1 rfl) ?_
      refine lv_aload_n hx hb dX2_takeBack_40 rfl (lv_at hl 0 rfl) ?_
      refine va_get (D := G) (ci := 4) (v := .ref r) (C := RX2) (T := TX2) (N := 3) hx hb hts i_X2 hown hK.1 hP 0 rfl rfl 2 (by decide) w_2 (fun _ h9 => h9) rfl dX2_takeBack_41 ?_
      refine lv_aload_n hx hb dX2_takeBack_44 rfl (lv_at hl 0 rfl) ?_
      refine va_get (D := G) (ci := 4) (v := .int ((5 : Int32))) (C := RX2) (T := TX2) (N := 3) hx hb hts i_X2 hown hK.1 hP 0 rfl rfl 1 (by decide) w_1 (fun _ h9 => h9) rfl dX2_takeBack_45 ?_
      replace hm := gdo hm hz
      obtain ⟨g_1, hm⟩ := hm
      have hk := ixn g_1
      refine va_aldq hx hb hK.1 hP 1 2 (cA := cA 2) (C := "ParcelRegistry$World") (n := 6) (f := fun j => some (hA j 0)) rfl rfl (ixi g_1) dX2_takeBack_48 ?_
      refine W.eq (g2 := F0 m 49 ls [.ref (hA ((5 : Int32)).toNatClampNeg 0), .ref (b 0)]) rfl ?_
      have hp : (hobj cA o r hA (cnt - 1) ((5 : Int32)) ++ (wl cA b q ++ hblk cA hA hW)).Perm ((wl cA b q ++ wl cA (hA ((5 : Int32)).toNatClampNeg) (hW ((5 : Int32)).toNatClampNeg)) ++ (hobj cA o r hA (cnt - 1) ((5 : Int32)) ++ blkR 6 (fun j => wl cA (hA j)) hW ((5 : Int32)).toNatClampNeg)) := hbp2 (blk_perm hk)
      have hPc := (hP.perm hp).left
      have hDc := (hD.perm hp).left
      have hFc := va_freePm hp hD hS hA0
      refine va_callv (va_runV (As := [.ref (hA ((5 : Int32)).toNatClampNeg 0)]) (rest := []) ⟨hx, hb, hml, hown, hts⟩ (c_wcopy l G cA b (hA ((5 : Int32)).toNatClampNeg) H.size q (hW ((5 : Int32)).toNatClampNeg) _ rfl (bnz hm hz)) (cwV 1 hts gX2_takeBack_X6_copyFrom rfl rfl rfl (by decide +kernel) ⟨Nat.le_of_ble_eq_true rfl, Nat.le_of_ble_eq_true rfl⟩) (preMV (q := (RX6, TX6, 5)) hPc hDc hK 0 rfl rfl) rfl rfl hl.1 rfl (lv_room (Nat.le_of_ble_eq_true rfl)) dX2_takeBack_49 ⟨Nat.zero_le _, Nat.zero_le _⟩) hS (fun q _ h => hFc q h) hFc (fun w t H locs ht hvm hw hB hz1 hk1 hS' => ?_)
      replace hm := bst hm hw
      replace hB : va_P G vwCl (wl cA b w ++ wl cA (hA ((5 : Int32)).toNatClampNeg) (hW ((5 : Int32)).toNatClampNeg)) t.heap := hB
      rw [ht] at hB
      have hj := va_backP hp hP hD hk1 hB rfl
      have hp2 : (hobj cA o r hA (cnt - 1) ((5 : Int32)) ++ (wl cA b w ++ hblk cA hA hW)).Perm ((wl cA b w ++ wl cA (hA ((5 : Int32)).toNatClampNeg) (hW ((5 : Int32)).toNatClampNeg)) ++ (hobj cA o r hA (cnt - 1) ((5 : Int32)) ++ blkR 6 (fun j => wl cA (hA j)) hW ((5 : Int32)).toNatClampNeg)) := hbp2 (blk_perm hk)
      replace hP := hj.1.perm hp2.symm
      replace hS := hS'
      exact hret _ _ (cnt - 1, (5 : Int32), w) _ _ dX2_takeBack_52 hP hS hm.symm
  · rw [if_pos c_0] at hm
    exact hret _ _ (cnt, nxt, q) _ _ dX2_takeBack_7 hP hS hm.symm
def m_X2_remember (v_o_count : Int32) (v_o_next : Int32) (v_q1_0 : Int32) (v_q1_1 : Int32) (g_q1_2 : Nat → Int32) (g_q1_3 : Nat → Int32) (g_q1_4 : Nat → Int32) (g_q1_5 : Nat → Int32) (g_q1_6 : Nat → Int32) (g_q1_7 : Nat → Int32) (v_q1_8 : Int32) (g_q1_9 : Nat → Int32) (g_q1_10 : Nat → Int32) (g_q1_11 : Nat → Int32) (g_q1_12 : Nat → Int32) (v_q1_13 : Int32) (g_q1_14 : Nat → Int32) (g_q1_15 : Nat → Int32) (g_q1_16 : Nat → Int32) (g_q1_17 : Nat → Int32) (g_q1_18 : Nat → Int32) (v_q1_19 : Int32) (v_q1_20 : Int32) (g_q1_21 : Nat → Int32) (g_q1_22 : Nat → Int32) (g_q1_23 : Nat → Int32) (g_q1_24 : Nat → Int32) (hW : Nat → WS) : Option (Int32 × Int32 × (Nat → WS)) := rem0 v_o_count v_o_next (v_q1_0, v_q1_1, g_q1_2, g_q1_3, g_q1_4, g_q1_5, g_q1_6, g_q1_7, v_q1_8, g_q1_9, g_q1_10, g_q1_11, g_q1_12, v_q1_13, g_q1_14, g_q1_15, g_q1_16, g_q1_17, g_q1_18, v_q1_19, v_q1_20, g_q1_21, g_q1_22, g_q1_23, g_q1_24) hW
def m_X2_takeBack (v_o_count : Int32) (v_o_next : Int32) (v_q1_0 : Int32) (v_q1_1 : Int32) (g_q1_2 : Nat → Int32) (g_q1_3 : Nat → Int32) (g_q1_4 : Nat → Int32) (g_q1_5 : Nat → Int32) (g_q1_6 : Nat → Int32) (g_q1_7 : Nat → Int32) (v_q1_8 : Int32) (g_q1_9 : Nat → Int32) (g_q1_10 : Nat → Int32) (g_q1_11 : Nat → Int32) (g_q1_12 : Nat → Int32) (v_q1_13 : Int32) (g_q1_14 : Nat → Int32) (g_q1_15 : Nat → Int32) (g_q1_16 : Nat → Int32) (g_q1_17 : Nat → Int32) (g_q1_18 : Nat → Int32) (v_q1_19 : Int32) (v_q1_20 : Int32) (g_q1_21 : Nat → Int32) (g_q1_22 : Nat → Int32) (g_q1_23 : Nat → Int32) (g_q1_24 : Nat → Int32) (hW : Nat → WS) : Option (Int32 × Int32 × WS) := tb0 v_o_count v_o_next (v_q1_0, v_q1_1, g_q1_2, g_q1_3, g_q1_4, g_q1_5, g_q1_6, g_q1_7, v_q1_8, g_q1_9, g_q1_10, g_q1_11, g_q1_12, v_q1_13, g_q1_14, g_q1_15, g_q1_16, g_q1_17, g_q1_18, v_q1_19, v_q1_20, g_q1_21, g_q1_22, g_q1_23, g_q1_24) hW
theorem hblk_addr {cA : Nat → ClassId} {hA : Nat → Nat → Nat} {u v : Nat → WS} : (hblk cA hA u).map Prod.fst = (hblk cA hA v).map Prod.fst := blk_addr (fun _ _ _ => rfl)
abbrev e_X2_remember (cA : Nat → ClassId) (o o_ring q1 q1_1 q1_8 q1_14 q1_20 q1_2 q1_3 q1_4 q1_5 q1_6 q1_7 q1_9 q1_10 q1_11 q1_12 q1_13 q1_15 q1_16 q1_17 q1_18 q1_19 q1_21 q1_22 q1_23 q1_24 : Nat) (v_o_count : Int32) (v_o_next : Int32) (v_q1_0 : Int32) (v_q1_1 : Int32) (g_q1_2 : Nat → Int32) (g_q1_3 : Nat → Int32) (g_q1_4 : Nat → Int32) (g_q1_5 : Nat → Int32) (g_q1_6 : Nat → Int32) (g_q1_7 : Nat → Int32) (v_q1_8 : Int32) (g_q1_9 : Nat → Int32) (g_q1_10 : Nat → Int32) (g_q1_11 : Nat → Int32) (g_q1_12 : Nat → Int32) (v_q1_13 : Int32) (g_q1_14 : Nat → Int32) (g_q1_15 : Nat → Int32) (g_q1_16 : Nat → Int32) (g_q1_17 : Nat → Int32) (g_q1_18 : Nat → Int32) (v_q1_19 : Int32) (v_q1_20 : Int32) (g_q1_21 : Nat → Int32) (g_q1_22 : Nat → Int32) (g_q1_23 : Nat → Int32) (g_q1_24 : Nat → Int32) (hA : Nat → Nat → Nat) : va_W := [(o, .inr (4, [.int v_o_count, .int v_o_next, .ref o_ring])), (o_ring, .inl (cA 2, 6, .inr (.inr (.inr (.inr (fun j => some (hA j 0))))))), (q1, .inr (8, [.int v_q1_0, .ref q1_1, .ref q1_8, .ref q1_14, .ref q1_20])), (q1_1, .inr (6, [.int v_q1_1, .ref q1_2, .ref q1_3, .ref q1_4, .ref q1_5, .ref q1_6, .ref q1_7])), (q1_2, .inl (cA 0, 24, .inl g_q1_2)), (q1_3, .inl (cA 0, 24, .inl g_q1_3)), (q1_4, .inl (cA 0, 24, .inl g_q1_4)), (q1_5, .inl (cA 0, 24, .inl g_q1_5)), (q1_6, .inl (cA 0, 24, .inl g_q1_6)), (q1_7, .inl (cA 0, 24, .inl g_q1_7)), (q1_8, .inr (2, [.int v_q1_8, .ref q1_9, .ref q1_10, .ref q1_11, .ref q1_12, .ref q1_13])), (q1_9, .inl (cA 0, 60, .inl g_q1_9)), (q1_10, .inl (cA 0, 60, .inl g_q1_10)), (q1_11, .inl (cA 0, 60, .inl g_q1_11)), (q1_12, .inl (cA 0, 60, .inl g_q1_12)), (q1_14, .inr (3, [.int v_q1_13, .ref q1_15, .ref q1_16, .ref q1_17, .ref q1_18, .ref q1_19])), (q1_15, .inl (cA 0, 30, .inl g_q1_14)), (q1_16, .inl (cA 0, 30, .inl g_q1_15)), (q1_17, .inl (cA 0, 30, .inl g_q1_16)), (q1_18, .inl (cA 0, 30, .inl g_q1_17)), (q1_19, .inl (cA 0, 30, .inl g_q1_18)), (q1_20, .inr (5, [.int v_q1_19, .int v_q1_20, .ref q1_21, .ref q1_22, .ref q1_23, .ref q1_24])), (q1_21, .inl (cA 0, 20, .inl g_q1_21)), (q1_22, .inl (cA 0, 20, .inl g_q1_22)), (q1_23, .inl (cA 0, 20, .inl g_q1_23)), (q1_24, .inl (cA 0, 20, .inl g_q1_24))]
abbrev k_X2_remember (cA : Nat → ClassId) (o o_ring q1 q1_1 q1_8 q1_14 q1_20 q1_2 q1_3 q1_4 q1_5 q1_6 q1_7 q1_9 q1_10 q1_11 q1_12 q1_13 q1_15 q1_16 q1_17 q1_18 q1_19 q1_21 q1_22 q1_23 q1_24 : Nat) (v_o_count : Int32) (v_o_next : Int32) (v_q1_0 : Int32) (v_q1_1 : Int32) (g_q1_2 : Nat → Int32) (g_q1_3 : Nat → Int32) (g_q1_4 : Nat → Int32) (g_q1_5 : Nat → Int32) (g_q1_6 : Nat → Int32) (g_q1_7 : Nat → Int32) (v_q1_8 : Int32) (g_q1_9 : Nat → Int32) (g_q1_10 : Nat → Int32) (g_q1_11 : Nat → Int32) (g_q1_12 : Nat → Int32) (v_q1_13 : Int32) (g_q1_14 : Nat → Int32) (g_q1_15 : Nat → Int32) (g_q1_16 : Nat → Int32) (g_q1_17 : Nat → Int32) (g_q1_18 : Nat → Int32) (v_q1_19 : Int32) (v_q1_20 : Int32) (g_q1_21 : Nat → Int32) (g_q1_22 : Nat → Int32) (g_q1_23 : Nat → Int32) (g_q1_24 : Nat → Int32) (hA : Nat → Nat → Nat) (hW : Nat → WS) : va_W := e_X2_remember cA o o_ring q1 q1_1 q1_8 q1_14 q1_20 q1_2 q1_3 q1_4 q1_5 q1_6 q1_7 q1_9 q1_10 q1_11 q1_12 q1_13 q1_15 q1_16 q1_17 q1_18 q1_19 q1_21 q1_22 q1_23 q1_24 v_o_count v_o_next v_q1_0 v_q1_1 g_q1_2 g_q1_3 g_q1_4 g_q1_5 g_q1_6 g_q1_7 v_q1_8 g_q1_9 g_q1_10 g_q1_11 g_q1_12 v_q1_13 g_q1_14 g_q1_15 g_q1_16 g_q1_17 g_q1_18 v_q1_19 v_q1_20 g_q1_21 g_q1_22 g_q1_23 g_q1_24 hA ++ hblk cA hA hW
set_option maxHeartbeats 4000000 in
set_option maxRecDepth 100000 in
theorem c_X2_remember (l : Launch) (G : va_G) (cA : Nat → ClassId) (o o_ring q1 q1_1 q1_8 q1_14 q1_20 q1_2 q1_3 q1_4 q1_5 q1_6 q1_7 q1_9 q1_10 q1_11 q1_12 q1_13 q1_15 q1_16 q1_17 q1_18 q1_19 q1_21 q1_22 q1_23 q1_24 : Nat) (sz : Nat) (v_o_count : Int32) (v_o_next : Int32) (v_q1_0 : Int32) (v_q1_1 : Int32) (g_q1_2 : Nat → Int32) (g_q1_3 : Nat → Int32) (g_q1_4 : Nat → Int32) (g_q1_5 : Nat → Int32) (g_q1_6 : Nat → Int32) (g_q1_7 : Nat → Int32) (v_q1_8 : Int32) (g_q1_9 : Nat → Int32) (g_q1_10 : Nat → Int32) (g_q1_11 : Nat → Int32) (g_q1_12 : Nat → Int32) (v_q1_13 : Int32) (g_q1_14 : Nat → Int32) (g_q1_15 : Nat → Int32) (g_q1_16 : Nat → Int32) (g_q1_17 : Nat → Int32) (g_q1_18 : Nat → Int32) (v_q1_19 : Int32) (v_q1_20 : Int32) (g_q1_21 : Nat → Int32) (g_q1_22 : Nat → Int32) (g_q1_23 : Nat → Int32) (g_q1_24 : Nat → Int32) (hA : Nat → Nat → Nat) (hW : Nat → WS) (R : Option (Int32 × Int32 × (Nat → WS))) (hR : m_X2_remember v_o_count v_o_next v_q1_0 v_q1_1 g_q1_2 g_q1_3 g_q1_4 g_q1_5 g_q1_6 g_q1_7 v_q1_8 g_q1_9 g_q1_10 g_q1_11 g_q1_12 v_q1_13 g_q1_14 g_q1_15 g_q1_16 g_q1_17 g_q1_18 v_q1_19 v_q1_20 g_q1_21 g_q1_22 g_q1_23 g_q1_24 hW = R) (hz : R ≠ none) : Met l yX2_remember wsX2_remember ({ frames := 3, cells := 0, slots := 0, locals := 82 } : Room) (va_Pc [.ref o, .ref q1] (PM G cA (k_X2_remember cA o o_ring q1 q1_1 q1_8 q1_14 q1_20 q1_2 q1_3 q1_4 q1_5 q1_6 q1_7 q1_9 q1_10 q1_11 q1_12 q1_13 q1_15 q1_16 q1_17 q1_18 q1_19 q1_21 q1_22 q1_23 q1_24 v_o_count v_o_next v_q1_0 v_q1_1 g_q1_2 g_q1_3 g_q1_4 g_q1_5 g_q1_6 g_q1_7 v_q1_8 g_q1_9 g_q1_10 g_q1_11 g_q1_12 v_q1_13 g_q1_14 g_q1_15 g_q1_16 g_q1_17 g_q1_18 v_q1_19 v_q1_20 g_q1_21 g_q1_22 g_q1_23 g_q1_24 hA hW) sz)) (va_Qv (fun (u : Int32 × Int32 × (Nat → WS)) => R = some u) (BM G (fun (u : Int32 × Int32 × (Nat → WS)) => (k_X2_remember cA o o_ring q1 q1_1 q1_8 q1_14 q1_20 q1_2 q1_3 q1_4 q1_5 q1_6 q1_7 q1_9 q1_10 q1_11 q1_12 q1_13 q1_15 q1_16 q1_17 q1_18 q1_19 q1_21 q1_22 q1_23 q1_24 u.1 u.2.1 v_q1_0 v_q1_1 g_q1_2 g_q1_3 g_q1_4 g_q1_5 g_q1_6 g_q1_7 v_q1_8 g_q1_9 g_q1_10 g_q1_11 g_q1_12 v_q1_13 g_q1_14 g_q1_15 g_q1_16 g_q1_17 g_q1_18 v_q1_19 v_q1_20 g_q1_21 g_q1_22 g_q1_23 g_q1_24 hA u.2.2))) (va_A (k_X2_remember cA o o_ring q1 q1_1 q1_8 q1_14 q1_20 q1_2 q1_3 q1_4 q1_5 q1_6 q1_7 q1_9 q1_10 q1_11 q1_12 q1_13 q1_15 q1_16 q1_17 q1_18 q1_19 q1_21 q1_22 q1_23 q1_24 v_o_count v_o_next v_q1_0 v_q1_1 g_q1_2 g_q1_3 g_q1_4 g_q1_5 g_q1_6 g_q1_7 v_q1_8 g_q1_9 g_q1_10 g_q1_11 g_q1_12 v_q1_13 g_q1_14 g_q1_15 g_q1_16 g_q1_17 g_q1_18 v_q1_19 v_q1_20 g_q1_21 g_q1_22 g_q1_23 g_q1_24 hA hW) sz)) 0 0 (va_A (k_X2_remember cA o o_ring q1 q1_1 q1_8 q1_14 q1_20 q1_2 q1_3 q1_4 q1_5 q1_6 q1_7 q1_9 q1_10 q1_11 q1_12 q1_13 q1_15 q1_16 q1_17 q1_18 q1_19 q1_21 q1_22 q1_23 q1_24 v_o_count v_o_next v_q1_0 v_q1_1 g_q1_2 g_q1_3 g_q1_4 g_q1_5 g_q1_6 g_q1_7 v_q1_8 g_q1_9 g_q1_10 g_q1_11 g_q1_12 v_q1_13 g_q1_14 g_q1_15 g_q1_16 g_q1_17 g_q1_18 v_q1_19 v_q1_20 g_q1_21 g_q1_22 g_q1_23 g_q1_24 hA hW) sz) := c_rem0 l G cA o o_ring (b25 q1 q1_1 q1_2 q1_3 q1_4 q1_5 q1_6 q1_7 q1_8 q1_9 q1_10 q1_11 q1_12 q1_13 q1_14 q1_15 q1_16 q1_17 q1_18 q1_19 q1_20 q1_21 q1_22 q1_23 q1_24) hA sz v_o_count v_o_next (v_q1_0, v_q1_1, g_q1_2, g_q1_3, g_q1_4, g_q1_5, g_q1_6, g_q1_7, v_q1_8, g_q1_9, g_q1_10, g_q1_11, g_q1_12, v_q1_13, g_q1_14, g_q1_15, g_q1_16, g_q1_17, g_q1_18, v_q1_19, v_q1_20, g_q1_21, g_q1_22, g_q1_23, g_q1_24) hW R hR hz
abbrev e_X2_takeBack (cA : Nat → ClassId) (o o_ring q1 q1_1 q1_8 q1_14 q1_20 q1_2 q1_3 q1_4 q1_5 q1_6 q1_7 q1_9 q1_10 q1_11 q1_12 q1_13 q1_15 q1_16 q1_17 q1_18 q1_19 q1_21 q1_22 q1_23 q1_24 : Nat) (v_o_count : Int32) (v_o_next : Int32) (v_q1_0 : Int32) (v_q1_1 : Int32) (g_q1_2 : Nat → Int32) (g_q1_3 : Nat → Int32) (g_q1_4 : Nat → Int32) (g_q1_5 : Nat → Int32) (g_q1_6 : Nat → Int32) (g_q1_7 : Nat → Int32) (v_q1_8 : Int32) (g_q1_9 : Nat → Int32) (g_q1_10 : Nat → Int32) (g_q1_11 : Nat → Int32) (g_q1_12 : Nat → Int32) (v_q1_13 : Int32) (g_q1_14 : Nat → Int32) (g_q1_15 : Nat → Int32) (g_q1_16 : Nat → Int32) (g_q1_17 : Nat → Int32) (g_q1_18 : Nat → Int32) (v_q1_19 : Int32) (v_q1_20 : Int32) (g_q1_21 : Nat → Int32) (g_q1_22 : Nat → Int32) (g_q1_23 : Nat → Int32) (g_q1_24 : Nat → Int32) (hA : Nat → Nat → Nat) : va_W := [(o, .inr (4, [.int v_o_count, .int v_o_next, .ref o_ring])), (o_ring, .inl (cA 2, 6, .inr (.inr (.inr (.inr (fun j => some (hA j 0))))))), (q1, .inr (8, [.int v_q1_0, .ref q1_1, .ref q1_8, .ref q1_14, .ref q1_20])), (q1_1, .inr (6, [.int v_q1_1, .ref q1_2, .ref q1_3, .ref q1_4, .ref q1_5, .ref q1_6, .ref q1_7])), (q1_2, .inl (cA 0, 24, .inl g_q1_2)), (q1_3, .inl (cA 0, 24, .inl g_q1_3)), (q1_4, .inl (cA 0, 24, .inl g_q1_4)), (q1_5, .inl (cA 0, 24, .inl g_q1_5)), (q1_6, .inl (cA 0, 24, .inl g_q1_6)), (q1_7, .inl (cA 0, 24, .inl g_q1_7)), (q1_8, .inr (2, [.int v_q1_8, .ref q1_9, .ref q1_10, .ref q1_11, .ref q1_12, .ref q1_13])), (q1_9, .inl (cA 0, 60, .inl g_q1_9)), (q1_10, .inl (cA 0, 60, .inl g_q1_10)), (q1_11, .inl (cA 0, 60, .inl g_q1_11)), (q1_12, .inl (cA 0, 60, .inl g_q1_12)), (q1_14, .inr (3, [.int v_q1_13, .ref q1_15, .ref q1_16, .ref q1_17, .ref q1_18, .ref q1_19])), (q1_15, .inl (cA 0, 30, .inl g_q1_14)), (q1_16, .inl (cA 0, 30, .inl g_q1_15)), (q1_17, .inl (cA 0, 30, .inl g_q1_16)), (q1_18, .inl (cA 0, 30, .inl g_q1_17)), (q1_19, .inl (cA 0, 30, .inl g_q1_18)), (q1_20, .inr (5, [.int v_q1_19, .int v_q1_20, .ref q1_21, .ref q1_22, .ref q1_23, .ref q1_24])), (q1_21, .inl (cA 0, 20, .inl g_q1_21)), (q1_22, .inl (cA 0, 20, .inl g_q1_22)), (q1_23, .inl (cA 0, 20, .inl g_q1_23)), (q1_24, .inl (cA 0, 20, .inl g_q1_24))]
abbrev k_X2_takeBack (cA : Nat → ClassId) (o o_ring q1 q1_1 q1_8 q1_14 q1_20 q1_2 q1_3 q1_4 q1_5 q1_6 q1_7 q1_9 q1_10 q1_11 q1_12 q1_13 q1_15 q1_16 q1_17 q1_18 q1_19 q1_21 q1_22 q1_23 q1_24 : Nat) (v_o_count : Int32) (v_o_next : Int32) (v_q1_0 : Int32) (v_q1_1 : Int32) (g_q1_2 : Nat → Int32) (g_q1_3 : Nat → Int32) (g_q1_4 : Nat → Int32) (g_q1_5 : Nat → Int32) (g_q1_6 : Nat → Int32) (g_q1_7 : Nat → Int32) (v_q1_8 : Int32) (g_q1_9 : Nat → Int32) (g_q1_10 : Nat → Int32) (g_q1_11 : Nat → Int32) (g_q1_12 : Nat → Int32) (v_q1_13 : Int32) (g_q1_14 : Nat → Int32) (g_q1_15 : Nat → Int32) (g_q1_16 : Nat → Int32) (g_q1_17 : Nat → Int32) (g_q1_18 : Nat → Int32) (v_q1_19 : Int32) (v_q1_20 : Int32) (g_q1_21 : Nat → Int32) (g_q1_22 : Nat → Int32) (g_q1_23 : Nat → Int32) (g_q1_24 : Nat → Int32) (hA : Nat → Nat → Nat) (hW : Nat → WS) : va_W := e_X2_takeBack cA o o_ring q1 q1_1 q1_8 q1_14 q1_20 q1_2 q1_3 q1_4 q1_5 q1_6 q1_7 q1_9 q1_10 q1_11 q1_12 q1_13 q1_15 q1_16 q1_17 q1_18 q1_19 q1_21 q1_22 q1_23 q1_24 v_o_count v_o_next v_q1_0 v_q1_1 g_q1_2 g_q1_3 g_q1_4 g_q1_5 g_q1_6 g_q1_7 v_q1_8 g_q1_9 g_q1_10 g_q1_11 g_q1_12 v_q1_13 g_q1_14 g_q1_15 g_q1_16 g_q1_17 g_q1_18 v_q1_19 v_q1_20 g_q1_21 g_q1_22 g_q1_23 g_q1_24 hA ++ hblk cA hA hW
set_option maxHeartbeats 4000000 in
set_option maxRecDepth 100000 in
theorem c_X2_takeBack (l : Launch) (G : va_G) (cA : Nat → ClassId) (o o_ring q1 q1_1 q1_8 q1_14 q1_20 q1_2 q1_3 q1_4 q1_5 q1_6 q1_7 q1_9 q1_10 q1_11 q1_12 q1_13 q1_15 q1_16 q1_17 q1_18 q1_19 q1_21 q1_22 q1_23 q1_24 : Nat) (sz : Nat) (v_o_count : Int32) (v_o_next : Int32) (v_q1_0 : Int32) (v_q1_1 : Int32) (g_q1_2 : Nat → Int32) (g_q1_3 : Nat → Int32) (g_q1_4 : Nat → Int32) (g_q1_5 : Nat → Int32) (g_q1_6 : Nat → Int32) (g_q1_7 : Nat → Int32) (v_q1_8 : Int32) (g_q1_9 : Nat → Int32) (g_q1_10 : Nat → Int32) (g_q1_11 : Nat → Int32) (g_q1_12 : Nat → Int32) (v_q1_13 : Int32) (g_q1_14 : Nat → Int32) (g_q1_15 : Nat → Int32) (g_q1_16 : Nat → Int32) (g_q1_17 : Nat → Int32) (g_q1_18 : Nat → Int32) (v_q1_19 : Int32) (v_q1_20 : Int32) (g_q1_21 : Nat → Int32) (g_q1_22 : Nat → Int32) (g_q1_23 : Nat → Int32) (g_q1_24 : Nat → Int32) (hA : Nat → Nat → Nat) (hW : Nat → WS) (R : Option (Int32 × Int32 × WS)) (hR : m_X2_takeBack v_o_count v_o_next v_q1_0 v_q1_1 g_q1_2 g_q1_3 g_q1_4 g_q1_5 g_q1_6 g_q1_7 v_q1_8 g_q1_9 g_q1_10 g_q1_11 g_q1_12 v_q1_13 g_q1_14 g_q1_15 g_q1_16 g_q1_17 g_q1_18 v_q1_19 v_q1_20 g_q1_21 g_q1_22 g_q1_23 g_q1_24 hW = R) (hz : R ≠ none) : Met l yX2_takeBack wsX2_takeBack ({ frames := 3, cells := 0, slots := 0, locals := 82 } : Room) (va_Pc [.ref o, .ref q1] (PM G cA (k_X2_takeBack cA o o_ring q1 q1_1 q1_8 q1_14 q1_20 q1_2 q1_3 q1_4 q1_5 q1_6 q1_7 q1_9 q1_10 q1_11 q1_12 q1_13 q1_15 q1_16 q1_17 q1_18 q1_19 q1_21 q1_22 q1_23 q1_24 v_o_count v_o_next v_q1_0 v_q1_1 g_q1_2 g_q1_3 g_q1_4 g_q1_5 g_q1_6 g_q1_7 v_q1_8 g_q1_9 g_q1_10 g_q1_11 g_q1_12 v_q1_13 g_q1_14 g_q1_15 g_q1_16 g_q1_17 g_q1_18 v_q1_19 v_q1_20 g_q1_21 g_q1_22 g_q1_23 g_q1_24 hA hW) sz)) (va_Qv (fun (u : Int32 × Int32 × WS) => R = some u) (BM G (fun (u : Int32 × Int32 × WS) => (k_X2_takeBack cA o o_ring q1 q1_1 q1_8 q1_14 q1_20 q1_2 q1_3 q1_4 q1_5 q1_6 q1_7 q1_9 q1_10 q1_11 q1_12 q1_13 q1_15 q1_16 q1_17 q1_18 q1_19 q1_21 q1_22 q1_23 q1_24 u.1 u.2.1 u.2.2.1 u.2.2.2.1 u.2.2.2.2.1 u.2.2.2.2.2.1 u.2.2.2.2.2.2.1 u.2.2.2.2.2.2.2.1 u.2.2.2.2.2.2.2.2.1 u.2.2.2.2.2.2.2.2.2.1 u.2.2.2.2.2.2.2.2.2.2.1 u.2.2.2.2.2.2.2.2.2.2.2.1 u.2.2.2.2.2.2.2.2.2.2.2.2.1 u.2.2.2.2.2.2.2.2.2.2.2.2.2.1 u.2.2.2.2.2.2.2.2.2.2.2.2.2.2.1 u.2.2.2.2.2.2.2.2.2.2.2.2.2.2.2.1 u.2.2.2.2.2.2.2.2.2.2.2.2.2.2.2.2.1 u.2.2.2.2.2.2.2.2.2.2.2.2.2.2.2.2.2.1 u.2.2.2.2.2.2.2.2.2.2.2.2.2.2.2.2.2.2.1 u.2.2.2.2.2.2.2.2.2.2.2.2.2.2.2.2.2.2.2.1 u.2.2.2.2.2.2.2.2.2.2.2.2.2.2.2.2.2.2.2.2.1 u.2.2.2.2.2.2.2.2.2.2.2.2.2.2.2.2.2.2.2.2.2.1 u.2.2.2.2.2.2.2.2.2.2.2.2.2.2.2.2.2.2.2.2.2.2.1 u.2.2.2.2.2.2.2.2.2.2.2.2.2.2.2.2.2.2.2.2.2.2.2.1 u.2.2.2.2.2.2.2.2.2.2.2.2.2.2.2.2.2.2.2.2.2.2.2.2.1 u.2.2.2.2.2.2.2.2.2.2.2.2.2.2.2.2.2.2.2.2.2.2.2.2.2.1 u.2.2.2.2.2.2.2.2.2.2.2.2.2.2.2.2.2.2.2.2.2.2.2.2.2.2 hA hW))) (va_A (k_X2_takeBack cA o o_ring q1 q1_1 q1_8 q1_14 q1_20 q1_2 q1_3 q1_4 q1_5 q1_6 q1_7 q1_9 q1_10 q1_11 q1_12 q1_13 q1_15 q1_16 q1_17 q1_18 q1_19 q1_21 q1_22 q1_23 q1_24 v_o_count v_o_next v_q1_0 v_q1_1 g_q1_2 g_q1_3 g_q1_4 g_q1_5 g_q1_6 g_q1_7 v_q1_8 g_q1_9 g_q1_10 g_q1_11 g_q1_12 v_q1_13 g_q1_14 g_q1_15 g_q1_16 g_q1_17 g_q1_18 v_q1_19 v_q1_20 g_q1_21 g_q1_22 g_q1_23 g_q1_24 hA hW) sz)) 0 0 (va_A (k_X2_takeBack cA o o_ring q1 q1_1 q1_8 q1_14 q1_20 q1_2 q1_3 q1_4 q1_5 q1_6 q1_7 q1_9 q1_10 q1_11 q1_12 q1_13 q1_15 q1_16 q1_17 q1_18 q1_19 q1_21 q1_22 q1_23 q1_24 v_o_count v_o_next v_q1_0 v_q1_1 g_q1_2 g_q1_3 g_q1_4 g_q1_5 g_q1_6 g_q1_7 v_q1_8 g_q1_9 g_q1_10 g_q1_11 g_q1_12 v_q1_13 g_q1_14 g_q1_15 g_q1_16 g_q1_17 g_q1_18 v_q1_19 v_q1_20 g_q1_21 g_q1_22 g_q1_23 g_q1_24 hA hW) sz) := c_tb0 l G cA o o_ring (b25 q1 q1_1 q1_2 q1_3 q1_4 q1_5 q1_6 q1_7 q1_8 q1_9 q1_10 q1_11 q1_12 q1_13 q1_14 q1_15 q1_16 q1_17 q1_18 q1_19 q1_20 q1_21 q1_22 q1_23 q1_24) hA sz v_o_count v_o_next (v_q1_0, v_q1_1, g_q1_2, g_q1_3, g_q1_4, g_q1_5, g_q1_6, g_q1_7, v_q1_8, g_q1_9, g_q1_10, g_q1_11, g_q1_12, v_q1_13, g_q1_14, g_q1_15, g_q1_16, g_q1_17, g_q1_18, v_q1_19, v_q1_20, g_q1_21, g_q1_22, g_q1_23, g_q1_24) hW R hR hz
