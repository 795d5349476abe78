/-! The law, call by call. -/
set_option maxHeartbeats 16000000 in
set_option maxRecDepth 100000 in
/-- access -/
theorem law_access {p : Program} {l : Launch} {e : Env} {s : State} {m : MethodId} {below : List Frame} {meth : Method} {cd : Code} {b Ls : Nat} {xs : Nat → Int32} {z : Nat → Nat} {G : va_G} {cA : Nat → ClassId} {ad aw ab ak : Nat → Nat} {hA : Nat → Nat → Nat} {gA : Nat → Nat} (C0 : LC p l s m cd b Ls xs z G cA) {i nn kk : Nat} (hi : i + 4 < Ls) (hL : Ls ≤ 2560) (hn : nn + 1 ≤ 603072) (hk : kk + 6 ≤ 7190634) (next : LNext p l e s m below meth cd b G cA ad aw ab ak hA gA i (nn + 1) (kk + 6)) {ws : va_W} {H : Heap} {locs : List Loc} {ls : Array Slot} (hI : LSt cA ad aw ab ak hA gA ws) (hP : va_P G vwCl ws H) (hD : va_D (fun q : Nat => s.heap.size ≤ q) ws) (hS : va_S (fun q : Nat => s.heap.size ≤ q) s.heap H locs) (hl : lv_has ls 9 [(5, .int (nI i)), (4, .ref (ad 8)), (3, .ref (ad 7)), (2, .ref (ad 9)), (1, .ref (ad 0)), (0, .ref b)]) : W p l e room_1 s m #[Value.ref b] below meth cd H locs nn kk (lw_Z below #[Value.ref b] s) (F0 m 1592 ls []) := by
  obtain ⟨hx, hb, hml, hown, hts, hX, hbl, hK, hT, hO, hfl⟩ := C0
  have hbA : ¬ (fun q : Nat => s.heap.size ≤ q) b := Nat.not_le.mpr hbl
  have hA0 : ∀ q : Nat, s.heap.size ≤ q → (fun q : Nat => s.heap.size ≤ q) q := fun _ h => h
  have h_in1 : vp_in (nI i + (1 : Int32)) Ls := by rw [show nI i + (1 : Int32) = nI (i + 1) from nI_add i 1]; exact vp_in_nI (by omega) (by omega)
  have h_in2 : vp_in (nI i + (2 : Int32)) Ls := by rw [show nI i + (2 : Int32) = nI (i + 2) from nI_add i 2]; exact vp_in_nI (by omega) (by omega)
  have h_in3 : vp_in (nI i + (3 : Int32)) Ls := by rw [show nI i + (3 : Int32) = nI (i + 3) from nI_add i 3]; exact vp_in_nI (by omega) (by omega)
  have h_in4 : vp_in (nI i + (4 : Int32)) Ls := by rw [show nI i + (4 : Int32) = nI (i + 4) from nI_add i 4]; exact vp_in_nI (by omega) (by omega)
  obtain ⟨P, D, E, L, K, dn, c, x, l_, ar, fi, la, nb, pa, ro, dp, dg, de, dd, ek, eo, es, ef, el, lc, lm, lp, lr, n, hW, gW, B, K0, isK, isS, lre, rea, lpo, rpo, ta, tc, thr, ra, rwr, mo, ti, tw, tn, sv, as, ch, bu, nu, g, gd, rfl, hWC, hHR, hRR, hPO, hSR, hTR⟩ := hI
  refine lv_aload_n hx hb dL_law_1592 rfl (lv_at hl 4 rfl) ?_
  refine lv_aload_n hx hb dL_law_1593 rfl (lv_at hl 5 rfl) ?_
  refine lv_iload hx hb dL_law_1594 (lv_at hl 0 rfl) ?_
  refine lv_iconst (v := (1 : Int32)) hx hb dL_law_1596 (by decide) ?_
  refine lv_iadd hx hb dL_law_1597 ?_
  refine va_sld hx hb hX hbl hbA hS h_in1 dL_law_1598 ?_
  refine lv_aload_n hx hb dL_law_1599 rfl (lv_at hl 5 rfl) ?_
  refine lv_iload hx hb dL_law_1600 (lv_at hl 0 rfl) ?_
  refine lv_iconst (v := (2 : Int32)) hx hb dL_law_1602 (by decide) ?_
  refine lv_iadd hx hb dL_law_1603 ?_
  refine va_sld hx hb hX hbl hbA hS h_in2 dL_law_1604 ?_
  refine lv_aload_n hx hb dL_law_1605 rfl (lv_at hl 2 rfl) ?_
  obtain ⟨k_, b_, g', hop1, hop2, hpost⟩ := op_access hWC (xs (nI i + (1 : Int32)).toNatClampNeg) (xs (nI i + (2 : Int32)).toNatClampNeg) g
  obtain ⟨Er1, hEr1⟩ : ∃ z, z = pk (E7 cA (ad 0) aw ab ak (ad 1) (ad 2) hA (ad 3) (ad 4) (ad 5) (ad 6) isK lre lpo (nI dn, nI P, ar, fi, la, nb, pa, ro, nI D, dp, dg, de, dd, nI E, ek, eo, es, ef, el, nI L, nI K, lc, lm, lp, lr) mo B K0 (nI c) (nI x) (nI l_) ta tc ti tw tn ++ [((ad 7), .inl (cA 4, 1, .inr (.inl g))), ((ad 8), .inl (cA 5, 1, .inr (.inr (.inr (.inl gd)))))]) [3, 4, 5, 6, 7, 8, 9, 10, 11, 12, 13, 18, 20, 21, 22, 23, 24, 25, 26, 27, 28, 29, 30, 31, 32, 33, 34, 35, 36, 37, 38, 39, 40, 41, 42, 43, 44, 45, 46, 47, 48, 49, 50, 51, 52, 53, 54, 55, 56, 57, 58, 59, 60, 61, 62, 63, 64, 65, 66, 67, 68, 69, 70, 71, 72, 73, 74, 75, 76, 77, 78, 79, 81] := ⟨_, rfl⟩
  have hp := gl_0 (E := (E7 cA (ad 0) aw ab ak (ad 1) (ad 2) hA (ad 3) (ad 4) (ad 5) (ad 6) isK lre lpo (nI dn, nI P, ar, fi, la, nb, pa, ro, nI D, dp, dg, de, dd, nI E, ek, eo, es, ef, el, nI L, nI K, lc, lm, lp, lr) mo B K0 (nI c) (nI x) (nI l_) ta tc ti tw tn ++ [((ad 7), .inl (cA 4, 1, .inr (.inl g))), ((ad 8), .inl (cA 5, 1, .inr (.inr (.inr (.inl gd)))))])) (Ec := (k_L_access cA (ad 0) (aw 0) (ab 0) (ak 0) (ad 1) (ad 3) (aw 1) (aw 8) (aw 14) (aw 20) (aw 2) (aw 3) (aw 4) (aw 5) (aw 6) (aw 7) (aw 15) (aw 16) (aw 17) (aw 18) (aw 19) (ad 7) isK lre lpo (nI dn) (nI P) (nI E) ek eo es el g)) (Er := Er1) (B := (hblk cA hA hW)) (R := ((E8 cA (ad 9) (ad 10) (ad 11) (ad 12) (ad 13) (ad 14) (ad 15) (ad 16) gA thr (nI c) rea rpo isS (nI l_) ra rwr n sv as ch bu nu) ++ gblk cA gA gW)) (pick (n := 82) [0, 1, 2, 14, 15, 16, 17, 19, 80] [3, 4, 5, 6, 7, 8, 9, 10, 11, 12, 13, 18, 20, 21, 22, 23, 24, 25, 26, 27, 28, 29, 30, 31, 32, 33, 34, 35, 36, 37, 38, 39, 40, 41, 42, 43, 44, 45, 46, 47, 48, 49, 50, 51, 52, 53, 54, 55, 56, 57, 58, 59, 60, 61, 62, 63, 64, 65, 66, 67, 68, 69, 70, 71, 72, 73, 74, 75, 76, 77, 78, 79, 81] rfl (by decide +kernel) rfl hEr1.symm)
  have hPc : va_P G vwCl (k_L_access cA (ad 0) (aw 0) (ab 0) (ak 0) (ad 1) (ad 3) (aw 1) (aw 8) (aw 14) (aw 20) (aw 2) (aw 3) (aw 4) (aw 5) (aw 6) (aw 7) (aw 15) (aw 16) (aw 17) (aw 18) (aw 19) (ad 7) isK lre lpo (nI dn) (nI P) (nI E) ek eo es el g) H := (hP.perm hp).left
  have hDc : va_D _ (k_L_access cA (ad 0) (aw 0) (ab 0) (ak 0) (ad 1) (ad 3) (aw 1) (aw 8) (aw 14) (aw 20) (aw 2) (aw 3) (aw 4) (aw 5) (aw 6) (aw 7) (aw 15) (aw 16) (aw 17) (aw 18) (aw 19) (ad 7) isK lre lpo (nI dn) (nI P) (nI E) ek eo es el g) := (hD.perm hp).left
  have hFc := va_freePm hp hD hS hA0
  refine va_calli (vx_runSW (As := [.ref (ad 0), .int (xs (nI i + (1 : Int32)).toNatClampNeg), .int (xs (nI i + (2 : Int32)).toNatClampNeg), .ref (ad 7)]) (rest := []) ⟨hx, hb, hml, hown, hts⟩ (c_L_access l hfl z G cA (ad 0) (aw 0) (ab 0) (ak 0) (ad 1) (ad 3) (aw 1) (aw 8) (aw 14) (aw 20) (aw 2) (aw 3) (aw 4) (aw 5) (aw 6) (aw 7) (aw 15) (aw 16) (aw 17) (aw 18) (aw 19) (ad 7) H.size (xs (nI i + (1 : Int32)).toNatClampNeg) (xs (nI i + (2 : Int32)).toNatClampNeg) isK lre lpo (nI dn) (nI P) (nI E) ek eo es el g _ hop1 (Option.some_ne_none _)) (vx_cwSW 4 hts gL_law_L_access rfl rfl rfl (by decide +kernel) ⟨Nat.le_of_ble_eq_true rfl, Nat.le_of_ble_eq_true rfl⟩) (preMSo hPc hDc hK hT hO hS hFc) rfl rfl hl.1 rfl (lv_room (Nat.le_of_ble_eq_true rfl)) dL_law_1606 ⟨hn, hk⟩) hS (fun q _ h => hFc q h) hFc (fun r u t H1 locs ht hvm hw hB hz1 hk1 hS1 => ?_)
  obtain ⟨rfl, rfl⟩ := Prod.mk.inj (Option.some.inj hw)
  replace hB : va_P G vwCl (k_L_access cA (ad 0) (aw 0) (ab 0) (ak 0) (ad 1) (ad 3) (aw 1) (aw 8) (aw 14) (aw 20) (aw 2) (aw 3) (aw 4) (aw 5) (aw 6) (aw 7) (aw 15) (aw 16) (aw 17) (aw 18) (aw 19) (ad 7) isK lre lpo (nI dn) (nI P) (nI E) ek eo es el g') t.heap := hB
  rw [ht] at hB
  have hj := va_backP hp hP hD hk1 hB rfl
  have hp2 := gl_0 (E := (E7 cA (ad 0) aw ab ak (ad 1) (ad 2) hA (ad 3) (ad 4) (ad 5) (ad 6) isK lre lpo (nI dn, nI P, ar, fi, la, nb, pa, ro, nI D, dp, dg, de, dd, nI E, ek, eo, es, ef, el, nI L, nI K, lc, lm, lp, lr) mo B K0 (nI c) (nI x) (nI l_) ta tc ti tw tn ++ [((ad 7), .inl (cA 4, 1, .inr (.inl g'))), ((ad 8), .inl (cA 5, 1, .inr (.inr (.inr (.inl gd)))))])) (Ec := (k_L_access cA (ad 0) (aw 0) (ab 0) (ak 0) (ad 1) (ad 3) (aw 1) (aw 8) (aw 14) (aw 20) (aw 2) (aw 3) (aw 4) (aw 5) (aw 6) (aw 7) (aw 15) (aw 16) (aw 17) (aw 18) (aw 19) (ad 7) isK lre lpo (nI dn) (nI P) (nI E) ek eo es el g')) (Er := Er1) (B := (hblk cA hA hW)) (R := ((E8 cA (ad 9) (ad 10) (ad 11) (ad 12) (ad 13) (ad 14) (ad 15) (ad 16) gA thr (nI c) rea rpo isS (nI l_) ra rwr n sv as ch bu nu) ++ gblk cA gA gW)) (pick (n := 82) [0, 1, 2, 14, 15, 16, 17, 19, 80] [3, 4, 5, 6, 7, 8, 9, 10, 11, 12, 13, 18, 20, 21, 22, 23, 24, 25, 26, 27, 28, 29, 30, 31, 32, 33, 34, 35, 36, 37, 38, 39, 40, 41, 42, 43, 44, 45, 46, 47, 48, 49, 50, 51, 52, 53, 54, 55, 56, 57, 58, 59, 60, 61, 62, 63, 64, 65, 66, 67, 68, 69, 70, 71, 72, 73, 74, 75, 76, 77, 78, 79, 81] rfl (by decide +kernel) rfl (by rw [hEr1]; exact pk_e0 (n := 80) _ rfl (by decide)))
  replace hP : va_P G vwCl (((E7 cA (ad 0) aw ab ak (ad 1) (ad 2) hA (ad 3) (ad 4) (ad 5) (ad 6) isK lre lpo (nI dn, nI P, ar, fi, la, nb, pa, ro, nI D, dp, dg, de, dd, nI E, ek, eo, es, ef, el, nI L, nI K, lc, lm, lp, lr) mo B K0 (nI c) (nI x) (nI l_) ta tc ti tw tn ++ [((ad 7), .inl (cA 4, 1, .inr (.inl g'))), ((ad 8), .inl (cA 5, 1, .inr (.inr (.inr (.inl gd)))))]) ++ hblk cA hA hW) ++ ((E8 cA (ad 9) (ad 10) (ad 11) (ad 12) (ad 13) (ad 14) (ad 15) (ad 16) gA thr (nI c) rea rpo isS (nI l_) ra rwr n sv as ch bu nu) ++ gblk cA gA gW)) H1 := hj.1.perm hp2.symm
  replace hD : va_D _ (((E7 cA (ad 0) aw ab ak (ad 1) (ad 2) hA (ad 3) (ad 4) (ad 5) (ad 6) isK lre lpo (nI dn, nI P, ar, fi, la, nb, pa, ro, nI D, dp, dg, de, dd, nI E, ek, eo, es, ef, el, nI L, nI K, lc, lm, lp, lr) mo B K0 (nI c) (nI x) (nI l_) ta tc ti tw tn ++ [((ad 7), .inl (cA 4, 1, .inr (.inl g'))), ((ad 8), .inl (cA 5, 1, .inr (.inr (.inr (.inl gd)))))]) ++ hblk cA hA hW) ++ ((E8 cA (ad 9) (ad 10) (ad 11) (ad 12) (ad 13) (ad 14) (ad 15) (ad 16) gA thr (nI c) rea rpo isS (nI l_) ra rwr n sv as ch bu nu) ++ gblk cA gA gW)) := hj.2.perm hp2.symm
  have hS := hS1
  clear hj hp hp2 hPc hDc hFc hB hk1 hEr1 hw
  generalize H1 = H at hP hS ht hz1 ⊢
  refine lv_istore (lv' := [(6, .int k_), (5, .int (nI i)), (4, .ref (ad 8)), (3, .ref (ad 7)), (2, .ref (ad 9)), (1, .ref (ad 0)), (0, .ref b)]) hx hb dL_law_1609 hl (by decide) rfl (fun ls hl => ?_)
  refine lv_aload_n hx hb dL_law_1611 rfl (lv_at hl 4 rfl) ?_
  refine lv_aload_n hx hb dL_law_1612 rfl (lv_at hl 6 rfl) ?_
  refine lv_iload hx hb dL_law_1613 (lv_at hl 1 rfl) ?_
  refine lv_iconst (v := (1 : Int32)) hx hb dL_law_1615 (by decide) ?_
  refine lv_iadd hx hb dL_law_1616 ?_
  refine va_sld hx hb hX hbl hbA hS h_in1 dL_law_1617 ?_
  refine lv_aload_n hx hb dL_law_1618 rfl (lv_at hl 6 rfl) ?_
  refine lv_iload hx hb dL_law_1619 (lv_at hl 1 rfl) ?_
  refine lv_iconst (v := (2 : Int32)) hx hb dL_law_1621 (by decide) ?_
  refine lv_iadd hx hb dL_law_1622 ?_
  refine va_sld hx hb hX hbl hbA hS h_in2 dL_law_1623 ?_
  obtain ⟨Er2, hEr2⟩ : ∃ z, z = pk (E8 cA (ad 9) (ad 10) (ad 11) (ad 12) (ad 13) (ad 14) (ad 15) (ad 16) gA thr (nI c) rea rpo isS (nI l_) ra rwr n sv as ch bu nu) [2, 3, 4, 5, 6, 7] := ⟨_, rfl⟩
  have hp := gq_0 (E := (E8 cA (ad 9) (ad 10) (ad 11) (ad 12) (ad 13) (ad 14) (ad 15) (ad 16) gA thr (nI c) rea rpo isS (nI l_) ra rwr n sv as ch bu nu)) (Ec := (k_X8_access cA (ad 9) (ad 10) (ad 11) (ad 12) (ad 13) (ad 14) (ad 15) (ad 16) thr (nI c) rea rpo isS (nI l_) ra rwr n)) (Er := Er2) (B := (gblk cA gA gW)) (R := ((E7 cA (ad 0) aw ab ak (ad 1) (ad 2) hA (ad 3) (ad 4) (ad 5) (ad 6) isK lre lpo (nI dn, nI P, ar, fi, la, nb, pa, ro, nI D, dp, dg, de, dd, nI E, ek, eo, es, ef, el, nI L, nI K, lc, lm, lp, lr) mo B K0 (nI c) (nI x) (nI l_) ta tc ti tw tn ++ [((ad 7), .inl (cA 4, 1, .inr (.inl g'))), ((ad 8), .inl (cA 5, 1, .inr (.inr (.inr (.inl gd)))))]) ++ hblk cA hA hW)) (pick (n := 8) [0, 1] [2, 3, 4, 5, 6, 7] rfl (by decide +kernel) rfl hEr2.symm)
  have hPc : va_P G vwCl (k_X8_access cA (ad 9) (ad 10) (ad 11) (ad 12) (ad 13) (ad 14) (ad 15) (ad 16) thr (nI c) rea rpo isS (nI l_) ra rwr n) H := (hP.perm hp).left
  have hDc : va_D _ (k_X8_access cA (ad 9) (ad 10) (ad 11) (ad 12) (ad 13) (ad 14) (ad 15) (ad 16) thr (nI c) rea rpo isS (nI l_) ra rwr n) := (hD.perm hp).left
  have hFc := va_freePm hp hD hS hA0
  refine va_calli (va_runV (As := [.int (xs (nI i + (1 : Int32)).toNatClampNeg), .int (xs (nI i + (2 : Int32)).toNatClampNeg)]) (rest := []) ⟨hx, hb, hml, hown, hts⟩ (c_X8_access l G cA (ad 9) (ad 10) (ad 11) (ad 12) (ad 13) (ad 14) (ad 15) (ad 16) H.size (xs (nI i + (1 : Int32)).toNatClampNeg) (xs (nI i + (2 : Int32)).toNatClampNeg) thr (nI c) rea rpo isS (nI l_) ra rwr n _ hop2 (Option.some_ne_none _)) (cwV 2 hts gL_law_X8_access rfl rfl rfl (by decide +kernel) ⟨Nat.le_of_ble_eq_true rfl, Nat.le_of_ble_eq_true rfl⟩) (preMV (q := (RX8, TX8, 15)) hPc hDc hK 0 rfl rfl) rfl rfl hl.1 rfl (lv_room (Nat.le_of_ble_eq_true rfl)) dL_law_1624 ⟨by show _ ≤ 603072; omega, by show _ ≤ 7190634; omega⟩) hS (fun q _ h => hFc q h) hFc (fun r u t H1 locs ht hvm hw hB hz1 hk1 hS1 => ?_)
  obtain ⟨rfl, rfl⟩ := Prod.mk.inj (Option.some.inj hw)
  replace hB : va_P G vwCl (k_X8_access cA (ad 9) (ad 10) (ad 11) (ad 12) (ad 13) (ad 14) (ad 15) (ad 16) k_ (nI c) rea rpo isS (nI l_) ra rwr n) t.heap := hB
  rw [ht] at hB
  have hj := va_backP hp hP hD hk1 hB rfl
  have hp2 := gq_0 (E := (E8 cA (ad 9) (ad 10) (ad 11) (ad 12) (ad 13) (ad 14) (ad 15) (ad 16) gA k_ (nI c) rea rpo isS (nI l_) ra rwr n sv as ch bu nu)) (Ec := (k_X8_access cA (ad 9) (ad 10) (ad 11) (ad 12) (ad 13) (ad 14) (ad 15) (ad 16) k_ (nI c) rea rpo isS (nI l_) ra rwr n)) (Er := Er2) (B := (gblk cA gA gW)) (R := ((E7 cA (ad 0) aw ab ak (ad 1) (ad 2) hA (ad 3) (ad 4) (ad 5) (ad 6) isK lre lpo (nI dn, nI P, ar, fi, la, nb, pa, ro, nI D, dp, dg, de, dd, nI E, ek, eo, es, ef, el, nI L, nI K, lc, lm, lp, lr) mo B K0 (nI c) (nI x) (nI l_) ta tc ti tw tn ++ [((ad 7), .inl (cA 4, 1, .inr (.inl g'))), ((ad 8), .inl (cA 5, 1, .inr (.inr (.inr (.inl gd)))))]) ++ hblk cA hA hW)) (pick (n := 8) [0, 1] [2, 3, 4, 5, 6, 7] rfl (by decide +kernel) rfl (by rw [hEr2]; rfl))
  replace hP : va_P G vwCl (((E7 cA (ad 0) aw ab ak (ad 1) (ad 2) hA (ad 3) (ad 4) (ad 5) (ad 6) isK lre lpo (nI dn, nI P, ar, fi, la, nb, pa, ro, nI D, dp, dg, de, dd, nI E, ek, eo, es, ef, el, nI L, nI K, lc, lm, lp, lr) mo B K0 (nI c) (nI x) (nI l_) ta tc ti tw tn ++ [((ad 7), .inl (cA 4, 1, .inr (.inl g'))), ((ad 8), .inl (cA 5, 1, .inr (.inr (.inr (.inl gd)))))]) ++ hblk cA hA hW) ++ ((E8 cA (ad 9) (ad 10) (ad 11) (ad 12) (ad 13) (ad 14) (ad 15) (ad 16) gA k_ (nI c) rea rpo isS (nI l_) ra rwr n sv as ch bu nu) ++ gblk cA gA gW)) H1 := hj.1.perm hp2.symm
  replace hD : va_D _ (((E7 cA (ad 0) aw ab ak (ad 1) (ad 2) hA (ad 3) (ad 4) (ad 5) (ad 6) isK lre lpo (nI dn, nI P, ar, fi, la, nb, pa, ro, nI D, dp, dg, de, dd, nI E, ek, eo, es, ef, el, nI L, nI K, lc, lm, lp, lr) mo B K0 (nI c) (nI x) (nI l_) ta tc ti tw tn ++ [((ad 7), .inl (cA 4, 1, .inr (.inl g'))), ((ad 8), .inl (cA 5, 1, .inr (.inr (.inr (.inl gd)))))]) ++ hblk cA hA hW) ++ ((E8 cA (ad 9) (ad 10) (ad 11) (ad 12) (ad 13) (ad 14) (ad 15) (ad 16) gA k_ (nI c) rea rpo isS (nI l_) ra rwr n sv as ch bu nu) ++ gblk cA gA gW)) := hj.2.perm hp2.symm
  have hS := hS1
  clear hj hp hp2 hPc hDc hFc hB hk1 hEr2 hw
  generalize H1 = H at hP hS ht hz1 ⊢
  refine lv_istore (lv' := [(7, .int b_), (6, .int k_), (5, .int (nI i)), (4, .ref (ad 8)), (3, .ref (ad 7)), (2, .ref (ad 9)), (1, .ref (ad 0)), (0, .ref b)]) hx hb dL_law_1627 hl (by decide) rfl (fun ls hl => ?_)
  refine lv_aload_n hx hb dL_law_1629 rfl (lv_at hl 5 rfl) ?_
  refine vp_callSi (va_Run.run (va_runV (As := []) (rest := []) ⟨hx, hb, hml, hown, hts⟩ (c_X8_thrown l G cA (ad 9) (ad 10) (ad 11) (ad 12) (ad 13) (ad 14) (ad 15) (ad 16) k_ (nI c) rea rpo isS (nI l_) ra rwr _ (rfl : m_X8_thrown k_ = some k_) (Option.some_ne_none _)) (cwV 0 hts gL_law_X8_thrown rfl rfl rfl (by decide +kernel) ⟨Nat.le_of_ble_eq_true rfl, Nat.le_of_ble_eq_true rfl⟩) (preRV (q := (RX8, TX8, 15)) (hP.right.left.sub [0] rfl) hK 0 rfl rfl) rfl rfl hl.1 rfl (lv_room (Nat.le_of_ble_eq_true rfl)) dL_law_1630 ⟨by show _ ≤ 603072; omega, by show _ ≤ 7190634; omega⟩)) (fun r hw => ?_)
  obtain rfl := Option.some.inj hw
  refine lv_iload hx hb dL_law_1633 (lv_at hl 1 rfl) ?_
  refine lv_icmp_eq (tgt := 1640) hx hb dL_law_1635 (by decide) (fun _ => ?_) (fun c_0 => absurd rfl c_0)
  refine lv_iload hx hb dL_law_1640 (lv_at hl 1 rfl) ?_
  refine lv_if_ne (tgt := 1657) hx hb dL_law_1642 (by decide) (fun c_3 => ?_) (fun c_3 => ?_)
  · refine lv_goto (tgt := 2652) hx hb dL_law_1657 (by decide) ?_
    exact next _ _ _ _ ⟨P, D, E, L, K, dn, c, x, l_, ar, fi, la, nb, pa, ro, dp, dg, de, dd, ek, eo, es, ef, el, lc, lm, lp, lr, n, hW, gW, B, K0, isK, isS, lre, rea, lpo, rpo, ta, tc, k_, ra, rwr, mo, ti, tw, tn, sv, as, ch, bu, nu, g', gd, rfl, hWC, hHR, hRR, hPO, hSR, hTR⟩ hP hD hS (lv_sub hl [2, 3, 4, 5, 6, 7] rfl)
  · have hpost0 := hpost c_3
    refine lv_aload_n hx hb dL_law_1645 rfl (lv_at hl 4 rfl) ?_
    refine lv_iconst (v := (0 : Int32)) hx hb dL_law_1646 (by decide) ?_
    refine va_lald hx hb hK.1 hP 80 4 rfl rfl (ixi (i := (0 : Int32)) (n := 1) (by decide)) dL_law_1647 ?_
    refine lv_iload hx hb dL_law_1648 (lv_at hl 0 rfl) ?_
    refine lv_i2l hx hb dL_law_1650 rfl ?_
    refine W.lcmp hx hb dL_law_1651 ?_
    refine lv_if_eq (tgt := 1657) hx hb dL_law_1652 (by decide) (fun _ => ?_) (fun c_0 => absurd (by rw [show g' (0 : Int32).toNatClampNeg = b_.toInt64 from hpost0]; exact cmp_self _) c_0)
    refine lv_goto (tgt := 2652) hx hb dL_law_1657 (by decide) ?_
    exact next _ _ _ _ ⟨P, D, E, L, K, dn, c, x, l_, ar, fi, la, nb, pa, ro, dp, dg, de, dd, ek, eo, es, ef, el, lc, lm, lp, lr, n, hW, gW, B, K0, isK, isS, lre, rea, lpo, rpo, ta, tc, k_, ra, rwr, mo, ti, tw, tn, sv, as, ch, bu, nu, g', gd, rfl, hWC, hHR, hRR, hPO, hSR, hTR⟩ hP hD hS (lv_sub hl [2, 3, 4, 5, 6, 7] rfl)

set_option maxHeartbeats 16000000 in
set_option maxRecDepth 100000 in
/-- addLien -/
theorem law_addLien {p : Program} {l : Launch} {e : Env} {s : State} {m : MethodId} {below : List Frame} {meth : Method} {cd : Code} {b Ls : Nat} {xs : Nat → Int32} {z : Nat → Nat} {G : va_G} {cA : Nat → ClassId} {ad aw ab ak : Nat → Nat} {hA : Nat → Nat → Nat} {gA : Nat → Nat} (C0 : LC p l s m cd b Ls xs z G cA) {i nn kk : Nat} (hi : i + 4 < Ls) (hL : Ls ≤ 2560) (hn : nn + 1 ≤ 603072) (hk : kk + 6 ≤ 7190634) (next : LNext p l e s m below meth cd b G cA ad aw ab ak hA gA i (nn + 1) (kk + 6)) {ws : va_W} {H : Heap} {locs : List Loc} {ls : Array Slot} (hI : LSt cA ad aw ab ak hA gA ws) (hP : va_P G vwCl ws H) (hD : va_D (fun q : Nat => s.heap.size ≤ q) ws) (hS : va_S (fun q : Nat => s.heap.size ≤ q) s.heap H locs) (hl : lv_has ls 9 [(5, .int (nI i)), (4, .ref (ad 8)), (3, .ref (ad 7)), (2, .ref (ad 9)), (1, .ref (ad 0)), (0, .ref b)]) : W p l e room_1 s m #[Value.ref b] below meth cd H locs nn kk (lw_Z below #[Value.ref b] s) (F0 m 1660 ls []) := by
  obtain ⟨hx, hb, hml, hown, hts, hX, hbl, hK, hT, hO, hfl⟩ := C0
  have hbA : ¬ (fun q : Nat => s.heap.size ≤ q) b := Nat.not_le.mpr hbl
  have hA0 : ∀ q : Nat, s.heap.size ≤ q → (fun q : Nat => s.heap.size ≤ q) q := fun _ h => h
  have h_in1 : vp_in (nI i + (1 : Int32)) Ls := by rw [show nI i + (1 : Int32) = nI (i + 1) from nI_add i 1]; exact vp_in_nI (by omega) (by omega)
  have h_in2 : vp_in (nI i + (2 : Int32)) Ls := by rw [show nI i + (2 : Int32) = nI (i + 2) from nI_add i 2]; exact vp_in_nI (by omega) (by omega)
  have h_in3 : vp_in (nI i + (3 : Int32)) Ls := by rw [show nI i + (3 : Int32) = nI (i + 3) from nI_add i 3]; exact vp_in_nI (by omega) (by omega)
  have h_in4 : vp_in (nI i + (4 : Int32)) Ls := by rw [show nI i + (4 : Int32) = nI (i + 4) from nI_add i 4]; exact vp_in_nI (by omega) (by omega)
  obtain ⟨P, D, E, L, K, dn, c, x, l_, ar, fi, la, nb, pa, ro, dp, dg, de, dd, ek, eo, es, ef, el, lc, lm, lp, lr, n, hW, gW, B, K0, isK, isS, lre, rea, lpo, rpo, ta, tc, thr, ra, rwr, mo, ti, tw, tn, sv, as, ch, bu, nu, g, gd, rfl, hWC, hHR, hRR, hPO, hSR, hTR⟩ := hI
  refine lv_aload_n hx hb dL_law_1660 rfl (lv_at hl 4 rfl) ?_
  refine lv_aload_n hx hb dL_law_1661 rfl (lv_at hl 5 rfl) ?_
  refine lv_iload hx hb dL_law_1662 (lv_at hl 0 rfl) ?_
  refine lv_iconst (v := (1 : Int32)) hx hb dL_law_1664 (by decide) ?_
  refine lv_iadd hx hb dL_law_1665 ?_
  refine va_sld hx hb hX hbl hbA hS h_in1 dL_law_1666 ?_
  refine lv_aload_n hx hb dL_law_1667 rfl (lv_at hl 5 rfl) ?_
  refine lv_iload hx hb dL_law_1668 (lv_at hl 0 rfl) ?_
  refine lv_iconst (v := (2 : Int32)) hx hb dL_law_1670 (by decide) ?_
  refine lv_iadd hx hb dL_law_1671 ?_
  refine va_sld hx hb hX hbl hbA hS h_in2 dL_law_1672 ?_
  refine lv_aload_n hx hb dL_law_1673 rfl (lv_at hl 5 rfl) ?_
  refine lv_iload hx hb dL_law_1674 (lv_at hl 0 rfl) ?_
  refine lv_iconst (v := (3 : Int32)) hx hb dL_law_1676 (by decide) ?_
  refine lv_iadd hx hb dL_law_1677 ?_
  refine va_sld hx hb hX hbl hbA hS h_in3 dL_law_1678 ?_
  refine lv_aload_n hx hb dL_law_1679 rfl (lv_at hl 2 rfl) ?_
  obtain ⟨k_, b_, g', L', K', c', x', lc', lm', lp', lr', hW', n', gW', hop1, hop2, hpost, hWC2, hHR2⟩ := op_addLien hWC hHR (xs (nI i + (1 : Int32)).toNatClampNeg) (xs (nI i + (2 : Int32)).toNatClampNeg) (xs (nI i + (3 : Int32)).toNatClampNeg) g
  obtain ⟨Er1, hEr1⟩ : ∃ z, z = pk (E7 cA (ad 0) aw ab ak (ad 1) (ad 2) hA (ad 3) (ad 4) (ad 5) (ad 6) isK lre lpo (nI dn, nI P, ar, fi, la, nb, pa, ro, nI D, dp, dg, de, dd, nI E, ek, eo, es, ef, el, nI L, nI K, lc, lm, lp, lr) mo B K0 (nI c) (nI x) (nI l_) ta tc ti tw tn ++ [((ad 7), .inl (cA 4, 1, .inr (.inl g))), ((ad 8), .inl (cA 5, 1, .inr (.inr (.inr (.inl gd)))))]) [25, 26, 27, 28, 29, 30, 31, 32, 33, 34, 35, 36, 37, 38, 39, 40, 41, 42, 43, 44, 45, 46, 47, 48, 49, 50, 51, 52, 53, 54, 55, 56, 57, 58, 59, 60, 61, 62, 63, 64, 65, 66, 67, 68, 69, 70, 71, 72, 73, 76, 77, 78, 79, 81] := ⟨_, rfl⟩
  have hp := gl_B (E := (E7 cA (ad 0) aw ab ak (ad 1) (ad 2) hA (ad 3) (ad 4) (ad 5) (ad 6) isK lre lpo (nI dn, nI P, ar, fi, la, nb, pa, ro, nI D, dp, dg, de, dd, nI E, ek, eo, es, ef, el, nI L, nI K, lc, lm, lp, lr) mo B K0 (nI c) (nI x) (nI l_) ta tc ti tw tn ++ [((ad 7), .inl (cA 4, 1, .inr (.inl g))), ((ad 8), .inl (cA 5, 1, .inr (.inr (.inr (.inl gd)))))])) (Ec := (e_L_addLien cA (ad 0) (aw 0) (ab 0) (ak 0) (ad 1) (ad 3) (aw 1) (aw 8) (aw 14) (aw 20) (aw 2) (aw 3) (aw 4) (aw 5) (aw 6) (aw 7) (aw 9) (aw 10) (aw 11) (aw 12) (aw 13) (aw 15) (aw 16) (aw 17) (aw 18) (aw 19) (aw 21) (aw 22) (aw 23) (aw 24) (ad 2) (ad 7) isK lre lpo (nI dn) (nI P) ar fi la nb pa ro (nI D) dp dg de dd (nI E) ek eo es ef el (nI L) (nI K) lc lm lp lr (nI c) (nI x) g hA)) (Er := Er1) (B := (hblk cA hA hW)) (R := ((E8 cA (ad 9) (ad 10) (ad 11) (ad 12) (ad 13) (ad 14) (ad 15) (ad 16) gA thr (nI c) rea rpo isS (nI l_) ra rwr n sv as ch bu nu) ++ gblk cA gA gW)) (pick (n := 82) [0, 1, 2, 3, 4, 5, 6, 7, 8, 9, 10, 11, 12, 13, 14, 15, 16, 17, 18, 19, 20, 21, 22, 23, 24, 74, 75, 80] [25, 26, 27, 28, 29, 30, 31, 32, 33, 34, 35, 36, 37, 38, 39, 40, 41, 42, 43, 44, 45, 46, 47, 48, 49, 50, 51, 52, 53, 54, 55, 56, 57, 58, 59, 60, 61, 62, 63, 64, 65, 66, 67, 68, 69, 70, 71, 72, 73, 76, 77, 78, 79, 81] rfl (by decide +kernel) rfl hEr1.symm)
  have hPc : va_P G vwCl (k_L_addLien cA (ad 0) (aw 0) (ab 0) (ak 0) (ad 1) (ad 3) (aw 1) (aw 8) (aw 14) (aw 20) (aw 2) (aw 3) (aw 4) (aw 5) (aw 6) (aw 7) (aw 9) (aw 10) (aw 11) (aw 12) (aw 13) (aw 15) (aw 16) (aw 17) (aw 18) (aw 19) (aw 21) (aw 22) (aw 23) (aw 24) (ad 2) (ad 7) isK lre lpo (nI dn) (nI P) ar fi la nb pa ro (nI D) dp dg de dd (nI E) ek eo es ef el (nI L) (nI K) lc lm lp lr (nI c) (nI x) g hA hW) H := (hP.perm hp).left
  have hDc : va_D _ (k_L_addLien cA (ad 0) (aw 0) (ab 0) (ak 0) (ad 1) (ad 3) (aw 1) (aw 8) (aw 14) (aw 20) (aw 2) (aw 3) (aw 4) (aw 5) (aw 6) (aw 7) (aw 9) (aw 10) (aw 11) (aw 12) (aw 13) (aw 15) (aw 16) (aw 17) (aw 18) (aw 19) (aw 21) (aw 22) (aw 23) (aw 24) (ad 2) (ad 7) isK lre lpo (nI dn) (nI P) ar fi la nb pa ro (nI D) dp dg de dd (nI E) ek eo es ef el (nI L) (nI K) lc lm lp lr (nI c) (nI x) g hA hW) := (hD.perm hp).left
  have hFc := va_freePm hp hD hS hA0
  refine va_calli (vx_runSW (As := [.ref (ad 0), .int (xs (nI i + (1 : Int32)).toNatClampNeg), .int (xs (nI i + (2 : Int32)).toNatClampNeg), .int (xs (nI i + (3 : Int32)).toNatClampNeg), .ref (ad 7)]) (rest := []) ⟨hx, hb, hml, hown, hts⟩ (c_L_addLien l hfl z G cA (ad 0) (aw 0) (ab 0) (ak 0) (ad 1) (ad 3) (aw 1) (aw 8) (aw 14) (aw 20) (aw 2) (aw 3) (aw 4) (aw 5) (aw 6) (aw 7) (aw 9) (aw 10) (aw 11) (aw 12) (aw 13) (aw 15) (aw 16) (aw 17) (aw 18) (aw 19) (aw 21) (aw 22) (aw 23) (aw 24) (ad 2) (ad 7) H.size (xs (nI i + (1 : Int32)).toNatClampNeg) (xs (nI i + (2 : Int32)).toNatClampNeg) (xs (nI i + (3 : Int32)).toNatClampNeg) isK lre lpo (nI dn) (nI P) ar fi la nb pa ro (nI D) dp dg de dd (nI E) ek eo es ef el (nI L) (nI K) lc lm lp lr (nI c) (nI x) g hA hW _ hop1 (Option.some_ne_none _)) (vx_cwSW 5 hts gL_law_L_addLien rfl rfl rfl (by decide +kernel) ⟨Nat.le_of_ble_eq_true rfl, Nat.le_of_ble_eq_true rfl⟩) (preMSo hPc hDc hK hT hO hS hFc) rfl rfl hl.1 rfl (lv_room (Nat.le_of_ble_eq_true rfl)) dL_law_1680 ⟨hn, hk⟩) hS (fun q _ h => hFc q h) hFc (fun r u t H1 locs ht hvm hw hB hz1 hk1 hS1 => ?_)
  obtain ⟨rfl, rfl⟩ := Prod.mk.inj (Option.some.inj hw)
  replace hB : va_P G vwCl (k_L_addLien cA (ad 0) (aw 0) (ab 0) (ak 0) (ad 1) (ad 3) (aw 1) (aw 8) (aw 14) (aw 20) (aw 2) (aw 3) (aw 4) (aw 5) (aw 6) (aw 7) (aw 9) (aw 10) (aw 11) (aw 12) (aw 13) (aw 15) (aw 16) (aw 17) (aw 18) (aw 19) (aw 21) (aw 22) (aw 23) (aw 24) (ad 2) (ad 7) isK lre lpo (nI dn) (nI P) ar fi la nb pa ro (nI D) dp dg de dd (nI E) ek eo es ef el (nI L') (nI K') lc' lm' lp' lr' (nI c') (nI x') g' hA hW') t.heap := hB
  rw [ht] at hB
  have hj := va_backP hp hP hD hk1 hB (ad_app rfl hblk_addr)
  have hp2 := gl_B (E := (E7 cA (ad 0) aw ab ak (ad 1) (ad 2) hA (ad 3) (ad 4) (ad 5) (ad 6) isK lre lpo (nI dn, nI P, ar, fi, la, nb, pa, ro, nI D, dp, dg, de, dd, nI E, ek, eo, es, ef, el, nI L', nI K', lc', lm', lp', lr') mo B K0 (nI c') (nI x') (nI l_) ta tc ti tw tn ++ [((ad 7), .inl (cA 4, 1, .inr (.inl g'))), ((ad 8), .inl (cA 5, 1, .inr (.inr (.inr (.inl gd)))))])) (Ec := (e_L_addLien cA (ad 0) (aw 0) (ab 0) (ak 0) (ad 1) (ad 3) (aw 1) (aw 8) (aw 14) (aw 20) (aw 2) (aw 3) (aw 4) (aw 5) (aw 6) (aw 7) (aw 9) (aw 10) (aw 11) (aw 12) (aw 13) (aw 15) (aw 16) (aw 17) (aw 18) (aw 19) (aw 21) (aw 22) (aw 23) (aw 24) (ad 2) (ad 7) isK lre lpo (nI dn) (nI P) ar fi la nb pa ro (nI D) dp dg de dd (nI E) ek eo es ef el (nI L') (nI K') lc' lm' lp' lr' (nI c') (nI x') g' hA)) (Er := Er1) (B := (hblk cA hA hW')) (R := ((E8 cA (ad 9) (ad 10) (ad 11) (ad 12) (ad 13) (ad 14) (ad 15) (ad 16) gA thr (nI c) rea rpo isS (nI l_) ra rwr n sv as ch bu nu) ++ gblk cA gA gW)) (pick (n := 82) [0, 1, 2, 3, 4, 5, 6, 7, 8, 9, 10, 11, 12, 13, 14, 15, 16, 17, 18, 19, 20, 21, 22, 23, 24, 74, 75, 80] [25, 26, 27, 28, 29, 30, 31, 32, 33, 34, 35, 36, 37, 38, 39, 40, 41, 42, 43, 44, 45, 46, 47, 48, 49, 50, 51, 52, 53, 54, 55, 56, 57, 58, 59, 60, 61, 62, 63, 64, 65, 66, 67, 68, 69, 70, 71, 72, 73, 76, 77, 78, 79, 81] rfl (by decide +kernel) rfl (by rw [hEr1]; rfl))
  replace hP : va_P G vwCl (((E7 cA (ad 0) aw ab ak (ad 1) (ad 2) hA (ad 3) (ad 4) (ad 5) (ad 6) isK lre lpo (nI dn, nI P, ar, fi, la, nb, pa, ro, nI D, dp, dg, de, dd, nI E, ek, eo, es, ef, el, nI L', nI K', lc', lm', lp', lr') mo B K0 (nI c') (nI x') (nI l_) ta tc ti tw tn ++ [((ad 7), .inl (cA 4, 1, .inr (.inl g'))), ((ad 8), .inl (cA 5, 1, .inr (.inr (.inr (.inl gd)))))]) ++ hblk cA hA hW') ++ ((E8 cA (ad 9) (ad 10) (ad 11) (ad 12) (ad 13) (ad 14) (ad 15) (ad 16) gA thr (nI c) rea rpo isS (nI l_) ra rwr n sv as ch bu nu) ++ gblk cA gA gW)) H1 := hj.1.perm hp2.symm
  replace hD : va_D _ (((E7 cA (ad 0) aw ab ak (ad 1) (ad 2) hA (ad 3) (ad 4) (ad 5) (ad 6) isK lre lpo (nI dn, nI P, ar, fi, la, nb, pa, ro, nI D, dp, dg, de, dd, nI E, ek, eo, es, ef, el, nI L', nI K', lc', lm', lp', lr') mo B K0 (nI c') (nI x') (nI l_) ta tc ti tw tn ++ [((ad 7), .inl (cA 4, 1, .inr (.inl g'))), ((ad 8), .inl (cA 5, 1, .inr (.inr (.inr (.inl gd)))))]) ++ hblk cA hA hW') ++ ((E8 cA (ad 9) (ad 10) (ad 11) (ad 12) (ad 13) (ad 14) (ad 15) (ad 16) gA thr (nI c) rea rpo isS (nI l_) ra rwr n sv as ch bu nu) ++ gblk cA gA gW)) := hj.2.perm hp2.symm
  have hS := hS1
  clear hj hp hp2 hPc hDc hFc hB hk1 hEr1 hw
  generalize H1 = H at hP hS ht hz1 ⊢
  refine lv_istore (lv' := [(6, .int k_), (5, .int (nI i)), (4, .ref (ad 8)), (3, .ref (ad 7)), (2, .ref (ad 9)), (1, .ref (ad 0)), (0, .ref b)]) hx hb dL_law_1683 hl (by decide) rfl (fun ls hl => ?_)
  refine lv_aload_n hx hb dL_law_1685 rfl (lv_at hl 4 rfl) ?_
  refine lv_aload_n hx hb dL_law_1686 rfl (lv_at hl 6 rfl) ?_
  refine lv_iload hx hb dL_law_1687 (lv_at hl 1 rfl) ?_
  refine lv_iconst (v := (1 : Int32)) hx hb dL_law_1689 (by decide) ?_
  refine lv_iadd hx hb dL_law_1690 ?_
  refine va_sld hx hb hX hbl hbA hS h_in1 dL_law_1691 ?_
  refine lv_aload_n hx hb dL_law_1692 rfl (lv_at hl 6 rfl) ?_
  refine lv_iload hx hb dL_law_1693 (lv_at hl 1 rfl) ?_
  refine lv_iconst (v := (2 : Int32)) hx hb dL_law_1695 (by decide) ?_
  refine lv_iadd hx hb dL_law_1696 ?_
  refine va_sld hx hb hX hbl hbA hS h_in2 dL_law_1697 ?_
  refine lv_aload_n hx hb dL_law_1698 rfl (lv_at hl 6 rfl) ?_
  refine lv_iload hx hb dL_law_1699 (lv_at hl 1 rfl) ?_
  refine lv_iconst (v := (3 : Int32)) hx hb dL_law_1701 (by decide) ?_
  refine lv_iadd hx hb dL_law_1702 ?_
  refine va_sld hx hb hX hbl hbA hS h_in3 dL_law_1703 ?_
  obtain ⟨Er2, hEr2⟩ : ∃ z, z = pk (E8 cA (ad 9) (ad 10) (ad 11) (ad 12) (ad 13) (ad 14) (ad 15) (ad 16) gA thr (nI c) rea rpo isS (nI l_) ra rwr n sv as ch bu nu) [2, 3, 5, 6, 7] := ⟨_, rfl⟩
  have hp := gq_B (E := (E8 cA (ad 9) (ad 10) (ad 11) (ad 12) (ad 13) (ad 14) (ad 15) (ad 16) gA thr (nI c) rea rpo isS (nI l_) ra rwr n sv as ch bu nu)) (Ec := (e_X8_addLien cA (ad 9) (ad 10) (ad 11) (ad 12) (ad 13) (ad 14) (ad 15) (ad 16) thr (nI c) rea rpo isS (nI l_) ra rwr n gA)) (Er := Er2) (B := (gblk cA gA gW)) (R := ((E7 cA (ad 0) aw ab ak (ad 1) (ad 2) hA (ad 3) (ad 4) (ad 5) (ad 6) isK lre lpo (nI dn, nI P, ar, fi, la, nb, pa, ro, nI D, dp, dg, de, dd, nI E, ek, eo, es, ef, el, nI L', nI K', lc', lm', lp', lr') mo B K0 (nI c') (nI x') (nI l_) ta tc ti tw tn ++ [((ad 7), .inl (cA 4, 1, .inr (.inl g'))), ((ad 8), .inl (cA 5, 1, .inr (.inr (.inr (.inl gd)))))]) ++ hblk cA hA hW')) (pick (n := 8) [0, 1, 4] [2, 3, 5, 6, 7] rfl (by decide +kernel) rfl hEr2.symm)
  have hPc : va_P G vwCl (k_X8_addLien cA (ad 9) (ad 10) (ad 11) (ad 12) (ad 13) (ad 14) (ad 15) (ad 16) thr (nI c) rea rpo isS (nI l_) ra rwr n gA gW) H := (hP.perm hp).left
  have hDc : va_D _ (k_X8_addLien cA (ad 9) (ad 10) (ad 11) (ad 12) (ad 13) (ad 14) (ad 15) (ad 16) thr (nI c) rea rpo isS (nI l_) ra rwr n gA gW) := (hD.perm hp).left
  have hFc := va_freePm hp hD hS hA0
  refine va_calli (va_runV (As := [.int (xs (nI i + (1 : Int32)).toNatClampNeg), .int (xs (nI i + (2 : Int32)).toNatClampNeg), .int (xs (nI i + (3 : Int32)).toNatClampNeg)]) (rest := []) ⟨hx, hb, hml, hown, hts⟩ (c_X8_addLien l G cA (ad 9) (ad 10) (ad 11) (ad 12) (ad 13) (ad 14) (ad 15) (ad 16) H.size (xs (nI i + (1 : Int32)).toNatClampNeg) (xs (nI i + (2 : Int32)).toNatClampNeg) (xs (nI i + (3 : Int32)).toNatClampNeg) thr (nI c) rea rpo isS (nI l_) ra rwr n gA gW _ hop2 (Option.some_ne_none _)) (cwV 3 hts gL_law_X8_addLien rfl rfl rfl (by decide +kernel) ⟨Nat.le_of_ble_eq_true rfl, Nat.le_of_ble_eq_true rfl⟩) (preMV (q := (RX8, TX8, 15)) hPc hDc hK 0 rfl rfl) rfl rfl hl.1 rfl (lv_room (Nat.le_of_ble_eq_true rfl)) dL_law_1704 ⟨by show _ ≤ 603072; omega, by show _ ≤ 7190634; omega⟩) hS (fun q _ h => hFc q h) hFc (fun r u t H1 locs ht hvm hw hB hz1 hk1 hS1 => ?_)
  obtain ⟨rfl, rfl⟩ := Prod.mk.inj (Option.some.inj hw)
  replace hB : va_P G vwCl (k_X8_addLien cA (ad 9) (ad 10) (ad 11) (ad 12) (ad 13) (ad 14) (ad 15) (ad 16) k_ (nI c') rea rpo isS (nI l_) ra rwr n' gA gW') t.heap := hB
  rw [ht] at hB
  have hj := va_backP hp hP hD hk1 hB (ad_app rfl gblk_addr)
  have hp2 := gq_B (E := (E8 cA (ad 9) (ad 10) (ad 11) (ad 12) (ad 13) (ad 14) (ad 15) (ad 16) gA k_ (nI c') rea rpo isS (nI l_) ra rwr n' sv as ch bu nu)) (Ec := (e_X8_addLien cA (ad 9) (ad 10) (ad 11) (ad 12) (ad 13) (ad 14) (ad 15) (ad 16) k_ (nI c') rea rpo isS (nI l_) ra rwr n' gA)) (Er := Er2) (B := (gblk cA gA gW')) (R := ((E7 cA (ad 0) aw ab ak (ad 1) (ad 2) hA (ad 3) (ad 4) (ad 5) (ad 6) isK lre lpo (nI dn, nI P, ar, fi, la, nb, pa, ro, nI D, dp, dg, de, dd, nI E, ek, eo, es, ef, el, nI L', nI K', lc', lm', lp', lr') mo B K0 (nI c') (nI x') (nI l_) ta tc ti tw tn ++ [((ad 7), .inl (cA 4, 1, .inr (.inl g'))), ((ad 8), .inl (cA 5, 1, .inr (.inr (.inr (.inl gd)))))]) ++ hblk cA hA hW')) (pick (n := 8) [0, 1, 4] [2, 3, 5, 6, 7] rfl (by decide +kernel) rfl (by rw [hEr2]; rfl))
  replace hP : va_P G vwCl (((E7 cA (ad 0) aw ab ak (ad 1) (ad 2) hA (ad 3) (ad 4) (ad 5) (ad 6) isK lre lpo (nI dn, nI P, ar, fi, la, nb, pa, ro, nI D, dp, dg, de, dd, nI E, ek, eo, es, ef, el, nI L', nI K', lc', lm', lp', lr') mo B K0 (nI c') (nI x') (nI l_) ta tc ti tw tn ++ [((ad 7), .inl (cA 4, 1, .inr (.inl g'))), ((ad 8), .inl (cA 5, 1, .inr (.inr (.inr (.inl gd)))))]) ++ hblk cA hA hW') ++ ((E8 cA (ad 9) (ad 10) (ad 11) (ad 12) (ad 13) (ad 14) (ad 15) (ad 16) gA k_ (nI c') rea rpo isS (nI l_) ra rwr n' sv as ch bu nu) ++ gblk cA gA gW')) H1 := hj.1.perm hp2.symm
  replace hD : va_D _ (((E7 cA (ad 0) aw ab ak (ad 1) (ad 2) hA (ad 3) (ad 4) (ad 5) (ad 6) isK lre lpo (nI dn, nI P, ar, fi, la, nb, pa, ro, nI D, dp, dg, de, dd, nI E, ek, eo, es, ef, el, nI L', nI K', lc', lm', lp', lr') mo B K0 (nI c') (nI x') (nI l_) ta tc ti tw tn ++ [((ad 7), .inl (cA 4, 1, .inr (.inl g'))), ((ad 8), .inl (cA 5, 1, .inr (.inr (.inr (.inl gd)))))]) ++ hblk cA hA hW') ++ ((E8 cA (ad 9) (ad 10) (ad 11) (ad 12) (ad 13) (ad 14) (ad 15) (ad 16) gA k_ (nI c') rea rpo isS (nI l_) ra rwr n' sv as ch bu nu) ++ gblk cA gA gW')) := hj.2.perm hp2.symm
  have hS := hS1
  clear hj hp hp2 hPc hDc hFc hB hk1 hEr2 hw
  generalize H1 = H at hP hS ht hz1 ⊢
  refine lv_istore (lv' := [(7, .int b_), (6, .int k_), (5, .int (nI i)), (4, .ref (ad 8)), (3, .ref (ad 7)), (2, .ref (ad 9)), (1, .ref (ad 0)), (0, .ref b)]) hx hb dL_law_1707 hl (by decide) rfl (fun ls hl => ?_)
  refine lv_aload_n hx hb dL_law_1709 rfl (lv_at hl 5 rfl) ?_
  refine vp_callSi (va_Run.run (va_runV (As := []) (rest := []) ⟨hx, hb, hml, hown, hts⟩ (c_X8_thrown l G cA (ad 9) (ad 10) (ad 11) (ad 12) (ad 13) (ad 14) (ad 15) (ad 16) k_ (nI c') rea rpo isS (nI l_) ra rwr _ (rfl : m_X8_thrown k_ = some k_) (Option.some_ne_none _)) (cwV 0 hts gL_law_X8_thrown rfl rfl rfl (by decide +kernel) ⟨Nat.le_of_ble_eq_true rfl, Nat.le_of_ble_eq_true rfl⟩) (preRV (q := (RX8, TX8, 15)) (hP.right.left.sub [0] rfl) hK 0 rfl rfl) rfl rfl hl.1 rfl (lv_room (Nat.le_of_ble_eq_true rfl)) dL_law_1710 ⟨by show _ ≤ 603072; omega, by show _ ≤ 7190634; omega⟩)) (fun r hw => ?_)
  obtain rfl := Option.some.inj hw
  refine lv_iload hx hb dL_law_1713 (lv_at hl 1 rfl) ?_
  refine lv_icmp_eq (tgt := 1720) hx hb dL_law_1715 (by decide) (fun _ => ?_) (fun c_0 => absurd rfl c_0)
  refine lv_iload hx hb dL_law_1720 (lv_at hl 1 rfl) ?_
  refine lv_if_ne (tgt := 1737) hx hb dL_law_1722 (by decide) (fun c_3 => ?_) (fun c_3 => ?_)
  · refine lv_goto (tgt := 2652) hx hb dL_law_1737 (by decide) ?_
    exact next _ _ _ _ ⟨P, D, E, L', K', dn, c', x', l_, ar, fi, la, nb, pa, ro, dp, dg, de, dd, ek, eo, es, ef, el, lc', lm', lp', lr', n', hW', gW', B, K0, isK, isS, lre, rea, lpo, rpo, ta, tc, k_, ra, rwr, mo, ti, tw, tn, sv, as, ch, bu, nu, g', gd, rfl, hWC2, hHR2, hRR, hPO, hSR, hTR⟩ hP hD hS (lv_sub hl [2, 3, 4, 5, 6, 7] rfl)
  · have hpost0 := hpost c_3
    refine lv_aload_n hx hb dL_law_1725 rfl (lv_at hl 4 rfl) ?_
    refine lv_iconst (v := (0 : Int32)) hx hb dL_law_1726 (by decide) ?_
    refine va_lald hx hb hK.1 hP 80 4 rfl rfl (ixi (i := (0 : Int32)) (n := 1) (by decide)) dL_law_1727 ?_
    refine lv_iload hx hb dL_law_1728 (lv_at hl 0 rfl) ?_
    refine lv_i2l hx hb dL_law_1730 rfl ?_
    refine W.lcmp hx hb dL_law_1731 ?_
    refine lv_if_eq (tgt := 1737) hx hb dL_law_1732 (by decide) (fun _ => ?_) (fun c_0 => absurd (by rw [show g' (0 : Int32).toNatClampNeg = b_.toInt64 from hpost0]; exact cmp_self _) c_0)
    refine lv_goto (tgt := 2652) hx hb dL_law_1737 (by decide) ?_
    exact next _ _ _ _ ⟨P, D, E, L', K', dn, c', x', l_, ar, fi, la, nb, pa, ro, dp, dg, de, dd, ek, eo, es, ef, el, lc', lm', lp', lr', n', hW', gW', B, K0, isK, isS, lre, rea, lpo, rpo, ta, tc, k_, ra, rwr, mo, ti, tw, tn, sv, as, ch, bu, nu, g', gd, rfl, hWC2, hHR2, hRR, hPO, hSR, hTR⟩ hP hD hS (lv_sub hl [2, 3, 4, 5, 6, 7] rfl)

set_option maxHeartbeats 16000000 in
set_option maxRecDepth 100000 in
/-- release -/
theorem law_release {p : Program} {l : Launch} {e : Env} {s : State} {m : MethodId} {below : List Frame} {meth : Method} {cd : Code} {b Ls : Nat} {xs : Nat → Int32} {z : Nat → Nat} {G : va_G} {cA : Nat → ClassId} {ad aw ab ak : Nat → Nat} {hA : Nat → Nat → Nat} {gA : Nat → Nat} (C0 : LC p l s m cd b Ls xs z G cA) {i nn kk : Nat} (hi : i + 4 < Ls) (hL : Ls ≤ 2560) (hn : nn + 1 ≤ 603072) (hk : kk + 6 ≤ 7190634) (next : LNext p l e s m below meth cd b G cA ad aw ab ak hA gA i (nn + 1) (kk + 6)) {ws : va_W} {H : Heap} {locs : List Loc} {ls : Array Slot} (hI : LSt cA ad aw ab ak hA gA ws) (hP : va_P G vwCl ws H) (hD : va_D (fun q : Nat => s.heap.size ≤ q) ws) (hS : va_S (fun q : Nat => s.heap.size ≤ q) s.heap H locs) (hl : lv_has ls 9 [(5, .int (nI i)), (4, .ref (ad 8)), (3, .ref (ad 7)), (2, .ref (ad 9)), (1, .ref (ad 0)), (0, .ref b)]) : W p l e room_1 s m #[Value.ref b] below meth cd H locs nn kk (lw_Z below #[Value.ref b] s) (F0 m 1740 ls []) := by
  obtain ⟨hx, hb, hml, hown, hts, hX, hbl, hK, hT, hO, hfl⟩ := C0
  have hbA : ¬ (fun q : Nat => s.heap.size ≤ q) b := Nat.not_le.mpr hbl
  have hA0 : ∀ q : Nat, s.heap.size ≤ q → (fun q : Nat => s.heap.size ≤ q) q := fun _ h => h
  have h_in1 : vp_in (nI i + (1 : Int32)) Ls := by rw [show nI i + (1 : Int32) = nI (i + 1) from nI_add i 1]; exact vp_in_nI (by omega) (by omega)
  have h_in2 : vp_in (nI i + (2 : Int32)) Ls := by rw [show nI i + (2 : Int32) = nI (i + 2) from nI_add i 2]; exact vp_in_nI (by omega) (by omega)
  have h_in3 : vp_in (nI i + (3 : Int32)) Ls := by rw [show nI i + (3 : Int32) = nI (i + 3) from nI_add i 3]; exact vp_in_nI (by omega) (by omega)
  have h_in4 : vp_in (nI i + (4 : Int32)) Ls := by rw [show nI i + (4 : Int32) = nI (i + 4) from nI_add i 4]; exact vp_in_nI (by omega) (by omega)
  obtain ⟨P, D, E, L, K, dn, c, x, l_, ar, fi, la, nb, pa, ro, dp, dg, de, dd, ek, eo, es, ef, el, lc, lm, lp, lr, n, hW, gW, B, K0, isK, isS, lre, rea, lpo, rpo, ta, tc, thr, ra, rwr, mo, ti, tw, tn, sv, as, ch, bu, nu, g, gd, rfl, hWC, hHR, hRR, hPO, hSR, hTR⟩ := hI
  refine lv_aload_n hx hb dL_law_1740 rfl (lv_at hl 4 rfl) ?_
  refine lv_aload_n hx hb dL_law_1741 rfl (lv_at hl 5 rfl) ?_
  refine lv_iload hx hb dL_law_1742 (lv_at hl 0 rfl) ?_
  refine lv_iconst (v := (1 : Int32)) hx hb dL_law_1744 (by decide) ?_
  refine lv_iadd hx hb dL_law_1745 ?_
  refine va_sld hx hb hX hbl hbA hS h_in1 dL_law_1746 ?_
  refine lv_aload_n hx hb dL_law_1747 rfl (lv_at hl 2 rfl) ?_
  obtain ⟨k_, b_, g', K', c', x', lr', hW', n', gW', hop1, hop2, hpost, hWC2, hHR2⟩ := op_release hWC hHR (xs (nI i + (1 : Int32)).toNatClampNeg) g
  obtain ⟨Er1, hEr1⟩ : ∃ z, z = pk (E7 cA (ad 0) aw ab ak (ad 1) (ad 2) hA (ad 3) (ad 4) (ad 5) (ad 6) isK lre lpo (nI dn, nI P, ar, fi, la, nb, pa, ro, nI D, dp, dg, de, dd, nI E, ek, eo, es, ef, el, nI L, nI K, lc, lm, lp, lr) mo B K0 (nI c) (nI x) (nI l_) ta tc ti tw tn ++ [((ad 7), .inl (cA 4, 1, .inr (.inl g))), ((ad 8), .inl (cA 5, 1, .inr (.inr (.inr (.inl gd)))))]) [25, 26, 27, 28, 29, 30, 31, 32, 33, 34, 35, 36, 37, 38, 39, 40, 41, 42, 43, 44, 45, 46, 47, 48, 49, 50, 51, 52, 53, 54, 55, 56, 57, 58, 59, 60, 61, 62, 63, 64, 65, 66, 67, 68, 69, 70, 71, 72, 73, 76, 77, 78, 79, 81] := ⟨_, rfl⟩
  have hp := gl_B (E := (E7 cA (ad 0) aw ab ak (ad 1) (ad 2) hA (ad 3) (ad 4) (ad 5) (ad 6) isK lre lpo (nI dn, nI P, ar, fi, la, nb, pa, ro, nI D, dp, dg, de, dd, nI E, ek, eo, es, ef, el, nI L, nI K, lc, lm, lp, lr) mo B K0 (nI c) (nI x) (nI l_) ta tc ti tw tn ++ [((ad 7), .inl (cA 4, 1, .inr (.inl g))), ((ad 8), .inl (cA 5, 1, .inr (.inr (.inr (.inl gd)))))])) (Ec := (e_L_release cA (ad 0) (aw 0) (ab 0) (ak 0) (ad 1) (ad 3) (aw 1) (aw 8) (aw 14) (aw 20) (aw 2) (aw 3) (aw 4) (aw 5) (aw 6) (aw 7) (aw 9) (aw 10) (aw 11) (aw 12) (aw 13) (aw 15) (aw 16) (aw 17) (aw 18) (aw 19) (aw 21) (aw 22) (aw 23) (aw 24) (ad 2) (ad 7) isK lre lpo (nI dn) (nI P) ar fi la nb pa ro (nI D) dp dg de dd (nI E) ek eo es ef el (nI L) (nI K) lc lm lp lr (nI c) (nI x) g hA)) (Er := Er1) (B := (hblk cA hA hW)) (R := ((E8 cA (ad 9) (ad 10) (ad 11) (ad 12) (ad 13) (ad 14) (ad 15) (ad 16) gA thr (nI c) rea rpo isS (nI l_) ra rwr n sv as ch bu nu) ++ gblk cA gA gW)) (pick (n := 82) [0, 1, 2, 3, 4, 5, 6, 7, 8, 9, 10, 11, 12, 13, 14, 15, 16, 17, 18, 19, 20, 21, 22, 23, 24, 74, 75, 80] [25, 26, 27, 28, 29, 30, 31, 32, 33, 34, 35, 36, 37, 38, 39, 40, 41, 42, 43, 44, 45, 46, 47, 48, 49, 50, 51, 52, 53, 54, 55, 56, 57, 58, 59, 60, 61, 62, 63, 64, 65, 66, 67, 68, 69, 70, 71, 72, 73, 76, 77, 78, 79, 81] rfl (by decide +kernel) rfl hEr1.symm)
  have hPc : va_P G vwCl (k_L_release cA (ad 0) (aw 0) (ab 0) (ak 0) (ad 1) (ad 3) (aw 1) (aw 8) (aw 14) (aw 20) (aw 2) (aw 3) (aw 4) (aw 5) (aw 6) (aw 7) (aw 9) (aw 10) (aw 11) (aw 12) (aw 13) (aw 15) (aw 16) (aw 17) (aw 18) (aw 19) (aw 21) (aw 22) (aw 23) (aw 24) (ad 2) (ad 7) isK lre lpo (nI dn) (nI P) ar fi la nb pa ro (nI D) dp dg de dd (nI E) ek eo es ef el (nI L) (nI K) lc lm lp lr (nI c) (nI x) g hA hW) H := (hP.perm hp).left
  have hDc : va_D _ (k_L_release cA (ad 0) (aw 0) (ab 0) (ak 0) (ad 1) (ad 3) (aw 1) (aw 8) (aw 14) (aw 20) (aw 2) (aw 3) (aw 4) (aw 5) (aw 6) (aw 7) (aw 9) (aw 10) (aw 11) (aw 12) (aw 13) (aw 15) (aw 16) (aw 17) (aw 18) (aw 19) (aw 21) (aw 22) (aw 23) (aw 24) (ad 2) (ad 7) isK lre lpo (nI dn) (nI P) ar fi la nb pa ro (nI D) dp dg de dd (nI E) ek eo es ef el (nI L) (nI K) lc lm lp lr (nI c) (nI x) g hA hW) := (hD.perm hp).left
  have hFc := va_freePm hp hD hS hA0
  refine va_calli (vx_runSW (As := [.ref (ad 0), .int (xs (nI i + (1 : Int32)).toNatClampNeg), .ref (ad 7)]) (rest := []) ⟨hx, hb, hml, hown, hts⟩ (c_L_release l hfl z G cA (ad 0) (aw 0) (ab 0) (ak 0) (ad 1) (ad 3) (aw 1) (aw 8) (aw 14) (aw 20) (aw 2) (aw 3) (aw 4) (aw 5) (aw 6) (aw 7) (aw 9) (aw 10) (aw 11) (aw 12) (aw 13) (aw 15) (aw 16) (aw 17) (aw 18) (aw 19) (aw 21) (aw 22) (aw 23) (aw 24) (ad 2) (ad 7) H.size (xs (nI i + (1 : Int32)).toNatClampNeg) isK lre lpo (nI dn) (nI P) ar fi la nb pa ro (nI D) dp dg de dd (nI E) ek eo es ef el (nI L) (nI K) lc lm lp lr (nI c) (nI x) g hA hW _ hop1 (Option.some_ne_none _)) (vx_cwSW 3 hts gL_law_L_release rfl rfl rfl (by decide +kernel) ⟨Nat.le_of_ble_eq_true rfl, Nat.le_of_ble_eq_true rfl⟩) (preMSo hPc hDc hK hT hO hS hFc) rfl rfl hl.1 rfl (lv_room (Nat.le_of_ble_eq_true rfl)) dL_law_1748 ⟨hn, hk⟩) hS (fun q _ h => hFc q h) hFc (fun r u t H1 locs ht hvm hw hB hz1 hk1 hS1 => ?_)
  obtain ⟨rfl, rfl⟩ := Prod.mk.inj (Option.some.inj hw)
  replace hB : va_P G vwCl (k_L_release cA (ad 0) (aw 0) (ab 0) (ak 0) (ad 1) (ad 3) (aw 1) (aw 8) (aw 14) (aw 20) (aw 2) (aw 3) (aw 4) (aw 5) (aw 6) (aw 7) (aw 9) (aw 10) (aw 11) (aw 12) (aw 13) (aw 15) (aw 16) (aw 17) (aw 18) (aw 19) (aw 21) (aw 22) (aw 23) (aw 24) (ad 2) (ad 7) isK lre lpo (nI dn) (nI P) ar fi la nb pa ro (nI D) dp dg de dd (nI E) ek eo es ef el (nI L) (nI K') lc lm lp lr' (nI c') (nI x') g' hA hW') t.heap := hB
  rw [ht] at hB
  have hj := va_backP hp hP hD hk1 hB (ad_app rfl hblk_addr)
  have hp2 := gl_B (E := (E7 cA (ad 0) aw ab ak (ad 1) (ad 2) hA (ad 3) (ad 4) (ad 5) (ad 6) isK lre lpo (nI dn, nI P, ar, fi, la, nb, pa, ro, nI D, dp, dg, de, dd, nI E, ek, eo, es, ef, el, nI L, nI K', lc, lm, lp, lr') mo B K0 (nI c') (nI x') (nI l_) ta tc ti tw tn ++ [((ad 7), .inl (cA 4, 1, .inr (.inl g'))), ((ad 8), .inl (cA 5, 1, .inr (.inr (.inr (.inl gd)))))])) (Ec := (e_L_release cA (ad 0) (aw 0) (ab 0) (ak 0) (ad 1) (ad 3) (aw 1) (aw 8) (aw 14) (aw 20) (aw 2) (aw 3) (aw 4) (aw 5) (aw 6) (aw 7) (aw 9) (aw 10) (aw 11) (aw 12) (aw 13) (aw 15) (aw 16) (aw 17) (aw 18) (aw 19) (aw 21) (aw 22) (aw 23) (aw 24) (ad 2) (ad 7) isK lre lpo (nI dn) (nI P) ar fi la nb pa ro (nI D) dp dg de dd (nI E) ek eo es ef el (nI L) (nI K') lc lm lp lr' (nI c') (nI x') g' hA)) (Er := Er1) (B := (hblk cA hA hW')) (R := ((E8 cA (ad 9) (ad 10) (ad 11) (ad 12) (ad 13) (ad 14) (ad 15) (ad 16) gA thr (nI c) rea rpo isS (nI l_) ra rwr n sv as ch bu nu) ++ gblk cA gA gW)) (pick (n := 82) [0, 1, 2, 3, 4, 5, 6, 7, 8, 9, 10, 11, 12, 13, 14, 15, 16, 17, 18, 19, 20, 21, 22, 23, 24, 74, 75, 80] [25, 26, 27, 28, 29, 30, 31, 32, 33, 34, 35, 36, 37, 38, 39, 40, 41, 42, 43, 44, 45, 46, 47, 48, 49, 50, 51, 52, 53, 54, 55, 56, 57, 58, 59, 60, 61, 62, 63, 64, 65, 66, 67, 68, 69, 70, 71, 72, 73, 76, 77, 78, 79, 81] rfl (by decide +kernel) rfl (by rw [hEr1]; rfl))
  replace hP : va_P G vwCl (((E7 cA (ad 0) aw ab ak (ad 1) (ad 2) hA (ad 3) (ad 4) (ad 5) (ad 6) isK lre lpo (nI dn, nI P, ar, fi, la, nb, pa, ro, nI D, dp, dg, de, dd, nI E, ek, eo, es, ef, el, nI L, nI K', lc, lm, lp, lr') mo B K0 (nI c') (nI x') (nI l_) ta tc ti tw tn ++ [((ad 7), .inl (cA 4, 1, .inr (.inl g'))), ((ad 8), .inl (cA 5, 1, .inr (.inr (.inr (.inl gd)))))]) ++ hblk cA hA hW') ++ ((E8 cA (ad 9) (ad 10) (ad 11) (ad 12) (ad 13) (ad 14) (ad 15) (ad 16) gA thr (nI c) rea rpo isS (nI l_) ra rwr n sv as ch bu nu) ++ gblk cA gA gW)) H1 := hj.1.perm hp2.symm
  replace hD : va_D _ (((E7 cA (ad 0) aw ab ak (ad 1) (ad 2) hA (ad 3) (ad 4) (ad 5) (ad 6) isK lre lpo (nI dn, nI P, ar, fi, la, nb, pa, ro, nI D, dp, dg, de, dd, nI E, ek, eo, es, ef, el, nI L, nI K', lc, lm, lp, lr') mo B K0 (nI c') (nI x') (nI l_) ta tc ti tw tn ++ [((ad 7), .inl (cA 4, 1, .inr (.inl g'))), ((ad 8), .inl (cA 5, 1, .inr (.inr (.inr (.inl gd)))))]) ++ hblk cA hA hW') ++ ((E8 cA (ad 9) (ad 10) (ad 11) (ad 12) (ad 13) (ad 14) (ad 15) (ad 16) gA thr (nI c) rea rpo isS (nI l_) ra rwr n sv as ch bu nu) ++ gblk cA gA gW)) := hj.2.perm hp2.symm
  have hS := hS1
  clear hj hp hp2 hPc hDc hFc hB hk1 hEr1 hw
  generalize H1 = H at hP hS ht hz1 ⊢
  refine lv_istore (lv' := [(6, .int k_), (5, .int (nI i)), (4, .ref (ad 8)), (3, .ref (ad 7)), (2, .ref (ad 9)), (1, .ref (ad 0)), (0, .ref b)]) hx hb dL_law_1751 hl (by decide) rfl (fun ls hl => ?_)
  refine lv_aload_n hx hb dL_law_1753 rfl (lv_at hl 4 rfl) ?_
  refine lv_aload_n hx hb dL_law_1754 rfl (lv_at hl 6 rfl) ?_
  refine lv_iload hx hb dL_law_1755 (lv_at hl 1 rfl) ?_
  refine lv_iconst (v := (1 : Int32)) hx hb dL_law_1757 (by decide) ?_
  refine lv_iadd hx hb dL_law_1758 ?_
  refine va_sld hx hb hX hbl hbA hS h_in1 dL_law_1759 ?_
  obtain ⟨Er2, hEr2⟩ : ∃ z, z = pk (E8 cA (ad 9) (ad 10) (ad 11) (ad 12) (ad 13) (ad 14) (ad 15) (ad 16) gA thr (nI c) rea rpo isS (nI l_) ra rwr n sv as ch bu nu) [2, 3, 5, 6, 7] := ⟨_, rfl⟩
  have hp := gq_B (E := (E8 cA (ad 9) (ad 10) (ad 11) (ad 12) (ad 13) (ad 14) (ad 15) (ad 16) gA thr (nI c) rea rpo isS (nI l_) ra rwr n sv as ch bu nu)) (Ec := (e_X8_release cA (ad 9) (ad 10) (ad 11) (ad 12) (ad 13) (ad 14) (ad 15) (ad 16) thr (nI c) rea rpo isS (nI l_) ra rwr n gA)) (Er := Er2) (B := (gblk cA gA gW)) (R := ((E7 cA (ad 0) aw ab ak (ad 1) (ad 2) hA (ad 3) (ad 4) (ad 5) (ad 6) isK lre lpo (nI dn, nI P, ar, fi, la, nb, pa, ro, nI D, dp, dg, de, dd, nI E, ek, eo, es, ef, el, nI L, nI K', lc, lm, lp, lr') mo B K0 (nI c') (nI x') (nI l_) ta tc ti tw tn ++ [((ad 7), .inl (cA 4, 1, .inr (.inl g'))), ((ad 8), .inl (cA 5, 1, .inr (.inr (.inr (.inl gd)))))]) ++ hblk cA hA hW')) (pick (n := 8) [0, 1, 4] [2, 3, 5, 6, 7] rfl (by decide +kernel) rfl hEr2.symm)
  have hPc : va_P G vwCl (k_X8_release cA (ad 9) (ad 10) (ad 11) (ad 12) (ad 13) (ad 14) (ad 15) (ad 16) thr (nI c) rea rpo isS (nI l_) ra rwr n gA gW) H := (hP.perm hp).left
  have hDc : va_D _ (k_X8_release cA (ad 9) (ad 10) (ad 11) (ad 12) (ad 13) (ad 14) (ad 15) (ad 16) thr (nI c) rea rpo isS (nI l_) ra rwr n gA gW) := (hD.perm hp).left
  have hFc := va_freePm hp hD hS hA0
  refine va_calli (va_runV (As := [.int (xs (nI i + (1 : Int32)).toNatClampNeg)]) (rest := []) ⟨hx, hb, hml, hown, hts⟩ (c_X8_release l G cA (ad 9) (ad 10) (ad 11) (ad 12) (ad 13) (ad 14) (ad 15) (ad 16) H.size (xs (nI i + (1 : Int32)).toNatClampNeg) thr (nI c) rea rpo isS (nI l_) ra rwr n gA gW _ hop2 (Option.some_ne_none _)) (cwV 1 hts gL_law_X8_release rfl rfl rfl (by decide +kernel) ⟨Nat.le_of_ble_eq_true rfl, Nat.le_of_ble_eq_true rfl⟩) (preMV (q := (RX8, TX8, 15)) hPc hDc hK 0 rfl rfl) rfl rfl hl.1 rfl (lv_room (Nat.le_of_ble_eq_true rfl)) dL_law_1760 ⟨by show _ ≤ 603072; omega, by show _ ≤ 7190634; omega⟩) hS (fun q _ h => hFc q h) hFc (fun r u t H1 locs ht hvm hw hB hz1 hk1 hS1 => ?_)
  obtain ⟨rfl, rfl⟩ := Prod.mk.inj (Option.some.inj hw)
  replace hB : va_P G vwCl (k_X8_release cA (ad 9) (ad 10) (ad 11) (ad 12) (ad 13) (ad 14) (ad 15) (ad 16) k_ (nI c') rea rpo isS (nI l_) ra rwr n' gA gW') t.heap := hB
  rw [ht] at hB
  have hj := va_backP hp hP hD hk1 hB (ad_app rfl gblk_addr)
  have hp2 := gq_B (E := (E8 cA (ad 9) (ad 10) (ad 11) (ad 12) (ad 13) (ad 14) (ad 15) (ad 16) gA k_ (nI c') rea rpo isS (nI l_) ra rwr n' sv as ch bu nu)) (Ec := (e_X8_release cA (ad 9) (ad 10) (ad 11) (ad 12) (ad 13) (ad 14) (ad 15) (ad 16) k_ (nI c') rea rpo isS (nI l_) ra rwr n' gA)) (Er := Er2) (B := (gblk cA gA gW')) (R := ((E7 cA (ad 0) aw ab ak (ad 1) (ad 2) hA (ad 3) (ad 4) (ad 5) (ad 6) isK lre lpo (nI dn, nI P, ar, fi, la, nb, pa, ro, nI D, dp, dg, de, dd, nI E, ek, eo, es, ef, el, nI L, nI K', lc, lm, lp, lr') mo B K0 (nI c') (nI x') (nI l_) ta tc ti tw tn ++ [((ad 7), .inl (cA 4, 1, .inr (.inl g'))), ((ad 8), .inl (cA 5, 1, .inr (.inr (.inr (.inl gd)))))]) ++ hblk cA hA hW')) (pick (n := 8) [0, 1, 4] [2, 3, 5, 6, 7] rfl (by decide +kernel) rfl (by rw [hEr2]; rfl))
  replace hP : va_P G vwCl (((E7 cA (ad 0) aw ab ak (ad 1) (ad 2) hA (ad 3) (ad 4) (ad 5) (ad 6) isK lre lpo (nI dn, nI P, ar, fi, la, nb, pa, ro, nI D, dp, dg, de, dd, nI E, ek, eo, es, ef, el, nI L, nI K', lc, lm, lp, lr') mo B K0 (nI c') (nI x') (nI l_) ta tc ti tw tn ++ [((ad 7), .inl (cA 4, 1, .inr (.inl g'))), ((ad 8), .inl (cA 5, 1, .inr (.inr (.inr (.inl gd)))))]) ++ hblk cA hA hW') ++ ((E8 cA (ad 9) (ad 10) (ad 11) (ad 12) (ad 13) (ad 14) (ad 15) (ad 16) gA k_ (nI c') rea rpo isS (nI l_) ra rwr n' sv as ch bu nu) ++ gblk cA gA gW')) H1 := hj.1.perm hp2.symm
  replace hD : va_D _ (((E7 cA (ad 0) aw ab ak (ad 1) (ad 2) hA (ad 3) (ad 4) (ad 5) (ad 6) isK lre lpo (nI dn, nI P, ar, fi, la, nb, pa, ro, nI D, dp, dg, de, dd, nI E, ek, eo, es, ef, el, nI L, nI K', lc, lm, lp, lr') mo B K0 (nI c') (nI x') (nI l_) ta tc ti tw tn ++ [((ad 7), .inl (cA 4, 1, .inr (.inl g'))), ((ad 8), .inl (cA 5, 1, .inr (.inr (.inr (.inl gd)))))]) ++ hblk cA hA hW') ++ ((E8 cA (ad 9) (ad 10) (ad 11) (ad 12) (ad 13) (ad 14) (ad 15) (ad 16) gA k_ (nI c') rea rpo isS (nI l_) ra rwr n' sv as ch bu nu) ++ gblk cA gA gW')) := hj.2.perm hp2.symm
  have hS := hS1
  clear hj hp hp2 hPc hDc hFc hB hk1 hEr2 hw
  generalize H1 = H at hP hS ht hz1 ⊢
  refine lv_istore (lv' := [(7, .int b_), (6, .int k_), (5, .int (nI i)), (4, .ref (ad 8)), (3, .ref (ad 7)), (2, .ref (ad 9)), (1, .ref (ad 0)), (0, .ref b)]) hx hb dL_law_1763 hl (by decide) rfl (fun ls hl => ?_)
  refine lv_aload_n hx hb dL_law_1765 rfl (lv_at hl 5 rfl) ?_
  refine vp_callSi (va_Run.run (va_runV (As := []) (rest := []) ⟨hx, hb, hml, hown, hts⟩ (c_X8_thrown l G cA (ad 9) (ad 10) (ad 11) (ad 12) (ad 13) (ad 14) (ad 15) (ad 16) k_ (nI c') rea rpo isS (nI l_) ra rwr _ (rfl : m_X8_thrown k_ = some k_) (Option.some_ne_none _)) (cwV 0 hts gL_law_X8_thrown rfl rfl rfl (by decide +kernel) ⟨Nat.le_of_ble_eq_true rfl, Nat.le_of_ble_eq_true rfl⟩) (preRV (q := (RX8, TX8, 15)) (hP.right.left.sub [0] rfl) hK 0 rfl rfl) rfl rfl hl.1 rfl (lv_room (Nat.le_of_ble_eq_true rfl)) dL_law_1766 ⟨by show _ ≤ 603072; omega, by show _ ≤ 7190634; omega⟩)) (fun r hw => ?_)
  obtain rfl := Option.some.inj hw
  refine lv_iload hx hb dL_law_1769 (lv_at hl 1 rfl) ?_
  refine lv_icmp_eq (tgt := 1776) hx hb dL_law_1771 (by decide) (fun _ => ?_) (fun c_0 => absurd rfl c_0)
  refine lv_iload hx hb dL_law_1776 (lv_at hl 1 rfl) ?_
  refine lv_if_ne (tgt := 1793) hx hb dL_law_1778 (by decide) (fun c_3 => ?_) (fun c_3 => ?_)
  · refine lv_goto (tgt := 2652) hx hb dL_law_1793 (by decide) ?_
    exact next _ _ _ _ ⟨P, D, E, L, K', dn, c', x', l_, ar, fi, la, nb, pa, ro, dp, dg, de, dd, ek, eo, es, ef, el, lc, lm, lp, lr', n', hW', gW', B, K0, isK, isS, lre, rea, lpo, rpo, ta, tc, k_, ra, rwr, mo, ti, tw, tn, sv, as, ch, bu, nu, g', gd, rfl, hWC2, hHR2, hRR, hPO, hSR, hTR⟩ hP hD hS (lv_sub hl [2, 3, 4, 5, 6, 7] rfl)
  · have hpost0 := hpost c_3
    refine lv_aload_n hx hb dL_law_1781 rfl (lv_at hl 4 rfl) ?_
    refine lv_iconst (v := (0 : Int32)) hx hb dL_law_1782 (by decide) ?_
    refine va_lald hx hb hK.1 hP 80 4 rfl rfl (ixi (i := (0 : Int32)) (n := 1) (by decide)) dL_law_1783 ?_
    refine lv_iload hx hb dL_law_1784 (lv_at hl 0 rfl) ?_
    refine lv_i2l hx hb dL_law_1786 rfl ?_
    refine W.lcmp hx hb dL_law_1787 ?_
    refine lv_if_eq (tgt := 1793) hx hb dL_law_1788 (by decide) (fun _ => ?_) (fun c_0 => absurd (by rw [show g' (0 : Int32).toNatClampNeg = b_.toInt64 from hpost0]; exact cmp_self _) c_0)
    refine lv_goto (tgt := 2652) hx hb dL_law_1793 (by decide) ?_
    exact next _ _ _ _ ⟨P, D, E, L, K', dn, c', x', l_, ar, fi, la, nb, pa, ro, dp, dg, de, dd, ek, eo, es, ef, el, lc, lm, lp, lr', n', hW', gW', B, K0, isK, isS, lre, rea, lpo, rpo, ta, tc, k_, ra, rwr, mo, ti, tw, tn, sv, as, ch, bu, nu, g', gd, rfl, hWC2, hHR2, hRR, hPO, hSR, hTR⟩ hP hD hS (lv_sub hl [2, 3, 4, 5, 6, 7] rfl)

set_option maxHeartbeats 16000000 in
set_option maxRecDepth 100000 in
/-- postpone -/
theorem law_postpone {p : Program} {l : Launch} {e : Env} {s : State} {m : MethodId} {below : List Frame} {meth : Method} {cd : Code} {b Ls : Nat} {xs : Nat → Int32} {z : Nat → Nat} {G : va_G} {cA : Nat → ClassId} {ad aw ab ak : Nat → Nat} {hA : Nat → Nat → Nat} {gA : Nat → Nat} (C0 : LC p l s m cd b Ls xs z G cA) {i nn kk : Nat} (hi : i + 4 < Ls) (hL : Ls ≤ 2560) (hn : nn + 1 ≤ 603072) (hk : kk + 6 ≤ 7190634) (next : LNext p l e s m below meth cd b G cA ad aw ab ak hA gA i (nn + 1) (kk + 6)) {ws : va_W} {H : Heap} {locs : List Loc} {ls : Array Slot} (hI : LSt cA ad aw ab ak hA gA ws) (hP : va_P G vwCl ws H) (hD : va_D (fun q : Nat => s.heap.size ≤ q) ws) (hS : va_S (fun q : Nat => s.heap.size ≤ q) s.heap H locs) (hl : lv_has ls 9 [(5, .int (nI i)), (4, .ref (ad 8)), (3, .ref (ad 7)), (2, .ref (ad 9)), (1, .ref (ad 0)), (0, .ref b)]) : W p l e room_1 s m #[Value.ref b] below meth cd H locs nn kk (lw_Z below #[Value.ref b] s) (F0 m 1796 ls []) := by
  obtain ⟨hx, hb, hml, hown, hts, hX, hbl, hK, hT, hO, hfl⟩ := C0
  have hbA : ¬ (fun q : Nat => s.heap.size ≤ q) b := Nat.not_le.mpr hbl
  have hA0 : ∀ q : Nat, s.heap.size ≤ q → (fun q : Nat => s.heap.size ≤ q) q := fun _ h => h
  have h_in1 : vp_in (nI i + (1 : Int32)) Ls := by rw [show nI i + (1 : Int32) = nI (i + 1) from nI_add i 1]; exact vp_in_nI (by omega) (by omega)
  have h_in2 : vp_in (nI i + (2 : Int32)) Ls := by rw [show nI i + (2 : Int32) = nI (i + 2) from nI_add i 2]; exact vp_in_nI (by omega) (by omega)
  have h_in3 : vp_in (nI i + (3 : Int32)) Ls := by rw [show nI i + (3 : Int32) = nI (i + 3) from nI_add i 3]; exact vp_in_nI (by omega) (by omega)
  have h_in4 : vp_in (nI i + (4 : Int32)) Ls := by rw [show nI i + (4 : Int32) = nI (i + 4) from nI_add i 4]; exact vp_in_nI (by omega) (by omega)
  obtain ⟨P, D, E, L, K, dn, c, x, l_, ar, fi, la, nb, pa, ro, dp, dg, de, dd, ek, eo, es, ef, el, lc, lm, lp, lr, n, hW, gW, B, K0, isK, isS, lre, rea, lpo, rpo, ta, tc, thr, ra, rwr, mo, ti, tw, tn, sv, as, ch, bu, nu, g, gd, rfl, hWC, hHR, hRR, hPO, hSR, hTR⟩ := hI
  refine lv_aload_n hx hb dL_law_1796 rfl (lv_at hl 4 rfl) ?_
  refine lv_aload_n hx hb dL_law_1797 rfl (lv_at hl 5 rfl) ?_
  refine lv_iload hx hb dL_law_1798 (lv_at hl 0 rfl) ?_
  refine lv_iconst (v := (1 : Int32)) hx hb dL_law_1800 (by decide) ?_
  refine lv_iadd hx hb dL_law_1801 ?_
  refine va_sld hx hb hX hbl hbA hS h_in1 dL_law_1802 ?_
  refine lv_aload_n hx hb dL_law_1803 rfl (lv_at hl 5 rfl) ?_
  refine lv_iload hx hb dL_law_1804 (lv_at hl 0 rfl) ?_
  refine lv_iconst (v := (2 : Int32)) hx hb dL_law_1806 (by decide) ?_
  refine lv_iadd hx hb dL_law_1807 ?_
  refine va_sld hx hb hX hbl hbA hS h_in2 dL_law_1808 ?_
  refine lv_aload_n hx hb dL_law_1809 rfl (lv_at hl 2 rfl) ?_
  obtain ⟨k_, b_, g', c', x', lr', hW', n', gW', hop1, hop2, hpost, hWC2, hHR2⟩ := op_postpone hWC hHR (xs (nI i + (1 : Int32)).toNatClampNeg) (xs (nI i + (2 : Int32)).toNatClampNeg) g
  obtain ⟨Er1, hEr1⟩ : ∃ z, z = pk (E7 cA (ad 0) aw ab ak (ad 1) (ad 2) hA (ad 3) (ad 4) (ad 5) (ad 6) isK lre lpo (nI dn, nI P, ar, fi, la, nb, pa, ro, nI D, dp, dg, de, dd, nI E, ek, eo, es, ef, el, nI L, nI K, lc, lm, lp, lr) mo B K0 (nI c) (nI x) (nI l_) ta tc ti tw tn ++ [((ad 7), .inl (cA 4, 1, .inr (.inl g))), ((ad 8), .inl (cA 5, 1, .inr (.inr (.inr (.inl gd)))))]) [25, 26, 27, 28, 29, 30, 31, 32, 33, 34, 35, 36, 37, 38, 39, 40, 41, 42, 43, 44, 45, 46, 47, 48, 49, 50, 51, 52, 53, 54, 55, 56, 57, 58, 59, 60, 61, 62, 63, 64, 65, 66, 67, 68, 69, 70, 71, 72, 73, 76, 77, 78, 79, 81] := ⟨_, rfl⟩
  have hp := gl_B (E := (E7 cA (ad 0) aw ab ak (ad 1) (ad 2) hA (ad 3) (ad 4) (ad 5) (ad 6) isK lre lpo (nI dn, nI P, ar, fi, la, nb, pa, ro, nI D, dp, dg, de, dd, nI E, ek, eo, es, ef, el, nI L, nI K, lc, lm, lp, lr) mo B K0 (nI c) (nI x) (nI l_) ta tc ti tw tn ++ [((ad 7), .inl (cA 4, 1, .inr (.inl g))), ((ad 8), .inl (cA 5, 1, .inr (.inr (.inr (.inl gd)))))])) (Ec := (e_L_postpone cA (ad 0) (aw 0) (ab 0) (ak 0) (ad 1) (ad 3) (aw 1) (aw 8) (aw 14) (aw 20) (aw 2) (aw 3) (aw 4) (aw 5) (aw 6) (aw 7) (aw 9) (aw 10) (aw 11) (aw 12) (aw 13) (aw 15) (aw 16) (aw 17) (aw 18) (aw 19) (aw 21) (aw 22) (aw 23) (aw 24) (ad 2) (ad 7) isK lre lpo (nI dn) (nI P) ar fi la nb pa ro (nI D) dp dg de dd (nI E) ek eo es ef el (nI L) (nI K) lc lm lp lr (nI c) (nI x) g hA)) (Er := Er1) (B := (hblk cA hA hW)) (R := ((E8 cA (ad 9) (ad 10) (ad 11) (ad 12) (ad 13) (ad 14) (ad 15) (ad 16) gA thr (nI c) rea rpo isS (nI l_) ra rwr n sv as ch bu nu) ++ gblk cA gA gW)) (pick (n := 82) [0, 1, 2, 3, 4, 5, 6, 7, 8, 9, 10, 11, 12, 13, 14, 15, 16, 17, 18, 19, 20, 21, 22, 23, 24, 74, 75, 80] [25, 26, 27, 28, 29, 30, 31, 32, 33, 34, 35, 36, 37, 38, 39, 40, 41, 42, 43, 44, 45, 46, 47, 48, 49, 50, 51, 52, 53, 54, 55, 56, 57, 58, 59, 60, 61, 62, 63, 64, 65, 66, 67, 68, 69, 70, 71, 72, 73, 76, 77, 78, 79, 81] rfl (by decide +kernel) rfl hEr1.symm)
  have hPc : va_P G vwCl (k_L_postpone cA (ad 0) (aw 0) (ab 0) (ak 0) (ad 1) (ad 3) (aw 1) (aw 8) (aw 14) (aw 20) (aw 2) (aw 3) (aw 4) (aw 5) (aw 6) (aw 7) (aw 9) (aw 10) (aw 11) (aw 12) (aw 13) (aw 15) (aw 16) (aw 17) (aw 18) (aw 19) (aw 21) (aw 22) (aw 23) (aw 24) (ad 2) (ad 7) isK lre lpo (nI dn) (nI P) ar fi la nb pa ro (nI D) dp dg de dd (nI E) ek eo es ef el (nI L) (nI K) lc lm lp lr (nI c) (nI x) g hA hW) H := (hP.perm hp).left
  have hDc : va_D _ (k_L_postpone cA (ad 0) (aw 0) (ab 0) (ak 0) (ad 1) (ad 3) (aw 1) (aw 8) (aw 14) (aw 20) (aw 2) (aw 3) (aw 4) (aw 5) (aw 6) (aw 7) (aw 9) (aw 10) (aw 11) (aw 12) (aw 13) (aw 15) (aw 16) (aw 17) (aw 18) (aw 19) (aw 21) (aw 22) (aw 23) (aw 24) (ad 2) (ad 7) isK lre lpo (nI dn) (nI P) ar fi la nb pa ro (nI D) dp dg de dd (nI E) ek eo es ef el (nI L) (nI K) lc lm lp lr (nI c) (nI x) g hA hW) := (hD.perm hp).left
  have hFc := va_freePm hp hD hS hA0
  refine va_calli (vx_runSW (As := [.ref (ad 0), .int (xs (nI i + (1 : Int32)).toNatClampNeg), .int (xs (nI i + (2 : Int32)).toNatClampNeg), .ref (ad 7)]) (rest := []) ⟨hx, hb, hml, hown, hts⟩ (c_L_postpone l hfl z G cA (ad 0) (aw 0) (ab 0) (ak 0) (ad 1) (ad 3) (aw 1) (aw 8) (aw 14) (aw 20) (aw 2) (aw 3) (aw 4) (aw 5) (aw 6) (aw 7) (aw 9) (aw 10) (aw 11) (aw 12) (aw 13) (aw 15) (aw 16) (aw 17) (aw 18) (aw 19) (aw 21) (aw 22) (aw 23) (aw 24) (ad 2) (ad 7) H.size (xs (nI i + (1 : Int32)).toNatClampNeg) (xs (nI i + (2 : Int32)).toNatClampNeg) isK lre lpo (nI dn) (nI P) ar fi la nb pa ro (nI D) dp dg de dd (nI E) ek eo es ef el (nI L) (nI K) lc lm lp lr (nI c) (nI x) g hA hW _ hop1 (Option.some_ne_none _)) (vx_cwSW 4 hts gL_law_L_postpone rfl rfl rfl (by decide +kernel) ⟨Nat.le_of_ble_eq_true rfl, Nat.le_of_ble_eq_true rfl⟩) (preMSo hPc hDc hK hT hO hS hFc) rfl rfl hl.1 rfl (lv_room (Nat.le_of_ble_eq_true rfl)) dL_law_1810 ⟨hn, hk⟩) hS (fun q _ h => hFc q h) hFc (fun r u t H1 locs ht hvm hw hB hz1 hk1 hS1 => ?_)
  obtain ⟨rfl, rfl⟩ := Prod.mk.inj (Option.some.inj hw)
  replace hB : va_P G vwCl (k_L_postpone cA (ad 0) (aw 0) (ab 0) (ak 0) (ad 1) (ad 3) (aw 1) (aw 8) (aw 14) (aw 20) (aw 2) (aw 3) (aw 4) (aw 5) (aw 6) (aw 7) (aw 9) (aw 10) (aw 11) (aw 12) (aw 13) (aw 15) (aw 16) (aw 17) (aw 18) (aw 19) (aw 21) (aw 22) (aw 23) (aw 24) (ad 2) (ad 7) isK lre lpo (nI dn) (nI P) ar fi la nb pa ro (nI D) dp dg de dd (nI E) ek eo es ef el (nI L) (nI K) lc lm lp lr' (nI c') (nI x') g' hA hW') t.heap := hB
  rw [ht] at hB
  have hj := va_backP hp hP hD hk1 hB (ad_app rfl hblk_addr)
  have hp2 := gl_B (E := (E7 cA (ad 0) aw ab ak (ad 1) (ad 2) hA (ad 3) (ad 4) (ad 5) (ad 6) isK lre lpo (nI dn, nI P, ar, fi, la, nb, pa, ro, nI D, dp, dg, de, dd, nI E, ek, eo, es, ef, el, nI L, nI K, lc, lm, lp, lr') mo B K0 (nI c') (nI x') (nI l_) ta tc ti tw tn ++ [((ad 7), .inl (cA 4, 1, .inr (.inl g'))), ((ad 8), .inl (cA 5, 1, .inr (.inr (.inr (.inl gd)))))])) (Ec := (e_L_postpone cA (ad 0) (aw 0) (ab 0) (ak 0) (ad 1) (ad 3) (aw 1) (aw 8) (aw 14) (aw 20) (aw 2) (aw 3) (aw 4) (aw 5) (aw 6) (aw 7) (aw 9) (aw 10) (aw 11) (aw 12) (aw 13) (aw 15) (aw 16) (aw 17) (aw 18) (aw 19) (aw 21) (aw 22) (aw 23) (aw 24) (ad 2) (ad 7) isK lre lpo (nI dn) (nI P) ar fi la nb pa ro (nI D) dp dg de dd (nI E) ek eo es ef el (nI L) (nI K) lc lm lp lr' (nI c') (nI x') g' hA)) (Er := Er1) (B := (hblk cA hA hW')) (R := ((E8 cA (ad 9) (ad 10) (ad 11) (ad 12) (ad 13) (ad 14) (ad 15) (ad 16) gA thr (nI c) rea rpo isS (nI l_) ra rwr n sv as ch bu nu) ++ gblk cA gA gW)) (pick (n := 82) [0, 1, 2, 3, 4, 5, 6, 7, 8, 9, 10, 11, 12, 13, 14, 15, 16, 17, 18, 19, 20, 21, 22, 23, 24, 74, 75, 80] [25, 26, 27, 28, 29, 30, 31, 32, 33, 34, 35, 36, 37, 38, 39, 40, 41, 42, 43, 44, 45, 46, 47, 48, 49, 50, 51, 52, 53, 54, 55, 56, 57, 58, 59, 60, 61, 62, 63, 64, 65, 66, 67, 68, 69, 70, 71, 72, 73, 76, 77, 78, 79, 81] rfl (by decide +kernel) rfl (by rw [hEr1]; rfl))
  replace hP : va_P G vwCl (((E7 cA (ad 0) aw ab ak (ad 1) (ad 2) hA (ad 3) (ad 4) (ad 5) (ad 6) isK lre lpo (nI dn, nI P, ar, fi, la, nb, pa, ro, nI D, dp, dg, de, dd, nI E, ek, eo, es, ef, el, nI L, nI K, lc, lm, lp, lr') mo B K0 (nI c') (nI x') (nI l_) ta tc ti tw tn ++ [((ad 7), .inl (cA 4, 1, .inr (.inl g'))), ((ad 8), .inl (cA 5, 1, .inr (.inr (.inr (.inl gd)))))]) ++ hblk cA hA hW') ++ ((E8 cA (ad 9) (ad 10) (ad 11) (ad 12) (ad 13) (ad 14) (ad 15) (ad 16) gA thr (nI c) rea rpo isS (nI l_) ra rwr n sv as ch bu nu) ++ gblk cA gA gW)) H1 := hj.1.perm hp2.symm
  replace hD : va_D _ (((E7 cA (ad 0) aw ab ak (ad 1) (ad 2) hA (ad 3) (ad 4) (ad 5) (ad 6) isK lre lpo (nI dn, nI P, ar, fi, la, nb, pa, ro, nI D, dp, dg, de, dd, nI E, ek, eo, es, ef, el, nI L, nI K, lc, lm, lp, lr') mo B K0 (nI c') (nI x') (nI l_) ta tc ti tw tn ++ [((ad 7), .inl (cA 4, 1, .inr (.inl g'))), ((ad 8), .inl (cA 5, 1, .inr (.inr (.inr (.inl gd)))))]) ++ hblk cA hA hW') ++ ((E8 cA (ad 9) (ad 10) (ad 11) (ad 12) (ad 13) (ad 14) (ad 15) (ad 16) gA thr (nI c) rea rpo isS (nI l_) ra rwr n sv as ch bu nu) ++ gblk cA gA gW)) := hj.2.perm hp2.symm
  have hS := hS1
  clear hj hp hp2 hPc hDc hFc hB hk1 hEr1 hw
  generalize H1 = H at hP hS ht hz1 ⊢
  refine lv_istore (lv' := [(6, .int k_), (5, .int (nI i)), (4, .ref (ad 8)), (3, .ref (ad 7)), (2, .ref (ad 9)), (1, .ref (ad 0)), (0, .ref b)]) hx hb dL_law_1813 hl (by decide) rfl (fun ls hl => ?_)
  refine lv_aload_n hx hb dL_law_1815 rfl (lv_at hl 4 rfl) ?_
  refine lv_aload_n hx hb dL_law_1816 rfl (lv_at hl 6 rfl) ?_
  refine lv_iload hx hb dL_law_1817 (lv_at hl 1 rfl) ?_
  refine lv_iconst (v := (1 : Int32)) hx hb dL_law_1819 (by decide) ?_
  refine lv_iadd hx hb dL_law_1820 ?_
  refine va_sld hx hb hX hbl hbA hS h_in1 dL_law_1821 ?_
  refine lv_aload_n hx hb dL_law_1822 rfl (lv_at hl 6 rfl) ?_
  refine lv_iload hx hb dL_law_1823 (lv_at hl 1 rfl) ?_
  refine lv_iconst (v := (2 : Int32)) hx hb dL_law_1825 (by decide) ?_
  refine lv_iadd hx hb dL_law_1826 ?_
  refine va_sld hx hb hX hbl hbA hS h_in2 dL_law_1827 ?_
  obtain ⟨Er2, hEr2⟩ : ∃ z, z = pk (E8 cA (ad 9) (ad 10) (ad 11) (ad 12) (ad 13) (ad 14) (ad 15) (ad 16) gA thr (nI c) rea rpo isS (nI l_) ra rwr n sv as ch bu nu) [2, 3, 5, 6, 7] := ⟨_, rfl⟩
  have hp := gq_B (E := (E8 cA (ad 9) (ad 10) (ad 11) (ad 12) (ad 13) (ad 14) (ad 15) (ad 16) gA thr (nI c) rea rpo isS (nI l_) ra rwr n sv as ch bu nu)) (Ec := (e_X8_postpone cA (ad 9) (ad 10) (ad 11) (ad 12) (ad 13) (ad 14) (ad 15) (ad 16) thr (nI c) rea rpo isS (nI l_) ra rwr n gA)) (Er := Er2) (B := (gblk cA gA gW)) (R := ((E7 cA (ad 0) aw ab ak (ad 1) (ad 2) hA (ad 3) (ad 4) (ad 5) (ad 6) isK lre lpo (nI dn, nI P, ar, fi, la, nb, pa, ro, nI D, dp, dg, de, dd, nI E, ek, eo, es, ef, el, nI L, nI K, lc, lm, lp, lr') mo B K0 (nI c') (nI x') (nI l_) ta tc ti tw tn ++ [((ad 7), .inl (cA 4, 1, .inr (.inl g'))), ((ad 8), .inl (cA 5, 1, .inr (.inr (.inr (.inl gd)))))]) ++ hblk cA hA hW')) (pick (n := 8) [0, 1, 4] [2, 3, 5, 6, 7] rfl (by decide +kernel) rfl hEr2.symm)
  have hPc : va_P G vwCl (k_X8_postpone cA (ad 9) (ad 10) (ad 11) (ad 12) (ad 13) (ad 14) (ad 15) (ad 16) thr (nI c) rea rpo isS (nI l_) ra rwr n gA gW) H := (hP.perm hp).left
  have hDc : va_D _ (k_X8_postpone cA (ad 9) (ad 10) (ad 11) (ad 12) (ad 13) (ad 14) (ad 15) (ad 16) thr (nI c) rea rpo isS (nI l_) ra rwr n gA gW) := (hD.perm hp).left
  have hFc := va_freePm hp hD hS hA0
  refine va_calli (va_runV (As := [.int (xs (nI i + (1 : Int32)).toNatClampNeg), .int (xs (nI i + (2 : Int32)).toNatClampNeg)]) (rest := []) ⟨hx, hb, hml, hown, hts⟩ (c_X8_postpone l G cA (ad 9) (ad 10) (ad 11) (ad 12) (ad 13) (ad 14) (ad 15) (ad 16) H.size (xs (nI i + (1 : Int32)).toNatClampNeg) (xs (nI i + (2 : Int32)).toNatClampNeg) thr (nI c) rea rpo isS (nI l_) ra rwr n gA gW _ hop2 (Option.some_ne_none _)) (cwV 2 hts gL_law_X8_postpone rfl rfl rfl (by decide +kernel) ⟨Nat.le_of_ble_eq_true rfl, Nat.le_of_ble_eq_true rfl⟩) (preMV (q := (RX8, TX8, 15)) hPc hDc hK 0 rfl rfl) rfl rfl hl.1 rfl (lv_room (Nat.le_of_ble_eq_true rfl)) dL_law_1828 ⟨by show _ ≤ 603072; omega, by show _ ≤ 7190634; omega⟩) hS (fun q _ h => hFc q h) hFc (fun r u t H1 locs ht hvm hw hB hz1 hk1 hS1 => ?_)
  obtain ⟨rfl, rfl⟩ := Prod.mk.inj (Option.some.inj hw)
  replace hB : va_P G vwCl (k_X8_postpone cA (ad 9) (ad 10) (ad 11) (ad 12) (ad 13) (ad 14) (ad 15) (ad 16) k_ (nI c') rea rpo isS (nI l_) ra rwr n' gA gW') t.heap := hB
  rw [ht] at hB
  have hj := va_backP hp hP hD hk1 hB (ad_app rfl gblk_addr)
  have hp2 := gq_B (E := (E8 cA (ad 9) (ad 10) (ad 11) (ad 12) (ad 13) (ad 14) (ad 15) (ad 16) gA k_ (nI c') rea rpo isS (nI l_) ra rwr n' sv as ch bu nu)) (Ec := (e_X8_postpone cA (ad 9) (ad 10) (ad 11) (ad 12) (ad 13) (ad 14) (ad 15) (ad 16) k_ (nI c') rea rpo isS (nI l_) ra rwr n' gA)) (Er := Er2) (B := (gblk cA gA gW')) (R := ((E7 cA (ad 0) aw ab ak (ad 1) (ad 2) hA (ad 3) (ad 4) (ad 5) (ad 6) isK lre lpo (nI dn, nI P, ar, fi, la, nb, pa, ro, nI D, dp, dg, de, dd, nI E, ek, eo, es, ef, el, nI L, nI K, lc, lm, lp, lr') mo B K0 (nI c') (nI x') (nI l_) ta tc ti tw tn ++ [((ad 7), .inl (cA 4, 1, .inr (.inl g'))), ((ad 8), .inl (cA 5, 1, .inr (.inr (.inr (.inl gd)))))]) ++ hblk cA hA hW')) (pick (n := 8) [0, 1, 4] [2, 3, 5, 6, 7] rfl (by decide +kernel) rfl (by rw [hEr2]; rfl))
  replace hP : va_P G vwCl (((E7 cA (ad 0) aw ab ak (ad 1) (ad 2) hA (ad 3) (ad 4) (ad 5) (ad 6) isK lre lpo (nI dn, nI P, ar, fi, la, nb, pa, ro, nI D, dp, dg, de, dd, nI E, ek, eo, es, ef, el, nI L, nI K, lc, lm, lp, lr') mo B K0 (nI c') (nI x') (nI l_) ta tc ti tw tn ++ [((ad 7), .inl (cA 4, 1, .inr (.inl g'))), ((ad 8), .inl (cA 5, 1, .inr (.inr (.inr (.inl gd)))))]) ++ hblk cA hA hW') ++ ((E8 cA (ad 9) (ad 10) (ad 11) (ad 12) (ad 13) (ad 14) (ad 15) (ad 16) gA k_ (nI c') rea rpo isS (nI l_) ra rwr n' sv as ch bu nu) ++ gblk cA gA gW')) H1 := hj.1.perm hp2.symm
  replace hD : va_D _ (((E7 cA (ad 0) aw ab ak (ad 1) (ad 2) hA (ad 3) (ad 4) (ad 5) (ad 6) isK lre lpo (nI dn, nI P, ar, fi, la, nb, pa, ro, nI D, dp, dg, de, dd, nI E, ek, eo, es, ef, el, nI L, nI K, lc, lm, lp, lr') mo B K0 (nI c') (nI x') (nI l_) ta tc ti tw tn ++ [((ad 7), .inl (cA 4, 1, .inr (.inl g'))), ((ad 8), .inl (cA 5, 1, .inr (.inr (.inr (.inl gd)))))]) ++ hblk cA hA hW') ++ ((E8 cA (ad 9) (ad 10) (ad 11) (ad 12) (ad 13) (ad 14) (ad 15) (ad 16) gA k_ (nI c') rea rpo isS (nI l_) ra rwr n' sv as ch bu nu) ++ gblk cA gA gW')) := hj.2.perm hp2.symm
  have hS := hS1
  clear hj hp hp2 hPc hDc hFc hB hk1 hEr2 hw
  generalize H1 = H at hP hS ht hz1 ⊢
  refine lv_istore (lv' := [(7, .int b_), (6, .int k_), (5, .int (nI i)), (4, .ref (ad 8)), (3, .ref (ad 7)), (2, .ref (ad 9)), (1, .ref (ad 0)), (0, .ref b)]) hx hb dL_law_1831 hl (by decide) rfl (fun ls hl => ?_)
  refine lv_aload_n hx hb dL_law_1833 rfl (lv_at hl 5 rfl) ?_
  refine vp_callSi (va_Run.run (va_runV (As := []) (rest := []) ⟨hx, hb, hml, hown, hts⟩ (c_X8_thrown l G cA (ad 9) (ad 10) (ad 11) (ad 12) (ad 13) (ad 14) (ad 15) (ad 16) k_ (nI c') rea rpo isS (nI l_) ra rwr _ (rfl : m_X8_thrown k_ = some k_) (Option.some_ne_none _)) (cwV 0 hts gL_law_X8_thrown rfl rfl rfl (by decide +kernel) ⟨Nat.le_of_ble_eq_true rfl, Nat.le_of_ble_eq_true rfl⟩) (preRV (q := (RX8, TX8, 15)) (hP.right.left.sub [0] rfl) hK 0 rfl rfl) rfl rfl hl.1 rfl (lv_room (Nat.le_of_ble_eq_true rfl)) dL_law_1834 ⟨by show _ ≤ 603072; omega, by show _ ≤ 7190634; omega⟩)) (fun r hw => ?_)
  obtain rfl := Option.some.inj hw
  refine lv_iload hx hb dL_law_1837 (lv_at hl 1 rfl) ?_
  refine lv_icmp_eq (tgt := 1844) hx hb dL_law_1839 (by decide) (fun _ => ?_) (fun c_0 => absurd rfl c_0)
  refine lv_iload hx hb dL_law_1844 (lv_at hl 1 rfl) ?_
  refine lv_if_ne (tgt := 1861) hx hb dL_law_1846 (by decide) (fun c_3 => ?_) (fun c_3 => ?_)
  · refine lv_goto (tgt := 2652) hx hb dL_law_1861 (by decide) ?_
    exact next _ _ _ _ ⟨P, D, E, L, K, dn, c', x', l_, ar, fi, la, nb, pa, ro, dp, dg, de, dd, ek, eo, es, ef, el, lc, lm, lp, lr', n', hW', gW', B, K0, isK, isS, lre, rea, lpo, rpo, ta, tc, k_, ra, rwr, mo, ti, tw, tn, sv, as, ch, bu, nu, g', gd, rfl, hWC2, hHR2, hRR, hPO, hSR, hTR⟩ hP hD hS (lv_sub hl [2, 3, 4, 5, 6, 7] rfl)
  · have hpost0 := hpost c_3
    refine lv_aload_n hx hb dL_law_1849 rfl (lv_at hl 4 rfl) ?_
    refine lv_iconst (v := (0 : Int32)) hx hb dL_law_1850 (by decide) ?_
    refine va_lald hx hb hK.1 hP 80 4 rfl rfl (ixi (i := (0 : Int32)) (n := 1) (by decide)) dL_law_1851 ?_
    refine lv_iload hx hb dL_law_1852 (lv_at hl 0 rfl) ?_
    refine lv_i2l hx hb dL_law_1854 rfl ?_
    refine W.lcmp hx hb dL_law_1855 ?_
    refine lv_if_eq (tgt := 1861) hx hb dL_law_1856 (by decide) (fun _ => ?_) (fun c_0 => absurd (by rw [show g' (0 : Int32).toNatClampNeg = b_.toInt64 from hpost0]; exact cmp_self _) c_0)
    refine lv_goto (tgt := 2652) hx hb dL_law_1861 (by decide) ?_
    exact next _ _ _ _ ⟨P, D, E, L, K, dn, c', x', l_, ar, fi, la, nb, pa, ro, dp, dg, de, dd, ek, eo, es, ef, el, lc, lm, lp, lr', n', hW', gW', B, K0, isK, isS, lre, rea, lpo, rpo, ta, tc, k_, ra, rwr, mo, ti, tw, tn, sv, as, ch, bu, nu, g', gd, rfl, hWC2, hHR2, hRR, hPO, hSR, hTR⟩ hP hD hS (lv_sub hl [2, 3, 4, 5, 6, 7] rfl)
