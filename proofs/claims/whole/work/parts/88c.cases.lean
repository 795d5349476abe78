/-! The law, call by call. -/
set_option maxHeartbeats 16000000 in
set_option maxRecDepth 100000 in
/-- parcel -/
theorem law_parcel {p : Program} {l : Launch} {e : Env} {s : State} {m : MethodId} {below : List Frame} {meth : Method} {cd : Code} {b Ls : Nat} {xs : Nat → Int32} {z : Nat → Nat} {G : va_G} {cA : Nat → ClassId} {ad aw ab ak : Nat → Nat} {hA : Nat → Nat → Nat} {gA : Nat → Nat} (C0 : LC p l s m cd b Ls xs z G cA) {i nn kk : Nat} (hi : i + 4 < Ls) (hL : Ls ≤ 2560) (hn : nn + 1 ≤ 603072) (hk : kk + 6 ≤ 7190634) (next : LNext p l e s m below meth cd b G cA ad aw ab ak hA gA i (nn + 1) (kk + 6)) {ws : va_W} {H : Heap} {locs : List Loc} {ls : Array Slot} (hI : LSt cA ad aw ab ak hA gA ws) (hP : va_P G vwCl ws H) (hD : va_D (fun q : Nat => s.heap.size ≤ q) ws) (hS : va_S (fun q : Nat => s.heap.size ≤ q) s.heap H locs) (hl : lv_has ls 9 [(5, .int (nI i)), (4, .ref (ad 8)), (3, .ref (ad 7)), (2, .ref (ad 9)), (1, .ref (ad 0)), (0, .ref b)]) : W p l e room_1 s m #[Value.ref b] below meth cd H locs nn kk (lw_Z below #[Value.ref b] s) (F0 m 548 ls []) := by
  obtain ⟨hx, hb, hml, hown, hts, hX, hbl, hK, hT, hO, hfl⟩ := C0
  have hbA : ¬ (fun q : Nat => s.heap.size ≤ q) b := Nat.not_le.mpr hbl
  have hA0 : ∀ q : Nat, s.heap.size ≤ q → (fun q : Nat => s.heap.size ≤ q) q := fun _ h => h
  have h_in1 : vp_in (nI i + (1 : Int32)) Ls := by rw [show nI i + (1 : Int32) = nI (i + 1) from nI_add i 1]; exact vp_in_nI (by omega) (by omega)
  have h_in2 : vp_in (nI i + (2 : Int32)) Ls := by rw [show nI i + (2 : Int32) = nI (i + 2) from nI_add i 2]; exact vp_in_nI (by omega) (by omega)
  have h_in3 : vp_in (nI i + (3 : Int32)) Ls := by rw [show nI i + (3 : Int32) = nI (i + 3) from nI_add i 3]; exact vp_in_nI (by omega) (by omega)
  have h_in4 : vp_in (nI i + (4 : Int32)) Ls := by rw [show nI i + (4 : Int32) = nI (i + 4) from nI_add i 4]; exact vp_in_nI (by omega) (by omega)
  obtain ⟨P, D, E, L, K, dn, c, x, l_, ar, fi, la, nb, pa, ro, dp, dg, de, dd, ek, eo, es, ef, el, lc, lm, lp, lr, n, hW, gW, B, K0, isK, isS, lre, rea, lpo, rpo, ta, tc, thr, ra, rwr, mo, ti, tw, tn, sv, as, ch, bu, nu, g, gd, rfl, hWC, hHR, hRR, hPO, hSR, hTR⟩ := hI
  refine lv_aload_n hx hb dL_law_548 rfl (lv_at hl 4 rfl) ?_
  refine lv_aload_n hx hb dL_law_549 rfl (lv_at hl 5 rfl) ?_
  refine lv_iload hx hb dL_law_550 (lv_at hl 0 rfl) ?_
  refine lv_iconst (v := (1 : Int32)) hx hb dL_law_552 (by decide) ?_
  refine lv_iadd hx hb dL_law_553 ?_
  refine va_sld hx hb hX hbl hbA hS h_in1 dL_law_554 ?_
  refine lv_aload_n hx hb dL_law_555 rfl (lv_at hl 5 rfl) ?_
  refine lv_iload hx hb dL_law_556 (lv_at hl 0 rfl) ?_
  refine lv_iconst (v := (2 : Int32)) hx hb dL_law_558 (by decide) ?_
  refine lv_iadd hx hb dL_law_559 ?_
  refine va_sld hx hb hX hbl hbA hS h_in2 dL_law_560 ?_
  refine lv_aload_n hx hb dL_law_561 rfl (lv_at hl 2 rfl) ?_
  obtain ⟨k_, b_, g', hop1, hop2, hpost⟩ := op_parcel hWC (xs (nI i + (1 : Int32)).toNatClampNeg) (xs (nI i + (2 : Int32)).toNatClampNeg) g
  obtain ⟨Er1, hEr1⟩ : ∃ z, z = pk (E7 cA (ad 0) aw ab ak (ad 1) (ad 2) hA (ad 3) (ad 4) (ad 5) (ad 6) isK lre lpo (nI dn, nI P, ar, fi, la, nb, pa, ro, nI D, dp, dg, de, dd, nI E, ek, eo, es, ef, el, nI L, nI K, lc, lm, lp, lr) mo B K0 (nI c) (nI x) (nI l_) ta tc ti tw tn ++ [((ad 7), .inl (cA 4, 1, .inr (.inl g))), ((ad 8), .inl (cA 5, 1, .inr (.inr (.inr (.inl gd)))))]) [14, 15, 16, 17, 18, 19, 21, 22, 25, 26, 27, 28, 29, 30, 31, 32, 33, 34, 35, 36, 37, 38, 39, 40, 41, 42, 43, 44, 45, 46, 47, 48, 49, 50, 51, 52, 53, 54, 55, 56, 57, 58, 59, 60, 61, 62, 63, 64, 65, 66, 67, 68, 69, 70, 71, 72, 73, 74, 75, 76, 77, 78, 79, 81] := ⟨_, rfl⟩
  have hp := gl_0 (E := (E7 cA (ad 0) aw ab ak (ad 1) (ad 2) hA (ad 3) (ad 4) (ad 5) (ad 6) isK lre lpo (nI dn, nI P, ar, fi, la, nb, pa, ro, nI D, dp, dg, de, dd, nI E, ek, eo, es, ef, el, nI L, nI K, lc, lm, lp, lr) mo B K0 (nI c) (nI x) (nI l_) ta tc ti tw tn ++ [((ad 7), .inl (cA 4, 1, .inr (.inl g))), ((ad 8), .inl (cA 5, 1, .inr (.inr (.inr (.inl gd)))))])) (Ec := (k_L_parcel cA (ad 0) (aw 0) (ab 0) (ak 0) (ad 1) (ad 3) (aw 1) (aw 8) (aw 14) (aw 20) (aw 2) (aw 3) (aw 4) (aw 5) (aw 6) (aw 7) (aw 9) (aw 10) (aw 11) (aw 12) (aw 13) (aw 21) (aw 22) (aw 23) (aw 24) (ad 7) isK lre lpo (nI dn) (nI P) ar fi la nb pa ro (nI D) dp dg de dd (nI L) (nI K) lp lr g)) (Er := Er1) (B := (hblk cA hA hW)) (R := ((E8 cA (ad 9) (ad 10) (ad 11) (ad 12) (ad 13) (ad 14) (ad 15) (ad 16) gA thr (nI c) rea rpo isS (nI l_) ra rwr n sv as ch bu nu) ++ gblk cA gA gW)) (pick (n := 82) [0, 1, 2, 3, 4, 5, 6, 7, 8, 9, 10, 11, 12, 13, 20, 23, 24, 80] [14, 15, 16, 17, 18, 19, 21, 22, 25, 26, 27, 28, 29, 30, 31, 32, 33, 34, 35, 36, 37, 38, 39, 40, 41, 42, 43, 44, 45, 46, 47, 48, 49, 50, 51, 52, 53, 54, 55, 56, 57, 58, 59, 60, 61, 62, 63, 64, 65, 66, 67, 68, 69, 70, 71, 72, 73, 74, 75, 76, 77, 78, 79, 81] rfl (by decide +kernel) rfl hEr1.symm)
  have hPc : va_P G vwCl (k_L_parcel cA (ad 0) (aw 0) (ab 0) (ak 0) (ad 1) (ad 3) (aw 1) (aw 8) (aw 14) (aw 20) (aw 2) (aw 3) (aw 4) (aw 5) (aw 6) (aw 7) (aw 9) (aw 10) (aw 11) (aw 12) (aw 13) (aw 21) (aw 22) (aw 23) (aw 24) (ad 7) isK lre lpo (nI dn) (nI P) ar fi la nb pa ro (nI D) dp dg de dd (nI L) (nI K) lp lr g) H := (hP.perm hp).left
  have hDc : va_D _ (k_L_parcel cA (ad 0) (aw 0) (ab 0) (ak 0) (ad 1) (ad 3) (aw 1) (aw 8) (aw 14) (aw 20) (aw 2) (aw 3) (aw 4) (aw 5) (aw 6) (aw 7) (aw 9) (aw 10) (aw 11) (aw 12) (aw 13) (aw 21) (aw 22) (aw 23) (aw 24) (ad 7) isK lre lpo (nI dn) (nI P) ar fi la nb pa ro (nI D) dp dg de dd (nI L) (nI K) lp lr g) := (hD.perm hp).left
  have hFc := va_freePm hp hD hS hA0
  refine va_calli (vx_runSW (As := [.ref (ad 0), .int (xs (nI i + (1 : Int32)).toNatClampNeg), .int (xs (nI i + (2 : Int32)).toNatClampNeg), .ref (ad 7)]) (rest := []) ⟨hx, hb, hml, hown, hts⟩ (c_L_parcel l hfl z G cA (ad 0) (aw 0) (ab 0) (ak 0) (ad 1) (ad 3) (aw 1) (aw 8) (aw 14) (aw 20) (aw 2) (aw 3) (aw 4) (aw 5) (aw 6) (aw 7) (aw 9) (aw 10) (aw 11) (aw 12) (aw 13) (aw 21) (aw 22) (aw 23) (aw 24) (ad 7) H.size (xs (nI i + (1 : Int32)).toNatClampNeg) (xs (nI i + (2 : Int32)).toNatClampNeg) isK lre lpo (nI dn) (nI P) ar fi la nb pa ro (nI D) dp dg de dd (nI L) (nI K) lp lr g _ hop1 (Option.some_ne_none _)) (vx_cwSW 4 hts gL_law_L_parcel rfl rfl rfl (by decide +kernel) ⟨Nat.le_of_ble_eq_true rfl, Nat.le_of_ble_eq_true rfl⟩) (preMSo hPc hDc hK hT hO hS hFc) rfl rfl hl.1 rfl (lv_room (Nat.le_of_ble_eq_true rfl)) dL_law_562 ⟨hn, hk⟩) hS (fun q _ h => hFc q h) hFc (fun r u t H1 locs ht hvm hw hB hz1 hk1 hS1 => ?_)
  obtain ⟨rfl, rfl⟩ := Prod.mk.inj (Option.some.inj hw)
  replace hB : va_P G vwCl (k_L_parcel cA (ad 0) (aw 0) (ab 0) (ak 0) (ad 1) (ad 3) (aw 1) (aw 8) (aw 14) (aw 20) (aw 2) (aw 3) (aw 4) (aw 5) (aw 6) (aw 7) (aw 9) (aw 10) (aw 11) (aw 12) (aw 13) (aw 21) (aw 22) (aw 23) (aw 24) (ad 7) isK lre lpo (nI dn) (nI P) ar fi la nb pa ro (nI D) dp dg de dd (nI L) (nI K) lp lr g') t.heap := hB
  rw [ht] at hB
  have hj := va_backP hp hP hD hk1 hB rfl
  have hp2 := gl_0 (E := (E7 cA (ad 0) aw ab ak (ad 1) (ad 2) hA (ad 3) (ad 4) (ad 5) (ad 6) isK lre lpo (nI dn, nI P, ar, fi, la, nb, pa, ro, nI D, dp, dg, de, dd, nI E, ek, eo, es, ef, el, nI L, nI K, lc, lm, lp, lr) mo B K0 (nI c) (nI x) (nI l_) ta tc ti tw tn ++ [((ad 7), .inl (cA 4, 1, .inr (.inl g'))), ((ad 8), .inl (cA 5, 1, .inr (.inr (.inr (.inl gd)))))])) (Ec := (k_L_parcel cA (ad 0) (aw 0) (ab 0) (ak 0) (ad 1) (ad 3) (aw 1) (aw 8) (aw 14) (aw 20) (aw 2) (aw 3) (aw 4) (aw 5) (aw 6) (aw 7) (aw 9) (aw 10) (aw 11) (aw 12) (aw 13) (aw 21) (aw 22) (aw 23) (aw 24) (ad 7) isK lre lpo (nI dn) (nI P) ar fi la nb pa ro (nI D) dp dg de dd (nI L) (nI K) lp lr g')) (Er := Er1) (B := (hblk cA hA hW)) (R := ((E8 cA (ad 9) (ad 10) (ad 11) (ad 12) (ad 13) (ad 14) (ad 15) (ad 16) gA thr (nI c) rea rpo isS (nI l_) ra rwr n sv as ch bu nu) ++ gblk cA gA gW)) (pick (n := 82) [0, 1, 2, 3, 4, 5, 6, 7, 8, 9, 10, 11, 12, 13, 20, 23, 24, 80] [14, 15, 16, 17, 18, 19, 21, 22, 25, 26, 27, 28, 29, 30, 31, 32, 33, 34, 35, 36, 37, 38, 39, 40, 41, 42, 43, 44, 45, 46, 47, 48, 49, 50, 51, 52, 53, 54, 55, 56, 57, 58, 59, 60, 61, 62, 63, 64, 65, 66, 67, 68, 69, 70, 71, 72, 73, 74, 75, 76, 77, 78, 79, 81] rfl (by decide +kernel) rfl (by rw [hEr1]; exact pk_e0 (n := 80) _ rfl (by decide)))
  replace hP : va_P G vwCl (((E7 cA (ad 0) aw ab ak (ad 1) (ad 2) hA (ad 3) (ad 4) (ad 5) (ad 6) isK lre lpo (nI dn, nI P, ar, fi, la, nb, pa, ro, nI D, dp, dg, de, dd, nI E, ek, eo, es, ef, el, nI L, nI K, lc, lm, lp, lr) mo B K0 (nI c) (nI x) (nI l_) ta tc ti tw tn ++ [((ad 7), .inl (cA 4, 1, .inr (.inl g'))), ((ad 8), .inl (cA 5, 1, .inr (.inr (.inr (.inl gd)))))]) ++ hblk cA hA hW) ++ ((E8 cA (ad 9) (ad 10) (ad 11) (ad 12) (ad 13) (ad 14) (ad 15) (ad 16) gA thr (nI c) rea rpo isS (nI l_) ra rwr n sv as ch bu nu) ++ gblk cA gA gW)) H1 := hj.1.perm hp2.symm
  replace hD : va_D _ (((E7 cA (ad 0) aw ab ak (ad 1) (ad 2) hA (ad 3) (ad 4) (ad 5) (ad 6) isK lre lpo (nI dn, nI P, ar, fi, la, nb, pa, ro, nI D, dp, dg, de, dd, nI E, ek, eo, es, ef, el, nI L, nI K, lc, lm, lp, lr) mo B K0 (nI c) (nI x) (nI l_) ta tc ti tw tn ++ [((ad 7), .inl (cA 4, 1, .inr (.inl g'))), ((ad 8), .inl (cA 5, 1, .inr (.inr (.inr (.inl gd)))))]) ++ hblk cA hA hW) ++ ((E8 cA (ad 9) (ad 10) (ad 11) (ad 12) (ad 13) (ad 14) (ad 15) (ad 16) gA thr (nI c) rea rpo isS (nI l_) ra rwr n sv as ch bu nu) ++ gblk cA gA gW)) := hj.2.perm hp2.symm
  have hS := hS1
  clear hj hp hp2 hPc hDc hFc hB hk1 hEr1 hw
  generalize H1 = H at hP hS ht hz1 ⊢
  refine lv_istore (lv' := [(6, .int k_), (5, .int (nI i)), (4, .ref (ad 8)), (3, .ref (ad 7)), (2, .ref (ad 9)), (1, .ref (ad 0)), (0, .ref b)]) hx hb dL_law_565 hl (by decide) rfl (fun ls hl => ?_)
  refine lv_aload_n hx hb dL_law_567 rfl (lv_at hl 4 rfl) ?_
  refine lv_aload_n hx hb dL_law_568 rfl (lv_at hl 6 rfl) ?_
  refine lv_iload hx hb dL_law_569 (lv_at hl 1 rfl) ?_
  refine lv_iconst (v := (1 : Int32)) hx hb dL_law_571 (by decide) ?_
  refine lv_iadd hx hb dL_law_572 ?_
  refine va_sld hx hb hX hbl hbA hS h_in1 dL_law_573 ?_
  refine lv_aload_n hx hb dL_law_574 rfl (lv_at hl 6 rfl) ?_
  refine lv_iload hx hb dL_law_575 (lv_at hl 1 rfl) ?_
  refine lv_iconst (v := (2 : Int32)) hx hb dL_law_577 (by decide) ?_
  refine lv_iadd hx hb dL_law_578 ?_
  refine va_sld hx hb hX hbl hbA hS h_in2 dL_law_579 ?_
  obtain ⟨Er2, hEr2⟩ : ∃ z, z = pk (E8 cA (ad 9) (ad 10) (ad 11) (ad 12) (ad 13) (ad 14) (ad 15) (ad 16) gA thr (nI c) rea rpo isS (nI l_) ra rwr n sv as ch bu nu) [2, 3, 4, 5, 6, 7] := ⟨_, rfl⟩
  have hp := gq_0 (E := (E8 cA (ad 9) (ad 10) (ad 11) (ad 12) (ad 13) (ad 14) (ad 15) (ad 16) gA thr (nI c) rea rpo isS (nI l_) ra rwr n sv as ch bu nu)) (Ec := (k_X8_parcel cA (ad 9) (ad 10) (ad 11) (ad 12) (ad 13) (ad 14) (ad 15) (ad 16) thr (nI c) rea rpo isS (nI l_) ra rwr n)) (Er := Er2) (B := (gblk cA gA gW)) (R := ((E7 cA (ad 0) aw ab ak (ad 1) (ad 2) hA (ad 3) (ad 4) (ad 5) (ad 6) isK lre lpo (nI dn, nI P, ar, fi, la, nb, pa, ro, nI D, dp, dg, de, dd, nI E, ek, eo, es, ef, el, nI L, nI K, lc, lm, lp, lr) mo B K0 (nI c) (nI x) (nI l_) ta tc ti tw tn ++ [((ad 7), .inl (cA 4, 1, .inr (.inl g'))), ((ad 8), .inl (cA 5, 1, .inr (.inr (.inr (.inl gd)))))]) ++ hblk cA hA hW)) (pick (n := 8) [0, 1] [2, 3, 4, 5, 6, 7] rfl (by decide +kernel) rfl hEr2.symm)
  have hPc : va_P G vwCl (k_X8_parcel cA (ad 9) (ad 10) (ad 11) (ad 12) (ad 13) (ad 14) (ad 15) (ad 16) thr (nI c) rea rpo isS (nI l_) ra rwr n) H := (hP.perm hp).left
  have hDc : va_D _ (k_X8_parcel cA (ad 9) (ad 10) (ad 11) (ad 12) (ad 13) (ad 14) (ad 15) (ad 16) thr (nI c) rea rpo isS (nI l_) ra rwr n) := (hD.perm hp).left
  have hFc := va_freePm hp hD hS hA0
  refine va_calli (va_runV (As := [.int (xs (nI i + (1 : Int32)).toNatClampNeg), .int (xs (nI i + (2 : Int32)).toNatClampNeg)]) (rest := []) ⟨hx, hb, hml, hown, hts⟩ (c_X8_parcel l G cA (ad 9) (ad 10) (ad 11) (ad 12) (ad 13) (ad 14) (ad 15) (ad 16) H.size (xs (nI i + (1 : Int32)).toNatClampNeg) (xs (nI i + (2 : Int32)).toNatClampNeg) thr (nI c) rea rpo isS (nI l_) ra rwr n _ hop2 (Option.some_ne_none _)) (cwV 2 hts gL_law_X8_parcel rfl rfl rfl (by decide +kernel) ⟨Nat.le_of_ble_eq_true rfl, Nat.le_of_ble_eq_true rfl⟩) (preMV (q := (RX8, TX8, 15)) hPc hDc hK 0 rfl rfl) rfl rfl hl.1 rfl (lv_room (Nat.le_of_ble_eq_true rfl)) dL_law_580 ⟨by show _ ≤ 603072; omega, by show _ ≤ 7190634; omega⟩) hS (fun q _ h => hFc q h) hFc (fun r u t H1 locs ht hvm hw hB hz1 hk1 hS1 => ?_)
  obtain ⟨rfl, rfl⟩ := Prod.mk.inj (Option.some.inj hw)
  replace hB : va_P G vwCl (k_X8_parcel cA (ad 9) (ad 10) (ad 11) (ad 12) (ad 13) (ad 14) (ad 15) (ad 16) k_ (nI c) rea rpo isS (nI l_) ra rwr n) t.heap := hB
  rw [ht] at hB
  have hj := va_backP hp hP hD hk1 hB rfl
  have hp2 := gq_0 (E := (E8 cA (ad 9) (ad 10) (ad 11) (ad 12) (ad 13) (ad 14) (ad 15) (ad 16) gA k_ (nI c) rea rpo isS (nI l_) ra rwr n sv as ch bu nu)) (Ec := (k_X8_parcel cA (ad 9) (ad 10) (ad 11) (ad 12) (ad 13) (ad 14) (ad 15) (ad 16) k_ (nI c) rea rpo isS (nI l_) ra rwr n)) (Er := Er2) (B := (gblk cA gA gW)) (R := ((E7 cA (ad 0) aw ab ak (ad 1) (ad 2) hA (ad 3) (ad 4) (ad 5) (ad 6) isK lre lpo (nI dn, nI P, ar, fi, la, nb, pa, ro, nI D, dp, dg, de, dd, nI E, ek, eo, es, ef, el, nI L, nI K, lc, lm, lp, lr) mo B K0 (nI c) (nI x) (nI l_) ta tc ti tw tn ++ [((ad 7), .inl (cA 4, 1, .inr (.inl g'))), ((ad 8), .inl (cA 5, 1, .inr (.inr (.inr (.inl gd)))))]) ++ hblk cA hA hW)) (pick (n := 8) [0, 1] [2, 3, 4, 5, 6, 7] rfl (by decide +kernel) rfl (by rw [hEr2]; rfl))
  replace hP : va_P G vwCl (((E7 cA (ad 0) aw ab ak (ad 1) (ad 2) hA (ad 3) (ad 4) (ad 5) (ad 6) isK lre lpo (nI dn, nI P, ar, fi, la, nb, pa, ro, nI D, dp, dg, de, dd, nI E, ek, eo, es, ef, el, nI L, nI K, lc, lm, lp, lr) mo B K0 (nI c) (nI x) (nI l_) ta tc ti tw tn ++ [((ad 7), .inl (cA 4, 1, .inr (.inl g'))), ((ad 8), .inl (cA 5, 1, .inr (.inr (.inr (.inl gd)))))]) ++ hblk cA hA hW) ++ ((E8 cA (ad 9) (ad 10) (ad 11) (ad 12) (ad 13) (ad 14) (ad 15) (ad 16) gA k_ (nI c) rea rpo isS (nI l_) ra rwr n sv as ch bu nu) ++ gblk cA gA gW)) H1 := hj.1.perm hp2.symm
  replace hD : va_D _ (((E7 cA (ad 0) aw ab ak (ad 1) (ad 2) hA (ad 3) (ad 4) (ad 5) (ad 6) isK lre lpo (nI dn, nI P, ar, fi, la, nb, pa, ro, nI D, dp, dg, de, dd, nI E, ek, eo, es, ef, el, nI L, nI K, lc, lm, lp, lr) mo B K0 (nI c) (nI x) (nI l_) ta tc ti tw tn ++ [((ad 7), .inl (cA 4, 1, .inr (.inl g'))), ((ad 8), .inl (cA 5, 1, .inr (.inr (.inr (.inl gd)))))]) ++ hblk cA hA hW) ++ ((E8 cA (ad 9) (ad 10) (ad 11) (ad 12) (ad 13) (ad 14) (ad 15) (ad 16) gA k_ (nI c) rea rpo isS (nI l_) ra rwr n sv as ch bu nu) ++ gblk cA gA gW)) := hj.2.perm hp2.symm
  have hS := hS1
  clear hj hp hp2 hPc hDc hFc hB hk1 hEr2 hw
  generalize H1 = H at hP hS ht hz1 ⊢
  refine lv_istore (lv' := [(7, .int b_), (6, .int k_), (5, .int (nI i)), (4, .ref (ad 8)), (3, .ref (ad 7)), (2, .ref (ad 9)), (1, .ref (ad 0)), (0, .ref b)]) hx hb dL_law_583 hl (by decide) rfl (fun ls hl => ?_)
  refine lv_aload_n hx hb dL_law_585 rfl (lv_at hl 5 rfl) ?_
  refine vp_callSi (va_Run.run (va_runV (As := []) (rest := []) ⟨hx, hb, hml, hown, hts⟩ (c_X8_thrown l G cA (ad 9) (ad 10) (ad 11) (ad 12) (ad 13) (ad 14) (ad 15) (ad 16) k_ (nI c) rea rpo isS (nI l_) ra rwr _ (rfl : m_X8_thrown k_ = some k_) (Option.some_ne_none _)) (cwV 0 hts gL_law_X8_thrown rfl rfl rfl (by decide +kernel) ⟨Nat.le_of_ble_eq_true rfl, Nat.le_of_ble_eq_true rfl⟩) (preRV (q := (RX8, TX8, 15)) (hP.right.left.sub [0] rfl) hK 0 rfl rfl) rfl rfl hl.1 rfl (lv_room (Nat.le_of_ble_eq_true rfl)) dL_law_586 ⟨by show _ ≤ 603072; omega, by show _ ≤ 7190634; omega⟩)) (fun r hw => ?_)
  obtain rfl := Option.some.inj hw
  refine lv_iload hx hb dL_law_589 (lv_at hl 1 rfl) ?_
  refine lv_icmp_eq (tgt := 596) hx hb dL_law_591 (by decide) (fun _ => ?_) (fun c_0 => absurd rfl c_0)
  refine lv_iload hx hb dL_law_596 (lv_at hl 1 rfl) ?_
  refine lv_if_ne (tgt := 613) hx hb dL_law_598 (by decide) (fun c_3 => ?_) (fun c_3 => ?_)
  · refine lv_goto (tgt := 2652) hx hb dL_law_613 (by decide) ?_
    exact next _ _ _ _ ⟨P, D, E, L, K, dn, c, x, l_, ar, fi, la, nb, pa, ro, dp, dg, de, dd, ek, eo, es, ef, el, lc, lm, lp, lr, n, hW, gW, B, K0, isK, isS, lre, rea, lpo, rpo, ta, tc, k_, ra, rwr, mo, ti, tw, tn, sv, as, ch, bu, nu, g', gd, rfl, hWC, hHR, hRR, hPO, hSR, hTR⟩ hP hD hS (lv_sub hl [2, 3, 4, 5, 6, 7] rfl)
  · have hpost0 := hpost c_3
    refine lv_aload_n hx hb dL_law_601 rfl (lv_at hl 4 rfl) ?_
    refine lv_iconst (v := (0 : Int32)) hx hb dL_law_602 (by decide) ?_
    refine va_lald hx hb hK.1 hP 80 4 rfl rfl (ixi (i := (0 : Int32)) (n := 1) (by decide)) dL_law_603 ?_
    refine lv_iload hx hb dL_law_604 (lv_at hl 0 rfl) ?_
    refine lv_i2l hx hb dL_law_606 rfl ?_
    refine W.lcmp hx hb dL_law_607 ?_
    refine lv_if_eq (tgt := 613) hx hb dL_law_608 (by decide) (fun _ => ?_) (fun c_0 => absurd (by rw [show g' (0 : Int32).toNatClampNeg = b_.toInt64 from hpost0]; exact cmp_self _) c_0)
    refine lv_goto (tgt := 2652) hx hb dL_law_613 (by decide) ?_
    exact next _ _ _ _ ⟨P, D, E, L, K, dn, c, x, l_, ar, fi, la, nb, pa, ro, dp, dg, de, dd, ek, eo, es, ef, el, lc, lm, lp, lr, n, hW, gW, B, K0, isK, isS, lre, rea, lpo, rpo, ta, tc, k_, ra, rwr, mo, ti, tw, tn, sv, as, ch, bu, nu, g', gd, rfl, hWC, hHR, hRR, hPO, hSR, hTR⟩ hP hD hS (lv_sub hl [2, 3, 4, 5, 6, 7] rfl)

set_option maxHeartbeats 16000000 in
set_option maxRecDepth 100000 in
/-- origins -/
theorem law_origins {p : Program} {l : Launch} {e : Env} {s : State} {m : MethodId} {below : List Frame} {meth : Method} {cd : Code} {b Ls : Nat} {xs : Nat → Int32} {z : Nat → Nat} {G : va_G} {cA : Nat → ClassId} {ad aw ab ak : Nat → Nat} {hA : Nat → Nat → Nat} {gA : Nat → Nat} (C0 : LC p l s m cd b Ls xs z G cA) {i nn kk : Nat} (hi : i + 4 < Ls) (hL : Ls ≤ 2560) (hn : nn + 1 ≤ 603072) (hk : kk + 6 ≤ 7190634) (next : LNext p l e s m below meth cd b G cA ad aw ab ak hA gA i (nn + 1) (kk + 6)) {ws : va_W} {H : Heap} {locs : List Loc} {ls : Array Slot} (hI : LSt cA ad aw ab ak hA gA ws) (hP : va_P G vwCl ws H) (hD : va_D (fun q : Nat => s.heap.size ≤ q) ws) (hS : va_S (fun q : Nat => s.heap.size ≤ q) s.heap H locs) (hl : lv_has ls 9 [(5, .int (nI i)), (4, .ref (ad 8)), (3, .ref (ad 7)), (2, .ref (ad 9)), (1, .ref (ad 0)), (0, .ref b)]) : W p l e room_1 s m #[Value.ref b] below meth cd H locs nn kk (lw_Z below #[Value.ref b] s) (F0 m 616 ls []) := by
  obtain ⟨hx, hb, hml, hown, hts, hX, hbl, hK, hT, hO, hfl⟩ := C0
  have hbA : ¬ (fun q : Nat => s.heap.size ≤ q) b := Nat.not_le.mpr hbl
  have hA0 : ∀ q : Nat, s.heap.size ≤ q → (fun q : Nat => s.heap.size ≤ q) q := fun _ h => h
  have h_in1 : vp_in (nI i + (1 : Int32)) Ls := by rw [show nI i + (1 : Int32) = nI (i + 1) from nI_add i 1]; exact vp_in_nI (by omega) (by omega)
  have h_in2 : vp_in (nI i + (2 : Int32)) Ls := by rw [show nI i + (2 : Int32) = nI (i + 2) from nI_add i 2]; exact vp_in_nI (by omega) (by omega)
  have h_in3 : vp_in (nI i + (3 : Int32)) Ls := by rw [show nI i + (3 : Int32) = nI (i + 3) from nI_add i 3]; exact vp_in_nI (by omega) (by omega)
  have h_in4 : vp_in (nI i + (4 : Int32)) Ls := by rw [show nI i + (4 : Int32) = nI (i + 4) from nI_add i 4]; exact vp_in_nI (by omega) (by omega)
  obtain ⟨P, D, E, L, K, dn, c, x, l_, ar, fi, la, nb, pa, ro, dp, dg, de, dd, ek, eo, es, ef, el, lc, lm, lp, lr, n, hW, gW, B, K0, isK, isS, lre, rea, lpo, rpo, ta, tc, thr, ra, rwr, mo, ti, tw, tn, sv, as, ch, bu, nu, g, gd, rfl, hWC, hHR, hRR, hPO, hSR, hTR⟩ := hI
  refine lv_aload_n hx hb dL_law_616 rfl (lv_at hl 4 rfl) ?_
  refine lv_aload_n hx hb dL_law_617 rfl (lv_at hl 5 rfl) ?_
  refine lv_iload hx hb dL_law_618 (lv_at hl 0 rfl) ?_
  refine lv_iconst (v := (1 : Int32)) hx hb dL_law_620 (by decide) ?_
  refine lv_iadd hx hb dL_law_621 ?_
  refine va_sld hx hb hX hbl hbA hS h_in1 dL_law_622 ?_
  refine lv_aload_n hx hb dL_law_623 rfl (lv_at hl 2 rfl) ?_
  obtain ⟨k_, b_, g', hop1, hop2, hpost⟩ := op_origins hWC (xs (nI i + (1 : Int32)).toNatClampNeg) g
  obtain ⟨Er1, hEr1⟩ : ∃ z, z = pk (E7 cA (ad 0) aw ab ak (ad 1) (ad 2) hA (ad 3) (ad 4) (ad 5) (ad 6) isK lre lpo (nI dn, nI P, ar, fi, la, nb, pa, ro, nI D, dp, dg, de, dd, nI E, ek, eo, es, ef, el, nI L, nI K, lc, lm, lp, lr) mo B K0 (nI c) (nI x) (nI l_) ta tc ti tw tn ++ [((ad 7), .inl (cA 4, 1, .inr (.inl g))), ((ad 8), .inl (cA 5, 1, .inr (.inr (.inr (.inl gd)))))]) [3, 4, 5, 6, 8, 9, 10, 11, 12, 13, 14, 15, 16, 17, 18, 19, 20, 21, 22, 23, 24, 25, 26, 27, 28, 29, 30, 31, 32, 33, 34, 35, 36, 37, 38, 39, 40, 41, 42, 43, 44, 45, 46, 47, 48, 49, 50, 51, 52, 53, 54, 55, 56, 57, 58, 59, 60, 61, 62, 63, 64, 65, 66, 67, 68, 69, 70, 71, 72, 73, 74, 75, 76, 77, 78, 79, 81] := ⟨_, rfl⟩
  have hp := gl_0 (E := (E7 cA (ad 0) aw ab ak (ad 1) (ad 2) hA (ad 3) (ad 4) (ad 5) (ad 6) isK lre lpo (nI dn, nI P, ar, fi, la, nb, pa, ro, nI D, dp, dg, de, dd, nI E, ek, eo, es, ef, el, nI L, nI K, lc, lm, lp, lr) mo B K0 (nI c) (nI x) (nI l_) ta tc ti tw tn ++ [((ad 7), .inl (cA 4, 1, .inr (.inl g))), ((ad 8), .inl (cA 5, 1, .inr (.inr (.inr (.inl gd)))))])) (Ec := (k_L_origins cA (ad 0) (aw 0) (ab 0) (ak 0) (ad 1) (ad 3) (aw 1) (aw 8) (aw 14) (aw 20) (aw 2) (aw 3) (aw 4) (aw 5) (aw 6) (aw 7) (ad 7) isK lre lpo (nI dn) (nI P) pa g)) (Er := Er1) (B := (hblk cA hA hW)) (R := ((E8 cA (ad 9) (ad 10) (ad 11) (ad 12) (ad 13) (ad 14) (ad 15) (ad 16) gA thr (nI c) rea rpo isS (nI l_) ra rwr n sv as ch bu nu) ++ gblk cA gA gW)) (pick (n := 82) [0, 1, 2, 7, 80] [3, 4, 5, 6, 8, 9, 10, 11, 12, 13, 14, 15, 16, 17, 18, 19, 20, 21, 22, 23, 24, 25, 26, 27, 28, 29, 30, 31, 32, 33, 34, 35, 36, 37, 38, 39, 40, 41, 42, 43, 44, 45, 46, 47, 48, 49, 50, 51, 52, 53, 54, 55, 56, 57, 58, 59, 60, 61, 62, 63, 64, 65, 66, 67, 68, 69, 70, 71, 72, 73, 74, 75, 76, 77, 78, 79, 81] rfl (by decide +kernel) rfl hEr1.symm)
  have hPc : va_P G vwCl (k_L_origins cA (ad 0) (aw 0) (ab 0) (ak 0) (ad 1) (ad 3) (aw 1) (aw 8) (aw 14) (aw 20) (aw 2) (aw 3) (aw 4) (aw 5) (aw 6) (aw 7) (ad 7) isK lre lpo (nI dn) (nI P) pa g) H := (hP.perm hp).left
  have hDc : va_D _ (k_L_origins cA (ad 0) (aw 0) (ab 0) (ak 0) (ad 1) (ad 3) (aw 1) (aw 8) (aw 14) (aw 20) (aw 2) (aw 3) (aw 4) (aw 5) (aw 6) (aw 7) (ad 7) isK lre lpo (nI dn) (nI P) pa g) := (hD.perm hp).left
  have hFc := va_freePm hp hD hS hA0
  refine va_calli (vx_runSW (As := [.ref (ad 0), .int (xs (nI i + (1 : Int32)).toNatClampNeg), .ref (ad 7)]) (rest := []) ⟨hx, hb, hml, hown, hts⟩ (c_L_origins l hfl z G cA (ad 0) (aw 0) (ab 0) (ak 0) (ad 1) (ad 3) (aw 1) (aw 8) (aw 14) (aw 20) (aw 2) (aw 3) (aw 4) (aw 5) (aw 6) (aw 7) (ad 7) H.size (xs (nI i + (1 : Int32)).toNatClampNeg) isK lre lpo (nI dn) (nI P) pa g _ hop1 (Option.some_ne_none _)) (vx_cwSW 3 hts gL_law_L_origins rfl rfl rfl (by decide +kernel) ⟨Nat.le_of_ble_eq_true rfl, Nat.le_of_ble_eq_true rfl⟩) (preMSo hPc hDc hK hT hO hS hFc) rfl rfl hl.1 rfl (lv_room (Nat.le_of_ble_eq_true rfl)) dL_law_624 ⟨hn, hk⟩) hS (fun q _ h => hFc q h) hFc (fun r u t H1 locs ht hvm hw hB hz1 hk1 hS1 => ?_)
  obtain ⟨rfl, rfl⟩ := Prod.mk.inj (Option.some.inj hw)
  replace hB : va_P G vwCl (k_L_origins cA (ad 0) (aw 0) (ab 0) (ak 0) (ad 1) (ad 3) (aw 1) (aw 8) (aw 14) (aw 20) (aw 2) (aw 3) (aw 4) (aw 5) (aw 6) (aw 7) (ad 7) isK lre lpo (nI dn) (nI P) pa g') t.heap := hB
  rw [ht] at hB
  have hj := va_backP hp hP hD hk1 hB rfl
  have hp2 := gl_0 (E := (E7 cA (ad 0) aw ab ak (ad 1) (ad 2) hA (ad 3) (ad 4) (ad 5) (ad 6) isK lre lpo (nI dn, nI P, ar, fi, la, nb, pa, ro, nI D, dp, dg, de, dd, nI E, ek, eo, es, ef, el, nI L, nI K, lc, lm, lp, lr) mo B K0 (nI c) (nI x) (nI l_) ta tc ti tw tn ++ [((ad 7), .inl (cA 4, 1, .inr (.inl g'))), ((ad 8), .inl (cA 5, 1, .inr (.inr (.inr (.inl gd)))))])) (Ec := (k_L_origins cA (ad 0) (aw 0) (ab 0) (ak 0) (ad 1) (ad 3) (aw 1) (aw 8) (aw 14) (aw 20) (aw 2) (aw 3) (aw 4) (aw 5) (aw 6) (aw 7) (ad 7) isK lre lpo (nI dn) (nI P) pa g')) (Er := Er1) (B := (hblk cA hA hW)) (R := ((E8 cA (ad 9) (ad 10) (ad 11) (ad 12) (ad 13) (ad 14) (ad 15) (ad 16) gA thr (nI c) rea rpo isS (nI l_) ra rwr n sv as ch bu nu) ++ gblk cA gA gW)) (pick (n := 82) [0, 1, 2, 7, 80] [3, 4, 5, 6, 8, 9, 10, 11, 12, 13, 14, 15, 16, 17, 18, 19, 20, 21, 22, 23, 24, 25, 26, 27, 28, 29, 30, 31, 32, 33, 34, 35, 36, 37, 38, 39, 40, 41, 42, 43, 44, 45, 46, 47, 48, 49, 50, 51, 52, 53, 54, 55, 56, 57, 58, 59, 60, 61, 62, 63, 64, 65, 66, 67, 68, 69, 70, 71, 72, 73, 74, 75, 76, 77, 78, 79, 81] rfl (by decide +kernel) rfl (by rw [hEr1]; exact pk_e0 (n := 80) _ rfl (by decide)))
  replace hP : va_P G vwCl (((E7 cA (ad 0) aw ab ak (ad 1) (ad 2) hA (ad 3) (ad 4) (ad 5) (ad 6) isK lre lpo (nI dn, nI P, ar, fi, la, nb, pa, ro, nI D, dp, dg, de, dd, nI E, ek, eo, es, ef, el, nI L, nI K, lc, lm, lp, lr) mo B K0 (nI c) (nI x) (nI l_) ta tc ti tw tn ++ [((ad 7), .inl (cA 4, 1, .inr (.inl g'))), ((ad 8), .inl (cA 5, 1, .inr (.inr (.inr (.inl gd)))))]) ++ hblk cA hA hW) ++ ((E8 cA (ad 9) (ad 10) (ad 11) (ad 12) (ad 13) (ad 14) (ad 15) (ad 16) gA thr (nI c) rea rpo isS (nI l_) ra rwr n sv as ch bu nu) ++ gblk cA gA gW)) H1 := hj.1.perm hp2.symm
  replace hD : va_D _ (((E7 cA (ad 0) aw ab ak (ad 1) (ad 2) hA (ad 3) (ad 4) (ad 5) (ad 6) isK lre lpo (nI dn, nI P, ar, fi, la, nb, pa, ro, nI D, dp, dg, de, dd, nI E, ek, eo, es, ef, el, nI L, nI K, lc, lm, lp, lr) mo B K0 (nI c) (nI x) (nI l_) ta tc ti tw tn ++ [((ad 7), .inl (cA 4, 1, .inr (.inl g'))), ((ad 8), .inl (cA 5, 1, .inr (.inr (.inr (.inl gd)))))]) ++ hblk cA hA hW) ++ ((E8 cA (ad 9) (ad 10) (ad 11) (ad 12) (ad 13) (ad 14) (ad 15) (ad 16) gA thr (nI c) rea rpo isS (nI l_) ra rwr n sv as ch bu nu) ++ gblk cA gA gW)) := hj.2.perm hp2.symm
  have hS := hS1
  clear hj hp hp2 hPc hDc hFc hB hk1 hEr1 hw
  generalize H1 = H at hP hS ht hz1 ⊢
  refine lv_istore (lv' := [(6, .int k_), (5, .int (nI i)), (4, .ref (ad 8)), (3, .ref (ad 7)), (2, .ref (ad 9)), (1, .ref (ad 0)), (0, .ref b)]) hx hb dL_law_627 hl (by decide) rfl (fun ls hl => ?_)
  refine lv_aload_n hx hb dL_law_629 rfl (lv_at hl 4 rfl) ?_
  refine lv_aload_n hx hb dL_law_630 rfl (lv_at hl 6 rfl) ?_
  refine lv_iload hx hb dL_law_631 (lv_at hl 1 rfl) ?_
  refine lv_iconst (v := (1 : Int32)) hx hb dL_law_633 (by decide) ?_
  refine lv_iadd hx hb dL_law_634 ?_
  refine va_sld hx hb hX hbl hbA hS h_in1 dL_law_635 ?_
  obtain ⟨Er2, hEr2⟩ : ∃ z, z = pk (E8 cA (ad 9) (ad 10) (ad 11) (ad 12) (ad 13) (ad 14) (ad 15) (ad 16) gA thr (nI c) rea rpo isS (nI l_) ra rwr n sv as ch bu nu) [2, 3, 4, 5, 6, 7] := ⟨_, rfl⟩
  have hp := gq_0 (E := (E8 cA (ad 9) (ad 10) (ad 11) (ad 12) (ad 13) (ad 14) (ad 15) (ad 16) gA thr (nI c) rea rpo isS (nI l_) ra rwr n sv as ch bu nu)) (Ec := (k_X8_origins cA (ad 9) (ad 10) (ad 11) (ad 12) (ad 13) (ad 14) (ad 15) (ad 16) thr (nI c) rea rpo isS (nI l_) ra rwr n)) (Er := Er2) (B := (gblk cA gA gW)) (R := ((E7 cA (ad 0) aw ab ak (ad 1) (ad 2) hA (ad 3) (ad 4) (ad 5) (ad 6) isK lre lpo (nI dn, nI P, ar, fi, la, nb, pa, ro, nI D, dp, dg, de, dd, nI E, ek, eo, es, ef, el, nI L, nI K, lc, lm, lp, lr) mo B K0 (nI c) (nI x) (nI l_) ta tc ti tw tn ++ [((ad 7), .inl (cA 4, 1, .inr (.inl g'))), ((ad 8), .inl (cA 5, 1, .inr (.inr (.inr (.inl gd)))))]) ++ hblk cA hA hW)) (pick (n := 8) [0, 1] [2, 3, 4, 5, 6, 7] rfl (by decide +kernel) rfl hEr2.symm)
  have hPc : va_P G vwCl (k_X8_origins cA (ad 9) (ad 10) (ad 11) (ad 12) (ad 13) (ad 14) (ad 15) (ad 16) thr (nI c) rea rpo isS (nI l_) ra rwr n) H := (hP.perm hp).left
  have hDc : va_D _ (k_X8_origins cA (ad 9) (ad 10) (ad 11) (ad 12) (ad 13) (ad 14) (ad 15) (ad 16) thr (nI c) rea rpo isS (nI l_) ra rwr n) := (hD.perm hp).left
  have hFc := va_freePm hp hD hS hA0
  refine va_calli (va_runV (As := [.int (xs (nI i + (1 : Int32)).toNatClampNeg)]) (rest := []) ⟨hx, hb, hml, hown, hts⟩ (c_X8_origins l G cA (ad 9) (ad 10) (ad 11) (ad 12) (ad 13) (ad 14) (ad 15) (ad 16) H.size (xs (nI i + (1 : Int32)).toNatClampNeg) thr (nI c) rea rpo isS (nI l_) ra rwr n _ hop2 (Option.some_ne_none _)) (cwV 1 hts gL_law_X8_origins rfl rfl rfl (by decide +kernel) ⟨Nat.le_of_ble_eq_true rfl, Nat.le_of_ble_eq_true rfl⟩) (preMV (q := (RX8, TX8, 15)) hPc hDc hK 0 rfl rfl) rfl rfl hl.1 rfl (lv_room (Nat.le_of_ble_eq_true rfl)) dL_law_636 ⟨by show _ ≤ 603072; omega, by show _ ≤ 7190634; omega⟩) hS (fun q _ h => hFc q h) hFc (fun r u t H1 locs ht hvm hw hB hz1 hk1 hS1 => ?_)
  obtain ⟨rfl, rfl⟩ := Prod.mk.inj (Option.some.inj hw)
  replace hB : va_P G vwCl (k_X8_origins cA (ad 9) (ad 10) (ad 11) (ad 12) (ad 13) (ad 14) (ad 15) (ad 16) k_ (nI c) rea rpo isS (nI l_) ra rwr n) t.heap := hB
  rw [ht] at hB
  have hj := va_backP hp hP hD hk1 hB rfl
  have hp2 := gq_0 (E := (E8 cA (ad 9) (ad 10) (ad 11) (ad 12) (ad 13) (ad 14) (ad 15) (ad 16) gA k_ (nI c) rea rpo isS (nI l_) ra rwr n sv as ch bu nu)) (Ec := (k_X8_origins cA (ad 9) (ad 10) (ad 11) (ad 12) (ad 13) (ad 14) (ad 15) (ad 16) k_ (nI c) rea rpo isS (nI l_) ra rwr n)) (Er := Er2) (B := (gblk cA gA gW)) (R := ((E7 cA (ad 0) aw ab ak (ad 1) (ad 2) hA (ad 3) (ad 4) (ad 5) (ad 6) isK lre lpo (nI dn, nI P, ar, fi, la, nb, pa, ro, nI D, dp, dg, de, dd, nI E, ek, eo, es, ef, el, nI L, nI K, lc, lm, lp, lr) mo B K0 (nI c) (nI x) (nI l_) ta tc ti tw tn ++ [((ad 7), .inl (cA 4, 1, .inr (.inl g'))), ((ad 8), .inl (cA 5, 1, .inr (.inr (.inr (.inl gd)))))]) ++ hblk cA hA hW)) (pick (n := 8) [0, 1] [2, 3, 4, 5, 6, 7] rfl (by decide +kernel) rfl (by rw [hEr2]; rfl))
  replace hP : va_P G vwCl (((E7 cA (ad 0) aw ab ak (ad 1) (ad 2) hA (ad 3) (ad 4) (ad 5) (ad 6) isK lre lpo (nI dn, nI P, ar, fi, la, nb, pa, ro, nI D, dp, dg, de, dd, nI E, ek, eo, es, ef, el, nI L, nI K, lc, lm, lp, lr) mo B K0 (nI c) (nI x) (nI l_) ta tc ti tw tn ++ [((ad 7), .inl (cA 4, 1, .inr (.inl g'))), ((ad 8), .inl (cA 5, 1, .inr (.inr (.inr (.inl gd)))))]) ++ hblk cA hA hW) ++ ((E8 cA (ad 9) (ad 10) (ad 11) (ad 12) (ad 13) (ad 14) (ad 15) (ad 16) gA k_ (nI c) rea rpo isS (nI l_) ra rwr n sv as ch bu nu) ++ gblk cA gA gW)) H1 := hj.1.perm hp2.symm
  replace hD : va_D _ (((E7 cA (ad 0) aw ab ak (ad 1) (ad 2) hA (ad 3) (ad 4) (ad 5) (ad 6) isK lre lpo (nI dn, nI P, ar, fi, la, nb, pa, ro, nI D, dp, dg, de, dd, nI E, ek, eo, es, ef, el, nI L, nI K, lc, lm, lp, lr) mo B K0 (nI c) (nI x) (nI l_) ta tc ti tw tn ++ [((ad 7), .inl (cA 4, 1, .inr (.inl g'))), ((ad 8), .inl (cA 5, 1, .inr (.inr (.inr (.inl gd)))))]) ++ hblk cA hA hW) ++ ((E8 cA (ad 9) (ad 10) (ad 11) (ad 12) (ad 13) (ad 14) (ad 15) (ad 16) gA k_ (nI c) rea rpo isS (nI l_) ra rwr n sv as ch bu nu) ++ gblk cA gA gW)) := hj.2.perm hp2.symm
  have hS := hS1
  clear hj hp hp2 hPc hDc hFc hB hk1 hEr2 hw
  generalize H1 = H at hP hS ht hz1 ⊢
  refine lv_istore (lv' := [(7, .int b_), (6, .int k_), (5, .int (nI i)), (4, .ref (ad 8)), (3, .ref (ad 7)), (2, .ref (ad 9)), (1, .ref (ad 0)), (0, .ref b)]) hx hb dL_law_639 hl (by decide) rfl (fun ls hl => ?_)
  refine lv_aload_n hx hb dL_law_641 rfl (lv_at hl 5 rfl) ?_
  refine vp_callSi (va_Run.run (va_runV (As := []) (rest := []) ⟨hx, hb, hml, hown, hts⟩ (c_X8_thrown l G cA (ad 9) (ad 10) (ad 11) (ad 12) (ad 13) (ad 14) (ad 15) (ad 16) k_ (nI c) rea rpo isS (nI l_) ra rwr _ (rfl : m_X8_thrown k_ = some k_) (Option.some_ne_none _)) (cwV 0 hts gL_law_X8_thrown rfl rfl rfl (by decide +kernel) ⟨Nat.le_of_ble_eq_true rfl, Nat.le_of_ble_eq_true rfl⟩) (preRV (q := (RX8, TX8, 15)) (hP.right.left.sub [0] rfl) hK 0 rfl rfl) rfl rfl hl.1 rfl (lv_room (Nat.le_of_ble_eq_true rfl)) dL_law_642 ⟨by show _ ≤ 603072; omega, by show _ ≤ 7190634; omega⟩)) (fun r hw => ?_)
  obtain rfl := Option.some.inj hw
  refine lv_iload hx hb dL_law_645 (lv_at hl 1 rfl) ?_
  refine lv_icmp_eq (tgt := 652) hx hb dL_law_647 (by decide) (fun _ => ?_) (fun c_0 => absurd rfl c_0)
  refine lv_iload hx hb dL_law_652 (lv_at hl 1 rfl) ?_
  refine lv_if_ne (tgt := 669) hx hb dL_law_654 (by decide) (fun c_3 => ?_) (fun c_3 => ?_)
  · refine lv_goto (tgt := 2652) hx hb dL_law_669 (by decide) ?_
    exact next _ _ _ _ ⟨P, D, E, L, K, dn, c, x, l_, ar, fi, la, nb, pa, ro, dp, dg, de, dd, ek, eo, es, ef, el, lc, lm, lp, lr, n, hW, gW, B, K0, isK, isS, lre, rea, lpo, rpo, ta, tc, k_, ra, rwr, mo, ti, tw, tn, sv, as, ch, bu, nu, g', gd, rfl, hWC, hHR, hRR, hPO, hSR, hTR⟩ hP hD hS (lv_sub hl [2, 3, 4, 5, 6, 7] rfl)
  · have hpost0 := hpost c_3
    refine lv_aload_n hx hb dL_law_657 rfl (lv_at hl 4 rfl) ?_
    refine lv_iconst (v := (0 : Int32)) hx hb dL_law_658 (by decide) ?_
    refine va_lald hx hb hK.1 hP 80 4 rfl rfl (ixi (i := (0 : Int32)) (n := 1) (by decide)) dL_law_659 ?_
    refine lv_iload hx hb dL_law_660 (lv_at hl 0 rfl) ?_
    refine lv_i2l hx hb dL_law_662 rfl ?_
    refine W.lcmp hx hb dL_law_663 ?_
    refine lv_if_eq (tgt := 669) hx hb dL_law_664 (by decide) (fun _ => ?_) (fun c_0 => absurd (by rw [show g' (0 : Int32).toNatClampNeg = b_.toInt64 from hpost0]; exact cmp_self _) c_0)
    refine lv_goto (tgt := 2652) hx hb dL_law_669 (by decide) ?_
    exact next _ _ _ _ ⟨P, D, E, L, K, dn, c, x, l_, ar, fi, la, nb, pa, ro, dp, dg, de, dd, ek, eo, es, ef, el, lc, lm, lp, lr, n, hW, gW, B, K0, isK, isS, lre, rea, lpo, rpo, ta, tc, k_, ra, rwr, mo, ti, tw, tn, sv, as, ch, bu, nu, g', gd, rfl, hWC, hHR, hRR, hPO, hSR, hTR⟩ hP hD hS (lv_sub hl [2, 3, 4, 5, 6, 7] rfl)

set_option maxHeartbeats 16000000 in
set_option maxRecDepth 100000 in
/-- remains -/
theorem law_remains {p : Program} {l : Launch} {e : Env} {s : State} {m : MethodId} {below : List Frame} {meth : Method} {cd : Code} {b Ls : Nat} {xs : Nat → Int32} {z : Nat → Nat} {G : va_G} {cA : Nat → ClassId} {ad aw ab ak : Nat → Nat} {hA : Nat → Nat → Nat} {gA : Nat → Nat} (C0 : LC p l s m cd b Ls xs z G cA) {i nn kk : Nat} (hi : i + 4 < Ls) (hL : Ls ≤ 2560) (hn : nn + 1 ≤ 603072) (hk : kk + 6 ≤ 7190634) (next : LNext p l e s m below meth cd b G cA ad aw ab ak hA gA i (nn + 1) (kk + 6)) {ws : va_W} {H : Heap} {locs : List Loc} {ls : Array Slot} (hI : LSt cA ad aw ab ak hA gA ws) (hP : va_P G vwCl ws H) (hD : va_D (fun q : Nat => s.heap.size ≤ q) ws) (hS : va_S (fun q : Nat => s.heap.size ≤ q) s.heap H locs) (hl : lv_has ls 9 [(5, .int (nI i)), (4, .ref (ad 8)), (3, .ref (ad 7)), (2, .ref (ad 9)), (1, .ref (ad 0)), (0, .ref b)]) : W p l e room_1 s m #[Value.ref b] below meth cd H locs nn kk (lw_Z below #[Value.ref b] s) (F0 m 672 ls []) := by
  obtain ⟨hx, hb, hml, hown, hts, hX, hbl, hK, hT, hO, hfl⟩ := C0
  have hbA : ¬ (fun q : Nat => s.heap.size ≤ q) b := Nat.not_le.mpr hbl
  have hA0 : ∀ q : Nat, s.heap.size ≤ q → (fun q : Nat => s.heap.size ≤ q) q := fun _ h => h
  have h_in1 : vp_in (nI i + (1 : Int32)) Ls := by rw [show nI i + (1 : Int32) = nI (i + 1) from nI_add i 1]; exact vp_in_nI (by omega) (by omega)
  have h_in2 : vp_in (nI i + (2 : Int32)) Ls := by rw [show nI i + (2 : Int32) = nI (i + 2) from nI_add i 2]; exact vp_in_nI (by omega) (by omega)
  have h_in3 : vp_in (nI i + (3 : Int32)) Ls := by rw [show nI i + (3 : Int32) = nI (i + 3) from nI_add i 3]; exact vp_in_nI (by omega) (by omega)
  have h_in4 : vp_in (nI i + (4 : Int32)) Ls := by rw [show nI i + (4 : Int32) = nI (i + 4) from nI_add i 4]; exact vp_in_nI (by omega) (by omega)
  obtain ⟨P, D, E, L, K, dn, c, x, l_, ar, fi, la, nb, pa, ro, dp, dg, de, dd, ek, eo, es, ef, el, lc, lm, lp, lr, n, hW, gW, B, K0, isK, isS, lre, rea, lpo, rpo, ta, tc, thr, ra, rwr, mo, ti, tw, tn, sv, as, ch, bu, nu, g, gd, rfl, hWC, hHR, hRR, hPO, hSR, hTR⟩ := hI
  refine lv_aload_n hx hb dL_law_672 rfl (lv_at hl 4 rfl) ?_
  refine lv_aload_n hx hb dL_law_673 rfl (lv_at hl 5 rfl) ?_
  refine lv_iload hx hb dL_law_674 (lv_at hl 0 rfl) ?_
  refine lv_iconst (v := (1 : Int32)) hx hb dL_law_676 (by decide) ?_
  refine lv_iadd hx hb dL_law_677 ?_
  refine va_sld hx hb hX hbl hbA hS h_in1 dL_law_678 ?_
  refine lv_aload_n hx hb dL_law_679 rfl (lv_at hl 2 rfl) ?_
  obtain ⟨k_, b_, g', hop1, hop2, hpost⟩ := op_remains hWC (xs (nI i + (1 : Int32)).toNatClampNeg) g
  obtain ⟨Er1, hEr1⟩ : ∃ z, z = pk (E7 cA (ad 0) aw ab ak (ad 1) (ad 2) hA (ad 3) (ad 4) (ad 5) (ad 6) isK lre lpo (nI dn, nI P, ar, fi, la, nb, pa, ro, nI D, dp, dg, de, dd, nI E, ek, eo, es, ef, el, nI L, nI K, lc, lm, lp, lr) mo B K0 (nI c) (nI x) (nI l_) ta tc ti tw tn ++ [((ad 7), .inl (cA 4, 1, .inr (.inl g))), ((ad 8), .inl (cA 5, 1, .inr (.inr (.inr (.inl gd)))))]) [3, 4, 6, 8, 9, 10, 11, 12, 13, 14, 15, 16, 17, 18, 19, 20, 21, 22, 23, 24, 25, 26, 27, 28, 29, 30, 31, 32, 33, 34, 35, 36, 37, 38, 39, 40, 41, 42, 43, 44, 45, 46, 47, 48, 49, 50, 51, 52, 53, 54, 55, 56, 57, 58, 59, 60, 61, 62, 63, 64, 65, 66, 67, 68, 69, 70, 71, 72, 73, 74, 75, 76, 77, 78, 79, 81] := ⟨_, rfl⟩
  have hp := gl_0 (E := (E7 cA (ad 0) aw ab ak (ad 1) (ad 2) hA (ad 3) (ad 4) (ad 5) (ad 6) isK lre lpo (nI dn, nI P, ar, fi, la, nb, pa, ro, nI D, dp, dg, de, dd, nI E, ek, eo, es, ef, el, nI L, nI K, lc, lm, lp, lr) mo B K0 (nI c) (nI x) (nI l_) ta tc ti tw tn ++ [((ad 7), .inl (cA 4, 1, .inr (.inl g))), ((ad 8), .inl (cA 5, 1, .inr (.inr (.inr (.inl gd)))))])) (Ec := (k_L_remains cA (ad 0) (aw 0) (ab 0) (ak 0) (ad 1) (ad 3) (aw 1) (aw 8) (aw 14) (aw 20) (aw 2) (aw 3) (aw 4) (aw 5) (aw 6) (aw 7) (ad 7) isK lre lpo (nI dn) (nI P) la pa g)) (Er := Er1) (B := (hblk cA hA hW)) (R := ((E8 cA (ad 9) (ad 10) (ad 11) (ad 12) (ad 13) (ad 14) (ad 15) (ad 16) gA thr (nI c) rea rpo isS (nI l_) ra rwr n sv as ch bu nu) ++ gblk cA gA gW)) (pick (n := 82) [0, 1, 2, 5, 7, 80] [3, 4, 6, 8, 9, 10, 11, 12, 13, 14, 15, 16, 17, 18, 19, 20, 21, 22, 23, 24, 25, 26, 27, 28, 29, 30, 31, 32, 33, 34, 35, 36, 37, 38, 39, 40, 41, 42, 43, 44, 45, 46, 47, 48, 49, 50, 51, 52, 53, 54, 55, 56, 57, 58, 59, 60, 61, 62, 63, 64, 65, 66, 67, 68, 69, 70, 71, 72, 73, 74, 75, 76, 77, 78, 79, 81] rfl (by decide +kernel) rfl hEr1.symm)
  have hPc : va_P G vwCl (k_L_remains cA (ad 0) (aw 0) (ab 0) (ak 0) (ad 1) (ad 3) (aw 1) (aw 8) (aw 14) (aw 20) (aw 2) (aw 3) (aw 4) (aw 5) (aw 6) (aw 7) (ad 7) isK lre lpo (nI dn) (nI P) la pa g) H := (hP.perm hp).left
  have hDc : va_D _ (k_L_remains cA (ad 0) (aw 0) (ab 0) (ak 0) (ad 1) (ad 3) (aw 1) (aw 8) (aw 14) (aw 20) (aw 2) (aw 3) (aw 4) (aw 5) (aw 6) (aw 7) (ad 7) isK lre lpo (nI dn) (nI P) la pa g) := (hD.perm hp).left
  have hFc := va_freePm hp hD hS hA0
  refine va_calli (vx_runSW (As := [.ref (ad 0), .int (xs (nI i + (1 : Int32)).toNatClampNeg), .ref (ad 7)]) (rest := []) ⟨hx, hb, hml, hown, hts⟩ (c_L_remains l hfl z G cA (ad 0) (aw 0) (ab 0) (ak 0) (ad 1) (ad 3) (aw 1) (aw 8) (aw 14) (aw 20) (aw 2) (aw 3) (aw 4) (aw 5) (aw 6) (aw 7) (ad 7) H.size (xs (nI i + (1 : Int32)).toNatClampNeg) isK lre lpo (nI dn) (nI P) la pa g _ hop1 (Option.some_ne_none _)) (vx_cwSW 3 hts gL_law_L_remains rfl rfl rfl (by decide +kernel) ⟨Nat.le_of_ble_eq_true rfl, Nat.le_of_ble_eq_true rfl⟩) (preMSo hPc hDc hK hT hO hS hFc) rfl rfl hl.1 rfl (lv_room (Nat.le_of_ble_eq_true rfl)) dL_law_680 ⟨hn, hk⟩) hS (fun q _ h => hFc q h) hFc (fun r u t H1 locs ht hvm hw hB hz1 hk1 hS1 => ?_)
  obtain ⟨rfl, rfl⟩ := Prod.mk.inj (Option.some.inj hw)
  replace hB : va_P G vwCl (k_L_remains cA (ad 0) (aw 0) (ab 0) (ak 0) (ad 1) (ad 3) (aw 1) (aw 8) (aw 14) (aw 20) (aw 2) (aw 3) (aw 4) (aw 5) (aw 6) (aw 7) (ad 7) isK lre lpo (nI dn) (nI P) la pa g') t.heap := hB
  rw [ht] at hB
  have hj := va_backP hp hP hD hk1 hB rfl
  have hp2 := gl_0 (E := (E7 cA (ad 0) aw ab ak (ad 1) (ad 2) hA (ad 3) (ad 4) (ad 5) (ad 6) isK lre lpo (nI dn, nI P, ar, fi, la, nb, pa, ro, nI D, dp, dg, de, dd, nI E, ek, eo, es, ef, el, nI L, nI K, lc, lm, lp, lr) mo B K0 (nI c) (nI x) (nI l_) ta tc ti tw tn ++ [((ad 7), .inl (cA 4, 1, .inr (.inl g'))), ((ad 8), .inl (cA 5, 1, .inr (.inr (.inr (.inl gd)))))])) (Ec := (k_L_remains cA (ad 0) (aw 0) (ab 0) (ak 0) (ad 1) (ad 3) (aw 1) (aw 8) (aw 14) (aw 20) (aw 2) (aw 3) (aw 4) (aw 5) (aw 6) (aw 7) (ad 7) isK lre lpo (nI dn) (nI P) la pa g')) (Er := Er1) (B := (hblk cA hA hW)) (R := ((E8 cA (ad 9) (ad 10) (ad 11) (ad 12) (ad 13) (ad 14) (ad 15) (ad 16) gA thr (nI c) rea rpo isS (nI l_) ra rwr n sv as ch bu nu) ++ gblk cA gA gW)) (pick (n := 82) [0, 1, 2, 5, 7, 80] [3, 4, 6, 8, 9, 10, 11, 12, 13, 14, 15, 16, 17, 18, 19, 20, 21, 22, 23, 24, 25, 26, 27, 28, 29, 30, 31, 32, 33, 34, 35, 36, 37, 38, 39, 40, 41, 42, 43, 44, 45, 46, 47, 48, 49, 50, 51, 52, 53, 54, 55, 56, 57, 58, 59, 60, 61, 62, 63, 64, 65, 66, 67, 68, 69, 70, 71, 72, 73, 74, 75, 76, 77, 78, 79, 81] rfl (by decide +kernel) rfl (by rw [hEr1]; exact pk_e0 (n := 80) _ rfl (by decide)))
  replace hP : va_P G vwCl (((E7 cA (ad 0) aw ab ak (ad 1) (ad 2) hA (ad 3) (ad 4) (ad 5) (ad 6) isK lre lpo (nI dn, nI P, ar, fi, la, nb, pa, ro, nI D, dp, dg, de, dd, nI E, ek, eo, es, ef, el, nI L, nI K, lc, lm, lp, lr) mo B K0 (nI c) (nI x) (nI l_) ta tc ti tw tn ++ [((ad 7), .inl (cA 4, 1, .inr (.inl g'))), ((ad 8), .inl (cA 5, 1, .inr (.inr (.inr (.inl gd)))))]) ++ hblk cA hA hW) ++ ((E8 cA (ad 9) (ad 10) (ad 11) (ad 12) (ad 13) (ad 14) (ad 15) (ad 16) gA thr (nI c) rea rpo isS (nI l_) ra rwr n sv as ch bu nu) ++ gblk cA gA gW)) H1 := hj.1.perm hp2.symm
  replace hD : va_D _ (((E7 cA (ad 0) aw ab ak (ad 1) (ad 2) hA (ad 3) (ad 4) (ad 5) (ad 6) isK lre lpo (nI dn, nI P, ar, fi, la, nb, pa, ro, nI D, dp, dg, de, dd, nI E, ek, eo, es, ef, el, nI L, nI K, lc, lm, lp, lr) mo B K0 (nI c) (nI x) (nI l_) ta tc ti tw tn ++ [((ad 7), .inl (cA 4, 1, .inr (.inl g'))), ((ad 8), .inl (cA 5, 1, .inr (.inr (.inr (.inl gd)))))]) ++ hblk cA hA hW) ++ ((E8 cA (ad 9) (ad 10) (ad 11) (ad 12) (ad 13) (ad 14) (ad 15) (ad 16) gA thr (nI c) rea rpo isS (nI l_) ra rwr n sv as ch bu nu) ++ gblk cA gA gW)) := hj.2.perm hp2.symm
  have hS := hS1
  clear hj hp hp2 hPc hDc hFc hB hk1 hEr1 hw
  generalize H1 = H at hP hS ht hz1 ⊢
  refine lv_istore (lv' := [(6, .int k_), (5, .int (nI i)), (4, .ref (ad 8)), (3, .ref (ad 7)), (2, .ref (ad 9)), (1, .ref (ad 0)), (0, .ref b)]) hx hb dL_law_683 hl (by decide) rfl (fun ls hl => ?_)
  refine lv_aload_n hx hb dL_law_685 rfl (lv_at hl 4 rfl) ?_
  refine lv_aload_n hx hb dL_law_686 rfl (lv_at hl 6 rfl) ?_
  refine lv_iload hx hb dL_law_687 (lv_at hl 1 rfl) ?_
  refine lv_iconst (v := (1 : Int32)) hx hb dL_law_689 (by decide) ?_
  refine lv_iadd hx hb dL_law_690 ?_
  refine va_sld hx hb hX hbl hbA hS h_in1 dL_law_691 ?_
  obtain ⟨Er2, hEr2⟩ : ∃ z, z = pk (E8 cA (ad 9) (ad 10) (ad 11) (ad 12) (ad 13) (ad 14) (ad 15) (ad 16) gA thr (nI c) rea rpo isS (nI l_) ra rwr n sv as ch bu nu) [2, 3, 4, 5, 6, 7] := ⟨_, rfl⟩
  have hp := gq_0 (E := (E8 cA (ad 9) (ad 10) (ad 11) (ad 12) (ad 13) (ad 14) (ad 15) (ad 16) gA thr (nI c) rea rpo isS (nI l_) ra rwr n sv as ch bu nu)) (Ec := (k_X8_remains cA (ad 9) (ad 10) (ad 11) (ad 12) (ad 13) (ad 14) (ad 15) (ad 16) thr (nI c) rea rpo isS (nI l_) ra rwr n)) (Er := Er2) (B := (gblk cA gA gW)) (R := ((E7 cA (ad 0) aw ab ak (ad 1) (ad 2) hA (ad 3) (ad 4) (ad 5) (ad 6) isK lre lpo (nI dn, nI P, ar, fi, la, nb, pa, ro, nI D, dp, dg, de, dd, nI E, ek, eo, es, ef, el, nI L, nI K, lc, lm, lp, lr) mo B K0 (nI c) (nI x) (nI l_) ta tc ti tw tn ++ [((ad 7), .inl (cA 4, 1, .inr (.inl g'))), ((ad 8), .inl (cA 5, 1, .inr (.inr (.inr (.inl gd)))))]) ++ hblk cA hA hW)) (pick (n := 8) [0, 1] [2, 3, 4, 5, 6, 7] rfl (by decide +kernel) rfl hEr2.symm)
  have hPc : va_P G vwCl (k_X8_remains cA (ad 9) (ad 10) (ad 11) (ad 12) (ad 13) (ad 14) (ad 15) (ad 16) thr (nI c) rea rpo isS (nI l_) ra rwr n) H := (hP.perm hp).left
  have hDc : va_D _ (k_X8_remains cA (ad 9) (ad 10) (ad 11) (ad 12) (ad 13) (ad 14) (ad 15) (ad 16) thr (nI c) rea rpo isS (nI l_) ra rwr n) := (hD.perm hp).left
  have hFc := va_freePm hp hD hS hA0
  refine va_calli (va_runV (As := [.int (xs (nI i + (1 : Int32)).toNatClampNeg)]) (rest := []) ⟨hx, hb, hml, hown, hts⟩ (c_X8_remains l G cA (ad 9) (ad 10) (ad 11) (ad 12) (ad 13) (ad 14) (ad 15) (ad 16) H.size (xs (nI i + (1 : Int32)).toNatClampNeg) thr (nI c) rea rpo isS (nI l_) ra rwr n _ hop2 (Option.some_ne_none _)) (cwV 1 hts gL_law_X8_remains rfl rfl rfl (by decide +kernel) ⟨Nat.le_of_ble_eq_true rfl, Nat.le_of_ble_eq_true rfl⟩) (preMV (q := (RX8, TX8, 15)) hPc hDc hK 0 rfl rfl) rfl rfl hl.1 rfl (lv_room (Nat.le_of_ble_eq_true rfl)) dL_law_692 ⟨by show _ ≤ 603072; omega, by show _ ≤ 7190634; omega⟩) hS (fun q _ h => hFc q h) hFc (fun r u t H1 locs ht hvm hw hB hz1 hk1 hS1 => ?_)
  obtain ⟨rfl, rfl⟩ := Prod.mk.inj (Option.some.inj hw)
  replace hB : va_P G vwCl (k_X8_remains cA (ad 9) (ad 10) (ad 11) (ad 12) (ad 13) (ad 14) (ad 15) (ad 16) k_ (nI c) rea rpo isS (nI l_) ra rwr n) t.heap := hB
  rw [ht] at hB
  have hj := va_backP hp hP hD hk1 hB rfl
  have hp2 := gq_0 (E := (E8 cA (ad 9) (ad 10) (ad 11) (ad 12) (ad 13) (ad 14) (ad 15) (ad 16) gA k_ (nI c) rea rpo isS (nI l_) ra rwr n sv as ch bu nu)) (Ec := (k_X8_remains cA (ad 9) (ad 10) (ad 11) (ad 12) (ad 13) (ad 14) (ad 15) (ad 16) k_ (nI c) rea rpo isS (nI l_) ra rwr n)) (Er := Er2) (B := (gblk cA gA gW)) (R := ((E7 cA (ad 0) aw ab ak (ad 1) (ad 2) hA (ad 3) (ad 4) (ad 5) (ad 6) isK lre lpo (nI dn, nI P, ar, fi, la, nb, pa, ro, nI D, dp, dg, de, dd, nI E, ek, eo, es, ef, el, nI L, nI K, lc, lm, lp, lr) mo B K0 (nI c) (nI x) (nI l_) ta tc ti tw tn ++ [((ad 7), .inl (cA 4, 1, .inr (.inl g'))), ((ad 8), .inl (cA 5, 1, .inr (.inr (.inr (.inl gd)))))]) ++ hblk cA hA hW)) (pick (n := 8) [0, 1] [2, 3, 4, 5, 6, 7] rfl (by decide +kernel) rfl (by rw [hEr2]; rfl))
  replace hP : va_P G vwCl (((E7 cA (ad 0) aw ab ak (ad 1) (ad 2) hA (ad 3) (ad 4) (ad 5) (ad 6) isK lre lpo (nI dn, nI P, ar, fi, la, nb, pa, ro, nI D, dp, dg, de, dd, nI E, ek, eo, es, ef, el, nI L, nI K, lc, lm, lp, lr) mo B K0 (nI c) (nI x) (nI l_) ta tc ti tw tn ++ [((ad 7), .inl (cA 4, 1, .inr (.inl g'))), ((ad 8), .inl (cA 5, 1, .inr (.inr (.inr (.inl gd)))))]) ++ hblk cA hA hW) ++ ((E8 cA (ad 9) (ad 10) (ad 11) (ad 12) (ad 13) (ad 14) (ad 15) (ad 16) gA k_ (nI c) rea rpo isS (nI l_) ra rwr n sv as ch bu nu) ++ gblk cA gA gW)) H1 := hj.1.perm hp2.symm
  replace hD : va_D _ (((E7 cA (ad 0) aw ab ak (ad 1) (ad 2) hA (ad 3) (ad 4) (ad 5) (ad 6) isK lre lpo (nI dn, nI P, ar, fi, la, nb, pa, ro, nI D, dp, dg, de, dd, nI E, ek, eo, es, ef, el, nI L, nI K, lc, lm, lp, lr) mo B K0 (nI c) (nI x) (nI l_) ta tc ti tw tn ++ [((ad 7), .inl (cA 4, 1, .inr (.inl g'))), ((ad 8), .inl (cA 5, 1, .inr (.inr (.inr (.inl gd)))))]) ++ hblk cA hA hW) ++ ((E8 cA (ad 9) (ad 10) (ad 11) (ad 12) (ad 13) (ad 14) (ad 15) (ad 16) gA k_ (nI c) rea rpo isS (nI l_) ra rwr n sv as ch bu nu) ++ gblk cA gA gW)) := hj.2.perm hp2.symm
  have hS := hS1
  clear hj hp hp2 hPc hDc hFc hB hk1 hEr2 hw
  generalize H1 = H at hP hS ht hz1 ⊢
  refine lv_istore (lv' := [(7, .int b_), (6, .int k_), (5, .int (nI i)), (4, .ref (ad 8)), (3, .ref (ad 7)), (2, .ref (ad 9)), (1, .ref (ad 0)), (0, .ref b)]) hx hb dL_law_695 hl (by decide) rfl (fun ls hl => ?_)
  refine lv_aload_n hx hb dL_law_697 rfl (lv_at hl 5 rfl) ?_
  refine vp_callSi (va_Run.run (va_runV (As := []) (rest := []) ⟨hx, hb, hml, hown, hts⟩ (c_X8_thrown l G cA (ad 9) (ad 10) (ad 11) (ad 12) (ad 13) (ad 14) (ad 15) (ad 16) k_ (nI c) rea rpo isS (nI l_) ra rwr _ (rfl : m_X8_thrown k_ = some k_) (Option.some_ne_none _)) (cwV 0 hts gL_law_X8_thrown rfl rfl rfl (by decide +kernel) ⟨Nat.le_of_ble_eq_true rfl, Nat.le_of_ble_eq_true rfl⟩) (preRV (q := (RX8, TX8, 15)) (hP.right.left.sub [0] rfl) hK 0 rfl rfl) rfl rfl hl.1 rfl (lv_room (Nat.le_of_ble_eq_true rfl)) dL_law_698 ⟨by show _ ≤ 603072; omega, by show _ ≤ 7190634; omega⟩)) (fun r hw => ?_)
  obtain rfl := Option.some.inj hw
  refine lv_iload hx hb dL_law_701 (lv_at hl 1 rfl) ?_
  refine lv_icmp_eq (tgt := 708) hx hb dL_law_703 (by decide) (fun _ => ?_) (fun c_0 => absurd rfl c_0)
  refine lv_iload hx hb dL_law_708 (lv_at hl 1 rfl) ?_
  refine lv_if_ne (tgt := 725) hx hb dL_law_710 (by decide) (fun c_3 => ?_) (fun c_3 => ?_)
  · refine lv_goto (tgt := 2652) hx hb dL_law_725 (by decide) ?_
    exact next _ _ _ _ ⟨P, D, E, L, K, dn, c, x, l_, ar, fi, la, nb, pa, ro, dp, dg, de, dd, ek, eo, es, ef, el, lc, lm, lp, lr, n, hW, gW, B, K0, isK, isS, lre, rea, lpo, rpo, ta, tc, k_, ra, rwr, mo, ti, tw, tn, sv, as, ch, bu, nu, g', gd, rfl, hWC, hHR, hRR, hPO, hSR, hTR⟩ hP hD hS (lv_sub hl [2, 3, 4, 5, 6, 7] rfl)
  · have hpost0 := hpost c_3
    refine lv_aload_n hx hb dL_law_713 rfl (lv_at hl 4 rfl) ?_
    refine lv_iconst (v := (0 : Int32)) hx hb dL_law_714 (by decide) ?_
    refine va_lald hx hb hK.1 hP 80 4 rfl rfl (ixi (i := (0 : Int32)) (n := 1) (by decide)) dL_law_715 ?_
    refine lv_iload hx hb dL_law_716 (lv_at hl 0 rfl) ?_
    refine lv_i2l hx hb dL_law_718 rfl ?_
    refine W.lcmp hx hb dL_law_719 ?_
    refine lv_if_eq (tgt := 725) hx hb dL_law_720 (by decide) (fun _ => ?_) (fun c_0 => absurd (by rw [show g' (0 : Int32).toNatClampNeg = b_.toInt64 from hpost0]; exact cmp_self _) c_0)
    refine lv_goto (tgt := 2652) hx hb dL_law_725 (by decide) ?_
    exact next _ _ _ _ ⟨P, D, E, L, K, dn, c, x, l_, ar, fi, la, nb, pa, ro, dp, dg, de, dd, ek, eo, es, ef, el, lc, lm, lp, lr, n, hW, gW, B, K0, isK, isS, lre, rea, lpo, rpo, ta, tc, k_, ra, rwr, mo, ti, tw, tn, sv, as, ch, bu, nu, g', gd, rfl, hWC, hHR, hRR, hPO, hSR, hTR⟩ hP hD hS (lv_sub hl [2, 3, 4, 5, 6, 7] rfl)

set_option maxHeartbeats 16000000 in
set_option maxRecDepth 100000 in
/-- borders -/
theorem law_borders {p : Program} {l : Launch} {e : Env} {s : State} {m : MethodId} {below : List Frame} {meth : Method} {cd : Code} {b Ls : Nat} {xs : Nat → Int32} {z : Nat → Nat} {G : va_G} {cA : Nat → ClassId} {ad aw ab ak : Nat → Nat} {hA : Nat → Nat → Nat} {gA : Nat → Nat} (C0 : LC p l s m cd b Ls xs z G cA) {i nn kk : Nat} (hi : i + 4 < Ls) (hL : Ls ≤ 2560) (hn : nn + 1 ≤ 603072) (hk : kk + 6 ≤ 7190634) (next : LNext p l e s m below meth cd b G cA ad aw ab ak hA gA i (nn + 1) (kk + 6)) {ws : va_W} {H : Heap} {locs : List Loc} {ls : Array Slot} (hI : LSt cA ad aw ab ak hA gA ws) (hP : va_P G vwCl ws H) (hD : va_D (fun q : Nat => s.heap.size ≤ q) ws) (hS : va_S (fun q : Nat => s.heap.size ≤ q) s.heap H locs) (hl : lv_has ls 9 [(5, .int (nI i)), (4, .ref (ad 8)), (3, .ref (ad 7)), (2, .ref (ad 9)), (1, .ref (ad 0)), (0, .ref b)]) : W p l e room_1 s m #[Value.ref b] below meth cd H locs nn kk (lw_Z below #[Value.ref b] s) (F0 m 728 ls []) := by
  obtain ⟨hx, hb, hml, hown, hts, hX, hbl, hK, hT, hO, hfl⟩ := C0
  have hbA : ¬ (fun q : Nat => s.heap.size ≤ q) b := Nat.not_le.mpr hbl
  have hA0 : ∀ q : Nat, s.heap.size ≤ q → (fun q : Nat => s.heap.size ≤ q) q := fun _ h => h
  have h_in1 : vp_in (nI i + (1 : Int32)) Ls := by rw [show nI i + (1 : Int32) = nI (i + 1) from nI_add i 1]; exact vp_in_nI (by omega) (by omega)
  have h_in2 : vp_in (nI i + (2 : Int32)) Ls := by rw [show nI i + (2 : Int32) = nI (i + 2) from nI_add i 2]; exact vp_in_nI (by omega) (by omega)
  have h_in3 : vp_in (nI i + (3 : Int32)) Ls := by rw [show nI i + (3 : Int32) = nI (i + 3) from nI_add i 3]; exact vp_in_nI (by omega) (by omega)
  have h_in4 : vp_in (nI i + (4 : Int32)) Ls := by rw [show nI i + (4 : Int32) = nI (i + 4) from nI_add i 4]; exact vp_in_nI (by omega) (by omega)
  obtain ⟨P, D, E, L, K, dn, c, x, l_, ar, fi, la, nb, pa, ro, dp, dg, de, dd, ek, eo, es, ef, el, lc, lm, lp, lr, n, hW, gW, B, K0, isK, isS, lre, rea, lpo, rpo, ta, tc, thr, ra, rwr, mo, ti, tw, tn, sv, as, ch, bu, nu, g, gd, rfl, hWC, hHR, hRR, hPO, hSR, hTR⟩ := hI
  refine lv_aload_n hx hb dL_law_728 rfl (lv_at hl 4 rfl) ?_
  refine lv_aload_n hx hb dL_law_729 rfl (lv_at hl 5 rfl) ?_
  refine lv_iload hx hb dL_law_730 (lv_at hl 0 rfl) ?_
  refine lv_iconst (v := (1 : Int32)) hx hb dL_law_732 (by decide) ?_
  refine lv_iadd hx hb dL_law_733 ?_
  refine va_sld hx hb hX hbl hbA hS h_in1 dL_law_734 ?_
  refine lv_aload_n hx hb dL_law_735 rfl (lv_at hl 5 rfl) ?_
  refine lv_iload hx hb dL_law_736 (lv_at hl 0 rfl) ?_
  refine lv_iconst (v := (2 : Int32)) hx hb dL_law_738 (by decide) ?_
  refine lv_iadd hx hb dL_law_739 ?_
  refine va_sld hx hb hX hbl hbA hS h_in2 dL_law_740 ?_
  refine lv_aload_n hx hb dL_law_741 rfl (lv_at hl 2 rfl) ?_
  obtain ⟨k_, b_, g', hop1, hop2, hpost⟩ := op_borders hWC (xs (nI i + (1 : Int32)).toNatClampNeg) (xs (nI i + (2 : Int32)).toNatClampNeg) g
  obtain ⟨Er1, hEr1⟩ : ∃ z, z = pk (E7 cA (ad 0) aw ab ak (ad 1) (ad 2) hA (ad 3) (ad 4) (ad 5) (ad 6) isK lre lpo (nI dn, nI P, ar, fi, la, nb, pa, ro, nI D, dp, dg, de, dd, nI E, ek, eo, es, ef, el, nI L, nI K, lc, lm, lp, lr) mo B K0 (nI c) (nI x) (nI l_) ta tc ti tw tn ++ [((ad 7), .inl (cA 4, 1, .inr (.inl g))), ((ad 8), .inl (cA 5, 1, .inr (.inr (.inr (.inl gd)))))]) [3, 4, 7, 8, 9, 10, 11, 12, 13, 14, 15, 16, 17, 18, 19, 20, 21, 22, 23, 24, 25, 26, 27, 28, 29, 30, 31, 32, 33, 34, 35, 36, 37, 38, 39, 40, 41, 42, 43, 44, 45, 46, 47, 48, 49, 50, 51, 52, 53, 54, 55, 56, 57, 58, 59, 60, 61, 62, 63, 64, 65, 66, 67, 68, 69, 70, 71, 72, 73, 74, 75, 76, 77, 78, 79, 81] := ⟨_, rfl⟩
  have hp := gl_0 (E := (E7 cA (ad 0) aw ab ak (ad 1) (ad 2) hA (ad 3) (ad 4) (ad 5) (ad 6) isK lre lpo (nI dn, nI P, ar, fi, la, nb, pa, ro, nI D, dp, dg, de, dd, nI E, ek, eo, es, ef, el, nI L, nI K, lc, lm, lp, lr) mo B K0 (nI c) (nI x) (nI l_) ta tc ti tw tn ++ [((ad 7), .inl (cA 4, 1, .inr (.inl g))), ((ad 8), .inl (cA 5, 1, .inr (.inr (.inr (.inl gd)))))])) (Ec := (k_L_borders cA (ad 0) (aw 0) (ab 0) (ak 0) (ad 1) (ad 3) (aw 1) (aw 8) (aw 14) (aw 20) (aw 2) (aw 3) (aw 4) (aw 5) (aw 6) (aw 7) (ad 7) isK lre lpo (nI dn) (nI P) la nb g)) (Er := Er1) (B := (hblk cA hA hW)) (R := ((E8 cA (ad 9) (ad 10) (ad 11) (ad 12) (ad 13) (ad 14) (ad 15) (ad 16) gA thr (nI c) rea rpo isS (nI l_) ra rwr n sv as ch bu nu) ++ gblk cA gA gW)) (pick (n := 82) [0, 1, 2, 5, 6, 80] [3, 4, 7, 8, 9, 10, 11, 12, 13, 14, 15, 16, 17, 18, 19, 20, 21, 22, 23, 24, 25, 26, 27, 28, 29, 30, 31, 32, 33, 34, 35, 36, 37, 38, 39, 40, 41, 42, 43, 44, 45, 46, 47, 48, 49, 50, 51, 52, 53, 54, 55, 56, 57, 58, 59, 60, 61, 62, 63, 64, 65, 66, 67, 68, 69, 70, 71, 72, 73, 74, 75, 76, 77, 78, 79, 81] rfl (by decide +kernel) rfl hEr1.symm)
  have hPc : va_P G vwCl (k_L_borders cA (ad 0) (aw 0) (ab 0) (ak 0) (ad 1) (ad 3) (aw 1) (aw 8) (aw 14) (aw 20) (aw 2) (aw 3) (aw 4) (aw 5) (aw 6) (aw 7) (ad 7) isK lre lpo (nI dn) (nI P) la nb g) H := (hP.perm hp).left
  have hDc : va_D _ (k_L_borders cA (ad 0) (aw 0) (ab 0) (ak 0) (ad 1) (ad 3) (aw 1) (aw 8) (aw 14) (aw 20) (aw 2) (aw 3) (aw 4) (aw 5) (aw 6) (aw 7) (ad 7) isK lre lpo (nI dn) (nI P) la nb g) := (hD.perm hp).left
  have hFc := va_freePm hp hD hS hA0
  refine va_calli (vx_runSW (As := [.ref (ad 0), .int (xs (nI i + (1 : Int32)).toNatClampNeg), .int (xs (nI i + (2 : Int32)).toNatClampNeg), .ref (ad 7)]) (rest := []) ⟨hx, hb, hml, hown, hts⟩ (c_L_borders l hfl z G cA (ad 0) (aw 0) (ab 0) (ak 0) (ad 1) (ad 3) (aw 1) (aw 8) (aw 14) (aw 20) (aw 2) (aw 3) (aw 4) (aw 5) (aw 6) (aw 7) (ad 7) H.size (xs (nI i + (1 : Int32)).toNatClampNeg) (xs (nI i + (2 : Int32)).toNatClampNeg) isK lre lpo (nI dn) (nI P) la nb g _ hop1 (Option.some_ne_none _)) (vx_cwSW 4 hts gL_law_L_borders rfl rfl rfl (by decide +kernel) ⟨Nat.le_of_ble_eq_true rfl, Nat.le_of_ble_eq_true rfl⟩) (preMSo hPc hDc hK hT hO hS hFc) rfl rfl hl.1 rfl (lv_room (Nat.le_of_ble_eq_true rfl)) dL_law_742 ⟨hn, hk⟩) hS (fun q _ h => hFc q h) hFc (fun r u t H1 locs ht hvm hw hB hz1 hk1 hS1 => ?_)
  obtain ⟨rfl, rfl⟩ := Prod.mk.inj (Option.some.inj hw)
  replace hB : va_P G vwCl (k_L_borders cA (ad 0) (aw 0) (ab 0) (ak 0) (ad 1) (ad 3) (aw 1) (aw 8) (aw 14) (aw 20) (aw 2) (aw 3) (aw 4) (aw 5) (aw 6) (aw 7) (ad 7) isK lre lpo (nI dn) (nI P) la nb g') t.heap := hB
  rw [ht] at hB
  have hj := va_backP hp hP hD hk1 hB rfl
  have hp2 := gl_0 (E := (E7 cA (ad 0) aw ab ak (ad 1) (ad 2) hA (ad 3) (ad 4) (ad 5) (ad 6) isK lre lpo (nI dn, nI P, ar, fi, la, nb, pa, ro, nI D, dp, dg, de, dd, nI E, ek, eo, es, ef, el, nI L, nI K, lc, lm, lp, lr) mo B K0 (nI c) (nI x) (nI l_) ta tc ti tw tn ++ [((ad 7), .inl (cA 4, 1, .inr (.inl g'))), ((ad 8), .inl (cA 5, 1, .inr (.inr (.inr (.inl gd)))))])) (Ec := (k_L_borders cA (ad 0) (aw 0) (ab 0) (ak 0) (ad 1) (ad 3) (aw 1) (aw 8) (aw 14) (aw 20) (aw 2) (aw 3) (aw 4) (aw 5) (aw 6) (aw 7) (ad 7) isK lre lpo (nI dn) (nI P) la nb g')) (Er := Er1) (B := (hblk cA hA hW)) (R := ((E8 cA (ad 9) (ad 10) (ad 11) (ad 12) (ad 13) (ad 14) (ad 15) (ad 16) gA thr (nI c) rea rpo isS (nI l_) ra rwr n sv as ch bu nu) ++ gblk cA gA gW)) (pick (n := 82) [0, 1, 2, 5, 6, 80] [3, 4, 7, 8, 9, 10, 11, 12, 13, 14, 15, 16, 17, 18, 19, 20, 21, 22, 23, 24, 25, 26, 27, 28, 29, 30, 31, 32, 33, 34, 35, 36, 37, 38, 39, 40, 41, 42, 43, 44, 45, 46, 47, 48, 49, 50, 51, 52, 53, 54, 55, 56, 57, 58, 59, 60, 61, 62, 63, 64, 65, 66, 67, 68, 69, 70, 71, 72, 73, 74, 75, 76, 77, 78, 79, 81] rfl (by decide +kernel) rfl (by rw [hEr1]; exact pk_e0 (n := 80) _ rfl (by decide)))
  replace hP : va_P G vwCl (((E7 cA (ad 0) aw ab ak (ad 1) (ad 2) hA (ad 3) (ad 4) (ad 5) (ad 6) isK lre lpo (nI dn, nI P, ar, fi, la, nb, pa, ro, nI D, dp, dg, de, dd, nI E, ek, eo, es, ef, el, nI L, nI K, lc, lm, lp, lr) mo B K0 (nI c) (nI x) (nI l_) ta tc ti tw tn ++ [((ad 7), .inl (cA 4, 1, .inr (.inl g'))), ((ad 8), .inl (cA 5, 1, .inr (.inr (.inr (.inl gd)))))]) ++ hblk cA hA hW) ++ ((E8 cA (ad 9) (ad 10) (ad 11) (ad 12) (ad 13) (ad 14) (ad 15) (ad 16) gA thr (nI c) rea rpo isS (nI l_) ra rwr n sv as ch bu nu) ++ gblk cA gA gW)) H1 := hj.1.perm hp2.symm
  replace hD : va_D _ (((E7 cA (ad 0) aw ab ak (ad 1) (ad 2) hA (ad 3) (ad 4) (ad 5) (ad 6) isK lre lpo (nI dn, nI P, ar, fi, la, nb, pa, ro, nI D, dp, dg, de, dd, nI E, ek, eo, es, ef, el, nI L, nI K, lc, lm, lp, lr) mo B K0 (nI c) (nI x) (nI l_) ta tc ti tw tn ++ [((ad 7), .inl (cA 4, 1, .inr (.inl g'))), ((ad 8), .inl (cA 5, 1, .inr (.inr (.inr (.inl gd)))))]) ++ hblk cA hA hW) ++ ((E8 cA (ad 9) (ad 10) (ad 11) (ad 12) (ad 13) (ad 14) (ad 15) (ad 16) gA thr (nI c) rea rpo isS (nI l_) ra rwr n sv as ch bu nu) ++ gblk cA gA gW)) := hj.2.perm hp2.symm
  have hS := hS1
  clear hj hp hp2 hPc hDc hFc hB hk1 hEr1 hw
  generalize H1 = H at hP hS ht hz1 ⊢
  refine lv_istore (lv' := [(6, .int k_), (5, .int (nI i)), (4, .ref (ad 8)), (3, .ref (ad 7)), (2, .ref (ad 9)), (1, .ref (ad 0)), (0, .ref b)]) hx hb dL_law_745 hl (by decide) rfl (fun ls hl => ?_)
  refine lv_aload_n hx hb dL_law_747 rfl (lv_at hl 4 rfl) ?_
  refine lv_aload_n hx hb dL_law_748 rfl (lv_at hl 6 rfl) ?_
  refine lv_iload hx hb dL_law_749 (lv_at hl 1 rfl) ?_
  refine lv_iconst (v := (1 : Int32)) hx hb dL_law_751 (by decide) ?_
  refine lv_iadd hx hb dL_law_752 ?_
  refine va_sld hx hb hX hbl hbA hS h_in1 dL_law_753 ?_
  refine lv_aload_n hx hb dL_law_754 rfl (lv_at hl 6 rfl) ?_
  refine lv_iload hx hb dL_law_755 (lv_at hl 1 rfl) ?_
  refine lv_iconst (v := (2 : Int32)) hx hb dL_law_757 (by decide) ?_
  refine lv_iadd hx hb dL_law_758 ?_
  refine va_sld hx hb hX hbl hbA hS h_in2 dL_law_759 ?_
  obtain ⟨Er2, hEr2⟩ : ∃ z, z = pk (E8 cA (ad 9) (ad 10) (ad 11) (ad 12) (ad 13) (ad 14) (ad 15) (ad 16) gA thr (nI c) rea rpo isS (nI l_) ra rwr n sv as ch bu nu) [2, 3, 4, 5, 6, 7] := ⟨_, rfl⟩
  have hp := gq_0 (E := (E8 cA (ad 9) (ad 10) (ad 11) (ad 12) (ad 13) (ad 14) (ad 15) (ad 16) gA thr (nI c) rea rpo isS (nI l_) ra rwr n sv as ch bu nu)) (Ec := (k_X8_borders cA (ad 9) (ad 10) (ad 11) (ad 12) (ad 13) (ad 14) (ad 15) (ad 16) thr (nI c) rea rpo isS (nI l_) ra rwr n)) (Er := Er2) (B := (gblk cA gA gW)) (R := ((E7 cA (ad 0) aw ab ak (ad 1) (ad 2) hA (ad 3) (ad 4) (ad 5) (ad 6) isK lre lpo (nI dn, nI P, ar, fi, la, nb, pa, ro, nI D, dp, dg, de, dd, nI E, ek, eo, es, ef, el, nI L, nI K, lc, lm, lp, lr) mo B K0 (nI c) (nI x) (nI l_) ta tc ti tw tn ++ [((ad 7), .inl (cA 4, 1, .inr (.inl g'))), ((ad 8), .inl (cA 5, 1, .inr (.inr (.inr (.inl gd)))))]) ++ hblk cA hA hW)) (pick (n := 8) [0, 1] [2, 3, 4, 5, 6, 7] rfl (by decide +kernel) rfl hEr2.symm)
  have hPc : va_P G vwCl (k_X8_borders cA (ad 9) (ad 10) (ad 11) (ad 12) (ad 13) (ad 14) (ad 15) (ad 16) thr (nI c) rea rpo isS (nI l_) ra rwr n) H := (hP.perm hp).left
  have hDc : va_D _ (k_X8_borders cA (ad 9) (ad 10) (ad 11) (ad 12) (ad 13) (ad 14) (ad 15) (ad 16) thr (nI c) rea rpo isS (nI l_) ra rwr n) := (hD.perm hp).left
  have hFc := va_freePm hp hD hS hA0
  refine va_calli (va_runV (As := [.int (xs (nI i + (1 : Int32)).toNatClampNeg), .int (xs (nI i + (2 : Int32)).toNatClampNeg)]) (rest := []) ⟨hx, hb, hml, hown, hts⟩ (c_X8_borders l G cA (ad 9) (ad 10) (ad 11) (ad 12) (ad 13) (ad 14) (ad 15) (ad 16) H.size (xs (nI i + (1 : Int32)).toNatClampNeg) (xs (nI i + (2 : Int32)).toNatClampNeg) thr (nI c) rea rpo isS (nI l_) ra rwr n _ hop2 (Option.some_ne_none _)) (cwV 2 hts gL_law_X8_borders rfl rfl rfl (by decide +kernel) ⟨Nat.le_of_ble_eq_true rfl, Nat.le_of_ble_eq_true rfl⟩) (preMV (q := (RX8, TX8, 15)) hPc hDc hK 0 rfl rfl) rfl rfl hl.1 rfl (lv_room (Nat.le_of_ble_eq_true rfl)) dL_law_760 ⟨by show _ ≤ 603072; omega, by show _ ≤ 7190634; omega⟩) hS (fun q _ h => hFc q h) hFc (fun r u t H1 locs ht hvm hw hB hz1 hk1 hS1 => ?_)
  obtain ⟨rfl, rfl⟩ := Prod.mk.inj (Option.some.inj hw)
  replace hB : va_P G vwCl (k_X8_borders cA (ad 9) (ad 10) (ad 11) (ad 12) (ad 13) (ad 14) (ad 15) (ad 16) k_ (nI c) rea rpo isS (nI l_) ra rwr n) t.heap := hB
  rw [ht] at hB
  have hj := va_backP hp hP hD hk1 hB rfl
  have hp2 := gq_0 (E := (E8 cA (ad 9) (ad 10) (ad 11) (ad 12) (ad 13) (ad 14) (ad 15) (ad 16) gA k_ (nI c) rea rpo isS (nI l_) ra rwr n sv as ch bu nu)) (Ec := (k_X8_borders cA (ad 9) (ad 10) (ad 11) (ad 12) (ad 13) (ad 14) (ad 15) (ad 16) k_ (nI c) rea rpo isS (nI l_) ra rwr n)) (Er := Er2) (B := (gblk cA gA gW)) (R := ((E7 cA (ad 0) aw ab ak (ad 1) (ad 2) hA (ad 3) (ad 4) (ad 5) (ad 6) isK lre lpo (nI dn, nI P, ar, fi, la, nb, pa, ro, nI D, dp, dg, de, dd, nI E, ek, eo, es, ef, el, nI L, nI K, lc, lm, lp, lr) mo B K0 (nI c) (nI x) (nI l_) ta tc ti tw tn ++ [((ad 7), .inl (cA 4, 1, .inr (.inl g'))), ((ad 8), .inl (cA 5, 1, .inr (.inr (.inr (.inl gd)))))]) ++ hblk cA hA hW)) (pick (n := 8) [0, 1] [2, 3, 4, 5, 6, 7] rfl (by decide +kernel) rfl (by rw [hEr2]; rfl))
  replace hP : va_P G vwCl (((E7 cA (ad 0) aw ab ak (ad 1) (ad 2) hA (ad 3) (ad 4) (ad 5) (ad 6) isK lre lpo (nI dn, nI P, ar, fi, la, nb, pa, ro, nI D, dp, dg, de, dd, nI E, ek, eo, es, ef, el, nI L, nI K, lc, lm, lp, lr) mo B K0 (nI c) (nI x) (nI l_) ta tc ti tw tn ++ [((ad 7), .inl (cA 4, 1, .inr (.inl g'))), ((ad 8), .inl (cA 5, 1, .inr (.inr (.inr (.inl gd)))))]) ++ hblk cA hA hW) ++ ((E8 cA (ad 9) (ad 10) (ad 11) (ad 12) (ad 13) (ad 14) (ad 15) (ad 16) gA k_ (nI c) rea rpo isS (nI l_) ra rwr n sv as ch bu nu) ++ gblk cA gA gW)) H1 := hj.1.perm hp2.symm
  replace hD : va_D _ (((E7 cA (ad 0) aw ab ak (ad 1) (ad 2) hA (ad 3) (ad 4) (ad 5) (ad 6) isK lre lpo (nI dn, nI P, ar, fi, la, nb, pa, ro, nI D, dp, dg, de, dd, nI E, ek, eo, es, ef, el, nI L, nI K, lc, lm, lp, lr) mo B K0 (nI c) (nI x) (nI l_) ta tc ti tw tn ++ [((ad 7), .inl (cA 4, 1, .inr (.inl g'))), ((ad 8), .inl (cA 5, 1, .inr (.inr (.inr (.inl gd)))))]) ++ hblk cA hA hW) ++ ((E8 cA (ad 9) (ad 10) (ad 11) (ad 12) (ad 13) (ad 14) (ad 15) (ad 16) gA k_ (nI c) rea rpo isS (nI l_) ra rwr n sv as ch bu nu) ++ gblk cA gA gW)) := hj.2.perm hp2.symm
  have hS := hS1
  clear hj hp hp2 hPc hDc hFc hB hk1 hEr2 hw
  generalize H1 = H at hP hS ht hz1 ⊢
  refine lv_istore (lv' := [(7, .int b_), (6, .int k_), (5, .int (nI i)), (4, .ref (ad 8)), (3, .ref (ad 7)), (2, .ref (ad 9)), (1, .ref (ad 0)), (0, .ref b)]) hx hb dL_law_763 hl (by decide) rfl (fun ls hl => ?_)
  refine lv_aload_n hx hb dL_law_765 rfl (lv_at hl 5 rfl) ?_
  refine vp_callSi (va_Run.run (va_runV (As := []) (rest := []) ⟨hx, hb, hml, hown, hts⟩ (c_X8_thrown l G cA (ad 9) (ad 10) (ad 11) (ad 12) (ad 13) (ad 14) (ad 15) (ad 16) k_ (nI c) rea rpo isS (nI l_) ra rwr _ (rfl : m_X8_thrown k_ = some k_) (Option.some_ne_none _)) (cwV 0 hts gL_law_X8_thrown rfl rfl rfl (by decide +kernel) ⟨Nat.le_of_ble_eq_true rfl, Nat.le_of_ble_eq_true rfl⟩) (preRV (q := (RX8, TX8, 15)) (hP.right.left.sub [0] rfl) hK 0 rfl rfl) rfl rfl hl.1 rfl (lv_room (Nat.le_of_ble_eq_true rfl)) dL_law_766 ⟨by show _ ≤ 603072; omega, by show _ ≤ 7190634; omega⟩)) (fun r hw => ?_)
  obtain rfl := Option.some.inj hw
  refine lv_iload hx hb dL_law_769 (lv_at hl 1 rfl) ?_
  refine lv_icmp_eq (tgt := 776) hx hb dL_law_771 (by decide) (fun _ => ?_) (fun c_0 => absurd rfl c_0)
  refine lv_iload hx hb dL_law_776 (lv_at hl 1 rfl) ?_
  refine lv_if_ne (tgt := 793) hx hb dL_law_778 (by decide) (fun c_3 => ?_) (fun c_3 => ?_)
  · refine lv_goto (tgt := 2652) hx hb dL_law_793 (by decide) ?_
    exact next _ _ _ _ ⟨P, D, E, L, K, dn, c, x, l_, ar, fi, la, nb, pa, ro, dp, dg, de, dd, ek, eo, es, ef, el, lc, lm, lp, lr, n, hW, gW, B, K0, isK, isS, lre, rea, lpo, rpo, ta, tc, k_, ra, rwr, mo, ti, tw, tn, sv, as, ch, bu, nu, g', gd, rfl, hWC, hHR, hRR, hPO, hSR, hTR⟩ hP hD hS (lv_sub hl [2, 3, 4, 5, 6, 7] rfl)
  · have hpost0 := hpost c_3
    refine lv_aload_n hx hb dL_law_781 rfl (lv_at hl 4 rfl) ?_
    refine lv_iconst (v := (0 : Int32)) hx hb dL_law_782 (by decide) ?_
    refine va_lald hx hb hK.1 hP 80 4 rfl rfl (ixi (i := (0 : Int32)) (n := 1) (by decide)) dL_law_783 ?_
    refine lv_iload hx hb dL_law_784 (lv_at hl 0 rfl) ?_
    refine lv_i2l hx hb dL_law_786 rfl ?_
    refine W.lcmp hx hb dL_law_787 ?_
    refine lv_if_eq (tgt := 793) hx hb dL_law_788 (by decide) (fun _ => ?_) (fun c_0 => absurd (by rw [show g' (0 : Int32).toNatClampNeg = b_.toInt64 from hpost0]; exact cmp_self _) c_0)
    refine lv_goto (tgt := 2652) hx hb dL_law_793 (by decide) ?_
    exact next _ _ _ _ ⟨P, D, E, L, K, dn, c, x, l_, ar, fi, la, nb, pa, ro, dp, dg, de, dd, ek, eo, es, ef, el, lc, lm, lp, lr, n, hW, gW, B, K0, isK, isS, lre, rea, lpo, rpo, ta, tc, k_, ra, rwr, mo, ti, tw, tn, sv, as, ch, bu, nu, g', gd, rfl, hWC, hHR, hRR, hPO, hSR, hTR⟩ hP hD hS (lv_sub hl [2, 3, 4, 5, 6, 7] rfl)
