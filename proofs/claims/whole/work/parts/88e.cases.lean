/-! The law, call by call. -/
set_option maxHeartbeats 16000000 in
set_option maxRecDepth 100000 in
/-- holder -/
theorem law_holder {p : Program} {l : Launch} {e : Env} {s : State} {m : MethodId} {below : List Frame} {meth : Method} {cd : Code} {b Ls : Nat} {xs : Nat → Int32} {z : Nat → Nat} {G : va_G} {cA : Nat → ClassId} {ad aw ab ak : Nat → Nat} {hA : Nat → Nat → Nat} {gA : Nat → Nat} (C0 : LC p l s m cd b Ls xs z G cA) {i nn kk : Nat} (hi : i + 4 < Ls) (hL : Ls ≤ 2560) (hn : nn + 1 ≤ 603072) (hk : kk + 6 ≤ 7190634) (next : LNext p l e s m below meth cd b G cA ad aw ab ak hA gA i (nn + 1) (kk + 6)) {ws : va_W} {H : Heap} {locs : List Loc} {ls : Array Slot} (hI : LSt cA ad aw ab ak hA gA ws) (hP : va_P G vwCl ws H) (hD : va_D (fun q : Nat => s.heap.size ≤ q) ws) (hS : va_S (fun q : Nat => s.heap.size ≤ q) s.heap H locs) (hl : lv_has ls 9 [(5, .int (nI i)), (4, .ref (ad 8)), (3, .ref (ad 7)), (2, .ref (ad 9)), (1, .ref (ad 0)), (0, .ref b)]) : W p l e room_1 s m #[Value.ref b] below meth cd H locs nn kk (lw_Z below #[Value.ref b] s) (F0 m 1068 ls []) := by
  obtain ⟨hx, hb, hml, hown, hts, hX, hbl, hK, hT, hO, hfl⟩ := C0
  have hbA : ¬ (fun q : Nat => s.heap.size ≤ q) b := Nat.not_le.mpr hbl
  have hA0 : ∀ q : Nat, s.heap.size ≤ q → (fun q : Nat => s.heap.size ≤ q) q := fun _ h => h
  have h_in1 : vp_in (nI i + (1 : Int32)) Ls := by rw [show nI i + (1 : Int32) = nI (i + 1) from nI_add i 1]; exact vp_in_nI (by omega) (by omega)
  have h_in2 : vp_in (nI i + (2 : Int32)) Ls := by rw [show nI i + (2 : Int32) = nI (i + 2) from nI_add i 2]; exact vp_in_nI (by omega) (by omega)
  have h_in3 : vp_in (nI i + (3 : Int32)) Ls := by rw [show nI i + (3 : Int32) = nI (i + 3) from nI_add i 3]; exact vp_in_nI (by omega) (by omega)
  have h_in4 : vp_in (nI i + (4 : Int32)) Ls := by rw [show nI i + (4 : Int32) = nI (i + 4) from nI_add i 4]; exact vp_in_nI (by omega) (by omega)
  obtain ⟨P, D, E, L, K, dn, c, x, l_, ar, fi, la, nb, pa, ro, dp, dg, de, dd, ek, eo, es, ef, el, lc, lm, lp, lr, n, hW, gW, B, K0, isK, isS, lre, rea, lpo, rpo, ta, tc, thr, ra, rwr, mo, ti, tw, tn, sv, as, ch, bu, nu, g, gd, rfl, hWC, hHR, hRR, hPO, hSR, hTR⟩ := hI
  refine lv_aload_n hx hb dL_law_1068 rfl (lv_at hl 4 rfl) ?_
  refine lv_aload_n hx hb dL_law_1069 rfl (lv_at hl 5 rfl) ?_
  refine lv_iload hx hb dL_law_1070 (lv_at hl 0 rfl) ?_
  refine lv_iconst (v := (1 : Int32)) hx hb dL_law_1072 (by decide) ?_
  refine lv_iadd hx hb dL_law_1073 ?_
  refine va_sld hx hb hX hbl hbA hS h_in1 dL_law_1074 ?_
  refine lv_aload_n hx hb dL_law_1075 rfl (lv_at hl 5 rfl) ?_
  refine lv_iload hx hb dL_law_1076 (lv_at hl 0 rfl) ?_
  refine lv_iconst (v := (2 : Int32)) hx hb dL_law_1078 (by decide) ?_
  refine lv_iadd hx hb dL_law_1079 ?_
  refine va_sld hx hb hX hbl hbA hS h_in2 dL_law_1080 ?_
  refine lv_aload_n hx hb dL_law_1081 rfl (lv_at hl 2 rfl) ?_
  obtain ⟨k_, b_, g', hop1, hop2, hpost⟩ := op_holder hWC (xs (nI i + (1 : Int32)).toNatClampNeg) (xs (nI i + (2 : Int32)).toNatClampNeg) g
  obtain ⟨Er1, hEr1⟩ : ∃ z, z = pk (E7 cA (ad 0) aw ab ak (ad 1) (ad 2) hA (ad 3) (ad 4) (ad 5) (ad 6) isK lre lpo (nI dn, nI P, ar, fi, la, nb, pa, ro, nI D, dp, dg, de, dd, nI E, ek, eo, es, ef, el, nI L, nI K, lc, lm, lp, lr) mo B K0 (nI c) (nI x) (nI l_) ta tc ti tw tn ++ [((ad 7), .inl (cA 4, 1, .inr (.inl g))), ((ad 8), .inl (cA 5, 1, .inr (.inr (.inr (.inl gd)))))]) [3, 6, 7, 14, 15, 16, 17, 18, 19, 20, 21, 22, 23, 24, 25, 26, 27, 28, 29, 30, 31, 32, 33, 34, 35, 36, 37, 38, 39, 40, 41, 42, 43, 44, 45, 46, 47, 48, 49, 50, 51, 52, 53, 54, 55, 56, 57, 58, 59, 60, 61, 62, 63, 64, 65, 66, 67, 68, 69, 70, 71, 72, 73, 74, 75, 76, 77, 78, 79, 81] := ⟨_, rfl⟩
  have hp := gl_0 (E := (E7 cA (ad 0) aw ab ak (ad 1) (ad 2) hA (ad 3) (ad 4) (ad 5) (ad 6) isK lre lpo (nI dn, nI P, ar, fi, la, nb, pa, ro, nI D, dp, dg, de, dd, nI E, ek, eo, es, ef, el, nI L, nI K, lc, lm, lp, lr) mo B K0 (nI c) (nI x) (nI l_) ta tc ti tw tn ++ [((ad 7), .inl (cA 4, 1, .inr (.inl g))), ((ad 8), .inl (cA 5, 1, .inr (.inr (.inr (.inl gd)))))])) (Ec := (k_L_holder cA (ad 0) (aw 0) (ab 0) (ak 0) (ad 1) (ad 3) (aw 1) (aw 8) (aw 14) (aw 20) (aw 2) (aw 3) (aw 4) (aw 5) (aw 6) (aw 7) (aw 9) (aw 10) (aw 11) (aw 12) (aw 13) (ad 7) isK lre lpo (nI dn) (nI P) fi la ro (nI D) dp dg de dd g)) (Er := Er1) (B := (hblk cA hA hW)) (R := ((E8 cA (ad 9) (ad 10) (ad 11) (ad 12) (ad 13) (ad 14) (ad 15) (ad 16) gA thr (nI c) rea rpo isS (nI l_) ra rwr n sv as ch bu nu) ++ gblk cA gA gW)) (pick (n := 82) [0, 1, 2, 4, 5, 8, 9, 10, 11, 12, 13, 80] [3, 6, 7, 14, 15, 16, 17, 18, 19, 20, 21, 22, 23, 24, 25, 26, 27, 28, 29, 30, 31, 32, 33, 34, 35, 36, 37, 38, 39, 40, 41, 42, 43, 44, 45, 46, 47, 48, 49, 50, 51, 52, 53, 54, 55, 56, 57, 58, 59, 60, 61, 62, 63, 64, 65, 66, 67, 68, 69, 70, 71, 72, 73, 74, 75, 76, 77, 78, 79, 81] rfl (by decide +kernel) rfl hEr1.symm)
  have hPc : va_P G vwCl (k_L_holder cA (ad 0) (aw 0) (ab 0) (ak 0) (ad 1) (ad 3) (aw 1) (aw 8) (aw 14) (aw 20) (aw 2) (aw 3) (aw 4) (aw 5) (aw 6) (aw 7) (aw 9) (aw 10) (aw 11) (aw 12) (aw 13) (ad 7) isK lre lpo (nI dn) (nI P) fi la ro (nI D) dp dg de dd g) H := (hP.perm hp).left
  have hDc : va_D _ (k_L_holder cA (ad 0) (aw 0) (ab 0) (ak 0) (ad 1) (ad 3) (aw 1) (aw 8) (aw 14) (aw 20) (aw 2) (aw 3) (aw 4) (aw 5) (aw 6) (aw 7) (aw 9) (aw 10) (aw 11) (aw 12) (aw 13) (ad 7) isK lre lpo (nI dn) (nI P) fi la ro (nI D) dp dg de dd g) := (hD.perm hp).left
  have hFc := va_freePm hp hD hS hA0
  refine va_calli (vx_runSW (As := [.ref (ad 0), .int (xs (nI i + (1 : Int32)).toNatClampNeg), .int (xs (nI i + (2 : Int32)).toNatClampNeg), .ref (ad 7)]) (rest := []) ⟨hx, hb, hml, hown, hts⟩ (c_L_holder l hfl z G cA (ad 0) (aw 0) (ab 0) (ak 0) (ad 1) (ad 3) (aw 1) (aw 8) (aw 14) (aw 20) (aw 2) (aw 3) (aw 4) (aw 5) (aw 6) (aw 7) (aw 9) (aw 10) (aw 11) (aw 12) (aw 13) (ad 7) H.size (xs (nI i + (1 : Int32)).toNatClampNeg) (xs (nI i + (2 : Int32)).toNatClampNeg) isK lre lpo (nI dn) (nI P) fi la ro (nI D) dp dg de dd g _ hop1 (Option.some_ne_none _)) (vx_cwSW 4 hts gL_law_L_holder rfl rfl rfl (by decide +kernel) ⟨Nat.le_of_ble_eq_true rfl, Nat.le_of_ble_eq_true rfl⟩) (preMSo hPc hDc hK hT hO hS hFc) rfl rfl hl.1 rfl (lv_room (Nat.le_of_ble_eq_true rfl)) dL_law_1082 ⟨hn, hk⟩) hS (fun q _ h => hFc q h) hFc (fun r u t H1 locs ht hvm hw hB hz1 hk1 hS1 => ?_)
  obtain ⟨rfl, rfl⟩ := Prod.mk.inj (Option.some.inj hw)
  replace hB : va_P G vwCl (k_L_holder cA (ad 0) (aw 0) (ab 0) (ak 0) (ad 1) (ad 3) (aw 1) (aw 8) (aw 14) (aw 20) (aw 2) (aw 3) (aw 4) (aw 5) (aw 6) (aw 7) (aw 9) (aw 10) (aw 11) (aw 12) (aw 13) (ad 7) isK lre lpo (nI dn) (nI P) fi la ro (nI D) dp dg de dd g') t.heap := hB
  rw [ht] at hB
  have hj := va_backP hp hP hD hk1 hB rfl
  have hp2 := gl_0 (E := (E7 cA (ad 0) aw ab ak (ad 1) (ad 2) hA (ad 3) (ad 4) (ad 5) (ad 6) isK lre lpo (nI dn, nI P, ar, fi, la, nb, pa, ro, nI D, dp, dg, de, dd, nI E, ek, eo, es, ef, el, nI L, nI K, lc, lm, lp, lr) mo B K0 (nI c) (nI x) (nI l_) ta tc ti tw tn ++ [((ad 7), .inl (cA 4, 1, .inr (.inl g'))), ((ad 8), .inl (cA 5, 1, .inr (.inr (.inr (.inl gd)))))])) (Ec := (k_L_holder cA (ad 0) (aw 0) (ab 0) (ak 0) (ad 1) (ad 3) (aw 1) (aw 8) (aw 14) (aw 20) (aw 2) (aw 3) (aw 4) (aw 5) (aw 6) (aw 7) (aw 9) (aw 10) (aw 11) (aw 12) (aw 13) (ad 7) isK lre lpo (nI dn) (nI P) fi la ro (nI D) dp dg de dd g')) (Er := Er1) (B := (hblk cA hA hW)) (R := ((E8 cA (ad 9) (ad 10) (ad 11) (ad 12) (ad 13) (ad 14) (ad 15) (ad 16) gA thr (nI c) rea rpo isS (nI l_) ra rwr n sv as ch bu nu) ++ gblk cA gA gW)) (pick (n := 82) [0, 1, 2, 4, 5, 8, 9, 10, 11, 12, 13, 80] [3, 6, 7, 14, 15, 16, 17, 18, 19, 20, 21, 22, 23, 24, 25, 26, 27, 28, 29, 30, 31, 32, 33, 34, 35, 36, 37, 38, 39, 40, 41, 42, 43, 44, 45, 46, 47, 48, 49, 50, 51, 52, 53, 54, 55, 56, 57, 58, 59, 60, 61, 62, 63, 64, 65, 66, 67, 68, 69, 70, 71, 72, 73, 74, 75, 76, 77, 78, 79, 81] rfl (by decide +kernel) rfl (by rw [hEr1]; exact pk_e0 (n := 80) _ rfl (by decide)))
  replace hP : va_P G vwCl (((E7 cA (ad 0) aw ab ak (ad 1) (ad 2) hA (ad 3) (ad 4) (ad 5) (ad 6) isK lre lpo (nI dn, nI P, ar, fi, la, nb, pa, ro, nI D, dp, dg, de, dd, nI E, ek, eo, es, ef, el, nI L, nI K, lc, lm, lp, lr) mo B K0 (nI c) (nI x) (nI l_) ta tc ti tw tn ++ [((ad 7), .inl (cA 4, 1, .inr (.inl g'))), ((ad 8), .inl (cA 5, 1, .inr (.inr (.inr (.inl gd)))))]) ++ hblk cA hA hW) ++ ((E8 cA (ad 9) (ad 10) (ad 11) (ad 12) (ad 13) (ad 14) (ad 15) (ad 16) gA thr (nI c) rea rpo isS (nI l_) ra rwr n sv as ch bu nu) ++ gblk cA gA gW)) H1 := hj.1.perm hp2.symm
  replace hD : va_D _ (((E7 cA (ad 0) aw ab ak (ad 1) (ad 2) hA (ad 3) (ad 4) (ad 5) (ad 6) isK lre lpo (nI dn, nI P, ar, fi, la, nb, pa, ro, nI D, dp, dg, de, dd, nI E, ek, eo, es, ef, el, nI L, nI K, lc, lm, lp, lr) mo B K0 (nI c) (nI x) (nI l_) ta tc ti tw tn ++ [((ad 7), .inl (cA 4, 1, .inr (.inl g'))), ((ad 8), .inl (cA 5, 1, .inr (.inr (.inr (.inl gd)))))]) ++ hblk cA hA hW) ++ ((E8 cA (ad 9) (ad 10) (ad 11) (ad 12) (ad 13) (ad 14) (ad 15) (ad 16) gA thr (nI c) rea rpo isS (nI l_) ra rwr n sv as ch bu nu) ++ gblk cA gA gW)) := hj.2.perm hp2.symm
  have hS := hS1
  clear hj hp hp2 hPc hDc hFc hB hk1 hEr1 hw
  generalize H1 = H at hP hS ht hz1 ⊢
  refine lv_istore (lv' := [(6, .int k_), (5, .int (nI i)), (4, .ref (ad 8)), (3, .ref (ad 7)), (2, .ref (ad 9)), (1, .ref (ad 0)), (0, .ref b)]) hx hb dL_law_1085 hl (by decide) rfl (fun ls hl => ?_)
  refine lv_aload_n hx hb dL_law_1087 rfl (lv_at hl 4 rfl) ?_
  refine lv_aload_n hx hb dL_law_1088 rfl (lv_at hl 6 rfl) ?_
  refine lv_iload hx hb dL_law_1089 (lv_at hl 1 rfl) ?_
  refine lv_iconst (v := (1 : Int32)) hx hb dL_law_1091 (by decide) ?_
  refine lv_iadd hx hb dL_law_1092 ?_
  refine va_sld hx hb hX hbl hbA hS h_in1 dL_law_1093 ?_
  refine lv_aload_n hx hb dL_law_1094 rfl (lv_at hl 6 rfl) ?_
  refine lv_iload hx hb dL_law_1095 (lv_at hl 1 rfl) ?_
  refine lv_iconst (v := (2 : Int32)) hx hb dL_law_1097 (by decide) ?_
  refine lv_iadd hx hb dL_law_1098 ?_
  refine va_sld hx hb hX hbl hbA hS h_in2 dL_law_1099 ?_
  obtain ⟨Er2, hEr2⟩ : ∃ z, z = pk (E8 cA (ad 9) (ad 10) (ad 11) (ad 12) (ad 13) (ad 14) (ad 15) (ad 16) gA thr (nI c) rea rpo isS (nI l_) ra rwr n sv as ch bu nu) [2, 3, 4, 5, 6, 7] := ⟨_, rfl⟩
  have hp := gq_0 (E := (E8 cA (ad 9) (ad 10) (ad 11) (ad 12) (ad 13) (ad 14) (ad 15) (ad 16) gA thr (nI c) rea rpo isS (nI l_) ra rwr n sv as ch bu nu)) (Ec := (k_X8_holder cA (ad 9) (ad 10) (ad 11) (ad 12) (ad 13) (ad 14) (ad 15) (ad 16) thr (nI c) rea rpo isS (nI l_) ra rwr n)) (Er := Er2) (B := (gblk cA gA gW)) (R := ((E7 cA (ad 0) aw ab ak (ad 1) (ad 2) hA (ad 3) (ad 4) (ad 5) (ad 6) isK lre lpo (nI dn, nI P, ar, fi, la, nb, pa, ro, nI D, dp, dg, de, dd, nI E, ek, eo, es, ef, el, nI L, nI K, lc, lm, lp, lr) mo B K0 (nI c) (nI x) (nI l_) ta tc ti tw tn ++ [((ad 7), .inl (cA 4, 1, .inr (.inl g'))), ((ad 8), .inl (cA 5, 1, .inr (.inr (.inr (.inl gd)))))]) ++ hblk cA hA hW)) (pick (n := 8) [0, 1] [2, 3, 4, 5, 6, 7] rfl (by decide +kernel) rfl hEr2.symm)
  have hPc : va_P G vwCl (k_X8_holder cA (ad 9) (ad 10) (ad 11) (ad 12) (ad 13) (ad 14) (ad 15) (ad 16) thr (nI c) rea rpo isS (nI l_) ra rwr n) H := (hP.perm hp).left
  have hDc : va_D _ (k_X8_holder cA (ad 9) (ad 10) (ad 11) (ad 12) (ad 13) (ad 14) (ad 15) (ad 16) thr (nI c) rea rpo isS (nI l_) ra rwr n) := (hD.perm hp).left
  have hFc := va_freePm hp hD hS hA0
  refine va_calli (va_runV (As := [.int (xs (nI i + (1 : Int32)).toNatClampNeg), .int (xs (nI i + (2 : Int32)).toNatClampNeg)]) (rest := []) ⟨hx, hb, hml, hown, hts⟩ (c_X8_holder l G cA (ad 9) (ad 10) (ad 11) (ad 12) (ad 13) (ad 14) (ad 15) (ad 16) H.size (xs (nI i + (1 : Int32)).toNatClampNeg) (xs (nI i + (2 : Int32)).toNatClampNeg) thr (nI c) rea rpo isS (nI l_) ra rwr n _ hop2 (Option.some_ne_none _)) (cwV 2 hts gL_law_X8_holder rfl rfl rfl (by decide +kernel) ⟨Nat.le_of_ble_eq_true rfl, Nat.le_of_ble_eq_true rfl⟩) (preMV (q := (RX8, TX8, 15)) hPc hDc hK 0 rfl rfl) rfl rfl hl.1 rfl (lv_room (Nat.le_of_ble_eq_true rfl)) dL_law_1100 ⟨by show _ ≤ 603072; omega, by show _ ≤ 7190634; omega⟩) hS (fun q _ h => hFc q h) hFc (fun r u t H1 locs ht hvm hw hB hz1 hk1 hS1 => ?_)
  obtain ⟨rfl, rfl⟩ := Prod.mk.inj (Option.some.inj hw)
  replace hB : va_P G vwCl (k_X8_holder cA (ad 9) (ad 10) (ad 11) (ad 12) (ad 13) (ad 14) (ad 15) (ad 16) k_ (nI c) rea rpo isS (nI l_) ra rwr n) t.heap := hB
  rw [ht] at hB
  have hj := va_backP hp hP hD hk1 hB rfl
  have hp2 := gq_0 (E := (E8 cA (ad 9) (ad 10) (ad 11) (ad 12) (ad 13) (ad 14) (ad 15) (ad 16) gA k_ (nI c) rea rpo isS (nI l_) ra rwr n sv as ch bu nu)) (Ec := (k_X8_holder cA (ad 9) (ad 10) (ad 11) (ad 12) (ad 13) (ad 14) (ad 15) (ad 16) k_ (nI c) rea rpo isS (nI l_) ra rwr n)) (Er := Er2) (B := (gblk cA gA gW)) (R := ((E7 cA (ad 0) aw ab ak (ad 1) (ad 2) hA (ad 3) (ad 4) (ad 5) (ad 6) isK lre lpo (nI dn, nI P, ar, fi, la, nb, pa, ro, nI D, dp, dg, de, dd, nI E, ek, eo, es, ef, el, nI L, nI K, lc, lm, lp, lr) mo B K0 (nI c) (nI x) (nI l_) ta tc ti tw tn ++ [((ad 7), .inl (cA 4, 1, .inr (.inl g'))), ((ad 8), .inl (cA 5, 1, .inr (.inr (.inr (.inl gd)))))]) ++ hblk cA hA hW)) (pick (n := 8) [0, 1] [2, 3, 4, 5, 6, 7] rfl (by decide +kernel) rfl (by rw [hEr2]; rfl))
  replace hP : va_P G vwCl (((E7 cA (ad 0) aw ab ak (ad 1) (ad 2) hA (ad 3) (ad 4) (ad 5) (ad 6) isK lre lpo (nI dn, nI P, ar, fi, la, nb, pa, ro, nI D, dp, dg, de, dd, nI E, ek, eo, es, ef, el, nI L, nI K, lc, lm, lp, lr) mo B K0 (nI c) (nI x) (nI l_) ta tc ti tw tn ++ [((ad 7), .inl (cA 4, 1, .inr (.inl g'))), ((ad 8), .inl (cA 5, 1, .inr (.inr (.inr (.inl gd)))))]) ++ hblk cA hA hW) ++ ((E8 cA (ad 9) (ad 10) (ad 11) (ad 12) (ad 13) (ad 14) (ad 15) (ad 16) gA k_ (nI c) rea rpo isS (nI l_) ra rwr n sv as ch bu nu) ++ gblk cA gA gW)) H1 := hj.1.perm hp2.symm
  replace hD : va_D _ (((E7 cA (ad 0) aw ab ak (ad 1) (ad 2) hA (ad 3) (ad 4) (ad 5) (ad 6) isK lre lpo (nI dn, nI P, ar, fi, la, nb, pa, ro, nI D, dp, dg, de, dd, nI E, ek, eo, es, ef, el, nI L, nI K, lc, lm, lp, lr) mo B K0 (nI c) (nI x) (nI l_) ta tc ti tw tn ++ [((ad 7), .inl (cA 4, 1, .inr (.inl g'))), ((ad 8), .inl (cA 5, 1, .inr (.inr (.inr (.inl gd)))))]) ++ hblk cA hA hW) ++ ((E8 cA (ad 9) (ad 10) (ad 11) (ad 12) (ad 13) (ad 14) (ad 15) (ad 16) gA k_ (nI c) rea rpo isS (nI l_) ra rwr n sv as ch bu nu) ++ gblk cA gA gW)) := hj.2.perm hp2.symm
  have hS := hS1
  clear hj hp hp2 hPc hDc hFc hB hk1 hEr2 hw
  generalize H1 = H at hP hS ht hz1 ⊢
  refine lv_istore (lv' := [(7, .int b_), (6, .int k_), (5, .int (nI i)), (4, .ref (ad 8)), (3, .ref (ad 7)), (2, .ref (ad 9)), (1, .ref (ad 0)), (0, .ref b)]) hx hb dL_law_1103 hl (by decide) rfl (fun ls hl => ?_)
  refine lv_aload_n hx hb dL_law_1105 rfl (lv_at hl 5 rfl) ?_
  refine vp_callSi (va_Run.run (va_runV (As := []) (rest := []) ⟨hx, hb, hml, hown, hts⟩ (c_X8_thrown l G cA (ad 9) (ad 10) (ad 11) (ad 12) (ad 13) (ad 14) (ad 15) (ad 16) k_ (nI c) rea rpo isS (nI l_) ra rwr _ (rfl : m_X8_thrown k_ = some k_) (Option.some_ne_none _)) (cwV 0 hts gL_law_X8_thrown rfl rfl rfl (by decide +kernel) ⟨Nat.le_of_ble_eq_true rfl, Nat.le_of_ble_eq_true rfl⟩) (preRV (q := (RX8, TX8, 15)) (hP.right.left.sub [0] rfl) hK 0 rfl rfl) rfl rfl hl.1 rfl (lv_room (Nat.le_of_ble_eq_true rfl)) dL_law_1106 ⟨by show _ ≤ 603072; omega, by show _ ≤ 7190634; omega⟩)) (fun r hw => ?_)
  obtain rfl := Option.some.inj hw
  refine lv_iload hx hb dL_law_1109 (lv_at hl 1 rfl) ?_
  refine lv_icmp_eq (tgt := 1116) hx hb dL_law_1111 (by decide) (fun _ => ?_) (fun c_0 => absurd rfl c_0)
  refine lv_iload hx hb dL_law_1116 (lv_at hl 1 rfl) ?_
  refine lv_if_ne (tgt := 1133) hx hb dL_law_1118 (by decide) (fun c_3 => ?_) (fun c_3 => ?_)
  · refine lv_goto (tgt := 2652) hx hb dL_law_1133 (by decide) ?_
    exact next _ _ _ _ ⟨P, D, E, L, K, dn, c, x, l_, ar, fi, la, nb, pa, ro, dp, dg, de, dd, ek, eo, es, ef, el, lc, lm, lp, lr, n, hW, gW, B, K0, isK, isS, lre, rea, lpo, rpo, ta, tc, k_, ra, rwr, mo, ti, tw, tn, sv, as, ch, bu, nu, g', gd, rfl, hWC, hHR, hRR, hPO, hSR, hTR⟩ hP hD hS (lv_sub hl [2, 3, 4, 5, 6, 7] rfl)
  · have hpost0 := hpost c_3
    refine lv_aload_n hx hb dL_law_1121 rfl (lv_at hl 4 rfl) ?_
    refine lv_iconst (v := (0 : Int32)) hx hb dL_law_1122 (by decide) ?_
    refine va_lald hx hb hK.1 hP 80 4 rfl rfl (ixi (i := (0 : Int32)) (n := 1) (by decide)) dL_law_1123 ?_
    refine lv_iload hx hb dL_law_1124 (lv_at hl 0 rfl) ?_
    refine lv_i2l hx hb dL_law_1126 rfl ?_
    refine W.lcmp hx hb dL_law_1127 ?_
    refine lv_if_eq (tgt := 1133) hx hb dL_law_1128 (by decide) (fun _ => ?_) (fun c_0 => absurd (by rw [show g' (0 : Int32).toNatClampNeg = b_.toInt64 from hpost0]; exact cmp_self _) c_0)
    refine lv_goto (tgt := 2652) hx hb dL_law_1133 (by decide) ?_
    exact next _ _ _ _ ⟨P, D, E, L, K, dn, c, x, l_, ar, fi, la, nb, pa, ro, dp, dg, de, dd, ek, eo, es, ef, el, lc, lm, lp, lr, n, hW, gW, B, K0, isK, isS, lre, rea, lpo, rpo, ta, tc, k_, ra, rwr, mo, ti, tw, tn, sv, as, ch, bu, nu, g', gd, rfl, hWC, hHR, hRR, hPO, hSR, hTR⟩ hP hD hS (lv_sub hl [2, 3, 4, 5, 6, 7] rfl)

set_option maxHeartbeats 16000000 in
set_option maxRecDepth 100000 in
/-- holdings -/
theorem law_holdings {p : Program} {l : Launch} {e : Env} {s : State} {m : MethodId} {below : List Frame} {meth : Method} {cd : Code} {b Ls : Nat} {xs : Nat → Int32} {z : Nat → Nat} {G : va_G} {cA : Nat → ClassId} {ad aw ab ak : Nat → Nat} {hA : Nat → Nat → Nat} {gA : Nat → Nat} (C0 : LC p l s m cd b Ls xs z G cA) {i nn kk : Nat} (hi : i + 4 < Ls) (hL : Ls ≤ 2560) (hn : nn + 1 ≤ 603072) (hk : kk + 6 ≤ 7190634) (next : LNext p l e s m below meth cd b G cA ad aw ab ak hA gA i (nn + 1) (kk + 6)) {ws : va_W} {H : Heap} {locs : List Loc} {ls : Array Slot} (hI : LSt cA ad aw ab ak hA gA ws) (hP : va_P G vwCl ws H) (hD : va_D (fun q : Nat => s.heap.size ≤ q) ws) (hS : va_S (fun q : Nat => s.heap.size ≤ q) s.heap H locs) (hl : lv_has ls 9 [(5, .int (nI i)), (4, .ref (ad 8)), (3, .ref (ad 7)), (2, .ref (ad 9)), (1, .ref (ad 0)), (0, .ref b)]) : W p l e room_1 s m #[Value.ref b] below meth cd H locs nn kk (lw_Z below #[Value.ref b] s) (F0 m 1136 ls []) := by
  obtain ⟨hx, hb, hml, hown, hts, hX, hbl, hK, hT, hO, hfl⟩ := C0
  have hbA : ¬ (fun q : Nat => s.heap.size ≤ q) b := Nat.not_le.mpr hbl
  have hA0 : ∀ q : Nat, s.heap.size ≤ q → (fun q : Nat => s.heap.size ≤ q) q := fun _ h => h
  have h_in1 : vp_in (nI i + (1 : Int32)) Ls := by rw [show nI i + (1 : Int32) = nI (i + 1) from nI_add i 1]; exact vp_in_nI (by omega) (by omega)
  have h_in2 : vp_in (nI i + (2 : Int32)) Ls := by rw [show nI i + (2 : Int32) = nI (i + 2) from nI_add i 2]; exact vp_in_nI (by omega) (by omega)
  have h_in3 : vp_in (nI i + (3 : Int32)) Ls := by rw [show nI i + (3 : Int32) = nI (i + 3) from nI_add i 3]; exact vp_in_nI (by omega) (by omega)
  have h_in4 : vp_in (nI i + (4 : Int32)) Ls := by rw [show nI i + (4 : Int32) = nI (i + 4) from nI_add i 4]; exact vp_in_nI (by omega) (by omega)
  obtain ⟨P, D, E, L, K, dn, c, x, l_, ar, fi, la, nb, pa, ro, dp, dg, de, dd, ek, eo, es, ef, el, lc, lm, lp, lr, n, hW, gW, B, K0, isK, isS, lre, rea, lpo, rpo, ta, tc, thr, ra, rwr, mo, ti, tw, tn, sv, as, ch, bu, nu, g, gd, rfl, hWC, hHR, hRR, hPO, hSR, hTR⟩ := hI
  refine lv_aload_n hx hb dL_law_1136 rfl (lv_at hl 4 rfl) ?_
  refine lv_aload_n hx hb dL_law_1137 rfl (lv_at hl 5 rfl) ?_
  refine lv_iload hx hb dL_law_1138 (lv_at hl 0 rfl) ?_
  refine lv_iconst (v := (1 : Int32)) hx hb dL_law_1140 (by decide) ?_
  refine lv_iadd hx hb dL_law_1141 ?_
  refine va_sld hx hb hX hbl hbA hS h_in1 dL_law_1142 ?_
  refine lv_aload_n hx hb dL_law_1143 rfl (lv_at hl 2 rfl) ?_
  obtain ⟨k_, b_, g', hop1, hop2, hpost⟩ := op_holdings hWC (xs (nI i + (1 : Int32)).toNatClampNeg) g
  obtain ⟨Er1, hEr1⟩ : ∃ z, z = pk (E7 cA (ad 0) aw ab ak (ad 1) (ad 2) hA (ad 3) (ad 4) (ad 5) (ad 6) isK lre lpo (nI dn, nI P, ar, fi, la, nb, pa, ro, nI D, dp, dg, de, dd, nI E, ek, eo, es, ef, el, nI L, nI K, lc, lm, lp, lr) mo B K0 (nI c) (nI x) (nI l_) ta tc ti tw tn ++ [((ad 7), .inl (cA 4, 1, .inr (.inl g))), ((ad 8), .inl (cA 5, 1, .inr (.inr (.inr (.inl gd)))))]) [3, 4, 6, 7, 14, 15, 16, 17, 18, 19, 20, 21, 22, 23, 24, 25, 26, 27, 28, 29, 30, 31, 32, 33, 34, 35, 36, 37, 38, 39, 40, 41, 42, 43, 44, 45, 46, 47, 48, 49, 50, 51, 52, 53, 54, 55, 56, 57, 58, 59, 60, 61, 62, 63, 64, 65, 66, 67, 68, 69, 70, 71, 72, 73, 74, 75, 76, 77, 78, 79, 81] := ⟨_, rfl⟩
  have hp := gl_0 (E := (E7 cA (ad 0) aw ab ak (ad 1) (ad 2) hA (ad 3) (ad 4) (ad 5) (ad 6) isK lre lpo (nI dn, nI P, ar, fi, la, nb, pa, ro, nI D, dp, dg, de, dd, nI E, ek, eo, es, ef, el, nI L, nI K, lc, lm, lp, lr) mo B K0 (nI c) (nI x) (nI l_) ta tc ti tw tn ++ [((ad 7), .inl (cA 4, 1, .inr (.inl g))), ((ad 8), .inl (cA 5, 1, .inr (.inr (.inr (.inl gd)))))])) (Ec := (k_L_holdings cA (ad 0) (aw 0) (ab 0) (ak 0) (ad 1) (ad 3) (aw 1) (aw 8) (aw 14) (aw 20) (aw 2) (aw 3) (aw 4) (aw 5) (aw 6) (aw 7) (aw 9) (aw 10) (aw 11) (aw 12) (aw 13) (ad 7) isK lre lpo (nI dn) (nI P) la ro (nI D) dp dg de dd g)) (Er := Er1) (B := (hblk cA hA hW)) (R := ((E8 cA (ad 9) (ad 10) (ad 11) (ad 12) (ad 13) (ad 14) (ad 15) (ad 16) gA thr (nI c) rea rpo isS (nI l_) ra rwr n sv as ch bu nu) ++ gblk cA gA gW)) (pick (n := 82) [0, 1, 2, 5, 8, 9, 10, 11, 12, 13, 80] [3, 4, 6, 7, 14, 15, 16, 17, 18, 19, 20, 21, 22, 23, 24, 25, 26, 27, 28, 29, 30, 31, 32, 33, 34, 35, 36, 37, 38, 39, 40, 41, 42, 43, 44, 45, 46, 47, 48, 49, 50, 51, 52, 53, 54, 55, 56, 57, 58, 59, 60, 61, 62, 63, 64, 65, 66, 67, 68, 69, 70, 71, 72, 73, 74, 75, 76, 77, 78, 79, 81] rfl (by decide +kernel) rfl hEr1.symm)
  have hPc : va_P G vwCl (k_L_holdings cA (ad 0) (aw 0) (ab 0) (ak 0) (ad 1) (ad 3) (aw 1) (aw 8) (aw 14) (aw 20) (aw 2) (aw 3) (aw 4) (aw 5) (aw 6) (aw 7) (aw 9) (aw 10) (aw 11) (aw 12) (aw 13) (ad 7) isK lre lpo (nI dn) (nI P) la ro (nI D) dp dg de dd g) H := (hP.perm hp).left
  have hDc : va_D _ (k_L_holdings cA (ad 0) (aw 0) (ab 0) (ak 0) (ad 1) (ad 3) (aw 1) (aw 8) (aw 14) (aw 20) (aw 2) (aw 3) (aw 4) (aw 5) (aw 6) (aw 7) (aw 9) (aw 10) (aw 11) (aw 12) (aw 13) (ad 7) isK lre lpo (nI dn) (nI P) la ro (nI D) dp dg de dd g) := (hD.perm hp).left
  have hFc := va_freePm hp hD hS hA0
  refine va_calli (vx_runSW (As := [.ref (ad 0), .int (xs (nI i + (1 : Int32)).toNatClampNeg), .ref (ad 7)]) (rest := []) ⟨hx, hb, hml, hown, hts⟩ (c_L_holdings l hfl z G cA (ad 0) (aw 0) (ab 0) (ak 0) (ad 1) (ad 3) (aw 1) (aw 8) (aw 14) (aw 20) (aw 2) (aw 3) (aw 4) (aw 5) (aw 6) (aw 7) (aw 9) (aw 10) (aw 11) (aw 12) (aw 13) (ad 7) H.size (xs (nI i + (1 : Int32)).toNatClampNeg) isK lre lpo (nI dn) (nI P) la ro (nI D) dp dg de dd g _ hop1 (Option.some_ne_none _)) (vx_cwSW 3 hts gL_law_L_holdings rfl rfl rfl (by decide +kernel) ⟨Nat.le_of_ble_eq_true rfl, Nat.le_of_ble_eq_true rfl⟩) (preMSo hPc hDc hK hT hO hS hFc) rfl rfl hl.1 rfl (lv_room (Nat.le_of_ble_eq_true rfl)) dL_law_1144 ⟨hn, hk⟩) hS (fun q _ h => hFc q h) hFc (fun r u t H1 locs ht hvm hw hB hz1 hk1 hS1 => ?_)
  obtain ⟨rfl, rfl⟩ := Prod.mk.inj (Option.some.inj hw)
  replace hB : va_P G vwCl (k_L_holdings cA (ad 0) (aw 0) (ab 0) (ak 0) (ad 1) (ad 3) (aw 1) (aw 8) (aw 14) (aw 20) (aw 2) (aw 3) (aw 4) (aw 5) (aw 6) (aw 7) (aw 9) (aw 10) (aw 11) (aw 12) (aw 13) (ad 7) isK lre lpo (nI dn) (nI P) la ro (nI D) dp dg de dd g') t.heap := hB
  rw [ht] at hB
  have hj := va_backP hp hP hD hk1 hB rfl
  have hp2 := gl_0 (E := (E7 cA (ad 0) aw ab ak (ad 1) (ad 2) hA (ad 3) (ad 4) (ad 5) (ad 6) isK lre lpo (nI dn, nI P, ar, fi, la, nb, pa, ro, nI D, dp, dg, de, dd, nI E, ek, eo, es, ef, el, nI L, nI K, lc, lm, lp, lr) mo B K0 (nI c) (nI x) (nI l_) ta tc ti tw tn ++ [((ad 7), .inl (cA 4, 1, .inr (.inl g'))), ((ad 8), .inl (cA 5, 1, .inr (.inr (.inr (.inl gd)))))])) (Ec := (k_L_holdings cA (ad 0) (aw 0) (ab 0) (ak 0) (ad 1) (ad 3) (aw 1) (aw 8) (aw 14) (aw 20) (aw 2) (aw 3) (aw 4) (aw 5) (aw 6) (aw 7) (aw 9) (aw 10) (aw 11) (aw 12) (aw 13) (ad 7) isK lre lpo (nI dn) (nI P) la ro (nI D) dp dg de dd g')) (Er := Er1) (B := (hblk cA hA hW)) (R := ((E8 cA (ad 9) (ad 10) (ad 11) (ad 12) (ad 13) (ad 14) (ad 15) (ad 16) gA thr (nI c) rea rpo isS (nI l_) ra rwr n sv as ch bu nu) ++ gblk cA gA gW)) (pick (n := 82) [0, 1, 2, 5, 8, 9, 10, 11, 12, 13, 80] [3, 4, 6, 7, 14, 15, 16, 17, 18, 19, 20, 21, 22, 23, 24, 25, 26, 27, 28, 29, 30, 31, 32, 33, 34, 35, 36, 37, 38, 39, 40, 41, 42, 43, 44, 45, 46, 47, 48, 49, 50, 51, 52, 53, 54, 55, 56, 57, 58, 59, 60, 61, 62, 63, 64, 65, 66, 67, 68, 69, 70, 71, 72, 73, 74, 75, 76, 77, 78, 79, 81] rfl (by decide +kernel) rfl (by rw [hEr1]; exact pk_e0 (n := 80) _ rfl (by decide)))
  replace hP : va_P G vwCl (((E7 cA (ad 0) aw ab ak (ad 1) (ad 2) hA (ad 3) (ad 4) (ad 5) (ad 6) isK lre lpo (nI dn, nI P, ar, fi, la, nb, pa, ro, nI D, dp, dg, de, dd, nI E, ek, eo, es, ef, el, nI L, nI K, lc, lm, lp, lr) mo B K0 (nI c) (nI x) (nI l_) ta tc ti tw tn ++ [((ad 7), .inl (cA 4, 1, .inr (.inl g'))), ((ad 8), .inl (cA 5, 1, .inr (.inr (.inr (.inl gd)))))]) ++ hblk cA hA hW) ++ ((E8 cA (ad 9) (ad 10) (ad 11) (ad 12) (ad 13) (ad 14) (ad 15) (ad 16) gA thr (nI c) rea rpo isS (nI l_) ra rwr n sv as ch bu nu) ++ gblk cA gA gW)) H1 := hj.1.perm hp2.symm
  replace hD : va_D _ (((E7 cA (ad 0) aw ab ak (ad 1) (ad 2) hA (ad 3) (ad 4) (ad 5) (ad 6) isK lre lpo (nI dn, nI P, ar, fi, la, nb, pa, ro, nI D, dp, dg, de, dd, nI E, ek, eo, es, ef, el, nI L, nI K, lc, lm, lp, lr) mo B K0 (nI c) (nI x) (nI l_) ta tc ti tw tn ++ [((ad 7), .inl (cA 4, 1, .inr (.inl g'))), ((ad 8), .inl (cA 5, 1, .inr (.inr (.inr (.inl gd)))))]) ++ hblk cA hA hW) ++ ((E8 cA (ad 9) (ad 10) (ad 11) (ad 12) (ad 13) (ad 14) (ad 15) (ad 16) gA thr (nI c) rea rpo isS (nI l_) ra rwr n sv as ch bu nu) ++ gblk cA gA gW)) := hj.2.perm hp2.symm
  have hS := hS1
  clear hj hp hp2 hPc hDc hFc hB hk1 hEr1 hw
  generalize H1 = H at hP hS ht hz1 ⊢
  refine lv_istore (lv' := [(6, .int k_), (5, .int (nI i)), (4, .ref (ad 8)), (3, .ref (ad 7)), (2, .ref (ad 9)), (1, .ref (ad 0)), (0, .ref b)]) hx hb dL_law_1147 hl (by decide) rfl (fun ls hl => ?_)
  refine lv_aload_n hx hb dL_law_1149 rfl (lv_at hl 4 rfl) ?_
  refine lv_aload_n hx hb dL_law_1150 rfl (lv_at hl 6 rfl) ?_
  refine lv_iload hx hb dL_law_1151 (lv_at hl 1 rfl) ?_
  refine lv_iconst (v := (1 : Int32)) hx hb dL_law_1153 (by decide) ?_
  refine lv_iadd hx hb dL_law_1154 ?_
  refine va_sld hx hb hX hbl hbA hS h_in1 dL_law_1155 ?_
  obtain ⟨Er2, hEr2⟩ : ∃ z, z = pk (E8 cA (ad 9) (ad 10) (ad 11) (ad 12) (ad 13) (ad 14) (ad 15) (ad 16) gA thr (nI c) rea rpo isS (nI l_) ra rwr n sv as ch bu nu) [2, 3, 4, 5, 6, 7] := ⟨_, rfl⟩
  have hp := gq_0 (E := (E8 cA (ad 9) (ad 10) (ad 11) (ad 12) (ad 13) (ad 14) (ad 15) (ad 16) gA thr (nI c) rea rpo isS (nI l_) ra rwr n sv as ch bu nu)) (Ec := (k_X8_holdings cA (ad 9) (ad 10) (ad 11) (ad 12) (ad 13) (ad 14) (ad 15) (ad 16) thr (nI c) rea rpo isS (nI l_) ra rwr n)) (Er := Er2) (B := (gblk cA gA gW)) (R := ((E7 cA (ad 0) aw ab ak (ad 1) (ad 2) hA (ad 3) (ad 4) (ad 5) (ad 6) isK lre lpo (nI dn, nI P, ar, fi, la, nb, pa, ro, nI D, dp, dg, de, dd, nI E, ek, eo, es, ef, el, nI L, nI K, lc, lm, lp, lr) mo B K0 (nI c) (nI x) (nI l_) ta tc ti tw tn ++ [((ad 7), .inl (cA 4, 1, .inr (.inl g'))), ((ad 8), .inl (cA 5, 1, .inr (.inr (.inr (.inl gd)))))]) ++ hblk cA hA hW)) (pick (n := 8) [0, 1] [2, 3, 4, 5, 6, 7] rfl (by decide +kernel) rfl hEr2.symm)
  have hPc : va_P G vwCl (k_X8_holdings cA (ad 9) (ad 10) (ad 11) (ad 12) (ad 13) (ad 14) (ad 15) (ad 16) thr (nI c) rea rpo isS (nI l_) ra rwr n) H := (hP.perm hp).left
  have hDc : va_D _ (k_X8_holdings cA (ad 9) (ad 10) (ad 11) (ad 12) (ad 13) (ad 14) (ad 15) (ad 16) thr (nI c) rea rpo isS (nI l_) ra rwr n) := (hD.perm hp).left
  have hFc := va_freePm hp hD hS hA0
  refine va_calli (va_runV (As := [.int (xs (nI i + (1 : Int32)).toNatClampNeg)]) (rest := []) ⟨hx, hb, hml, hown, hts⟩ (c_X8_holdings l G cA (ad 9) (ad 10) (ad 11) (ad 12) (ad 13) (ad 14) (ad 15) (ad 16) H.size (xs (nI i + (1 : Int32)).toNatClampNeg) thr (nI c) rea rpo isS (nI l_) ra rwr n _ hop2 (Option.some_ne_none _)) (cwV 1 hts gL_law_X8_holdings rfl rfl rfl (by decide +kernel) ⟨Nat.le_of_ble_eq_true rfl, Nat.le_of_ble_eq_true rfl⟩) (preMV (q := (RX8, TX8, 15)) hPc hDc hK 0 rfl rfl) rfl rfl hl.1 rfl (lv_room (Nat.le_of_ble_eq_true rfl)) dL_law_1156 ⟨by show _ ≤ 603072; omega, by show _ ≤ 7190634; omega⟩) hS (fun q _ h => hFc q h) hFc (fun r u t H1 locs ht hvm hw hB hz1 hk1 hS1 => ?_)
  obtain ⟨rfl, rfl⟩ := Prod.mk.inj (Option.some.inj hw)
  replace hB : va_P G vwCl (k_X8_holdings cA (ad 9) (ad 10) (ad 11) (ad 12) (ad 13) (ad 14) (ad 15) (ad 16) k_ (nI c) rea rpo isS (nI l_) ra rwr n) t.heap := hB
  rw [ht] at hB
  have hj := va_backP hp hP hD hk1 hB rfl
  have hp2 := gq_0 (E := (E8 cA (ad 9) (ad 10) (ad 11) (ad 12) (ad 13) (ad 14) (ad 15) (ad 16) gA k_ (nI c) rea rpo isS (nI l_) ra rwr n sv as ch bu nu)) (Ec := (k_X8_holdings cA (ad 9) (ad 10) (ad 11) (ad 12) (ad 13) (ad 14) (ad 15) (ad 16) k_ (nI c) rea rpo isS (nI l_) ra rwr n)) (Er := Er2) (B := (gblk cA gA gW)) (R := ((E7 cA (ad 0) aw ab ak (ad 1) (ad 2) hA (ad 3) (ad 4) (ad 5) (ad 6) isK lre lpo (nI dn, nI P, ar, fi, la, nb, pa, ro, nI D, dp, dg, de, dd, nI E, ek, eo, es, ef, el, nI L, nI K, lc, lm, lp, lr) mo B K0 (nI c) (nI x) (nI l_) ta tc ti tw tn ++ [((ad 7), .inl (cA 4, 1, .inr (.inl g'))), ((ad 8), .inl (cA 5, 1, .inr (.inr (.inr (.inl gd)))))]) ++ hblk cA hA hW)) (pick (n := 8) [0, 1] [2, 3, 4, 5, 6, 7] rfl (by decide +kernel) rfl (by rw [hEr2]; rfl))
  replace hP : va_P G vwCl (((E7 cA (ad 0) aw ab ak (ad 1) (ad 2) hA (ad 3) (ad 4) (ad 5) (ad 6) isK lre lpo (nI dn, nI P, ar, fi, la, nb, pa, ro, nI D, dp, dg, de, dd, nI E, ek, eo, es, ef, el, nI L, nI K, lc, lm, lp, lr) mo B K0 (nI c) (nI x) (nI l_) ta tc ti tw tn ++ [((ad 7), .inl (cA 4, 1, .inr (.inl g'))), ((ad 8), .inl (cA 5, 1, .inr (.inr (.inr (.inl gd)))))]) ++ hblk cA hA hW) ++ ((E8 cA (ad 9) (ad 10) (ad 11) (ad 12) (ad 13) (ad 14) (ad 15) (ad 16) gA k_ (nI c) rea rpo isS (nI l_) ra rwr n sv as ch bu nu) ++ gblk cA gA gW)) H1 := hj.1.perm hp2.symm
  replace hD : va_D _ (((E7 cA (ad 0) aw ab ak (ad 1) (ad 2) hA (ad 3) (ad 4) (ad 5) (ad 6) isK lre lpo (nI dn, nI P, ar, fi, la, nb, pa, ro, nI D, dp, dg, de, dd, nI E, ek, eo, es, ef, el, nI L, nI K, lc, lm, lp, lr) mo B K0 (nI c) (nI x) (nI l_) ta tc ti tw tn ++ [((ad 7), .inl (cA 4, 1, .inr (.inl g'))), ((ad 8), .inl (cA 5, 1, .inr (.inr (.inr (.inl gd)))))]) ++ hblk cA hA hW) ++ ((E8 cA (ad 9) (ad 10) (ad 11) (ad 12) (ad 13) (ad 14) (ad 15) (ad 16) gA k_ (nI c) rea rpo isS (nI l_) ra rwr n sv as ch bu nu) ++ gblk cA gA gW)) := hj.2.perm hp2.symm
  have hS := hS1
  clear hj hp hp2 hPc hDc hFc hB hk1 hEr2 hw
  generalize H1 = H at hP hS ht hz1 ⊢
  refine lv_istore (lv' := [(7, .int b_), (6, .int k_), (5, .int (nI i)), (4, .ref (ad 8)), (3, .ref (ad 7)), (2, .ref (ad 9)), (1, .ref (ad 0)), (0, .ref b)]) hx hb dL_law_1159 hl (by decide) rfl (fun ls hl => ?_)
  refine lv_aload_n hx hb dL_law_1161 rfl (lv_at hl 5 rfl) ?_
  refine vp_callSi (va_Run.run (va_runV (As := []) (rest := []) ⟨hx, hb, hml, hown, hts⟩ (c_X8_thrown l G cA (ad 9) (ad 10) (ad 11) (ad 12) (ad 13) (ad 14) (ad 15) (ad 16) k_ (nI c) rea rpo isS (nI l_) ra rwr _ (rfl : m_X8_thrown k_ = some k_) (Option.some_ne_none _)) (cwV 0 hts gL_law_X8_thrown rfl rfl rfl (by decide +kernel) ⟨Nat.le_of_ble_eq_true rfl, Nat.le_of_ble_eq_true rfl⟩) (preRV (q := (RX8, TX8, 15)) (hP.right.left.sub [0] rfl) hK 0 rfl rfl) rfl rfl hl.1 rfl (lv_room (Nat.le_of_ble_eq_true rfl)) dL_law_1162 ⟨by show _ ≤ 603072; omega, by show _ ≤ 7190634; omega⟩)) (fun r hw => ?_)
  obtain rfl := Option.some.inj hw
  refine lv_iload hx hb dL_law_1165 (lv_at hl 1 rfl) ?_
  refine lv_icmp_eq (tgt := 1172) hx hb dL_law_1167 (by decide) (fun _ => ?_) (fun c_0 => absurd rfl c_0)
  refine lv_iload hx hb dL_law_1172 (lv_at hl 1 rfl) ?_
  refine lv_if_ne (tgt := 1189) hx hb dL_law_1174 (by decide) (fun c_3 => ?_) (fun c_3 => ?_)
  · refine lv_goto (tgt := 2652) hx hb dL_law_1189 (by decide) ?_
    exact next _ _ _ _ ⟨P, D, E, L, K, dn, c, x, l_, ar, fi, la, nb, pa, ro, dp, dg, de, dd, ek, eo, es, ef, el, lc, lm, lp, lr, n, hW, gW, B, K0, isK, isS, lre, rea, lpo, rpo, ta, tc, k_, ra, rwr, mo, ti, tw, tn, sv, as, ch, bu, nu, g', gd, rfl, hWC, hHR, hRR, hPO, hSR, hTR⟩ hP hD hS (lv_sub hl [2, 3, 4, 5, 6, 7] rfl)
  · have hpost0 := hpost c_3
    refine lv_aload_n hx hb dL_law_1177 rfl (lv_at hl 4 rfl) ?_
    refine lv_iconst (v := (0 : Int32)) hx hb dL_law_1178 (by decide) ?_
    refine va_lald hx hb hK.1 hP 80 4 rfl rfl (ixi (i := (0 : Int32)) (n := 1) (by decide)) dL_law_1179 ?_
    refine lv_iload hx hb dL_law_1180 (lv_at hl 0 rfl) ?_
    refine lv_i2l hx hb dL_law_1182 rfl ?_
    refine W.lcmp hx hb dL_law_1183 ?_
    refine lv_if_eq (tgt := 1189) hx hb dL_law_1184 (by decide) (fun _ => ?_) (fun c_0 => absurd (by rw [show g' (0 : Int32).toNatClampNeg = b_.toInt64 from hpost0]; exact cmp_self _) c_0)
    refine lv_goto (tgt := 2652) hx hb dL_law_1189 (by decide) ?_
    exact next _ _ _ _ ⟨P, D, E, L, K, dn, c, x, l_, ar, fi, la, nb, pa, ro, dp, dg, de, dd, ek, eo, es, ef, el, lc, lm, lp, lr, n, hW, gW, B, K0, isK, isS, lre, rea, lpo, rpo, ta, tc, k_, ra, rwr, mo, ti, tw, tn, sv, as, ch, bu, nu, g', gd, rfl, hWC, hHR, hRR, hPO, hSR, hTR⟩ hP hD hS (lv_sub hl [2, 3, 4, 5, 6, 7] rfl)

set_option maxHeartbeats 16000000 in
set_option maxRecDepth 100000 in
/-- holders -/
theorem law_holders {p : Program} {l : Launch} {e : Env} {s : State} {m : MethodId} {below : List Frame} {meth : Method} {cd : Code} {b Ls : Nat} {xs : Nat → Int32} {z : Nat → Nat} {G : va_G} {cA : Nat → ClassId} {ad aw ab ak : Nat → Nat} {hA : Nat → Nat → Nat} {gA : Nat → Nat} (C0 : LC p l s m cd b Ls xs z G cA) {i nn kk : Nat} (hi : i + 4 < Ls) (hL : Ls ≤ 2560) (hn : nn + 1 ≤ 603072) (hk : kk + 6 ≤ 7190634) (next : LNext p l e s m below meth cd b G cA ad aw ab ak hA gA i (nn + 1) (kk + 6)) {ws : va_W} {H : Heap} {locs : List Loc} {ls : Array Slot} (hI : LSt cA ad aw ab ak hA gA ws) (hP : va_P G vwCl ws H) (hD : va_D (fun q : Nat => s.heap.size ≤ q) ws) (hS : va_S (fun q : Nat => s.heap.size ≤ q) s.heap H locs) (hl : lv_has ls 9 [(5, .int (nI i)), (4, .ref (ad 8)), (3, .ref (ad 7)), (2, .ref (ad 9)), (1, .ref (ad 0)), (0, .ref b)]) : W p l e room_1 s m #[Value.ref b] below meth cd H locs nn kk (lw_Z below #[Value.ref b] s) (F0 m 1192 ls []) := by
  obtain ⟨hx, hb, hml, hown, hts, hX, hbl, hK, hT, hO, hfl⟩ := C0
  have hbA : ¬ (fun q : Nat => s.heap.size ≤ q) b := Nat.not_le.mpr hbl
  have hA0 : ∀ q : Nat, s.heap.size ≤ q → (fun q : Nat => s.heap.size ≤ q) q := fun _ h => h
  have h_in1 : vp_in (nI i + (1 : Int32)) Ls := by rw [show nI i + (1 : Int32) = nI (i + 1) from nI_add i 1]; exact vp_in_nI (by omega) (by omega)
  have h_in2 : vp_in (nI i + (2 : Int32)) Ls := by rw [show nI i + (2 : Int32) = nI (i + 2) from nI_add i 2]; exact vp_in_nI (by omega) (by omega)
  have h_in3 : vp_in (nI i + (3 : Int32)) Ls := by rw [show nI i + (3 : Int32) = nI (i + 3) from nI_add i 3]; exact vp_in_nI (by omega) (by omega)
  have h_in4 : vp_in (nI i + (4 : Int32)) Ls := by rw [show nI i + (4 : Int32) = nI (i + 4) from nI_add i 4]; exact vp_in_nI (by omega) (by omega)
  obtain ⟨P, D, E, L, K, dn, c, x, l_, ar, fi, la, nb, pa, ro, dp, dg, de, dd, ek, eo, es, ef, el, lc, lm, lp, lr, n, hW, gW, B, K0, isK, isS, lre, rea, lpo, rpo, ta, tc, thr, ra, rwr, mo, ti, tw, tn, sv, as, ch, bu, nu, g, gd, rfl, hWC, hHR, hRR, hPO, hSR, hTR⟩ := hI
  refine lv_aload_n hx hb dL_law_1192 rfl (lv_at hl 4 rfl) ?_
  refine lv_aload_n hx hb dL_law_1193 rfl (lv_at hl 5 rfl) ?_
  refine lv_iload hx hb dL_law_1194 (lv_at hl 0 rfl) ?_
  refine lv_iconst (v := (1 : Int32)) hx hb dL_law_1196 (by decide) ?_
  refine lv_iadd hx hb dL_law_1197 ?_
  refine va_sld hx hb hX hbl hbA hS h_in1 dL_law_1198 ?_
  refine lv_aload_n hx hb dL_law_1199 rfl (lv_at hl 2 rfl) ?_
  obtain ⟨k_, b_, g', hop1, hop2, hpost⟩ := op_holders hWC (xs (nI i + (1 : Int32)).toNatClampNeg) g
  obtain ⟨Er1, hEr1⟩ : ∃ z, z = pk (E7 cA (ad 0) aw ab ak (ad 1) (ad 2) hA (ad 3) (ad 4) (ad 5) (ad 6) isK lre lpo (nI dn, nI P, ar, fi, la, nb, pa, ro, nI D, dp, dg, de, dd, nI E, ek, eo, es, ef, el, nI L, nI K, lc, lm, lp, lr) mo B K0 (nI c) (nI x) (nI l_) ta tc ti tw tn ++ [((ad 7), .inl (cA 4, 1, .inr (.inl g))), ((ad 8), .inl (cA 5, 1, .inr (.inr (.inr (.inl gd)))))]) [3, 4, 5, 6, 7, 13, 14, 15, 16, 17, 18, 19, 20, 21, 22, 23, 24, 25, 26, 27, 28, 29, 30, 31, 32, 33, 34, 35, 36, 37, 38, 39, 40, 41, 42, 43, 44, 45, 46, 47, 48, 49, 50, 51, 52, 53, 54, 55, 56, 57, 58, 59, 60, 61, 62, 63, 64, 65, 66, 67, 68, 69, 70, 71, 72, 73, 74, 75, 76, 77, 78, 79, 81] := ⟨_, rfl⟩
  have hp := gl_0 (E := (E7 cA (ad 0) aw ab ak (ad 1) (ad 2) hA (ad 3) (ad 4) (ad 5) (ad 6) isK lre lpo (nI dn, nI P, ar, fi, la, nb, pa, ro, nI D, dp, dg, de, dd, nI E, ek, eo, es, ef, el, nI L, nI K, lc, lm, lp, lr) mo B K0 (nI c) (nI x) (nI l_) ta tc ti tw tn ++ [((ad 7), .inl (cA 4, 1, .inr (.inl g))), ((ad 8), .inl (cA 5, 1, .inr (.inr (.inr (.inl gd)))))])) (Ec := (k_L_holders cA (ad 0) (aw 0) (ab 0) (ak 0) (ad 1) (ad 3) (aw 1) (aw 8) (aw 14) (aw 20) (aw 2) (aw 3) (aw 4) (aw 5) (aw 6) (aw 7) (aw 9) (aw 10) (aw 11) (aw 12) (aw 13) (ad 7) isK lre lpo (nI dn) (nI P) ro (nI D) dp dg de g)) (Er := Er1) (B := (hblk cA hA hW)) (R := ((E8 cA (ad 9) (ad 10) (ad 11) (ad 12) (ad 13) (ad 14) (ad 15) (ad 16) gA thr (nI c) rea rpo isS (nI l_) ra rwr n sv as ch bu nu) ++ gblk cA gA gW)) (pick (n := 82) [0, 1, 2, 8, 9, 10, 11, 12, 80] [3, 4, 5, 6, 7, 13, 14, 15, 16, 17, 18, 19, 20, 21, 22, 23, 24, 25, 26, 27, 28, 29, 30, 31, 32, 33, 34, 35, 36, 37, 38, 39, 40, 41, 42, 43, 44, 45, 46, 47, 48, 49, 50, 51, 52, 53, 54, 55, 56, 57, 58, 59, 60, 61, 62, 63, 64, 65, 66, 67, 68, 69, 70, 71, 72, 73, 74, 75, 76, 77, 78, 79, 81] rfl (by decide +kernel) rfl hEr1.symm)
  have hPc : va_P G vwCl (k_L_holders cA (ad 0) (aw 0) (ab 0) (ak 0) (ad 1) (ad 3) (aw 1) (aw 8) (aw 14) (aw 20) (aw 2) (aw 3) (aw 4) (aw 5) (aw 6) (aw 7) (aw 9) (aw 10) (aw 11) (aw 12) (aw 13) (ad 7) isK lre lpo (nI dn) (nI P) ro (nI D) dp dg de g) H := (hP.perm hp).left
  have hDc : va_D _ (k_L_holders cA (ad 0) (aw 0) (ab 0) (ak 0) (ad 1) (ad 3) (aw 1) (aw 8) (aw 14) (aw 20) (aw 2) (aw 3) (aw 4) (aw 5) (aw 6) (aw 7) (aw 9) (aw 10) (aw 11) (aw 12) (aw 13) (ad 7) isK lre lpo (nI dn) (nI P) ro (nI D) dp dg de g) := (hD.perm hp).left
  have hFc := va_freePm hp hD hS hA0
  refine va_calli (vx_runSW (As := [.ref (ad 0), .int (xs (nI i + (1 : Int32)).toNatClampNeg), .ref (ad 7)]) (rest := []) ⟨hx, hb, hml, hown, hts⟩ (c_L_holders l hfl z G cA (ad 0) (aw 0) (ab 0) (ak 0) (ad 1) (ad 3) (aw 1) (aw 8) (aw 14) (aw 20) (aw 2) (aw 3) (aw 4) (aw 5) (aw 6) (aw 7) (aw 9) (aw 10) (aw 11) (aw 12) (aw 13) (ad 7) H.size (xs (nI i + (1 : Int32)).toNatClampNeg) isK lre lpo (nI dn) (nI P) ro (nI D) dp dg de g _ hop1 (Option.some_ne_none _)) (vx_cwSW 3 hts gL_law_L_holders rfl rfl rfl (by decide +kernel) ⟨Nat.le_of_ble_eq_true rfl, Nat.le_of_ble_eq_true rfl⟩) (preMSo hPc hDc hK hT hO hS hFc) rfl rfl hl.1 rfl (lv_room (Nat.le_of_ble_eq_true rfl)) dL_law_1200 ⟨hn, hk⟩) hS (fun q _ h => hFc q h) hFc (fun r u t H1 locs ht hvm hw hB hz1 hk1 hS1 => ?_)
  obtain ⟨rfl, rfl⟩ := Prod.mk.inj (Option.some.inj hw)
  replace hB : va_P G vwCl (k_L_holders cA (ad 0) (aw 0) (ab 0) (ak 0) (ad 1) (ad 3) (aw 1) (aw 8) (aw 14) (aw 20) (aw 2) (aw 3) (aw 4) (aw 5) (aw 6) (aw 7) (aw 9) (aw 10) (aw 11) (aw 12) (aw 13) (ad 7) isK lre lpo (nI dn) (nI P) ro (nI D) dp dg de g') t.heap := hB
  rw [ht] at hB
  have hj := va_backP hp hP hD hk1 hB rfl
  have hp2 := gl_0 (E := (E7 cA (ad 0) aw ab ak (ad 1) (ad 2) hA (ad 3) (ad 4) (ad 5) (ad 6) isK lre lpo (nI dn, nI P, ar, fi, la, nb, pa, ro, nI D, dp, dg, de, dd, nI E, ek, eo, es, ef, el, nI L, nI K, lc, lm, lp, lr) mo B K0 (nI c) (nI x) (nI l_) ta tc ti tw tn ++ [((ad 7), .inl (cA 4, 1, .inr (.inl g'))), ((ad 8), .inl (cA 5, 1, .inr (.inr (.inr (.inl gd)))))])) (Ec := (k_L_holders cA (ad 0) (aw 0) (ab 0) (ak 0) (ad 1) (ad 3) (aw 1) (aw 8) (aw 14) (aw 20) (aw 2) (aw 3) (aw 4) (aw 5) (aw 6) (aw 7) (aw 9) (aw 10) (aw 11) (aw 12) (aw 13) (ad 7) isK lre lpo (nI dn) (nI P) ro (nI D) dp dg de g')) (Er := Er1) (B := (hblk cA hA hW)) (R := ((E8 cA (ad 9) (ad 10) (ad 11) (ad 12) (ad 13) (ad 14) (ad 15) (ad 16) gA thr (nI c) rea rpo isS (nI l_) ra rwr n sv as ch bu nu) ++ gblk cA gA gW)) (pick (n := 82) [0, 1, 2, 8, 9, 10, 11, 12, 80] [3, 4, 5, 6, 7, 13, 14, 15, 16, 17, 18, 19, 20, 21, 22, 23, 24, 25, 26, 27, 28, 29, 30, 31, 32, 33, 34, 35, 36, 37, 38, 39, 40, 41, 42, 43, 44, 45, 46, 47, 48, 49, 50, 51, 52, 53, 54, 55, 56, 57, 58, 59, 60, 61, 62, 63, 64, 65, 66, 67, 68, 69, 70, 71, 72, 73, 74, 75, 76, 77, 78, 79, 81] rfl (by decide +kernel) rfl (by rw [hEr1]; exact pk_e0 (n := 80) _ rfl (by decide)))
  replace hP : va_P G vwCl (((E7 cA (ad 0) aw ab ak (ad 1) (ad 2) hA (ad 3) (ad 4) (ad 5) (ad 6) isK lre lpo (nI dn, nI P, ar, fi, la, nb, pa, ro, nI D, dp, dg, de, dd, nI E, ek, eo, es, ef, el, nI L, nI K, lc, lm, lp, lr) mo B K0 (nI c) (nI x) (nI l_) ta tc ti tw tn ++ [((ad 7), .inl (cA 4, 1, .inr (.inl g'))), ((ad 8), .inl (cA 5, 1, .inr (.inr (.inr (.inl gd)))))]) ++ hblk cA hA hW) ++ ((E8 cA (ad 9) (ad 10) (ad 11) (ad 12) (ad 13) (ad 14) (ad 15) (ad 16) gA thr (nI c) rea rpo isS (nI l_) ra rwr n sv as ch bu nu) ++ gblk cA gA gW)) H1 := hj.1.perm hp2.symm
  replace hD : va_D _ (((E7 cA (ad 0) aw ab ak (ad 1) (ad 2) hA (ad 3) (ad 4) (ad 5) (ad 6) isK lre lpo (nI dn, nI P, ar, fi, la, nb, pa, ro, nI D, dp, dg, de, dd, nI E, ek, eo, es, ef, el, nI L, nI K, lc, lm, lp, lr) mo B K0 (nI c) (nI x) (nI l_) ta tc ti tw tn ++ [((ad 7), .inl (cA 4, 1, .inr (.inl g'))), ((ad 8), .inl (cA 5, 1, .inr (.inr (.inr (.inl gd)))))]) ++ hblk cA hA hW) ++ ((E8 cA (ad 9) (ad 10) (ad 11) (ad 12) (ad 13) (ad 14) (ad 15) (ad 16) gA thr (nI c) rea rpo isS (nI l_) ra rwr n sv as ch bu nu) ++ gblk cA gA gW)) := hj.2.perm hp2.symm
  have hS := hS1
  clear hj hp hp2 hPc hDc hFc hB hk1 hEr1 hw
  generalize H1 = H at hP hS ht hz1 ⊢
  refine lv_istore (lv' := [(6, .int k_), (5, .int (nI i)), (4, .ref (ad 8)), (3, .ref (ad 7)), (2, .ref (ad 9)), (1, .ref (ad 0)), (0, .ref b)]) hx hb dL_law_1203 hl (by decide) rfl (fun ls hl => ?_)
  refine lv_aload_n hx hb dL_law_1205 rfl (lv_at hl 4 rfl) ?_
  refine lv_aload_n hx hb dL_law_1206 rfl (lv_at hl 6 rfl) ?_
  refine lv_iload hx hb dL_law_1207 (lv_at hl 1 rfl) ?_
  refine lv_iconst (v := (1 : Int32)) hx hb dL_law_1209 (by decide) ?_
  refine lv_iadd hx hb dL_law_1210 ?_
  refine va_sld hx hb hX hbl hbA hS h_in1 dL_law_1211 ?_
  obtain ⟨Er2, hEr2⟩ : ∃ z, z = pk (E8 cA (ad 9) (ad 10) (ad 11) (ad 12) (ad 13) (ad 14) (ad 15) (ad 16) gA thr (nI c) rea rpo isS (nI l_) ra rwr n sv as ch bu nu) [2, 3, 4, 5, 6, 7] := ⟨_, rfl⟩
  have hp := gq_0 (E := (E8 cA (ad 9) (ad 10) (ad 11) (ad 12) (ad 13) (ad 14) (ad 15) (ad 16) gA thr (nI c) rea rpo isS (nI l_) ra rwr n sv as ch bu nu)) (Ec := (k_X8_holders cA (ad 9) (ad 10) (ad 11) (ad 12) (ad 13) (ad 14) (ad 15) (ad 16) thr (nI c) rea rpo isS (nI l_) ra rwr n)) (Er := Er2) (B := (gblk cA gA gW)) (R := ((E7 cA (ad 0) aw ab ak (ad 1) (ad 2) hA (ad 3) (ad 4) (ad 5) (ad 6) isK lre lpo (nI dn, nI P, ar, fi, la, nb, pa, ro, nI D, dp, dg, de, dd, nI E, ek, eo, es, ef, el, nI L, nI K, lc, lm, lp, lr) mo B K0 (nI c) (nI x) (nI l_) ta tc ti tw tn ++ [((ad 7), .inl (cA 4, 1, .inr (.inl g'))), ((ad 8), .inl (cA 5, 1, .inr (.inr (.inr (.inl gd)))))]) ++ hblk cA hA hW)) (pick (n := 8) [0, 1] [2, 3, 4, 5, 6, 7] rfl (by decide +kernel) rfl hEr2.symm)
  have hPc : va_P G vwCl (k_X8_holders cA (ad 9) (ad 10) (ad 11) (ad 12) (ad 13) (ad 14) (ad 15) (ad 16) thr (nI c) rea rpo isS (nI l_) ra rwr n) H := (hP.perm hp).left
  have hDc : va_D _ (k_X8_holders cA (ad 9) (ad 10) (ad 11) (ad 12) (ad 13) (ad 14) (ad 15) (ad 16) thr (nI c) rea rpo isS (nI l_) ra rwr n) := (hD.perm hp).left
  have hFc := va_freePm hp hD hS hA0
  refine va_calli (va_runV (As := [.int (xs (nI i + (1 : Int32)).toNatClampNeg)]) (rest := []) ⟨hx, hb, hml, hown, hts⟩ (c_X8_holders l G cA (ad 9) (ad 10) (ad 11) (ad 12) (ad 13) (ad 14) (ad 15) (ad 16) H.size (xs (nI i + (1 : Int32)).toNatClampNeg) thr (nI c) rea rpo isS (nI l_) ra rwr n _ hop2 (Option.some_ne_none _)) (cwV 1 hts gL_law_X8_holders rfl rfl rfl (by decide +kernel) ⟨Nat.le_of_ble_eq_true rfl, Nat.le_of_ble_eq_true rfl⟩) (preMV (q := (RX8, TX8, 15)) hPc hDc hK 0 rfl rfl) rfl rfl hl.1 rfl (lv_room (Nat.le_of_ble_eq_true rfl)) dL_law_1212 ⟨by show _ ≤ 603072; omega, by show _ ≤ 7190634; omega⟩) hS (fun q _ h => hFc q h) hFc (fun r u t H1 locs ht hvm hw hB hz1 hk1 hS1 => ?_)
  obtain ⟨rfl, rfl⟩ := Prod.mk.inj (Option.some.inj hw)
  replace hB : va_P G vwCl (k_X8_holders cA (ad 9) (ad 10) (ad 11) (ad 12) (ad 13) (ad 14) (ad 15) (ad 16) k_ (nI c) rea rpo isS (nI l_) ra rwr n) t.heap := hB
  rw [ht] at hB
  have hj := va_backP hp hP hD hk1 hB rfl
  have hp2 := gq_0 (E := (E8 cA (ad 9) (ad 10) (ad 11) (ad 12) (ad 13) (ad 14) (ad 15) (ad 16) gA k_ (nI c) rea rpo isS (nI l_) ra rwr n sv as ch bu nu)) (Ec := (k_X8_holders cA (ad 9) (ad 10) (ad 11) (ad 12) (ad 13) (ad 14) (ad 15) (ad 16) k_ (nI c) rea rpo isS (nI l_) ra rwr n)) (Er := Er2) (B := (gblk cA gA gW)) (R := ((E7 cA (ad 0) aw ab ak (ad 1) (ad 2) hA (ad 3) (ad 4) (ad 5) (ad 6) isK lre lpo (nI dn, nI P, ar, fi, la, nb, pa, ro, nI D, dp, dg, de, dd, nI E, ek, eo, es, ef, el, nI L, nI K, lc, lm, lp, lr) mo B K0 (nI c) (nI x) (nI l_) ta tc ti tw tn ++ [((ad 7), .inl (cA 4, 1, .inr (.inl g'))), ((ad 8), .inl (cA 5, 1, .inr (.inr (.inr (.inl gd)))))]) ++ hblk cA hA hW)) (pick (n := 8) [0, 1] [2, 3, 4, 5, 6, 7] rfl (by decide +kernel) rfl (by rw [hEr2]; rfl))
  replace hP : va_P G vwCl (((E7 cA (ad 0) aw ab ak (ad 1) (ad 2) hA (ad 3) (ad 4) (ad 5) (ad 6) isK lre lpo (nI dn, nI P, ar, fi, la, nb, pa, ro, nI D, dp, dg, de, dd, nI E, ek, eo, es, ef, el, nI L, nI K, lc, lm, lp, lr) mo B K0 (nI c) (nI x) (nI l_) ta tc ti tw tn ++ [((ad 7), .inl (cA 4, 1, .inr (.inl g'))), ((ad 8), .inl (cA 5, 1, .inr (.inr (.inr (.inl gd)))))]) ++ hblk cA hA hW) ++ ((E8 cA (ad 9) (ad 10) (ad 11) (ad 12) (ad 13) (ad 14) (ad 15) (ad 16) gA k_ (nI c) rea rpo isS (nI l_) ra rwr n sv as ch bu nu) ++ gblk cA gA gW)) H1 := hj.1.perm hp2.symm
  replace hD : va_D _ (((E7 cA (ad 0) aw ab ak (ad 1) (ad 2) hA (ad 3) (ad 4) (ad 5) (ad 6) isK lre lpo (nI dn, nI P, ar, fi, la, nb, pa, ro, nI D, dp, dg, de, dd, nI E, ek, eo, es, ef, el, nI L, nI K, lc, lm, lp, lr) mo B K0 (nI c) (nI x) (nI l_) ta tc ti tw tn ++ [((ad 7), .inl (cA 4, 1, .inr (.inl g'))), ((ad 8), .inl (cA 5, 1, .inr (.inr (.inr (.inl gd)))))]) ++ hblk cA hA hW) ++ ((E8 cA (ad 9) (ad 10) (ad 11) (ad 12) (ad 13) (ad 14) (ad 15) (ad 16) gA k_ (nI c) rea rpo isS (nI l_) ra rwr n sv as ch bu nu) ++ gblk cA gA gW)) := hj.2.perm hp2.symm
  have hS := hS1
  clear hj hp hp2 hPc hDc hFc hB hk1 hEr2 hw
  generalize H1 = H at hP hS ht hz1 ⊢
  refine lv_istore (lv' := [(7, .int b_), (6, .int k_), (5, .int (nI i)), (4, .ref (ad 8)), (3, .ref (ad 7)), (2, .ref (ad 9)), (1, .ref (ad 0)), (0, .ref b)]) hx hb dL_law_1215 hl (by decide) rfl (fun ls hl => ?_)
  refine lv_aload_n hx hb dL_law_1217 rfl (lv_at hl 5 rfl) ?_
  refine vp_callSi (va_Run.run (va_runV (As := []) (rest := []) ⟨hx, hb, hml, hown, hts⟩ (c_X8_thrown l G cA (ad 9) (ad 10) (ad 11) (ad 12) (ad 13) (ad 14) (ad 15) (ad 16) k_ (nI c) rea rpo isS (nI l_) ra rwr _ (rfl : m_X8_thrown k_ = some k_) (Option.some_ne_none _)) (cwV 0 hts gL_law_X8_thrown rfl rfl rfl (by decide +kernel) ⟨Nat.le_of_ble_eq_true rfl, Nat.le_of_ble_eq_true rfl⟩) (preRV (q := (RX8, TX8, 15)) (hP.right.left.sub [0] rfl) hK 0 rfl rfl) rfl rfl hl.1 rfl (lv_room (Nat.le_of_ble_eq_true rfl)) dL_law_1218 ⟨by show _ ≤ 603072; omega, by show _ ≤ 7190634; omega⟩)) (fun r hw => ?_)
  obtain rfl := Option.some.inj hw
  refine lv_iload hx hb dL_law_1221 (lv_at hl 1 rfl) ?_
  refine lv_icmp_eq (tgt := 1228) hx hb dL_law_1223 (by decide) (fun _ => ?_) (fun c_0 => absurd rfl c_0)
  refine lv_iload hx hb dL_law_1228 (lv_at hl 1 rfl) ?_
  refine lv_if_ne (tgt := 1245) hx hb dL_law_1230 (by decide) (fun c_3 => ?_) (fun c_3 => ?_)
  · refine lv_goto (tgt := 2652) hx hb dL_law_1245 (by decide) ?_
    exact next _ _ _ _ ⟨P, D, E, L, K, dn, c, x, l_, ar, fi, la, nb, pa, ro, dp, dg, de, dd, ek, eo, es, ef, el, lc, lm, lp, lr, n, hW, gW, B, K0, isK, isS, lre, rea, lpo, rpo, ta, tc, k_, ra, rwr, mo, ti, tw, tn, sv, as, ch, bu, nu, g', gd, rfl, hWC, hHR, hRR, hPO, hSR, hTR⟩ hP hD hS (lv_sub hl [2, 3, 4, 5, 6, 7] rfl)
  · have hpost0 := hpost c_3
    refine lv_aload_n hx hb dL_law_1233 rfl (lv_at hl 4 rfl) ?_
    refine lv_iconst (v := (0 : Int32)) hx hb dL_law_1234 (by decide) ?_
    refine va_lald hx hb hK.1 hP 80 4 rfl rfl (ixi (i := (0 : Int32)) (n := 1) (by decide)) dL_law_1235 ?_
    refine lv_iload hx hb dL_law_1236 (lv_at hl 0 rfl) ?_
    refine lv_i2l hx hb dL_law_1238 rfl ?_
    refine W.lcmp hx hb dL_law_1239 ?_
    refine lv_if_eq (tgt := 1245) hx hb dL_law_1240 (by decide) (fun _ => ?_) (fun c_0 => absurd (by rw [show g' (0 : Int32).toNatClampNeg = b_.toInt64 from hpost0]; exact cmp_self _) c_0)
    refine lv_goto (tgt := 2652) hx hb dL_law_1245 (by decide) ?_
    exact next _ _ _ _ ⟨P, D, E, L, K, dn, c, x, l_, ar, fi, la, nb, pa, ro, dp, dg, de, dd, ek, eo, es, ef, el, lc, lm, lp, lr, n, hW, gW, B, K0, isK, isS, lre, rea, lpo, rpo, ta, tc, k_, ra, rwr, mo, ti, tw, tn, sv, as, ch, bu, nu, g', gd, rfl, hWC, hHR, hRR, hPO, hSR, hTR⟩ hP hD hS (lv_sub hl [2, 3, 4, 5, 6, 7] rfl)

set_option maxHeartbeats 16000000 in
set_option maxRecDepth 100000 in
/-- needless -/
theorem law_needless {p : Program} {l : Launch} {e : Env} {s : State} {m : MethodId} {below : List Frame} {meth : Method} {cd : Code} {b Ls : Nat} {xs : Nat → Int32} {z : Nat → Nat} {G : va_G} {cA : Nat → ClassId} {ad aw ab ak : Nat → Nat} {hA : Nat → Nat → Nat} {gA : Nat → Nat} (C0 : LC p l s m cd b Ls xs z G cA) {i nn kk : Nat} (hi : i + 4 < Ls) (hL : Ls ≤ 2560) (hn : nn + 1 ≤ 603072) (hk : kk + 6 ≤ 7190634) (next : LNext p l e s m below meth cd b G cA ad aw ab ak hA gA i (nn + 1) (kk + 6)) {ws : va_W} {H : Heap} {locs : List Loc} {ls : Array Slot} (hI : LSt cA ad aw ab ak hA gA ws) (hP : va_P G vwCl ws H) (hD : va_D (fun q : Nat => s.heap.size ≤ q) ws) (hS : va_S (fun q : Nat => s.heap.size ≤ q) s.heap H locs) (hl : lv_has ls 9 [(5, .int (nI i)), (4, .ref (ad 8)), (3, .ref (ad 7)), (2, .ref (ad 9)), (1, .ref (ad 0)), (0, .ref b)]) : W p l e room_1 s m #[Value.ref b] below meth cd H locs nn kk (lw_Z below #[Value.ref b] s) (F0 m 1248 ls []) := by
  obtain ⟨hx, hb, hml, hown, hts, hX, hbl, hK, hT, hO, hfl⟩ := C0
  have hbA : ¬ (fun q : Nat => s.heap.size ≤ q) b := Nat.not_le.mpr hbl
  have hA0 : ∀ q : Nat, s.heap.size ≤ q → (fun q : Nat => s.heap.size ≤ q) q := fun _ h => h
  have h_in1 : vp_in (nI i + (1 : Int32)) Ls := by rw [show nI i + (1 : Int32) = nI (i + 1) from nI_add i 1]; exact vp_in_nI (by omega) (by omega)
  have h_in2 : vp_in (nI i + (2 : Int32)) Ls := by rw [show nI i + (2 : Int32) = nI (i + 2) from nI_add i 2]; exact vp_in_nI (by omega) (by omega)
  have h_in3 : vp_in (nI i + (3 : Int32)) Ls := by rw [show nI i + (3 : Int32) = nI (i + 3) from nI_add i 3]; exact vp_in_nI (by omega) (by omega)
  have h_in4 : vp_in (nI i + (4 : Int32)) Ls := by rw [show nI i + (4 : Int32) = nI (i + 4) from nI_add i 4]; exact vp_in_nI (by omega) (by omega)
  obtain ⟨P, D, E, L, K, dn, c, x, l_, ar, fi, la, nb, pa, ro, dp, dg, de, dd, ek, eo, es, ef, el, lc, lm, lp, lr, n, hW, gW, B, K0, isK, isS, lre, rea, lpo, rpo, ta, tc, thr, ra, rwr, mo, ti, tw, tn, sv, as, ch, bu, nu, g, gd, rfl, hWC, hHR, hRR, hPO, hSR, hTR⟩ := hI
  refine lv_aload_n hx hb dL_law_1248 rfl (lv_at hl 4 rfl) ?_
  refine lv_aload_n hx hb dL_law_1249 rfl (lv_at hl 5 rfl) ?_
  refine lv_iload hx hb dL_law_1250 (lv_at hl 0 rfl) ?_
  refine lv_iconst (v := (1 : Int32)) hx hb dL_law_1252 (by decide) ?_
  refine lv_iadd hx hb dL_law_1253 ?_
  refine va_sld hx hb hX hbl hbA hS h_in1 dL_law_1254 ?_
  refine lv_aload_n hx hb dL_law_1255 rfl (lv_at hl 2 rfl) ?_
  obtain ⟨k_, b_, mo', ch', g', hop1, hop2, hpost⟩ := op_needless hWC (xs (nI i + (1 : Int32)).toNatClampNeg) mo ch g
  obtain ⟨Er1, hEr1⟩ : ∃ z, z = pk (E7 cA (ad 0) aw ab ak (ad 1) (ad 2) hA (ad 3) (ad 4) (ad 5) (ad 6) isK lre lpo (nI dn, nI P, ar, fi, la, nb, pa, ro, nI D, dp, dg, de, dd, nI E, ek, eo, es, ef, el, nI L, nI K, lc, lm, lp, lr) mo B K0 (nI c) (nI x) (nI l_) ta tc ti tw tn ++ [((ad 7), .inl (cA 4, 1, .inr (.inl g))), ((ad 8), .inl (cA 5, 1, .inr (.inr (.inr (.inl gd)))))]) [3, 4, 5, 6, 7, 13, 14, 15, 16, 17, 18, 19, 20, 21, 22, 23, 24, 26, 27, 28, 29, 30, 31, 32, 33, 34, 35, 36, 37, 38, 39, 40, 41, 42, 43, 44, 45, 46, 47, 48, 49, 50, 51, 52, 53, 54, 55, 56, 57, 58, 59, 60, 61, 62, 63, 64, 65, 66, 67, 68, 69, 70, 71, 72, 73, 74, 75, 76, 77, 78, 79, 81] := ⟨_, rfl⟩
  have hp := gl_0 (E := (E7 cA (ad 0) aw ab ak (ad 1) (ad 2) hA (ad 3) (ad 4) (ad 5) (ad 6) isK lre lpo (nI dn, nI P, ar, fi, la, nb, pa, ro, nI D, dp, dg, de, dd, nI E, ek, eo, es, ef, el, nI L, nI K, lc, lm, lp, lr) mo B K0 (nI c) (nI x) (nI l_) ta tc ti tw tn ++ [((ad 7), .inl (cA 4, 1, .inr (.inl g))), ((ad 8), .inl (cA 5, 1, .inr (.inr (.inr (.inl gd)))))])) (Ec := (k_L_needless cA (ad 0) (aw 0) (ab 0) (ak 0) (ad 1) (ad 3) (aw 1) (aw 8) (aw 14) (aw 20) (aw 2) (aw 3) (aw 4) (aw 5) (aw 6) (aw 7) (aw 9) (aw 10) (aw 11) (aw 12) (aw 13) (ad 7) isK lre lpo (nI dn) (nI P) ro (nI D) dp dg de mo g)) (Er := Er1) (B := (hblk cA hA hW)) (R := ((E8 cA (ad 9) (ad 10) (ad 11) (ad 12) (ad 13) (ad 14) (ad 15) (ad 16) gA thr (nI c) rea rpo isS (nI l_) ra rwr n sv as ch bu nu) ++ gblk cA gA gW)) (pick (n := 82) [0, 1, 2, 8, 9, 10, 11, 12, 25, 80] [3, 4, 5, 6, 7, 13, 14, 15, 16, 17, 18, 19, 20, 21, 22, 23, 24, 26, 27, 28, 29, 30, 31, 32, 33, 34, 35, 36, 37, 38, 39, 40, 41, 42, 43, 44, 45, 46, 47, 48, 49, 50, 51, 52, 53, 54, 55, 56, 57, 58, 59, 60, 61, 62, 63, 64, 65, 66, 67, 68, 69, 70, 71, 72, 73, 74, 75, 76, 77, 78, 79, 81] rfl (by decide +kernel) rfl hEr1.symm)
  have hPc : va_P G vwCl (k_L_needless cA (ad 0) (aw 0) (ab 0) (ak 0) (ad 1) (ad 3) (aw 1) (aw 8) (aw 14) (aw 20) (aw 2) (aw 3) (aw 4) (aw 5) (aw 6) (aw 7) (aw 9) (aw 10) (aw 11) (aw 12) (aw 13) (ad 7) isK lre lpo (nI dn) (nI P) ro (nI D) dp dg de mo g) H := (hP.perm hp).left
  have hDc : va_D _ (k_L_needless cA (ad 0) (aw 0) (ab 0) (ak 0) (ad 1) (ad 3) (aw 1) (aw 8) (aw 14) (aw 20) (aw 2) (aw 3) (aw 4) (aw 5) (aw 6) (aw 7) (aw 9) (aw 10) (aw 11) (aw 12) (aw 13) (ad 7) isK lre lpo (nI dn) (nI P) ro (nI D) dp dg de mo g) := (hD.perm hp).left
  have hFc := va_freePm hp hD hS hA0
  refine va_calli (vx_runSW (As := [.ref (ad 0), .int (xs (nI i + (1 : Int32)).toNatClampNeg), .ref (ad 7)]) (rest := []) ⟨hx, hb, hml, hown, hts⟩ (c_L_needless l hfl z G cA (ad 0) (aw 0) (ab 0) (ak 0) (ad 1) (ad 3) (aw 1) (aw 8) (aw 14) (aw 20) (aw 2) (aw 3) (aw 4) (aw 5) (aw 6) (aw 7) (aw 9) (aw 10) (aw 11) (aw 12) (aw 13) (ad 7) H.size (xs (nI i + (1 : Int32)).toNatClampNeg) isK lre lpo (nI dn) (nI P) ro (nI D) dp dg de mo g _ hop1 (Option.some_ne_none _)) (vx_cwSW 3 hts gL_law_L_needless rfl rfl rfl (by decide +kernel) ⟨Nat.le_of_ble_eq_true rfl, Nat.le_of_ble_eq_true rfl⟩) (preMSo hPc hDc hK hT hO hS hFc) rfl rfl hl.1 rfl (lv_room (Nat.le_of_ble_eq_true rfl)) dL_law_1256 ⟨hn, hk⟩) hS (fun q _ h => hFc q h) hFc (fun r u t H1 locs ht hvm hw hB hz1 hk1 hS1 => ?_)
  obtain ⟨rfl, rfl⟩ := Prod.mk.inj (Option.some.inj hw)
  replace hB : va_P G vwCl (k_L_needless cA (ad 0) (aw 0) (ab 0) (ak 0) (ad 1) (ad 3) (aw 1) (aw 8) (aw 14) (aw 20) (aw 2) (aw 3) (aw 4) (aw 5) (aw 6) (aw 7) (aw 9) (aw 10) (aw 11) (aw 12) (aw 13) (ad 7) isK lre lpo (nI dn) (nI P) ro (nI D) dp dg de mo' g') t.heap := hB
  rw [ht] at hB
  have hj := va_backP hp hP hD hk1 hB rfl
  have hp2 := gl_0 (E := (E7 cA (ad 0) aw ab ak (ad 1) (ad 2) hA (ad 3) (ad 4) (ad 5) (ad 6) isK lre lpo (nI dn, nI P, ar, fi, la, nb, pa, ro, nI D, dp, dg, de, dd, nI E, ek, eo, es, ef, el, nI L, nI K, lc, lm, lp, lr) mo' B K0 (nI c) (nI x) (nI l_) ta tc ti tw tn ++ [((ad 7), .inl (cA 4, 1, .inr (.inl g'))), ((ad 8), .inl (cA 5, 1, .inr (.inr (.inr (.inl gd)))))])) (Ec := (k_L_needless cA (ad 0) (aw 0) (ab 0) (ak 0) (ad 1) (ad 3) (aw 1) (aw 8) (aw 14) (aw 20) (aw 2) (aw 3) (aw 4) (aw 5) (aw 6) (aw 7) (aw 9) (aw 10) (aw 11) (aw 12) (aw 13) (ad 7) isK lre lpo (nI dn) (nI P) ro (nI D) dp dg de mo' g')) (Er := Er1) (B := (hblk cA hA hW)) (R := ((E8 cA (ad 9) (ad 10) (ad 11) (ad 12) (ad 13) (ad 14) (ad 15) (ad 16) gA thr (nI c) rea rpo isS (nI l_) ra rwr n sv as ch bu nu) ++ gblk cA gA gW)) (pick (n := 82) [0, 1, 2, 8, 9, 10, 11, 12, 25, 80] [3, 4, 5, 6, 7, 13, 14, 15, 16, 17, 18, 19, 20, 21, 22, 23, 24, 26, 27, 28, 29, 30, 31, 32, 33, 34, 35, 36, 37, 38, 39, 40, 41, 42, 43, 44, 45, 46, 47, 48, 49, 50, 51, 52, 53, 54, 55, 56, 57, 58, 59, 60, 61, 62, 63, 64, 65, 66, 67, 68, 69, 70, 71, 72, 73, 74, 75, 76, 77, 78, 79, 81] rfl (by decide +kernel) rfl (by rw [hEr1]; rfl))
  replace hP : va_P G vwCl (((E7 cA (ad 0) aw ab ak (ad 1) (ad 2) hA (ad 3) (ad 4) (ad 5) (ad 6) isK lre lpo (nI dn, nI P, ar, fi, la, nb, pa, ro, nI D, dp, dg, de, dd, nI E, ek, eo, es, ef, el, nI L, nI K, lc, lm, lp, lr) mo' B K0 (nI c) (nI x) (nI l_) ta tc ti tw tn ++ [((ad 7), .inl (cA 4, 1, .inr (.inl g'))), ((ad 8), .inl (cA 5, 1, .inr (.inr (.inr (.inl gd)))))]) ++ hblk cA hA hW) ++ ((E8 cA (ad 9) (ad 10) (ad 11) (ad 12) (ad 13) (ad 14) (ad 15) (ad 16) gA thr (nI c) rea rpo isS (nI l_) ra rwr n sv as ch bu nu) ++ gblk cA gA gW)) H1 := hj.1.perm hp2.symm
  replace hD : va_D _ (((E7 cA (ad 0) aw ab ak (ad 1) (ad 2) hA (ad 3) (ad 4) (ad 5) (ad 6) isK lre lpo (nI dn, nI P, ar, fi, la, nb, pa, ro, nI D, dp, dg, de, dd, nI E, ek, eo, es, ef, el, nI L, nI K, lc, lm, lp, lr) mo' B K0 (nI c) (nI x) (nI l_) ta tc ti tw tn ++ [((ad 7), .inl (cA 4, 1, .inr (.inl g'))), ((ad 8), .inl (cA 5, 1, .inr (.inr (.inr (.inl gd)))))]) ++ hblk cA hA hW) ++ ((E8 cA (ad 9) (ad 10) (ad 11) (ad 12) (ad 13) (ad 14) (ad 15) (ad 16) gA thr (nI c) rea rpo isS (nI l_) ra rwr n sv as ch bu nu) ++ gblk cA gA gW)) := hj.2.perm hp2.symm
  have hS := hS1
  clear hj hp hp2 hPc hDc hFc hB hk1 hEr1 hw
  generalize H1 = H at hP hS ht hz1 ⊢
  refine lv_istore (lv' := [(6, .int k_), (5, .int (nI i)), (4, .ref (ad 8)), (3, .ref (ad 7)), (2, .ref (ad 9)), (1, .ref (ad 0)), (0, .ref b)]) hx hb dL_law_1259 hl (by decide) rfl (fun ls hl => ?_)
  refine lv_aload_n hx hb dL_law_1261 rfl (lv_at hl 4 rfl) ?_
  refine lv_aload_n hx hb dL_law_1262 rfl (lv_at hl 6 rfl) ?_
  refine lv_iload hx hb dL_law_1263 (lv_at hl 1 rfl) ?_
  refine lv_iconst (v := (1 : Int32)) hx hb dL_law_1265 (by decide) ?_
  refine lv_iadd hx hb dL_law_1266 ?_
  refine va_sld hx hb hX hbl hbA hS h_in1 dL_law_1267 ?_
  obtain ⟨Er2, hEr2⟩ : ∃ z, z = pk (E8 cA (ad 9) (ad 10) (ad 11) (ad 12) (ad 13) (ad 14) (ad 15) (ad 16) gA thr (nI c) rea rpo isS (nI l_) ra rwr n sv as ch bu nu) [2, 3, 4, 6, 7] := ⟨_, rfl⟩
  have hp := gq_0 (E := (E8 cA (ad 9) (ad 10) (ad 11) (ad 12) (ad 13) (ad 14) (ad 15) (ad 16) gA thr (nI c) rea rpo isS (nI l_) ra rwr n sv as ch bu nu)) (Ec := (k_X8_needless cA (ad 9) (ad 10) (ad 11) (ad 12) (ad 13) (ad 14) (ad 15) (ad 16) thr (nI c) rea rpo isS (nI l_) ra rwr n ch)) (Er := Er2) (B := (gblk cA gA gW)) (R := ((E7 cA (ad 0) aw ab ak (ad 1) (ad 2) hA (ad 3) (ad 4) (ad 5) (ad 6) isK lre lpo (nI dn, nI P, ar, fi, la, nb, pa, ro, nI D, dp, dg, de, dd, nI E, ek, eo, es, ef, el, nI L, nI K, lc, lm, lp, lr) mo' B K0 (nI c) (nI x) (nI l_) ta tc ti tw tn ++ [((ad 7), .inl (cA 4, 1, .inr (.inl g'))), ((ad 8), .inl (cA 5, 1, .inr (.inr (.inr (.inl gd)))))]) ++ hblk cA hA hW)) (pick (n := 8) [0, 1, 5] [2, 3, 4, 6, 7] rfl (by decide +kernel) rfl hEr2.symm)
  have hPc : va_P G vwCl (k_X8_needless cA (ad 9) (ad 10) (ad 11) (ad 12) (ad 13) (ad 14) (ad 15) (ad 16) thr (nI c) rea rpo isS (nI l_) ra rwr n ch) H := (hP.perm hp).left
  have hDc : va_D _ (k_X8_needless cA (ad 9) (ad 10) (ad 11) (ad 12) (ad 13) (ad 14) (ad 15) (ad 16) thr (nI c) rea rpo isS (nI l_) ra rwr n ch) := (hD.perm hp).left
  have hFc := va_freePm hp hD hS hA0
  refine va_calli (va_runV (As := [.int (xs (nI i + (1 : Int32)).toNatClampNeg)]) (rest := []) ⟨hx, hb, hml, hown, hts⟩ (c_X8_needless l G cA (ad 9) (ad 10) (ad 11) (ad 12) (ad 13) (ad 14) (ad 15) (ad 16) H.size (xs (nI i + (1 : Int32)).toNatClampNeg) thr (nI c) rea rpo isS (nI l_) ra rwr n ch _ hop2 (Option.some_ne_none _)) (cwV 1 hts gL_law_X8_needless rfl rfl rfl (by decide +kernel) ⟨Nat.le_of_ble_eq_true rfl, Nat.le_of_ble_eq_true rfl⟩) (preMV (q := (RX8, TX8, 15)) hPc hDc hK 0 rfl rfl) rfl rfl hl.1 rfl (lv_room (Nat.le_of_ble_eq_true rfl)) dL_law_1268 ⟨by show _ ≤ 603072; omega, by show _ ≤ 7190634; omega⟩) hS (fun q _ h => hFc q h) hFc (fun r u t H1 locs ht hvm hw hB hz1 hk1 hS1 => ?_)
  obtain ⟨rfl, rfl⟩ := Prod.mk.inj (Option.some.inj hw)
  replace hB : va_P G vwCl (k_X8_needless cA (ad 9) (ad 10) (ad 11) (ad 12) (ad 13) (ad 14) (ad 15) (ad 16) k_ (nI c) rea rpo isS (nI l_) ra rwr n ch') t.heap := hB
  rw [ht] at hB
  have hj := va_backP hp hP hD hk1 hB rfl
  have hp2 := gq_0 (E := (E8 cA (ad 9) (ad 10) (ad 11) (ad 12) (ad 13) (ad 14) (ad 15) (ad 16) gA k_ (nI c) rea rpo isS (nI l_) ra rwr n sv as ch' bu nu)) (Ec := (k_X8_needless cA (ad 9) (ad 10) (ad 11) (ad 12) (ad 13) (ad 14) (ad 15) (ad 16) k_ (nI c) rea rpo isS (nI l_) ra rwr n ch')) (Er := Er2) (B := (gblk cA gA gW)) (R := ((E7 cA (ad 0) aw ab ak (ad 1) (ad 2) hA (ad 3) (ad 4) (ad 5) (ad 6) isK lre lpo (nI dn, nI P, ar, fi, la, nb, pa, ro, nI D, dp, dg, de, dd, nI E, ek, eo, es, ef, el, nI L, nI K, lc, lm, lp, lr) mo' B K0 (nI c) (nI x) (nI l_) ta tc ti tw tn ++ [((ad 7), .inl (cA 4, 1, .inr (.inl g'))), ((ad 8), .inl (cA 5, 1, .inr (.inr (.inr (.inl gd)))))]) ++ hblk cA hA hW)) (pick (n := 8) [0, 1, 5] [2, 3, 4, 6, 7] rfl (by decide +kernel) rfl (by rw [hEr2]; rfl))
  replace hP : va_P G vwCl (((E7 cA (ad 0) aw ab ak (ad 1) (ad 2) hA (ad 3) (ad 4) (ad 5) (ad 6) isK lre lpo (nI dn, nI P, ar, fi, la, nb, pa, ro, nI D, dp, dg, de, dd, nI E, ek, eo, es, ef, el, nI L, nI K, lc, lm, lp, lr) mo' B K0 (nI c) (nI x) (nI l_) ta tc ti tw tn ++ [((ad 7), .inl (cA 4, 1, .inr (.inl g'))), ((ad 8), .inl (cA 5, 1, .inr (.inr (.inr (.inl gd)))))]) ++ hblk cA hA hW) ++ ((E8 cA (ad 9) (ad 10) (ad 11) (ad 12) (ad 13) (ad 14) (ad 15) (ad 16) gA k_ (nI c) rea rpo isS (nI l_) ra rwr n sv as ch' bu nu) ++ gblk cA gA gW)) H1 := hj.1.perm hp2.symm
  replace hD : va_D _ (((E7 cA (ad 0) aw ab ak (ad 1) (ad 2) hA (ad 3) (ad 4) (ad 5) (ad 6) isK lre lpo (nI dn, nI P, ar, fi, la, nb, pa, ro, nI D, dp, dg, de, dd, nI E, ek, eo, es, ef, el, nI L, nI K, lc, lm, lp, lr) mo' B K0 (nI c) (nI x) (nI l_) ta tc ti tw tn ++ [((ad 7), .inl (cA 4, 1, .inr (.inl g'))), ((ad 8), .inl (cA 5, 1, .inr (.inr (.inr (.inl gd)))))]) ++ hblk cA hA hW) ++ ((E8 cA (ad 9) (ad 10) (ad 11) (ad 12) (ad 13) (ad 14) (ad 15) (ad 16) gA k_ (nI c) rea rpo isS (nI l_) ra rwr n sv as ch' bu nu) ++ gblk cA gA gW)) := hj.2.perm hp2.symm
  have hS := hS1
  clear hj hp hp2 hPc hDc hFc hB hk1 hEr2 hw
  generalize H1 = H at hP hS ht hz1 ⊢
  refine lv_istore (lv' := [(7, .int b_), (6, .int k_), (5, .int (nI i)), (4, .ref (ad 8)), (3, .ref (ad 7)), (2, .ref (ad 9)), (1, .ref (ad 0)), (0, .ref b)]) hx hb dL_law_1271 hl (by decide) rfl (fun ls hl => ?_)
  refine lv_aload_n hx hb dL_law_1273 rfl (lv_at hl 5 rfl) ?_
  refine vp_callSi (va_Run.run (va_runV (As := []) (rest := []) ⟨hx, hb, hml, hown, hts⟩ (c_X8_thrown l G cA (ad 9) (ad 10) (ad 11) (ad 12) (ad 13) (ad 14) (ad 15) (ad 16) k_ (nI c) rea rpo isS (nI l_) ra rwr _ (rfl : m_X8_thrown k_ = some k_) (Option.some_ne_none _)) (cwV 0 hts gL_law_X8_thrown rfl rfl rfl (by decide +kernel) ⟨Nat.le_of_ble_eq_true rfl, Nat.le_of_ble_eq_true rfl⟩) (preRV (q := (RX8, TX8, 15)) (hP.right.left.sub [0] rfl) hK 0 rfl rfl) rfl rfl hl.1 rfl (lv_room (Nat.le_of_ble_eq_true rfl)) dL_law_1274 ⟨by show _ ≤ 603072; omega, by show _ ≤ 7190634; omega⟩)) (fun r hw => ?_)
  obtain rfl := Option.some.inj hw
  refine lv_iload hx hb dL_law_1277 (lv_at hl 1 rfl) ?_
  refine lv_icmp_eq (tgt := 1284) hx hb dL_law_1279 (by decide) (fun _ => ?_) (fun c_0 => absurd rfl c_0)
  refine lv_iload hx hb dL_law_1284 (lv_at hl 1 rfl) ?_
  refine lv_if_ne (tgt := 1301) hx hb dL_law_1286 (by decide) (fun c_3 => ?_) (fun c_3 => ?_)
  · refine lv_goto (tgt := 2652) hx hb dL_law_1301 (by decide) ?_
    exact next _ _ _ _ ⟨P, D, E, L, K, dn, c, x, l_, ar, fi, la, nb, pa, ro, dp, dg, de, dd, ek, eo, es, ef, el, lc, lm, lp, lr, n, hW, gW, B, K0, isK, isS, lre, rea, lpo, rpo, ta, tc, k_, ra, rwr, mo', ti, tw, tn, sv, as, ch', bu, nu, g', gd, rfl, hWC, hHR, hRR, hPO, hSR, hTR⟩ hP hD hS (lv_sub hl [2, 3, 4, 5, 6, 7] rfl)
  · have hpost0 := hpost c_3
    refine lv_aload_n hx hb dL_law_1289 rfl (lv_at hl 4 rfl) ?_
    refine lv_iconst (v := (0 : Int32)) hx hb dL_law_1290 (by decide) ?_
    refine va_lald hx hb hK.1 hP 80 4 rfl rfl (ixi (i := (0 : Int32)) (n := 1) (by decide)) dL_law_1291 ?_
    refine lv_iload hx hb dL_law_1292 (lv_at hl 0 rfl) ?_
    refine lv_i2l hx hb dL_law_1294 rfl ?_
    refine W.lcmp hx hb dL_law_1295 ?_
    refine lv_if_eq (tgt := 1301) hx hb dL_law_1296 (by decide) (fun _ => ?_) (fun c_0 => absurd (by rw [show g' (0 : Int32).toNatClampNeg = b_.toInt64 from hpost0]; exact cmp_self _) c_0)
    refine lv_goto (tgt := 2652) hx hb dL_law_1301 (by decide) ?_
    exact next _ _ _ _ ⟨P, D, E, L, K, dn, c, x, l_, ar, fi, la, nb, pa, ro, dp, dg, de, dd, ek, eo, es, ef, el, lc, lm, lp, lr, n, hW, gW, B, K0, isK, isS, lre, rea, lpo, rpo, ta, tc, k_, ra, rwr, mo', ti, tw, tn, sv, as, ch', bu, nu, g', gd, rfl, hWC, hHR, hRR, hPO, hSR, hTR⟩ hP hD hS (lv_sub hl [2, 3, 4, 5, 6, 7] rfl)
