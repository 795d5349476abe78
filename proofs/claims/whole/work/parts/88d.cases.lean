/-! The law, call by call. -/
set_option maxHeartbeats 16000000 in
set_option maxRecDepth 100000 in
/-- partners -/
theorem law_partners {p : Program} {l : Launch} {e : Env} {s : State} {m : MethodId} {below : List Frame} {meth : Method} {cd : Code} {b Ls : Nat} {xs : Nat → Int32} {z : Nat → Nat} {G : va_G} {cA : Nat → ClassId} {ad aw ab ak : Nat → Nat} {hA : Nat → Nat → Nat} {gA : Nat → Nat} (C0 : LC p l s m cd b Ls xs z G cA) {i nn kk : Nat} (hi : i + 4 < Ls) (hL : Ls ≤ 2560) (hn : nn + 1 ≤ 603072) (hk : kk + 6 ≤ 7190634) (next : LNext p l e s m below meth cd b G cA ad aw ab ak hA gA i (nn + 1) (kk + 6)) {ws : va_W} {H : Heap} {locs : List Loc} {ls : Array Slot} (hI : LSt cA ad aw ab ak hA gA ws) (hP : va_P G vwCl ws H) (hD : va_D (fun q : Nat => s.heap.size ≤ q) ws) (hS : va_S (fun q : Nat => s.heap.size ≤ q) s.heap H locs) (hl : lv_has ls 9 [(5, .int (nI i)), (4, .ref (ad 8)), (3, .ref (ad 7)), (2, .ref (ad 9)), (1, .ref (ad 0)), (0, .ref b)]) : W p l e room_1 s m #[Value.ref b] below meth cd H locs nn kk (lw_Z below #[Value.ref b] s) (F0 m 796 ls []) := by
  obtain ⟨hx, hb, hml, hown, hts, hX, hbl, hK, hT, hO, hfl⟩ := C0
  have hbA : ¬ (fun q : Nat => s.heap.size ≤ q) b := Nat.not_le.mpr hbl
  have hA0 : ∀ q : Nat, s.heap.size ≤ q → (fun q : Nat => s.heap.size ≤ q) q := fun _ h => h
  have h_in1 : vp_in (nI i + (1 : Int32)) Ls := by rw [show nI i + (1 : Int32) = nI (i + 1) from nI_add i 1]; exact vp_in_nI (by omega) (by omega)
  have h_in2 : vp_in (nI i + (2 : Int32)) Ls := by rw [show nI i + (2 : Int32) = nI (i + 2) from nI_add i 2]; exact vp_in_nI (by omega) (by omega)
  have h_in3 : vp_in (nI i + (3 : Int32)) Ls := by rw [show nI i + (3 : Int32) = nI (i + 3) from nI_add i 3]; exact vp_in_nI (by omega) (by omega)
  have h_in4 : vp_in (nI i + (4 : Int32)) Ls := by rw [show nI i + (4 : Int32) = nI (i + 4) from nI_add i 4]; exact vp_in_nI (by omega) (by omega)
  obtain ⟨P, D, E, L, K, dn, c, x, l_, ar, fi, la, nb, pa, ro, dp, dg, de, dd, ek, eo, es, ef, el, lc, lm, lp, lr, n, hW, gW, B, K0, isK, isS, lre, rea, lpo, rpo, ta, tc, thr, ra, rwr, mo, ti, tw, tn, sv, as, ch, bu, nu, g, gd, rfl, hWC, hHR, hRR, hPO, hSR, hTR⟩ := hI
  refine lv_aload_n hx hb dL_law_796 rfl (lv_at hl 4 rfl) ?_
  refine lv_aload_n hx hb dL_law_797 rfl (lv_at hl 5 rfl) ?_
  refine lv_iload hx hb dL_law_798 (lv_at hl 0 rfl) ?_
  refine lv_iconst (v := (1 : Int32)) hx hb dL_law_800 (by decide) ?_
  refine lv_iadd hx hb dL_law_801 ?_
  refine va_sld hx hb hX hbl hbA hS h_in1 dL_law_802 ?_
  refine lv_aload_n hx hb dL_law_803 rfl (lv_at hl 2 rfl) ?_
  obtain ⟨k_, b_, g', hop1, hop2, hpost⟩ := op_partners hWC (xs (nI i + (1 : Int32)).toNatClampNeg) g
  obtain ⟨Er1, hEr1⟩ : ∃ z, z = pk (E7 cA (ad 0) aw ab ak (ad 1) (ad 2) hA (ad 3) (ad 4) (ad 5) (ad 6) isK lre lpo (nI dn, nI P, ar, fi, la, nb, pa, ro, nI D, dp, dg, de, dd, nI E, ek, eo, es, ef, el, nI L, nI K, lc, lm, lp, lr) mo B K0 (nI c) (nI x) (nI l_) ta tc ti tw tn ++ [((ad 7), .inl (cA 4, 1, .inr (.inl g))), ((ad 8), .inl (cA 5, 1, .inr (.inr (.inr (.inl gd)))))]) [4, 7, 14, 15, 16, 17, 18, 19, 20, 21, 22, 23, 24, 25, 26, 27, 28, 29, 30, 31, 32, 33, 34, 35, 36, 37, 38, 39, 40, 41, 42, 43, 44, 45, 46, 47, 48, 49, 50, 51, 52, 53, 54, 55, 56, 57, 58, 59, 60, 61, 62, 63, 64, 65, 66, 67, 68, 69, 70, 71, 72, 73, 74, 75, 76, 77, 78, 79, 81] := ⟨_, rfl⟩
  have hp := gl_0 (E := (E7 cA (ad 0) aw ab ak (ad 1) (ad 2) hA (ad 3) (ad 4) (ad 5) (ad 6) isK lre lpo (nI dn, nI P, ar, fi, la, nb, pa, ro, nI D, dp, dg, de, dd, nI E, ek, eo, es, ef, el, nI L, nI K, lc, lm, lp, lr) mo B K0 (nI c) (nI x) (nI l_) ta tc ti tw tn ++ [((ad 7), .inl (cA 4, 1, .inr (.inl g))), ((ad 8), .inl (cA 5, 1, .inr (.inr (.inr (.inl gd)))))])) (Ec := (k_L_partners cA (ad 0) (aw 0) (ab 0) (ak 0) (ad 1) (ad 3) (aw 1) (aw 8) (aw 14) (aw 20) (aw 2) (aw 3) (aw 4) (aw 5) (aw 6) (aw 7) (aw 9) (aw 10) (aw 11) (aw 12) (aw 13) (ad 7) isK lre lpo (nI dn) (nI P) ar la nb ro (nI D) dp dg de dd g)) (Er := Er1) (B := (hblk cA hA hW)) (R := ((E8 cA (ad 9) (ad 10) (ad 11) (ad 12) (ad 13) (ad 14) (ad 15) (ad 16) gA thr (nI c) rea rpo isS (nI l_) ra rwr n sv as ch bu nu) ++ gblk cA gA gW)) (pick (n := 82) [0, 1, 2, 3, 5, 6, 8, 9, 10, 11, 12, 13, 80] [4, 7, 14, 15, 16, 17, 18, 19, 20, 21, 22, 23, 24, 25, 26, 27, 28, 29, 30, 31, 32, 33, 34, 35, 36, 37, 38, 39, 40, 41, 42, 43, 44, 45, 46, 47, 48, 49, 50, 51, 52, 53, 54, 55, 56, 57, 58, 59, 60, 61, 62, 63, 64, 65, 66, 67, 68, 69, 70, 71, 72, 73, 74, 75, 76, 77, 78, 79, 81] rfl (by decide +kernel) rfl hEr1.symm)
  have hPc : va_P G vwCl (k_L_partners cA (ad 0) (aw 0) (ab 0) (ak 0) (ad 1) (ad 3) (aw 1) (aw 8) (aw 14) (aw 20) (aw 2) (aw 3) (aw 4) (aw 5) (aw 6) (aw 7) (aw 9) (aw 10) (aw 11) (aw 12) (aw 13) (ad 7) isK lre lpo (nI dn) (nI P) ar la nb ro (nI D) dp dg de dd g) H := (hP.perm hp).left
  have hDc : va_D _ (k_L_partners cA (ad 0) (aw 0) (ab 0) (ak 0) (ad 1) (ad 3) (aw 1) (aw 8) (aw 14) (aw 20) (aw 2) (aw 3) (aw 4) (aw 5) (aw 6) (aw 7) (aw 9) (aw 10) (aw 11) (aw 12) (aw 13) (ad 7) isK lre lpo (nI dn) (nI P) ar la nb ro (nI D) dp dg de dd g) := (hD.perm hp).left
  have hFc := va_freePm hp hD hS hA0
  refine va_calli (vx_runSW (As := [.ref (ad 0), .int (xs (nI i + (1 : Int32)).toNatClampNeg), .ref (ad 7)]) (rest := []) ⟨hx, hb, hml, hown, hts⟩ (c_L_partners l hfl z G cA (ad 0) (aw 0) (ab 0) (ak 0) (ad 1) (ad 3) (aw 1) (aw 8) (aw 14) (aw 20) (aw 2) (aw 3) (aw 4) (aw 5) (aw 6) (aw 7) (aw 9) (aw 10) (aw 11) (aw 12) (aw 13) (ad 7) H.size (xs (nI i + (1 : Int32)).toNatClampNeg) isK lre lpo (nI dn) (nI P) ar la nb ro (nI D) dp dg de dd g _ hop1 (Option.some_ne_none _)) (vx_cwSW 3 hts gL_law_L_partners rfl rfl rfl (by decide +kernel) ⟨Nat.le_of_ble_eq_true rfl, Nat.le_of_ble_eq_true rfl⟩) (preMSo hPc hDc hK hT hO hS hFc) rfl rfl hl.1 rfl (lv_room (Nat.le_of_ble_eq_true rfl)) dL_law_804 ⟨hn, hk⟩) hS (fun q _ h => hFc q h) hFc (fun r u t H1 locs ht hvm hw hB hz1 hk1 hS1 => ?_)
  obtain ⟨rfl, rfl⟩ := Prod.mk.inj (Option.some.inj hw)
  replace hB : va_P G vwCl (k_L_partners cA (ad 0) (aw 0) (ab 0) (ak 0) (ad 1) (ad 3) (aw 1) (aw 8) (aw 14) (aw 20) (aw 2) (aw 3) (aw 4) (aw 5) (aw 6) (aw 7) (aw 9) (aw 10) (aw 11) (aw 12) (aw 13) (ad 7) isK lre lpo (nI dn) (nI P) ar la nb ro (nI D) dp dg de dd g') t.heap := hB
  rw [ht] at hB
  have hj := va_backP hp hP hD hk1 hB rfl
  have hp2 := gl_0 (E := (E7 cA (ad 0) aw ab ak (ad 1) (ad 2) hA (ad 3) (ad 4) (ad 5) (ad 6) isK lre lpo (nI dn, nI P, ar, fi, la, nb, pa, ro, nI D, dp, dg, de, dd, nI E, ek, eo, es, ef, el, nI L, nI K, lc, lm, lp, lr) mo B K0 (nI c) (nI x) (nI l_) ta tc ti tw tn ++ [((ad 7), .inl (cA 4, 1, .inr (.inl g'))), ((ad 8), .inl (cA 5, 1, .inr (.inr (.inr (.inl gd)))))])) (Ec := (k_L_partners cA (ad 0) (aw 0) (ab 0) (ak 0) (ad 1) (ad 3) (aw 1) (aw 8) (aw 14) (aw 20) (aw 2) (aw 3) (aw 4) (aw 5) (aw 6) (aw 7) (aw 9) (aw 10) (aw 11) (aw 12) (aw 13) (ad 7) isK lre lpo (nI dn) (nI P) ar la nb ro (nI D) dp dg de dd g')) (Er := Er1) (B := (hblk cA hA hW)) (R := ((E8 cA (ad 9) (ad 10) (ad 11) (ad 12) (ad 13) (ad 14) (ad 15) (ad 16) gA thr (nI c) rea rpo isS (nI l_) ra rwr n sv as ch bu nu) ++ gblk cA gA gW)) (pick (n := 82) [0, 1, 2, 3, 5, 6, 8, 9, 10, 11, 12, 13, 80] [4, 7, 14, 15, 16, 17, 18, 19, 20, 21, 22, 23, 24, 25, 26, 27, 28, 29, 30, 31, 32, 33, 34, 35, 36, 37, 38, 39, 40, 41, 42, 43, 44, 45, 46, 47, 48, 49, 50, 51, 52, 53, 54, 55, 56, 57, 58, 59, 60, 61, 62, 63, 64, 65, 66, 67, 68, 69, 70, 71, 72, 73, 74, 75, 76, 77, 78, 79, 81] rfl (by decide +kernel) rfl (by rw [hEr1]; exact pk_e0 (n := 80) _ rfl (by decide)))
  replace hP : va_P G vwCl (((E7 cA (ad 0) aw ab ak (ad 1) (ad 2) hA (ad 3) (ad 4) (ad 5) (ad 6) isK lre lpo (nI dn, nI P, ar, fi, la, nb, pa, ro, nI D, dp, dg, de, dd, nI E, ek, eo, es, ef, el, nI L, nI K, lc, lm, lp, lr) mo B K0 (nI c) (nI x) (nI l_) ta tc ti tw tn ++ [((ad 7), .inl (cA 4, 1, .inr (.inl g'))), ((ad 8), .inl (cA 5, 1, .inr (.inr (.inr (.inl gd)))))]) ++ hblk cA hA hW) ++ ((E8 cA (ad 9) (ad 10) (ad 11) (ad 12) (ad 13) (ad 14) (ad 15) (ad 16) gA thr (nI c) rea rpo isS (nI l_) ra rwr n sv as ch bu nu) ++ gblk cA gA gW)) H1 := hj.1.perm hp2.symm
  replace hD : va_D _ (((E7 cA (ad 0) aw ab ak (ad 1) (ad 2) hA (ad 3) (ad 4) (ad 5) (ad 6) isK lre lpo (nI dn, nI P, ar, fi, la, nb, pa, ro, nI D, dp, dg, de, dd, nI E, ek, eo, es, ef, el, nI L, nI K, lc, lm, lp, lr) mo B K0 (nI c) (nI x) (nI l_) ta tc ti tw tn ++ [((ad 7), .inl (cA 4, 1, .inr (.inl g'))), ((ad 8), .inl (cA 5, 1, .inr (.inr (.inr (.inl gd)))))]) ++ hblk cA hA hW) ++ ((E8 cA (ad 9) (ad 10) (ad 11) (ad 12) (ad 13) (ad 14) (ad 15) (ad 16) gA thr (nI c) rea rpo isS (nI l_) ra rwr n sv as ch bu nu) ++ gblk cA gA gW)) := hj.2.perm hp2.symm
  have hS := hS1
  clear hj hp hp2 hPc hDc hFc hB hk1 hEr1 hw
  generalize H1 = H at hP hS ht hz1 ⊢
  refine lv_istore (lv' := [(6, .int k_), (5, .int (nI i)), (4, .ref (ad 8)), (3, .ref (ad 7)), (2, .ref (ad 9)), (1, .ref (ad 0)), (0, .ref b)]) hx hb dL_law_807 hl (by decide) rfl (fun ls hl => ?_)
  refine lv_aload_n hx hb dL_law_809 rfl (lv_at hl 4 rfl) ?_
  refine lv_aload_n hx hb dL_law_810 rfl (lv_at hl 6 rfl) ?_
  refine lv_iload hx hb dL_law_811 (lv_at hl 1 rfl) ?_
  refine lv_iconst (v := (1 : Int32)) hx hb dL_law_813 (by decide) ?_
  refine lv_iadd hx hb dL_law_814 ?_
  refine va_sld hx hb hX hbl hbA hS h_in1 dL_law_815 ?_
  obtain ⟨Er2, hEr2⟩ : ∃ z, z = pk (E8 cA (ad 9) (ad 10) (ad 11) (ad 12) (ad 13) (ad 14) (ad 15) (ad 16) gA thr (nI c) rea rpo isS (nI l_) ra rwr n sv as ch bu nu) [2, 3, 4, 5, 6, 7] := ⟨_, rfl⟩
  have hp := gq_0 (E := (E8 cA (ad 9) (ad 10) (ad 11) (ad 12) (ad 13) (ad 14) (ad 15) (ad 16) gA thr (nI c) rea rpo isS (nI l_) ra rwr n sv as ch bu nu)) (Ec := (k_X8_partners cA (ad 9) (ad 10) (ad 11) (ad 12) (ad 13) (ad 14) (ad 15) (ad 16) thr (nI c) rea rpo isS (nI l_) ra rwr n)) (Er := Er2) (B := (gblk cA gA gW)) (R := ((E7 cA (ad 0) aw ab ak (ad 1) (ad 2) hA (ad 3) (ad 4) (ad 5) (ad 6) isK lre lpo (nI dn, nI P, ar, fi, la, nb, pa, ro, nI D, dp, dg, de, dd, nI E, ek, eo, es, ef, el, nI L, nI K, lc, lm, lp, lr) mo B K0 (nI c) (nI x) (nI l_) ta tc ti tw tn ++ [((ad 7), .inl (cA 4, 1, .inr (.inl g'))), ((ad 8), .inl (cA 5, 1, .inr (.inr (.inr (.inl gd)))))]) ++ hblk cA hA hW)) (pick (n := 8) [0, 1] [2, 3, 4, 5, 6, 7] rfl (by decide +kernel) rfl hEr2.symm)
  have hPc : va_P G vwCl (k_X8_partners cA (ad 9) (ad 10) (ad 11) (ad 12) (ad 13) (ad 14) (ad 15) (ad 16) thr (nI c) rea rpo isS (nI l_) ra rwr n) H := (hP.perm hp).left
  have hDc : va_D _ (k_X8_partners cA (ad 9) (ad 10) (ad 11) (ad 12) (ad 13) (ad 14) (ad 15) (ad 16) thr (nI c) rea rpo isS (nI l_) ra rwr n) := (hD.perm hp).left
  have hFc := va_freePm hp hD hS hA0
  refine va_calli (va_runV (As := [.int (xs (nI i + (1 : Int32)).toNatClampNeg)]) (rest := []) ⟨hx, hb, hml, hown, hts⟩ (c_X8_partners l G cA (ad 9) (ad 10) (ad 11) (ad 12) (ad 13) (ad 14) (ad 15) (ad 16) H.size (xs (nI i + (1 : Int32)).toNatClampNeg) thr (nI c) rea rpo isS (nI l_) ra rwr n _ hop2 (Option.some_ne_none _)) (cwV 1 hts gL_law_X8_partners rfl rfl rfl (by decide +kernel) ⟨Nat.le_of_ble_eq_true rfl, Nat.le_of_ble_eq_true rfl⟩) (preMV (q := (RX8, TX8, 15)) hPc hDc hK 0 rfl rfl) rfl rfl hl.1 rfl (lv_room (Nat.le_of_ble_eq_true rfl)) dL_law_816 ⟨by show _ ≤ 603072; omega, by show _ ≤ 7190634; omega⟩) hS (fun q _ h => hFc q h) hFc (fun r u t H1 locs ht hvm hw hB hz1 hk1 hS1 => ?_)
  obtain ⟨rfl, rfl⟩ := Prod.mk.inj (Option.some.inj hw)
  replace hB : va_P G vwCl (k_X8_partners cA (ad 9) (ad 10) (ad 11) (ad 12) (ad 13) (ad 14) (ad 15) (ad 16) k_ (nI c) rea rpo isS (nI l_) ra rwr n) t.heap := hB
  rw [ht] at hB
  have hj := va_backP hp hP hD hk1 hB rfl
  have hp2 := gq_0 (E := (E8 cA (ad 9) (ad 10) (ad 11) (ad 12) (ad 13) (ad 14) (ad 15) (ad 16) gA k_ (nI c) rea rpo isS (nI l_) ra rwr n sv as ch bu nu)) (Ec := (k_X8_partners cA (ad 9) (ad 10) (ad 11) (ad 12) (ad 13) (ad 14) (ad 15) (ad 16) k_ (nI c) rea rpo isS (nI l_) ra rwr n)) (Er := Er2) (B := (gblk cA gA gW)) (R := ((E7 cA (ad 0) aw ab ak (ad 1) (ad 2) hA (ad 3) (ad 4) (ad 5) (ad 6) isK lre lpo (nI dn, nI P, ar, fi, la, nb, pa, ro, nI D, dp, dg, de, dd, nI E, ek, eo, es, ef, el, nI L, nI K, lc, lm, lp, lr) mo B K0 (nI c) (nI x) (nI l_) ta tc ti tw tn ++ [((ad 7), .inl (cA 4, 1, .inr (.inl g'))), ((ad 8), .inl (cA 5, 1, .inr (.inr (.inr (.inl gd)))))]) ++ hblk cA hA hW)) (pick (n := 8) [0, 1] [2, 3, 4, 5, 6, 7] rfl (by decide +kernel) rfl (by rw [hEr2]; rfl))
  replace hP : va_P G vwCl (((E7 cA (ad 0) aw ab ak (ad 1) (ad 2) hA (ad 3) (ad 4) (ad 5) (ad 6) isK lre lpo (nI dn, nI P, ar, fi, la, nb, pa, ro, nI D, dp, dg, de, dd, nI E, ek, eo, es, ef, el, nI L, nI K, lc, lm, lp, lr) mo B K0 (nI c) (nI x) (nI l_) ta tc ti tw tn ++ [((ad 7), .inl (cA 4, 1, .inr (.inl g'))), ((ad 8), .inl (cA 5, 1, .inr (.inr (.inr (.inl gd)))))]) ++ hblk cA hA hW) ++ ((E8 cA (ad 9) (ad 10) (ad 11) (ad 12) (ad 13) (ad 14) (ad 15) (ad 16) gA k_ (nI c) rea rpo isS (nI l_) ra rwr n sv as ch bu nu) ++ gblk cA gA gW)) H1 := hj.1.perm hp2.symm
  replace hD : va_D _ (((E7 cA (ad 0) aw ab ak (ad 1) (ad 2) hA (ad 3) (ad 4) (ad 5) (ad 6) isK lre lpo (nI dn, nI P, ar, fi, la, nb, pa, ro, nI D, dp, dg, de, dd, nI E, ek, eo, es, ef, el, nI L, nI K, lc, lm, lp, lr) mo B K0 (nI c) (nI x) (nI l_) ta tc ti tw tn ++ [((ad 7), .inl (cA 4, 1, .inr (.inl g'))), ((ad 8), .inl (cA 5, 1, .inr (.inr (.inr (.inl gd)))))]) ++ hblk cA hA hW) ++ ((E8 cA (ad 9) (ad 10) (ad 11) (ad 12) (ad 13) (ad 14) (ad 15) (ad 16) gA k_ (nI c) rea rpo isS (nI l_) ra rwr n sv as ch bu nu) ++ gblk cA gA gW)) := hj.2.perm hp2.symm
  have hS := hS1
  clear hj hp hp2 hPc hDc hFc hB hk1 hEr2 hw
  generalize H1 = H at hP hS ht hz1 ⊢
  refine lv_istore (lv' := [(7, .int b_), (6, .int k_), (5, .int (nI i)), (4, .ref (ad 8)), (3, .ref (ad 7)), (2, .ref (ad 9)), (1, .ref (ad 0)), (0, .ref b)]) hx hb dL_law_819 hl (by decide) rfl (fun ls hl => ?_)
  refine lv_aload_n hx hb dL_law_821 rfl (lv_at hl 5 rfl) ?_
  refine vp_callSi (va_Run.run (va_runV (As := []) (rest := []) ⟨hx, hb, hml, hown, hts⟩ (c_X8_thrown l G cA (ad 9) (ad 10) (ad 11) (ad 12) (ad 13) (ad 14) (ad 15) (ad 16) k_ (nI c) rea rpo isS (nI l_) ra rwr _ (rfl : m_X8_thrown k_ = some k_) (Option.some_ne_none _)) (cwV 0 hts gL_law_X8_thrown rfl rfl rfl (by decide +kernel) ⟨Nat.le_of_ble_eq_true rfl, Nat.le_of_ble_eq_true rfl⟩) (preRV (q := (RX8, TX8, 15)) (hP.right.left.sub [0] rfl) hK 0 rfl rfl) rfl rfl hl.1 rfl (lv_room (Nat.le_of_ble_eq_true rfl)) dL_law_822 ⟨by show _ ≤ 603072; omega, by show _ ≤ 7190634; omega⟩)) (fun r hw => ?_)
  obtain rfl := Option.some.inj hw
  refine lv_iload hx hb dL_law_825 (lv_at hl 1 rfl) ?_
  refine lv_icmp_eq (tgt := 832) hx hb dL_law_827 (by decide) (fun _ => ?_) (fun c_0 => absurd rfl c_0)
  refine lv_iload hx hb dL_law_832 (lv_at hl 1 rfl) ?_
  refine lv_if_ne (tgt := 849) hx hb dL_law_834 (by decide) (fun c_3 => ?_) (fun c_3 => ?_)
  · refine lv_goto (tgt := 2652) hx hb dL_law_849 (by decide) ?_
    exact next _ _ _ _ ⟨P, D, E, L, K, dn, c, x, l_, ar, fi, la, nb, pa, ro, dp, dg, de, dd, ek, eo, es, ef, el, lc, lm, lp, lr, n, hW, gW, B, K0, isK, isS, lre, rea, lpo, rpo, ta, tc, k_, ra, rwr, mo, ti, tw, tn, sv, as, ch, bu, nu, g', gd, rfl, hWC, hHR, hRR, hPO, hSR, hTR⟩ hP hD hS (lv_sub hl [2, 3, 4, 5, 6, 7] rfl)
  · have hpost0 := hpost c_3
    refine lv_aload_n hx hb dL_law_837 rfl (lv_at hl 4 rfl) ?_
    refine lv_iconst (v := (0 : Int32)) hx hb dL_law_838 (by decide) ?_
    refine va_lald hx hb hK.1 hP 80 4 rfl rfl (ixi (i := (0 : Int32)) (n := 1) (by decide)) dL_law_839 ?_
    refine lv_iload hx hb dL_law_840 (lv_at hl 0 rfl) ?_
    refine lv_i2l hx hb dL_law_842 rfl ?_
    refine W.lcmp hx hb dL_law_843 ?_
    refine lv_if_eq (tgt := 849) hx hb dL_law_844 (by decide) (fun _ => ?_) (fun c_0 => absurd (by rw [show g' (0 : Int32).toNatClampNeg = b_.toInt64 from hpost0]; exact cmp_self _) c_0)
    refine lv_goto (tgt := 2652) hx hb dL_law_849 (by decide) ?_
    exact next _ _ _ _ ⟨P, D, E, L, K, dn, c, x, l_, ar, fi, la, nb, pa, ro, dp, dg, de, dd, ek, eo, es, ef, el, lc, lm, lp, lr, n, hW, gW, B, K0, isK, isS, lre, rea, lpo, rpo, ta, tc, k_, ra, rwr, mo, ti, tw, tn, sv, as, ch, bu, nu, g', gd, rfl, hWC, hHR, hRR, hPO, hSR, hTR⟩ hP hD hS (lv_sub hl [2, 3, 4, 5, 6, 7] rfl)

set_option maxHeartbeats 16000000 in
set_option maxRecDepth 100000 in
/-- reason -/
theorem law_reason {p : Program} {l : Launch} {e : Env} {s : State} {m : MethodId} {below : List Frame} {meth : Method} {cd : Code} {b Ls : Nat} {xs : Nat → Int32} {z : Nat → Nat} {G : va_G} {cA : Nat → ClassId} {ad aw ab ak : Nat → Nat} {hA : Nat → Nat → Nat} {gA : Nat → Nat} (C0 : LC p l s m cd b Ls xs z G cA) {i nn kk : Nat} (hi : i + 4 < Ls) (hL : Ls ≤ 2560) (hn : nn + 1 ≤ 603072) (hk : kk + 6 ≤ 7190634) (next : LNext p l e s m below meth cd b G cA ad aw ab ak hA gA i (nn + 1) (kk + 6)) {ws : va_W} {H : Heap} {locs : List Loc} {ls : Array Slot} (hI : LSt cA ad aw ab ak hA gA ws) (hP : va_P G vwCl ws H) (hD : va_D (fun q : Nat => s.heap.size ≤ q) ws) (hS : va_S (fun q : Nat => s.heap.size ≤ q) s.heap H locs) (hl : lv_has ls 9 [(5, .int (nI i)), (4, .ref (ad 8)), (3, .ref (ad 7)), (2, .ref (ad 9)), (1, .ref (ad 0)), (0, .ref b)]) : W p l e room_1 s m #[Value.ref b] below meth cd H locs nn kk (lw_Z below #[Value.ref b] s) (F0 m 852 ls []) := by
  obtain ⟨hx, hb, hml, hown, hts, hX, hbl, hK, hT, hO, hfl⟩ := C0
  have hbA : ¬ (fun q : Nat => s.heap.size ≤ q) b := Nat.not_le.mpr hbl
  have hA0 : ∀ q : Nat, s.heap.size ≤ q → (fun q : Nat => s.heap.size ≤ q) q := fun _ h => h
  have h_in1 : vp_in (nI i + (1 : Int32)) Ls := by rw [show nI i + (1 : Int32) = nI (i + 1) from nI_add i 1]; exact vp_in_nI (by omega) (by omega)
  have h_in2 : vp_in (nI i + (2 : Int32)) Ls := by rw [show nI i + (2 : Int32) = nI (i + 2) from nI_add i 2]; exact vp_in_nI (by omega) (by omega)
  have h_in3 : vp_in (nI i + (3 : Int32)) Ls := by rw [show nI i + (3 : Int32) = nI (i + 3) from nI_add i 3]; exact vp_in_nI (by omega) (by omega)
  have h_in4 : vp_in (nI i + (4 : Int32)) Ls := by rw [show nI i + (4 : Int32) = nI (i + 4) from nI_add i 4]; exact vp_in_nI (by omega) (by omega)
  obtain ⟨P, D, E, L, K, dn, c, x, l_, ar, fi, la, nb, pa, ro, dp, dg, de, dd, ek, eo, es, ef, el, lc, lm, lp, lr, n, hW, gW, B, K0, isK, isS, lre, rea, lpo, rpo, ta, tc, thr, ra, rwr, mo, ti, tw, tn, sv, as, ch, bu, nu, g, gd, rfl, hWC, hHR, hRR, hPO, hSR, hTR⟩ := hI
  refine lv_aload_n hx hb dL_law_852 rfl (lv_at hl 4 rfl) ?_
  refine lv_aload_n hx hb dL_law_853 rfl (lv_at hl 2 rfl) ?_
  obtain ⟨k_, b_, g', hop1, hop2, hpost⟩ := op_reason hRR g
  obtain ⟨Er1, hEr1⟩ : ∃ z, z = pk (E7 cA (ad 0) aw ab ak (ad 1) (ad 2) hA (ad 3) (ad 4) (ad 5) (ad 6) isK lre lpo (nI dn, nI P, ar, fi, la, nb, pa, ro, nI D, dp, dg, de, dd, nI E, ek, eo, es, ef, el, nI L, nI K, lc, lm, lp, lr) mo B K0 (nI c) (nI x) (nI l_) ta tc ti tw tn ++ [((ad 7), .inl (cA 4, 1, .inr (.inl g))), ((ad 8), .inl (cA 5, 1, .inr (.inr (.inr (.inl gd)))))]) [1, 2, 3, 4, 5, 6, 7, 8, 9, 10, 11, 12, 13, 14, 15, 16, 17, 18, 19, 20, 21, 22, 23, 24, 25, 26, 27, 28, 29, 30, 31, 32, 33, 34, 35, 36, 37, 38, 39, 40, 41, 42, 43, 44, 45, 46, 47, 48, 49, 50, 51, 52, 53, 54, 55, 56, 57, 58, 59, 60, 61, 62, 63, 64, 65, 66, 67, 68, 69, 70, 71, 72, 73, 74, 75, 76, 77, 78, 79, 81] := ⟨_, rfl⟩
  have hp := gl_0 (E := (E7 cA (ad 0) aw ab ak (ad 1) (ad 2) hA (ad 3) (ad 4) (ad 5) (ad 6) isK lre lpo (nI dn, nI P, ar, fi, la, nb, pa, ro, nI D, dp, dg, de, dd, nI E, ek, eo, es, ef, el, nI L, nI K, lc, lm, lp, lr) mo B K0 (nI c) (nI x) (nI l_) ta tc ti tw tn ++ [((ad 7), .inl (cA 4, 1, .inr (.inl g))), ((ad 8), .inl (cA 5, 1, .inr (.inr (.inr (.inl gd)))))])) (Ec := (k_L_reason cA (ad 0) (aw 0) (ab 0) (ak 0) (ad 1) (ad 3) (ad 7) isK lre lpo g)) (Er := Er1) (B := (hblk cA hA hW)) (R := ((E8 cA (ad 9) (ad 10) (ad 11) (ad 12) (ad 13) (ad 14) (ad 15) (ad 16) gA thr (nI c) rea rpo isS (nI l_) ra rwr n sv as ch bu nu) ++ gblk cA gA gW)) (pick (n := 82) [0, 80] [1, 2, 3, 4, 5, 6, 7, 8, 9, 10, 11, 12, 13, 14, 15, 16, 17, 18, 19, 20, 21, 22, 23, 24, 25, 26, 27, 28, 29, 30, 31, 32, 33, 34, 35, 36, 37, 38, 39, 40, 41, 42, 43, 44, 45, 46, 47, 48, 49, 50, 51, 52, 53, 54, 55, 56, 57, 58, 59, 60, 61, 62, 63, 64, 65, 66, 67, 68, 69, 70, 71, 72, 73, 74, 75, 76, 77, 78, 79, 81] rfl (by decide +kernel) rfl hEr1.symm)
  have hPc : va_P G vwCl (k_L_reason cA (ad 0) (aw 0) (ab 0) (ak 0) (ad 1) (ad 3) (ad 7) isK lre lpo g) H := (hP.perm hp).left
  have hDc : va_D _ (k_L_reason cA (ad 0) (aw 0) (ab 0) (ak 0) (ad 1) (ad 3) (ad 7) isK lre lpo g) := (hD.perm hp).left
  have hFc := va_freePm hp hD hS hA0
  refine va_calli (vx_runSW (As := [.ref (ad 0), .ref (ad 7)]) (rest := []) ⟨hx, hb, hml, hown, hts⟩ (c_L_reason l hfl z G cA (ad 0) (aw 0) (ab 0) (ak 0) (ad 1) (ad 3) (ad 7) H.size isK lre lpo g _ hop1 (Option.some_ne_none _)) (vx_cwSW 2 hts gL_law_L_reason rfl rfl rfl (by decide +kernel) ⟨Nat.le_of_ble_eq_true rfl, Nat.le_of_ble_eq_true rfl⟩) (preMSo hPc hDc hK hT hO hS hFc) rfl rfl hl.1 rfl (lv_room (Nat.le_of_ble_eq_true rfl)) dL_law_854 ⟨hn, hk⟩) hS (fun q _ h => hFc q h) hFc (fun r u t H1 locs ht hvm hw hB hz1 hk1 hS1 => ?_)
  obtain ⟨rfl, rfl⟩ := Prod.mk.inj (Option.some.inj hw)
  replace hB : va_P G vwCl (k_L_reason cA (ad 0) (aw 0) (ab 0) (ak 0) (ad 1) (ad 3) (ad 7) isK lre lpo g') t.heap := hB
  rw [ht] at hB
  have hj := va_backP hp hP hD hk1 hB rfl
  have hp2 := gl_0 (E := (E7 cA (ad 0) aw ab ak (ad 1) (ad 2) hA (ad 3) (ad 4) (ad 5) (ad 6) isK lre lpo (nI dn, nI P, ar, fi, la, nb, pa, ro, nI D, dp, dg, de, dd, nI E, ek, eo, es, ef, el, nI L, nI K, lc, lm, lp, lr) mo B K0 (nI c) (nI x) (nI l_) ta tc ti tw tn ++ [((ad 7), .inl (cA 4, 1, .inr (.inl g'))), ((ad 8), .inl (cA 5, 1, .inr (.inr (.inr (.inl gd)))))])) (Ec := (k_L_reason cA (ad 0) (aw 0) (ab 0) (ak 0) (ad 1) (ad 3) (ad 7) isK lre lpo g')) (Er := Er1) (B := (hblk cA hA hW)) (R := ((E8 cA (ad 9) (ad 10) (ad 11) (ad 12) (ad 13) (ad 14) (ad 15) (ad 16) gA thr (nI c) rea rpo isS (nI l_) ra rwr n sv as ch bu nu) ++ gblk cA gA gW)) (pick (n := 82) [0, 80] [1, 2, 3, 4, 5, 6, 7, 8, 9, 10, 11, 12, 13, 14, 15, 16, 17, 18, 19, 20, 21, 22, 23, 24, 25, 26, 27, 28, 29, 30, 31, 32, 33, 34, 35, 36, 37, 38, 39, 40, 41, 42, 43, 44, 45, 46, 47, 48, 49, 50, 51, 52, 53, 54, 55, 56, 57, 58, 59, 60, 61, 62, 63, 64, 65, 66, 67, 68, 69, 70, 71, 72, 73, 74, 75, 76, 77, 78, 79, 81] rfl (by decide +kernel) rfl (by rw [hEr1]; exact pk_e0 (n := 80) _ rfl (by decide)))
  replace hP : va_P G vwCl (((E7 cA (ad 0) aw ab ak (ad 1) (ad 2) hA (ad 3) (ad 4) (ad 5) (ad 6) isK lre lpo (nI dn, nI P, ar, fi, la, nb, pa, ro, nI D, dp, dg, de, dd, nI E, ek, eo, es, ef, el, nI L, nI K, lc, lm, lp, lr) mo B K0 (nI c) (nI x) (nI l_) ta tc ti tw tn ++ [((ad 7), .inl (cA 4, 1, .inr (.inl g'))), ((ad 8), .inl (cA 5, 1, .inr (.inr (.inr (.inl gd)))))]) ++ hblk cA hA hW) ++ ((E8 cA (ad 9) (ad 10) (ad 11) (ad 12) (ad 13) (ad 14) (ad 15) (ad 16) gA thr (nI c) rea rpo isS (nI l_) ra rwr n sv as ch bu nu) ++ gblk cA gA gW)) H1 := hj.1.perm hp2.symm
  replace hD : va_D _ (((E7 cA (ad 0) aw ab ak (ad 1) (ad 2) hA (ad 3) (ad 4) (ad 5) (ad 6) isK lre lpo (nI dn, nI P, ar, fi, la, nb, pa, ro, nI D, dp, dg, de, dd, nI E, ek, eo, es, ef, el, nI L, nI K, lc, lm, lp, lr) mo B K0 (nI c) (nI x) (nI l_) ta tc ti tw tn ++ [((ad 7), .inl (cA 4, 1, .inr (.inl g'))), ((ad 8), .inl (cA 5, 1, .inr (.inr (.inr (.inl gd)))))]) ++ hblk cA hA hW) ++ ((E8 cA (ad 9) (ad 10) (ad 11) (ad 12) (ad 13) (ad 14) (ad 15) (ad 16) gA thr (nI c) rea rpo isS (nI l_) ra rwr n sv as ch bu nu) ++ gblk cA gA gW)) := hj.2.perm hp2.symm
  have hS := hS1
  clear hj hp hp2 hPc hDc hFc hB hk1 hEr1 hw
  generalize H1 = H at hP hS ht hz1 ⊢
  refine lv_istore (lv' := [(6, .int k_), (5, .int (nI i)), (4, .ref (ad 8)), (3, .ref (ad 7)), (2, .ref (ad 9)), (1, .ref (ad 0)), (0, .ref b)]) hx hb dL_law_857 hl (by decide) rfl (fun ls hl => ?_)
  refine lv_aload_n hx hb dL_law_859 rfl (lv_at hl 4 rfl) ?_
  obtain ⟨Er2, hEr2⟩ : ∃ z, z = pk (E8 cA (ad 9) (ad 10) (ad 11) (ad 12) (ad 13) (ad 14) (ad 15) (ad 16) gA thr (nI c) rea rpo isS (nI l_) ra rwr n sv as ch bu nu) [1, 2, 3, 4, 5, 6, 7] := ⟨_, rfl⟩
  have hp := gq_0 (E := (E8 cA (ad 9) (ad 10) (ad 11) (ad 12) (ad 13) (ad 14) (ad 15) (ad 16) gA thr (nI c) rea rpo isS (nI l_) ra rwr n sv as ch bu nu)) (Ec := (k_X8_reason cA (ad 9) (ad 10) (ad 11) (ad 12) (ad 13) (ad 14) (ad 15) (ad 16) thr (nI c) rea rpo isS (nI l_) ra rwr)) (Er := Er2) (B := (gblk cA gA gW)) (R := ((E7 cA (ad 0) aw ab ak (ad 1) (ad 2) hA (ad 3) (ad 4) (ad 5) (ad 6) isK lre lpo (nI dn, nI P, ar, fi, la, nb, pa, ro, nI D, dp, dg, de, dd, nI E, ek, eo, es, ef, el, nI L, nI K, lc, lm, lp, lr) mo B K0 (nI c) (nI x) (nI l_) ta tc ti tw tn ++ [((ad 7), .inl (cA 4, 1, .inr (.inl g'))), ((ad 8), .inl (cA 5, 1, .inr (.inr (.inr (.inl gd)))))]) ++ hblk cA hA hW)) (pick (n := 8) [0] [1, 2, 3, 4, 5, 6, 7] rfl (by decide +kernel) rfl hEr2.symm)
  have hPc : va_P G vwCl (k_X8_reason cA (ad 9) (ad 10) (ad 11) (ad 12) (ad 13) (ad 14) (ad 15) (ad 16) thr (nI c) rea rpo isS (nI l_) ra rwr) H := (hP.perm hp).left
  have hDc : va_D _ (k_X8_reason cA (ad 9) (ad 10) (ad 11) (ad 12) (ad 13) (ad 14) (ad 15) (ad 16) thr (nI c) rea rpo isS (nI l_) ra rwr) := (hD.perm hp).left
  have hFc := va_freePm hp hD hS hA0
  refine va_calli (va_runV (As := []) (rest := []) ⟨hx, hb, hml, hown, hts⟩ (c_X8_reason l G cA (ad 9) (ad 10) (ad 11) (ad 12) (ad 13) (ad 14) (ad 15) (ad 16) H.size thr (nI c) rea rpo isS (nI l_) ra rwr _ hop2 (Option.some_ne_none _)) (cwV 0 hts gL_law_X8_reason rfl rfl rfl (by decide +kernel) ⟨Nat.le_of_ble_eq_true rfl, Nat.le_of_ble_eq_true rfl⟩) (preMV (q := (RX8, TX8, 15)) hPc hDc hK 0 rfl rfl) rfl rfl hl.1 rfl (lv_room (Nat.le_of_ble_eq_true rfl)) dL_law_860 ⟨by show _ ≤ 603072; omega, by show _ ≤ 7190634; omega⟩) hS (fun q _ h => hFc q h) hFc (fun r u t H1 locs ht hvm hw hB hz1 hk1 hS1 => ?_)
  obtain ⟨rfl, rfl⟩ := Prod.mk.inj (Option.some.inj hw)
  replace hB : va_P G vwCl (k_X8_reason cA (ad 9) (ad 10) (ad 11) (ad 12) (ad 13) (ad 14) (ad 15) (ad 16) k_ (nI c) rea rpo isS (nI l_) ra rwr) t.heap := hB
  rw [ht] at hB
  have hj := va_backP hp hP hD hk1 hB rfl
  have hp2 := gq_0 (E := (E8 cA (ad 9) (ad 10) (ad 11) (ad 12) (ad 13) (ad 14) (ad 15) (ad 16) gA k_ (nI c) rea rpo isS (nI l_) ra rwr n sv as ch bu nu)) (Ec := (k_X8_reason cA (ad 9) (ad 10) (ad 11) (ad 12) (ad 13) (ad 14) (ad 15) (ad 16) k_ (nI c) rea rpo isS (nI l_) ra rwr)) (Er := Er2) (B := (gblk cA gA gW)) (R := ((E7 cA (ad 0) aw ab ak (ad 1) (ad 2) hA (ad 3) (ad 4) (ad 5) (ad 6) isK lre lpo (nI dn, nI P, ar, fi, la, nb, pa, ro, nI D, dp, dg, de, dd, nI E, ek, eo, es, ef, el, nI L, nI K, lc, lm, lp, lr) mo B K0 (nI c) (nI x) (nI l_) ta tc ti tw tn ++ [((ad 7), .inl (cA 4, 1, .inr (.inl g'))), ((ad 8), .inl (cA 5, 1, .inr (.inr (.inr (.inl gd)))))]) ++ hblk cA hA hW)) (pick (n := 8) [0] [1, 2, 3, 4, 5, 6, 7] rfl (by decide +kernel) rfl (by rw [hEr2]; rfl))
  replace hP : va_P G vwCl (((E7 cA (ad 0) aw ab ak (ad 1) (ad 2) hA (ad 3) (ad 4) (ad 5) (ad 6) isK lre lpo (nI dn, nI P, ar, fi, la, nb, pa, ro, nI D, dp, dg, de, dd, nI E, ek, eo, es, ef, el, nI L, nI K, lc, lm, lp, lr) mo B K0 (nI c) (nI x) (nI l_) ta tc ti tw tn ++ [((ad 7), .inl (cA 4, 1, .inr (.inl g'))), ((ad 8), .inl (cA 5, 1, .inr (.inr (.inr (.inl gd)))))]) ++ hblk cA hA hW) ++ ((E8 cA (ad 9) (ad 10) (ad 11) (ad 12) (ad 13) (ad 14) (ad 15) (ad 16) gA k_ (nI c) rea rpo isS (nI l_) ra rwr n sv as ch bu nu) ++ gblk cA gA gW)) H1 := hj.1.perm hp2.symm
  replace hD : va_D _ (((E7 cA (ad 0) aw ab ak (ad 1) (ad 2) hA (ad 3) (ad 4) (ad 5) (ad 6) isK lre lpo (nI dn, nI P, ar, fi, la, nb, pa, ro, nI D, dp, dg, de, dd, nI E, ek, eo, es, ef, el, nI L, nI K, lc, lm, lp, lr) mo B K0 (nI c) (nI x) (nI l_) ta tc ti tw tn ++ [((ad 7), .inl (cA 4, 1, .inr (.inl g'))), ((ad 8), .inl (cA 5, 1, .inr (.inr (.inr (.inl gd)))))]) ++ hblk cA hA hW) ++ ((E8 cA (ad 9) (ad 10) (ad 11) (ad 12) (ad 13) (ad 14) (ad 15) (ad 16) gA k_ (nI c) rea rpo isS (nI l_) ra rwr n sv as ch bu nu) ++ gblk cA gA gW)) := hj.2.perm hp2.symm
  have hS := hS1
  clear hj hp hp2 hPc hDc hFc hB hk1 hEr2 hw
  generalize H1 = H at hP hS ht hz1 ⊢
  refine lv_istore (lv' := [(7, .int b_), (6, .int k_), (5, .int (nI i)), (4, .ref (ad 8)), (3, .ref (ad 7)), (2, .ref (ad 9)), (1, .ref (ad 0)), (0, .ref b)]) hx hb dL_law_863 hl (by decide) rfl (fun ls hl => ?_)
  refine lv_aload_n hx hb dL_law_865 rfl (lv_at hl 5 rfl) ?_
  refine vp_callSi (va_Run.run (va_runV (As := []) (rest := []) ⟨hx, hb, hml, hown, hts⟩ (c_X8_thrown l G cA (ad 9) (ad 10) (ad 11) (ad 12) (ad 13) (ad 14) (ad 15) (ad 16) k_ (nI c) rea rpo isS (nI l_) ra rwr _ (rfl : m_X8_thrown k_ = some k_) (Option.some_ne_none _)) (cwV 0 hts gL_law_X8_thrown rfl rfl rfl (by decide +kernel) ⟨Nat.le_of_ble_eq_true rfl, Nat.le_of_ble_eq_true rfl⟩) (preRV (q := (RX8, TX8, 15)) (hP.right.left.sub [0] rfl) hK 0 rfl rfl) rfl rfl hl.1 rfl (lv_room (Nat.le_of_ble_eq_true rfl)) dL_law_866 ⟨by show _ ≤ 603072; omega, by show _ ≤ 7190634; omega⟩)) (fun r hw => ?_)
  obtain rfl := Option.some.inj hw
  refine lv_iload hx hb dL_law_869 (lv_at hl 1 rfl) ?_
  refine lv_icmp_eq (tgt := 876) hx hb dL_law_871 (by decide) (fun _ => ?_) (fun c_0 => absurd rfl c_0)
  refine lv_iload hx hb dL_law_876 (lv_at hl 1 rfl) ?_
  refine lv_if_ne (tgt := 893) hx hb dL_law_878 (by decide) (fun c_3 => ?_) (fun c_3 => ?_)
  · refine lv_goto (tgt := 2652) hx hb dL_law_893 (by decide) ?_
    exact next _ _ _ _ ⟨P, D, E, L, K, dn, c, x, l_, ar, fi, la, nb, pa, ro, dp, dg, de, dd, ek, eo, es, ef, el, lc, lm, lp, lr, n, hW, gW, B, K0, isK, isS, lre, rea, lpo, rpo, ta, tc, k_, ra, rwr, mo, ti, tw, tn, sv, as, ch, bu, nu, g', gd, rfl, hWC, hHR, hRR, hPO, hSR, hTR⟩ hP hD hS (lv_sub hl [2, 3, 4, 5, 6, 7] rfl)
  · have hpost0 := hpost c_3
    refine lv_aload_n hx hb dL_law_881 rfl (lv_at hl 4 rfl) ?_
    refine lv_iconst (v := (0 : Int32)) hx hb dL_law_882 (by decide) ?_
    refine va_lald hx hb hK.1 hP 80 4 rfl rfl (ixi (i := (0 : Int32)) (n := 1) (by decide)) dL_law_883 ?_
    refine lv_iload hx hb dL_law_884 (lv_at hl 0 rfl) ?_
    refine lv_i2l hx hb dL_law_886 rfl ?_
    refine W.lcmp hx hb dL_law_887 ?_
    refine lv_if_eq (tgt := 893) hx hb dL_law_888 (by decide) (fun _ => ?_) (fun c_0 => absurd (by rw [show g' (0 : Int32).toNatClampNeg = b_.toInt64 from hpost0]; exact cmp_self _) c_0)
    refine lv_goto (tgt := 2652) hx hb dL_law_893 (by decide) ?_
    exact next _ _ _ _ ⟨P, D, E, L, K, dn, c, x, l_, ar, fi, la, nb, pa, ro, dp, dg, de, dd, ek, eo, es, ef, el, lc, lm, lp, lr, n, hW, gW, B, K0, isK, isS, lre, rea, lpo, rpo, ta, tc, k_, ra, rwr, mo, ti, tw, tn, sv, as, ch, bu, nu, g', gd, rfl, hWC, hHR, hRR, hPO, hSR, hTR⟩ hP hD hS (lv_sub hl [2, 3, 4, 5, 6, 7] rfl)

set_option maxHeartbeats 16000000 in
set_option maxRecDepth 100000 in
/-- deed -/
theorem law_deed {p : Program} {l : Launch} {e : Env} {s : State} {m : MethodId} {below : List Frame} {meth : Method} {cd : Code} {b Ls : Nat} {xs : Nat → Int32} {z : Nat → Nat} {G : va_G} {cA : Nat → ClassId} {ad aw ab ak : Nat → Nat} {hA : Nat → Nat → Nat} {gA : Nat → Nat} (C0 : LC p l s m cd b Ls xs z G cA) {i nn kk : Nat} (hi : i + 4 < Ls) (hL : Ls ≤ 2560) (hn : nn + 1 ≤ 603072) (hk : kk + 6 ≤ 7190634) (next : LNext p l e s m below meth cd b G cA ad aw ab ak hA gA i (nn + 1) (kk + 6)) {ws : va_W} {H : Heap} {locs : List Loc} {ls : Array Slot} (hI : LSt cA ad aw ab ak hA gA ws) (hP : va_P G vwCl ws H) (hD : va_D (fun q : Nat => s.heap.size ≤ q) ws) (hS : va_S (fun q : Nat => s.heap.size ≤ q) s.heap H locs) (hl : lv_has ls 9 [(5, .int (nI i)), (4, .ref (ad 8)), (3, .ref (ad 7)), (2, .ref (ad 9)), (1, .ref (ad 0)), (0, .ref b)]) : W p l e room_1 s m #[Value.ref b] below meth cd H locs nn kk (lw_Z below #[Value.ref b] s) (F0 m 896 ls []) := by
  obtain ⟨hx, hb, hml, hown, hts, hX, hbl, hK, hT, hO, hfl⟩ := C0
  have hbA : ¬ (fun q : Nat => s.heap.size ≤ q) b := Nat.not_le.mpr hbl
  have hA0 : ∀ q : Nat, s.heap.size ≤ q → (fun q : Nat => s.heap.size ≤ q) q := fun _ h => h
  have h_in1 : vp_in (nI i + (1 : Int32)) Ls := by rw [show nI i + (1 : Int32) = nI (i + 1) from nI_add i 1]; exact vp_in_nI (by omega) (by omega)
  have h_in2 : vp_in (nI i + (2 : Int32)) Ls := by rw [show nI i + (2 : Int32) = nI (i + 2) from nI_add i 2]; exact vp_in_nI (by omega) (by omega)
  have h_in3 : vp_in (nI i + (3 : Int32)) Ls := by rw [show nI i + (3 : Int32) = nI (i + 3) from nI_add i 3]; exact vp_in_nI (by omega) (by omega)
  have h_in4 : vp_in (nI i + (4 : Int32)) Ls := by rw [show nI i + (4 : Int32) = nI (i + 4) from nI_add i 4]; exact vp_in_nI (by omega) (by omega)
  obtain ⟨P, D, E, L, K, dn, c, x, l_, ar, fi, la, nb, pa, ro, dp, dg, de, dd, ek, eo, es, ef, el, lc, lm, lp, lr, n, hW, gW, B, K0, isK, isS, lre, rea, lpo, rpo, ta, tc, thr, ra, rwr, mo, ti, tw, tn, sv, as, ch, bu, nu, g, gd, rfl, hWC, hHR, hRR, hPO, hSR, hTR⟩ := hI
  refine lv_aload_n hx hb dL_law_896 rfl (lv_at hl 4 rfl) ?_
  refine lv_aload_n hx hb dL_law_897 rfl (lv_at hl 5 rfl) ?_
  refine lv_iload hx hb dL_law_898 (lv_at hl 0 rfl) ?_
  refine lv_iconst (v := (1 : Int32)) hx hb dL_law_900 (by decide) ?_
  refine lv_iadd hx hb dL_law_901 ?_
  refine va_sld hx hb hX hbl hbA hS h_in1 dL_law_902 ?_
  refine lv_aload_n hx hb dL_law_903 rfl (lv_at hl 5 rfl) ?_
  refine lv_iload hx hb dL_law_904 (lv_at hl 0 rfl) ?_
  refine lv_iconst (v := (2 : Int32)) hx hb dL_law_906 (by decide) ?_
  refine lv_iadd hx hb dL_law_907 ?_
  refine va_sld hx hb hX hbl hbA hS h_in2 dL_law_908 ?_
  refine lv_aload_n hx hb dL_law_909 rfl (lv_at hl 5 rfl) ?_
  refine lv_iload hx hb dL_law_910 (lv_at hl 0 rfl) ?_
  refine lv_iconst (v := (3 : Int32)) hx hb dL_law_912 (by decide) ?_
  refine lv_iadd hx hb dL_law_913 ?_
  refine va_sld hx hb hX hbl hbA hS h_in3 dL_law_914 ?_
  refine lv_aload_n hx hb dL_law_915 rfl (lv_at hl 5 rfl) ?_
  refine lv_iload hx hb dL_law_916 (lv_at hl 0 rfl) ?_
  refine lv_iconst (v := (4 : Int32)) hx hb dL_law_918 (by decide) ?_
  refine lv_iadd hx hb dL_law_919 ?_
  refine va_sld hx hb hX hbl hbA hS h_in4 dL_law_920 ?_
  refine lv_aload_n hx hb dL_law_921 rfl (lv_at hl 2 rfl) ?_
  obtain ⟨k_, b_, g', D', c', x', dp', dg', de', dd', hW', n', gW', hop1, hop2, hpost, hWC2, hHR2⟩ := op_deed hWC hHR (xs (nI i + (1 : Int32)).toNatClampNeg) (xs (nI i + (2 : Int32)).toNatClampNeg) (xs (nI i + (3 : Int32)).toNatClampNeg) (xs (nI i + (4 : Int32)).toNatClampNeg) g
  obtain ⟨Er1, hEr1⟩ : ∃ z : va_W, z = [(aw 13, .inl (cA 0, 10, .inl mo)), (ab 0, .inr (8, [.int B.1, .ref (ab 1), .ref (ab 8), .ref (ab 14), .ref (ab 20)])), (ab 1, .inr (6, [.int B.2.1, .ref (ab 2), .ref (ab 3), .ref (ab 4), .ref (ab 5), .ref (ab 6), .ref (ab 7)])), (ab 2, .inl (cA 0, 24, .inl B.2.2.1)), (ab 3, .inl (cA 0, 24, .inl B.2.2.2.1)), (ab 4, .inl (cA 0, 24, .inl B.2.2.2.2.1)), (ab 5, .inl (cA 0, 24, .inl B.2.2.2.2.2.1)), (ab 6, .inl (cA 0, 24, .inl B.2.2.2.2.2.2.1)), (ab 7, .inl (cA 0, 24, .inl B.2.2.2.2.2.2.2.1)), (ab 8, .inr (2, [.int B.2.2.2.2.2.2.2.2.1, .ref (ab 9), .ref (ab 10), .ref (ab 11), .ref (ab 12), .ref (ab 13)])), (ab 9, .inl (cA 0, 60, .inl B.2.2.2.2.2.2.2.2.2.1)), (ab 10, .inl (cA 0, 60, .inl B.2.2.2.2.2.2.2.2.2.2.1)), (ab 11, .inl (cA 0, 60, .inl B.2.2.2.2.2.2.2.2.2.2.2.1)), (ab 12, .inl (cA 0, 60, .inl B.2.2.2.2.2.2.2.2.2.2.2.2.1)), (ab 14, .inr (3, [.int B.2.2.2.2.2.2.2.2.2.2.2.2.2.1, .ref (ab 15), .ref (ab 16), .ref (ab 17), .ref (ab 18), .ref (ab 19)])), (ab 15, .inl (cA 0, 30, .inl B.2.2.2.2.2.2.2.2.2.2.2.2.2.2.1)), (ab 16, .inl (cA 0, 30, .inl B.2.2.2.2.2.2.2.2.2.2.2.2.2.2.2.1)), (ab 17, .inl (cA 0, 30, .inl B.2.2.2.2.2.2.2.2.2.2.2.2.2.2.2.2.1)), (ab 18, .inl (cA 0, 30, .inl B.2.2.2.2.2.2.2.2.2.2.2.2.2.2.2.2.2.1)), (ab 19, .inl (cA 0, 30, .inl B.2.2.2.2.2.2.2.2.2.2.2.2.2.2.2.2.2.2.1)), (ab 20, .inr (5, [.int B.2.2.2.2.2.2.2.2.2.2.2.2.2.2.2.2.2.2.2.1, .int B.2.2.2.2.2.2.2.2.2.2.2.2.2.2.2.2.2.2.2.2.1, .ref (ab 21), .ref (ab 22), .ref (ab 23), .ref (ab 24)])), (ab 21, .inl (cA 0, 20, .inl B.2.2.2.2.2.2.2.2.2.2.2.2.2.2.2.2.2.2.2.2.2.1)), (ab 22, .inl (cA 0, 20, .inl B.2.2.2.2.2.2.2.2.2.2.2.2.2.2.2.2.2.2.2.2.2.2.1)), (ab 23, .inl (cA 0, 20, .inl B.2.2.2.2.2.2.2.2.2.2.2.2.2.2.2.2.2.2.2.2.2.2.2.1)), (ab 24, .inl (cA 0, 20, .inl B.2.2.2.2.2.2.2.2.2.2.2.2.2.2.2.2.2.2.2.2.2.2.2.2)), (ak 0, .inr (8, [.int K0.1, .ref (ak 1), .ref (ak 8), .ref (ak 14), .ref (ak 20)])), (ak 1, .inr (6, [.int K0.2.1, .ref (ak 2), .ref (ak 3), .ref (ak 4), .ref (ak 5), .ref (ak 6), .ref (ak 7)])), (ak 2, .inl (cA 0, 24, .inl K0.2.2.1)), (ak 3, .inl (cA 0, 24, .inl K0.2.2.2.1)), (ak 4, .inl (cA 0, 24, .inl K0.2.2.2.2.1)), (ak 5, .inl (cA 0, 24, .inl K0.2.2.2.2.2.1)), (ak 6, .inl (cA 0, 24, .inl K0.2.2.2.2.2.2.1)), (ak 7, .inl (cA 0, 24, .inl K0.2.2.2.2.2.2.2.1)), (ak 8, .inr (2, [.int K0.2.2.2.2.2.2.2.2.1, .ref (ak 9), .ref (ak 10), .ref (ak 11), .ref (ak 12), .ref (ak 13)])), (ak 9, .inl (cA 0, 60, .inl K0.2.2.2.2.2.2.2.2.2.1)), (ak 10, .inl (cA 0, 60, .inl K0.2.2.2.2.2.2.2.2.2.2.1)), (ak 11, .inl (cA 0, 60, .inl K0.2.2.2.2.2.2.2.2.2.2.2.1)), (ak 12, .inl (cA 0, 60, .inl K0.2.2.2.2.2.2.2.2.2.2.2.2.1)), (ak 14, .inr (3, [.int K0.2.2.2.2.2.2.2.2.2.2.2.2.2.1, .ref (ak 15), .ref (ak 16), .ref (ak 17), .ref (ak 18), .ref (ak 19)])), (ak 15, .inl (cA 0, 30, .inl K0.2.2.2.2.2.2.2.2.2.2.2.2.2.2.1)), (ak 16, .inl (cA 0, 30, .inl K0.2.2.2.2.2.2.2.2.2.2.2.2.2.2.2.1)), (ak 17, .inl (cA 0, 30, .inl K0.2.2.2.2.2.2.2.2.2.2.2.2.2.2.2.2.1)), (ak 18, .inl (cA 0, 30, .inl K0.2.2.2.2.2.2.2.2.2.2.2.2.2.2.2.2.2.1)), (ak 19, .inl (cA 0, 30, .inl K0.2.2.2.2.2.2.2.2.2.2.2.2.2.2.2.2.2.2.1)), (ak 20, .inr (5, [.int K0.2.2.2.2.2.2.2.2.2.2.2.2.2.2.2.2.2.2.2.1, .int K0.2.2.2.2.2.2.2.2.2.2.2.2.2.2.2.2.2.2.2.2.1, .ref (ak 21), .ref (ak 22), .ref (ak 23), .ref (ak 24)])), (ak 21, .inl (cA 0, 20, .inl K0.2.2.2.2.2.2.2.2.2.2.2.2.2.2.2.2.2.2.2.2.2.1)), (ak 22, .inl (cA 0, 20, .inl K0.2.2.2.2.2.2.2.2.2.2.2.2.2.2.2.2.2.2.2.2.2.2.1)), (ak 23, .inl (cA 0, 20, .inl K0.2.2.2.2.2.2.2.2.2.2.2.2.2.2.2.2.2.2.2.2.2.2.2.1)), (ak 24, .inl (cA 0, 20, .inl K0.2.2.2.2.2.2.2.2.2.2.2.2.2.2.2.2.2.2.2.2.2.2.2.2)), (ad 3, .inr (7, [.int (nI l_), .int ta, .int tc, .ref (ad 4), .ref (ad 5), .ref (ad 6)])), (ad 4, .inl (cA 1, 80, .inl ti)), (ad 5, .inl (cA 0, 12, .inl tw)), (ad 6, .inl (cA 0, 36, .inl tn)), (ad 8, .inl (cA 5, 1, .inr (.inr (.inr (.inl gd)))))] := ⟨_, rfl⟩
  have hp := gl_B (E := (E7 cA (ad 0) aw ab ak (ad 1) (ad 2) hA (ad 3) (ad 4) (ad 5) (ad 6) isK lre lpo (nI dn, nI P, ar, fi, la, nb, pa, ro, nI D, dp, dg, de, dd, nI E, ek, eo, es, ef, el, nI L, nI K, lc, lm, lp, lr) mo B K0 (nI c) (nI x) (nI l_) ta tc ti tw tn ++ [((ad 7), .inl (cA 4, 1, .inr (.inl g))), ((ad 8), .inl (cA 5, 1, .inr (.inr (.inr (.inl gd)))))])) (Ec := (e_L_deed cA (ad 0) (aw 0) (ab 0) (ak 0) (ad 1) (ad 3) (aw 1) (aw 8) (aw 14) (aw 20) (aw 2) (aw 3) (aw 4) (aw 5) (aw 6) (aw 7) (aw 9) (aw 10) (aw 11) (aw 12) (aw 13) (aw 15) (aw 16) (aw 17) (aw 18) (aw 19) (aw 21) (aw 22) (aw 23) (aw 24) (ad 2) (ad 7) isK lre lpo (nI dn) (nI P) ar fi la nb pa ro (nI D) dp dg de dd (nI E) ek eo es ef el (nI L) (nI K) lc lm lp lr (nI c) (nI x) g hA)) (Er := Er1) (B := (hblk cA hA hW)) (R := ((E8 cA (ad 9) (ad 10) (ad 11) (ad 12) (ad 13) (ad 14) (ad 15) (ad 16) gA thr (nI c) rea rpo isS (nI l_) ra rwr n sv as ch bu nu) ++ gblk cA gA gW)) (pick (n := 82) [0, 1, 2, 3, 4, 5, 6, 7, 8, 9, 10, 11, 12, 13, 14, 15, 16, 17, 18, 19, 20, 21, 22, 23, 24, 74, 75, 80] [25, 26, 27, 28, 29, 30, 31, 32, 33, 34, 35, 36, 37, 38, 39, 40, 41, 42, 43, 44, 45, 46, 47, 48, 49, 50, 51, 52, 53, 54, 55, 56, 57, 58, 59, 60, 61, 62, 63, 64, 65, 66, 67, 68, 69, 70, 71, 72, 73, 76, 77, 78, 79, 81] rfl (by decide +kernel) rfl (by rw [hEr1]; rfl))
  have hPc : va_P G vwCl (k_L_deed cA (ad 0) (aw 0) (ab 0) (ak 0) (ad 1) (ad 3) (aw 1) (aw 8) (aw 14) (aw 20) (aw 2) (aw 3) (aw 4) (aw 5) (aw 6) (aw 7) (aw 9) (aw 10) (aw 11) (aw 12) (aw 13) (aw 15) (aw 16) (aw 17) (aw 18) (aw 19) (aw 21) (aw 22) (aw 23) (aw 24) (ad 2) (ad 7) isK lre lpo (nI dn) (nI P) ar fi la nb pa ro (nI D) dp dg de dd (nI E) ek eo es ef el (nI L) (nI K) lc lm lp lr (nI c) (nI x) g hA hW) H := (hP.perm hp).left
  have hDc : va_D _ (k_L_deed cA (ad 0) (aw 0) (ab 0) (ak 0) (ad 1) (ad 3) (aw 1) (aw 8) (aw 14) (aw 20) (aw 2) (aw 3) (aw 4) (aw 5) (aw 6) (aw 7) (aw 9) (aw 10) (aw 11) (aw 12) (aw 13) (aw 15) (aw 16) (aw 17) (aw 18) (aw 19) (aw 21) (aw 22) (aw 23) (aw 24) (ad 2) (ad 7) isK lre lpo (nI dn) (nI P) ar fi la nb pa ro (nI D) dp dg de dd (nI E) ek eo es ef el (nI L) (nI K) lc lm lp lr (nI c) (nI x) g hA hW) := (hD.perm hp).left
  have hFc := va_freePm hp hD hS hA0
  refine va_calli (vx_runSW (As := [.ref (ad 0), .int (xs (nI i + (1 : Int32)).toNatClampNeg), .int (xs (nI i + (2 : Int32)).toNatClampNeg), .int (xs (nI i + (3 : Int32)).toNatClampNeg), .int (xs (nI i + (4 : Int32)).toNatClampNeg), .ref (ad 7)]) (rest := []) ⟨hx, hb, hml, hown, hts⟩ (c_L_deed l hfl z G cA (ad 0) (aw 0) (ab 0) (ak 0) (ad 1) (ad 3) (aw 1) (aw 8) (aw 14) (aw 20) (aw 2) (aw 3) (aw 4) (aw 5) (aw 6) (aw 7) (aw 9) (aw 10) (aw 11) (aw 12) (aw 13) (aw 15) (aw 16) (aw 17) (aw 18) (aw 19) (aw 21) (aw 22) (aw 23) (aw 24) (ad 2) (ad 7) H.size (xs (nI i + (1 : Int32)).toNatClampNeg) (xs (nI i + (2 : Int32)).toNatClampNeg) (xs (nI i + (3 : Int32)).toNatClampNeg) (xs (nI i + (4 : Int32)).toNatClampNeg) isK lre lpo (nI dn) (nI P) ar fi la nb pa ro (nI D) dp dg de dd (nI E) ek eo es ef el (nI L) (nI K) lc lm lp lr (nI c) (nI x) g hA hW _ hop1 (Option.some_ne_none _)) (vx_cwSW 6 hts gL_law_L_deed rfl rfl rfl (by decide +kernel) ⟨Nat.le_of_ble_eq_true rfl, Nat.le_of_ble_eq_true rfl⟩) (preMSo hPc hDc hK hT hO hS hFc) rfl rfl hl.1 rfl (lv_room (Nat.le_of_ble_eq_true rfl)) dL_law_922 ⟨hn, hk⟩) hS (fun q _ h => hFc q h) hFc (fun r u t H1 locs ht hvm hw hB hz1 hk1 hS1 => ?_)
  obtain ⟨rfl, rfl⟩ := Prod.mk.inj (Option.some.inj hw)
  replace hB : va_P G vwCl (k_L_deed cA (ad 0) (aw 0) (ab 0) (ak 0) (ad 1) (ad 3) (aw 1) (aw 8) (aw 14) (aw 20) (aw 2) (aw 3) (aw 4) (aw 5) (aw 6) (aw 7) (aw 9) (aw 10) (aw 11) (aw 12) (aw 13) (aw 15) (aw 16) (aw 17) (aw 18) (aw 19) (aw 21) (aw 22) (aw 23) (aw 24) (ad 2) (ad 7) isK lre lpo (nI dn) (nI P) ar fi la nb pa ro (nI D') dp' dg' de' dd' (nI E) ek eo es ef el (nI L) (nI K) lc lm lp lr (nI c') (nI x') g' hA hW') t.heap := hB
  rw [ht] at hB
  have hj := va_backP hp hP hD hk1 hB (ad_app rfl hblk_addr)
  have hp2 := gl_B (E := (E7 cA (ad 0) aw ab ak (ad 1) (ad 2) hA (ad 3) (ad 4) (ad 5) (ad 6) isK lre lpo (nI dn, nI P, ar, fi, la, nb, pa, ro, nI D', dp', dg', de', dd', nI E, ek, eo, es, ef, el, nI L, nI K, lc, lm, lp, lr) mo B K0 (nI c') (nI x') (nI l_) ta tc ti tw tn ++ [((ad 7), .inl (cA 4, 1, .inr (.inl g'))), ((ad 8), .inl (cA 5, 1, .inr (.inr (.inr (.inl gd)))))])) (Ec := (e_L_deed cA (ad 0) (aw 0) (ab 0) (ak 0) (ad 1) (ad 3) (aw 1) (aw 8) (aw 14) (aw 20) (aw 2) (aw 3) (aw 4) (aw 5) (aw 6) (aw 7) (aw 9) (aw 10) (aw 11) (aw 12) (aw 13) (aw 15) (aw 16) (aw 17) (aw 18) (aw 19) (aw 21) (aw 22) (aw 23) (aw 24) (ad 2) (ad 7) isK lre lpo (nI dn) (nI P) ar fi la nb pa ro (nI D') dp' dg' de' dd' (nI E) ek eo es ef el (nI L) (nI K) lc lm lp lr (nI c') (nI x') g' hA)) (Er := Er1) (B := (hblk cA hA hW')) (R := ((E8 cA (ad 9) (ad 10) (ad 11) (ad 12) (ad 13) (ad 14) (ad 15) (ad 16) gA thr (nI c) rea rpo isS (nI l_) ra rwr n sv as ch bu nu) ++ gblk cA gA gW)) (pick (n := 82) [0, 1, 2, 3, 4, 5, 6, 7, 8, 9, 10, 11, 12, 13, 14, 15, 16, 17, 18, 19, 20, 21, 22, 23, 24, 74, 75, 80] [25, 26, 27, 28, 29, 30, 31, 32, 33, 34, 35, 36, 37, 38, 39, 40, 41, 42, 43, 44, 45, 46, 47, 48, 49, 50, 51, 52, 53, 54, 55, 56, 57, 58, 59, 60, 61, 62, 63, 64, 65, 66, 67, 68, 69, 70, 71, 72, 73, 76, 77, 78, 79, 81] rfl (by decide +kernel) rfl (by rw [hEr1]; rfl))
  replace hP : va_P G vwCl (((E7 cA (ad 0) aw ab ak (ad 1) (ad 2) hA (ad 3) (ad 4) (ad 5) (ad 6) isK lre lpo (nI dn, nI P, ar, fi, la, nb, pa, ro, nI D', dp', dg', de', dd', nI E, ek, eo, es, ef, el, nI L, nI K, lc, lm, lp, lr) mo B K0 (nI c') (nI x') (nI l_) ta tc ti tw tn ++ [((ad 7), .inl (cA 4, 1, .inr (.inl g'))), ((ad 8), .inl (cA 5, 1, .inr (.inr (.inr (.inl gd)))))]) ++ hblk cA hA hW') ++ ((E8 cA (ad 9) (ad 10) (ad 11) (ad 12) (ad 13) (ad 14) (ad 15) (ad 16) gA thr (nI c) rea rpo isS (nI l_) ra rwr n sv as ch bu nu) ++ gblk cA gA gW)) H1 := hj.1.perm hp2.symm
  replace hD : va_D _ (((E7 cA (ad 0) aw ab ak (ad 1) (ad 2) hA (ad 3) (ad 4) (ad 5) (ad 6) isK lre lpo (nI dn, nI P, ar, fi, la, nb, pa, ro, nI D', dp', dg', de', dd', nI E, ek, eo, es, ef, el, nI L, nI K, lc, lm, lp, lr) mo B K0 (nI c') (nI x') (nI l_) ta tc ti tw tn ++ [((ad 7), .inl (cA 4, 1, .inr (.inl g'))), ((ad 8), .inl (cA 5, 1, .inr (.inr (.inr (.inl gd)))))]) ++ hblk cA hA hW') ++ ((E8 cA (ad 9) (ad 10) (ad 11) (ad 12) (ad 13) (ad 14) (ad 15) (ad 16) gA thr (nI c) rea rpo isS (nI l_) ra rwr n sv as ch bu nu) ++ gblk cA gA gW)) := hj.2.perm hp2.symm
  have hS := hS1
  clear hj hp hp2 hPc hDc hFc hB hk1 hEr1 hw
  generalize H1 = H at hP hS ht hz1 ⊢
  refine lv_istore (lv' := [(6, .int k_), (5, .int (nI i)), (4, .ref (ad 8)), (3, .ref (ad 7)), (2, .ref (ad 9)), (1, .ref (ad 0)), (0, .ref b)]) hx hb dL_law_925 hl (by decide) rfl (fun ls hl => ?_)
  refine lv_aload_n hx hb dL_law_927 rfl (lv_at hl 4 rfl) ?_
  refine lv_aload_n hx hb dL_law_928 rfl (lv_at hl 6 rfl) ?_
  refine lv_iload hx hb dL_law_929 (lv_at hl 1 rfl) ?_
  refine lv_iconst (v := (1 : Int32)) hx hb dL_law_931 (by decide) ?_
  refine lv_iadd hx hb dL_law_932 ?_
  refine va_sld hx hb hX hbl hbA hS h_in1 dL_law_933 ?_
  refine lv_aload_n hx hb dL_law_934 rfl (lv_at hl 6 rfl) ?_
  refine lv_iload hx hb dL_law_935 (lv_at hl 1 rfl) ?_
  refine lv_iconst (v := (2 : Int32)) hx hb dL_law_937 (by decide) ?_
  refine lv_iadd hx hb dL_law_938 ?_
  refine va_sld hx hb hX hbl hbA hS h_in2 dL_law_939 ?_
  refine lv_aload_n hx hb dL_law_940 rfl (lv_at hl 6 rfl) ?_
  refine lv_iload hx hb dL_law_941 (lv_at hl 1 rfl) ?_
  refine lv_iconst (v := (3 : Int32)) hx hb dL_law_943 (by decide) ?_
  refine lv_iadd hx hb dL_law_944 ?_
  refine va_sld hx hb hX hbl hbA hS h_in3 dL_law_945 ?_
  refine lv_aload_n hx hb dL_law_946 rfl (lv_at hl 6 rfl) ?_
  refine lv_iload hx hb dL_law_947 (lv_at hl 1 rfl) ?_
  refine lv_iconst (v := (4 : Int32)) hx hb dL_law_949 (by decide) ?_
  refine lv_iadd hx hb dL_law_950 ?_
  refine va_sld hx hb hX hbl hbA hS h_in4 dL_law_951 ?_
  obtain ⟨Er2, hEr2⟩ : ∃ z, z = pk (E8 cA (ad 9) (ad 10) (ad 11) (ad 12) (ad 13) (ad 14) (ad 15) (ad 16) gA thr (nI c) rea rpo isS (nI l_) ra rwr n sv as ch bu nu) [2, 3, 5, 6, 7] := ⟨_, rfl⟩
  have hp := gq_B (E := (E8 cA (ad 9) (ad 10) (ad 11) (ad 12) (ad 13) (ad 14) (ad 15) (ad 16) gA thr (nI c) rea rpo isS (nI l_) ra rwr n sv as ch bu nu)) (Ec := (e_X8_deed cA (ad 9) (ad 10) (ad 11) (ad 12) (ad 13) (ad 14) (ad 15) (ad 16) thr (nI c) rea rpo isS (nI l_) ra rwr n gA)) (Er := Er2) (B := (gblk cA gA gW)) (R := ((E7 cA (ad 0) aw ab ak (ad 1) (ad 2) hA (ad 3) (ad 4) (ad 5) (ad 6) isK lre lpo (nI dn, nI P, ar, fi, la, nb, pa, ro, nI D', dp', dg', de', dd', nI E, ek, eo, es, ef, el, nI L, nI K, lc, lm, lp, lr) mo B K0 (nI c') (nI x') (nI l_) ta tc ti tw tn ++ [((ad 7), .inl (cA 4, 1, .inr (.inl g'))), ((ad 8), .inl (cA 5, 1, .inr (.inr (.inr (.inl gd)))))]) ++ hblk cA hA hW')) (pick (n := 8) [0, 1, 4] [2, 3, 5, 6, 7] rfl (by decide +kernel) rfl hEr2.symm)
  have hPc : va_P G vwCl (k_X8_deed cA (ad 9) (ad 10) (ad 11) (ad 12) (ad 13) (ad 14) (ad 15) (ad 16) thr (nI c) rea rpo isS (nI l_) ra rwr n gA gW) H := (hP.perm hp).left
  have hDc : va_D _ (k_X8_deed cA (ad 9) (ad 10) (ad 11) (ad 12) (ad 13) (ad 14) (ad 15) (ad 16) thr (nI c) rea rpo isS (nI l_) ra rwr n gA gW) := (hD.perm hp).left
  have hFc := va_freePm hp hD hS hA0
  refine va_calli (va_runV (As := [.int (xs (nI i + (1 : Int32)).toNatClampNeg), .int (xs (nI i + (2 : Int32)).toNatClampNeg), .int (xs (nI i + (3 : Int32)).toNatClampNeg), .int (xs (nI i + (4 : Int32)).toNatClampNeg)]) (rest := []) ⟨hx, hb, hml, hown, hts⟩ (c_X8_deed l G cA (ad 9) (ad 10) (ad 11) (ad 12) (ad 13) (ad 14) (ad 15) (ad 16) H.size (xs (nI i + (1 : Int32)).toNatClampNeg) (xs (nI i + (2 : Int32)).toNatClampNeg) (xs (nI i + (3 : Int32)).toNatClampNeg) (xs (nI i + (4 : Int32)).toNatClampNeg) thr (nI c) rea rpo isS (nI l_) ra rwr n gA gW _ hop2 (Option.some_ne_none _)) (cwV 4 hts gL_law_X8_deed rfl rfl rfl (by decide +kernel) ⟨Nat.le_of_ble_eq_true rfl, Nat.le_of_ble_eq_true rfl⟩) (preMV (q := (RX8, TX8, 15)) hPc hDc hK 0 rfl rfl) rfl rfl hl.1 rfl (lv_room (Nat.le_of_ble_eq_true rfl)) dL_law_952 ⟨by show _ ≤ 603072; omega, by show _ ≤ 7190634; omega⟩) hS (fun q _ h => hFc q h) hFc (fun r u t H1 locs ht hvm hw hB hz1 hk1 hS1 => ?_)
  obtain ⟨rfl, rfl⟩ := Prod.mk.inj (Option.some.inj hw)
  replace hB : va_P G vwCl (k_X8_deed cA (ad 9) (ad 10) (ad 11) (ad 12) (ad 13) (ad 14) (ad 15) (ad 16) k_ (nI c') rea rpo isS (nI l_) ra rwr n' gA gW') t.heap := hB
  rw [ht] at hB
  have hj := va_backP hp hP hD hk1 hB (ad_app rfl gblk_addr)
  have hp2 := gq_B (E := (E8 cA (ad 9) (ad 10) (ad 11) (ad 12) (ad 13) (ad 14) (ad 15) (ad 16) gA k_ (nI c') rea rpo isS (nI l_) ra rwr n' sv as ch bu nu)) (Ec := (e_X8_deed cA (ad 9) (ad 10) (ad 11) (ad 12) (ad 13) (ad 14) (ad 15) (ad 16) k_ (nI c') rea rpo isS (nI l_) ra rwr n' gA)) (Er := Er2) (B := (gblk cA gA gW')) (R := ((E7 cA (ad 0) aw ab ak (ad 1) (ad 2) hA (ad 3) (ad 4) (ad 5) (ad 6) isK lre lpo (nI dn, nI P, ar, fi, la, nb, pa, ro, nI D', dp', dg', de', dd', nI E, ek, eo, es, ef, el, nI L, nI K, lc, lm, lp, lr) mo B K0 (nI c') (nI x') (nI l_) ta tc ti tw tn ++ [((ad 7), .inl (cA 4, 1, .inr (.inl g'))), ((ad 8), .inl (cA 5, 1, .inr (.inr (.inr (.inl gd)))))]) ++ hblk cA hA hW')) (pick (n := 8) [0, 1, 4] [2, 3, 5, 6, 7] rfl (by decide +kernel) rfl (by rw [hEr2]; rfl))
  replace hP : va_P G vwCl (((E7 cA (ad 0) aw ab ak (ad 1) (ad 2) hA (ad 3) (ad 4) (ad 5) (ad 6) isK lre lpo (nI dn, nI P, ar, fi, la, nb, pa, ro, nI D', dp', dg', de', dd', nI E, ek, eo, es, ef, el, nI L, nI K, lc, lm, lp, lr) mo B K0 (nI c') (nI x') (nI l_) ta tc ti tw tn ++ [((ad 7), .inl (cA 4, 1, .inr (.inl g'))), ((ad 8), .inl (cA 5, 1, .inr (.inr (.inr (.inl gd)))))]) ++ hblk cA hA hW') ++ ((E8 cA (ad 9) (ad 10) (ad 11) (ad 12) (ad 13) (ad 14) (ad 15) (ad 16) gA k_ (nI c') rea rpo isS (nI l_) ra rwr n' sv as ch bu nu) ++ gblk cA gA gW')) H1 := hj.1.perm hp2.symm
  replace hD : va_D _ (((E7 cA (ad 0) aw ab ak (ad 1) (ad 2) hA (ad 3) (ad 4) (ad 5) (ad 6) isK lre lpo (nI dn, nI P, ar, fi, la, nb, pa, ro, nI D', dp', dg', de', dd', nI E, ek, eo, es, ef, el, nI L, nI K, lc, lm, lp, lr) mo B K0 (nI c') (nI x') (nI l_) ta tc ti tw tn ++ [((ad 7), .inl (cA 4, 1, .inr (.inl g'))), ((ad 8), .inl (cA 5, 1, .inr (.inr (.inr (.inl gd)))))]) ++ hblk cA hA hW') ++ ((E8 cA (ad 9) (ad 10) (ad 11) (ad 12) (ad 13) (ad 14) (ad 15) (ad 16) gA k_ (nI c') rea rpo isS (nI l_) ra rwr n' sv as ch bu nu) ++ gblk cA gA gW')) := hj.2.perm hp2.symm
  have hS := hS1
  clear hj hp hp2 hPc hDc hFc hB hk1 hEr2 hw
  generalize H1 = H at hP hS ht hz1 ⊢
  refine lv_istore (lv' := [(7, .int b_), (6, .int k_), (5, .int (nI i)), (4, .ref (ad 8)), (3, .ref (ad 7)), (2, .ref (ad 9)), (1, .ref (ad 0)), (0, .ref b)]) hx hb dL_law_955 hl (by decide) rfl (fun ls hl => ?_)
  refine lv_aload_n hx hb dL_law_957 rfl (lv_at hl 5 rfl) ?_
  refine vp_callSi (va_Run.run (va_runV (As := []) (rest := []) ⟨hx, hb, hml, hown, hts⟩ (c_X8_thrown l G cA (ad 9) (ad 10) (ad 11) (ad 12) (ad 13) (ad 14) (ad 15) (ad 16) k_ (nI c') rea rpo isS (nI l_) ra rwr _ (rfl : m_X8_thrown k_ = some k_) (Option.some_ne_none _)) (cwV 0 hts gL_law_X8_thrown rfl rfl rfl (by decide +kernel) ⟨Nat.le_of_ble_eq_true rfl, Nat.le_of_ble_eq_true rfl⟩) (preRV (q := (RX8, TX8, 15)) (hP.right.left.sub [0] rfl) hK 0 rfl rfl) rfl rfl hl.1 rfl (lv_room (Nat.le_of_ble_eq_true rfl)) dL_law_958 ⟨by show _ ≤ 603072; omega, by show _ ≤ 7190634; omega⟩)) (fun r hw => ?_)
  obtain rfl := Option.some.inj hw
  refine lv_iload hx hb dL_law_961 (lv_at hl 1 rfl) ?_
  refine lv_icmp_eq (tgt := 968) hx hb dL_law_963 (by decide) (fun _ => ?_) (fun c_0 => absurd rfl c_0)
  refine lv_iload hx hb dL_law_968 (lv_at hl 1 rfl) ?_
  refine lv_if_ne (tgt := 985) hx hb dL_law_970 (by decide) (fun c_3 => ?_) (fun c_3 => ?_)
  · refine lv_goto (tgt := 2652) hx hb dL_law_985 (by decide) ?_
    exact next _ _ _ _ ⟨P, D', E, L, K, dn, c', x', l_, ar, fi, la, nb, pa, ro, dp', dg', de', dd', ek, eo, es, ef, el, lc, lm, lp, lr, n', hW', gW', B, K0, isK, isS, lre, rea, lpo, rpo, ta, tc, k_, ra, rwr, mo, ti, tw, tn, sv, as, ch, bu, nu, g', gd, rfl, hWC2, hHR2, hRR, hPO, hSR, hTR⟩ hP hD hS (lv_sub hl [2, 3, 4, 5, 6, 7] rfl)
  · have hpost0 := hpost c_3
    refine lv_aload_n hx hb dL_law_973 rfl (lv_at hl 4 rfl) ?_
    refine lv_iconst (v := (0 : Int32)) hx hb dL_law_974 (by decide) ?_
    refine va_lald hx hb hK.1 hP 80 4 rfl rfl (ixi (i := (0 : Int32)) (n := 1) (by decide)) dL_law_975 ?_
    refine lv_iload hx hb dL_law_976 (lv_at hl 0 rfl) ?_
    refine lv_i2l hx hb dL_law_978 rfl ?_
    refine W.lcmp hx hb dL_law_979 ?_
    refine lv_if_eq (tgt := 985) hx hb dL_law_980 (by decide) (fun _ => ?_) (fun c_0 => absurd (by rw [show g' (0 : Int32).toNatClampNeg = b_.toInt64 from hpost0]; exact cmp_self _) c_0)
    refine lv_goto (tgt := 2652) hx hb dL_law_985 (by decide) ?_
    exact next _ _ _ _ ⟨P, D', E, L, K, dn, c', x', l_, ar, fi, la, nb, pa, ro, dp', dg', de', dd', ek, eo, es, ef, el, lc, lm, lp, lr, n', hW', gW', B, K0, isK, isS, lre, rea, lpo, rpo, ta, tc, k_, ra, rwr, mo, ti, tw, tn, sv, as, ch, bu, nu, g', gd, rfl, hWC2, hHR2, hRR, hPO, hSR, hTR⟩ hP hD hS (lv_sub hl [2, 3, 4, 5, 6, 7] rfl)

set_option maxHeartbeats 16000000 in
set_option maxRecDepth 100000 in
/-- deedOf -/
theorem law_deedOf {p : Program} {l : Launch} {e : Env} {s : State} {m : MethodId} {below : List Frame} {meth : Method} {cd : Code} {b Ls : Nat} {xs : Nat → Int32} {z : Nat → Nat} {G : va_G} {cA : Nat → ClassId} {ad aw ab ak : Nat → Nat} {hA : Nat → Nat → Nat} {gA : Nat → Nat} (C0 : LC p l s m cd b Ls xs z G cA) {i nn kk : Nat} (hi : i + 4 < Ls) (hL : Ls ≤ 2560) (hn : nn + 1 ≤ 603072) (hk : kk + 6 ≤ 7190634) (next : LNext p l e s m below meth cd b G cA ad aw ab ak hA gA i (nn + 1) (kk + 6)) {ws : va_W} {H : Heap} {locs : List Loc} {ls : Array Slot} (hI : LSt cA ad aw ab ak hA gA ws) (hP : va_P G vwCl ws H) (hD : va_D (fun q : Nat => s.heap.size ≤ q) ws) (hS : va_S (fun q : Nat => s.heap.size ≤ q) s.heap H locs) (hl : lv_has ls 9 [(5, .int (nI i)), (4, .ref (ad 8)), (3, .ref (ad 7)), (2, .ref (ad 9)), (1, .ref (ad 0)), (0, .ref b)]) : W p l e room_1 s m #[Value.ref b] below meth cd H locs nn kk (lw_Z below #[Value.ref b] s) (F0 m 988 ls []) := by
  obtain ⟨hx, hb, hml, hown, hts, hX, hbl, hK, hT, hO, hfl⟩ := C0
  have hbA : ¬ (fun q : Nat => s.heap.size ≤ q) b := Nat.not_le.mpr hbl
  have hA0 : ∀ q : Nat, s.heap.size ≤ q → (fun q : Nat => s.heap.size ≤ q) q := fun _ h => h
  have h_in1 : vp_in (nI i + (1 : Int32)) Ls := by rw [show nI i + (1 : Int32) = nI (i + 1) from nI_add i 1]; exact vp_in_nI (by omega) (by omega)
  have h_in2 : vp_in (nI i + (2 : Int32)) Ls := by rw [show nI i + (2 : Int32) = nI (i + 2) from nI_add i 2]; exact vp_in_nI (by omega) (by omega)
  have h_in3 : vp_in (nI i + (3 : Int32)) Ls := by rw [show nI i + (3 : Int32) = nI (i + 3) from nI_add i 3]; exact vp_in_nI (by omega) (by omega)
  have h_in4 : vp_in (nI i + (4 : Int32)) Ls := by rw [show nI i + (4 : Int32) = nI (i + 4) from nI_add i 4]; exact vp_in_nI (by omega) (by omega)
  obtain ⟨P, D, E, L, K, dn, c, x, l_, ar, fi, la, nb, pa, ro, dp, dg, de, dd, ek, eo, es, ef, el, lc, lm, lp, lr, n, hW, gW, B, K0, isK, isS, lre, rea, lpo, rpo, ta, tc, thr, ra, rwr, mo, ti, tw, tn, sv, as, ch, bu, nu, g, gd, rfl, hWC, hHR, hRR, hPO, hSR, hTR⟩ := hI
  refine lv_aload_n hx hb dL_law_988 rfl (lv_at hl 4 rfl) ?_
  refine lv_aload_n hx hb dL_law_989 rfl (lv_at hl 5 rfl) ?_
  refine lv_iload hx hb dL_law_990 (lv_at hl 0 rfl) ?_
  refine lv_iconst (v := (1 : Int32)) hx hb dL_law_992 (by decide) ?_
  refine lv_iadd hx hb dL_law_993 ?_
  refine va_sld hx hb hX hbl hbA hS h_in1 dL_law_994 ?_
  refine lv_aload_n hx hb dL_law_995 rfl (lv_at hl 5 rfl) ?_
  refine lv_iload hx hb dL_law_996 (lv_at hl 0 rfl) ?_
  refine lv_iconst (v := (2 : Int32)) hx hb dL_law_998 (by decide) ?_
  refine lv_iadd hx hb dL_law_999 ?_
  refine va_sld hx hb hX hbl hbA hS h_in2 dL_law_1000 ?_
  refine lv_aload_n hx hb dL_law_1001 rfl (lv_at hl 5 rfl) ?_
  refine lv_iload hx hb dL_law_1002 (lv_at hl 0 rfl) ?_
  refine lv_iconst (v := (3 : Int32)) hx hb dL_law_1004 (by decide) ?_
  refine lv_iadd hx hb dL_law_1005 ?_
  refine va_sld hx hb hX hbl hbA hS h_in3 dL_law_1006 ?_
  refine lv_aload_n hx hb dL_law_1007 rfl (lv_at hl 2 rfl) ?_
  obtain ⟨k_, b_, g', hop1, hop2, hpost⟩ := op_deedOf hWC (xs (nI i + (1 : Int32)).toNatClampNeg) (xs (nI i + (2 : Int32)).toNatClampNeg) (xs (nI i + (3 : Int32)).toNatClampNeg) g
  obtain ⟨Er1, hEr1⟩ : ∃ z, z = pk (E7 cA (ad 0) aw ab ak (ad 1) (ad 2) hA (ad 3) (ad 4) (ad 5) (ad 6) isK lre lpo (nI dn, nI P, ar, fi, la, nb, pa, ro, nI D, dp, dg, de, dd, nI E, ek, eo, es, ef, el, nI L, nI K, lc, lm, lp, lr) mo B K0 (nI c) (nI x) (nI l_) ta tc ti tw tn ++ [((ad 7), .inl (cA 4, 1, .inr (.inl g))), ((ad 8), .inl (cA 5, 1, .inr (.inr (.inr (.inl gd)))))]) [3, 4, 5, 6, 7, 14, 15, 16, 17, 18, 19, 20, 21, 22, 23, 24, 25, 26, 27, 28, 29, 30, 31, 32, 33, 34, 35, 36, 37, 38, 39, 40, 41, 42, 43, 44, 45, 46, 47, 48, 49, 50, 51, 52, 53, 54, 55, 56, 57, 58, 59, 60, 61, 62, 63, 64, 65, 66, 67, 68, 69, 70, 71, 72, 73, 74, 75, 76, 77, 78, 79, 81] := ⟨_, rfl⟩
  have hp := gl_0 (E := (E7 cA (ad 0) aw ab ak (ad 1) (ad 2) hA (ad 3) (ad 4) (ad 5) (ad 6) isK lre lpo (nI dn, nI P, ar, fi, la, nb, pa, ro, nI D, dp, dg, de, dd, nI E, ek, eo, es, ef, el, nI L, nI K, lc, lm, lp, lr) mo B K0 (nI c) (nI x) (nI l_) ta tc ti tw tn ++ [((ad 7), .inl (cA 4, 1, .inr (.inl g))), ((ad 8), .inl (cA 5, 1, .inr (.inr (.inr (.inl gd)))))])) (Ec := (k_L_deedOf cA (ad 0) (aw 0) (ab 0) (ak 0) (ad 1) (ad 3) (aw 1) (aw 8) (aw 14) (aw 20) (aw 2) (aw 3) (aw 4) (aw 5) (aw 6) (aw 7) (aw 9) (aw 10) (aw 11) (aw 12) (aw 13) (ad 7) isK lre lpo (nI dn) (nI P) ro (nI D) dp dg de dd g)) (Er := Er1) (B := (hblk cA hA hW)) (R := ((E8 cA (ad 9) (ad 10) (ad 11) (ad 12) (ad 13) (ad 14) (ad 15) (ad 16) gA thr (nI c) rea rpo isS (nI l_) ra rwr n sv as ch bu nu) ++ gblk cA gA gW)) (pick (n := 82) [0, 1, 2, 8, 9, 10, 11, 12, 13, 80] [3, 4, 5, 6, 7, 14, 15, 16, 17, 18, 19, 20, 21, 22, 23, 24, 25, 26, 27, 28, 29, 30, 31, 32, 33, 34, 35, 36, 37, 38, 39, 40, 41, 42, 43, 44, 45, 46, 47, 48, 49, 50, 51, 52, 53, 54, 55, 56, 57, 58, 59, 60, 61, 62, 63, 64, 65, 66, 67, 68, 69, 70, 71, 72, 73, 74, 75, 76, 77, 78, 79, 81] rfl (by decide +kernel) rfl hEr1.symm)
  have hPc : va_P G vwCl (k_L_deedOf cA (ad 0) (aw 0) (ab 0) (ak 0) (ad 1) (ad 3) (aw 1) (aw 8) (aw 14) (aw 20) (aw 2) (aw 3) (aw 4) (aw 5) (aw 6) (aw 7) (aw 9) (aw 10) (aw 11) (aw 12) (aw 13) (ad 7) isK lre lpo (nI dn) (nI P) ro (nI D) dp dg de dd g) H := (hP.perm hp).left
  have hDc : va_D _ (k_L_deedOf cA (ad 0) (aw 0) (ab 0) (ak 0) (ad 1) (ad 3) (aw 1) (aw 8) (aw 14) (aw 20) (aw 2) (aw 3) (aw 4) (aw 5) (aw 6) (aw 7) (aw 9) (aw 10) (aw 11) (aw 12) (aw 13) (ad 7) isK lre lpo (nI dn) (nI P) ro (nI D) dp dg de dd g) := (hD.perm hp).left
  have hFc := va_freePm hp hD hS hA0
  refine va_calli (vx_runSW (As := [.ref (ad 0), .int (xs (nI i + (1 : Int32)).toNatClampNeg), .int (xs (nI i + (2 : Int32)).toNatClampNeg), .int (xs (nI i + (3 : Int32)).toNatClampNeg), .ref (ad 7)]) (rest := []) ⟨hx, hb, hml, hown, hts⟩ (c_L_deedOf l hfl z G cA (ad 0) (aw 0) (ab 0) (ak 0) (ad 1) (ad 3) (aw 1) (aw 8) (aw 14) (aw 20) (aw 2) (aw 3) (aw 4) (aw 5) (aw 6) (aw 7) (aw 9) (aw 10) (aw 11) (aw 12) (aw 13) (ad 7) H.size (xs (nI i + (1 : Int32)).toNatClampNeg) (xs (nI i + (2 : Int32)).toNatClampNeg) (xs (nI i + (3 : Int32)).toNatClampNeg) isK lre lpo (nI dn) (nI P) ro (nI D) dp dg de dd g _ hop1 (Option.some_ne_none _)) (vx_cwSW 5 hts gL_law_L_deedOf rfl rfl rfl (by decide +kernel) ⟨Nat.le_of_ble_eq_true rfl, Nat.le_of_ble_eq_true rfl⟩) (preMSo hPc hDc hK hT hO hS hFc) rfl rfl hl.1 rfl (lv_room (Nat.le_of_ble_eq_true rfl)) dL_law_1008 ⟨hn, hk⟩) hS (fun q _ h => hFc q h) hFc (fun r u t H1 locs ht hvm hw hB hz1 hk1 hS1 => ?_)
  obtain ⟨rfl, rfl⟩ := Prod.mk.inj (Option.some.inj hw)
  replace hB : va_P G vwCl (k_L_deedOf cA (ad 0) (aw 0) (ab 0) (ak 0) (ad 1) (ad 3) (aw 1) (aw 8) (aw 14) (aw 20) (aw 2) (aw 3) (aw 4) (aw 5) (aw 6) (aw 7) (aw 9) (aw 10) (aw 11) (aw 12) (aw 13) (ad 7) isK lre lpo (nI dn) (nI P) ro (nI D) dp dg de dd g') t.heap := hB
  rw [ht] at hB
  have hj := va_backP hp hP hD hk1 hB rfl
  have hp2 := gl_0 (E := (E7 cA (ad 0) aw ab ak (ad 1) (ad 2) hA (ad 3) (ad 4) (ad 5) (ad 6) isK lre lpo (nI dn, nI P, ar, fi, la, nb, pa, ro, nI D, dp, dg, de, dd, nI E, ek, eo, es, ef, el, nI L, nI K, lc, lm, lp, lr) mo B K0 (nI c) (nI x) (nI l_) ta tc ti tw tn ++ [((ad 7), .inl (cA 4, 1, .inr (.inl g'))), ((ad 8), .inl (cA 5, 1, .inr (.inr (.inr (.inl gd)))))])) (Ec := (k_L_deedOf cA (ad 0) (aw 0) (ab 0) (ak 0) (ad 1) (ad 3) (aw 1) (aw 8) (aw 14) (aw 20) (aw 2) (aw 3) (aw 4) (aw 5) (aw 6) (aw 7) (aw 9) (aw 10) (aw 11) (aw 12) (aw 13) (ad 7) isK lre lpo (nI dn) (nI P) ro (nI D) dp dg de dd g')) (Er := Er1) (B := (hblk cA hA hW)) (R := ((E8 cA (ad 9) (ad 10) (ad 11) (ad 12) (ad 13) (ad 14) (ad 15) (ad 16) gA thr (nI c) rea rpo isS (nI l_) ra rwr n sv as ch bu nu) ++ gblk cA gA gW)) (pick (n := 82) [0, 1, 2, 8, 9, 10, 11, 12, 13, 80] [3, 4, 5, 6, 7, 14, 15, 16, 17, 18, 19, 20, 21, 22, 23, 24, 25, 26, 27, 28, 29, 30, 31, 32, 33, 34, 35, 36, 37, 38, 39, 40, 41, 42, 43, 44, 45, 46, 47, 48, 49, 50, 51, 52, 53, 54, 55, 56, 57, 58, 59, 60, 61, 62, 63, 64, 65, 66, 67, 68, 69, 70, 71, 72, 73, 74, 75, 76, 77, 78, 79, 81] rfl (by decide +kernel) rfl (by rw [hEr1]; exact pk_e0 (n := 80) _ rfl (by decide)))
  replace hP : va_P G vwCl (((E7 cA (ad 0) aw ab ak (ad 1) (ad 2) hA (ad 3) (ad 4) (ad 5) (ad 6) isK lre lpo (nI dn, nI P, ar, fi, la, nb, pa, ro, nI D, dp, dg, de, dd, nI E, ek, eo, es, ef, el, nI L, nI K, lc, lm, lp, lr) mo B K0 (nI c) (nI x) (nI l_) ta tc ti tw tn ++ [((ad 7), .inl (cA 4, 1, .inr (.inl g'))), ((ad 8), .inl (cA 5, 1, .inr (.inr (.inr (.inl gd)))))]) ++ hblk cA hA hW) ++ ((E8 cA (ad 9) (ad 10) (ad 11) (ad 12) (ad 13) (ad 14) (ad 15) (ad 16) gA thr (nI c) rea rpo isS (nI l_) ra rwr n sv as ch bu nu) ++ gblk cA gA gW)) H1 := hj.1.perm hp2.symm
  replace hD : va_D _ (((E7 cA (ad 0) aw ab ak (ad 1) (ad 2) hA (ad 3) (ad 4) (ad 5) (ad 6) isK lre lpo (nI dn, nI P, ar, fi, la, nb, pa, ro, nI D, dp, dg, de, dd, nI E, ek, eo, es, ef, el, nI L, nI K, lc, lm, lp, lr) mo B K0 (nI c) (nI x) (nI l_) ta tc ti tw tn ++ [((ad 7), .inl (cA 4, 1, .inr (.inl g'))), ((ad 8), .inl (cA 5, 1, .inr (.inr (.inr (.inl gd)))))]) ++ hblk cA hA hW) ++ ((E8 cA (ad 9) (ad 10) (ad 11) (ad 12) (ad 13) (ad 14) (ad 15) (ad 16) gA thr (nI c) rea rpo isS (nI l_) ra rwr n sv as ch bu nu) ++ gblk cA gA gW)) := hj.2.perm hp2.symm
  have hS := hS1
  clear hj hp hp2 hPc hDc hFc hB hk1 hEr1 hw
  generalize H1 = H at hP hS ht hz1 ⊢
  refine lv_istore (lv' := [(6, .int k_), (5, .int (nI i)), (4, .ref (ad 8)), (3, .ref (ad 7)), (2, .ref (ad 9)), (1, .ref (ad 0)), (0, .ref b)]) hx hb dL_law_1011 hl (by decide) rfl (fun ls hl => ?_)
  refine lv_aload_n hx hb dL_law_1013 rfl (lv_at hl 4 rfl) ?_
  refine lv_aload_n hx hb dL_law_1014 rfl (lv_at hl 6 rfl) ?_
  refine lv_iload hx hb dL_law_1015 (lv_at hl 1 rfl) ?_
  refine lv_iconst (v := (1 : Int32)) hx hb dL_law_1017 (by decide) ?_
  refine lv_iadd hx hb dL_law_1018 ?_
  refine va_sld hx hb hX hbl hbA hS h_in1 dL_law_1019 ?_
  refine lv_aload_n hx hb dL_law_1020 rfl (lv_at hl 6 rfl) ?_
  refine lv_iload hx hb dL_law_1021 (lv_at hl 1 rfl) ?_
  refine lv_iconst (v := (2 : Int32)) hx hb dL_law_1023 (by decide) ?_
  refine lv_iadd hx hb dL_law_1024 ?_
  refine va_sld hx hb hX hbl hbA hS h_in2 dL_law_1025 ?_
  refine lv_aload_n hx hb dL_law_1026 rfl (lv_at hl 6 rfl) ?_
  refine lv_iload hx hb dL_law_1027 (lv_at hl 1 rfl) ?_
  refine lv_iconst (v := (3 : Int32)) hx hb dL_law_1029 (by decide) ?_
  refine lv_iadd hx hb dL_law_1030 ?_
  refine va_sld hx hb hX hbl hbA hS h_in3 dL_law_1031 ?_
  obtain ⟨Er2, hEr2⟩ : ∃ z, z = pk (E8 cA (ad 9) (ad 10) (ad 11) (ad 12) (ad 13) (ad 14) (ad 15) (ad 16) gA thr (nI c) rea rpo isS (nI l_) ra rwr n sv as ch bu nu) [2, 3, 4, 5, 6, 7] := ⟨_, rfl⟩
  have hp := gq_0 (E := (E8 cA (ad 9) (ad 10) (ad 11) (ad 12) (ad 13) (ad 14) (ad 15) (ad 16) gA thr (nI c) rea rpo isS (nI l_) ra rwr n sv as ch bu nu)) (Ec := (k_X8_deedOf cA (ad 9) (ad 10) (ad 11) (ad 12) (ad 13) (ad 14) (ad 15) (ad 16) thr (nI c) rea rpo isS (nI l_) ra rwr n)) (Er := Er2) (B := (gblk cA gA gW)) (R := ((E7 cA (ad 0) aw ab ak (ad 1) (ad 2) hA (ad 3) (ad 4) (ad 5) (ad 6) isK lre lpo (nI dn, nI P, ar, fi, la, nb, pa, ro, nI D, dp, dg, de, dd, nI E, ek, eo, es, ef, el, nI L, nI K, lc, lm, lp, lr) mo B K0 (nI c) (nI x) (nI l_) ta tc ti tw tn ++ [((ad 7), .inl (cA 4, 1, .inr (.inl g'))), ((ad 8), .inl (cA 5, 1, .inr (.inr (.inr (.inl gd)))))]) ++ hblk cA hA hW)) (pick (n := 8) [0, 1] [2, 3, 4, 5, 6, 7] rfl (by decide +kernel) rfl hEr2.symm)
  have hPc : va_P G vwCl (k_X8_deedOf cA (ad 9) (ad 10) (ad 11) (ad 12) (ad 13) (ad 14) (ad 15) (ad 16) thr (nI c) rea rpo isS (nI l_) ra rwr n) H := (hP.perm hp).left
  have hDc : va_D _ (k_X8_deedOf cA (ad 9) (ad 10) (ad 11) (ad 12) (ad 13) (ad 14) (ad 15) (ad 16) thr (nI c) rea rpo isS (nI l_) ra rwr n) := (hD.perm hp).left
  have hFc := va_freePm hp hD hS hA0
  refine va_calli (va_runV (As := [.int (xs (nI i + (1 : Int32)).toNatClampNeg), .int (xs (nI i + (2 : Int32)).toNatClampNeg), .int (xs (nI i + (3 : Int32)).toNatClampNeg)]) (rest := []) ⟨hx, hb, hml, hown, hts⟩ (c_X8_deedOf l G cA (ad 9) (ad 10) (ad 11) (ad 12) (ad 13) (ad 14) (ad 15) (ad 16) H.size (xs (nI i + (1 : Int32)).toNatClampNeg) (xs (nI i + (2 : Int32)).toNatClampNeg) (xs (nI i + (3 : Int32)).toNatClampNeg) thr (nI c) rea rpo isS (nI l_) ra rwr n _ hop2 (Option.some_ne_none _)) (cwV 3 hts gL_law_X8_deedOf rfl rfl rfl (by decide +kernel) ⟨Nat.le_of_ble_eq_true rfl, Nat.le_of_ble_eq_true rfl⟩) (preMV (q := (RX8, TX8, 15)) hPc hDc hK 0 rfl rfl) rfl rfl hl.1 rfl (lv_room (Nat.le_of_ble_eq_true rfl)) dL_law_1032 ⟨by show _ ≤ 603072; omega, by show _ ≤ 7190634; omega⟩) hS (fun q _ h => hFc q h) hFc (fun r u t H1 locs ht hvm hw hB hz1 hk1 hS1 => ?_)
  obtain ⟨rfl, rfl⟩ := Prod.mk.inj (Option.some.inj hw)
  replace hB : va_P G vwCl (k_X8_deedOf cA (ad 9) (ad 10) (ad 11) (ad 12) (ad 13) (ad 14) (ad 15) (ad 16) k_ (nI c) rea rpo isS (nI l_) ra rwr n) t.heap := hB
  rw [ht] at hB
  have hj := va_backP hp hP hD hk1 hB rfl
  have hp2 := gq_0 (E := (E8 cA (ad 9) (ad 10) (ad 11) (ad 12) (ad 13) (ad 14) (ad 15) (ad 16) gA k_ (nI c) rea rpo isS (nI l_) ra rwr n sv as ch bu nu)) (Ec := (k_X8_deedOf cA (ad 9) (ad 10) (ad 11) (ad 12) (ad 13) (ad 14) (ad 15) (ad 16) k_ (nI c) rea rpo isS (nI l_) ra rwr n)) (Er := Er2) (B := (gblk cA gA gW)) (R := ((E7 cA (ad 0) aw ab ak (ad 1) (ad 2) hA (ad 3) (ad 4) (ad 5) (ad 6) isK lre lpo (nI dn, nI P, ar, fi, la, nb, pa, ro, nI D, dp, dg, de, dd, nI E, ek, eo, es, ef, el, nI L, nI K, lc, lm, lp, lr) mo B K0 (nI c) (nI x) (nI l_) ta tc ti tw tn ++ [((ad 7), .inl (cA 4, 1, .inr (.inl g'))), ((ad 8), .inl (cA 5, 1, .inr (.inr (.inr (.inl gd)))))]) ++ hblk cA hA hW)) (pick (n := 8) [0, 1] [2, 3, 4, 5, 6, 7] rfl (by decide +kernel) rfl (by rw [hEr2]; rfl))
  replace hP : va_P G vwCl (((E7 cA (ad 0) aw ab ak (ad 1) (ad 2) hA (ad 3) (ad 4) (ad 5) (ad 6) isK lre lpo (nI dn, nI P, ar, fi, la, nb, pa, ro, nI D, dp, dg, de, dd, nI E, ek, eo, es, ef, el, nI L, nI K, lc, lm, lp, lr) mo B K0 (nI c) (nI x) (nI l_) ta tc ti tw tn ++ [((ad 7), .inl (cA 4, 1, .inr (.inl g'))), ((ad 8), .inl (cA 5, 1, .inr (.inr (.inr (.inl gd)))))]) ++ hblk cA hA hW) ++ ((E8 cA (ad 9) (ad 10) (ad 11) (ad 12) (ad 13) (ad 14) (ad 15) (ad 16) gA k_ (nI c) rea rpo isS (nI l_) ra rwr n sv as ch bu nu) ++ gblk cA gA gW)) H1 := hj.1.perm hp2.symm
  replace hD : va_D _ (((E7 cA (ad 0) aw ab ak (ad 1) (ad 2) hA (ad 3) (ad 4) (ad 5) (ad 6) isK lre lpo (nI dn, nI P, ar, fi, la, nb, pa, ro, nI D, dp, dg, de, dd, nI E, ek, eo, es, ef, el, nI L, nI K, lc, lm, lp, lr) mo B K0 (nI c) (nI x) (nI l_) ta tc ti tw tn ++ [((ad 7), .inl (cA 4, 1, .inr (.inl g'))), ((ad 8), .inl (cA 5, 1, .inr (.inr (.inr (.inl gd)))))]) ++ hblk cA hA hW) ++ ((E8 cA (ad 9) (ad 10) (ad 11) (ad 12) (ad 13) (ad 14) (ad 15) (ad 16) gA k_ (nI c) rea rpo isS (nI l_) ra rwr n sv as ch bu nu) ++ gblk cA gA gW)) := hj.2.perm hp2.symm
  have hS := hS1
  clear hj hp hp2 hPc hDc hFc hB hk1 hEr2 hw
  generalize H1 = H at hP hS ht hz1 ⊢
  refine lv_istore (lv' := [(7, .int b_), (6, .int k_), (5, .int (nI i)), (4, .ref (ad 8)), (3, .ref (ad 7)), (2, .ref (ad 9)), (1, .ref (ad 0)), (0, .ref b)]) hx hb dL_law_1035 hl (by decide) rfl (fun ls hl => ?_)
  refine lv_aload_n hx hb dL_law_1037 rfl (lv_at hl 5 rfl) ?_
  refine vp_callSi (va_Run.run (va_runV (As := []) (rest := []) ⟨hx, hb, hml, hown, hts⟩ (c_X8_thrown l G cA (ad 9) (ad 10) (ad 11) (ad 12) (ad 13) (ad 14) (ad 15) (ad 16) k_ (nI c) rea rpo isS (nI l_) ra rwr _ (rfl : m_X8_thrown k_ = some k_) (Option.some_ne_none _)) (cwV 0 hts gL_law_X8_thrown rfl rfl rfl (by decide +kernel) ⟨Nat.le_of_ble_eq_true rfl, Nat.le_of_ble_eq_true rfl⟩) (preRV (q := (RX8, TX8, 15)) (hP.right.left.sub [0] rfl) hK 0 rfl rfl) rfl rfl hl.1 rfl (lv_room (Nat.le_of_ble_eq_true rfl)) dL_law_1038 ⟨by show _ ≤ 603072; omega, by show _ ≤ 7190634; omega⟩)) (fun r hw => ?_)
  obtain rfl := Option.some.inj hw
  refine lv_iload hx hb dL_law_1041 (lv_at hl 1 rfl) ?_
  refine lv_icmp_eq (tgt := 1048) hx hb dL_law_1043 (by decide) (fun _ => ?_) (fun c_0 => absurd rfl c_0)
  refine lv_iload hx hb dL_law_1048 (lv_at hl 1 rfl) ?_
  refine lv_if_ne (tgt := 1065) hx hb dL_law_1050 (by decide) (fun c_3 => ?_) (fun c_3 => ?_)
  · refine lv_goto (tgt := 2652) hx hb dL_law_1065 (by decide) ?_
    exact next _ _ _ _ ⟨P, D, E, L, K, dn, c, x, l_, ar, fi, la, nb, pa, ro, dp, dg, de, dd, ek, eo, es, ef, el, lc, lm, lp, lr, n, hW, gW, B, K0, isK, isS, lre, rea, lpo, rpo, ta, tc, k_, ra, rwr, mo, ti, tw, tn, sv, as, ch, bu, nu, g', gd, rfl, hWC, hHR, hRR, hPO, hSR, hTR⟩ hP hD hS (lv_sub hl [2, 3, 4, 5, 6, 7] rfl)
  · have hpost0 := hpost c_3
    refine lv_aload_n hx hb dL_law_1053 rfl (lv_at hl 4 rfl) ?_
    refine lv_iconst (v := (0 : Int32)) hx hb dL_law_1054 (by decide) ?_
    refine va_lald hx hb hK.1 hP 80 4 rfl rfl (ixi (i := (0 : Int32)) (n := 1) (by decide)) dL_law_1055 ?_
    refine lv_iload hx hb dL_law_1056 (lv_at hl 0 rfl) ?_
    refine lv_i2l hx hb dL_law_1058 rfl ?_
    refine W.lcmp hx hb dL_law_1059 ?_
    refine lv_if_eq (tgt := 1065) hx hb dL_law_1060 (by decide) (fun _ => ?_) (fun c_0 => absurd (by rw [show g' (0 : Int32).toNatClampNeg = b_.toInt64 from hpost0]; exact cmp_self _) c_0)
    refine lv_goto (tgt := 2652) hx hb dL_law_1065 (by decide) ?_
    exact next _ _ _ _ ⟨P, D, E, L, K, dn, c, x, l_, ar, fi, la, nb, pa, ro, dp, dg, de, dd, ek, eo, es, ef, el, lc, lm, lp, lr, n, hW, gW, B, K0, isK, isS, lre, rea, lpo, rpo, ta, tc, k_, ra, rwr, mo, ti, tw, tn, sv, as, ch, bu, nu, g', gd, rfl, hWC, hHR, hRR, hPO, hSR, hTR⟩ hP hD hS (lv_sub hl [2, 3, 4, 5, 6, 7] rfl)
