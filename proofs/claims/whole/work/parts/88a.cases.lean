/-! The law, call by call. -/
set_option maxHeartbeats 16000000 in
set_option maxRecDepth 100000 in
/-- clear -/
theorem law_clear {p : Program} {l : Launch} {e : Env} {s : State} {m : MethodId} {below : List Frame} {meth : Method} {cd : Code} {b Ls : Nat} {xs : Nat → Int32} {z : Nat → Nat} {G : va_G} {cA : Nat → ClassId} {ad aw ab ak : Nat → Nat} {hA : Nat → Nat → Nat} {gA : Nat → Nat} (C0 : LC p l s m cd b Ls xs z G cA) {i nn kk : Nat} (hi : i + 4 < Ls) (hL : Ls ≤ 2560) (hn : nn + 1 ≤ 603072) (hk : kk + 6 ≤ 7190634) (next : LNext p l e s m below meth cd b G cA ad aw ab ak hA gA i (nn + 1) (kk + 6)) {ws : va_W} {H : Heap} {locs : List Loc} {ls : Array Slot} (hI : LSt cA ad aw ab ak hA gA ws) (hP : va_P G vwCl ws H) (hD : va_D (fun q : Nat => s.heap.size ≤ q) ws) (hS : va_S (fun q : Nat => s.heap.size ≤ q) s.heap H locs) (hl : lv_has ls 9 [(5, .int (nI i)), (4, .ref (ad 8)), (3, .ref (ad 7)), (2, .ref (ad 9)), (1, .ref (ad 0)), (0, .ref b)]) : W p l e room_1 s m #[Value.ref b] below meth cd H locs nn kk (lw_Z below #[Value.ref b] s) (F0 m 216 ls []) := by
  obtain ⟨hx, hb, hml, hown, hts, hX, hbl, hK, hT, hO, hfl⟩ := C0
  have hbA : ¬ (fun q : Nat => s.heap.size ≤ q) b := Nat.not_le.mpr hbl
  have hA0 : ∀ q : Nat, s.heap.size ≤ q → (fun q : Nat => s.heap.size ≤ q) q := fun _ h => h
  have h_in1 : vp_in (nI i + (1 : Int32)) Ls := by rw [show nI i + (1 : Int32) = nI (i + 1) from nI_add i 1]; exact vp_in_nI (by omega) (by omega)
  have h_in2 : vp_in (nI i + (2 : Int32)) Ls := by rw [show nI i + (2 : Int32) = nI (i + 2) from nI_add i 2]; exact vp_in_nI (by omega) (by omega)
  have h_in3 : vp_in (nI i + (3 : Int32)) Ls := by rw [show nI i + (3 : Int32) = nI (i + 3) from nI_add i 3]; exact vp_in_nI (by omega) (by omega)
  have h_in4 : vp_in (nI i + (4 : Int32)) Ls := by rw [show nI i + (4 : Int32) = nI (i + 4) from nI_add i 4]; exact vp_in_nI (by omega) (by omega)
  obtain ⟨P, D, E, L, K, dn, c, x, l_, ar, fi, la, nb, pa, ro, dp, dg, de, dd, ek, eo, es, ef, el, lc, lm, lp, lr, n, hW, gW, B, K0, isK, isS, lre, rea, lpo, rpo, ta, tc, thr, ra, rwr, mo, ti, tw, tn, sv, as, ch, bu, nu, g, gd, rfl, hWC, hHR, hRR, hPO, hSR, hTR⟩ := hI
  refine lv_aload_n hx hb dL_law_216 rfl (lv_at hl 4 rfl) ?_
  obtain ⟨n', hop1, hop2, hWC2, hHR2⟩ := op_clear hWC hHR
  obtain ⟨Er1, hEr1⟩ : ∃ z, z = pk (E7 cA (ad 0) aw ab ak (ad 1) (ad 2) hA (ad 3) (ad 4) (ad 5) (ad 6) isK lre lpo (nI dn, nI P, ar, fi, la, nb, pa, ro, nI D, dp, dg, de, dd, nI E, ek, eo, es, ef, el, nI L, nI K, lc, lm, lp, lr) mo B K0 (nI c) (nI x) (nI l_) ta tc ti tw tn ++ [((ad 7), .inl (cA 4, 1, .inr (.inl g))), ((ad 8), .inl (cA 5, 1, .inr (.inr (.inr (.inl gd)))))]) [3, 4, 5, 6, 7, 8, 10, 11, 12, 13, 15, 16, 17, 18, 19, 21, 22, 23, 24, 25, 26, 27, 28, 29, 30, 31, 32, 33, 34, 35, 36, 37, 38, 39, 40, 41, 42, 43, 44, 45, 46, 47, 48, 49, 50, 51, 52, 53, 54, 55, 56, 57, 58, 59, 60, 61, 62, 63, 64, 65, 66, 67, 68, 69, 70, 71, 72, 73, 75, 76, 77, 78, 79, 80, 81] := ⟨_, rfl⟩
  have hp := gl_0 (E := (E7 cA (ad 0) aw ab ak (ad 1) (ad 2) hA (ad 3) (ad 4) (ad 5) (ad 6) isK lre lpo (nI dn, nI P, ar, fi, la, nb, pa, ro, nI D, dp, dg, de, dd, nI E, ek, eo, es, ef, el, nI L, nI K, lc, lm, lp, lr) mo B K0 (nI c) (nI x) (nI l_) ta tc ti tw tn ++ [((ad 7), .inl (cA 4, 1, .inr (.inl g))), ((ad 8), .inl (cA 5, 1, .inr (.inr (.inr (.inl gd)))))])) (Ec := (k_X7_clear cA (ad 0) (aw 0) (ab 0) (ak 0) (ad 1) (ad 3) (aw 1) (aw 8) (aw 14) (aw 20) (aw 2) (aw 3) (aw 4) (aw 5) (aw 6) (aw 7) (aw 9) (aw 10) (aw 11) (aw 12) (aw 13) (aw 15) (aw 16) (aw 17) (aw 18) (aw 19) (aw 21) (aw 22) (aw 23) (aw 24) (ad 2) isK lre lpo (nI dn) (nI P) (nI D) (nI E) (nI L) (nI K) (nI c) (nI x))) (Er := Er1) (B := (hblk cA hA hW)) (R := ((E8 cA (ad 9) (ad 10) (ad 11) (ad 12) (ad 13) (ad 14) (ad 15) (ad 16) gA thr (nI c) rea rpo isS (nI l_) ra rwr n sv as ch bu nu) ++ gblk cA gA gW)) (pick (n := 82) [0, 1, 2, 9, 14, 20, 74] [3, 4, 5, 6, 7, 8, 10, 11, 12, 13, 15, 16, 17, 18, 19, 21, 22, 23, 24, 25, 26, 27, 28, 29, 30, 31, 32, 33, 34, 35, 36, 37, 38, 39, 40, 41, 42, 43, 44, 45, 46, 47, 48, 49, 50, 51, 52, 53, 54, 55, 56, 57, 58, 59, 60, 61, 62, 63, 64, 65, 66, 67, 68, 69, 70, 71, 72, 73, 75, 76, 77, 78, 79, 80, 81] rfl (by decide +kernel) rfl hEr1.symm)
  have hPc : va_P G vwCl (k_X7_clear cA (ad 0) (aw 0) (ab 0) (ak 0) (ad 1) (ad 3) (aw 1) (aw 8) (aw 14) (aw 20) (aw 2) (aw 3) (aw 4) (aw 5) (aw 6) (aw 7) (aw 9) (aw 10) (aw 11) (aw 12) (aw 13) (aw 15) (aw 16) (aw 17) (aw 18) (aw 19) (aw 21) (aw 22) (aw 23) (aw 24) (ad 2) isK lre lpo (nI dn) (nI P) (nI D) (nI E) (nI L) (nI K) (nI c) (nI x)) H := (hP.perm hp).left
  have hDc : va_D _ (k_X7_clear cA (ad 0) (aw 0) (ab 0) (ak 0) (ad 1) (ad 3) (aw 1) (aw 8) (aw 14) (aw 20) (aw 2) (aw 3) (aw 4) (aw 5) (aw 6) (aw 7) (aw 9) (aw 10) (aw 11) (aw 12) (aw 13) (aw 15) (aw 16) (aw 17) (aw 18) (aw 19) (aw 21) (aw 22) (aw 23) (aw 24) (ad 2) isK lre lpo (nI dn) (nI P) (nI D) (nI E) (nI L) (nI K) (nI c) (nI x)) := (hD.perm hp).left
  have hFc := va_freePm hp hD hS hA0
  refine va_calli (va_runV (As := []) (rest := []) ⟨hx, hb, hml, hown, hts⟩ (c_X7_clear l G cA (ad 0) (aw 0) (ab 0) (ak 0) (ad 1) (ad 3) (aw 1) (aw 8) (aw 14) (aw 20) (aw 2) (aw 3) (aw 4) (aw 5) (aw 6) (aw 7) (aw 9) (aw 10) (aw 11) (aw 12) (aw 13) (aw 15) (aw 16) (aw 17) (aw 18) (aw 19) (aw 21) (aw 22) (aw 23) (aw 24) (ad 2) H.size isK lre lpo (nI dn) (nI P) (nI D) (nI E) (nI L) (nI K) (nI c) (nI x) _ hop1 (Option.some_ne_none _)) (cwV 0 hts gL_law_X7_clear rfl rfl rfl (by decide +kernel) ⟨Nat.le_of_ble_eq_true rfl, Nat.le_of_ble_eq_true rfl⟩) (preMV (q := (RX7, TX7, 8)) hPc hDc hK 0 rfl rfl) rfl rfl hl.1 rfl (lv_room (Nat.le_of_ble_eq_true rfl)) dL_law_217 ⟨by show _ ≤ 603072; omega, by show _ ≤ 7190634; omega⟩) hS (fun q _ h => hFc q h) hFc (fun r u t H1 locs ht hvm hw hB hz1 hk1 hS1 => ?_)
  obtain ⟨rfl, rfl⟩ := Prod.mk.inj (Option.some.inj hw)
  replace hB : va_P G vwCl (k_X7_clear cA (ad 0) (aw 0) (ab 0) (ak 0) (ad 1) (ad 3) (aw 1) (aw 8) (aw 14) (aw 20) (aw 2) (aw 3) (aw 4) (aw 5) (aw 6) (aw 7) (aw 9) (aw 10) (aw 11) (aw 12) (aw 13) (aw 15) (aw 16) (aw 17) (aw 18) (aw 19) (aw 21) (aw 22) (aw 23) (aw 24) (ad 2) isK lre lpo (nI 0) (nI 0) (nI 0) (nI 0) (nI 0) (nI 0) (nI 0) (nI x)) t.heap := hB
  rw [ht] at hB
  have hj := va_backP hp hP hD hk1 hB rfl
  have hp2 := gl_0 (E := (E7 cA (ad 0) aw ab ak (ad 1) (ad 2) hA (ad 3) (ad 4) (ad 5) (ad 6) isK lre lpo (nI 0, nI 0, ar, fi, la, nb, pa, ro, nI 0, dp, dg, de, dd, nI 0, ek, eo, es, ef, el, nI 0, nI 0, lc, lm, lp, lr) mo B K0 (nI 0) (nI x) (nI l_) ta tc ti tw tn ++ [((ad 7), .inl (cA 4, 1, .inr (.inl g))), ((ad 8), .inl (cA 5, 1, .inr (.inr (.inr (.inl gd)))))])) (Ec := (k_X7_clear cA (ad 0) (aw 0) (ab 0) (ak 0) (ad 1) (ad 3) (aw 1) (aw 8) (aw 14) (aw 20) (aw 2) (aw 3) (aw 4) (aw 5) (aw 6) (aw 7) (aw 9) (aw 10) (aw 11) (aw 12) (aw 13) (aw 15) (aw 16) (aw 17) (aw 18) (aw 19) (aw 21) (aw 22) (aw 23) (aw 24) (ad 2) isK lre lpo (nI 0) (nI 0) (nI 0) (nI 0) (nI 0) (nI 0) (nI 0) (nI x))) (Er := Er1) (B := (hblk cA hA hW)) (R := ((E8 cA (ad 9) (ad 10) (ad 11) (ad 12) (ad 13) (ad 14) (ad 15) (ad 16) gA thr (nI c) rea rpo isS (nI l_) ra rwr n sv as ch bu nu) ++ gblk cA gA gW)) (pick (n := 82) [0, 1, 2, 9, 14, 20, 74] [3, 4, 5, 6, 7, 8, 10, 11, 12, 13, 15, 16, 17, 18, 19, 21, 22, 23, 24, 25, 26, 27, 28, 29, 30, 31, 32, 33, 34, 35, 36, 37, 38, 39, 40, 41, 42, 43, 44, 45, 46, 47, 48, 49, 50, 51, 52, 53, 54, 55, 56, 57, 58, 59, 60, 61, 62, 63, 64, 65, 66, 67, 68, 69, 70, 71, 72, 73, 75, 76, 77, 78, 79, 80, 81] rfl (by decide +kernel) rfl (by rw [hEr1]; rfl))
  replace hP : va_P G vwCl (((E7 cA (ad 0) aw ab ak (ad 1) (ad 2) hA (ad 3) (ad 4) (ad 5) (ad 6) isK lre lpo (nI 0, nI 0, ar, fi, la, nb, pa, ro, nI 0, dp, dg, de, dd, nI 0, ek, eo, es, ef, el, nI 0, nI 0, lc, lm, lp, lr) mo B K0 (nI 0) (nI x) (nI l_) ta tc ti tw tn ++ [((ad 7), .inl (cA 4, 1, .inr (.inl g))), ((ad 8), .inl (cA 5, 1, .inr (.inr (.inr (.inl gd)))))]) ++ hblk cA hA hW) ++ ((E8 cA (ad 9) (ad 10) (ad 11) (ad 12) (ad 13) (ad 14) (ad 15) (ad 16) gA thr (nI c) rea rpo isS (nI l_) ra rwr n sv as ch bu nu) ++ gblk cA gA gW)) H1 := hj.1.perm hp2.symm
  replace hD : va_D _ (((E7 cA (ad 0) aw ab ak (ad 1) (ad 2) hA (ad 3) (ad 4) (ad 5) (ad 6) isK lre lpo (nI 0, nI 0, ar, fi, la, nb, pa, ro, nI 0, dp, dg, de, dd, nI 0, ek, eo, es, ef, el, nI 0, nI 0, lc, lm, lp, lr) mo B K0 (nI 0) (nI x) (nI l_) ta tc ti tw tn ++ [((ad 7), .inl (cA 4, 1, .inr (.inl g))), ((ad 8), .inl (cA 5, 1, .inr (.inr (.inr (.inl gd)))))]) ++ hblk cA hA hW) ++ ((E8 cA (ad 9) (ad 10) (ad 11) (ad 12) (ad 13) (ad 14) (ad 15) (ad 16) gA thr (nI c) rea rpo isS (nI l_) ra rwr n sv as ch bu nu) ++ gblk cA gA gW)) := hj.2.perm hp2.symm
  have hS := hS1
  clear hj hp hp2 hPc hDc hFc hB hk1 hEr1 hw
  generalize H1 = H at hP hS ht hz1 ⊢
  refine lv_aload_n hx hb dL_law_220 rfl (lv_at hl 3 rfl) ?_
  obtain ⟨Er2, hEr2⟩ : ∃ z, z = pk (E8 cA (ad 9) (ad 10) (ad 11) (ad 12) (ad 13) (ad 14) (ad 15) (ad 16) gA thr (nI c) rea rpo isS (nI l_) ra rwr n sv as ch bu nu) [2, 3, 4, 5, 6, 7] := ⟨_, rfl⟩
  have hp := gq_0 (E := (E8 cA (ad 9) (ad 10) (ad 11) (ad 12) (ad 13) (ad 14) (ad 15) (ad 16) gA thr (nI c) rea rpo isS (nI l_) ra rwr n sv as ch bu nu)) (Ec := (k_X8_clear cA (ad 9) (ad 10) (ad 11) (ad 12) (ad 13) (ad 14) (ad 15) (ad 16) thr (nI c) rea rpo isS (nI l_) ra rwr n)) (Er := Er2) (B := (gblk cA gA gW)) (R := ((E7 cA (ad 0) aw ab ak (ad 1) (ad 2) hA (ad 3) (ad 4) (ad 5) (ad 6) isK lre lpo (nI 0, nI 0, ar, fi, la, nb, pa, ro, nI 0, dp, dg, de, dd, nI 0, ek, eo, es, ef, el, nI 0, nI 0, lc, lm, lp, lr) mo B K0 (nI 0) (nI x) (nI l_) ta tc ti tw tn ++ [((ad 7), .inl (cA 4, 1, .inr (.inl g))), ((ad 8), .inl (cA 5, 1, .inr (.inr (.inr (.inl gd)))))]) ++ hblk cA hA hW)) (pick (n := 8) [0, 1] [2, 3, 4, 5, 6, 7] rfl (by decide +kernel) rfl hEr2.symm)
  have hPc : va_P G vwCl (k_X8_clear cA (ad 9) (ad 10) (ad 11) (ad 12) (ad 13) (ad 14) (ad 15) (ad 16) thr (nI c) rea rpo isS (nI l_) ra rwr n) H := (hP.perm hp).left
  have hDc : va_D _ (k_X8_clear cA (ad 9) (ad 10) (ad 11) (ad 12) (ad 13) (ad 14) (ad 15) (ad 16) thr (nI c) rea rpo isS (nI l_) ra rwr n) := (hD.perm hp).left
  have hFc := va_freePm hp hD hS hA0
  refine va_calli (va_runV (As := []) (rest := [.int (nI P)]) ⟨hx, hb, hml, hown, hts⟩ (c_X8_clear l G cA (ad 9) (ad 10) (ad 11) (ad 12) (ad 13) (ad 14) (ad 15) (ad 16) H.size thr (nI c) rea rpo isS (nI l_) ra rwr n _ hop2 (Option.some_ne_none _)) (cwV 0 hts gL_law_X8_clear rfl rfl rfl (by decide +kernel) ⟨Nat.le_of_ble_eq_true rfl, Nat.le_of_ble_eq_true rfl⟩) (preMV (q := (RX8, TX8, 15)) hPc hDc hK 0 rfl rfl) rfl rfl hl.1 rfl (lv_room (Nat.le_of_ble_eq_true rfl)) dL_law_221 ⟨by show _ ≤ 603072; omega, by show _ ≤ 7190634; omega⟩) hS (fun q _ h => hFc q h) hFc (fun r u t H1 locs ht hvm hw hB hz1 hk1 hS1 => ?_)
  obtain ⟨rfl, rfl⟩ := Prod.mk.inj (Option.some.inj hw)
  replace hB : va_P G vwCl (k_X8_clear cA (ad 9) (ad 10) (ad 11) (ad 12) (ad 13) (ad 14) (ad 15) (ad 16) 0 (nI 0) rea rpo isS (nI l_) ra rwr n') t.heap := hB
  rw [ht] at hB
  have hj := va_backP hp hP hD hk1 hB rfl
  have hp2 := gq_0 (E := (E8 cA (ad 9) (ad 10) (ad 11) (ad 12) (ad 13) (ad 14) (ad 15) (ad 16) gA 0 (nI 0) rea rpo isS (nI l_) ra rwr n' sv as ch bu nu)) (Ec := (k_X8_clear cA (ad 9) (ad 10) (ad 11) (ad 12) (ad 13) (ad 14) (ad 15) (ad 16) 0 (nI 0) rea rpo isS (nI l_) ra rwr n')) (Er := Er2) (B := (gblk cA gA gW)) (R := ((E7 cA (ad 0) aw ab ak (ad 1) (ad 2) hA (ad 3) (ad 4) (ad 5) (ad 6) isK lre lpo (nI 0, nI 0, ar, fi, la, nb, pa, ro, nI 0, dp, dg, de, dd, nI 0, ek, eo, es, ef, el, nI 0, nI 0, lc, lm, lp, lr) mo B K0 (nI 0) (nI x) (nI l_) ta tc ti tw tn ++ [((ad 7), .inl (cA 4, 1, .inr (.inl g))), ((ad 8), .inl (cA 5, 1, .inr (.inr (.inr (.inl gd)))))]) ++ hblk cA hA hW)) (pick (n := 8) [0, 1] [2, 3, 4, 5, 6, 7] rfl (by decide +kernel) rfl (by rw [hEr2]; rfl))
  replace hP : va_P G vwCl (((E7 cA (ad 0) aw ab ak (ad 1) (ad 2) hA (ad 3) (ad 4) (ad 5) (ad 6) isK lre lpo (nI 0, nI 0, ar, fi, la, nb, pa, ro, nI 0, dp, dg, de, dd, nI 0, ek, eo, es, ef, el, nI 0, nI 0, lc, lm, lp, lr) mo B K0 (nI 0) (nI x) (nI l_) ta tc ti tw tn ++ [((ad 7), .inl (cA 4, 1, .inr (.inl g))), ((ad 8), .inl (cA 5, 1, .inr (.inr (.inr (.inl gd)))))]) ++ hblk cA hA hW) ++ ((E8 cA (ad 9) (ad 10) (ad 11) (ad 12) (ad 13) (ad 14) (ad 15) (ad 16) gA 0 (nI 0) rea rpo isS (nI l_) ra rwr n' sv as ch bu nu) ++ gblk cA gA gW)) H1 := hj.1.perm hp2.symm
  replace hD : va_D _ (((E7 cA (ad 0) aw ab ak (ad 1) (ad 2) hA (ad 3) (ad 4) (ad 5) (ad 6) isK lre lpo (nI 0, nI 0, ar, fi, la, nb, pa, ro, nI 0, dp, dg, de, dd, nI 0, ek, eo, es, ef, el, nI 0, nI 0, lc, lm, lp, lr) mo B K0 (nI 0) (nI x) (nI l_) ta tc ti tw tn ++ [((ad 7), .inl (cA 4, 1, .inr (.inl g))), ((ad 8), .inl (cA 5, 1, .inr (.inr (.inr (.inl gd)))))]) ++ hblk cA hA hW) ++ ((E8 cA (ad 9) (ad 10) (ad 11) (ad 12) (ad 13) (ad 14) (ad 15) (ad 16) gA 0 (nI 0) rea rpo isS (nI l_) ra rwr n' sv as ch bu nu) ++ gblk cA gA gW)) := hj.2.perm hp2.symm
  have hS := hS1
  clear hj hp hp2 hPc hDc hFc hB hk1 hEr2 hw
  generalize H1 = H at hP hS ht hz1 ⊢
  refine lv_icmp_eq (tgt := 2652) hx hb dL_law_224 (by decide) (fun _ => ?_) (fun c_0 => absurd rfl c_0)
  refine W.widen (k := nn + 1) (n := kk + 6) (by omega) (by omega) ?_
  exact next _ _ _ _ ⟨0, 0, 0, 0, 0, 0, 0, x, l_, ar, fi, la, nb, pa, ro, dp, dg, de, dd, ek, eo, es, ef, el, lc, lm, lp, lr, n', hW, gW, B, K0, isK, isS, lre, rea, lpo, rpo, ta, tc, 0, ra, rwr, mo, ti, tw, tn, sv, as, ch, bu, nu, g, gd, rfl, hWC2, hHR2, hRR, hPO, hSR, hTR⟩ hP hD hS (lv_sub hl [0, 1, 2, 3, 4, 5] rfl)

set_option maxHeartbeats 16000000 in
set_option maxRecDepth 100000 in
/-- addParcel -/
theorem law_addParcel {p : Program} {l : Launch} {e : Env} {s : State} {m : MethodId} {below : List Frame} {meth : Method} {cd : Code} {b Ls : Nat} {xs : Nat → Int32} {z : Nat → Nat} {G : va_G} {cA : Nat → ClassId} {ad aw ab ak : Nat → Nat} {hA : Nat → Nat → Nat} {gA : Nat → Nat} (C0 : LC p l s m cd b Ls xs z G cA) {i nn kk : Nat} (hi : i + 4 < Ls) (hL : Ls ≤ 2560) (hn : nn + 1 ≤ 603072) (hk : kk + 6 ≤ 7190634) (next : LNext p l e s m below meth cd b G cA ad aw ab ak hA gA i (nn + 1) (kk + 6)) {ws : va_W} {H : Heap} {locs : List Loc} {ls : Array Slot} (hI : LSt cA ad aw ab ak hA gA ws) (hP : va_P G vwCl ws H) (hD : va_D (fun q : Nat => s.heap.size ≤ q) ws) (hS : va_S (fun q : Nat => s.heap.size ≤ q) s.heap H locs) (hl : lv_has ls 9 [(5, .int (nI i)), (4, .ref (ad 8)), (3, .ref (ad 7)), (2, .ref (ad 9)), (1, .ref (ad 0)), (0, .ref b)]) : W p l e room_1 s m #[Value.ref b] below meth cd H locs nn kk (lw_Z below #[Value.ref b] s) (F0 m 229 ls []) := by
  obtain ⟨hx, hb, hml, hown, hts, hX, hbl, hK, hT, hO, hfl⟩ := C0
  have hbA : ¬ (fun q : Nat => s.heap.size ≤ q) b := Nat.not_le.mpr hbl
  have hA0 : ∀ q : Nat, s.heap.size ≤ q → (fun q : Nat => s.heap.size ≤ q) q := fun _ h => h
  have h_in1 : vp_in (nI i + (1 : Int32)) Ls := by rw [show nI i + (1 : Int32) = nI (i + 1) from nI_add i 1]; exact vp_in_nI (by omega) (by omega)
  have h_in2 : vp_in (nI i + (2 : Int32)) Ls := by rw [show nI i + (2 : Int32) = nI (i + 2) from nI_add i 2]; exact vp_in_nI (by omega) (by omega)
  have h_in3 : vp_in (nI i + (3 : Int32)) Ls := by rw [show nI i + (3 : Int32) = nI (i + 3) from nI_add i 3]; exact vp_in_nI (by omega) (by omega)
  have h_in4 : vp_in (nI i + (4 : Int32)) Ls := by rw [show nI i + (4 : Int32) = nI (i + 4) from nI_add i 4]; exact vp_in_nI (by omega) (by omega)
  obtain ⟨P, D, E, L, K, dn, c, x, l_, ar, fi, la, nb, pa, ro, dp, dg, de, dd, ek, eo, es, ef, el, lc, lm, lp, lr, n, hW, gW, B, K0, isK, isS, lre, rea, lpo, rpo, ta, tc, thr, ra, rwr, mo, ti, tw, tn, sv, as, ch, bu, nu, g, gd, rfl, hWC, hHR, hRR, hPO, hSR, hTR⟩ := hI
  refine lv_aload_n hx hb dL_law_229 rfl (lv_at hl 4 rfl) ?_
  refine lv_aload_n hx hb dL_law_230 rfl (lv_at hl 5 rfl) ?_
  refine lv_iload hx hb dL_law_231 (lv_at hl 0 rfl) ?_
  refine lv_iconst (v := (1 : Int32)) hx hb dL_law_233 (by decide) ?_
  refine lv_iadd hx hb dL_law_234 ?_
  refine va_sld hx hb hX hbl hbA hS h_in1 dL_law_235 ?_
  refine lv_aload_n hx hb dL_law_236 rfl (lv_at hl 5 rfl) ?_
  refine lv_iload hx hb dL_law_237 (lv_at hl 0 rfl) ?_
  refine lv_iconst (v := (2 : Int32)) hx hb dL_law_239 (by decide) ?_
  refine lv_iadd hx hb dL_law_240 ?_
  refine va_sld hx hb hX hbl hbA hS h_in2 dL_law_241 ?_
  refine lv_aload_n hx hb dL_law_242 rfl (lv_at hl 2 rfl) ?_
  obtain ⟨k_, b_, g', P', c', x', ar', fi', la', nb', pa', ro', hW', n', gW', hop1, hop2, hpost, hWC2, hHR2⟩ := op_addParcel hWC hHR (xs (nI i + (1 : Int32)).toNatClampNeg) (xs (nI i + (2 : Int32)).toNatClampNeg) g
  obtain ⟨Er1, hEr1⟩ : ∃ z, z = pk (E7 cA (ad 0) aw ab ak (ad 1) (ad 2) hA (ad 3) (ad 4) (ad 5) (ad 6) isK lre lpo (nI dn, nI P, ar, fi, la, nb, pa, ro, nI D, dp, dg, de, dd, nI E, ek, eo, es, ef, el, nI L, nI K, lc, lm, lp, lr) mo B K0 (nI c) (nI x) (nI l_) ta tc ti tw tn ++ [((ad 7), .inl (cA 4, 1, .inr (.inl g))), ((ad 8), .inl (cA 5, 1, .inr (.inr (.inr (.inl gd)))))]) [25, 26, 27, 28, 29, 30, 31, 32, 33, 34, 35, 36, 37, 38, 39, 40, 41, 42, 43, 44, 45, 46, 47, 48, 49, 50, 51, 52, 53, 54, 55, 56, 57, 58, 59, 60, 61, 62, 63, 64, 65, 66, 67, 68, 69, 70, 71, 72, 73, 76, 77, 78, 79, 81] := ⟨_, rfl⟩
  have hp := gl_B (E := (E7 cA (ad 0) aw ab ak (ad 1) (ad 2) hA (ad 3) (ad 4) (ad 5) (ad 6) isK lre lpo (nI dn, nI P, ar, fi, la, nb, pa, ro, nI D, dp, dg, de, dd, nI E, ek, eo, es, ef, el, nI L, nI K, lc, lm, lp, lr) mo B K0 (nI c) (nI x) (nI l_) ta tc ti tw tn ++ [((ad 7), .inl (cA 4, 1, .inr (.inl g))), ((ad 8), .inl (cA 5, 1, .inr (.inr (.inr (.inl gd)))))])) (Ec := (e_L_addParcel cA (ad 0) (aw 0) (ab 0) (ak 0) (ad 1) (ad 3) (aw 1) (aw 8) (aw 14) (aw 20) (aw 2) (aw 3) (aw 4) (aw 5) (aw 6) (aw 7) (aw 9) (aw 10) (aw 11) (aw 12) (aw 13) (aw 15) (aw 16) (aw 17) (aw 18) (aw 19) (aw 21) (aw 22) (aw 23) (aw 24) (ad 2) (ad 7) isK lre lpo (nI dn) (nI P) ar fi la nb pa ro (nI D) dp dg de dd (nI E) ek eo es ef el (nI L) (nI K) lc lm lp lr (nI c) (nI x) g hA)) (Er := Er1) (B := (hblk cA hA hW)) (R := ((E8 cA (ad 9) (ad 10) (ad 11) (ad 12) (ad 13) (ad 14) (ad 15) (ad 16) gA thr (nI c) rea rpo isS (nI l_) ra rwr n sv as ch bu nu) ++ gblk cA gA gW)) (pick (n := 82) [0, 1, 2, 3, 4, 5, 6, 7, 8, 9, 10, 11, 12, 13, 14, 15, 16, 17, 18, 19, 20, 21, 22, 23, 24, 74, 75, 80] [25, 26, 27, 28, 29, 30, 31, 32, 33, 34, 35, 36, 37, 38, 39, 40, 41, 42, 43, 44, 45, 46, 47, 48, 49, 50, 51, 52, 53, 54, 55, 56, 57, 58, 59, 60, 61, 62, 63, 64, 65, 66, 67, 68, 69, 70, 71, 72, 73, 76, 77, 78, 79, 81] rfl (by decide +kernel) rfl hEr1.symm)
  have hPc : va_P G vwCl (k_L_addParcel cA (ad 0) (aw 0) (ab 0) (ak 0) (ad 1) (ad 3) (aw 1) (aw 8) (aw 14) (aw 20) (aw 2) (aw 3) (aw 4) (aw 5) (aw 6) (aw 7) (aw 9) (aw 10) (aw 11) (aw 12) (aw 13) (aw 15) (aw 16) (aw 17) (aw 18) (aw 19) (aw 21) (aw 22) (aw 23) (aw 24) (ad 2) (ad 7) isK lre lpo (nI dn) (nI P) ar fi la nb pa ro (nI D) dp dg de dd (nI E) ek eo es ef el (nI L) (nI K) lc lm lp lr (nI c) (nI x) g hA hW) H := (hP.perm hp).left
  have hDc : va_D _ (k_L_addParcel cA (ad 0) (aw 0) (ab 0) (ak 0) (ad 1) (ad 3) (aw 1) (aw 8) (aw 14) (aw 20) (aw 2) (aw 3) (aw 4) (aw 5) (aw 6) (aw 7) (aw 9) (aw 10) (aw 11) (aw 12) (aw 13) (aw 15) (aw 16) (aw 17) (aw 18) (aw 19) (aw 21) (aw 22) (aw 23) (aw 24) (ad 2) (ad 7) isK lre lpo (nI dn) (nI P) ar fi la nb pa ro (nI D) dp dg de dd (nI E) ek eo es ef el (nI L) (nI K) lc lm lp lr (nI c) (nI x) g hA hW) := (hD.perm hp).left
  have hFc := va_freePm hp hD hS hA0
  refine va_calli (va_runS (As := [.ref (ad 0), .int (xs (nI i + (1 : Int32)).toNatClampNeg), .int (xs (nI i + (2 : Int32)).toNatClampNeg), .ref (ad 7)]) (rest := []) ⟨hx, hb, hml, hown, hts⟩ (c_L_addParcel l hfl z G cA (ad 0) (aw 0) (ab 0) (ak 0) (ad 1) (ad 3) (aw 1) (aw 8) (aw 14) (aw 20) (aw 2) (aw 3) (aw 4) (aw 5) (aw 6) (aw 7) (aw 9) (aw 10) (aw 11) (aw 12) (aw 13) (aw 15) (aw 16) (aw 17) (aw 18) (aw 19) (aw 21) (aw 22) (aw 23) (aw 24) (ad 2) (ad 7) H.size (xs (nI i + (1 : Int32)).toNatClampNeg) (xs (nI i + (2 : Int32)).toNatClampNeg) isK lre lpo (nI dn) (nI P) ar fi la nb pa ro (nI D) dp dg de dd (nI E) ek eo es ef el (nI L) (nI K) lc lm lp lr (nI c) (nI x) g hA hW _ hop1 (Option.some_ne_none _)) (va_cwS 4 hts gL_law_L_addParcel rfl rfl rfl (by decide +kernel) ⟨Nat.le_of_ble_eq_true rfl, Nat.le_of_ble_eq_true rfl⟩) (preMSo hPc hDc hK hT hO hS hFc) rfl rfl hl.1 rfl (lv_room (Nat.le_of_ble_eq_true rfl)) dL_law_243 ⟨hn, hk⟩) hS (fun q _ h => hFc q h) hFc (fun r u t H1 locs ht hvm hw hB hz1 hk1 hS1 => ?_)
  obtain ⟨rfl, rfl⟩ := Prod.mk.inj (Option.some.inj hw)
  replace hB : va_P G vwCl (k_L_addParcel cA (ad 0) (aw 0) (ab 0) (ak 0) (ad 1) (ad 3) (aw 1) (aw 8) (aw 14) (aw 20) (aw 2) (aw 3) (aw 4) (aw 5) (aw 6) (aw 7) (aw 9) (aw 10) (aw 11) (aw 12) (aw 13) (aw 15) (aw 16) (aw 17) (aw 18) (aw 19) (aw 21) (aw 22) (aw 23) (aw 24) (ad 2) (ad 7) isK lre lpo (nI dn) (nI P') ar' fi' la' nb' pa' ro' (nI D) dp dg de dd (nI E) ek eo es ef el (nI L) (nI K) lc lm lp lr (nI c') (nI x') g' hA hW') t.heap := hB
  rw [ht] at hB
  have hj := va_backP hp hP hD hk1 hB (ad_app rfl hblk_addr)
  have hp2 := gl_B (E := (E7 cA (ad 0) aw ab ak (ad 1) (ad 2) hA (ad 3) (ad 4) (ad 5) (ad 6) isK lre lpo (nI dn, nI P', ar', fi', la', nb', pa', ro', nI D, dp, dg, de, dd, nI E, ek, eo, es, ef, el, nI L, nI K, lc, lm, lp, lr) mo B K0 (nI c') (nI x') (nI l_) ta tc ti tw tn ++ [((ad 7), .inl (cA 4, 1, .inr (.inl g'))), ((ad 8), .inl (cA 5, 1, .inr (.inr (.inr (.inl gd)))))])) (Ec := (e_L_addParcel cA (ad 0) (aw 0) (ab 0) (ak 0) (ad 1) (ad 3) (aw 1) (aw 8) (aw 14) (aw 20) (aw 2) (aw 3) (aw 4) (aw 5) (aw 6) (aw 7) (aw 9) (aw 10) (aw 11) (aw 12) (aw 13) (aw 15) (aw 16) (aw 17) (aw 18) (aw 19) (aw 21) (aw 22) (aw 23) (aw 24) (ad 2) (ad 7) isK lre lpo (nI dn) (nI P') ar' fi' la' nb' pa' ro' (nI D) dp dg de dd (nI E) ek eo es ef el (nI L) (nI K) lc lm lp lr (nI c') (nI x') g' hA)) (Er := Er1) (B := (hblk cA hA hW')) (R := ((E8 cA (ad 9) (ad 10) (ad 11) (ad 12) (ad 13) (ad 14) (ad 15) (ad 16) gA thr (nI c) rea rpo isS (nI l_) ra rwr n sv as ch bu nu) ++ gblk cA gA gW)) (pick (n := 82) [0, 1, 2, 3, 4, 5, 6, 7, 8, 9, 10, 11, 12, 13, 14, 15, 16, 17, 18, 19, 20, 21, 22, 23, 24, 74, 75, 80] [25, 26, 27, 28, 29, 30, 31, 32, 33, 34, 35, 36, 37, 38, 39, 40, 41, 42, 43, 44, 45, 46, 47, 48, 49, 50, 51, 52, 53, 54, 55, 56, 57, 58, 59, 60, 61, 62, 63, 64, 65, 66, 67, 68, 69, 70, 71, 72, 73, 76, 77, 78, 79, 81] rfl (by decide +kernel) rfl (by rw [hEr1]; rfl))
  replace hP : va_P G vwCl (((E7 cA (ad 0) aw ab ak (ad 1) (ad 2) hA (ad 3) (ad 4) (ad 5) (ad 6) isK lre lpo (nI dn, nI P', ar', fi', la', nb', pa', ro', nI D, dp, dg, de, dd, nI E, ek, eo, es, ef, el, nI L, nI K, lc, lm, lp, lr) mo B K0 (nI c') (nI x') (nI l_) ta tc ti tw tn ++ [((ad 7), .inl (cA 4, 1, .inr (.inl g'))), ((ad 8), .inl (cA 5, 1, .inr (.inr (.inr (.inl gd)))))]) ++ hblk cA hA hW') ++ ((E8 cA (ad 9) (ad 10) (ad 11) (ad 12) (ad 13) (ad 14) (ad 15) (ad 16) gA thr (nI c) rea rpo isS (nI l_) ra rwr n sv as ch bu nu) ++ gblk cA gA gW)) H1 := hj.1.perm hp2.symm
  replace hD : va_D _ (((E7 cA (ad 0) aw ab ak (ad 1) (ad 2) hA (ad 3) (ad 4) (ad 5) (ad 6) isK lre lpo (nI dn, nI P', ar', fi', la', nb', pa', ro', nI D, dp, dg, de, dd, nI E, ek, eo, es, ef, el, nI L, nI K, lc, lm, lp, lr) mo B K0 (nI c') (nI x') (nI l_) ta tc ti tw tn ++ [((ad 7), .inl (cA 4, 1, .inr (.inl g'))), ((ad 8), .inl (cA 5, 1, .inr (.inr (.inr (.inl gd)))))]) ++ hblk cA hA hW') ++ ((E8 cA (ad 9) (ad 10) (ad 11) (ad 12) (ad 13) (ad 14) (ad 15) (ad 16) gA thr (nI c) rea rpo isS (nI l_) ra rwr n sv as ch bu nu) ++ gblk cA gA gW)) := hj.2.perm hp2.symm
  have hS := hS1
  clear hj hp hp2 hPc hDc hFc hB hk1 hEr1 hw
  generalize H1 = H at hP hS ht hz1 ⊢
  refine lv_istore (lv' := [(6, .int k_), (5, .int (nI i)), (4, .ref (ad 8)), (3, .ref (ad 7)), (2, .ref (ad 9)), (1, .ref (ad 0)), (0, .ref b)]) hx hb dL_law_246 hl (by decide) rfl (fun ls hl => ?_)
  refine lv_aload_n hx hb dL_law_248 rfl (lv_at hl 4 rfl) ?_
  refine lv_aload_n hx hb dL_law_249 rfl (lv_at hl 6 rfl) ?_
  refine lv_iload hx hb dL_law_250 (lv_at hl 1 rfl) ?_
  refine lv_iconst (v := (1 : Int32)) hx hb dL_law_252 (by decide) ?_
  refine lv_iadd hx hb dL_law_253 ?_
  refine va_sld hx hb hX hbl hbA hS h_in1 dL_law_254 ?_
  refine lv_aload_n hx hb dL_law_255 rfl (lv_at hl 6 rfl) ?_
  refine lv_iload hx hb dL_law_256 (lv_at hl 1 rfl) ?_
  refine lv_iconst (v := (2 : Int32)) hx hb dL_law_258 (by decide) ?_
  refine lv_iadd hx hb dL_law_259 ?_
  refine va_sld hx hb hX hbl hbA hS h_in2 dL_law_260 ?_
  obtain ⟨Er2, hEr2⟩ : ∃ z, z = pk (E8 cA (ad 9) (ad 10) (ad 11) (ad 12) (ad 13) (ad 14) (ad 15) (ad 16) gA thr (nI c) rea rpo isS (nI l_) ra rwr n sv as ch bu nu) [2, 3, 5, 6, 7] := ⟨_, rfl⟩
  have hp := gq_B (E := (E8 cA (ad 9) (ad 10) (ad 11) (ad 12) (ad 13) (ad 14) (ad 15) (ad 16) gA thr (nI c) rea rpo isS (nI l_) ra rwr n sv as ch bu nu)) (Ec := (e_X8_addParcel cA (ad 9) (ad 10) (ad 11) (ad 12) (ad 13) (ad 14) (ad 15) (ad 16) thr (nI c) rea rpo isS (nI l_) ra rwr n gA)) (Er := Er2) (B := (gblk cA gA gW)) (R := ((E7 cA (ad 0) aw ab ak (ad 1) (ad 2) hA (ad 3) (ad 4) (ad 5) (ad 6) isK lre lpo (nI dn, nI P', ar', fi', la', nb', pa', ro', nI D, dp, dg, de, dd, nI E, ek, eo, es, ef, el, nI L, nI K, lc, lm, lp, lr) mo B K0 (nI c') (nI x') (nI l_) ta tc ti tw tn ++ [((ad 7), .inl (cA 4, 1, .inr (.inl g'))), ((ad 8), .inl (cA 5, 1, .inr (.inr (.inr (.inl gd)))))]) ++ hblk cA hA hW')) (pick (n := 8) [0, 1, 4] [2, 3, 5, 6, 7] rfl (by decide +kernel) rfl hEr2.symm)
  have hPc : va_P G vwCl (k_X8_addParcel cA (ad 9) (ad 10) (ad 11) (ad 12) (ad 13) (ad 14) (ad 15) (ad 16) thr (nI c) rea rpo isS (nI l_) ra rwr n gA gW) H := (hP.perm hp).left
  have hDc : va_D _ (k_X8_addParcel cA (ad 9) (ad 10) (ad 11) (ad 12) (ad 13) (ad 14) (ad 15) (ad 16) thr (nI c) rea rpo isS (nI l_) ra rwr n gA gW) := (hD.perm hp).left
  have hFc := va_freePm hp hD hS hA0
  refine va_calli (va_runV (As := [.int (xs (nI i + (1 : Int32)).toNatClampNeg), .int (xs (nI i + (2 : Int32)).toNatClampNeg)]) (rest := []) ⟨hx, hb, hml, hown, hts⟩ (c_X8_addParcel l G cA (ad 9) (ad 10) (ad 11) (ad 12) (ad 13) (ad 14) (ad 15) (ad 16) H.size (xs (nI i + (1 : Int32)).toNatClampNeg) (xs (nI i + (2 : Int32)).toNatClampNeg) thr (nI c) rea rpo isS (nI l_) ra rwr n gA gW _ hop2 (Option.some_ne_none _)) (cwV 2 hts gL_law_X8_addParcel rfl rfl rfl (by decide +kernel) ⟨Nat.le_of_ble_eq_true rfl, Nat.le_of_ble_eq_true rfl⟩) (preMV (q := (RX8, TX8, 15)) hPc hDc hK 0 rfl rfl) rfl rfl hl.1 rfl (lv_room (Nat.le_of_ble_eq_true rfl)) dL_law_261 ⟨by show _ ≤ 603072; omega, by show _ ≤ 7190634; omega⟩) hS (fun q _ h => hFc q h) hFc (fun r u t H1 locs ht hvm hw hB hz1 hk1 hS1 => ?_)
  obtain ⟨rfl, rfl⟩ := Prod.mk.inj (Option.some.inj hw)
  replace hB : va_P G vwCl (k_X8_addParcel cA (ad 9) (ad 10) (ad 11) (ad 12) (ad 13) (ad 14) (ad 15) (ad 16) k_ (nI c') rea rpo isS (nI l_) ra rwr n' gA gW') t.heap := hB
  rw [ht] at hB
  have hj := va_backP hp hP hD hk1 hB (ad_app rfl gblk_addr)
  have hp2 := gq_B (E := (E8 cA (ad 9) (ad 10) (ad 11) (ad 12) (ad 13) (ad 14) (ad 15) (ad 16) gA k_ (nI c') rea rpo isS (nI l_) ra rwr n' sv as ch bu nu)) (Ec := (e_X8_addParcel cA (ad 9) (ad 10) (ad 11) (ad 12) (ad 13) (ad 14) (ad 15) (ad 16) k_ (nI c') rea rpo isS (nI l_) ra rwr n' gA)) (Er := Er2) (B := (gblk cA gA gW')) (R := ((E7 cA (ad 0) aw ab ak (ad 1) (ad 2) hA (ad 3) (ad 4) (ad 5) (ad 6) isK lre lpo (nI dn, nI P', ar', fi', la', nb', pa', ro', nI D, dp, dg, de, dd, nI E, ek, eo, es, ef, el, nI L, nI K, lc, lm, lp, lr) mo B K0 (nI c') (nI x') (nI l_) ta tc ti tw tn ++ [((ad 7), .inl (cA 4, 1, .inr (.inl g'))), ((ad 8), .inl (cA 5, 1, .inr (.inr (.inr (.inl gd)))))]) ++ hblk cA hA hW')) (pick (n := 8) [0, 1, 4] [2, 3, 5, 6, 7] rfl (by decide +kernel) rfl (by rw [hEr2]; rfl))
  replace hP : va_P G vwCl (((E7 cA (ad 0) aw ab ak (ad 1) (ad 2) hA (ad 3) (ad 4) (ad 5) (ad 6) isK lre lpo (nI dn, nI P', ar', fi', la', nb', pa', ro', nI D, dp, dg, de, dd, nI E, ek, eo, es, ef, el, nI L, nI K, lc, lm, lp, lr) mo B K0 (nI c') (nI x') (nI l_) ta tc ti tw tn ++ [((ad 7), .inl (cA 4, 1, .inr (.inl g'))), ((ad 8), .inl (cA 5, 1, .inr (.inr (.inr (.inl gd)))))]) ++ hblk cA hA hW') ++ ((E8 cA (ad 9) (ad 10) (ad 11) (ad 12) (ad 13) (ad 14) (ad 15) (ad 16) gA k_ (nI c') rea rpo isS (nI l_) ra rwr n' sv as ch bu nu) ++ gblk cA gA gW')) H1 := hj.1.perm hp2.symm
  replace hD : va_D _ (((E7 cA (ad 0) aw ab ak (ad 1) (ad 2) hA (ad 3) (ad 4) (ad 5) (ad 6) isK lre lpo (nI dn, nI P', ar', fi', la', nb', pa', ro', nI D, dp, dg, de, dd, nI E, ek, eo, es, ef, el, nI L, nI K, lc, lm, lp, lr) mo B K0 (nI c') (nI x') (nI l_) ta tc ti tw tn ++ [((ad 7), .inl (cA 4, 1, .inr (.inl g'))), ((ad 8), .inl (cA 5, 1, .inr (.inr (.inr (.inl gd)))))]) ++ hblk cA hA hW') ++ ((E8 cA (ad 9) (ad 10) (ad 11) (ad 12) (ad 13) (ad 14) (ad 15) (ad 16) gA k_ (nI c') rea rpo isS (nI l_) ra rwr n' sv as ch bu nu) ++ gblk cA gA gW')) := hj.2.perm hp2.symm
  have hS := hS1
  clear hj hp hp2 hPc hDc hFc hB hk1 hEr2 hw
  generalize H1 = H at hP hS ht hz1 ⊢
  refine lv_istore (lv' := [(7, .int b_), (6, .int k_), (5, .int (nI i)), (4, .ref (ad 8)), (3, .ref (ad 7)), (2, .ref (ad 9)), (1, .ref (ad 0)), (0, .ref b)]) hx hb dL_law_264 hl (by decide) rfl (fun ls hl => ?_)
  refine lv_aload_n hx hb dL_law_266 rfl (lv_at hl 5 rfl) ?_
  refine vp_callSi (va_Run.run (va_runV (As := []) (rest := []) ⟨hx, hb, hml, hown, hts⟩ (c_X8_thrown l G cA (ad 9) (ad 10) (ad 11) (ad 12) (ad 13) (ad 14) (ad 15) (ad 16) k_ (nI c') rea rpo isS (nI l_) ra rwr _ (rfl : m_X8_thrown k_ = some k_) (Option.some_ne_none _)) (cwV 0 hts gL_law_X8_thrown rfl rfl rfl (by decide +kernel) ⟨Nat.le_of_ble_eq_true rfl, Nat.le_of_ble_eq_true rfl⟩) (preRV (q := (RX8, TX8, 15)) (hP.right.left.sub [0] rfl) hK 0 rfl rfl) rfl rfl hl.1 rfl (lv_room (Nat.le_of_ble_eq_true rfl)) dL_law_267 ⟨Nat.zero_le _, Nat.zero_le _⟩)) (fun r hw => ?_)
  obtain rfl := Option.some.inj hw
  refine lv_iload hx hb dL_law_270 (lv_at hl 1 rfl) ?_
  refine lv_icmp_eq (tgt := 277) hx hb dL_law_272 (by decide) (fun _ => ?_) (fun c_0 => absurd rfl c_0)
  refine lv_iload hx hb dL_law_277 (lv_at hl 1 rfl) ?_
  refine lv_if_ne (tgt := 294) hx hb dL_law_279 (by decide) (fun c_3 => ?_) (fun c_3 => ?_)
  · refine lv_goto (tgt := 2652) hx hb dL_law_294 (by decide) ?_
    exact next _ _ _ _ ⟨P', D, E, L, K, dn, c', x', l_, ar', fi', la', nb', pa', ro', dp, dg, de, dd, ek, eo, es, ef, el, lc, lm, lp, lr, n', hW', gW', B, K0, isK, isS, lre, rea, lpo, rpo, ta, tc, k_, ra, rwr, mo, ti, tw, tn, sv, as, ch, bu, nu, g', gd, rfl, hWC2, hHR2, hRR, hPO, hSR, hTR⟩ hP hD hS (lv_sub hl [2, 3, 4, 5, 6, 7] rfl)
  · have hpost0 := hpost c_3
    refine lv_aload_n hx hb dL_law_282 rfl (lv_at hl 4 rfl) ?_
    refine lv_iconst (v := (0 : Int32)) hx hb dL_law_283 (by decide) ?_
    refine va_lald hx hb hK.1 hP 80 4 rfl rfl (by decide) dL_law_284 ?_
    refine lv_iload hx hb dL_law_285 (lv_at hl 0 rfl) ?_
    refine lv_i2l hx hb dL_law_287 rfl ?_
    refine W.lcmp hx hb dL_law_288 ?_
    refine lv_if_eq (tgt := 294) hx hb dL_law_289 (by decide) (fun _ => ?_) (fun c_0 => absurd (by rw [show g' (0 : Int32).toNatClampNeg = b_.toInt64 from hpost0]; exact cmp_self _) c_0)
    refine lv_goto (tgt := 2652) hx hb dL_law_294 (by decide) ?_
    exact next _ _ _ _ ⟨P', D, E, L, K, dn, c', x', l_, ar', fi', la', nb', pa', ro', dp, dg, de, dd, ek, eo, es, ef, el, lc, lm, lp, lr, n', hW', gW', B, K0, isK, isS, lre, rea, lpo, rpo, ta, tc, k_, ra, rwr, mo, ti, tw, tn, sv, as, ch, bu, nu, g', gd, rfl, hWC2, hHR2, hRR, hPO, hSR, hTR⟩ hP hD hS (lv_sub hl [2, 3, 4, 5, 6, 7] rfl)

set_option maxHeartbeats 16000000 in
set_option maxRecDepth 100000 in
/-- border -/
theorem law_border {p : Program} {l : Launch} {e : Env} {s : State} {m : MethodId} {below : List Frame} {meth : Method} {cd : Code} {b Ls : Nat} {xs : Nat → Int32} {z : Nat → Nat} {G : va_G} {cA : Nat → ClassId} {ad aw ab ak : Nat → Nat} {hA : Nat → Nat → Nat} {gA : Nat → Nat} (C0 : LC p l s m cd b Ls xs z G cA) {i nn kk : Nat} (hi : i + 4 < Ls) (hL : Ls ≤ 2560) (hn : nn + 1 ≤ 603072) (hk : kk + 6 ≤ 7190634) (next : LNext p l e s m below meth cd b G cA ad aw ab ak hA gA i (nn + 1) (kk + 6)) {ws : va_W} {H : Heap} {locs : List Loc} {ls : Array Slot} (hI : LSt cA ad aw ab ak hA gA ws) (hP : va_P G vwCl ws H) (hD : va_D (fun q : Nat => s.heap.size ≤ q) ws) (hS : va_S (fun q : Nat => s.heap.size ≤ q) s.heap H locs) (hl : lv_has ls 9 [(5, .int (nI i)), (4, .ref (ad 8)), (3, .ref (ad 7)), (2, .ref (ad 9)), (1, .ref (ad 0)), (0, .ref b)]) : W p l e room_1 s m #[Value.ref b] below meth cd H locs nn kk (lw_Z below #[Value.ref b] s) (F0 m 297 ls []) := by
  obtain ⟨hx, hb, hml, hown, hts, hX, hbl, hK, hT, hO, hfl⟩ := C0
  have hbA : ¬ (fun q : Nat => s.heap.size ≤ q) b := Nat.not_le.mpr hbl
  have hA0 : ∀ q : Nat, s.heap.size ≤ q → (fun q : Nat => s.heap.size ≤ q) q := fun _ h => h
  have h_in1 : vp_in (nI i + (1 : Int32)) Ls := by rw [show nI i + (1 : Int32) = nI (i + 1) from nI_add i 1]; exact vp_in_nI (by omega) (by omega)
  have h_in2 : vp_in (nI i + (2 : Int32)) Ls := by rw [show nI i + (2 : Int32) = nI (i + 2) from nI_add i 2]; exact vp_in_nI (by omega) (by omega)
  have h_in3 : vp_in (nI i + (3 : Int32)) Ls := by rw [show nI i + (3 : Int32) = nI (i + 3) from nI_add i 3]; exact vp_in_nI (by omega) (by omega)
  have h_in4 : vp_in (nI i + (4 : Int32)) Ls := by rw [show nI i + (4 : Int32) = nI (i + 4) from nI_add i 4]; exact vp_in_nI (by omega) (by omega)
  obtain ⟨P, D, E, L, K, dn, c, x, l_, ar, fi, la, nb, pa, ro, dp, dg, de, dd, ek, eo, es, ef, el, lc, lm, lp, lr, n, hW, gW, B, K0, isK, isS, lre, rea, lpo, rpo, ta, tc, thr, ra, rwr, mo, ti, tw, tn, sv, as, ch, bu, nu, g, gd, rfl, hWC, hHR, hRR, hPO, hSR, hTR⟩ := hI
  refine lv_aload_n hx hb dL_law_297 rfl (lv_at hl 4 rfl) ?_
  refine lv_aload_n hx hb dL_law_298 rfl (lv_at hl 5 rfl) ?_
  refine lv_iload hx hb dL_law_299 (lv_at hl 0 rfl) ?_
  refine lv_iconst (v := (1 : Int32)) hx hb dL_law_301 (by decide) ?_
  refine lv_iadd hx hb dL_law_302 ?_
  refine va_sld hx hb hX hbl hbA hS h_in1 dL_law_303 ?_
  refine lv_aload_n hx hb dL_law_304 rfl (lv_at hl 5 rfl) ?_
  refine lv_iload hx hb dL_law_305 (lv_at hl 0 rfl) ?_
  refine lv_iconst (v := (2 : Int32)) hx hb dL_law_307 (by decide) ?_
  refine lv_iadd hx hb dL_law_308 ?_
  refine va_sld hx hb hX hbl hbA hS h_in2 dL_law_309 ?_
  refine lv_aload_n hx hb dL_law_310 rfl (lv_at hl 5 rfl) ?_
  refine lv_iload hx hb dL_law_311 (lv_at hl 0 rfl) ?_
  refine lv_iconst (v := (3 : Int32)) hx hb dL_law_313 (by decide) ?_
  refine lv_iadd hx hb dL_law_314 ?_
  refine va_sld hx hb hX hbl hbA hS h_in3 dL_law_315 ?_
  refine lv_if_eq (tgt := 323) hx hb dL_law_316 (by decide) (fun c_1 => ?_) (fun c_1 => ?_)
  · refine lv_iconst (v := (0 : Int32)) hx hb dL_law_323 (by decide) ?_
    refine lv_aload_n hx hb dL_law_324 rfl (lv_at hl 2 rfl) ?_
    obtain ⟨k_, b_, g', c', x', nb', hW', n', gW', hop1, hop2, hpost, hWC2, hHR2⟩ := op_border hWC hHR (xs (nI i + (1 : Int32)).toNatClampNeg) (xs (nI i + (2 : Int32)).toNatClampNeg) (0 : Int32) g
    obtain ⟨Er2, hEr2⟩ : ∃ z, z = pk (E7 cA (ad 0) aw ab ak (ad 1) (ad 2) hA (ad 3) (ad 4) (ad 5) (ad 6) isK lre lpo (nI dn, nI P, ar, fi, la, nb, pa, ro, nI D, dp, dg, de, dd, nI E, ek, eo, es, ef, el, nI L, nI K, lc, lm, lp, lr) mo B K0 (nI c) (nI x) (nI l_) ta tc ti tw tn ++ [((ad 7), .inl (cA 4, 1, .inr (.inl g))), ((ad 8), .inl (cA 5, 1, .inr (.inr (.inr (.inl gd)))))]) [25, 26, 27, 28, 29, 30, 31, 32, 33, 34, 35, 36, 37, 38, 39, 40, 41, 42, 43, 44, 45, 46, 47, 48, 49, 50, 51, 52, 53, 54, 55, 56, 57, 58, 59, 60, 61, 62, 63, 64, 65, 66, 67, 68, 69, 70, 71, 72, 73, 76, 77, 78, 79, 81] := ⟨_, rfl⟩
    have hp := gl_B (E := (E7 cA (ad 0) aw ab ak (ad 1) (ad 2) hA (ad 3) (ad 4) (ad 5) (ad 6) isK lre lpo (nI dn, nI P, ar, fi, la, nb, pa, ro, nI D, dp, dg, de, dd, nI E, ek, eo, es, ef, el, nI L, nI K, lc, lm, lp, lr) mo B K0 (nI c) (nI x) (nI l_) ta tc ti tw tn ++ [((ad 7), .inl (cA 4, 1, .inr (.inl g))), ((ad 8), .inl (cA 5, 1, .inr (.inr (.inr (.inl gd)))))])) (Ec := (e_L_border cA (ad 0) (aw 0) (ab 0) (ak 0) (ad 1) (ad 3) (aw 1) (aw 8) (aw 14) (aw 20) (aw 2) (aw 3) (aw 4) (aw 5) (aw 6) (aw 7) (aw 9) (aw 10) (aw 11) (aw 12) (aw 13) (aw 15) (aw 16) (aw 17) (aw 18) (aw 19) (aw 21) (aw 22) (aw 23) (aw 24) (ad 2) (ad 7) isK lre lpo (nI dn) (nI P) ar fi la nb pa ro (nI D) dp dg de dd (nI E) ek eo es ef el (nI L) (nI K) lc lm lp lr (nI c) (nI x) g hA)) (Er := Er2) (B := (hblk cA hA hW)) (R := ((E8 cA (ad 9) (ad 10) (ad 11) (ad 12) (ad 13) (ad 14) (ad 15) (ad 16) gA thr (nI c) rea rpo isS (nI l_) ra rwr n sv as ch bu nu) ++ gblk cA gA gW)) (pick (n := 82) [0, 1, 2, 3, 4, 5, 6, 7, 8, 9, 10, 11, 12, 13, 14, 15, 16, 17, 18, 19, 20, 21, 22, 23, 24, 74, 75, 80] [25, 26, 27, 28, 29, 30, 31, 32, 33, 34, 35, 36, 37, 38, 39, 40, 41, 42, 43, 44, 45, 46, 47, 48, 49, 50, 51, 52, 53, 54, 55, 56, 57, 58, 59, 60, 61, 62, 63, 64, 65, 66, 67, 68, 69, 70, 71, 72, 73, 76, 77, 78, 79, 81] rfl (by decide +kernel) rfl hEr2.symm)
    have hPc : va_P G vwCl (k_L_border cA (ad 0) (aw 0) (ab 0) (ak 0) (ad 1) (ad 3) (aw 1) (aw 8) (aw 14) (aw 20) (aw 2) (aw 3) (aw 4) (aw 5) (aw 6) (aw 7) (aw 9) (aw 10) (aw 11) (aw 12) (aw 13) (aw 15) (aw 16) (aw 17) (aw 18) (aw 19) (aw 21) (aw 22) (aw 23) (aw 24) (ad 2) (ad 7) isK lre lpo (nI dn) (nI P) ar fi la nb pa ro (nI D) dp dg de dd (nI E) ek eo es ef el (nI L) (nI K) lc lm lp lr (nI c) (nI x) g hA hW) H := (hP.perm hp).left
    have hDc : va_D _ (k_L_border cA (ad 0) (aw 0) (ab 0) (ak 0) (ad 1) (ad 3) (aw 1) (aw 8) (aw 14) (aw 20) (aw 2) (aw 3) (aw 4) (aw 5) (aw 6) (aw 7) (aw 9) (aw 10) (aw 11) (aw 12) (aw 13) (aw 15) (aw 16) (aw 17) (aw 18) (aw 19) (aw 21) (aw 22) (aw 23) (aw 24) (ad 2) (ad 7) isK lre lpo (nI dn) (nI P) ar fi la nb pa ro (nI D) dp dg de dd (nI E) ek eo es ef el (nI L) (nI K) lc lm lp lr (nI c) (nI x) g hA hW) := (hD.perm hp).left
    have hFc := va_freePm hp hD hS hA0
    refine va_calli (va_runS (As := [.ref (ad 0), .int (xs (nI i + (1 : Int32)).toNatClampNeg), .int (xs (nI i + (2 : Int32)).toNatClampNeg), .int (0 : Int32), .ref (ad 7)]) (rest := []) ⟨hx, hb, hml, hown, hts⟩ (c_L_border l hfl z G cA (ad 0) (aw 0) (ab 0) (ak 0) (ad 1) (ad 3) (aw 1) (aw 8) (aw 14) (aw 20) (aw 2) (aw 3) (aw 4) (aw 5) (aw 6) (aw 7) (aw 9) (aw 10) (aw 11) (aw 12) (aw 13) (aw 15) (aw 16) (aw 17) (aw 18) (aw 19) (aw 21) (aw 22) (aw 23) (aw 24) (ad 2) (ad 7) H.size (xs (nI i + (1 : Int32)).toNatClampNeg) (xs (nI i + (2 : Int32)).toNatClampNeg) (0 : Int32) isK lre lpo (nI dn) (nI P) ar fi la nb pa ro (nI D) dp dg de dd (nI E) ek eo es ef el (nI L) (nI K) lc lm lp lr (nI c) (nI x) g hA hW _ hop1 (Option.some_ne_none _)) (va_cwS 5 hts gL_law_L_border rfl rfl rfl (by decide +kernel) ⟨Nat.le_of_ble_eq_true rfl, Nat.le_of_ble_eq_true rfl⟩) (preMSo hPc hDc hK hT hO hS hFc) rfl rfl hl.1 rfl (lv_room (Nat.le_of_ble_eq_true rfl)) dL_law_325 ⟨hn, hk⟩) hS (fun q _ h => hFc q h) hFc (fun r u t H1 locs ht hvm hw hB hz1 hk1 hS1 => ?_)
    obtain ⟨rfl, rfl⟩ := Prod.mk.inj (Option.some.inj hw)
    replace hB : va_P G vwCl (k_L_border cA (ad 0) (aw 0) (ab 0) (ak 0) (ad 1) (ad 3) (aw 1) (aw 8) (aw 14) (aw 20) (aw 2) (aw 3) (aw 4) (aw 5) (aw 6) (aw 7) (aw 9) (aw 10) (aw 11) (aw 12) (aw 13) (aw 15) (aw 16) (aw 17) (aw 18) (aw 19) (aw 21) (aw 22) (aw 23) (aw 24) (ad 2) (ad 7) isK lre lpo (nI dn) (nI P) ar fi la nb' pa ro (nI D) dp dg de dd (nI E) ek eo es ef el (nI L) (nI K) lc lm lp lr (nI c') (nI x') g' hA hW') t.heap := hB
    rw [ht] at hB
    have hj := va_backP hp hP hD hk1 hB (ad_app rfl hblk_addr)
    have hp2 := gl_B (E := (E7 cA (ad 0) aw ab ak (ad 1) (ad 2) hA (ad 3) (ad 4) (ad 5) (ad 6) isK lre lpo (nI dn, nI P, ar, fi, la, nb', pa, ro, nI D, dp, dg, de, dd, nI E, ek, eo, es, ef, el, nI L, nI K, lc, lm, lp, lr) mo B K0 (nI c') (nI x') (nI l_) ta tc ti tw tn ++ [((ad 7), .inl (cA 4, 1, .inr (.inl g'))), ((ad 8), .inl (cA 5, 1, .inr (.inr (.inr (.inl gd)))))])) (Ec := (e_L_border cA (ad 0) (aw 0) (ab 0) (ak 0) (ad 1) (ad 3) (aw 1) (aw 8) (aw 14) (aw 20) (aw 2) (aw 3) (aw 4) (aw 5) (aw 6) (aw 7) (aw 9) (aw 10) (aw 11) (aw 12) (aw 13) (aw 15) (aw 16) (aw 17) (aw 18) (aw 19) (aw 21) (aw 22) (aw 23) (aw 24) (ad 2) (ad 7) isK lre lpo (nI dn) (nI P) ar fi la nb' pa ro (nI D) dp dg de dd (nI E) ek eo es ef el (nI L) (nI K) lc lm lp lr (nI c') (nI x') g' hA)) (Er := Er2) (B := (hblk cA hA hW')) (R := ((E8 cA (ad 9) (ad 10) (ad 11) (ad 12) (ad 13) (ad 14) (ad 15) (ad 16) gA thr (nI c) rea rpo isS (nI l_) ra rwr n sv as ch bu nu) ++ gblk cA gA gW)) (pick (n := 82) [0, 1, 2, 3, 4, 5, 6, 7, 8, 9, 10, 11, 12, 13, 14, 15, 16, 17, 18, 19, 20, 21, 22, 23, 24, 74, 75, 80] [25, 26, 27, 28, 29, 30, 31, 32, 33, 34, 35, 36, 37, 38, 39, 40, 41, 42, 43, 44, 45, 46, 47, 48, 49, 50, 51, 52, 53, 54, 55, 56, 57, 58, 59, 60, 61, 62, 63, 64, 65, 66, 67, 68, 69, 70, 71, 72, 73, 76, 77, 78, 79, 81] rfl (by decide +kernel) rfl (by rw [hEr2]; rfl))
    replace hP : va_P G vwCl (((E7 cA (ad 0) aw ab ak (ad 1) (ad 2) hA (ad 3) (ad 4) (ad 5) (ad 6) isK lre lpo (nI dn, nI P, ar, fi, la, nb', pa, ro, nI D, dp, dg, de, dd, nI E, ek, eo, es, ef, el, nI L, nI K, lc, lm, lp, lr) mo B K0 (nI c') (nI x') (nI l_) ta tc ti tw tn ++ [((ad 7), .inl (cA 4, 1, .inr (.inl g'))), ((ad 8), .inl (cA 5, 1, .inr (.inr (.inr (.inl gd)))))]) ++ hblk cA hA hW') ++ ((E8 cA (ad 9) (ad 10) (ad 11) (ad 12) (ad 13) (ad 14) (ad 15) (ad 16) gA thr (nI c) rea rpo isS (nI l_) ra rwr n sv as ch bu nu) ++ gblk cA gA gW)) H1 := hj.1.perm hp2.symm
    replace hD : va_D _ (((E7 cA (ad 0) aw ab ak (ad 1) (ad 2) hA (ad 3) (ad 4) (ad 5) (ad 6) isK lre lpo (nI dn, nI P, ar, fi, la, nb', pa, ro, nI D, dp, dg, de, dd, nI E, ek, eo, es, ef, el, nI L, nI K, lc, lm, lp, lr) mo B K0 (nI c') (nI x') (nI l_) ta tc ti tw tn ++ [((ad 7), .inl (cA 4, 1, .inr (.inl g'))), ((ad 8), .inl (cA 5, 1, .inr (.inr (.inr (.inl gd)))))]) ++ hblk cA hA hW') ++ ((E8 cA (ad 9) (ad 10) (ad 11) (ad 12) (ad 13) (ad 14) (ad 15) (ad 16) gA thr (nI c) rea rpo isS (nI l_) ra rwr n sv as ch bu nu) ++ gblk cA gA gW)) := hj.2.perm hp2.symm
    have hS := hS1
    clear hj hp hp2 hPc hDc hFc hB hk1 hEr2 hw
    generalize H1 = H at hP hS ht hz1 ⊢
    refine lv_istore (lv' := [(6, .int k_), (5, .int (nI i)), (4, .ref (ad 8)), (3, .ref (ad 7)), (2, .ref (ad 9)), (1, .ref (ad 0)), (0, .ref b)]) hx hb dL_law_328 hl (by decide) rfl (fun ls hl => ?_)
    refine lv_aload_n hx hb dL_law_330 rfl (lv_at hl 4 rfl) ?_
    refine lv_aload_n hx hb dL_law_331 rfl (lv_at hl 6 rfl) ?_
    refine lv_iload hx hb dL_law_332 (lv_at hl 1 rfl) ?_
    refine lv_iconst (v := (1 : Int32)) hx hb dL_law_334 (by decide) ?_
    refine lv_iadd hx hb dL_law_335 ?_
    refine va_sld hx hb hX hbl hbA hS h_in1 dL_law_336 ?_
    refine lv_aload_n hx hb dL_law_337 rfl (lv_at hl 6 rfl) ?_
    refine lv_iload hx hb dL_law_338 (lv_at hl 1 rfl) ?_
    refine lv_iconst (v := (2 : Int32)) hx hb dL_law_340 (by decide) ?_
    refine lv_iadd hx hb dL_law_341 ?_
    refine va_sld hx hb hX hbl hbA hS h_in2 dL_law_342 ?_
    refine lv_aload_n hx hb dL_law_343 rfl (lv_at hl 6 rfl) ?_
    refine lv_iload hx hb dL_law_344 (lv_at hl 1 rfl) ?_
    refine lv_iconst (v := (3 : Int32)) hx hb dL_law_346 (by decide) ?_
    refine lv_iadd hx hb dL_law_347 ?_
    refine va_sld hx hb hX hbl hbA hS h_in3 dL_law_348 ?_
    refine lv_if_eq (tgt := 356) hx hb dL_law_349 (by decide) (fun _ => ?_) (fun c_0 => absurd c_1 c_0)
    refine lv_iconst (v := (0 : Int32)) hx hb dL_law_356 (by decide) ?_
    obtain ⟨Er3, hEr3⟩ : ∃ z, z = pk (E8 cA (ad 9) (ad 10) (ad 11) (ad 12) (ad 13) (ad 14) (ad 15) (ad 16) gA thr (nI c) rea rpo isS (nI l_) ra rwr n sv as ch bu nu) [2, 3, 5, 6, 7] := ⟨_, rfl⟩
    have hp := gq_B (E := (E8 cA (ad 9) (ad 10) (ad 11) (ad 12) (ad 13) (ad 14) (ad 15) (ad 16) gA thr (nI c) rea rpo isS (nI l_) ra rwr n sv as ch bu nu)) (Ec := (e_X8_border cA (ad 9) (ad 10) (ad 11) (ad 12) (ad 13) (ad 14) (ad 15) (ad 16) thr (nI c) rea rpo isS (nI l_) ra rwr n gA)) (Er := Er3) (B := (gblk cA gA gW)) (R := ((E7 cA (ad 0) aw ab ak (ad 1) (ad 2) hA (ad 3) (ad 4) (ad 5) (ad 6) isK lre lpo (nI dn, nI P, ar, fi, la, nb', pa, ro, nI D, dp, dg, de, dd, nI E, ek, eo, es, ef, el, nI L, nI K, lc, lm, lp, lr) mo B K0 (nI c') (nI x') (nI l_) ta tc ti tw tn ++ [((ad 7), .inl (cA 4, 1, .inr (.inl g'))), ((ad 8), .inl (cA 5, 1, .inr (.inr (.inr (.inl gd)))))]) ++ hblk cA hA hW')) (pick (n := 8) [0, 1, 4] [2, 3, 5, 6, 7] rfl (by decide +kernel) rfl hEr3.symm)
    have hPc : va_P G vwCl (k_X8_border cA (ad 9) (ad 10) (ad 11) (ad 12) (ad 13) (ad 14) (ad 15) (ad 16) thr (nI c) rea rpo isS (nI l_) ra rwr n gA gW) H := (hP.perm hp).left
    have hDc : va_D _ (k_X8_border cA (ad 9) (ad 10) (ad 11) (ad 12) (ad 13) (ad 14) (ad 15) (ad 16) thr (nI c) rea rpo isS (nI l_) ra rwr n gA gW) := (hD.perm hp).left
    have hFc := va_freePm hp hD hS hA0
    refine va_calli (va_runV (As := [.int (xs (nI i + (1 : Int32)).toNatClampNeg), .int (xs (nI i + (2 : Int32)).toNatClampNeg), .int (0 : Int32)]) (rest := []) ⟨hx, hb, hml, hown, hts⟩ (c_X8_border l G cA (ad 9) (ad 10) (ad 11) (ad 12) (ad 13) (ad 14) (ad 15) (ad 16) H.size (xs (nI i + (1 : Int32)).toNatClampNeg) (xs (nI i + (2 : Int32)).toNatClampNeg) (0 : Int32) thr (nI c) rea rpo isS (nI l_) ra rwr n gA gW _ hop2 (Option.some_ne_none _)) (cwV 3 hts gL_law_X8_border rfl rfl rfl (by decide +kernel) ⟨Nat.le_of_ble_eq_true rfl, Nat.le_of_ble_eq_true rfl⟩) (preMV (q := (RX8, TX8, 15)) hPc hDc hK 0 rfl rfl) rfl rfl hl.1 rfl (lv_room (Nat.le_of_ble_eq_true rfl)) dL_law_357 ⟨by show _ ≤ 603072; omega, by show _ ≤ 7190634; omega⟩) hS (fun q _ h => hFc q h) hFc (fun r u t H1 locs ht hvm hw hB hz1 hk1 hS1 => ?_)
    obtain ⟨rfl, rfl⟩ := Prod.mk.inj (Option.some.inj hw.1)
    replace hB : va_P G vwCl (k_X8_border cA (ad 9) (ad 10) (ad 11) (ad 12) (ad 13) (ad 14) (ad 15) (ad 16) k_ (nI c') rea rpo isS (nI l_) ra rwr n' gA gW') t.heap := hB
    rw [ht] at hB
    have hj := va_backP hp hP hD hk1 hB (ad_app rfl gblk_addr)
    have hp2 := gq_B (E := (E8 cA (ad 9) (ad 10) (ad 11) (ad 12) (ad 13) (ad 14) (ad 15) (ad 16) gA k_ (nI c') rea rpo isS (nI l_) ra rwr n' sv as ch bu nu)) (Ec := (e_X8_border cA (ad 9) (ad 10) (ad 11) (ad 12) (ad 13) (ad 14) (ad 15) (ad 16) k_ (nI c') rea rpo isS (nI l_) ra rwr n' gA)) (Er := Er3) (B := (gblk cA gA gW')) (R := ((E7 cA (ad 0) aw ab ak (ad 1) (ad 2) hA (ad 3) (ad 4) (ad 5) (ad 6) isK lre lpo (nI dn, nI P, ar, fi, la, nb', pa, ro, nI D, dp, dg, de, dd, nI E, ek, eo, es, ef, el, nI L, nI K, lc, lm, lp, lr) mo B K0 (nI c') (nI x') (nI l_) ta tc ti tw tn ++ [((ad 7), .inl (cA 4, 1, .inr (.inl g'))), ((ad 8), .inl (cA 5, 1, .inr (.inr (.inr (.inl gd)))))]) ++ hblk cA hA hW')) (pick (n := 8) [0, 1, 4] [2, 3, 5, 6, 7] rfl (by decide +kernel) rfl (by rw [hEr3]; rfl))
    replace hP : va_P G vwCl (((E7 cA (ad 0) aw ab ak (ad 1) (ad 2) hA (ad 3) (ad 4) (ad 5) (ad 6) isK lre lpo (nI dn, nI P, ar, fi, la, nb', pa, ro, nI D, dp, dg, de, dd, nI E, ek, eo, es, ef, el, nI L, nI K, lc, lm, lp, lr) mo B K0 (nI c') (nI x') (nI l_) ta tc ti tw tn ++ [((ad 7), .inl (cA 4, 1, .inr (.inl g'))), ((ad 8), .inl (cA 5, 1, .inr (.inr (.inr (.inl gd)))))]) ++ hblk cA hA hW') ++ ((E8 cA (ad 9) (ad 10) (ad 11) (ad 12) (ad 13) (ad 14) (ad 15) (ad 16) gA k_ (nI c') rea rpo isS (nI l_) ra rwr n' sv as ch bu nu) ++ gblk cA gA gW')) H1 := hj.1.perm hp2.symm
    replace hD : va_D _ (((E7 cA (ad 0) aw ab ak (ad 1) (ad 2) hA (ad 3) (ad 4) (ad 5) (ad 6) isK lre lpo (nI dn, nI P, ar, fi, la, nb', pa, ro, nI D, dp, dg, de, dd, nI E, ek, eo, es, ef, el, nI L, nI K, lc, lm, lp, lr) mo B K0 (nI c') (nI x') (nI l_) ta tc ti tw tn ++ [((ad 7), .inl (cA 4, 1, .inr (.inl g'))), ((ad 8), .inl (cA 5, 1, .inr (.inr (.inr (.inl gd)))))]) ++ hblk cA hA hW') ++ ((E8 cA (ad 9) (ad 10) (ad 11) (ad 12) (ad 13) (ad 14) (ad 15) (ad 16) gA k_ (nI c') rea rpo isS (nI l_) ra rwr n' sv as ch bu nu) ++ gblk cA gA gW')) := hj.2.perm hp2.symm
    have hS := hS1
    clear hj hp hp2 hPc hDc hFc hB hk1 hEr3 hw
    generalize H1 = H at hP hS ht hz1 ⊢
    refine lv_istore (lv' := [(7, .int b_), (6, .int k_), (5, .int (nI i)), (4, .ref (ad 8)), (3, .ref (ad 7)), (2, .ref (ad 9)), (1, .ref (ad 0)), (0, .ref b)]) hx hb dL_law_360 hl (by decide) rfl (fun ls hl => ?_)
    refine lv_aload_n hx hb dL_law_362 rfl (lv_at hl 5 rfl) ?_
    refine vp_callSi (va_Run.run (va_runV (As := []) (rest := []) ⟨hx, hb, hml, hown, hts⟩ (c_X8_thrown l G cA (ad 9) (ad 10) (ad 11) (ad 12) (ad 13) (ad 14) (ad 15) (ad 16) k_ (nI c') rea rpo isS (nI l_) ra rwr _ (rfl : m_X8_thrown k_ = some k_) (Option.some_ne_none _)) (cwV 0 hts gL_law_X8_thrown rfl rfl rfl (by decide +kernel) ⟨Nat.le_of_ble_eq_true rfl, Nat.le_of_ble_eq_true rfl⟩) (preRV (q := (RX8, TX8, 15)) (hP.right.left.sub [0] rfl) hK 0 rfl rfl) rfl rfl hl.1 rfl (lv_room (Nat.le_of_ble_eq_true rfl)) dL_law_363 ⟨Nat.zero_le _, Nat.zero_le _⟩)) (fun r hw => ?_)
    obtain rfl := Option.some.inj hw
    refine lv_iload hx hb dL_law_366 (lv_at hl 1 rfl) ?_
    refine lv_icmp_eq (tgt := 373) hx hb dL_law_368 (by decide) (fun _ => ?_) (fun c_0 => absurd rfl c_0)
    refine lv_iload hx hb dL_law_373 (lv_at hl 1 rfl) ?_
    refine lv_if_ne (tgt := 397) hx hb dL_law_375 (by decide) (fun c_4 => ?_) (fun c_4 => ?_)
    · refine lv_goto (tgt := 2652) hx hb dL_law_397 (by decide) ?_
      exact next _ _ _ _ ⟨P, D, E, L, K, dn, c', x', l_, ar, fi, la, nb', pa, ro, dp, dg, de, dd, ek, eo, es, ef, el, lc, lm, lp, lr, n', hW', gW', B, K0, isK, isS, lre, rea, lpo, rpo, ta, tc, k_, ra, rwr, mo, ti, tw, tn, sv, as, ch, bu, nu, g', gd, rfl, hWC2, hHR2, hRR, hPO, hSR, hTR⟩ hP hD hS (lv_sub hl [2, 3, 4, 5, 6, 7] rfl)
    · have hpost0 := hpost c_4
      refine lv_aload_n hx hb dL_law_378 rfl (lv_at hl 4 rfl) ?_
      refine lv_iconst (v := (0 : Int32)) hx hb dL_law_379 (by decide) ?_
      refine va_lald hx hb hK.1 hP 80 4 rfl rfl (by decide) dL_law_380 ?_
      refine lv_iload hx hb dL_law_381 (lv_at hl 0 rfl) ?_
      refine lv_if_eq (tgt := 390) hx hb dL_law_383 (by decide) (fun c_5 => ?_) (fun c_5 => ?_)
      · refine lv_lconst (v := (0 : Int64)) hx hb dL_law_390 (by decide) ?_
        refine W.lcmp hx hb dL_law_391 ?_
        refine lv_if_eq (tgt := 397) hx hb dL_law_392 (by decide) (fun _ => ?_) (fun c_0 => absurd (by rw [show g' (0 : Int32).toNatClampNeg = (0 : Int64) from hpost0.trans (if_pos c_5)]; exact cmp_self _) c_0)
        refine lv_goto (tgt := 2652) hx hb dL_law_397 (by decide) ?_
        exact next _ _ _ _ ⟨P, D, E, L, K, dn, c', x', l_, ar, fi, la, nb', pa, ro, dp, dg, de, dd, ek, eo, es, ef, el, lc, lm, lp, lr, n', hW', gW', B, K0, isK, isS, lre, rea, lpo, rpo, ta, tc, k_, ra, rwr, mo, ti, tw, tn, sv, as, ch, bu, nu, g', gd, rfl, hWC2, hHR2, hRR, hPO, hSR, hTR⟩ hP hD hS (lv_sub hl [2, 3, 4, 5, 6, 7] rfl)
      · refine lv_lconst (v := (1 : Int64)) hx hb dL_law_386 (by decide) ?_
        refine lv_goto (tgt := 391) hx hb dL_law_387 (by decide) ?_
        refine W.lcmp hx hb dL_law_391 ?_
        refine lv_if_eq (tgt := 397) hx hb dL_law_392 (by decide) (fun _ => ?_) (fun c_0 => absurd (by rw [show g' (0 : Int32).toNatClampNeg = (1 : Int64) from hpost0.trans (if_neg c_5)]; exact cmp_self _) c_0)
        refine lv_goto (tgt := 2652) hx hb dL_law_397 (by decide) ?_
        exact next _ _ _ _ ⟨P, D, E, L, K, dn, c', x', l_, ar, fi, la, nb', pa, ro, dp, dg, de, dd, ek, eo, es, ef, el, lc, lm, lp, lr, n', hW', gW', B, K0, isK, isS, lre, rea, lpo, rpo, ta, tc, k_, ra, rwr, mo, ti, tw, tn, sv, as, ch, bu, nu, g', gd, rfl, hWC2, hHR2, hRR, hPO, hSR, hTR⟩ hP hD hS (lv_sub hl [2, 3, 4, 5, 6, 7] rfl)
  · refine lv_iconst (v := (1 : Int32)) hx hb dL_law_319 (by decide) ?_
    refine lv_goto (tgt := 324) hx hb dL_law_320 (by decide) ?_
    refine lv_aload_n hx hb dL_law_324 rfl (lv_at hl 2 rfl) ?_
    obtain ⟨k_, b_, g', c', x', nb', hW', n', gW', hop1, hop2, hpost, hWC2, hHR2⟩ := op_border hWC hHR (xs (nI i + (1 : Int32)).toNatClampNeg) (xs (nI i + (2 : Int32)).toNatClampNeg) (1 : Int32) g
    obtain ⟨Er2, hEr2⟩ : ∃ z, z = pk (E7 cA (ad 0) aw ab ak (ad 1) (ad 2) hA (ad 3) (ad 4) (ad 5) (ad 6) isK lre lpo (nI dn, nI P, ar, fi, la, nb, pa, ro, nI D, dp, dg, de, dd, nI E, ek, eo, es, ef, el, nI L, nI K, lc, lm, lp, lr) mo B K0 (nI c) (nI x) (nI l_) ta tc ti tw tn ++ [((ad 7), .inl (cA 4, 1, .inr (.inl g))), ((ad 8), .inl (cA 5, 1, .inr (.inr (.inr (.inl gd)))))]) [25, 26, 27, 28, 29, 30, 31, 32, 33, 34, 35, 36, 37, 38, 39, 40, 41, 42, 43, 44, 45, 46, 47, 48, 49, 50, 51, 52, 53, 54, 55, 56, 57, 58, 59, 60, 61, 62, 63, 64, 65, 66, 67, 68, 69, 70, 71, 72, 73, 76, 77, 78, 79, 81] := ⟨_, rfl⟩
    have hp := gl_B (E := (E7 cA (ad 0) aw ab ak (ad 1) (ad 2) hA (ad 3) (ad 4) (ad 5) (ad 6) isK lre lpo (nI dn, nI P, ar, fi, la, nb, pa, ro, nI D, dp, dg, de, dd, nI E, ek, eo, es, ef, el, nI L, nI K, lc, lm, lp, lr) mo B K0 (nI c) (nI x) (nI l_) ta tc ti tw tn ++ [((ad 7), .inl (cA 4, 1, .inr (.inl g))), ((ad 8), .inl (cA 5, 1, .inr (.inr (.inr (.inl gd)))))])) (Ec := (e_L_border cA (ad 0) (aw 0) (ab 0) (ak 0) (ad 1) (ad 3) (aw 1) (aw 8) (aw 14) (aw 20) (aw 2) (aw 3) (aw 4) (aw 5) (aw 6) (aw 7) (aw 9) (aw 10) (aw 11) (aw 12) (aw 13) (aw 15) (aw 16) (aw 17) (aw 18) (aw 19) (aw 21) (aw 22) (aw 23) (aw 24) (ad 2) (ad 7) isK lre lpo (nI dn) (nI P) ar fi la nb pa ro (nI D) dp dg de dd (nI E) ek eo es ef el (nI L) (nI K) lc lm lp lr (nI c) (nI x) g hA)) (Er := Er2) (B := (hblk cA hA hW)) (R := ((E8 cA (ad 9) (ad 10) (ad 11) (ad 12) (ad 13) (ad 14) (ad 15) (ad 16) gA thr (nI c) rea rpo isS (nI l_) ra rwr n sv as ch bu nu) ++ gblk cA gA gW)) (pick (n := 82) [0, 1, 2, 3, 4, 5, 6, 7, 8, 9, 10, 11, 12, 13, 14, 15, 16, 17, 18, 19, 20, 21, 22, 23, 24, 74, 75, 80] [25, 26, 27, 28, 29, 30, 31, 32, 33, 34, 35, 36, 37, 38, 39, 40, 41, 42, 43, 44, 45, 46, 47, 48, 49, 50, 51, 52, 53, 54, 55, 56, 57, 58, 59, 60, 61, 62, 63, 64, 65, 66, 67, 68, 69, 70, 71, 72, 73, 76, 77, 78, 79, 81] rfl (by decide +kernel) rfl hEr2.symm)
    have hPc : va_P G vwCl (k_L_border cA (ad 0) (aw 0) (ab 0) (ak 0) (ad 1) (ad 3) (aw 1) (aw 8) (aw 14) (aw 20) (aw 2) (aw 3) (aw 4) (aw 5) (aw 6) (aw 7) (aw 9) (aw 10) (aw 11) (aw 12) (aw 13) (aw 15) (aw 16) (aw 17) (aw 18) (aw 19) (aw 21) (aw 22) (aw 23) (aw 24) (ad 2) (ad 7) isK lre lpo (nI dn) (nI P) ar fi la nb pa ro (nI D) dp dg de dd (nI E) ek eo es ef el (nI L) (nI K) lc lm lp lr (nI c) (nI x) g hA hW) H := (hP.perm hp).left
    have hDc : va_D _ (k_L_border cA (ad 0) (aw 0) (ab 0) (ak 0) (ad 1) (ad 3) (aw 1) (aw 8) (aw 14) (aw 20) (aw 2) (aw 3) (aw 4) (aw 5) (aw 6) (aw 7) (aw 9) (aw 10) (aw 11) (aw 12) (aw 13) (aw 15) (aw 16) (aw 17) (aw 18) (aw 19) (aw 21) (aw 22) (aw 23) (aw 24) (ad 2) (ad 7) isK lre lpo (nI dn) (nI P) ar fi la nb pa ro (nI D) dp dg de dd (nI E) ek eo es ef el (nI L) (nI K) lc lm lp lr (nI c) (nI x) g hA hW) := (hD.perm hp).left
    have hFc := va_freePm hp hD hS hA0
    refine va_calli (va_runS (As := [.ref (ad 0), .int (xs (nI i + (1 : Int32)).toNatClampNeg), .int (xs (nI i + (2 : Int32)).toNatClampNeg), .int (1 : Int32), .ref (ad 7)]) (rest := []) ⟨hx, hb, hml, hown, hts⟩ (c_L_border l hfl z G cA (ad 0) (aw 0) (ab 0) (ak 0) (ad 1) (ad 3) (aw 1) (aw 8) (aw 14) (aw 20) (aw 2) (aw 3) (aw 4) (aw 5) (aw 6) (aw 7) (aw 9) (aw 10) (aw 11) (aw 12) (aw 13) (aw 15) (aw 16) (aw 17) (aw 18) (aw 19) (aw 21) (aw 22) (aw 23) (aw 24) (ad 2) (ad 7) H.size (xs (nI i + (1 : Int32)).toNatClampNeg) (xs (nI i + (2 : Int32)).toNatClampNeg) (1 : Int32) isK lre lpo (nI dn) (nI P) ar fi la nb pa ro (nI D) dp dg de dd (nI E) ek eo es ef el (nI L) (nI K) lc lm lp lr (nI c) (nI x) g hA hW _ hop1 (Option.some_ne_none _)) (va_cwS 5 hts gL_law_L_border rfl rfl rfl (by decide +kernel) ⟨Nat.le_of_ble_eq_true rfl, Nat.le_of_ble_eq_true rfl⟩) (preMSo hPc hDc hK hT hO hS hFc) rfl rfl hl.1 rfl (lv_room (Nat.le_of_ble_eq_true rfl)) dL_law_325 ⟨hn, hk⟩) hS (fun q _ h => hFc q h) hFc (fun r u t H1 locs ht hvm hw hB hz1 hk1 hS1 => ?_)
    obtain ⟨rfl, rfl⟩ := Prod.mk.inj (Option.some.inj hw)
    replace hB : va_P G vwCl (k_L_border cA (ad 0) (aw 0) (ab 0) (ak 0) (ad 1) (ad 3) (aw 1) (aw 8) (aw 14) (aw 20) (aw 2) (aw 3) (aw 4) (aw 5) (aw 6) (aw 7) (aw 9) (aw 10) (aw 11) (aw 12) (aw 13) (aw 15) (aw 16) (aw 17) (aw 18) (aw 19) (aw 21) (aw 22) (aw 23) (aw 24) (ad 2) (ad 7) isK lre lpo (nI dn) (nI P) ar fi la nb' pa ro (nI D) dp dg de dd (nI E) ek eo es ef el (nI L) (nI K) lc lm lp lr (nI c') (nI x') g' hA hW') t.heap := hB
    rw [ht] at hB
    have hj := va_backP hp hP hD hk1 hB (ad_app rfl hblk_addr)
    have hp2 := gl_B (E := (E7 cA (ad 0) aw ab ak (ad 1) (ad 2) hA (ad 3) (ad 4) (ad 5) (ad 6) isK lre lpo (nI dn, nI P, ar, fi, la, nb', pa, ro, nI D, dp, dg, de, dd, nI E, ek, eo, es, ef, el, nI L, nI K, lc, lm, lp, lr) mo B K0 (nI c') (nI x') (nI l_) ta tc ti tw tn ++ [((ad 7), .inl (cA 4, 1, .inr (.inl g'))), ((ad 8), .inl (cA 5, 1, .inr (.inr (.inr (.inl gd)))))])) (Ec := (e_L_border cA (ad 0) (aw 0) (ab 0) (ak 0) (ad 1) (ad 3) (aw 1) (aw 8) (aw 14) (aw 20) (aw 2) (aw 3) (aw 4) (aw 5) (aw 6) (aw 7) (aw 9) (aw 10) (aw 11) (aw 12) (aw 13) (aw 15) (aw 16) (aw 17) (aw 18) (aw 19) (aw 21) (aw 22) (aw 23) (aw 24) (ad 2) (ad 7) isK lre lpo (nI dn) (nI P) ar fi la nb' pa ro (nI D) dp dg de dd (nI E) ek eo es ef el (nI L) (nI K) lc lm lp lr (nI c') (nI x') g' hA)) (Er := Er2) (B := (hblk cA hA hW')) (R := ((E8 cA (ad 9) (ad 10) (ad 11) (ad 12) (ad 13) (ad 14) (ad 15) (ad 16) gA thr (nI c) rea rpo isS (nI l_) ra rwr n sv as ch bu nu) ++ gblk cA gA gW)) (pick (n := 82) [0, 1, 2, 3, 4, 5, 6, 7, 8, 9, 10, 11, 12, 13, 14, 15, 16, 17, 18, 19, 20, 21, 22, 23, 24, 74, 75, 80] [25, 26, 27, 28, 29, 30, 31, 32, 33, 34, 35, 36, 37, 38, 39, 40, 41, 42, 43, 44, 45, 46, 47, 48, 49, 50, 51, 52, 53, 54, 55, 56, 57, 58, 59, 60, 61, 62, 63, 64, 65, 66, 67, 68, 69, 70, 71, 72, 73, 76, 77, 78, 79, 81] rfl (by decide +kernel) rfl (by rw [hEr2]; rfl))
    replace hP : va_P G vwCl (((E7 cA (ad 0) aw ab ak (ad 1) (ad 2) hA (ad 3) (ad 4) (ad 5) (ad 6) isK lre lpo (nI dn, nI P, ar, fi, la, nb', pa, ro, nI D, dp, dg, de, dd, nI E, ek, eo, es, ef, el, nI L, nI K, lc, lm, lp, lr) mo B K0 (nI c') (nI x') (nI l_) ta tc ti tw tn ++ [((ad 7), .inl (cA 4, 1, .inr (.inl g'))), ((ad 8), .inl (cA 5, 1, .inr (.inr (.inr (.inl gd)))))]) ++ hblk cA hA hW') ++ ((E8 cA (ad 9) (ad 10) (ad 11) (ad 12) (ad 13) (ad 14) (ad 15) (ad 16) gA thr (nI c) rea rpo isS (nI l_) ra rwr n sv as ch bu nu) ++ gblk cA gA gW)) H1 := hj.1.perm hp2.symm
    replace hD : va_D _ (((E7 cA (ad 0) aw ab ak (ad 1) (ad 2) hA (ad 3) (ad 4) (ad 5) (ad 6) isK lre lpo (nI dn, nI P, ar, fi, la, nb', pa, ro, nI D, dp, dg, de, dd, nI E, ek, eo, es, ef, el, nI L, nI K, lc, lm, lp, lr) mo B K0 (nI c') (nI x') (nI l_) ta tc ti tw tn ++ [((ad 7), .inl (cA 4, 1, .inr (.inl g'))), ((ad 8), .inl (cA 5, 1, .inr (.inr (.inr (.inl gd)))))]) ++ hblk cA hA hW') ++ ((E8 cA (ad 9) (ad 10) (ad 11) (ad 12) (ad 13) (ad 14) (ad 15) (ad 16) gA thr (nI c) rea rpo isS (nI l_) ra rwr n sv as ch bu nu) ++ gblk cA gA gW)) := hj.2.perm hp2.symm
    have hS := hS1
    clear hj hp hp2 hPc hDc hFc hB hk1 hEr2 hw
    generalize H1 = H at hP hS ht hz1 ⊢
    refine lv_istore (lv' := [(6, .int k_), (5, .int (nI i)), (4, .ref (ad 8)), (3, .ref (ad 7)), (2, .ref (ad 9)), (1, .ref (ad 0)), (0, .ref b)]) hx hb dL_law_328 hl (by decide) rfl (fun ls hl => ?_)
    refine lv_aload_n hx hb dL_law_330 rfl (lv_at hl 4 rfl) ?_
    refine lv_aload_n hx hb dL_law_331 rfl (lv_at hl 6 rfl) ?_
    refine lv_iload hx hb dL_law_332 (lv_at hl 1 rfl) ?_
    refine lv_iconst (v := (1 : Int32)) hx hb dL_law_334 (by decide) ?_
    refine lv_iadd hx hb dL_law_335 ?_
    refine va_sld hx hb hX hbl hbA hS h_in1 dL_law_336 ?_
    refine lv_aload_n hx hb dL_law_337 rfl (lv_at hl 6 rfl) ?_
    refine lv_iload hx hb dL_law_338 (lv_at hl 1 rfl) ?_
    refine lv_iconst (v := (2 : Int32)) hx hb dL_law_340 (by decide) ?_
    refine lv_iadd hx hb dL_law_341 ?_
    refine va_sld hx hb hX hbl hbA hS h_in2 dL_law_342 ?_
    refine lv_aload_n hx hb dL_law_343 rfl (lv_at hl 6 rfl) ?_
    refine lv_iload hx hb dL_law_344 (lv_at hl 1 rfl) ?_
    refine lv_iconst (v := (3 : Int32)) hx hb dL_law_346 (by decide) ?_
    refine lv_iadd hx hb dL_law_347 ?_
    refine va_sld hx hb hX hbl hbA hS h_in3 dL_law_348 ?_
    refine lv_if_eq (tgt := 356) hx hb dL_law_349 (by decide) (fun c_0 => absurd c_0 c_1) (fun _ => ?_)
    refine lv_iconst (v := (1 : Int32)) hx hb dL_law_352 (by decide) ?_
    refine lv_goto (tgt := 357) hx hb dL_law_353 (by decide) ?_
    obtain ⟨Er3, hEr3⟩ : ∃ z, z = pk (E8 cA (ad 9) (ad 10) (ad 11) (ad 12) (ad 13) (ad 14) (ad 15) (ad 16) gA thr (nI c) rea rpo isS (nI l_) ra rwr n sv as ch bu nu) [2, 3, 5, 6, 7] := ⟨_, rfl⟩
    have hp := gq_B (E := (E8 cA (ad 9) (ad 10) (ad 11) (ad 12) (ad 13) (ad 14) (ad 15) (ad 16) gA thr (nI c) rea rpo isS (nI l_) ra rwr n sv as ch bu nu)) (Ec := (e_X8_border cA (ad 9) (ad 10) (ad 11) (ad 12) (ad 13) (ad 14) (ad 15) (ad 16) thr (nI c) rea rpo isS (nI l_) ra rwr n gA)) (Er := Er3) (B := (gblk cA gA gW)) (R := ((E7 cA (ad 0) aw ab ak (ad 1) (ad 2) hA (ad 3) (ad 4) (ad 5) (ad 6) isK lre lpo (nI dn, nI P, ar, fi, la, nb', pa, ro, nI D, dp, dg, de, dd, nI E, ek, eo, es, ef, el, nI L, nI K, lc, lm, lp, lr) mo B K0 (nI c') (nI x') (nI l_) ta tc ti tw tn ++ [((ad 7), .inl (cA 4, 1, .inr (.inl g'))), ((ad 8), .inl (cA 5, 1, .inr (.inr (.inr (.inl gd)))))]) ++ hblk cA hA hW')) (pick (n := 8) [0, 1, 4] [2, 3, 5, 6, 7] rfl (by decide +kernel) rfl hEr3.symm)
    have hPc : va_P G vwCl (k_X8_border cA (ad 9) (ad 10) (ad 11) (ad 12) (ad 13) (ad 14) (ad 15) (ad 16) thr (nI c) rea rpo isS (nI l_) ra rwr n gA gW) H := (hP.perm hp).left
    have hDc : va_D _ (k_X8_border cA (ad 9) (ad 10) (ad 11) (ad 12) (ad 13) (ad 14) (ad 15) (ad 16) thr (nI c) rea rpo isS (nI l_) ra rwr n gA gW) := (hD.perm hp).left
    have hFc := va_freePm hp hD hS hA0
    refine va_calli (va_runV (As := [.int (xs (nI i + (1 : Int32)).toNatClampNeg), .int (xs (nI i + (2 : Int32)).toNatClampNeg), .int (1 : Int32)]) (rest := []) ⟨hx, hb, hml, hown, hts⟩ (c_X8_border l G cA (ad 9) (ad 10) (ad 11) (ad 12) (ad 13) (ad 14) (ad 15) (ad 16) H.size (xs (nI i + (1 : Int32)).toNatClampNeg) (xs (nI i + (2 : Int32)).toNatClampNeg) (1 : Int32) thr (nI c) rea rpo isS (nI l_) ra rwr n gA gW _ hop2 (Option.some_ne_none _)) (cwV 3 hts gL_law_X8_border rfl rfl rfl (by decide +kernel) ⟨Nat.le_of_ble_eq_true rfl, Nat.le_of_ble_eq_true rfl⟩) (preMV (q := (RX8, TX8, 15)) hPc hDc hK 0 rfl rfl) rfl rfl hl.1 rfl (lv_room (Nat.le_of_ble_eq_true rfl)) dL_law_357 ⟨by show _ ≤ 603072; omega, by show _ ≤ 7190634; omega⟩) hS (fun q _ h => hFc q h) hFc (fun r u t H1 locs ht hvm hw hB hz1 hk1 hS1 => ?_)
    obtain ⟨rfl, rfl⟩ := Prod.mk.inj (Option.some.inj hw.1)
    replace hB : va_P G vwCl (k_X8_border cA (ad 9) (ad 10) (ad 11) (ad 12) (ad 13) (ad 14) (ad 15) (ad 16) k_ (nI c') rea rpo isS (nI l_) ra rwr n' gA gW') t.heap := hB
    rw [ht] at hB
    have hj := va_backP hp hP hD hk1 hB (ad_app rfl gblk_addr)
    have hp2 := gq_B (E := (E8 cA (ad 9) (ad 10) (ad 11) (ad 12) (ad 13) (ad 14) (ad 15) (ad 16) gA k_ (nI c') rea rpo isS (nI l_) ra rwr n' sv as ch bu nu)) (Ec := (e_X8_border cA (ad 9) (ad 10) (ad 11) (ad 12) (ad 13) (ad 14) (ad 15) (ad 16) k_ (nI c') rea rpo isS (nI l_) ra rwr n' gA)) (Er := Er3) (B := (gblk cA gA gW')) (R := ((E7 cA (ad 0) aw ab ak (ad 1) (ad 2) hA (ad 3) (ad 4) (ad 5) (ad 6) isK lre lpo (nI dn, nI P, ar, fi, la, nb', pa, ro, nI D, dp, dg, de, dd, nI E, ek, eo, es, ef, el, nI L, nI K, lc, lm, lp, lr) mo B K0 (nI c') (nI x') (nI l_) ta tc ti tw tn ++ [((ad 7), .inl (cA 4, 1, .inr (.inl g'))), ((ad 8), .inl (cA 5, 1, .inr (.inr (.inr (.inl gd)))))]) ++ hblk cA hA hW')) (pick (n := 8) [0, 1, 4] [2, 3, 5, 6, 7] rfl (by decide +kernel) rfl (by rw [hEr3]; rfl))
    replace hP : va_P G vwCl (((E7 cA (ad 0) aw ab ak (ad 1) (ad 2) hA (ad 3) (ad 4) (ad 5) (ad 6) isK lre lpo (nI dn, nI P, ar, fi, la, nb', pa, ro, nI D, dp, dg, de, dd, nI E, ek, eo, es, ef, el, nI L, nI K, lc, lm, lp, lr) mo B K0 (nI c') (nI x') (nI l_) ta tc ti tw tn ++ [((ad 7), .inl (cA 4, 1, .inr (.inl g'))), ((ad 8), .inl (cA 5, 1, .inr (.inr (.inr (.inl gd)))))]) ++ hblk cA hA hW') ++ ((E8 cA (ad 9) (ad 10) (ad 11) (ad 12) (ad 13) (ad 14) (ad 15) (ad 16) gA k_ (nI c') rea rpo isS (nI l_) ra rwr n' sv as ch bu nu) ++ gblk cA gA gW')) H1 := hj.1.perm hp2.symm
    replace hD : va_D _ (((E7 cA (ad 0) aw ab ak (ad 1) (ad 2) hA (ad 3) (ad 4) (ad 5) (ad 6) isK lre lpo (nI dn, nI P, ar, fi, la, nb', pa, ro, nI D, dp, dg, de, dd, nI E, ek, eo, es, ef, el, nI L, nI K, lc, lm, lp, lr) mo B K0 (nI c') (nI x') (nI l_) ta tc ti tw tn ++ [((ad 7), .inl (cA 4, 1, .inr (.inl g'))), ((ad 8), .inl (cA 5, 1, .inr (.inr (.inr (.inl gd)))))]) ++ hblk cA hA hW') ++ ((E8 cA (ad 9) (ad 10) (ad 11) (ad 12) (ad 13) (ad 14) (ad 15) (ad 16) gA k_ (nI c') rea rpo isS (nI l_) ra rwr n' sv as ch bu nu) ++ gblk cA gA gW')) := hj.2.perm hp2.symm
    have hS := hS1
    clear hj hp hp2 hPc hDc hFc hB hk1 hEr3 hw
    generalize H1 = H at hP hS ht hz1 ⊢
    refine lv_istore (lv' := [(7, .int b_), (6, .int k_), (5, .int (nI i)), (4, .ref (ad 8)), (3, .ref (ad 7)), (2, .ref (ad 9)), (1, .ref (ad 0)), (0, .ref b)]) hx hb dL_law_360 hl (by decide) rfl (fun ls hl => ?_)
    refine lv_aload_n hx hb dL_law_362 rfl (lv_at hl 5 rfl) ?_
    refine vp_callSi (va_Run.run (va_runV (As := []) (rest := []) ⟨hx, hb, hml, hown, hts⟩ (c_X8_thrown l G cA (ad 9) (ad 10) (ad 11) (ad 12) (ad 13) (ad 14) (ad 15) (ad 16) k_ (nI c') rea rpo isS (nI l_) ra rwr _ (rfl : m_X8_thrown k_ = some k_) (Option.some_ne_none _)) (cwV 0 hts gL_law_X8_thrown rfl rfl rfl (by decide +kernel) ⟨Nat.le_of_ble_eq_true rfl, Nat.le_of_ble_eq_true rfl⟩) (preRV (q := (RX8, TX8, 15)) (hP.right.left.sub [0] rfl) hK 0 rfl rfl) rfl rfl hl.1 rfl (lv_room (Nat.le_of_ble_eq_true rfl)) dL_law_363 ⟨Nat.zero_le _, Nat.zero_le _⟩)) (fun r hw => ?_)
    obtain rfl := Option.some.inj hw
    refine lv_iload hx hb dL_law_366 (lv_at hl 1 rfl) ?_
    refine lv_icmp_eq (tgt := 373) hx hb dL_law_368 (by decide) (fun _ => ?_) (fun c_0 => absurd rfl c_0)
    refine lv_iload hx hb dL_law_373 (lv_at hl 1 rfl) ?_
    refine lv_if_ne (tgt := 397) hx hb dL_law_375 (by decide) (fun c_4 => ?_) (fun c_4 => ?_)
    · refine lv_goto (tgt := 2652) hx hb dL_law_397 (by decide) ?_
      exact next _ _ _ _ ⟨P, D, E, L, K, dn, c', x', l_, ar, fi, la, nb', pa, ro, dp, dg, de, dd, ek, eo, es, ef, el, lc, lm, lp, lr, n', hW', gW', B, K0, isK, isS, lre, rea, lpo, rpo, ta, tc, k_, ra, rwr, mo, ti, tw, tn, sv, as, ch, bu, nu, g', gd, rfl, hWC2, hHR2, hRR, hPO, hSR, hTR⟩ hP hD hS (lv_sub hl [2, 3, 4, 5, 6, 7] rfl)
    · have hpost0 := hpost c_4
      refine lv_aload_n hx hb dL_law_378 rfl (lv_at hl 4 rfl) ?_
      refine lv_iconst (v := (0 : Int32)) hx hb dL_law_379 (by decide) ?_
      refine va_lald hx hb hK.1 hP 80 4 rfl rfl (by decide) dL_law_380 ?_
      refine lv_iload hx hb dL_law_381 (lv_at hl 0 rfl) ?_
      refine lv_if_eq (tgt := 390) hx hb dL_law_383 (by decide) (fun c_5 => ?_) (fun c_5 => ?_)
      · refine lv_lconst (v := (0 : Int64)) hx hb dL_law_390 (by decide) ?_
        refine W.lcmp hx hb dL_law_391 ?_
        refine lv_if_eq (tgt := 397) hx hb dL_law_392 (by decide) (fun _ => ?_) (fun c_0 => absurd (by rw [show g' (0 : Int32).toNatClampNeg = (0 : Int64) from hpost0.trans (if_pos c_5)]; exact cmp_self _) c_0)
        refine lv_goto (tgt := 2652) hx hb dL_law_397 (by decide) ?_
        exact next _ _ _ _ ⟨P, D, E, L, K, dn, c', x', l_, ar, fi, la, nb', pa, ro, dp, dg, de, dd, ek, eo, es, ef, el, lc, lm, lp, lr, n', hW', gW', B, K0, isK, isS, lre, rea, lpo, rpo, ta, tc, k_, ra, rwr, mo, ti, tw, tn, sv, as, ch, bu, nu, g', gd, rfl, hWC2, hHR2, hRR, hPO, hSR, hTR⟩ hP hD hS (lv_sub hl [2, 3, 4, 5, 6, 7] rfl)
      · refine lv_lconst (v := (1 : Int64)) hx hb dL_law_386 (by decide) ?_
        refine lv_goto (tgt := 391) hx hb dL_law_387 (by decide) ?_
        refine W.lcmp hx hb dL_law_391 ?_
        refine lv_if_eq (tgt := 397) hx hb dL_law_392 (by decide) (fun _ => ?_) (fun c_0 => absurd (by rw [show g' (0 : Int32).toNatClampNeg = (1 : Int64) from hpost0.trans (if_neg c_5)]; exact cmp_self _) c_0)
        refine lv_goto (tgt := 2652) hx hb dL_law_397 (by decide) ?_
        exact next _ _ _ _ ⟨P, D, E, L, K, dn, c', x', l_, ar, fi, la, nb', pa, ro, dp, dg, de, dd, ek, eo, es, ef, el, lc, lm, lp, lr, n', hW', gW', B, K0, isK, isS, lre, rea, lpo, rpo, ta, tc, k_, ra, rwr, mo, ti, tw, tn, sv, as, ch, bu, nu, g', gd, rfl, hWC2, hHR2, hRR, hPO, hSR, hTR⟩ hP hD hS (lv_sub hl [2, 3, 4, 5, 6, 7] rfl)

set_option maxHeartbeats 16000000 in
set_option maxRecDepth 100000 in
/-- split -/
theorem law_split {p : Program} {l : Launch} {e : Env} {s : State} {m : MethodId} {below : List Frame} {meth : Method} {cd : Code} {b Ls : Nat} {xs : Nat → Int32} {z : Nat → Nat} {G : va_G} {cA : Nat → ClassId} {ad aw ab ak : Nat → Nat} {hA : Nat → Nat → Nat} {gA : Nat → Nat} (C0 : LC p l s m cd b Ls xs z G cA) {i nn kk : Nat} (hi : i + 4 < Ls) (hL : Ls ≤ 2560) (hn : nn + 1 ≤ 603072) (hk : kk + 6 ≤ 7190634) (next : LNext p l e s m below meth cd b G cA ad aw ab ak hA gA i (nn + 1) (kk + 6)) {ws : va_W} {H : Heap} {locs : List Loc} {ls : Array Slot} (hI : LSt cA ad aw ab ak hA gA ws) (hP : va_P G vwCl ws H) (hD : va_D (fun q : Nat => s.heap.size ≤ q) ws) (hS : va_S (fun q : Nat => s.heap.size ≤ q) s.heap H locs) (hl : lv_has ls 9 [(5, .int (nI i)), (4, .ref (ad 8)), (3, .ref (ad 7)), (2, .ref (ad 9)), (1, .ref (ad 0)), (0, .ref b)]) : W p l e room_1 s m #[Value.ref b] below meth cd H locs nn kk (lw_Z below #[Value.ref b] s) (F0 m 400 ls []) := by
  obtain ⟨hx, hb, hml, hown, hts, hX, hbl, hK, hT, hO, hfl⟩ := C0
  have hbA : ¬ (fun q : Nat => s.heap.size ≤ q) b := Nat.not_le.mpr hbl
  have hA0 : ∀ q : Nat, s.heap.size ≤ q → (fun q : Nat => s.heap.size ≤ q) q := fun _ h => h
  have h_in1 : vp_in (nI i + (1 : Int32)) Ls := by rw [show nI i + (1 : Int32) = nI (i + 1) from nI_add i 1]; exact vp_in_nI (by omega) (by omega)
  have h_in2 : vp_in (nI i + (2 : Int32)) Ls := by rw [show nI i + (2 : Int32) = nI (i + 2) from nI_add i 2]; exact vp_in_nI (by omega) (by omega)
  have h_in3 : vp_in (nI i + (3 : Int32)) Ls := by rw [show nI i + (3 : Int32) = nI (i + 3) from nI_add i 3]; exact vp_in_nI (by omega) (by omega)
  have h_in4 : vp_in (nI i + (4 : Int32)) Ls := by rw [show nI i + (4 : Int32) = nI (i + 4) from nI_add i 4]; exact vp_in_nI (by omega) (by omega)
  obtain ⟨P, D, E, L, K, dn, c, x, l_, ar, fi, la, nb, pa, ro, dp, dg, de, dd, ek, eo, es, ef, el, lc, lm, lp, lr, n, hW, gW, B, K0, isK, isS, lre, rea, lpo, rpo, ta, tc, thr, ra, rwr, mo, ti, tw, tn, sv, as, ch, bu, nu, g, gd, rfl, hWC, hHR, hRR, hPO, hSR, hTR⟩ := hI
  refine lv_aload_n hx hb dL_law_400 rfl (lv_at hl 4 rfl) ?_
  refine lv_aload_n hx hb dL_law_401 rfl (lv_at hl 5 rfl) ?_
  refine lv_iload hx hb dL_law_402 (lv_at hl 0 rfl) ?_
  refine lv_iconst (v := (1 : Int32)) hx hb dL_law_404 (by decide) ?_
  refine lv_iadd hx hb dL_law_405 ?_
  refine va_sld hx hb hX hbl hbA hS h_in1 dL_law_406 ?_
  refine lv_aload_n hx hb dL_law_407 rfl (lv_at hl 5 rfl) ?_
  refine lv_iload hx hb dL_law_408 (lv_at hl 0 rfl) ?_
  refine lv_iconst (v := (2 : Int32)) hx hb dL_law_410 (by decide) ?_
  refine lv_iadd hx hb dL_law_411 ?_
  refine va_sld hx hb hX hbl hbA hS h_in2 dL_law_412 ?_
  refine lv_aload_n hx hb dL_law_413 rfl (lv_at hl 5 rfl) ?_
  refine lv_iload hx hb dL_law_414 (lv_at hl 0 rfl) ?_
  refine lv_iconst (v := (3 : Int32)) hx hb dL_law_416 (by decide) ?_
  refine lv_iadd hx hb dL_law_417 ?_
  refine va_sld hx hb hX hbl hbA hS h_in3 dL_law_418 ?_
  refine lv_aload_n hx hb dL_law_419 rfl (lv_at hl 2 rfl) ?_
  obtain ⟨k_, b_, g', P', E', c', x', ar', fi', la', nb', pa', ro', ek', eo', es', ef', el', lp', hW', n', gW', lre', rea', hop1, hop2, hpost, hWC2, hHR2, hRR2⟩ := op_split hWC hHR hRR (xs (nI i + (1 : Int32)).toNatClampNeg) (xs (nI i + (2 : Int32)).toNatClampNeg) (xs (nI i + (3 : Int32)).toNatClampNeg) g
  obtain ⟨Er1, hEr1⟩ : ∃ z, z = pk (E7 cA (ad 0) aw ab ak (ad 1) (ad 2) hA (ad 3) (ad 4) (ad 5) (ad 6) isK lre lpo (nI dn, nI P, ar, fi, la, nb, pa, ro, nI D, dp, dg, de, dd, nI E, ek, eo, es, ef, el, nI L, nI K, lc, lm, lp, lr) mo B K0 (nI c) (nI x) (nI l_) ta tc ti tw tn ++ [((ad 7), .inl (cA 4, 1, .inr (.inl g))), ((ad 8), .inl (cA 5, 1, .inr (.inr (.inr (.inl gd)))))]) [25, 26, 27, 28, 29, 30, 31, 32, 33, 34, 35, 36, 37, 38, 39, 40, 41, 42, 43, 44, 45, 46, 47, 48, 49, 50, 51, 52, 53, 54, 55, 56, 57, 58, 59, 60, 61, 62, 63, 64, 65, 66, 67, 68, 69, 70, 71, 72, 73, 76, 77, 78, 79, 81] := ⟨_, rfl⟩
  have hp := gl_B (E := (E7 cA (ad 0) aw ab ak (ad 1) (ad 2) hA (ad 3) (ad 4) (ad 5) (ad 6) isK lre lpo (nI dn, nI P, ar, fi, la, nb, pa, ro, nI D, dp, dg, de, dd, nI E, ek, eo, es, ef, el, nI L, nI K, lc, lm, lp, lr) mo B K0 (nI c) (nI x) (nI l_) ta tc ti tw tn ++ [((ad 7), .inl (cA 4, 1, .inr (.inl g))), ((ad 8), .inl (cA 5, 1, .inr (.inr (.inr (.inl gd)))))])) (Ec := (e_L_split cA (ad 0) (aw 0) (ab 0) (ak 0) (ad 1) (ad 3) (aw 1) (aw 8) (aw 14) (aw 20) (aw 2) (aw 3) (aw 4) (aw 5) (aw 6) (aw 7) (aw 9) (aw 10) (aw 11) (aw 12) (aw 13) (aw 15) (aw 16) (aw 17) (aw 18) (aw 19) (aw 21) (aw 22) (aw 23) (aw 24) (ad 2) (ad 7) isK lre lpo (nI dn) (nI P) ar fi la nb pa ro (nI D) dp dg de dd (nI E) ek eo es ef el (nI L) (nI K) lc lm lp lr (nI c) (nI x) g hA)) (Er := Er1) (B := (hblk cA hA hW)) (R := ((E8 cA (ad 9) (ad 10) (ad 11) (ad 12) (ad 13) (ad 14) (ad 15) (ad 16) gA thr (nI c) rea rpo isS (nI l_) ra rwr n sv as ch bu nu) ++ gblk cA gA gW)) (pick (n := 82) [0, 1, 2, 3, 4, 5, 6, 7, 8, 9, 10, 11, 12, 13, 14, 15, 16, 17, 18, 19, 20, 21, 22, 23, 24, 74, 75, 80] [25, 26, 27, 28, 29, 30, 31, 32, 33, 34, 35, 36, 37, 38, 39, 40, 41, 42, 43, 44, 45, 46, 47, 48, 49, 50, 51, 52, 53, 54, 55, 56, 57, 58, 59, 60, 61, 62, 63, 64, 65, 66, 67, 68, 69, 70, 71, 72, 73, 76, 77, 78, 79, 81] rfl (by decide +kernel) rfl hEr1.symm)
  have hPc : va_P G vwCl (k_L_split cA (ad 0) (aw 0) (ab 0) (ak 0) (ad 1) (ad 3) (aw 1) (aw 8) (aw 14) (aw 20) (aw 2) (aw 3) (aw 4) (aw 5) (aw 6) (aw 7) (aw 9) (aw 10) (aw 11) (aw 12) (aw 13) (aw 15) (aw 16) (aw 17) (aw 18) (aw 19) (aw 21) (aw 22) (aw 23) (aw 24) (ad 2) (ad 7) isK lre lpo (nI dn) (nI P) ar fi la nb pa ro (nI D) dp dg de dd (nI E) ek eo es ef el (nI L) (nI K) lc lm lp lr (nI c) (nI x) g hA hW) H := (hP.perm hp).left
  have hDc : va_D _ (k_L_split cA (ad 0) (aw 0) (ab 0) (ak 0) (ad 1) (ad 3) (aw 1) (aw 8) (aw 14) (aw 20) (aw 2) (aw 3) (aw 4) (aw 5) (aw 6) (aw 7) (aw 9) (aw 10) (aw 11) (aw 12) (aw 13) (aw 15) (aw 16) (aw 17) (aw 18) (aw 19) (aw 21) (aw 22) (aw 23) (aw 24) (ad 2) (ad 7) isK lre lpo (nI dn) (nI P) ar fi la nb pa ro (nI D) dp dg de dd (nI E) ek eo es ef el (nI L) (nI K) lc lm lp lr (nI c) (nI x) g hA hW) := (hD.perm hp).left
  have hFc := va_freePm hp hD hS hA0
  refine va_calli (va_runS (As := [.ref (ad 0), .int (xs (nI i + (1 : Int32)).toNatClampNeg), .int (xs (nI i + (2 : Int32)).toNatClampNeg), .int (xs (nI i + (3 : Int32)).toNatClampNeg), .ref (ad 7)]) (rest := []) ⟨hx, hb, hml, hown, hts⟩ (c_L_split l hfl z G cA (ad 0) (aw 0) (ab 0) (ak 0) (ad 1) (ad 3) (aw 1) (aw 8) (aw 14) (aw 20) (aw 2) (aw 3) (aw 4) (aw 5) (aw 6) (aw 7) (aw 9) (aw 10) (aw 11) (aw 12) (aw 13) (aw 15) (aw 16) (aw 17) (aw 18) (aw 19) (aw 21) (aw 22) (aw 23) (aw 24) (ad 2) (ad 7) H.size (xs (nI i + (1 : Int32)).toNatClampNeg) (xs (nI i + (2 : Int32)).toNatClampNeg) (xs (nI i + (3 : Int32)).toNatClampNeg) isK lre lpo (nI dn) (nI P) ar fi la nb pa ro (nI D) dp dg de dd (nI E) ek eo es ef el (nI L) (nI K) lc lm lp lr (nI c) (nI x) g hA hW _ hop1 (Option.some_ne_none _)) (va_cwS 5 hts gL_law_L_split rfl rfl rfl (by decide +kernel) ⟨Nat.le_of_ble_eq_true rfl, Nat.le_of_ble_eq_true rfl⟩) (preMSo hPc hDc hK hT hO hS hFc) rfl rfl hl.1 rfl (lv_room (Nat.le_of_ble_eq_true rfl)) dL_law_420 ⟨hn, hk⟩) hS (fun q _ h => hFc q h) hFc (fun r u t H1 locs ht hvm hw hB hz1 hk1 hS1 => ?_)
  obtain ⟨rfl, rfl⟩ := Prod.mk.inj (Option.some.inj hw)
  replace hB : va_P G vwCl (k_L_split cA (ad 0) (aw 0) (ab 0) (ak 0) (ad 1) (ad 3) (aw 1) (aw 8) (aw 14) (aw 20) (aw 2) (aw 3) (aw 4) (aw 5) (aw 6) (aw 7) (aw 9) (aw 10) (aw 11) (aw 12) (aw 13) (aw 15) (aw 16) (aw 17) (aw 18) (aw 19) (aw 21) (aw 22) (aw 23) (aw 24) (ad 2) (ad 7) isK lre' lpo (nI dn) (nI P') ar' fi' la' nb' pa' ro' (nI D) dp dg de dd (nI E') ek' eo' es' ef' el' (nI L) (nI K) lc lm lp' lr (nI c') (nI x') g' hA hW') t.heap := hB
  rw [ht] at hB
  have hj := va_backP hp hP hD hk1 hB (ad_app rfl hblk_addr)
  have hp2 := gl_B (E := (E7 cA (ad 0) aw ab ak (ad 1) (ad 2) hA (ad 3) (ad 4) (ad 5) (ad 6) isK lre' lpo (nI dn, nI P', ar', fi', la', nb', pa', ro', nI D, dp, dg, de, dd, nI E', ek', eo', es', ef', el', nI L, nI K, lc, lm, lp', lr) mo B K0 (nI c') (nI x') (nI l_) ta tc ti tw tn ++ [((ad 7), .inl (cA 4, 1, .inr (.inl g'))), ((ad 8), .inl (cA 5, 1, .inr (.inr (.inr (.inl gd)))))])) (Ec := (e_L_split cA (ad 0) (aw 0) (ab 0) (ak 0) (ad 1) (ad 3) (aw 1) (aw 8) (aw 14) (aw 20) (aw 2) (aw 3) (aw 4) (aw 5) (aw 6) (aw 7) (aw 9) (aw 10) (aw 11) (aw 12) (aw 13) (aw 15) (aw 16) (aw 17) (aw 18) (aw 19) (aw 21) (aw 22) (aw 23) (aw 24) (ad 2) (ad 7) isK lre' lpo (nI dn) (nI P') ar' fi' la' nb' pa' ro' (nI D) dp dg de dd (nI E') ek' eo' es' ef' el' (nI L) (nI K) lc lm lp' lr (nI c') (nI x') g' hA)) (Er := Er1) (B := (hblk cA hA hW')) (R := ((E8 cA (ad 9) (ad 10) (ad 11) (ad 12) (ad 13) (ad 14) (ad 15) (ad 16) gA thr (nI c) rea rpo isS (nI l_) ra rwr n sv as ch bu nu) ++ gblk cA gA gW)) (pick (n := 82) [0, 1, 2, 3, 4, 5, 6, 7, 8, 9, 10, 11, 12, 13, 14, 15, 16, 17, 18, 19, 20, 21, 22, 23, 24, 74, 75, 80] [25, 26, 27, 28, 29, 30, 31, 32, 33, 34, 35, 36, 37, 38, 39, 40, 41, 42, 43, 44, 45, 46, 47, 48, 49, 50, 51, 52, 53, 54, 55, 56, 57, 58, 59, 60, 61, 62, 63, 64, 65, 66, 67, 68, 69, 70, 71, 72, 73, 76, 77, 78, 79, 81] rfl (by decide +kernel) rfl (by rw [hEr1]; rfl))
  replace hP : va_P G vwCl (((E7 cA (ad 0) aw ab ak (ad 1) (ad 2) hA (ad 3) (ad 4) (ad 5) (ad 6) isK lre' lpo (nI dn, nI P', ar', fi', la', nb', pa', ro', nI D, dp, dg, de, dd, nI E', ek', eo', es', ef', el', nI L, nI K, lc, lm, lp', lr) mo B K0 (nI c') (nI x') (nI l_) ta tc ti tw tn ++ [((ad 7), .inl (cA 4, 1, .inr (.inl g'))), ((ad 8), .inl (cA 5, 1, .inr (.inr (.inr (.inl gd)))))]) ++ hblk cA hA hW') ++ ((E8 cA (ad 9) (ad 10) (ad 11) (ad 12) (ad 13) (ad 14) (ad 15) (ad 16) gA thr (nI c) rea rpo isS (nI l_) ra rwr n sv as ch bu nu) ++ gblk cA gA gW)) H1 := hj.1.perm hp2.symm
  replace hD : va_D _ (((E7 cA (ad 0) aw ab ak (ad 1) (ad 2) hA (ad 3) (ad 4) (ad 5) (ad 6) isK lre' lpo (nI dn, nI P', ar', fi', la', nb', pa', ro', nI D, dp, dg, de, dd, nI E', ek', eo', es', ef', el', nI L, nI K, lc, lm, lp', lr) mo B K0 (nI c') (nI x') (nI l_) ta tc ti tw tn ++ [((ad 7), .inl (cA 4, 1, .inr (.inl g'))), ((ad 8), .inl (cA 5, 1, .inr (.inr (.inr (.inl gd)))))]) ++ hblk cA hA hW') ++ ((E8 cA (ad 9) (ad 10) (ad 11) (ad 12) (ad 13) (ad 14) (ad 15) (ad 16) gA thr (nI c) rea rpo isS (nI l_) ra rwr n sv as ch bu nu) ++ gblk cA gA gW)) := hj.2.perm hp2.symm
  have hS := hS1
  clear hj hp hp2 hPc hDc hFc hB hk1 hEr1 hw
  generalize H1 = H at hP hS ht hz1 ⊢
  refine lv_istore (lv' := [(6, .int k_), (5, .int (nI i)), (4, .ref (ad 8)), (3, .ref (ad 7)), (2, .ref (ad 9)), (1, .ref (ad 0)), (0, .ref b)]) hx hb dL_law_423 hl (by decide) rfl (fun ls hl => ?_)
  refine lv_aload_n hx hb dL_law_425 rfl (lv_at hl 4 rfl) ?_
  refine lv_aload_n hx hb dL_law_426 rfl (lv_at hl 6 rfl) ?_
  refine lv_iload hx hb dL_law_427 (lv_at hl 1 rfl) ?_
  refine lv_iconst (v := (1 : Int32)) hx hb dL_law_429 (by decide) ?_
  refine lv_iadd hx hb dL_law_430 ?_
  refine va_sld hx hb hX hbl hbA hS h_in1 dL_law_431 ?_
  refine lv_aload_n hx hb dL_law_432 rfl (lv_at hl 6 rfl) ?_
  refine lv_iload hx hb dL_law_433 (lv_at hl 1 rfl) ?_
  refine lv_iconst (v := (2 : Int32)) hx hb dL_law_435 (by decide) ?_
  refine lv_iadd hx hb dL_law_436 ?_
  refine va_sld hx hb hX hbl hbA hS h_in2 dL_law_437 ?_
  refine lv_aload_n hx hb dL_law_438 rfl (lv_at hl 6 rfl) ?_
  refine lv_iload hx hb dL_law_439 (lv_at hl 1 rfl) ?_
  refine lv_iconst (v := (3 : Int32)) hx hb dL_law_441 (by decide) ?_
  refine lv_iadd hx hb dL_law_442 ?_
  refine va_sld hx hb hX hbl hbA hS h_in3 dL_law_443 ?_
  obtain ⟨Er2, hEr2⟩ : ∃ z, z = pk (E8 cA (ad 9) (ad 10) (ad 11) (ad 12) (ad 13) (ad 14) (ad 15) (ad 16) gA thr (nI c) rea rpo isS (nI l_) ra rwr n sv as ch bu nu) [2, 3, 5, 6, 7] := ⟨_, rfl⟩
  have hp := gq_B (E := (E8 cA (ad 9) (ad 10) (ad 11) (ad 12) (ad 13) (ad 14) (ad 15) (ad 16) gA thr (nI c) rea rpo isS (nI l_) ra rwr n sv as ch bu nu)) (Ec := (e_X8_split cA (ad 9) (ad 10) (ad 11) (ad 12) (ad 13) (ad 14) (ad 15) (ad 16) thr (nI c) rea rpo isS (nI l_) ra rwr n gA)) (Er := Er2) (B := (gblk cA gA gW)) (R := ((E7 cA (ad 0) aw ab ak (ad 1) (ad 2) hA (ad 3) (ad 4) (ad 5) (ad 6) isK lre' lpo (nI dn, nI P', ar', fi', la', nb', pa', ro', nI D, dp, dg, de, dd, nI E', ek', eo', es', ef', el', nI L, nI K, lc, lm, lp', lr) mo B K0 (nI c') (nI x') (nI l_) ta tc ti tw tn ++ [((ad 7), .inl (cA 4, 1, .inr (.inl g'))), ((ad 8), .inl (cA 5, 1, .inr (.inr (.inr (.inl gd)))))]) ++ hblk cA hA hW')) (pick (n := 8) [0, 1, 4] [2, 3, 5, 6, 7] rfl (by decide +kernel) rfl hEr2.symm)
  have hPc : va_P G vwCl (k_X8_split cA (ad 9) (ad 10) (ad 11) (ad 12) (ad 13) (ad 14) (ad 15) (ad 16) thr (nI c) rea rpo isS (nI l_) ra rwr n gA gW) H := (hP.perm hp).left
  have hDc : va_D _ (k_X8_split cA (ad 9) (ad 10) (ad 11) (ad 12) (ad 13) (ad 14) (ad 15) (ad 16) thr (nI c) rea rpo isS (nI l_) ra rwr n gA gW) := (hD.perm hp).left
  have hFc := va_freePm hp hD hS hA0
  refine va_calli (va_runV (As := [.int (xs (nI i + (1 : Int32)).toNatClampNeg), .int (xs (nI i + (2 : Int32)).toNatClampNeg), .int (xs (nI i + (3 : Int32)).toNatClampNeg)]) (rest := []) ⟨hx, hb, hml, hown, hts⟩ (c_X8_split l G cA (ad 9) (ad 10) (ad 11) (ad 12) (ad 13) (ad 14) (ad 15) (ad 16) H.size (xs (nI i + (1 : Int32)).toNatClampNeg) (xs (nI i + (2 : Int32)).toNatClampNeg) (xs (nI i + (3 : Int32)).toNatClampNeg) thr (nI c) rea rpo isS (nI l_) ra rwr n gA gW _ hop2 (Option.some_ne_none _)) (cwV 3 hts gL_law_X8_split rfl rfl rfl (by decide +kernel) ⟨Nat.le_of_ble_eq_true rfl, Nat.le_of_ble_eq_true rfl⟩) (preMV (q := (RX8, TX8, 15)) hPc hDc hK 0 rfl rfl) rfl rfl hl.1 rfl (lv_room (Nat.le_of_ble_eq_true rfl)) dL_law_444 ⟨by show _ ≤ 603072; omega, by show _ ≤ 7190634; omega⟩) hS (fun q _ h => hFc q h) hFc (fun r u t H1 locs ht hvm hw hB hz1 hk1 hS1 => ?_)
  obtain ⟨rfl, rfl⟩ := Prod.mk.inj (Option.some.inj hw)
  replace hB : va_P G vwCl (k_X8_split cA (ad 9) (ad 10) (ad 11) (ad 12) (ad 13) (ad 14) (ad 15) (ad 16) k_ (nI c') rea' rpo isS (nI l_) ra rwr n' gA gW') t.heap := hB
  rw [ht] at hB
  have hj := va_backP hp hP hD hk1 hB (ad_app rfl gblk_addr)
  have hp2 := gq_B (E := (E8 cA (ad 9) (ad 10) (ad 11) (ad 12) (ad 13) (ad 14) (ad 15) (ad 16) gA k_ (nI c') rea' rpo isS (nI l_) ra rwr n' sv as ch bu nu)) (Ec := (e_X8_split cA (ad 9) (ad 10) (ad 11) (ad 12) (ad 13) (ad 14) (ad 15) (ad 16) k_ (nI c') rea' rpo isS (nI l_) ra rwr n' gA)) (Er := Er2) (B := (gblk cA gA gW')) (R := ((E7 cA (ad 0) aw ab ak (ad 1) (ad 2) hA (ad 3) (ad 4) (ad 5) (ad 6) isK lre' lpo (nI dn, nI P', ar', fi', la', nb', pa', ro', nI D, dp, dg, de, dd, nI E', ek', eo', es', ef', el', nI L, nI K, lc, lm, lp', lr) mo B K0 (nI c') (nI x') (nI l_) ta tc ti tw tn ++ [((ad 7), .inl (cA 4, 1, .inr (.inl g'))), ((ad 8), .inl (cA 5, 1, .inr (.inr (.inr (.inl gd)))))]) ++ hblk cA hA hW')) (pick (n := 8) [0, 1, 4] [2, 3, 5, 6, 7] rfl (by decide +kernel) rfl (by rw [hEr2]; rfl))
  replace hP : va_P G vwCl (((E7 cA (ad 0) aw ab ak (ad 1) (ad 2) hA (ad 3) (ad 4) (ad 5) (ad 6) isK lre' lpo (nI dn, nI P', ar', fi', la', nb', pa', ro', nI D, dp, dg, de, dd, nI E', ek', eo', es', ef', el', nI L, nI K, lc, lm, lp', lr) mo B K0 (nI c') (nI x') (nI l_) ta tc ti tw tn ++ [((ad 7), .inl (cA 4, 1, .inr (.inl g'))), ((ad 8), .inl (cA 5, 1, .inr (.inr (.inr (.inl gd)))))]) ++ hblk cA hA hW') ++ ((E8 cA (ad 9) (ad 10) (ad 11) (ad 12) (ad 13) (ad 14) (ad 15) (ad 16) gA k_ (nI c') rea' rpo isS (nI l_) ra rwr n' sv as ch bu nu) ++ gblk cA gA gW')) H1 := hj.1.perm hp2.symm
  replace hD : va_D _ (((E7 cA (ad 0) aw ab ak (ad 1) (ad 2) hA (ad 3) (ad 4) (ad 5) (ad 6) isK lre' lpo (nI dn, nI P', ar', fi', la', nb', pa', ro', nI D, dp, dg, de, dd, nI E', ek', eo', es', ef', el', nI L, nI K, lc, lm, lp', lr) mo B K0 (nI c') (nI x') (nI l_) ta tc ti tw tn ++ [((ad 7), .inl (cA 4, 1, .inr (.inl g'))), ((ad 8), .inl (cA 5, 1, .inr (.inr (.inr (.inl gd)))))]) ++ hblk cA hA hW') ++ ((E8 cA (ad 9) (ad 10) (ad 11) (ad 12) (ad 13) (ad 14) (ad 15) (ad 16) gA k_ (nI c') rea' rpo isS (nI l_) ra rwr n' sv as ch bu nu) ++ gblk cA gA gW')) := hj.2.perm hp2.symm
  have hS := hS1
  clear hj hp hp2 hPc hDc hFc hB hk1 hEr2 hw
  generalize H1 = H at hP hS ht hz1 ⊢
  refine lv_istore (lv' := [(7, .int b_), (6, .int k_), (5, .int (nI i)), (4, .ref (ad 8)), (3, .ref (ad 7)), (2, .ref (ad 9)), (1, .ref (ad 0)), (0, .ref b)]) hx hb dL_law_447 hl (by decide) rfl (fun ls hl => ?_)
  refine lv_aload_n hx hb dL_law_449 rfl (lv_at hl 5 rfl) ?_
  refine vp_callSi (va_Run.run (va_runV (As := []) (rest := []) ⟨hx, hb, hml, hown, hts⟩ (c_X8_thrown l G cA (ad 9) (ad 10) (ad 11) (ad 12) (ad 13) (ad 14) (ad 15) (ad 16) k_ (nI c') rea' rpo isS (nI l_) ra rwr _ (rfl : m_X8_thrown k_ = some k_) (Option.some_ne_none _)) (cwV 0 hts gL_law_X8_thrown rfl rfl rfl (by decide +kernel) ⟨Nat.le_of_ble_eq_true rfl, Nat.le_of_ble_eq_true rfl⟩) (preRV (q := (RX8, TX8, 15)) (hP.right.left.sub [0] rfl) hK 0 rfl rfl) rfl rfl hl.1 rfl (lv_room (Nat.le_of_ble_eq_true rfl)) dL_law_450 ⟨Nat.zero_le _, Nat.zero_le _⟩)) (fun r hw => ?_)
  obtain rfl := Option.some.inj hw
  refine lv_iload hx hb dL_law_453 (lv_at hl 1 rfl) ?_
  refine lv_icmp_eq (tgt := 460) hx hb dL_law_455 (by decide) (fun _ => ?_) (fun c_0 => absurd rfl c_0)
  refine lv_iload hx hb dL_law_460 (lv_at hl 1 rfl) ?_
  refine lv_if_ne (tgt := 477) hx hb dL_law_462 (by decide) (fun c_3 => ?_) (fun c_3 => ?_)
  · refine lv_goto (tgt := 2652) hx hb dL_law_477 (by decide) ?_
    exact next _ _ _ _ ⟨P', D, E', L, K, dn, c', x', l_, ar', fi', la', nb', pa', ro', dp, dg, de, dd, ek', eo', es', ef', el', lc, lm, lp', lr, n', hW', gW', B, K0, isK, isS, lre', rea', lpo, rpo, ta, tc, k_, ra, rwr, mo, ti, tw, tn, sv, as, ch, bu, nu, g', gd, rfl, hWC2, hHR2, hRR2, hPO, hSR, hTR⟩ hP hD hS (lv_sub hl [2, 3, 4, 5, 6, 7] rfl)
  · have hpost0 := hpost c_3
    refine lv_aload_n hx hb dL_law_465 rfl (lv_at hl 4 rfl) ?_
    refine lv_iconst (v := (0 : Int32)) hx hb dL_law_466 (by decide) ?_
    refine va_lald hx hb hK.1 hP 80 4 rfl rfl (by decide) dL_law_467 ?_
    refine lv_iload hx hb dL_law_468 (lv_at hl 0 rfl) ?_
    refine lv_i2l hx hb dL_law_470 rfl ?_
    refine W.lcmp hx hb dL_law_471 ?_
    refine lv_if_eq (tgt := 477) hx hb dL_law_472 (by decide) (fun _ => ?_) (fun c_0 => absurd (by rw [show g' (0 : Int32).toNatClampNeg = b_.toInt64 from hpost0]; exact cmp_self _) c_0)
    refine lv_goto (tgt := 2652) hx hb dL_law_477 (by decide) ?_
    exact next _ _ _ _ ⟨P', D, E', L, K, dn, c', x', l_, ar', fi', la', nb', pa', ro', dp, dg, de, dd, ek', eo', es', ef', el', lc, lm, lp', lr, n', hW', gW', B, K0, isK, isS, lre', rea', lpo, rpo, ta, tc, k_, ra, rwr, mo, ti, tw, tn, sv, as, ch, bu, nu, g', gd, rfl, hWC2, hHR2, hRR2, hPO, hSR, hTR⟩ hP hD hS (lv_sub hl [2, 3, 4, 5, 6, 7] rfl)
