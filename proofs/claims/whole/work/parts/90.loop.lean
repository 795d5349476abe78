/-! The law's loop; the law. -/
theorem and63 (v : Int32) : ∃ j, j < 64 ∧ v &&& (63 : Int32) = nI j := by
  refine ⟨(v &&& (63 : Int32)).toBitVec.toNat, ?_, ?_⟩
  · rw [Int32.toBitVec_and, BitVec.toNat_and]
    exact Nat.and_lt_two_pow _ (show (63 : Int32).toBitVec.toNat < 2 ^ 6 by decide)
  · apply Int32.toBitVec_inj.mp
    show _ = BitVec.ofNat 32 _
    rw [BitVec.ofNat_toNat]
    simp
set_option maxHeartbeats 4000000 in
set_option maxRecDepth 100000 in
theorem law_loop {p : Program} {l : Launch} {e : Env} {s : State} {m : MethodId} {below : List Frame} {meth : Method} {cd : Code} {b Ls : Nat} {xs : Nat → Int32} {z : Nat → Nat} {G : va_G} {cA : Nat → ClassId} {ad aw ab ak : Nat → Nat} {hA : Nat → Nat → Nat} {gA : Nat → Nat} (C0 : LC p l s m cd b Ls xs z G cA) (hr : meth.sig.returnType = ret) (hlocks : meth.locks = false) (hL : Ls ≤ 2560) :
    ∀ (n i : Nat), Ls < i + n → i ≤ 2560 → ∀ (nn kk : Nat), nn + 2600 ≤ 603072 + i → kk + 15600 ≤ 7190634 + 6 * i → ∀ (ws : va_W) (H : Heap) (locs : List Loc) (ls : Array Slot), LSt cA ad aw ab ak hA gA ws → va_P G vwCl ws H → va_D (fun q : Nat => s.heap.size ≤ q) ws → va_S (fun q : Nat => s.heap.size ≤ q) s.heap H locs → lv_has ls 9 [(5, .int (nI i)), (4, .ref (ad 8)), (3, .ref (ad 7)), (2, .ref (ad 9)), (1, .ref (ad 0)), (0, .ref b)] → W p l e room_1 s m #[Value.ref b] below meth cd H locs nn kk (lw_Z below #[Value.ref b] s) (F0 m 28 ls []) := by
  have hb' : cd.code = code := C0.2.1
  obtain ⟨hx, hb, hml, hown, hts, hX, hbl, hK, hT, hO, hfl⟩ := id C0
  have hbA : ¬ (fun q : Nat => s.heap.size ≤ q) b := Nat.not_le.mpr hbl
  intro n
  induction n with
  | zero => 
    intro i h1 hi nn kk hn hk ws H locs ls hI hP hD hS hl
    refine lv_iload hx hb dL_law_28 (lv_at hl 0 rfl) ?_
    refine lv_aload_n hx hb dL_law_30 rfl (lv_at hl 5 rfl) ?_
    refine va_slen hx hb hX hbl hbA hS dL_law_31 ?_
    refine lv_iconst (v := (5 : Int32)) hx hb dL_law_32 (by decide) ?_
    refine lv_isub hx hb dL_law_33 ?_
    refine lv_icmp_gt (tgt := 2658) hx hb dL_law_34 (by decide) (fun _ => ?_) (fun c_1 => absurd ?_ c_1)
    · refine lv_iconst (v := (1 : Int32)) hx hb dL_law_2658 (by decide) ?_
      refine va_forget (fun q hq => hS.2.2 q hq) ?_
      refine W.widen (k := 603072) (n := 7190634) (by omega) (by omega) ?_
      exact W.base (lw_ret (Drawn.sameBut.refl s.drawn lw_cs) hx hb' hr hlocks dL_law_2659)
    · show nI Ls - nI 5 < nI i
      rw [Int32.lt_iff_toInt_lt, pk_sub_toInt (by omega) (by omega), nI_toInt (by omega)]
      omega
  | succ n ih =>
    intro i h1 hi nn kk hn hk ws H locs ls hI hP hD hS hl
    refine lv_iload hx hb dL_law_28 (lv_at hl 0 rfl) ?_
    refine lv_aload_n hx hb dL_law_30 rfl (lv_at hl 5 rfl) ?_
    refine va_slen hx hb hX hbl hbA hS dL_law_31 ?_
    refine lv_iconst (v := (5 : Int32)) hx hb dL_law_32 (by decide) ?_
    refine lv_isub hx hb dL_law_33 ?_
    refine lv_icmp_gt (tgt := 2658) hx hb dL_law_34 (by decide) (fun _ => ?_) (fun c_1 => ?_)
    · refine lv_iconst (v := (1 : Int32)) hx hb dL_law_2658 (by decide) ?_
      refine va_forget (fun q hq => hS.2.2 q hq) ?_
      refine W.widen (k := 603072) (n := 7190634) (by omega) (by omega) ?_
      exact W.base (lw_ret (Drawn.sameBut.refl s.drawn lw_cs) hx hb' hr hlocks dL_law_2659)
    · have hi4 : i + 4 < Ls := by
        replace c_1 : ¬ nI Ls - nI 5 < nI i := c_1
        rw [Int32.lt_iff_toInt_lt, pk_sub_toInt (by omega) (by omega), nI_toInt (by omega)] at c_1
        omega
      have h_in0 : vp_in (nI i) Ls := vp_in_nI (by omega) (by omega)
      have hnx : LNext p l e s m below meth cd b G cA ad aw ab ak hA gA i (nn + 1) (kk + 6) := by
        intro ws H locs ls hI hP hD hS hl
        refine lv_iinc (v := nI (i + 5)) (lv' := [(5, .int (nI (i + 5))), (4, .ref (ad 8)), (3, .ref (ad 7)), (2, .ref (ad 9)), (1, .ref (ad 0)), (0, .ref b)]) hx hb dL_law_2652 hl (k := 0) rfl (nI_add i 5) (by decide) rfl (fun ls hl => ?_)
        refine lv_goto (tgt := 28) hx hb dL_law_2655 (by decide) ?_
        exact ih (i + 5) (by omega) (by omega) _ _ (by omega) (by omega) _ _ _ _ hI hP hD hS hl
      refine lv_aload_n hx hb dL_law_37 rfl (lv_at hl 5 rfl) ?_
      refine lv_iload hx hb dL_law_38 (lv_at hl 0 rfl) ?_
      refine va_sld hx hb hX hbl hbA hS h_in0 dL_law_40 ?_
      refine lv_bipush (v := (63 : Int32)) hx hb dL_law_41 (by decide) ?_
      refine lv_iand hx hb dL_law_43 ?_
      obtain ⟨j, hj, ej⟩ := and63 (xs (nI i).toNatClampNeg)
      rw [ej]
      rcases (show j = 0 ∨ j = 1 ∨ j = 2 ∨ j = 3 ∨ j = 4 ∨ j = 5 ∨ j = 6 ∨ j = 7 ∨ j = 8 ∨ j = 9 ∨ j = 10 ∨ j = 11 ∨ j = 12 ∨ j = 13 ∨ j = 14 ∨ j = 15 ∨ j = 16 ∨ j = 17 ∨ j = 18 ∨ j = 19 ∨ j = 20 ∨ j = 21 ∨ j = 22 ∨ j = 23 ∨ j = 24 ∨ j = 25 ∨ j = 26 ∨ j = 27 ∨ j = 28 ∨ j = 29 ∨ j = 30 ∨ j = 31 ∨ j = 32 ∨ j = 33 ∨ j = 34 ∨ j = 35 ∨ j = 36 ∨ j = 37 ∨ j = 38 ∨ 38 < j by omega) with rfl | rfl | rfl | rfl | rfl | rfl | rfl | rfl | rfl | rfl | rfl | rfl | rfl | rfl | rfl | rfl | rfl | rfl | rfl | rfl | rfl | rfl | rfl | rfl | rfl | rfl | rfl | rfl | rfl | rfl | rfl | rfl | rfl | rfl | rfl | rfl | rfl | rfl | rfl | hj2
      · refine lv_tableIn (off := 172) (tgt := 216) hx hb dL_law_44 (by decide) (by decide) rfl (by decide) ?_
        exact law_clear C0 hi4 hL (by omega) (by omega) hnx hI hP hD hS hl
      · refine lv_tableIn (off := 185) (tgt := 229) hx hb dL_law_44 (by decide) (by decide) rfl (by decide) ?_
        exact law_addParcel C0 hi4 hL (by omega) (by omega) hnx hI hP hD hS hl
      · refine lv_tableIn (off := 253) (tgt := 297) hx hb dL_law_44 (by decide) (by decide) rfl (by decide) ?_
        exact law_border C0 hi4 hL (by omega) (by omega) hnx hI hP hD hS hl
      · refine lv_tableIn (off := 356) (tgt := 400) hx hb dL_law_44 (by decide) (by decide) rfl (by decide) ?_
        exact law_split C0 hi4 hL (by omega) (by omega) hnx hI hP hD hS hl
      · refine lv_tableIn (off := 436) (tgt := 480) hx hb dL_law_44 (by decide) (by decide) rfl (by decide) ?_
        exact law_merge C0 hi4 hL (by omega) (by omega) hnx hI hP hD hS hl
      · refine lv_tableIn (off := 504) (tgt := 548) hx hb dL_law_44 (by decide) (by decide) rfl (by decide) ?_
        exact law_parcel C0 hi4 hL (by omega) (by omega) hnx hI hP hD hS hl
      · refine lv_tableIn (off := 572) (tgt := 616) hx hb dL_law_44 (by decide) (by decide) rfl (by decide) ?_
        exact law_origins C0 hi4 hL (by omega) (by omega) hnx hI hP hD hS hl
      · refine lv_tableIn (off := 628) (tgt := 672) hx hb dL_law_44 (by decide) (by decide) rfl (by decide) ?_
        exact law_remains C0 hi4 hL (by omega) (by omega) hnx hI hP hD hS hl
      · refine lv_tableIn (off := 684) (tgt := 728) hx hb dL_law_44 (by decide) (by decide) rfl (by decide) ?_
        exact law_borders C0 hi4 hL (by omega) (by omega) hnx hI hP hD hS hl
      · refine lv_tableIn (off := 752) (tgt := 796) hx hb dL_law_44 (by decide) (by decide) rfl (by decide) ?_
        exact law_partners C0 hi4 hL (by omega) (by omega) hnx hI hP hD hS hl
      · refine lv_tableIn (off := 808) (tgt := 852) hx hb dL_law_44 (by decide) (by decide) rfl (by decide) ?_
        exact law_reason C0 hi4 hL (by omega) (by omega) hnx hI hP hD hS hl
      · refine lv_tableIn (off := 852) (tgt := 896) hx hb dL_law_44 (by decide) (by decide) rfl (by decide) ?_
        exact law_deed C0 hi4 hL (by omega) (by omega) hnx hI hP hD hS hl
      · refine lv_tableIn (off := 944) (tgt := 988) hx hb dL_law_44 (by decide) (by decide) rfl (by decide) ?_
        exact law_deedOf C0 hi4 hL (by omega) (by omega) hnx hI hP hD hS hl
      · refine lv_tableIn (off := 1024) (tgt := 1068) hx hb dL_law_44 (by decide) (by decide) rfl (by decide) ?_
        exact law_holder C0 hi4 hL (by omega) (by omega) hnx hI hP hD hS hl
      · refine lv_tableIn (off := 1092) (tgt := 1136) hx hb dL_law_44 (by decide) (by decide) rfl (by decide) ?_
        exact law_holdings C0 hi4 hL (by omega) (by omega) hnx hI hP hD hS hl
      · refine lv_tableIn (off := 1148) (tgt := 1192) hx hb dL_law_44 (by decide) (by decide) rfl (by decide) ?_
        exact law_holders C0 hi4 hL (by omega) (by omega) hnx hI hP hD hS hl
      · refine lv_tableIn (off := 1204) (tgt := 1248) hx hb dL_law_44 (by decide) (by decide) rfl (by decide) ?_
        exact law_needless C0 hi4 hL (by omega) (by omega) hnx hI hP hD hS hl
      · refine lv_tableIn (off := 1260) (tgt := 1304) hx hb dL_law_44 (by decide) (by decide) rfl (by decide) ?_
        exact law_addEasement C0 hi4 hL (by omega) (by omega) hnx hI hP hD hS hl
      · refine lv_tableIn (off := 1340) (tgt := 1384) hx hb dL_law_44 (by decide) (by decide) rfl (by decide) ?_
        exact law_endEasement C0 hi4 hL (by omega) (by omega) hnx hI hP hD hS hl
      · refine lv_tableIn (off := 1396) (tgt := 1440) hx hb dL_law_44 (by decide) (by decide) rfl (by decide) ?_
        exact law_easement C0 hi4 hL (by omega) (by omega) hnx hI hP hD hS hl
      · refine lv_tableIn (off := 1464) (tgt := 1508) hx hb dL_law_44 (by decide) (by decide) rfl (by decide) ?_
        exact law_easements C0 hi4 hL (by omega) (by omega) hnx hI hP hD hS hl
      · refine lv_tableIn (off := 1548) (tgt := 1592) hx hb dL_law_44 (by decide) (by decide) rfl (by decide) ?_
        exact law_access C0 hi4 hL (by omega) (by omega) hnx hI hP hD hS hl
      · refine lv_tableIn (off := 1616) (tgt := 1660) hx hb dL_law_44 (by decide) (by decide) rfl (by decide) ?_
        exact law_addLien C0 hi4 hL (by omega) (by omega) hnx hI hP hD hS hl
      · refine lv_tableIn (off := 1696) (tgt := 1740) hx hb dL_law_44 (by decide) (by decide) rfl (by decide) ?_
        exact law_release C0 hi4 hL (by omega) (by omega) hnx hI hP hD hS hl
      · refine lv_tableIn (off := 1752) (tgt := 1796) hx hb dL_law_44 (by decide) (by decide) rfl (by decide) ?_
        exact law_postpone C0 hi4 hL (by omega) (by omega) hnx hI hP hD hS hl
      · refine lv_tableIn (off := 1820) (tgt := 1864) hx hb dL_law_44 (by decide) (by decide) rfl (by decide) ?_
        exact law_lien C0 hi4 hL (by omega) (by omega) hnx hI hP hD hS hl
      · refine lv_tableIn (off := 1888) (tgt := 1932) hx hb dL_law_44 (by decide) (by decide) rfl (by decide) ?_
        exact law_lienAt C0 hi4 hL (by omega) (by omega) hnx hI hP hD hS hl
      · refine lv_tableIn (off := 1956) (tgt := 2000) hx hb dL_law_44 (by decide) (by decide) rfl (by decide) ?_
        exact law_paid C0 hi4 hL (by omega) (by omega) hnx hI hP hD hS hl
      · refine lv_tableIn (off := 2036) (tgt := 2080) hx hb dL_law_44 (by decide) (by decide) rfl (by decide) ?_
        exact law_left C0 hi4 hL (by omega) (by omega) hnx hI hP hD hS hl
      · refine lv_tableIn (off := 2104) (tgt := 2148) hx hb dL_law_44 (by decide) (by decide) rfl (by decide) ?_
        exact law_needed C0 hi4 hL (by omega) (by omega) hnx hI hP hD hS hl
      · refine lv_tableIn (off := 2172) (tgt := 2216) hx hb dL_law_44 (by decide) (by decide) rfl (by decide) ?_
        exact law_advance C0 hi4 hL (by omega) (by omega) hnx hI hP hD hS hl
      · refine lv_tableIn (off := 2228) (tgt := 2272) hx hb dL_law_44 (by decide) (by decide) rfl (by decide) ?_
        exact law_account C0 hi4 hL (by omega) (by omega) hnx hI hP hD hS hl
      · refine lv_tableIn (off := 2284) (tgt := 2328) hx hb dL_law_44 (by decide) (by decide) rfl (by decide) ?_
        exact law_meanArea C0 hi4 hL (by omega) (by omega) hnx hI hP hD hS hl
      · refine lv_tableIn (off := 2361) (tgt := 2405) hx hb dL_law_44 (by decide) (by decide) rfl (by decide) ?_
        exact law_append C0 hi4 hL (by omega) (by omega) hnx hI hP hD hS hl
      · refine lv_tableIn (off := 2419) (tgt := 2463) hx hb dL_law_44 (by decide) (by decide) rfl (by decide) ?_
        exact law_read C0 hi4 hL (by omega) (by omega) hnx hI hP hD hS hl
      · refine lv_tableIn (off := 2463) (tgt := 2507) hx hb dL_law_44 (by decide) (by decide) rfl (by decide) ?_
        exact law_errorPosition C0 hi4 hL (by omega) (by omega) hnx hI hP hD hS hl
      · refine lv_tableIn (off := 2507) (tgt := 2551) hx hb dL_law_44 (by decide) (by decide) rfl (by decide) ?_
        exact law_undo C0 hi4 hL (by omega) (by omega) hnx hI hP hD hS hl
      · refine lv_tableIn (off := 2551) (tgt := 2595) hx hb dL_law_44 (by decide) (by decide) rfl (by decide) ?_
        exact law_save C0 hi4 hL (by omega) (by omega) hnx hI hP hD hS hl
      · refine lv_tableIn (off := 2564) (tgt := 2608) hx hb dL_law_44 (by decide) (by decide) rfl (by decide) ?_
        exact law_restore C0 hi4 hL (by omega) (by omega) hnx hI hP hD hS hl
      · refine lv_tableOut (tgt := 2652) hx hb dL_law_44 (Or.inr (by rw [nI_toInt (by omega)]; omega)) (by decide) ?_
        exact W.widen (k := nn + 1) (n := kk + 6) (by omega) (by omega) (hnx _ _ _ _ hI hP hD hS hl)
def cons1 (a : Nat) (f : Nat → Nat) : Nat → Nat
  | 0 => a
  | i + 1 => f i
set_option maxHeartbeats 16000000 in
set_option maxRecDepth 100000 in
/-- the law, from its entry -/
theorem whole_start {p : Program} {e : Env} {s : State} {m : MethodId} {below : List Frame} {meth : Method} {c : Code} (l : Launch) (hflags : l.flags = flags0) {b L : Nat} {xs : Nat → Int32} (hL : L ≤ 2560) (C0 : lw_At p s m meth c b L xs) : W p l e room_1 s m #[Value.ref b] below meth c s.heap [] 0 0 (lw_Z below #[Value.ref b] s) (entryFrame m ([Value.ref b] : List Value).toArray 9) := by
  obtain ⟨hx, hb0, hr, hml, hown, htsT, hX, hbl, hlocks, hgv⟩ := id C0
  have hb : c.code = cL_law := hb0
  have hts : ∀ w ∈ wsL_law, w.before #[Value.ref b] s = true := fun w h => htsT w (wsL_law_in w h)
  have hA : ∀ q : Nat, s.heap.size ≤ q → (fun q : Nat => s.heap.size ≤ q) q := fun _ h => h
  obtain ⟨G, cA, hK, hR⟩ := start_kk htsT
  obtain ⟨z, hT, hO⟩ := start_out htsT (flat_of_before _ hgv)
  have hfl : l.stackTraces = false := by
    unfold Launch.stackTraces
    rw [hflags]
    decide
  have hS : va_S (fun q : Nat => s.heap.size ≤ q) s.heap s.heap [] := va_S.rf
  have hP : va_P G vwCl [] s.heap := fun k q h => by simp at h
  have hD : va_D (fun q : Nat => s.heap.size ≤ q) [] := ⟨fun i j p q h => by simp at h, fun k q h => by simp at h⟩
  have hl := lv_entry ([.ref b]) (n := 9) (Nat.le_of_ble_eq_true rfl)
  rw [lg_entry_eq]
  generalize (lg_sl ([.ref b]) ++ List.replicate (9 - (lg_sl ([.ref b])).length) Slot.unset).toArray = ls at hl ⊢
  have hl : lv_has ls 9 [(0, .ref b)] := hl
  refine va_new (ci := 9) (fs := [.null, .null, .null, .null, .null, .int 0, .int 0, .int 0]) (C := RX7) (T := TX7) (N := 8) hx hb hts inlX7 tyX7 tyX7_ok hown (hts (.classLink RL 8 RX7) (by decide +kernel)) (hts (.instantiable RX7 8) (by decide +kernel)) (hts (.initialized RX7) (by decide +kernel)) hK.1 hP hD hS hA rfl (fun j hj => by rcases (show j = 0 ∨ j = 1 ∨ j = 2 ∨ j = 3 ∨ j = 4 ∨ j = 5 ∨ j = 6 ∨ j = 7 by omega) with rfl | rfl | rfl | rfl | rfl | rfl | rfl | rfl <;> rfl) (Nat.le_of_ble_eq_true rfl) (Nat.le_of_ble_eq_true rfl) dL_law_0 (fun q1 H hP hD hS => ?_)
  have hP : va_P G vwCl [(q1, .inr (9, [.null, .null, .null, .null, .null, .int 0, .int 0, .int 0]))] H := hP
  have hD : va_D _ [(q1, .inr (9, [.null, .null, .null, .null, .null, .int 0, .int 0, .int 0]))] := hD
  refine lv_dup hx hb dL_law_3 rfl ?_
  have hFc := va_free (wc := [(q1, .inr (9, [.null, .null, .null, .null, .null, .int 0, .int 0, .int 0]))]) hD hS hA [0] rfl
  refine va_callv (va_runI (As := []) (rest := [.ref q1]) ⟨hx, hb, hml, hown, hts⟩ (c_X7_init l G cA q1 H.size) (cwI 0 hts gL_law_X7_init rfl rfl rfl (hts (.initialized RX7) (by decide +kernel)) (hts (.methodLink RL 141 yX7_init) (by decide +kernel)) (hts (.instanceMethod yX7_init) (by decide +kernel)) rfl (by decide +kernel) ⟨Nat.le_of_ble_eq_true rfl, Nat.le_of_ble_eq_true rfl⟩) (preI hP hD hK hR) rfl rfl hl.1 rfl (lv_room (Nat.le_of_ble_eq_true rfl)) dL_law_4 ⟨Nat.le_of_ble_eq_true rfl, Nat.le_of_ble_eq_true rfl⟩) hS (fun q _ h => hFc q h) hFc (fun u7 t H1 locs ht hvm _ hB hz1 hk1 hS => ?_)
  obtain ⟨hP1, hD1⟩ := hB
  rw [ht] at hP1
  obtain ⟨hP, hD⟩ := va_join (wr := []) (w1 := I7 cA q1 u7) hP hD [0] [] rfl rfl (by decide) (by decide) hk1 hFc hP1 hD1
  clear hP1 hD1 hFc
  generalize H1 = H at hP hS ht hz1 hk1 ⊢
  replace hP : va_P G vwCl (I7 cA q1 u7) H := hP
  replace hD : va_D _ (I7 cA q1 u7) := hD
  refine lv_astore_n (lv' := [(1, .ref q1), (0, .ref b)]) hx hb dL_law_7 rfl hl (by decide) rfl (fun ls hl => ?_)
  refine va_new (ci := 10) (fs := [.int 0, .null, .null, .null, .null, .int 0, .int 0, .int 0, .int 0, .null, .null, .int 0, .int 0, .int 0, .null]) (C := RX8) (T := TX8) (N := 15) hx hb hts inlX8 tyX8 tyX8_ok hown (hts (.classLink RL 142 RX8) (by decide +kernel)) (hts (.instantiable RX8 15) (by decide +kernel)) (hts (.initialized RX8) (by decide +kernel)) hK.1 hP hD hS hA rfl (fun j hj => by rcases (show j = 0 ∨ j = 1 ∨ j = 2 ∨ j = 3 ∨ j = 4 ∨ j = 5 ∨ j = 6 ∨ j = 7 ∨ j = 8 ∨ j = 9 ∨ j = 10 ∨ j = 11 ∨ j = 12 ∨ j = 13 ∨ j = 14 by omega) with rfl | rfl | rfl | rfl | rfl | rfl | rfl | rfl | rfl | rfl | rfl | rfl | rfl | rfl | rfl <;> rfl) (Nat.le_of_ble_eq_true rfl) (Nat.le_of_ble_eq_true rfl) dL_law_8 (fun q2 H hP hD hS => ?_)
  refine lv_dup hx hb dL_law_11 rfl ?_
  have hpm : (I7 cA q1 u7 ++ ([(q2, .inr (10, [.int 0, .null, .null, .null, .null, .int 0, .int 0, .int 0, .int 0, .null, .null, .int 0, .int 0, .int 0, .null]))] : va_W)).Perm (([(q2, .inr (10, [.int 0, .null, .null, .null, .null, .int 0, .int 0, .int 0, .int 0, .null, .null, .int 0, .int 0, .int 0, .null]))] : va_W) ++ I7 cA q1 u7) := List.perm_append_comm
  have hPc : va_P G vwCl [(q2, .inr (10, [.int 0, .null, .null, .null, .null, .int 0, .int 0, .int 0, .int 0, .null, .null, .int 0, .int 0, .int 0, .null]))] H := (hP.perm hpm).left
  have hDc : va_D _ [(q2, .inr (10, [.int 0, .null, .null, .null, .null, .int 0, .int 0, .int 0, .int 0, .null, .null, .int 0, .int 0, .int 0, .null]))] := (hD.perm hpm).left
  have hFc := va_freePm hpm hD hS hA
  refine va_callv (va_runI (As := []) (rest := [.ref q2]) ⟨hx, hb, hml, hown, hts⟩ (c_X8_init l G cA q2 H.size) (cwI 0 hts gL_law_X8_init rfl rfl rfl (hts (.initialized RX8) (by decide +kernel)) (hts (.methodLink RL 144 yX8_init) (by decide +kernel)) (hts (.instanceMethod yX8_init) (by decide +kernel)) rfl (by decide +kernel) ⟨Nat.le_of_ble_eq_true rfl, Nat.le_of_ble_eq_true rfl⟩) (preI hPc hDc hK hR) rfl rfl hl.1 rfl (lv_room (Nat.le_of_ble_eq_true rfl)) dL_law_12 ⟨Nat.le_of_ble_eq_true rfl, Nat.le_of_ble_eq_true rfl⟩) hS (fun q _ h => hFc q h) hFc (fun u8 t H1 locs ht hvm _ hB hz1 hk1 hS => ?_)
  obtain ⟨hP1, hD1⟩ := hB
  rw [ht] at hP1
  have hPp := hP.perm hpm
  have hDp := hD.perm hpm
  obtain ⟨hP, hD⟩ := va_joinQ (X := [(q2, .inr (10, [.int 0, .null, .null, .null, .null, .int 0, .int 0, .int 0, .int 0, .null, .null, .int 0, .int 0, .int 0, .null]))]) (cx := [(q2, .inr (10, [.int 0, .null, .null, .null, .null, .int 0, .int 0, .int 0, .int 0, .null, .null, .int 0, .int 0, .int 0, .null]))]) (wr := []) (w1 := I8 cA q2 u8) (pl := I7 cA q1 u7) hPp hDp [0] [] rfl rfl (by decide) (by decide) hk1 hFc hP1 hD1
  clear hP1 hD1 hFc hPp hDp hPc hDc hpm
  generalize H1 = H at hP hS ht hz1 hk1 ⊢
  replace hP : va_P G vwCl (I8 cA q2 u8 ++ I7 cA q1 u7) H := hP
  replace hD : va_D _ (I8 cA q2 u8 ++ I7 cA q1 u7) := hD
  refine lv_astore_n (lv' := [(2, .ref q2), (1, .ref q1), (0, .ref b)]) hx hb dL_law_15 rfl hl (by decide) rfl (fun ls hl => ?_)
  refine lv_iconst (v := (1 : Int32)) hx hb dL_law_16 (by decide) ?_
  refine va_newa (atype := .long) (ty := .long) hx hb (hts (.arrayClass .long) (by decide +kernel)) rfl hK.1 hP hD hS hA (N' := 1) (a0 := (1, .inr (.inl fun _ => 0))) (fun _ => rfl) (by decide) rfl (Nat.le_of_ble_eq_true rfl) (Nat.le_of_ble_eq_true rfl) (Nat.le_of_ble_eq_true rfl) dL_law_17 (fun q3 c' H hK' hP hD hS => ?_)
  obtain rfl : c' = cA 4 := arrJ hK hK'
  clear hK'
  refine lv_astore_n (lv' := [(3, .ref q3), (2, .ref q2), (1, .ref q1), (0, .ref b)]) hx hb dL_law_19 rfl hl (by decide) rfl (fun ls hl => ?_)
  refine lv_iconst (v := (1 : Int32)) hx hb dL_law_20 (by decide) ?_
  refine va_newa (atype := .double) (ty := .double) hx hb (hts (.arrayClass .double) (by decide +kernel)) rfl hK.1 hP hD hS hA (N' := 1) (a0 := (1, .inr (.inr (.inr (.inl fun _ => 0))))) (fun _ => rfl) (by decide) rfl (Nat.le_of_ble_eq_true rfl) (Nat.le_of_ble_eq_true rfl) (Nat.le_of_ble_eq_true rfl) dL_law_21 (fun q4 c' H hK' hP hD hS => ?_)
  obtain rfl : c' = cA 5 := arrD hK hK'
  clear hK'
  refine lv_astore (lv' := [(4, .ref q4), (3, .ref q3), (2, .ref q2), (1, .ref q1), (0, .ref b)]) hx hb dL_law_23 hl (by decide) rfl (fun ls hl => ?_)
  refine lv_iconst (v := (0 : Int32)) hx hb dL_law_25 (by decide) ?_
  refine lv_istore (lv' := [(5, .int (0 : Int32)), (4, .ref q4), (3, .ref q3), (2, .ref q2), (1, .ref q1), (0, .ref b)]) hx hb dL_law_26 hl (by decide) rfl (fun ls hl => ?_)
  obtain ⟨aw, ab, ak, hh, ⟨rr, hA7⟩, t0, t1, t2, t3⟩ := u7
  obtain ⟨⟨m1, m2, m3, m4, m5, m6, m7⟩, gA⟩ := u8
  have hpz : ∀ (e7 b7 e8 b8 : va_W) (x y : Nat × va_E), ((((e8 ++ b8) ++ (e7 ++ b7)) ++ [x]) ++ [y]).Perm (((e7 ++ [x, y]) ++ b7) ++ (e8 ++ b8)) := fun e7 b7 e8 b8 x y => by
    rw [List.append_assoc (((e8 ++ b8) ++ (e7 ++ b7))), List.append_assoc (e8 ++ b8), List.append_assoc e7 b7]
    refine List.perm_append_comm.trans (List.Perm.append_right _ ?_)
    rw [List.append_assoc e7]
    exact List.Perm.append_left _ List.perm_append_comm
  have hP := hP.perm (hpz _ _ _ _ _ _)
  have hD := hD.perm (hpz _ _ _ _ _ _)
  refine law_loop (ad := cons1 q1 (cons1 hh (cons1 rr (cons1 t0 (cons1 t1 (cons1 t2 (cons1 t3 (cons1 q3 (cons1 q4 (cons1 q2 (cons1 m1 (cons1 m2 (cons1 m3 (cons1 m4 (cons1 m5 (cons1 m6 (fun _ => m7))))))))))))))))) (aw := aw) (ab := ab) (ak := ak) (hA := hA7) (gA := gA) ⟨hx, hb, hml, hown, hts, hX, hbl, hK, hT, hO, hfl⟩ hr hlocks hL (L + 1) 0 (by omega) (by omega) _ _ (Nat.le_of_ble_eq_true rfl) (Nat.le_of_ble_eq_true rfl) _ _ _ _ ?_ hP hD hS hl
  exact ⟨0, 0, 0, 0, 0, 0, 0, 0, 0, z0, z0, z0, z0, z0, z0, z0, z0, z0, z0, z0, z0, z0, z0, z0, z0, z0, z0, z0, z0, fun _ => w0, fun _ => z0, w0, w0, 0, 0, -1, 0, -1, -1, 0, 0, 0, 0, 0, z0, z0, z0, z0, z0, z0, z0, z0, z0, fun _ => 0, fun _ => 0, rfl, WC.zero fun _ _ => rfl, HR.zero (by omega), Or.inl ⟨rfl, rfl⟩, Or.inl ⟨rfl, rfl⟩, Or.inl ⟨rfl, rfl⟩, ⟨by omega, fun i hi => absurd hi (by omega)⟩⟩
