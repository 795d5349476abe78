/-! The constructors: each makes its cells. -/
def AR (U : State) : Prop := va_AO "ParcelRegistry$World" U ∧ va_Nw (.arrayOver (.array .int)) U
theorem AR.warm {s U : State} (hW : s.WarmedH U.vm) (h : AR s) : AR U := ⟨h.1.moved hW.alike, by
  have h2 : (Cond.arrayOver (.array .int)).before #[] (s.setVm U.vm) = true := by
    rw [Cond.arrayOver_setVmC hW.alike]
    exact h.2
  exact h2⟩
theorem AR.calling {U : State} (g : JFrame) (mk : MethodId) (a : Array Value) (h : AR U) : AR (U.calling g mk a) := ⟨va_AO.moved (u := U) (U := U.calling g mk a) (Vm.Alike.refl U.vm) h.1, h.2⟩
def PI (G : va_G) (cA : Nat → ClassId) (ws : va_W) (sz : Nat) (U : State) : Prop := PM G cA ws sz U ∧ AR U
theorem blI {G : va_G} {cA : Nat → ClassId} {av : List Value} {ws : va_W} {sz : Nat} : FrameBlind (va_Pc av (PI G cA ws sz)) := fun a U g mk q => ⟨q.1, ⟨q.2.1.1, q.2.1.2.1, q.2.1.2.2.1, q.2.1.2.2.2.calling g mk a⟩, q.2.2.calling g mk a⟩
theorem preI {G : va_G} {cA : Nat → ClassId} {A0 : Nat → Prop} {As : List Value} {ws : va_W} {s : State} {H : Heap} (hP : va_P G vwCl ws H) (hD : va_D A0 ws) (hK : KK G cA s) (hR : AR s) : PreS s H (va_Pc As (PI G cA ws H.size)) As :=
  ⟨blI, fun U hU hW => ⟨rfl, ⟨by rw [hU], by rw [hU]; exact hP, hD.weaken (fun _ _ _ _ => trivial), hK.warm hW⟩, hR.warm hW⟩⟩
theorem arrI {G : va_G} {cA : Nat → ClassId} {s : State} {c' : ClassId} (hK : KK G cA s) (h : va_K G vwCl (tyS cA ++ [(c', .int)]) s) : c' = cA 0 := Option.some.inj ((va_nm_int (h.2 6 _ rfl).2).symm.trans (va_nm_int (hK.1.2 0 _ rfl).2))
theorem arrC {G : va_G} {cA : Nat → ClassId} {s : State} {c' : ClassId} (hK : KK G cA s) (h : va_K G vwCl (tyS cA ++ [(c', .char)]) s) : c' = cA 1 := Option.some.inj ((va_nm_char (h.2 6 _ rfl).2).symm.trans (va_nm_char (hK.1.2 1 _ rfl).2))
theorem arrJ {G : va_G} {cA : Nat → ClassId} {s : State} {c' : ClassId} (hK : KK G cA s) (h : va_K G vwCl (tyS cA ++ [(c', .long)]) s) : c' = cA 4 := Option.some.inj ((va_nm_long (h.2 6 _ rfl).2).symm.trans (va_nm_long (hK.1.2 4 _ rfl).2))
theorem arrD {G : va_G} {cA : Nat → ClassId} {s : State} {c' : ClassId} (hK : KK G cA s) (h : va_K G vwCl (tyS cA ++ [(c', .double)]) s) : c' = cA 5 := Option.some.inj ((va_nm_double (h.2 6 _ rfl).2).symm.trans (va_nm_double (hK.1.2 5 _ rfl).2))
theorem arrW {G : va_G} {cA : Nat → ClassId} {s : State} {c' : ClassId} (hK : KK G cA s) (h : va_K G vwCl (tyS cA ++ [(c', .object "ParcelRegistry$World")]) s) : c' = cA 2 := Option.some.inj ((va_nmO (h.2 6 _ rfl).2 rfl).symm.trans (va_nmO (hK.1.2 2 _ rfl).2 rfl))
theorem metI {l : Launch} {y : MethodName} {ws ws' : List Cond} {rm : Room} {cc : ByteArray} {maxL : Nat} {G : va_G} {cA : Nat → ClassId} {b : Nat} {wc : va_W} {sz : Nat} {S : Type} {kf : S → va_W} {mc ms : Nat} (hy : plainName y.cls = true) (hi : y.name = "<init>") (hw : ws = Cond.code y cc maxL none :: ws') (hargs : 1 ≤ maxL)
    (body : ∀ (p : Program) (e : Env) (s : State) (m : MethodId) (av : Array Value) (below : List Frame) (meth : Method) (c : Code) (Q : State → Prop) (ls : Array Slot) (A : Nat → Prop) (H : Heap), p.tables.exec = Jvm.exec → c.code = cc → c.maxLocals = maxL → (∀ w ∈ ws, w.before av s = true) → s.vm.findClass y.cls = some m.cls → va_P G vwCl wc H → KK G cA s → AR s → va_D A wc → (∀ q : Nat, s.heap.size ≤ q → A q) → va_S A s.heap H [] → lv_has ls maxL [(0, .ref b)] → meth.name = "<init>" →
      (∀ (pc : Nat) (ls : Array Slot) (u : S) (H : Heap) (locs : List Loc) (k n : Nat), decode cc pc = .ok (.return_, 1) → va_P G vwCl (kf u) H → va_D A (kf u) → va_S A s.heap H locs → k ≤ mc → n ≤ ms → W p l e rm s m av below meth c H locs k n Q (F0 m pc ls [])) → W p l e rm s m av below meth c H [] 0 0 Q (F0 m 0 ls [])) :
    Met l y ws rm (va_Pc [.ref b] (PI G cA wc sz)) (va_Qv (fun _ : S => True) (fun u t => va_P G vwCl (kf u) t.heap ∧ va_D (va_A wc sz) (kf u)) (va_A wc sz)) mc ms (va_A wc sz) := by
  refine Met.ofW (cc := cc) (maxL := maxL) (ret := none) hy hw ?_
  intro p e s m args0 below meth c s₁ B hml hv
  obtain ⟨rfl, ⟨hsz, hP, hD0, hK⟩, hR⟩ := hv
  subst hsz
  have hl := lv_entry [.ref b] (n := maxL) hargs
  have hlocks := B.notSynchronized
  have hin : meth.name = "<init>" := ((name_of_methodNamed B.named B.method).1).trans hi
  rw [lg_entry_eq]
  generalize (lg_sl [.ref b] ++ List.replicate (maxL - (lg_sl [.ref b]).length) Slot.unset).toArray = ls at hl ⊢
  exact body p e s m _ below meth c _ ls (va_A wc s.heap.size) s.heap B.exec B.bytes hml (atoms_spec (ws := ws) B.pre) (findClass_of_methodNamed B.named) hP hK hR (hD0.self) (fun q h => Or.inr h) va_S.rf hl hin (fun pc ls u H locs k n hd hP hD hS hk hn => W.widen (k := mc) (n := ms) hk hn (W.vret B.exec B.bytes B.returns (fun t ht _ => ⟨⟨u, rfl, trivial, by rw [ht]; exact hP, hD⟩, hS.F ht⟩) hS.2.2 hd))
/-- a new row of zeros -/
def z0 : Nat → Int32 := fun _ => 0
def w0 : WS := (0, 0, z0, z0, z0, z0, z0, z0, 0, z0, z0, z0, z0, 0, z0, z0, z0, z0, z0, 0, 0, z0, z0, z0, z0)

abbrev kI_X4 (cA : Nat → ClassId) (o : Nat) (u : Nat × Nat × Nat × Nat × Nat × Nat) : va_W := [(o, .inr (6, [.int 0, .ref (u.1), .ref (u.2.1), .ref (u.2.2.1), .ref (u.2.2.2.1), .ref (u.2.2.2.2.1), .ref (u.2.2.2.2.2)])), ((u.1), .inl (cA 0, 24, .inl z0)), ((u.2.1), .inl (cA 0, 24, .inl z0)), ((u.2.2.1), .inl (cA 0, 24, .inl z0)), ((u.2.2.2.1), .inl (cA 0, 24, .inl z0)), ((u.2.2.2.2.1), .inl (cA 0, 24, .inl z0)), ((u.2.2.2.2.2), .inl (cA 0, 24, .inl z0))]
set_option maxHeartbeats 4000000 in
set_option maxRecDepth 100000 in
theorem c_X4_init (l : Launch) (G : va_G) (cA : Nat → ClassId) (o sz : Nat) : Met l yX4_init wsX4_init ({ frames := 1, cells := 6, slots := 144, locals := 12 } : Room) (va_Pc [.ref o] (PI G cA [(o, .inr (6, [.int 0, .null, .null, .null, .null, .null, .null]))] sz)) (va_Qv (fun _ : Nat × Nat × Nat × Nat × Nat × Nat => True) (fun u t => va_P G vwCl (kI_X4 cA o u) t.heap ∧ va_D (va_A [(o, .inr (6, [.int 0, .null, .null, .null, .null, .null, .null]))] sz) (kI_X4 cA o u)) (va_A [(o, .inr (6, [.int 0, .null, .null, .null, .null, .null, .null]))] sz)) 6 144 (va_A [(o, .inr (6, [.int 0, .null, .null, .null, .null, .null, .null]))] sz) := by
  refine metI (by decide) rfl rfl (Nat.le_of_ble_eq_true rfl) ?_
  intro p e s m av below meth c Q ls A H hx hb hml hts hown hP hK hR hD hA hS hl hin hret
  have i_X4 : ∀ w ∈ wsX40, w ∈ wsX4_init := by decide +kernel
  refine lv_aload_n hx hb dX4_init_0 rfl (lv_at hl 0 rfl) ?_
  refine W.objInit hx hb hown (hts (.methodLink RX4 3 objectInit) (by decide +kernel)) (hts (.instanceMethod objectInit) (by decide +kernel)) (hts _ (List.mem_of_getElem? (i := 3) rfl)) rfl (by rw [hml]; exact hl.1) rfl dX4_init_1 (Nat.le_of_ble_eq_true rfl) (Nat.le_of_ble_eq_true rfl) ?_
  refine W.eq (g2 := F0 m 4 ls []) rfl ?_
  refine lv_aload_n hx hb dX4_init_4 rfl (lv_at hl 0 rfl) ?_
  refine lv_iconst (v := (0 : Int32)) hx hb dX4_init_5 (by decide) ?_
  refine va_put (D := G) (ci := 6) (v := .int 0) (ty := .int) (C := RX4) (T := TX4) (N := 7) hx hb hts i_X4 tyX4 tyX4_ok nmX4 hown hK.1 hP hD hS 0 rfl rfl 0 (by decide) (hts (.fieldLink RX4 9 "ParcelRegistry$Parcels" "count" "I") (by decide +kernel)) (fun _ h9 => h9) rfl (by decide +kernel) rfl rfl (Nat.le_of_ble_eq_true rfl) dX4_init_6 (fun H locs hP hD hS => ?_)
  have hP : va_P G vwCl [(o, .inr (6, [.int 0, .null, .null, .null, .null, .null, .null]))] H := hP
  have hD : va_D A [(o, .inr (6, [.int 0, .null, .null, .null, .null, .null, .null]))] := hD
  refine lv_aload_n hx hb dX4_init_9 rfl (lv_at hl 0 rfl) ?_
  refine lv_bipush (v := (24 : Int32)) hx hb dX4_init_10 (by decide) ?_
  refine va_newa (atype := .int) (ty := .int) hx hb (hts (.arrayClass .int) (by decide +kernel)) rfl hK.1 hP hD hS hA (N' := 24) (a0 := (24, .inl z0)) (fun _ => rfl) (by decide) rfl (Nat.le_of_ble_eq_true rfl) (Nat.le_of_ble_eq_true rfl) (Nat.le_of_ble_eq_true rfl) dX4_init_12 (fun q0 c' H hK' hP hD hS => ?_)
  obtain rfl : c' = cA 0 := arrI hK hK'
  clear hK'
  have hP : va_P G vwCl [(o, .inr (6, [.int 0, .null, .null, .null, .null, .null, .null])), (q0, .inl (cA 0, 24, .inl z0))] H := hP
  have hD : va_D A [(o, .inr (6, [.int 0, .null, .null, .null, .null, .null, .null])), (q0, .inl (cA 0, 24, .inl z0))] := hD
  refine va_putF (D := G) (ci := 6) (v := .ref q0) (ty := .array .int) (C := RX4) (T := TX4) (N := 7) hx hb hts i_X4 tyX4 tyX4_ok nmX4 hown hK.1 hP hD hS 0 rfl rfl 1 (by decide) (hts (.fieldLink RX4 15 "ParcelRegistry$Parcels" "area" "[I") (by decide +kernel)) (fun _ h9 => h9) rfl hin rfl (by decide +kernel) rfl rfl (Nat.le_of_ble_eq_true rfl) dX4_init_14 (fun H locs hP hD hS => ?_)
  have hP : va_P G vwCl [(o, .inr (6, [.int 0, .ref q0, .null, .null, .null, .null, .null])), (q0, .inl (cA 0, 24, .inl z0))] H := hP
  have hD : va_D A [(o, .inr (6, [.int 0, .ref q0, .null, .null, .null, .null, .null])), (q0, .inl (cA 0, 24, .inl z0))] := hD
  refine lv_aload_n hx hb dX4_init_17 rfl (lv_at hl 0 rfl) ?_
  refine lv_bipush (v := (24 : Int32)) hx hb dX4_init_18 (by decide) ?_
  refine va_newa (atype := .int) (ty := .int) hx hb (hts (.arrayClass .int) (by decide +kernel)) rfl hK.1 hP hD hS hA (N' := 24) (a0 := (24, .inl z0)) (fun _ => rfl) (by decide) rfl (Nat.le_of_ble_eq_true rfl) (Nat.le_of_ble_eq_true rfl) (Nat.le_of_ble_eq_true rfl) dX4_init_20 (fun q1 c' H hK' hP hD hS => ?_)
  obtain rfl : c' = cA 0 := arrI hK hK'
  clear hK'
  have hP : va_P G vwCl [(o, .inr (6, [.int 0, .ref q0, .null, .null, .null, .null, .null])), (q0, .inl (cA 0, 24, .inl z0)), (q1, .inl (cA 0, 24, .inl z0))] H := hP
  have hD : va_D A [(o, .inr (6, [.int 0, .ref q0, .null, .null, .null, .null, .null])), (q0, .inl (cA 0, 24, .inl z0)), (q1, .inl (cA 0, 24, .inl z0))] := hD
  refine va_putF (D := G) (ci := 6) (v := .ref q1) (ty := .array .int) (C := RX4) (T := TX4) (N := 7) hx hb hts i_X4 tyX4 tyX4_ok nmX4 hown hK.1 hP hD hS 0 rfl rfl 2 (by decide) (hts (.fieldLink RX4 19 "ParcelRegistry$Parcels" "firstDay" "[I") (by decide +kernel)) (fun _ h9 => h9) rfl hin rfl (by decide +kernel) rfl rfl (Nat.le_of_ble_eq_true rfl) dX4_init_22 (fun H locs hP hD hS => ?_)
  have hP : va_P G vwCl [(o, .inr (6, [.int 0, .ref q0, .ref q1, .null, .null, .null, .null])), (q0, .inl (cA 0, 24, .inl z0)), (q1, .inl (cA 0, 24, .inl z0))] H := hP
  have hD : va_D A [(o, .inr (6, [.int 0, .ref q0, .ref q1, .null, .null, .null, .null])), (q0, .inl (cA 0, 24, .inl z0)), (q1, .inl (cA 0, 24, .inl z0))] := hD
  refine lv_aload_n hx hb dX4_init_25 rfl (lv_at hl 0 rfl) ?_
  refine lv_bipush (v := (24 : Int32)) hx hb dX4_init_26 (by decide) ?_
  refine va_newa (atype := .int) (ty := .int) hx hb (hts (.arrayClass .int) (by decide +kernel)) rfl hK.1 hP hD hS hA (N' := 24) (a0 := (24, .inl z0)) (fun _ => rfl) (by decide) rfl (Nat.le_of_ble_eq_true rfl) (Nat.le_of_ble_eq_true rfl) (Nat.le_of_ble_eq_true rfl) dX4_init_28 (fun q2 c' H hK' hP hD hS => ?_)
  obtain rfl : c' = cA 0 := arrI hK hK'
  clear hK'
  have hP : va_P G vwCl [(o, .inr (6, [.int 0, .ref q0, .ref q1, .null, .null, .null, .null])), (q0, .inl (cA 0, 24, .inl z0)), (q1, .inl (cA 0, 24, .inl z0)), (q2, .inl (cA 0, 24, .inl z0))] H := hP
  have hD : va_D A [(o, .inr (6, [.int 0, .ref q0, .ref q1, .null, .null, .null, .null])), (q0, .inl (cA 0, 24, .inl z0)), (q1, .inl (cA 0, 24, .inl z0)), (q2, .inl (cA 0, 24, .inl z0))] := hD
  refine va_putF (D := G) (ci := 6) (v := .ref q2) (ty := .array .int) (C := RX4) (T := TX4) (N := 7) hx hb hts i_X4 tyX4 tyX4_ok nmX4 hown hK.1 hP hD hS 0 rfl rfl 3 (by decide) (hts (.fieldLink RX4 22 "ParcelRegistry$Parcels" "lastDay" "[I") (by decide +kernel)) (fun _ h9 => h9) rfl hin rfl (by decide +kernel) rfl rfl (Nat.le_of_ble_eq_true rfl) dX4_init_30 (fun H locs hP hD hS => ?_)
  have hP : va_P G vwCl [(o, .inr (6, [.int 0, .ref q0, .ref q1, .ref q2, .null, .null, .null])), (q0, .inl (cA 0, 24, .inl z0)), (q1, .inl (cA 0, 24, .inl z0)), (q2, .inl (cA 0, 24, .inl z0))] H := hP
  have hD : va_D A [(o, .inr (6, [.int 0, .ref q0, .ref q1, .ref q2, .null, .null, .null])), (q0, .inl (cA 0, 24, .inl z0)), (q1, .inl (cA 0, 24, .inl z0)), (q2, .inl (cA 0, 24, .inl z0))] := hD
  refine lv_aload_n hx hb dX4_init_33 rfl (lv_at hl 0 rfl) ?_
  refine lv_bipush (v := (24 : Int32)) hx hb dX4_init_34 (by decide) ?_
  refine va_newa (atype := .int) (ty := .int) hx hb (hts (.arrayClass .int) (by decide +kernel)) rfl hK.1 hP hD hS hA (N' := 24) (a0 := (24, .inl z0)) (fun _ => rfl) (by decide) rfl (Nat.le_of_ble_eq_true rfl) (Nat.le_of_ble_eq_true rfl) (Nat.le_of_ble_eq_true rfl) dX4_init_36 (fun q3 c' H hK' hP hD hS => ?_)
  obtain rfl : c' = cA 0 := arrI hK hK'
  clear hK'
  have hP : va_P G vwCl [(o, .inr (6, [.int 0, .ref q0, .ref q1, .ref q2, .null, .null, .null])), (q0, .inl (cA 0, 24, .inl z0)), (q1, .inl (cA 0, 24, .inl z0)), (q2, .inl (cA 0, 24, .inl z0)), (q3, .inl (cA 0, 24, .inl z0))] H := hP
  have hD : va_D A [(o, .inr (6, [.int 0, .ref q0, .ref q1, .ref q2, .null, .null, .null])), (q0, .inl (cA 0, 24, .inl z0)), (q1, .inl (cA 0, 24, .inl z0)), (q2, .inl (cA 0, 24, .inl z0)), (q3, .inl (cA 0, 24, .inl z0))] := hD
  refine va_putF (D := G) (ci := 6) (v := .ref q3) (ty := .array .int) (C := RX4) (T := TX4) (N := 7) hx hb hts i_X4 tyX4 tyX4_ok nmX4 hown hK.1 hP hD hS 0 rfl rfl 4 (by decide) (hts (.fieldLink RX4 25 "ParcelRegistry$Parcels" "neighbours" "[I") (by decide +kernel)) (fun _ h9 => h9) rfl hin rfl (by decide +kernel) rfl rfl (Nat.le_of_ble_eq_true rfl) dX4_init_38 (fun H locs hP hD hS => ?_)
  have hP : va_P G vwCl [(o, .inr (6, [.int 0, .ref q0, .ref q1, .ref q2, .ref q3, .null, .null])), (q0, .inl (cA 0, 24, .inl z0)), (q1, .inl (cA 0, 24, .inl z0)), (q2, .inl (cA 0, 24, .inl z0)), (q3, .inl (cA 0, 24, .inl z0))] H := hP
  have hD : va_D A [(o, .inr (6, [.int 0, .ref q0, .ref q1, .ref q2, .ref q3, .null, .null])), (q0, .inl (cA 0, 24, .inl z0)), (q1, .inl (cA 0, 24, .inl z0)), (q2, .inl (cA 0, 24, .inl z0)), (q3, .inl (cA 0, 24, .inl z0))] := hD
  refine lv_aload_n hx hb dX4_init_41 rfl (lv_at hl 0 rfl) ?_
  refine lv_bipush (v := (24 : Int32)) hx hb dX4_init_42 (by decide) ?_
  refine va_newa (atype := .int) (ty := .int) hx hb (hts (.arrayClass .int) (by decide +kernel)) rfl hK.1 hP hD hS hA (N' := 24) (a0 := (24, .inl z0)) (fun _ => rfl) (by decide) rfl (Nat.le_of_ble_eq_true rfl) (Nat.le_of_ble_eq_true rfl) (Nat.le_of_ble_eq_true rfl) dX4_init_44 (fun q4 c' H hK' hP hD hS => ?_)
  obtain rfl : c' = cA 0 := arrI hK hK'
  clear hK'
  have hP : va_P G vwCl [(o, .inr (6, [.int 0, .ref q0, .ref q1, .ref q2, .ref q3, .null, .null])), (q0, .inl (cA 0, 24, .inl z0)), (q1, .inl (cA 0, 24, .inl z0)), (q2, .inl (cA 0, 24, .inl z0)), (q3, .inl (cA 0, 24, .inl z0)), (q4, .inl (cA 0, 24, .inl z0))] H := hP
  have hD : va_D A [(o, .inr (6, [.int 0, .ref q0, .ref q1, .ref q2, .ref q3, .null, .null])), (q0, .inl (cA 0, 24, .inl z0)), (q1, .inl (cA 0, 24, .inl z0)), (q2, .inl (cA 0, 24, .inl z0)), (q3, .inl (cA 0, 24, .inl z0)), (q4, .inl (cA 0, 24, .inl z0))] := hD
  refine va_putF (D := G) (ci := 6) (v := .ref q4) (ty := .array .int) (C := RX4) (T := TX4) (N := 7) hx hb hts i_X4 tyX4 tyX4_ok nmX4 hown hK.1 hP hD hS 0 rfl rfl 5 (by decide) (hts (.fieldLink RX4 28 "ParcelRegistry$Parcels" "parents" "[I") (by decide +kernel)) (fun _ h9 => h9) rfl hin rfl (by decide +kernel) rfl rfl (Nat.le_of_ble_eq_true rfl) dX4_init_46 (fun H locs hP hD hS => ?_)
  have hP : va_P G vwCl [(o, .inr (6, [.int 0, .ref q0, .ref q1, .ref q2, .ref q3, .ref q4, .null])), (q0, .inl (cA 0, 24, .inl z0)), (q1, .inl (cA 0, 24, .inl z0)), (q2, .inl (cA 0, 24, .inl z0)), (q3, .inl (cA 0, 24, .inl z0)), (q4, .inl (cA 0, 24, .inl z0))] H := hP
  have hD : va_D A [(o, .inr (6, [.int 0, .ref q0, .ref q1, .ref q2, .ref q3, .ref q4, .null])), (q0, .inl (cA 0, 24, .inl z0)), (q1, .inl (cA 0, 24, .inl z0)), (q2, .inl (cA 0, 24, .inl z0)), (q3, .inl (cA 0, 24, .inl z0)), (q4, .inl (cA 0, 24, .inl z0))] := hD
  refine lv_aload_n hx hb dX4_init_49 rfl (lv_at hl 0 rfl) ?_
  refine lv_bipush (v := (24 : Int32)) hx hb dX4_init_50 (by decide) ?_
  refine va_newa (atype := .int) (ty := .int) hx hb (hts (.arrayClass .int) (by decide +kernel)) rfl hK.1 hP hD hS hA (N' := 24) (a0 := (24, .inl z0)) (fun _ => rfl) (by decide) rfl (Nat.le_of_ble_eq_true rfl) (Nat.le_of_ble_eq_true rfl) (Nat.le_of_ble_eq_true rfl) dX4_init_52 (fun q5 c' H hK' hP hD hS => ?_)
  obtain rfl : c' = cA 0 := arrI hK hK'
  clear hK'
  have hP : va_P G vwCl [(o, .inr (6, [.int 0, .ref q0, .ref q1, .ref q2, .ref q3, .ref q4, .null])), (q0, .inl (cA 0, 24, .inl z0)), (q1, .inl (cA 0, 24, .inl z0)), (q2, .inl (cA 0, 24, .inl z0)), (q3, .inl (cA 0, 24, .inl z0)), (q4, .inl (cA 0, 24, .inl z0)), (q5, .inl (cA 0, 24, .inl z0))] H := hP
  have hD : va_D A [(o, .inr (6, [.int 0, .ref q0, .ref q1, .ref q2, .ref q3, .ref q4, .null])), (q0, .inl (cA 0, 24, .inl z0)), (q1, .inl (cA 0, 24, .inl z0)), (q2, .inl (cA 0, 24, .inl z0)), (q3, .inl (cA 0, 24, .inl z0)), (q4, .inl (cA 0, 24, .inl z0)), (q5, .inl (cA 0, 24, .inl z0))] := hD
  refine va_putF (D := G) (ci := 6) (v := .ref q5) (ty := .array .int) (C := RX4) (T := TX4) (N := 7) hx hb hts i_X4 tyX4 tyX4_ok nmX4 hown hK.1 hP hD hS 0 rfl rfl 6 (by decide) (hts (.fieldLink RX4 31 "ParcelRegistry$Parcels" "root" "[I") (by decide +kernel)) (fun _ h9 => h9) rfl hin rfl (by decide +kernel) rfl rfl (Nat.le_of_ble_eq_true rfl) dX4_init_54 (fun H locs hP hD hS => ?_)
  have hP : va_P G vwCl [(o, .inr (6, [.int 0, .ref q0, .ref q1, .ref q2, .ref q3, .ref q4, .ref q5])), (q0, .inl (cA 0, 24, .inl z0)), (q1, .inl (cA 0, 24, .inl z0)), (q2, .inl (cA 0, 24, .inl z0)), (q3, .inl (cA 0, 24, .inl z0)), (q4, .inl (cA 0, 24, .inl z0)), (q5, .inl (cA 0, 24, .inl z0))] H := hP
  have hD : va_D A [(o, .inr (6, [.int 0, .ref q0, .ref q1, .ref q2, .ref q3, .ref q4, .ref q5])), (q0, .inl (cA 0, 24, .inl z0)), (q1, .inl (cA 0, 24, .inl z0)), (q2, .inl (cA 0, 24, .inl z0)), (q3, .inl (cA 0, 24, .inl z0)), (q4, .inl (cA 0, 24, .inl z0)), (q5, .inl (cA 0, 24, .inl z0))] := hD
  exact hret _ _ ((q0, q1, q2, q3, q4, q5)) _ _ _ _ dX4_init_57 hP hD hS (Nat.le_of_ble_eq_true rfl) (Nat.le_of_ble_eq_true rfl)
abbrev kI_X0 (cA : Nat → ClassId) (o : Nat) (u : Nat × Nat × Nat × Nat × Nat) : va_W := [(o, .inr (2, [.int 0, .ref (u.1), .ref (u.2.1), .ref (u.2.2.1), .ref (u.2.2.2.1), .ref (u.2.2.2.2)])), ((u.1), .inl (cA 0, 60, .inl z0)), ((u.2.1), .inl (cA 0, 60, .inl z0)), ((u.2.2.1), .inl (cA 0, 60, .inl z0)), ((u.2.2.2.1), .inl (cA 0, 60, .inl z0)), ((u.2.2.2.2), .inl (cA 0, 10, .inl z0))]
set_option maxHeartbeats 4000000 in
set_option maxRecDepth 100000 in
theorem c_X0_init (l : Launch) (G : va_G) (cA : Nat → ClassId) (o sz : Nat) : Met l yX0_init wsX0_init ({ frames := 1, cells := 5, slots := 250, locals := 12 } : Room) (va_Pc [.ref o] (PI G cA [(o, .inr (2, [.int 0, .null, .null, .null, .null, .null]))] sz)) (va_Qv (fun _ : Nat × Nat × Nat × Nat × Nat => True) (fun u t => va_P G vwCl (kI_X0 cA o u) t.heap ∧ va_D (va_A [(o, .inr (2, [.int 0, .null, .null, .null, .null, .null]))] sz) (kI_X0 cA o u)) (va_A [(o, .inr (2, [.int 0, .null, .null, .null, .null, .null]))] sz)) 5 250 (va_A [(o, .inr (2, [.int 0, .null, .null, .null, .null, .null]))] sz) := by
  refine metI (by decide) rfl rfl (Nat.le_of_ble_eq_true rfl) ?_
  intro p e s m av below meth c Q ls A H hx hb hml hts hown hP hK hR hD hA hS hl hin hret
  have i_X0 : ∀ w ∈ wsX00, w ∈ wsX0_init := by decide +kernel
  refine lv_aload_n hx hb dX0_init_0 rfl (lv_at hl 0 rfl) ?_
  refine W.objInit hx hb hown (hts (.methodLink RX0 3 objectInit) (by decide +kernel)) (hts (.instanceMethod objectInit) (by decide +kernel)) (hts _ (List.mem_of_getElem? (i := 3) rfl)) rfl (by rw [hml]; exact hl.1) rfl dX0_init_1 (Nat.le_of_ble_eq_true rfl) (Nat.le_of_ble_eq_true rfl) ?_
  refine W.eq (g2 := F0 m 4 ls []) rfl ?_
  refine lv_aload_n hx hb dX0_init_4 rfl (lv_at hl 0 rfl) ?_
  refine lv_iconst (v := (0 : Int32)) hx hb dX0_init_5 (by decide) ?_
  refine va_put (D := G) (ci := 2) (v := .int 0) (ty := .int) (C := RX0) (T := TX0) (N := 6) hx hb hts i_X0 tyX0 tyX0_ok nmX0 hown hK.1 hP hD hS 0 rfl rfl 0 (by decide) (hts (.fieldLink RX0 9 "ParcelRegistry$Deeds" "count" "I") (by decide +kernel)) (fun _ h9 => h9) rfl (by decide +kernel) rfl rfl (Nat.le_of_ble_eq_true rfl) dX0_init_6 (fun H locs hP hD hS => ?_)
  have hP : va_P G vwCl [(o, .inr (2, [.int 0, .null, .null, .null, .null, .null]))] H := hP
  have hD : va_D A [(o, .inr (2, [.int 0, .null, .null, .null, .null, .null]))] := hD
  refine lv_aload_n hx hb dX0_init_9 rfl (lv_at hl 0 rfl) ?_
  refine lv_bipush (v := (60 : Int32)) hx hb dX0_init_10 (by decide) ?_
  refine va_newa (atype := .int) (ty := .int) hx hb (hts (.arrayClass .int) (by decide +kernel)) rfl hK.1 hP hD hS hA (N' := 60) (a0 := (60, .inl z0)) (fun _ => rfl) (by decide) rfl (Nat.le_of_ble_eq_true rfl) (Nat.le_of_ble_eq_true rfl) (Nat.le_of_ble_eq_true rfl) dX0_init_12 (fun q0 c' H hK' hP hD hS => ?_)
  obtain rfl : c' = cA 0 := arrI hK hK'
  clear hK'
  have hP : va_P G vwCl [(o, .inr (2, [.int 0, .null, .null, .null, .null, .null])), (q0, .inl (cA 0, 60, .inl z0))] H := hP
  have hD : va_D A [(o, .inr (2, [.int 0, .null, .null, .null, .null, .null])), (q0, .inl (cA 0, 60, .inl z0))] := hD
  refine va_putF (D := G) (ci := 2) (v := .ref q0) (ty := .array .int) (C := RX0) (T := TX0) (N := 6) hx hb hts i_X0 tyX0 tyX0_ok nmX0 hown hK.1 hP hD hS 0 rfl rfl 1 (by decide) (hts (.fieldLink RX0 15 "ParcelRegistry$Deeds" "parcelOf" "[I") (by decide +kernel)) (fun _ h9 => h9) rfl hin rfl (by decide +kernel) rfl rfl (Nat.le_of_ble_eq_true rfl) dX0_init_14 (fun H locs hP hD hS => ?_)
  have hP : va_P G vwCl [(o, .inr (2, [.int 0, .ref q0, .null, .null, .null, .null])), (q0, .inl (cA 0, 60, .inl z0))] H := hP
  have hD : va_D A [(o, .inr (2, [.int 0, .ref q0, .null, .null, .null, .null])), (q0, .inl (cA 0, 60, .inl z0))] := hD
  refine lv_aload_n hx hb dX0_init_17 rfl (lv_at hl 0 rfl) ?_
  refine lv_bipush (v := (60 : Int32)) hx hb dX0_init_18 (by decide) ?_
  refine va_newa (atype := .int) (ty := .int) hx hb (hts (.arrayClass .int) (by decide +kernel)) rfl hK.1 hP hD hS hA (N' := 60) (a0 := (60, .inl z0)) (fun _ => rfl) (by decide) rfl (Nat.le_of_ble_eq_true rfl) (Nat.le_of_ble_eq_true rfl) (Nat.le_of_ble_eq_true rfl) dX0_init_20 (fun q1 c' H hK' hP hD hS => ?_)
  obtain rfl : c' = cA 0 := arrI hK hK'
  clear hK'
  have hP : va_P G vwCl [(o, .inr (2, [.int 0, .ref q0, .null, .null, .null, .null])), (q0, .inl (cA 0, 60, .inl z0)), (q1, .inl (cA 0, 60, .inl z0))] H := hP
  have hD : va_D A [(o, .inr (2, [.int 0, .ref q0, .null, .null, .null, .null])), (q0, .inl (cA 0, 60, .inl z0)), (q1, .inl (cA 0, 60, .inl z0))] := hD
  refine va_putF (D := G) (ci := 2) (v := .ref q1) (ty := .array .int) (C := RX0) (T := TX0) (N := 6) hx hb hts i_X0 tyX0 tyX0_ok nmX0 hown hK.1 hP hD hS 0 rfl rfl 2 (by decide) (hts (.fieldLink RX0 19 "ParcelRegistry$Deeds" "grantor" "[I") (by decide +kernel)) (fun _ h9 => h9) rfl hin rfl (by decide +kernel) rfl rfl (Nat.le_of_ble_eq_true rfl) dX0_init_22 (fun H locs hP hD hS => ?_)
  have hP : va_P G vwCl [(o, .inr (2, [.int 0, .ref q0, .ref q1, .null, .null, .null])), (q0, .inl (cA 0, 60, .inl z0)), (q1, .inl (cA 0, 60, .inl z0))] H := hP
  have hD : va_D A [(o, .inr (2, [.int 0, .ref q0, .ref q1, .null, .null, .null])), (q0, .inl (cA 0, 60, .inl z0)), (q1, .inl (cA 0, 60, .inl z0))] := hD
  refine lv_aload_n hx hb dX0_init_25 rfl (lv_at hl 0 rfl) ?_
  refine lv_bipush (v := (60 : Int32)) hx hb dX0_init_26 (by decide) ?_
  refine va_newa (atype := .int) (ty := .int) hx hb (hts (.arrayClass .int) (by decide +kernel)) rfl hK.1 hP hD hS hA (N' := 60) (a0 := (60, .inl z0)) (fun _ => rfl) (by decide) rfl (Nat.le_of_ble_eq_true rfl) (Nat.le_of_ble_eq_true rfl) (Nat.le_of_ble_eq_true rfl) dX0_init_28 (fun q2 c' H hK' hP hD hS => ?_)
  obtain rfl : c' = cA 0 := arrI hK hK'
  clear hK'
  have hP : va_P G vwCl [(o, .inr (2, [.int 0, .ref q0, .ref q1, .null, .null, .null])), (q0, .inl (cA 0, 60, .inl z0)), (q1, .inl (cA 0, 60, .inl z0)), (q2, .inl (cA 0, 60, .inl z0))] H := hP
  have hD : va_D A [(o, .inr (2, [.int 0, .ref q0, .ref q1, .null, .null, .null])), (q0, .inl (cA 0, 60, .inl z0)), (q1, .inl (cA 0, 60, .inl z0)), (q2, .inl (cA 0, 60, .inl z0))] := hD
  refine va_putF (D := G) (ci := 2) (v := .ref q2) (ty := .array .int) (C := RX0) (T := TX0) (N := 6) hx hb hts i_X0 tyX0 tyX0_ok nmX0 hown hK.1 hP hD hS 0 rfl rfl 3 (by decide) (hts (.fieldLink RX0 22 "ParcelRegistry$Deeds" "grantee" "[I") (by decide +kernel)) (fun _ h9 => h9) rfl hin rfl (by decide +kernel) rfl rfl (Nat.le_of_ble_eq_true rfl) dX0_init_30 (fun H locs hP hD hS => ?_)
  have hP : va_P G vwCl [(o, .inr (2, [.int 0, .ref q0, .ref q1, .ref q2, .null, .null])), (q0, .inl (cA 0, 60, .inl z0)), (q1, .inl (cA 0, 60, .inl z0)), (q2, .inl (cA 0, 60, .inl z0))] H := hP
  have hD : va_D A [(o, .inr (2, [.int 0, .ref q0, .ref q1, .ref q2, .null, .null])), (q0, .inl (cA 0, 60, .inl z0)), (q1, .inl (cA 0, 60, .inl z0)), (q2, .inl (cA 0, 60, .inl z0))] := hD
  refine lv_aload_n hx hb dX0_init_33 rfl (lv_at hl 0 rfl) ?_
  refine lv_bipush (v := (60 : Int32)) hx hb dX0_init_34 (by decide) ?_
  refine va_newa (atype := .int) (ty := .int) hx hb (hts (.arrayClass .int) (by decide +kernel)) rfl hK.1 hP hD hS hA (N' := 60) (a0 := (60, .inl z0)) (fun _ => rfl) (by decide) rfl (Nat.le_of_ble_eq_true rfl) (Nat.le_of_ble_eq_true rfl) (Nat.le_of_ble_eq_true rfl) dX0_init_36 (fun q3 c' H hK' hP hD hS => ?_)
  obtain rfl : c' = cA 0 := arrI hK hK'
  clear hK'
  have hP : va_P G vwCl [(o, .inr (2, [.int 0, .ref q0, .ref q1, .ref q2, .null, .null])), (q0, .inl (cA 0, 60, .inl z0)), (q1, .inl (cA 0, 60, .inl z0)), (q2, .inl (cA 0, 60, .inl z0)), (q3, .inl (cA 0, 60, .inl z0))] H := hP
  have hD : va_D A [(o, .inr (2, [.int 0, .ref q0, .ref q1, .ref q2, .null, .null])), (q0, .inl (cA 0, 60, .inl z0)), (q1, .inl (cA 0, 60, .inl z0)), (q2, .inl (cA 0, 60, .inl z0)), (q3, .inl (cA 0, 60, .inl z0))] := hD
  refine va_putF (D := G) (ci := 2) (v := .ref q3) (ty := .array .int) (C := RX0) (T := TX0) (N := 6) hx hb hts i_X0 tyX0 tyX0_ok nmX0 hown hK.1 hP hD hS 0 rfl rfl 4 (by decide) (hts (.fieldLink RX0 25 "ParcelRegistry$Deeds" "dayOf" "[I") (by decide +kernel)) (fun _ h9 => h9) rfl hin rfl (by decide +kernel) rfl rfl (Nat.le_of_ble_eq_true rfl) dX0_init_38 (fun H locs hP hD hS => ?_)
  have hP : va_P G vwCl [(o, .inr (2, [.int 0, .ref q0, .ref q1, .ref q2, .ref q3, .null])), (q0, .inl (cA 0, 60, .inl z0)), (q1, .inl (cA 0, 60, .inl z0)), (q2, .inl (cA 0, 60, .inl z0)), (q3, .inl (cA 0, 60, .inl z0))] H := hP
  have hD : va_D A [(o, .inr (2, [.int 0, .ref q0, .ref q1, .ref q2, .ref q3, .null])), (q0, .inl (cA 0, 60, .inl z0)), (q1, .inl (cA 0, 60, .inl z0)), (q2, .inl (cA 0, 60, .inl z0)), (q3, .inl (cA 0, 60, .inl z0))] := hD
  refine lv_aload_n hx hb dX0_init_41 rfl (lv_at hl 0 rfl) ?_
  refine lv_bipush (v := (10 : Int32)) hx hb dX0_init_42 (by decide) ?_
  refine va_newa (atype := .int) (ty := .int) hx hb (hts (.arrayClass .int) (by decide +kernel)) rfl hK.1 hP hD hS hA (N' := 10) (a0 := (10, .inl z0)) (fun _ => rfl) (by decide) rfl (Nat.le_of_ble_eq_true rfl) (Nat.le_of_ble_eq_true rfl) (Nat.le_of_ble_eq_true rfl) dX0_init_44 (fun q4 c' H hK' hP hD hS => ?_)
  obtain rfl : c' = cA 0 := arrI hK hK'
  clear hK'
  have hP : va_P G vwCl [(o, .inr (2, [.int 0, .ref q0, .ref q1, .ref q2, .ref q3, .null])), (q0, .inl (cA 0, 60, .inl z0)), (q1, .inl (cA 0, 60, .inl z0)), (q2, .inl (cA 0, 60, .inl z0)), (q3, .inl (cA 0, 60, .inl z0)), (q4, .inl (cA 0, 10, .inl z0))] H := hP
  have hD : va_D A [(o, .inr (2, [.int 0, .ref q0, .ref q1, .ref q2, .ref q3, .null])), (q0, .inl (cA 0, 60, .inl z0)), (q1, .inl (cA 0, 60, .inl z0)), (q2, .inl (cA 0, 60, .inl z0)), (q3, .inl (cA 0, 60, .inl z0)), (q4, .inl (cA 0, 10, .inl z0))] := hD
  refine va_putF (D := G) (ci := 2) (v := .ref q4) (ty := .array .int) (C := RX0) (T := TX0) (N := 6) hx hb hts i_X0 tyX0 tyX0_ok nmX0 hown hK.1 hP hD hS 0 rfl rfl 5 (by decide) (hts (.fieldLink RX0 28 "ParcelRegistry$Deeds" "most" "[I") (by decide +kernel)) (fun _ h9 => h9) rfl hin rfl (by decide +kernel) rfl rfl (Nat.le_of_ble_eq_true rfl) dX0_init_46 (fun H locs hP hD hS => ?_)
  have hP : va_P G vwCl [(o, .inr (2, [.int 0, .ref q0, .ref q1, .ref q2, .ref q3, .ref q4])), (q0, .inl (cA 0, 60, .inl z0)), (q1, .inl (cA 0, 60, .inl z0)), (q2, .inl (cA 0, 60, .inl z0)), (q3, .inl (cA 0, 60, .inl z0)), (q4, .inl (cA 0, 10, .inl z0))] H := hP
  have hD : va_D A [(o, .inr (2, [.int 0, .ref q0, .ref q1, .ref q2, .ref q3, .ref q4])), (q0, .inl (cA 0, 60, .inl z0)), (q1, .inl (cA 0, 60, .inl z0)), (q2, .inl (cA 0, 60, .inl z0)), (q3, .inl (cA 0, 60, .inl z0)), (q4, .inl (cA 0, 10, .inl z0))] := hD
  exact hret _ _ ((q0, q1, q2, q3, q4)) _ _ _ _ dX0_init_49 hP hD hS (Nat.le_of_ble_eq_true rfl) (Nat.le_of_ble_eq_true rfl)
abbrev kI_X1 (cA : Nat → ClassId) (o : Nat) (u : Nat × Nat × Nat × Nat × Nat) : va_W := [(o, .inr (3, [.int 0, .ref (u.1), .ref (u.2.1), .ref (u.2.2.1), .ref (u.2.2.2.1), .ref (u.2.2.2.2)])), ((u.1), .inl (cA 0, 30, .inl z0)), ((u.2.1), .inl (cA 0, 30, .inl z0)), ((u.2.2.1), .inl (cA 0, 30, .inl z0)), ((u.2.2.2.1), .inl (cA 0, 30, .inl z0)), ((u.2.2.2.2), .inl (cA 0, 30, .inl z0))]
set_option maxHeartbeats 4000000 in
set_option maxRecDepth 100000 in
theorem c_X1_init (l : Launch) (G : va_G) (cA : Nat → ClassId) (o sz : Nat) : Met l yX1_init wsX1_init ({ frames := 1, cells := 5, slots := 150, locals := 12 } : Room) (va_Pc [.ref o] (PI G cA [(o, .inr (3, [.int 0, .null, .null, .null, .null, .null]))] sz)) (va_Qv (fun _ : Nat × Nat × Nat × Nat × Nat => True) (fun u t => va_P G vwCl (kI_X1 cA o u) t.heap ∧ va_D (va_A [(o, .inr (3, [.int 0, .null, .null, .null, .null, .null]))] sz) (kI_X1 cA o u)) (va_A [(o, .inr (3, [.int 0, .null, .null, .null, .null, .null]))] sz)) 5 150 (va_A [(o, .inr (3, [.int 0, .null, .null, .null, .null, .null]))] sz) := by
  refine metI (by decide) rfl rfl (Nat.le_of_ble_eq_true rfl) ?_
  intro p e s m av below meth c Q ls A H hx hb hml hts hown hP hK hR hD hA hS hl hin hret
  have i_X1 : ∀ w ∈ wsX10, w ∈ wsX1_init := by decide +kernel
  refine lv_aload_n hx hb dX1_init_0 rfl (lv_at hl 0 rfl) ?_
  refine W.objInit hx hb hown (hts (.methodLink RX1 3 objectInit) (by decide +kernel)) (hts (.instanceMethod objectInit) (by decide +kernel)) (hts _ (List.mem_of_getElem? (i := 3) rfl)) rfl (by rw [hml]; exact hl.1) rfl dX1_init_1 (Nat.le_of_ble_eq_true rfl) (Nat.le_of_ble_eq_true rfl) ?_
  refine W.eq (g2 := F0 m 4 ls []) rfl ?_
  refine lv_aload_n hx hb dX1_init_4 rfl (lv_at hl 0 rfl) ?_
  refine lv_iconst (v := (0 : Int32)) hx hb dX1_init_5 (by decide) ?_
  refine va_put (D := G) (ci := 3) (v := .int 0) (ty := .int) (C := RX1) (T := TX1) (N := 6) hx hb hts i_X1 tyX1 tyX1_ok nmX1 hown hK.1 hP hD hS 0 rfl rfl 0 (by decide) (hts (.fieldLink RX1 9 "ParcelRegistry$Easements" "count" "I") (by decide +kernel)) (fun _ h9 => h9) rfl (by decide +kernel) rfl rfl (Nat.le_of_ble_eq_true rfl) dX1_init_6 (fun H locs hP hD hS => ?_)
  have hP : va_P G vwCl [(o, .inr (3, [.int 0, .null, .null, .null, .null, .null]))] H := hP
  have hD : va_D A [(o, .inr (3, [.int 0, .null, .null, .null, .null, .null]))] := hD
  refine lv_aload_n hx hb dX1_init_9 rfl (lv_at hl 0 rfl) ?_
  refine lv_bipush (v := (30 : Int32)) hx hb dX1_init_10 (by decide) ?_
  refine va_newa (atype := .int) (ty := .int) hx hb (hts (.arrayClass .int) (by decide +kernel)) rfl hK.1 hP hD hS hA (N' := 30) (a0 := (30, .inl z0)) (fun _ => rfl) (by decide) rfl (Nat.le_of_ble_eq_true rfl) (Nat.le_of_ble_eq_true rfl) (Nat.le_of_ble_eq_true rfl) dX1_init_12 (fun q0 c' H hK' hP hD hS => ?_)
  obtain rfl : c' = cA 0 := arrI hK hK'
  clear hK'
  have hP : va_P G vwCl [(o, .inr (3, [.int 0, .null, .null, .null, .null, .null])), (q0, .inl (cA 0, 30, .inl z0))] H := hP
  have hD : va_D A [(o, .inr (3, [.int 0, .null, .null, .null, .null, .null])), (q0, .inl (cA 0, 30, .inl z0))] := hD
  refine va_putF (D := G) (ci := 3) (v := .ref q0) (ty := .array .int) (C := RX1) (T := TX1) (N := 6) hx hb hts i_X1 tyX1 tyX1_ok nmX1 hown hK.1 hP hD hS 0 rfl rfl 1 (by decide) (hts (.fieldLink RX1 15 "ParcelRegistry$Easements" "kind" "[I") (by decide +kernel)) (fun _ h9 => h9) rfl hin rfl (by decide +kernel) rfl rfl (Nat.le_of_ble_eq_true rfl) dX1_init_14 (fun H locs hP hD hS => ?_)
  have hP : va_P G vwCl [(o, .inr (3, [.int 0, .ref q0, .null, .null, .null, .null])), (q0, .inl (cA 0, 30, .inl z0))] H := hP
  have hD : va_D A [(o, .inr (3, [.int 0, .ref q0, .null, .null, .null, .null])), (q0, .inl (cA 0, 30, .inl z0))] := hD
  refine lv_aload_n hx hb dX1_init_17 rfl (lv_at hl 0 rfl) ?_
  refine lv_bipush (v := (30 : Int32)) hx hb dX1_init_18 (by decide) ?_
  refine va_newa (atype := .int) (ty := .int) hx hb (hts (.arrayClass .int) (by decide +kernel)) rfl hK.1 hP hD hS hA (N' := 30) (a0 := (30, .inl z0)) (fun _ => rfl) (by decide) rfl (Nat.le_of_ble_eq_true rfl) (Nat.le_of_ble_eq_true rfl) (Nat.le_of_ble_eq_true rfl) dX1_init_20 (fun q1 c' H hK' hP hD hS => ?_)
  obtain rfl : c' = cA 0 := arrI hK hK'
  clear hK'
  have hP : va_P G vwCl [(o, .inr (3, [.int 0, .ref q0, .null, .null, .null, .null])), (q0, .inl (cA 0, 30, .inl z0)), (q1, .inl (cA 0, 30, .inl z0))] H := hP
  have hD : va_D A [(o, .inr (3, [.int 0, .ref q0, .null, .null, .null, .null])), (q0, .inl (cA 0, 30, .inl z0)), (q1, .inl (cA 0, 30, .inl z0))] := hD
  refine va_putF (D := G) (ci := 3) (v := .ref q1) (ty := .array .int) (C := RX1) (T := TX1) (N := 6) hx hb hts i_X1 tyX1 tyX1_ok nmX1 hown hK.1 hP hD hS 0 rfl rfl 2 (by decide) (hts (.fieldLink RX1 19 "ParcelRegistry$Easements" "on" "[I") (by decide +kernel)) (fun _ h9 => h9) rfl hin rfl (by decide +kernel) rfl rfl (Nat.le_of_ble_eq_true rfl) dX1_init_22 (fun H locs hP hD hS => ?_)
  have hP : va_P G vwCl [(o, .inr (3, [.int 0, .ref q0, .ref q1, .null, .null, .null])), (q0, .inl (cA 0, 30, .inl z0)), (q1, .inl (cA 0, 30, .inl z0))] H := hP
  have hD : va_D A [(o, .inr (3, [.int 0, .ref q0, .ref q1, .null, .null, .null])), (q0, .inl (cA 0, 30, .inl z0)), (q1, .inl (cA 0, 30, .inl z0))] := hD
  refine lv_aload_n hx hb dX1_init_25 rfl (lv_at hl 0 rfl) ?_
  refine lv_bipush (v := (30 : Int32)) hx hb dX1_init_26 (by decide) ?_
  refine va_newa (atype := .int) (ty := .int) hx hb (hts (.arrayClass .int) (by decide +kernel)) rfl hK.1 hP hD hS hA (N' := 30) (a0 := (30, .inl z0)) (fun _ => rfl) (by decide) rfl (Nat.le_of_ble_eq_true rfl) (Nat.le_of_ble_eq_true rfl) (Nat.le_of_ble_eq_true rfl) dX1_init_28 (fun q2 c' H hK' hP hD hS => ?_)
  obtain rfl : c' = cA 0 := arrI hK hK'
  clear hK'
  have hP : va_P G vwCl [(o, .inr (3, [.int 0, .ref q0, .ref q1, .null, .null, .null])), (q0, .inl (cA 0, 30, .inl z0)), (q1, .inl (cA 0, 30, .inl z0)), (q2, .inl (cA 0, 30, .inl z0))] H := hP
  have hD : va_D A [(o, .inr (3, [.int 0, .ref q0, .ref q1, .null, .null, .null])), (q0, .inl (cA 0, 30, .inl z0)), (q1, .inl (cA 0, 30, .inl z0)), (q2, .inl (cA 0, 30, .inl z0))] := hD
  refine va_putF (D := G) (ci := 3) (v := .ref q2) (ty := .array .int) (C := RX1) (T := TX1) (N := 6) hx hb hts i_X1 tyX1 tyX1_ok nmX1 hown hK.1 hP hD hS 0 rfl rfl 3 (by decide) (hts (.fieldLink RX1 22 "ParcelRegistry$Easements" "serves" "[I") (by decide +kernel)) (fun _ h9 => h9) rfl hin rfl (by decide +kernel) rfl rfl (Nat.le_of_ble_eq_true rfl) dX1_init_30 (fun H locs hP hD hS => ?_)
  have hP : va_P G vwCl [(o, .inr (3, [.int 0, .ref q0, .ref q1, .ref q2, .null, .null])), (q0, .inl (cA 0, 30, .inl z0)), (q1, .inl (cA 0, 30, .inl z0)), (q2, .inl (cA 0, 30, .inl z0))] H := hP
  have hD : va_D A [(o, .inr (3, [.int 0, .ref q0, .ref q1, .ref q2, .null, .null])), (q0, .inl (cA 0, 30, .inl z0)), (q1, .inl (cA 0, 30, .inl z0)), (q2, .inl (cA 0, 30, .inl z0))] := hD
  refine lv_aload_n hx hb dX1_init_33 rfl (lv_at hl 0 rfl) ?_
  refine lv_bipush (v := (30 : Int32)) hx hb dX1_init_34 (by decide) ?_
  refine va_newa (atype := .int) (ty := .int) hx hb (hts (.arrayClass .int) (by decide +kernel)) rfl hK.1 hP hD hS hA (N' := 30) (a0 := (30, .inl z0)) (fun _ => rfl) (by decide) rfl (Nat.le_of_ble_eq_true rfl) (Nat.le_of_ble_eq_true rfl) (Nat.le_of_ble_eq_true rfl) dX1_init_36 (fun q3 c' H hK' hP hD hS => ?_)
  obtain rfl : c' = cA 0 := arrI hK hK'
  clear hK'
  have hP : va_P G vwCl [(o, .inr (3, [.int 0, .ref q0, .ref q1, .ref q2, .null, .null])), (q0, .inl (cA 0, 30, .inl z0)), (q1, .inl (cA 0, 30, .inl z0)), (q2, .inl (cA 0, 30, .inl z0)), (q3, .inl (cA 0, 30, .inl z0))] H := hP
  have hD : va_D A [(o, .inr (3, [.int 0, .ref q0, .ref q1, .ref q2, .null, .null])), (q0, .inl (cA 0, 30, .inl z0)), (q1, .inl (cA 0, 30, .inl z0)), (q2, .inl (cA 0, 30, .inl z0)), (q3, .inl (cA 0, 30, .inl z0))] := hD
  refine va_putF (D := G) (ci := 3) (v := .ref q3) (ty := .array .int) (C := RX1) (T := TX1) (N := 6) hx hb hts i_X1 tyX1 tyX1_ok nmX1 hown hK.1 hP hD hS 0 rfl rfl 4 (by decide) (hts (.fieldLink RX1 25 "ParcelRegistry$Easements" "firstDay" "[I") (by decide +kernel)) (fun _ h9 => h9) rfl hin rfl (by decide +kernel) rfl rfl (Nat.le_of_ble_eq_true rfl) dX1_init_38 (fun H locs hP hD hS => ?_)
  have hP : va_P G vwCl [(o, .inr (3, [.int 0, .ref q0, .ref q1, .ref q2, .ref q3, .null])), (q0, .inl (cA 0, 30, .inl z0)), (q1, .inl (cA 0, 30, .inl z0)), (q2, .inl (cA 0, 30, .inl z0)), (q3, .inl (cA 0, 30, .inl z0))] H := hP
  have hD : va_D A [(o, .inr (3, [.int 0, .ref q0, .ref q1, .ref q2, .ref q3, .null])), (q0, .inl (cA 0, 30, .inl z0)), (q1, .inl (cA 0, 30, .inl z0)), (q2, .inl (cA 0, 30, .inl z0)), (q3, .inl (cA 0, 30, .inl z0))] := hD
  refine lv_aload_n hx hb dX1_init_41 rfl (lv_at hl 0 rfl) ?_
  refine lv_bipush (v := (30 : Int32)) hx hb dX1_init_42 (by decide) ?_
  refine va_newa (atype := .int) (ty := .int) hx hb (hts (.arrayClass .int) (by decide +kernel)) rfl hK.1 hP hD hS hA (N' := 30) (a0 := (30, .inl z0)) (fun _ => rfl) (by decide) rfl (Nat.le_of_ble_eq_true rfl) (Nat.le_of_ble_eq_true rfl) (Nat.le_of_ble_eq_true rfl) dX1_init_44 (fun q4 c' H hK' hP hD hS => ?_)
  obtain rfl : c' = cA 0 := arrI hK hK'
  clear hK'
  have hP : va_P G vwCl [(o, .inr (3, [.int 0, .ref q0, .ref q1, .ref q2, .ref q3, .null])), (q0, .inl (cA 0, 30, .inl z0)), (q1, .inl (cA 0, 30, .inl z0)), (q2, .inl (cA 0, 30, .inl z0)), (q3, .inl (cA 0, 30, .inl z0)), (q4, .inl (cA 0, 30, .inl z0))] H := hP
  have hD : va_D A [(o, .inr (3, [.int 0, .ref q0, .ref q1, .ref q2, .ref q3, .null])), (q0, .inl (cA 0, 30, .inl z0)), (q1, .inl (cA 0, 30, .inl z0)), (q2, .inl (cA 0, 30, .inl z0)), (q3, .inl (cA 0, 30, .inl z0)), (q4, .inl (cA 0, 30, .inl z0))] := hD
  refine va_putF (D := G) (ci := 3) (v := .ref q4) (ty := .array .int) (C := RX1) (T := TX1) (N := 6) hx hb hts i_X1 tyX1 tyX1_ok nmX1 hown hK.1 hP hD hS 0 rfl rfl 5 (by decide) (hts (.fieldLink RX1 28 "ParcelRegistry$Easements" "lastDay" "[I") (by decide +kernel)) (fun _ h9 => h9) rfl hin rfl (by decide +kernel) rfl rfl (Nat.le_of_ble_eq_true rfl) dX1_init_46 (fun H locs hP hD hS => ?_)
  have hP : va_P G vwCl [(o, .inr (3, [.int 0, .ref q0, .ref q1, .ref q2, .ref q3, .ref q4])), (q0, .inl (cA 0, 30, .inl z0)), (q1, .inl (cA 0, 30, .inl z0)), (q2, .inl (cA 0, 30, .inl z0)), (q3, .inl (cA 0, 30, .inl z0)), (q4, .inl (cA 0, 30, .inl z0))] H := hP
  have hD : va_D A [(o, .inr (3, [.int 0, .ref q0, .ref q1, .ref q2, .ref q3, .ref q4])), (q0, .inl (cA 0, 30, .inl z0)), (q1, .inl (cA 0, 30, .inl z0)), (q2, .inl (cA 0, 30, .inl z0)), (q3, .inl (cA 0, 30, .inl z0)), (q4, .inl (cA 0, 30, .inl z0))] := hD
  exact hret _ _ ((q0, q1, q2, q3, q4)) _ _ _ _ dX1_init_49 hP hD hS (Nat.le_of_ble_eq_true rfl) (Nat.le_of_ble_eq_true rfl)
abbrev kI_X3 (cA : Nat → ClassId) (o : Nat) (u : Nat × Nat × Nat × Nat) : va_W := [(o, .inr (5, [.int 0, .int 0, .ref (u.1), .ref (u.2.1), .ref (u.2.2.1), .ref (u.2.2.2)])), ((u.1), .inl (cA 0, 20, .inl z0)), ((u.2.1), .inl (cA 0, 20, .inl z0)), ((u.2.2.1), .inl (cA 0, 20, .inl z0)), ((u.2.2.2), .inl (cA 0, 20, .inl z0))]
set_option maxHeartbeats 4000000 in
set_option maxRecDepth 100000 in
theorem c_X3_init (l : Launch) (G : va_G) (cA : Nat → ClassId) (o sz : Nat) : Met l yX3_init wsX3_init ({ frames := 1, cells := 4, slots := 80, locals := 12 } : Room) (va_Pc [.ref o] (PI G cA [(o, .inr (5, [.int 0, .int 0, .null, .null, .null, .null]))] sz)) (va_Qv (fun _ : Nat × Nat × Nat × Nat => True) (fun u t => va_P G vwCl (kI_X3 cA o u) t.heap ∧ va_D (va_A [(o, .inr (5, [.int 0, .int 0, .null, .null, .null, .null]))] sz) (kI_X3 cA o u)) (va_A [(o, .inr (5, [.int 0, .int 0, .null, .null, .null, .null]))] sz)) 4 80 (va_A [(o, .inr (5, [.int 0, .int 0, .null, .null, .null, .null]))] sz) := by
  refine metI (by decide) rfl rfl (Nat.le_of_ble_eq_true rfl) ?_
  intro p e s m av below meth c Q ls A H hx hb hml hts hown hP hK hR hD hA hS hl hin hret
  have i_X3 : ∀ w ∈ wsX30, w ∈ wsX3_init := by decide +kernel
  refine lv_aload_n hx hb dX3_init_0 rfl (lv_at hl 0 rfl) ?_
  refine W.objInit hx hb hown (hts (.methodLink RX3 3 objectInit) (by decide +kernel)) (hts (.instanceMethod objectInit) (by decide +kernel)) (hts _ (List.mem_of_getElem? (i := 3) rfl)) rfl (by rw [hml]; exact hl.1) rfl dX3_init_1 (Nat.le_of_ble_eq_true rfl) (Nat.le_of_ble_eq_true rfl) ?_
  refine W.eq (g2 := F0 m 4 ls []) rfl ?_
  refine lv_aload_n hx hb dX3_init_4 rfl (lv_at hl 0 rfl) ?_
  refine lv_iconst (v := (0 : Int32)) hx hb dX3_init_5 (by decide) ?_
  refine va_put (D := G) (ci := 5) (v := .int 0) (ty := .int) (C := RX3) (T := TX3) (N := 6) hx hb hts i_X3 tyX3 tyX3_ok nmX3 hown hK.1 hP hD hS 0 rfl rfl 0 (by decide) (hts (.fieldLink RX3 9 "ParcelRegistry$Liens" "count" "I") (by decide +kernel)) (fun _ h9 => h9) rfl (by decide +kernel) rfl rfl (Nat.le_of_ble_eq_true rfl) dX3_init_6 (fun H locs hP hD hS => ?_)
  have hP : va_P G vwCl [(o, .inr (5, [.int 0, .int 0, .null, .null, .null, .null]))] H := hP
  have hD : va_D A [(o, .inr (5, [.int 0, .int 0, .null, .null, .null, .null]))] := hD
  refine lv_aload_n hx hb dX3_init_9 rfl (lv_at hl 0 rfl) ?_
  refine lv_iconst (v := (0 : Int32)) hx hb dX3_init_10 (by decide) ?_
  refine va_put (D := G) (ci := 5) (v := .int 0) (ty := .int) (C := RX3) (T := TX3) (N := 6) hx hb hts i_X3 tyX3 tyX3_ok nmX3 hown hK.1 hP hD hS 0 rfl rfl 1 (by decide) (hts (.fieldLink RX3 15 "ParcelRegistry$Liens" "ranked" "I") (by decide +kernel)) (fun _ h9 => h9) rfl (by decide +kernel) rfl rfl (Nat.le_of_ble_eq_true rfl) dX3_init_11 (fun H locs hP hD hS => ?_)
  have hP : va_P G vwCl [(o, .inr (5, [.int 0, .int 0, .null, .null, .null, .null]))] H := hP
  have hD : va_D A [(o, .inr (5, [.int 0, .int 0, .null, .null, .null, .null]))] := hD
  refine lv_aload_n hx hb dX3_init_14 rfl (lv_at hl 0 rfl) ?_
  refine lv_bipush (v := (20 : Int32)) hx hb dX3_init_15 (by decide) ?_
  refine va_newa (atype := .int) (ty := .int) hx hb (hts (.arrayClass .int) (by decide +kernel)) rfl hK.1 hP hD hS hA (N' := 20) (a0 := (20, .inl z0)) (fun _ => rfl) (by decide) rfl (Nat.le_of_ble_eq_true rfl) (Nat.le_of_ble_eq_true rfl) (Nat.le_of_ble_eq_true rfl) dX3_init_17 (fun q0 c' H hK' hP hD hS => ?_)
  obtain rfl : c' = cA 0 := arrI hK hK'
  clear hK'
  have hP : va_P G vwCl [(o, .inr (5, [.int 0, .int 0, .null, .null, .null, .null])), (q0, .inl (cA 0, 20, .inl z0))] H := hP
  have hD : va_D A [(o, .inr (5, [.int 0, .int 0, .null, .null, .null, .null])), (q0, .inl (cA 0, 20, .inl z0))] := hD
  refine va_putF (D := G) (ci := 5) (v := .ref q0) (ty := .array .int) (C := RX3) (T := TX3) (N := 6) hx hb hts i_X3 tyX3 tyX3_ok nmX3 hown hK.1 hP hD hS 0 rfl rfl 2 (by decide) (hts (.fieldLink RX3 18 "ParcelRegistry$Liens" "creditor" "[I") (by decide +kernel)) (fun _ h9 => h9) rfl hin rfl (by decide +kernel) rfl rfl (Nat.le_of_ble_eq_true rfl) dX3_init_19 (fun H locs hP hD hS => ?_)
  have hP : va_P G vwCl [(o, .inr (5, [.int 0, .int 0, .ref q0, .null, .null, .null])), (q0, .inl (cA 0, 20, .inl z0))] H := hP
  have hD : va_D A [(o, .inr (5, [.int 0, .int 0, .ref q0, .null, .null, .null])), (q0, .inl (cA 0, 20, .inl z0))] := hD
  refine lv_aload_n hx hb dX3_init_22 rfl (lv_at hl 0 rfl) ?_
  refine lv_bipush (v := (20 : Int32)) hx hb dX3_init_23 (by decide) ?_
  refine va_newa (atype := .int) (ty := .int) hx hb (hts (.arrayClass .int) (by decide +kernel)) rfl hK.1 hP hD hS hA (N' := 20) (a0 := (20, .inl z0)) (fun _ => rfl) (by decide) rfl (Nat.le_of_ble_eq_true rfl) (Nat.le_of_ble_eq_true rfl) (Nat.le_of_ble_eq_true rfl) dX3_init_25 (fun q1 c' H hK' hP hD hS => ?_)
  obtain rfl : c' = cA 0 := arrI hK hK'
  clear hK'
  have hP : va_P G vwCl [(o, .inr (5, [.int 0, .int 0, .ref q0, .null, .null, .null])), (q0, .inl (cA 0, 20, .inl z0)), (q1, .inl (cA 0, 20, .inl z0))] H := hP
  have hD : va_D A [(o, .inr (5, [.int 0, .int 0, .ref q0, .null, .null, .null])), (q0, .inl (cA 0, 20, .inl z0)), (q1, .inl (cA 0, 20, .inl z0))] := hD
  refine va_putF (D := G) (ci := 5) (v := .ref q1) (ty := .array .int) (C := RX3) (T := TX3) (N := 6) hx hb hts i_X3 tyX3 tyX3_ok nmX3 hown hK.1 hP hD hS 0 rfl rfl 3 (by decide) (hts (.fieldLink RX3 22 "ParcelRegistry$Liens" "amount" "[I") (by decide +kernel)) (fun _ h9 => h9) rfl hin rfl (by decide +kernel) rfl rfl (Nat.le_of_ble_eq_true rfl) dX3_init_27 (fun H locs hP hD hS => ?_)
  have hP : va_P G vwCl [(o, .inr (5, [.int 0, .int 0, .ref q0, .ref q1, .null, .null])), (q0, .inl (cA 0, 20, .inl z0)), (q1, .inl (cA 0, 20, .inl z0))] H := hP
  have hD : va_D A [(o, .inr (5, [.int 0, .int 0, .ref q0, .ref q1, .null, .null])), (q0, .inl (cA 0, 20, .inl z0)), (q1, .inl (cA 0, 20, .inl z0))] := hD
  refine lv_aload_n hx hb dX3_init_30 rfl (lv_at hl 0 rfl) ?_
  refine lv_bipush (v := (20 : Int32)) hx hb dX3_init_31 (by decide) ?_
  refine va_newa (atype := .int) (ty := .int) hx hb (hts (.arrayClass .int) (by decide +kernel)) rfl hK.1 hP hD hS hA (N' := 20) (a0 := (20, .inl z0)) (fun _ => rfl) (by decide) rfl (Nat.le_of_ble_eq_true rfl) (Nat.le_of_ble_eq_true rfl) (Nat.le_of_ble_eq_true rfl) dX3_init_33 (fun q2 c' H hK' hP hD hS => ?_)
  obtain rfl : c' = cA 0 := arrI hK hK'
  clear hK'
  have hP : va_P G vwCl [(o, .inr (5, [.int 0, .int 0, .ref q0, .ref q1, .null, .null])), (q0, .inl (cA 0, 20, .inl z0)), (q1, .inl (cA 0, 20, .inl z0)), (q2, .inl (cA 0, 20, .inl z0))] H := hP
  have hD : va_D A [(o, .inr (5, [.int 0, .int 0, .ref q0, .ref q1, .null, .null])), (q0, .inl (cA 0, 20, .inl z0)), (q1, .inl (cA 0, 20, .inl z0)), (q2, .inl (cA 0, 20, .inl z0))] := hD
  refine va_putF (D := G) (ci := 5) (v := .ref q2) (ty := .array .int) (C := RX3) (T := TX3) (N := 6) hx hb hts i_X3 tyX3 tyX3_ok nmX3 hown hK.1 hP hD hS 0 rfl rfl 4 (by decide) (hts (.fieldLink RX3 25 "ParcelRegistry$Liens" "parcels" "[I") (by decide +kernel)) (fun _ h9 => h9) rfl hin rfl (by decide +kernel) rfl rfl (Nat.le_of_ble_eq_true rfl) dX3_init_35 (fun H locs hP hD hS => ?_)
  have hP : va_P G vwCl [(o, .inr (5, [.int 0, .int 0, .ref q0, .ref q1, .ref q2, .null])), (q0, .inl (cA 0, 20, .inl z0)), (q1, .inl (cA 0, 20, .inl z0)), (q2, .inl (cA 0, 20, .inl z0))] H := hP
  have hD : va_D A [(o, .inr (5, [.int 0, .int 0, .ref q0, .ref q1, .ref q2, .null])), (q0, .inl (cA 0, 20, .inl z0)), (q1, .inl (cA 0, 20, .inl z0)), (q2, .inl (cA 0, 20, .inl z0))] := hD
  refine lv_aload_n hx hb dX3_init_38 rfl (lv_at hl 0 rfl) ?_
  refine lv_bipush (v := (20 : Int32)) hx hb dX3_init_39 (by decide) ?_
  refine va_newa (atype := .int) (ty := .int) hx hb (hts (.arrayClass .int) (by decide +kernel)) rfl hK.1 hP hD hS hA (N' := 20) (a0 := (20, .inl z0)) (fun _ => rfl) (by decide) rfl (Nat.le_of_ble_eq_true rfl) (Nat.le_of_ble_eq_true rfl) (Nat.le_of_ble_eq_true rfl) dX3_init_41 (fun q3 c' H hK' hP hD hS => ?_)
  obtain rfl : c' = cA 0 := arrI hK hK'
  clear hK'
  have hP : va_P G vwCl [(o, .inr (5, [.int 0, .int 0, .ref q0, .ref q1, .ref q2, .null])), (q0, .inl (cA 0, 20, .inl z0)), (q1, .inl (cA 0, 20, .inl z0)), (q2, .inl (cA 0, 20, .inl z0)), (q3, .inl (cA 0, 20, .inl z0))] H := hP
  have hD : va_D A [(o, .inr (5, [.int 0, .int 0, .ref q0, .ref q1, .ref q2, .null])), (q0, .inl (cA 0, 20, .inl z0)), (q1, .inl (cA 0, 20, .inl z0)), (q2, .inl (cA 0, 20, .inl z0)), (q3, .inl (cA 0, 20, .inl z0))] := hD
  refine va_putF (D := G) (ci := 5) (v := .ref q3) (ty := .array .int) (C := RX3) (T := TX3) (N := 6) hx hb hts i_X3 tyX3 tyX3_ok nmX3 hown hK.1 hP hD hS 0 rfl rfl 5 (by decide) (hts (.fieldLink RX3 28 "ParcelRegistry$Liens" "ranking" "[I") (by decide +kernel)) (fun _ h9 => h9) rfl hin rfl (by decide +kernel) rfl rfl (Nat.le_of_ble_eq_true rfl) dX3_init_43 (fun H locs hP hD hS => ?_)
  have hP : va_P G vwCl [(o, .inr (5, [.int 0, .int 0, .ref q0, .ref q1, .ref q2, .ref q3])), (q0, .inl (cA 0, 20, .inl z0)), (q1, .inl (cA 0, 20, .inl z0)), (q2, .inl (cA 0, 20, .inl z0)), (q3, .inl (cA 0, 20, .inl z0))] H := hP
  have hD : va_D A [(o, .inr (5, [.int 0, .int 0, .ref q0, .ref q1, .ref q2, .ref q3])), (q0, .inl (cA 0, 20, .inl z0)), (q1, .inl (cA 0, 20, .inl z0)), (q2, .inl (cA 0, 20, .inl z0)), (q3, .inl (cA 0, 20, .inl z0))] := hD
  exact hret _ _ ((q0, q1, q2, q3)) _ _ _ _ dX3_init_46 hP hD hS (Nat.le_of_ble_eq_true rfl) (Nat.le_of_ble_eq_true rfl)
abbrev kI_X5 (cA : Nat → ClassId) (o : Nat) (u : Nat × Nat × Nat) : va_W := [(o, .inr (7, [.int 0, .int 0, .int 0, .ref (u.1), .ref (u.2.1), .ref (u.2.2)])), ((u.1), .inl (cA 1, 80, .inl z0)), ((u.2.1), .inl (cA 0, 12, .inl z0)), ((u.2.2), .inl (cA 0, 36, .inl z0))]
set_option maxHeartbeats 4000000 in
set_option maxRecDepth 100000 in
theorem c_X5_init (l : Launch) (G : va_G) (cA : Nat → ClassId) (o sz : Nat) : Met l yX5_init wsX5_init ({ frames := 1, cells := 3, slots := 128, locals := 12 } : Room) (va_Pc [.ref o] (PI G cA [(o, .inr (7, [.int 0, .int 0, .int 0, .null, .null, .null]))] sz)) (va_Qv (fun _ : Nat × Nat × Nat => True) (fun u t => va_P G vwCl (kI_X5 cA o u) t.heap ∧ va_D (va_A [(o, .inr (7, [.int 0, .int 0, .int 0, .null, .null, .null]))] sz) (kI_X5 cA o u)) (va_A [(o, .inr (7, [.int 0, .int 0, .int 0, .null, .null, .null]))] sz)) 3 128 (va_A [(o, .inr (7, [.int 0, .int 0, .int 0, .null, .null, .null]))] sz) := by
  refine metI (by decide) rfl rfl (Nat.le_of_ble_eq_true rfl) ?_
  intro p e s m av below meth c Q ls A H hx hb hml hts hown hP hK hR hD hA hS hl hin hret
  have i_X5 : ∀ w ∈ wsX50, w ∈ wsX5_init := by decide +kernel
  refine lv_aload_n hx hb dX5_init_0 rfl (lv_at hl 0 rfl) ?_
  refine W.objInit hx hb hown (hts (.methodLink RX5 3 objectInit) (by decide +kernel)) (hts (.instanceMethod objectInit) (by decide +kernel)) (hts _ (List.mem_of_getElem? (i := 3) rfl)) rfl (by rw [hml]; exact hl.1) rfl dX5_init_1 (Nat.le_of_ble_eq_true rfl) (Nat.le_of_ble_eq_true rfl) ?_
  refine W.eq (g2 := F0 m 4 ls []) rfl ?_
  refine lv_aload_n hx hb dX5_init_4 rfl (lv_at hl 0 rfl) ?_
  refine lv_iconst (v := (0 : Int32)) hx hb dX5_init_5 (by decide) ?_
  refine va_put (D := G) (ci := 7) (v := .int 0) (ty := .int) (C := RX5) (T := TX5) (N := 6) hx hb hts i_X5 tyX5 tyX5_ok nmX5 hown hK.1 hP hD hS 0 rfl rfl 0 (by decide) (hts (.fieldLink RX5 9 "ParcelRegistry$Text" "length" "I") (by decide +kernel)) (fun _ h9 => h9) rfl (by decide +kernel) rfl rfl (Nat.le_of_ble_eq_true rfl) dX5_init_6 (fun H locs hP hD hS => ?_)
  have hP : va_P G vwCl [(o, .inr (7, [.int 0, .int 0, .int 0, .null, .null, .null]))] H := hP
  have hD : va_D A [(o, .inr (7, [.int 0, .int 0, .int 0, .null, .null, .null]))] := hD
  refine lv_aload_n hx hb dX5_init_9 rfl (lv_at hl 0 rfl) ?_
  refine lv_iconst (v := (0 : Int32)) hx hb dX5_init_10 (by decide) ?_
  refine va_put (D := G) (ci := 7) (v := .int 0) (ty := .int) (C := RX5) (T := TX5) (N := 6) hx hb hts i_X5 tyX5 tyX5_ok nmX5 hown hK.1 hP hD hS 0 rfl rfl 1 (by decide) (hts (.fieldLink RX5 15 "ParcelRegistry$Text" "at" "I") (by decide +kernel)) (fun _ h9 => h9) rfl (by decide +kernel) rfl rfl (Nat.le_of_ble_eq_true rfl) dX5_init_11 (fun H locs hP hD hS => ?_)
  have hP : va_P G vwCl [(o, .inr (7, [.int 0, .int 0, .int 0, .null, .null, .null]))] H := hP
  have hD : va_D A [(o, .inr (7, [.int 0, .int 0, .int 0, .null, .null, .null]))] := hD
  refine lv_aload_n hx hb dX5_init_14 rfl (lv_at hl 0 rfl) ?_
  refine lv_iconst (v := (0 : Int32)) hx hb dX5_init_15 (by decide) ?_
  refine va_put (D := G) (ci := 7) (v := .int 0) (ty := .int) (C := RX5) (T := TX5) (N := 6) hx hb hts i_X5 tyX5 tyX5_ok nmX5 hown hK.1 hP hD hS 0 rfl rfl 2 (by decide) (hts (.fieldLink RX5 18 "ParcelRegistry$Text" "commands" "I") (by decide +kernel)) (fun _ h9 => h9) rfl (by decide +kernel) rfl rfl (Nat.le_of_ble_eq_true rfl) dX5_init_16 (fun H locs hP hD hS => ?_)
  have hP : va_P G vwCl [(o, .inr (7, [.int 0, .int 0, .int 0, .null, .null, .null]))] H := hP
  have hD : va_D A [(o, .inr (7, [.int 0, .int 0, .int 0, .null, .null, .null]))] := hD
  refine lv_aload_n hx hb dX5_init_19 rfl (lv_at hl 0 rfl) ?_
  refine lv_bipush (v := (80 : Int32)) hx hb dX5_init_20 (by decide) ?_
  refine va_newa (atype := .char) (ty := .char) hx hb (hts (.arrayClass .char) (by decide +kernel)) rfl hK.1 hP hD hS hA (N' := 80) (a0 := (80, .inl z0)) (fun _ => rfl) (by decide) rfl (Nat.le_of_ble_eq_true rfl) (Nat.le_of_ble_eq_true rfl) (Nat.le_of_ble_eq_true rfl) dX5_init_22 (fun q0 c' H hK' hP hD hS => ?_)
  obtain rfl : c' = cA 1 := arrC hK hK'
  clear hK'
  have hP : va_P G vwCl [(o, .inr (7, [.int 0, .int 0, .int 0, .null, .null, .null])), (q0, .inl (cA 1, 80, .inl z0))] H := hP
  have hD : va_D A [(o, .inr (7, [.int 0, .int 0, .int 0, .null, .null, .null])), (q0, .inl (cA 1, 80, .inl z0))] := hD
  refine va_putF (D := G) (ci := 7) (v := .ref q0) (ty := .array .char) (C := RX5) (T := TX5) (N := 6) hx hb hts i_X5 tyX5 tyX5_ok nmX5 hown hK.1 hP hD hS 0 rfl rfl 3 (by decide) (hts (.fieldLink RX5 21 "ParcelRegistry$Text" "input" "[C") (by decide +kernel)) (fun _ h9 => h9) rfl hin rfl (by decide +kernel) rfl rfl (Nat.le_of_ble_eq_true rfl) dX5_init_24 (fun H locs hP hD hS => ?_)
  have hP : va_P G vwCl [(o, .inr (7, [.int 0, .int 0, .int 0, .ref q0, .null, .null])), (q0, .inl (cA 1, 80, .inl z0))] H := hP
  have hD : va_D A [(o, .inr (7, [.int 0, .int 0, .int 0, .ref q0, .null, .null])), (q0, .inl (cA 1, 80, .inl z0))] := hD
  refine lv_aload_n hx hb dX5_init_27 rfl (lv_at hl 0 rfl) ?_
  refine lv_bipush (v := (12 : Int32)) hx hb dX5_init_28 (by decide) ?_
  refine va_newa (atype := .int) (ty := .int) hx hb (hts (.arrayClass .int) (by decide +kernel)) rfl hK.1 hP hD hS hA (N' := 12) (a0 := (12, .inl z0)) (fun _ => rfl) (by decide) rfl (Nat.le_of_ble_eq_true rfl) (Nat.le_of_ble_eq_true rfl) (Nat.le_of_ble_eq_true rfl) dX5_init_30 (fun q1 c' H hK' hP hD hS => ?_)
  obtain rfl : c' = cA 0 := arrI hK hK'
  clear hK'
  have hP : va_P G vwCl [(o, .inr (7, [.int 0, .int 0, .int 0, .ref q0, .null, .null])), (q0, .inl (cA 1, 80, .inl z0)), (q1, .inl (cA 0, 12, .inl z0))] H := hP
  have hD : va_D A [(o, .inr (7, [.int 0, .int 0, .int 0, .ref q0, .null, .null])), (q0, .inl (cA 1, 80, .inl z0)), (q1, .inl (cA 0, 12, .inl z0))] := hD
  refine va_putF (D := G) (ci := 7) (v := .ref q1) (ty := .array .int) (C := RX5) (T := TX5) (N := 6) hx hb hts i_X5 tyX5 tyX5_ok nmX5 hown hK.1 hP hD hS 0 rfl rfl 4 (by decide) (hts (.fieldLink RX5 25 "ParcelRegistry$Text" "words" "[I") (by decide +kernel)) (fun _ h9 => h9) rfl hin rfl (by decide +kernel) rfl rfl (Nat.le_of_ble_eq_true rfl) dX5_init_32 (fun H locs hP hD hS => ?_)
  have hP : va_P G vwCl [(o, .inr (7, [.int 0, .int 0, .int 0, .ref q0, .ref q1, .null])), (q0, .inl (cA 1, 80, .inl z0)), (q1, .inl (cA 0, 12, .inl z0))] H := hP
  have hD : va_D A [(o, .inr (7, [.int 0, .int 0, .int 0, .ref q0, .ref q1, .null])), (q0, .inl (cA 1, 80, .inl z0)), (q1, .inl (cA 0, 12, .inl z0))] := hD
  refine lv_aload_n hx hb dX5_init_35 rfl (lv_at hl 0 rfl) ?_
  refine lv_bipush (v := (36 : Int32)) hx hb dX5_init_36 (by decide) ?_
  refine va_newa (atype := .int) (ty := .int) hx hb (hts (.arrayClass .int) (by decide +kernel)) rfl hK.1 hP hD hS hA (N' := 36) (a0 := (36, .inl z0)) (fun _ => rfl) (by decide) rfl (Nat.le_of_ble_eq_true rfl) (Nat.le_of_ble_eq_true rfl) (Nat.le_of_ble_eq_true rfl) dX5_init_38 (fun q2 c' H hK' hP hD hS => ?_)
  obtain rfl : c' = cA 0 := arrI hK hK'
  clear hK'
  have hP : va_P G vwCl [(o, .inr (7, [.int 0, .int 0, .int 0, .ref q0, .ref q1, .null])), (q0, .inl (cA 1, 80, .inl z0)), (q1, .inl (cA 0, 12, .inl z0)), (q2, .inl (cA 0, 36, .inl z0))] H := hP
  have hD : va_D A [(o, .inr (7, [.int 0, .int 0, .int 0, .ref q0, .ref q1, .null])), (q0, .inl (cA 1, 80, .inl z0)), (q1, .inl (cA 0, 12, .inl z0)), (q2, .inl (cA 0, 36, .inl z0))] := hD
  refine va_putF (D := G) (ci := 7) (v := .ref q2) (ty := .array .int) (C := RX5) (T := TX5) (N := 6) hx hb hts i_X5 tyX5 tyX5_ok nmX5 hown hK.1 hP hD hS 0 rfl rfl 5 (by decide) (hts (.fieldLink RX5 29 "ParcelRegistry$Text" "numbers" "[I") (by decide +kernel)) (fun _ h9 => h9) rfl hin rfl (by decide +kernel) rfl rfl (Nat.le_of_ble_eq_true rfl) dX5_init_40 (fun H locs hP hD hS => ?_)
  have hP : va_P G vwCl [(o, .inr (7, [.int 0, .int 0, .int 0, .ref q0, .ref q1, .ref q2])), (q0, .inl (cA 1, 80, .inl z0)), (q1, .inl (cA 0, 12, .inl z0)), (q2, .inl (cA 0, 36, .inl z0))] H := hP
  have hD : va_D A [(o, .inr (7, [.int 0, .int 0, .int 0, .ref q0, .ref q1, .ref q2])), (q0, .inl (cA 1, 80, .inl z0)), (q1, .inl (cA 0, 12, .inl z0)), (q2, .inl (cA 0, 36, .inl z0))] := hD
  exact hret _ _ ((q0, q1, q2)) _ _ _ _ dX5_init_43 hP hD hS (Nat.le_of_ble_eq_true rfl) (Nat.le_of_ble_eq_true rfl)
abbrev kI_X6 (cA : Nat → ClassId) (a : Nat → Nat) : va_W := wl cA a w0 ++ [(a 13, .inl (cA 0, 10, .inl z0))]
/-- 25 addresses -/
abbrev a25 (x0 x1 x2 x3 x4 x5 x6 x7 x8 x9 x10 x11 x12 x13 x14 x15 x16 x17 x18 x19 x20 x21 x22 x23 x24 : Nat) : Nat → Nat := fun i => match i with
  | 0 => x0
  | 1 => x1
  | 2 => x2
  | 3 => x3
  | 4 => x4
  | 5 => x5
  | 6 => x6
  | 7 => x7
  | 8 => x8
  | 9 => x9
  | 10 => x10
  | 11 => x11
  | 12 => x12
  | 13 => x13
  | 14 => x14
  | 15 => x15
  | 16 => x16
  | 17 => x17
  | 18 => x18
  | 19 => x19
  | 20 => x20
  | 21 => x21
  | 22 => x22
  | 23 => x23
  | _ => x24
set_option maxHeartbeats 4000000 in
set_option maxRecDepth 100000 in
theorem c_X6_init (l : Launch) (G : va_G) (cA : Nat → ClassId) (o sz : Nat) : Met l yX6_init wsX6_init ({ frames := 2, cells := 24, slots := 649, locals := 32 } : Room) (va_Pc [.ref o] (PI G cA [(o, .inr (8, [.int 0, .null, .null, .null, .null]))] sz)) (va_Qv (fun _ : {a : Nat → Nat // a 0 = o} => True) (fun u t => va_P G vwCl (kI_X6 cA u.1) t.heap ∧ va_D (va_A [(o, .inr (8, [.int 0, .null, .null, .null, .null]))] sz) (kI_X6 cA u.1)) (va_A [(o, .inr (8, [.int 0, .null, .null, .null, .null]))] sz)) 24 649 (va_A [(o, .inr (8, [.int 0, .null, .null, .null, .null]))] sz) := by
  refine metI (by decide) rfl rfl (Nat.le_of_ble_eq_true rfl) ?_
  intro p e s m av below meth c Q ls A H hx hb hml hts hown hP hK hR hD hA hS hl hin hret
  have i_X6 : ∀ w ∈ wsX60, w ∈ wsX6_init := by decide +kernel
  refine lv_aload_n hx hb dX6_init_0 rfl (lv_at hl 0 rfl) ?_
  refine W.objInit hx hb hown (hts (.methodLink RX6 3 objectInit) (by decide +kernel)) (hts (.instanceMethod objectInit) (by decide +kernel)) (hts _ (List.mem_of_getElem? (i := 3) rfl)) rfl (by rw [hml]; exact hl.1) rfl dX6_init_1 (Nat.le_of_ble_eq_true rfl) (Nat.le_of_ble_eq_true rfl) ?_
  refine W.eq (g2 := F0 m 4 ls []) rfl ?_
  refine lv_aload_n hx hb dX6_init_4 rfl (lv_at hl 0 rfl) ?_
  refine lv_iconst (v := (0 : Int32)) hx hb dX6_init_5 (by decide) ?_
  refine va_put (D := G) (ci := 8) (v := .int 0) (ty := .int) (C := RX6) (T := TX6) (N := 5) hx hb hts i_X6 tyX6 tyX6_ok nmX6 hown hK.1 hP hD hS 0 rfl rfl 0 (by decide) (hts (.fieldLink RX6 9 "ParcelRegistry$World" "day" "I") (by decide +kernel)) (fun _ h9 => h9) rfl (by decide +kernel) rfl rfl (Nat.le_of_ble_eq_true rfl) dX6_init_6 (fun H locs hP hD hS => ?_)
  have hP : va_P G vwCl [(o, .inr (8, [.int 0, .null, .null, .null, .null]))] H := hP
  have hD : va_D A [(o, .inr (8, [.int 0, .null, .null, .null, .null]))] := hD
  refine lv_aload_n hx hb dX6_init_9 rfl (lv_at hl 0 rfl) ?_
  refine va_new (ci := 6) (fs := [.int 0, .null, .null, .null, .null, .null, .null]) (C := RX4) (T := TX4) (N := 7) hx hb hts (by decide +kernel) tyX4 tyX4_ok hown (hts (.classLink RX6 15 RX4) (by decide +kernel)) (hts (.instantiable RX4 7) (by decide +kernel)) (hts (.initialized RX4) (by decide +kernel)) hK.1 hP hD hS hA rfl (fun j hj => by rcases (show j = 0 ∨ j = 1 ∨ j = 2 ∨ j = 3 ∨ j = 4 ∨ j = 5 ∨ j = 6 by omega) with rfl | rfl | rfl | rfl | rfl | rfl | rfl <;> rfl) (Nat.le_of_ble_eq_true rfl) (Nat.le_of_ble_eq_true rfl) dX6_init_10 (fun q0 H hP hD hS => ?_)
  have hP : va_P G vwCl [(o, .inr (8, [.int 0, .null, .null, .null, .null])), (q0, .inr (6, [.int 0, .null, .null, .null, .null, .null, .null]))] H := hP
  have hD : va_D A [(o, .inr (8, [.int 0, .null, .null, .null, .null])), (q0, .inr (6, [.int 0, .null, .null, .null, .null, .null, .null]))] := hD
  refine lv_dup hx hb dX6_init_13 rfl ?_
  have hPc := hP.sub (ws' := [(q0, .inr (6, [.int 0, .null, .null, .null, .null, .null, .null]))]) [1] rfl
  have hDc := hD.sub (ws' := [(q0, .inr (6, [.int 0, .null, .null, .null, .null, .null, .null]))]) [1] (by decide) rfl
  have hFc := va_free (wc := [(q0, .inr (6, [.int 0, .null, .null, .null, .null, .null, .null]))]) hD hS hA [1] rfl
  refine va_callv (va_runIN (As := []) (rest := [.ref q0, .ref o]) ⟨hx, hb, hml, hown, hts⟩ (c_X4_init l G cA q0 H.size) ⟨va_cnB (host := "ParcelRegistry") 0 hts gX6_init_X4_init_n17 rfl rfl rfl (hK.2 (RX6, 17, yX4_init) (List.mem_of_getElem? (i := 1) rfl)) (hts (.initialized RX4) (by decide +kernel)) (by decide +kernel) ⟨Nat.le_of_ble_eq_true rfl, Nat.le_of_ble_eq_true rfl⟩, rfl, hts (.instanceMethod yX4_init) (by decide +kernel)⟩ (preI hPc hDc hK hR) rfl rfl hl.1 rfl (lv_room (Nat.le_of_ble_eq_true rfl)) dX6_init_14 ⟨Nat.le_of_ble_eq_true rfl, Nat.le_of_ble_eq_true rfl⟩) hS (fun q _ h => hFc q h) hFc (fun u14 t H1 locs ht hvm _ hB hz1 hk1 hS => ?_)
  obtain ⟨hP1, hD1⟩ := hB
  rw [ht] at hP1
  obtain ⟨hP, hD⟩ := va_join (wr := [(o, .inr (8, [.int 0, .null, .null, .null, .null]))]) (w1 := [(q0, .inr (6, [.int 0, .ref (u14.1), .ref (u14.2.1), .ref (u14.2.2.1), .ref (u14.2.2.2.1), .ref (u14.2.2.2.2.1), .ref (u14.2.2.2.2.2)])), ((u14.1), .inl (cA 0, 24, .inl z0)), ((u14.2.1), .inl (cA 0, 24, .inl z0)), ((u14.2.2.1), .inl (cA 0, 24, .inl z0)), ((u14.2.2.2.1), .inl (cA 0, 24, .inl z0)), ((u14.2.2.2.2.1), .inl (cA 0, 24, .inl z0)), ((u14.2.2.2.2.2), .inl (cA 0, 24, .inl z0))]) hP hD [1] [0] rfl rfl (by decide) (by decide) hk1 hFc hP1 hD1
  clear hP1 hD1 hPc hDc hFc
  generalize H1 = H at hP hS ⊢
  have hP : va_P G vwCl [(o, .inr (8, [.int 0, .null, .null, .null, .null])), (q0, .inr (6, [.int 0, .ref (u14.1), .ref (u14.2.1), .ref (u14.2.2.1), .ref (u14.2.2.2.1), .ref (u14.2.2.2.2.1), .ref (u14.2.2.2.2.2)])), ((u14.1), .inl (cA 0, 24, .inl z0)), ((u14.2.1), .inl (cA 0, 24, .inl z0)), ((u14.2.2.1), .inl (cA 0, 24, .inl z0)), ((u14.2.2.2.1), .inl (cA 0, 24, .inl z0)), ((u14.2.2.2.2.1), .inl (cA 0, 24, .inl z0)), ((u14.2.2.2.2.2), .inl (cA 0, 24, .inl z0))] H := hP
  have hD : va_D A [(o, .inr (8, [.int 0, .null, .null, .null, .null])), (q0, .inr (6, [.int 0, .ref (u14.1), .ref (u14.2.1), .ref (u14.2.2.1), .ref (u14.2.2.2.1), .ref (u14.2.2.2.2.1), .ref (u14.2.2.2.2.2)])), ((u14.1), .inl (cA 0, 24, .inl z0)), ((u14.2.1), .inl (cA 0, 24, .inl z0)), ((u14.2.2.1), .inl (cA 0, 24, .inl z0)), ((u14.2.2.2.1), .inl (cA 0, 24, .inl z0)), ((u14.2.2.2.2.1), .inl (cA 0, 24, .inl z0)), ((u14.2.2.2.2.2), .inl (cA 0, 24, .inl z0))] := hD
  refine va_putF (D := G) (ci := 8) (v := .ref q0) (ty := .object "ParcelRegistry$Parcels") (C := RX6) (T := TX6) (N := 5) hx hb hts i_X6 tyX6 tyX6_ok nmX6 hown hK.1 hP hD hS 0 rfl rfl 1 (by decide) (hts (.fieldLink RX6 18 "ParcelRegistry$World" "parcels" "LParcelRegistry$Parcels;") (by decide +kernel)) (fun _ h9 => h9) rfl hin rfl (by decide +kernel) rfl rfl (Nat.le_of_ble_eq_true rfl) dX6_init_17 (fun H locs hP hD hS => ?_)
  have hP : va_P G vwCl [(o, .inr (8, [.int 0, .ref q0, .null, .null, .null])), (q0, .inr (6, [.int 0, .ref (u14.1), .ref (u14.2.1), .ref (u14.2.2.1), .ref (u14.2.2.2.1), .ref (u14.2.2.2.2.1), .ref (u14.2.2.2.2.2)])), ((u14.1), .inl (cA 0, 24, .inl z0)), ((u14.2.1), .inl (cA 0, 24, .inl z0)), ((u14.2.2.1), .inl (cA 0, 24, .inl z0)), ((u14.2.2.2.1), .inl (cA 0, 24, .inl z0)), ((u14.2.2.2.2.1), .inl (cA 0, 24, .inl z0)), ((u14.2.2.2.2.2), .inl (cA 0, 24, .inl z0))] H := hP
  have hD : va_D A [(o, .inr (8, [.int 0, .ref q0, .null, .null, .null])), (q0, .inr (6, [.int 0, .ref (u14.1), .ref (u14.2.1), .ref (u14.2.2.1), .ref (u14.2.2.2.1), .ref (u14.2.2.2.2.1), .ref (u14.2.2.2.2.2)])), ((u14.1), .inl (cA 0, 24, .inl z0)), ((u14.2.1), .inl (cA 0, 24, .inl z0)), ((u14.2.2.1), .inl (cA 0, 24, .inl z0)), ((u14.2.2.2.1), .inl (cA 0, 24, .inl z0)), ((u14.2.2.2.2.1), .inl (cA 0, 24, .inl z0)), ((u14.2.2.2.2.2), .inl (cA 0, 24, .inl z0))] := hD
  refine lv_aload_n hx hb dX6_init_20 rfl (lv_at hl 0 rfl) ?_
  refine va_new (ci := 2) (fs := [.int 0, .null, .null, .null, .null, .null]) (C := RX0) (T := TX0) (N := 6) hx hb hts (by decide +kernel) tyX0 tyX0_ok hown (hts (.classLink RX6 22 RX0) (by decide +kernel)) (hts (.instantiable RX0 6) (by decide +kernel)) (hts (.initialized RX0) (by decide +kernel)) hK.1 hP hD hS hA rfl (fun j hj => by rcases (show j = 0 ∨ j = 1 ∨ j = 2 ∨ j = 3 ∨ j = 4 ∨ j = 5 by omega) with rfl | rfl | rfl | rfl | rfl | rfl <;> rfl) (Nat.le_of_ble_eq_true rfl) (Nat.le_of_ble_eq_true rfl) dX6_init_21 (fun q1 H hP hD hS => ?_)
  have hP : va_P G vwCl [(o, .inr (8, [.int 0, .ref q0, .null, .null, .null])), (q0, .inr (6, [.int 0, .ref (u14.1), .ref (u14.2.1), .ref (u14.2.2.1), .ref (u14.2.2.2.1), .ref (u14.2.2.2.2.1), .ref (u14.2.2.2.2.2)])), ((u14.1), .inl (cA 0, 24, .inl z0)), ((u14.2.1), .inl (cA 0, 24, .inl z0)), ((u14.2.2.1), .inl (cA 0, 24, .inl z0)), ((u14.2.2.2.1), .inl (cA 0, 24, .inl z0)), ((u14.2.2.2.2.1), .inl (cA 0, 24, .inl z0)), ((u14.2.2.2.2.2), .inl (cA 0, 24, .inl z0)), (q1, .inr (2, [.int 0, .null, .null, .null, .null, .null]))] H := hP
  have hD : va_D A [(o, .inr (8, [.int 0, .ref q0, .null, .null, .null])), (q0, .inr (6, [.int 0, .ref (u14.1), .ref (u14.2.1), .ref (u14.2.2.1), .ref (u14.2.2.2.1), .ref (u14.2.2.2.2.1), .ref (u14.2.2.2.2.2)])), ((u14.1), .inl (cA 0, 24, .inl z0)), ((u14.2.1), .inl (cA 0, 24, .inl z0)), ((u14.2.2.1), .inl (cA 0, 24, .inl z0)), ((u14.2.2.2.1), .inl (cA 0, 24, .inl z0)), ((u14.2.2.2.2.1), .inl (cA 0, 24, .inl z0)), ((u14.2.2.2.2.2), .inl (cA 0, 24, .inl z0)), (q1, .inr (2, [.int 0, .null, .null, .null, .null, .null]))] := hD
  refine lv_dup hx hb dX6_init_24 rfl ?_
  have hPc := hP.sub (ws' := [(q1, .inr (2, [.int 0, .null, .null, .null, .null, .null]))]) [8] rfl
  have hDc := hD.sub (ws' := [(q1, .inr (2, [.int 0, .null, .null, .null, .null, .null]))]) [8] (by decide) rfl
  have hFc := va_free (wc := [(q1, .inr (2, [.int 0, .null, .null, .null, .null, .null]))]) hD hS hA [8] rfl
  refine va_callv (va_runIN (As := []) (rest := [.ref q1, .ref o]) ⟨hx, hb, hml, hown, hts⟩ (c_X0_init l G cA q1 H.size) ⟨va_cnB (host := "ParcelRegistry") 0 hts gX6_init_X0_init_n24 rfl rfl rfl (hK.2 (RX6, 24, yX0_init) (List.mem_of_getElem? (i := 2) rfl)) (hts (.initialized RX0) (by decide +kernel)) (by decide +kernel) ⟨Nat.le_of_ble_eq_true rfl, Nat.le_of_ble_eq_true rfl⟩, rfl, hts (.instanceMethod yX0_init) (by decide +kernel)⟩ (preI hPc hDc hK hR) rfl rfl hl.1 rfl (lv_room (Nat.le_of_ble_eq_true rfl)) dX6_init_25 ⟨Nat.le_of_ble_eq_true rfl, Nat.le_of_ble_eq_true rfl⟩) hS (fun q _ h => hFc q h) hFc (fun u25 t H1 locs ht hvm _ hB hz1 hk1 hS => ?_)
  obtain ⟨hP1, hD1⟩ := hB
  rw [ht] at hP1
  obtain ⟨hP, hD⟩ := va_join (wr := [(o, .inr (8, [.int 0, .ref q0, .null, .null, .null])), (q0, .inr (6, [.int 0, .ref (u14.1), .ref (u14.2.1), .ref (u14.2.2.1), .ref (u14.2.2.2.1), .ref (u14.2.2.2.2.1), .ref (u14.2.2.2.2.2)])), ((u14.1), .inl (cA 0, 24, .inl z0)), ((u14.2.1), .inl (cA 0, 24, .inl z0)), ((u14.2.2.1), .inl (cA 0, 24, .inl z0)), ((u14.2.2.2.1), .inl (cA 0, 24, .inl z0)), ((u14.2.2.2.2.1), .inl (cA 0, 24, .inl z0)), ((u14.2.2.2.2.2), .inl (cA 0, 24, .inl z0))]) (w1 := [(q1, .inr (2, [.int 0, .ref (u25.1), .ref (u25.2.1), .ref (u25.2.2.1), .ref (u25.2.2.2.1), .ref (u25.2.2.2.2)])), ((u25.1), .inl (cA 0, 60, .inl z0)), ((u25.2.1), .inl (cA 0, 60, .inl z0)), ((u25.2.2.1), .inl (cA 0, 60, .inl z0)), ((u25.2.2.2.1), .inl (cA 0, 60, .inl z0)), ((u25.2.2.2.2), .inl (cA 0, 10, .inl z0))]) hP hD [8] [0, 1, 2, 3, 4, 5, 6, 7] rfl rfl (by decide) (by decide) hk1 hFc hP1 hD1
  clear hP1 hD1 hPc hDc hFc
  generalize H1 = H at hP hS ⊢
  have hP : va_P G vwCl [(o, .inr (8, [.int 0, .ref q0, .null, .null, .null])), (q0, .inr (6, [.int 0, .ref (u14.1), .ref (u14.2.1), .ref (u14.2.2.1), .ref (u14.2.2.2.1), .ref (u14.2.2.2.2.1), .ref (u14.2.2.2.2.2)])), ((u14.1), .inl (cA 0, 24, .inl z0)), ((u14.2.1), .inl (cA 0, 24, .inl z0)), ((u14.2.2.1), .inl (cA 0, 24, .inl z0)), ((u14.2.2.2.1), .inl (cA 0, 24, .inl z0)), ((u14.2.2.2.2.1), .inl (cA 0, 24, .inl z0)), ((u14.2.2.2.2.2), .inl (cA 0, 24, .inl z0)), (q1, .inr (2, [.int 0, .ref (u25.1), .ref (u25.2.1), .ref (u25.2.2.1), .ref (u25.2.2.2.1), .ref (u25.2.2.2.2)])), ((u25.1), .inl (cA 0, 60, .inl z0)), ((u25.2.1), .inl (cA 0, 60, .inl z0)), ((u25.2.2.1), .inl (cA 0, 60, .inl z0)), ((u25.2.2.2.1), .inl (cA 0, 60, .inl z0)), ((u25.2.2.2.2), .inl (cA 0, 10, .inl z0))] H := hP
  have hD : va_D A [(o, .inr (8, [.int 0, .ref q0, .null, .null, .null])), (q0, .inr (6, [.int 0, .ref (u14.1), .ref (u14.2.1), .ref (u14.2.2.1), .ref (u14.2.2.2.1), .ref (u14.2.2.2.2.1), .ref (u14.2.2.2.2.2)])), ((u14.1), .inl (cA 0, 24, .inl z0)), ((u14.2.1), .inl (cA 0, 24, .inl z0)), ((u14.2.2.1), .inl (cA 0, 24, .inl z0)), ((u14.2.2.2.1), .inl (cA 0, 24, .inl z0)), ((u14.2.2.2.2.1), .inl (cA 0, 24, .inl z0)), ((u14.2.2.2.2.2), .inl (cA 0, 24, .inl z0)), (q1, .inr (2, [.int 0, .ref (u25.1), .ref (u25.2.1), .ref (u25.2.2.1), .ref (u25.2.2.2.1), .ref (u25.2.2.2.2)])), ((u25.1), .inl (cA 0, 60, .inl z0)), ((u25.2.1), .inl (cA 0, 60, .inl z0)), ((u25.2.2.1), .inl (cA 0, 60, .inl z0)), ((u25.2.2.2.1), .inl (cA 0, 60, .inl z0)), ((u25.2.2.2.2), .inl (cA 0, 10, .inl z0))] := hD
  refine va_putF (D := G) (ci := 8) (v := .ref q1) (ty := .object "ParcelRegistry$Deeds") (C := RX6) (T := TX6) (N := 5) hx hb hts i_X6 tyX6 tyX6_ok nmX6 hown hK.1 hP hD hS 0 rfl rfl 2 (by decide) (hts (.fieldLink RX6 25 "ParcelRegistry$World" "deeds" "LParcelRegistry$Deeds;") (by decide +kernel)) (fun _ h9 => h9) rfl hin rfl (by decide +kernel) rfl rfl (Nat.le_of_ble_eq_true rfl) dX6_init_28 (fun H locs hP hD hS => ?_)
  have hP : va_P G vwCl [(o, .inr (8, [.int 0, .ref q0, .ref q1, .null, .null])), (q0, .inr (6, [.int 0, .ref (u14.1), .ref (u14.2.1), .ref (u14.2.2.1), .ref (u14.2.2.2.1), .ref (u14.2.2.2.2.1), .ref (u14.2.2.2.2.2)])), ((u14.1), .inl (cA 0, 24, .inl z0)), ((u14.2.1), .inl (cA 0, 24, .inl z0)), ((u14.2.2.1), .inl (cA 0, 24, .inl z0)), ((u14.2.2.2.1), .inl (cA 0, 24, .inl z0)), ((u14.2.2.2.2.1), .inl (cA 0, 24, .inl z0)), ((u14.2.2.2.2.2), .inl (cA 0, 24, .inl z0)), (q1, .inr (2, [.int 0, .ref (u25.1), .ref (u25.2.1), .ref (u25.2.2.1), .ref (u25.2.2.2.1), .ref (u25.2.2.2.2)])), ((u25.1), .inl (cA 0, 60, .inl z0)), ((u25.2.1), .inl (cA 0, 60, .inl z0)), ((u25.2.2.1), .inl (cA 0, 60, .inl z0)), ((u25.2.2.2.1), .inl (cA 0, 60, .inl z0)), ((u25.2.2.2.2), .inl (cA 0, 10, .inl z0))] H := hP
  have hD : va_D A [(o, .inr (8, [.int 0, .ref q0, .ref q1, .null, .null])), (q0, .inr (6, [.int 0, .ref (u14.1), .ref (u14.2.1), .ref (u14.2.2.1), .ref (u14.2.2.2.1), .ref (u14.2.2.2.2.1), .ref (u14.2.2.2.2.2)])), ((u14.1), .inl (cA 0, 24, .inl z0)), ((u14.2.1), .inl (cA 0, 24, .inl z0)), ((u14.2.2.1), .inl (cA 0, 24, .inl z0)), ((u14.2.2.2.1), .inl (cA 0, 24, .inl z0)), ((u14.2.2.2.2.1), .inl (cA 0, 24, .inl z0)), ((u14.2.2.2.2.2), .inl (cA 0, 24, .inl z0)), (q1, .inr (2, [.int 0, .ref (u25.1), .ref (u25.2.1), .ref (u25.2.2.1), .ref (u25.2.2.2.1), .ref (u25.2.2.2.2)])), ((u25.1), .inl (cA 0, 60, .inl z0)), ((u25.2.1), .inl (cA 0, 60, .inl z0)), ((u25.2.2.1), .inl (cA 0, 60, .inl z0)), ((u25.2.2.2.1), .inl (cA 0, 60, .inl z0)), ((u25.2.2.2.2), .inl (cA 0, 10, .inl z0))] := hD
  refine lv_aload_n hx hb dX6_init_31 rfl (lv_at hl 0 rfl) ?_
  refine va_new (ci := 3) (fs := [.int 0, .null, .null, .null, .null, .null]) (C := RX1) (T := TX1) (N := 6) hx hb hts (by decide +kernel) tyX1 tyX1_ok hown (hts (.classLink RX6 29 RX1) (by decide +kernel)) (hts (.instantiable RX1 6) (by decide +kernel)) (hts (.initialized RX1) (by decide +kernel)) hK.1 hP hD hS hA rfl (fun j hj => by rcases (show j = 0 ∨ j = 1 ∨ j = 2 ∨ j = 3 ∨ j = 4 ∨ j = 5 by omega) with rfl | rfl | rfl | rfl | rfl | rfl <;> rfl) (Nat.le_of_ble_eq_true rfl) (Nat.le_of_ble_eq_true rfl) dX6_init_32 (fun q2 H hP hD hS => ?_)
  have hP : va_P G vwCl [(o, .inr (8, [.int 0, .ref q0, .ref q1, .null, .null])), (q0, .inr (6, [.int 0, .ref (u14.1), .ref (u14.2.1), .ref (u14.2.2.1), .ref (u14.2.2.2.1), .ref (u14.2.2.2.2.1), .ref (u14.2.2.2.2.2)])), ((u14.1), .inl (cA 0, 24, .inl z0)), ((u14.2.1), .inl (cA 0, 24, .inl z0)), ((u14.2.2.1), .inl (cA 0, 24, .inl z0)), ((u14.2.2.2.1), .inl (cA 0, 24, .inl z0)), ((u14.2.2.2.2.1), .inl (cA 0, 24, .inl z0)), ((u14.2.2.2.2.2), .inl (cA 0, 24, .inl z0)), (q1, .inr (2, [.int 0, .ref (u25.1), .ref (u25.2.1), .ref (u25.2.2.1), .ref (u25.2.2.2.1), .ref (u25.2.2.2.2)])), ((u25.1), .inl (cA 0, 60, .inl z0)), ((u25.2.1), .inl (cA 0, 60, .inl z0)), ((u25.2.2.1), .inl (cA 0, 60, .inl z0)), ((u25.2.2.2.1), .inl (cA 0, 60, .inl z0)), ((u25.2.2.2.2), .inl (cA 0, 10, .inl z0)), (q2, .inr (3, [.int 0, .null, .null, .null, .null, .null]))] H := hP
  have hD : va_D A [(o, .inr (8, [.int 0, .ref q0, .ref q1, .null, .null])), (q0, .inr (6, [.int 0, .ref (u14.1), .ref (u14.2.1), .ref (u14.2.2.1), .ref (u14.2.2.2.1), .ref (u14.2.2.2.2.1), .ref (u14.2.2.2.2.2)])), ((u14.1), .inl (cA 0, 24, .inl z0)), ((u14.2.1), .inl (cA 0, 24, .inl z0)), ((u14.2.2.1), .inl (cA 0, 24, .inl z0)), ((u14.2.2.2.1), .inl (cA 0, 24, .inl z0)), ((u14.2.2.2.2.1), .inl (cA 0, 24, .inl z0)), ((u14.2.2.2.2.2), .inl (cA 0, 24, .inl z0)), (q1, .inr (2, [.int 0, .ref (u25.1), .ref (u25.2.1), .ref (u25.2.2.1), .ref (u25.2.2.2.1), .ref (u25.2.2.2.2)])), ((u25.1), .inl (cA 0, 60, .inl z0)), ((u25.2.1), .inl (cA 0, 60, .inl z0)), ((u25.2.2.1), .inl (cA 0, 60, .inl z0)), ((u25.2.2.2.1), .inl (cA 0, 60, .inl z0)), ((u25.2.2.2.2), .inl (cA 0, 10, .inl z0)), (q2, .inr (3, [.int 0, .null, .null, .null, .null, .null]))] := hD
  refine lv_dup hx hb dX6_init_35 rfl ?_
  have hPc := hP.sub (ws' := [(q2, .inr (3, [.int 0, .null, .null, .null, .null, .null]))]) [14] rfl
  have hDc := hD.sub (ws' := [(q2, .inr (3, [.int 0, .null, .null, .null, .null, .null]))]) [14] (by decide) rfl
  have hFc := va_free (wc := [(q2, .inr (3, [.int 0, .null, .null, .null, .null, .null]))]) hD hS hA [14] rfl
  refine va_callv (va_runIN (As := []) (rest := [.ref q2, .ref o]) ⟨hx, hb, hml, hown, hts⟩ (c_X1_init l G cA q2 H.size) ⟨va_cnB (host := "ParcelRegistry") 0 hts gX6_init_X1_init_n31 rfl rfl rfl (hK.2 (RX6, 31, yX1_init) (List.mem_of_getElem? (i := 3) rfl)) (hts (.initialized RX1) (by decide +kernel)) (by decide +kernel) ⟨Nat.le_of_ble_eq_true rfl, Nat.le_of_ble_eq_true rfl⟩, rfl, hts (.instanceMethod yX1_init) (by decide +kernel)⟩ (preI hPc hDc hK hR) rfl rfl hl.1 rfl (lv_room (Nat.le_of_ble_eq_true rfl)) dX6_init_36 ⟨Nat.le_of_ble_eq_true rfl, Nat.le_of_ble_eq_true rfl⟩) hS (fun q _ h => hFc q h) hFc (fun u36 t H1 locs ht hvm _ hB hz1 hk1 hS => ?_)
  obtain ⟨hP1, hD1⟩ := hB
  rw [ht] at hP1
  obtain ⟨hP, hD⟩ := va_join (wr := [(o, .inr (8, [.int 0, .ref q0, .ref q1, .null, .null])), (q0, .inr (6, [.int 0, .ref (u14.1), .ref (u14.2.1), .ref (u14.2.2.1), .ref (u14.2.2.2.1), .ref (u14.2.2.2.2.1), .ref (u14.2.2.2.2.2)])), ((u14.1), .inl (cA 0, 24, .inl z0)), ((u14.2.1), .inl (cA 0, 24, .inl z0)), ((u14.2.2.1), .inl (cA 0, 24, .inl z0)), ((u14.2.2.2.1), .inl (cA 0, 24, .inl z0)), ((u14.2.2.2.2.1), .inl (cA 0, 24, .inl z0)), ((u14.2.2.2.2.2), .inl (cA 0, 24, .inl z0)), (q1, .inr (2, [.int 0, .ref (u25.1), .ref (u25.2.1), .ref (u25.2.2.1), .ref (u25.2.2.2.1), .ref (u25.2.2.2.2)])), ((u25.1), .inl (cA 0, 60, .inl z0)), ((u25.2.1), .inl (cA 0, 60, .inl z0)), ((u25.2.2.1), .inl (cA 0, 60, .inl z0)), ((u25.2.2.2.1), .inl (cA 0, 60, .inl z0)), ((u25.2.2.2.2), .inl (cA 0, 10, .inl z0))]) (w1 := [(q2, .inr (3, [.int 0, .ref (u36.1), .ref (u36.2.1), .ref (u36.2.2.1), .ref (u36.2.2.2.1), .ref (u36.2.2.2.2)])), ((u36.1), .inl (cA 0, 30, .inl z0)), ((u36.2.1), .inl (cA 0, 30, .inl z0)), ((u36.2.2.1), .inl (cA 0, 30, .inl z0)), ((u36.2.2.2.1), .inl (cA 0, 30, .inl z0)), ((u36.2.2.2.2), .inl (cA 0, 30, .inl z0))]) hP hD [14] [0, 1, 2, 3, 4, 5, 6, 7, 8, 9, 10, 11, 12, 13] rfl rfl (by decide) (by decide) hk1 hFc hP1 hD1
  clear hP1 hD1 hPc hDc hFc
  generalize H1 = H at hP hS ⊢
  have hP : va_P G vwCl [(o, .inr (8, [.int 0, .ref q0, .ref q1, .null, .null])), (q0, .inr (6, [.int 0, .ref (u14.1), .ref (u14.2.1), .ref (u14.2.2.1), .ref (u14.2.2.2.1), .ref (u14.2.2.2.2.1), .ref (u14.2.2.2.2.2)])), ((u14.1), .inl (cA 0, 24, .inl z0)), ((u14.2.1), .inl (cA 0, 24, .inl z0)), ((u14.2.2.1), .inl (cA 0, 24, .inl z0)), ((u14.2.2.2.1), .inl (cA 0, 24, .inl z0)), ((u14.2.2.2.2.1), .inl (cA 0, 24, .inl z0)), ((u14.2.2.2.2.2), .inl (cA 0, 24, .inl z0)), (q1, .inr (2, [.int 0, .ref (u25.1), .ref (u25.2.1), .ref (u25.2.2.1), .ref (u25.2.2.2.1), .ref (u25.2.2.2.2)])), ((u25.1), .inl (cA 0, 60, .inl z0)), ((u25.2.1), .inl (cA 0, 60, .inl z0)), ((u25.2.2.1), .inl (cA 0, 60, .inl z0)), ((u25.2.2.2.1), .inl (cA 0, 60, .inl z0)), ((u25.2.2.2.2), .inl (cA 0, 10, .inl z0)), (q2, .inr (3, [.int 0, .ref (u36.1), .ref (u36.2.1), .ref (u36.2.2.1), .ref (u36.2.2.2.1), .ref (u36.2.2.2.2)])), ((u36.1), .inl (cA 0, 30, .inl z0)), ((u36.2.1), .inl (cA 0, 30, .inl z0)), ((u36.2.2.1), .inl (cA 0, 30, .inl z0)), ((u36.2.2.2.1), .inl (cA 0, 30, .inl z0)), ((u36.2.2.2.2), .inl (cA 0, 30, .inl z0))] H := hP
  have hD : va_D A [(o, .inr (8, [.int 0, .ref q0, .ref q1, .null, .null])), (q0, .inr (6, [.int 0, .ref (u14.1), .ref (u14.2.1), .ref (u14.2.2.1), .ref (u14.2.2.2.1), .ref (u14.2.2.2.2.1), .ref (u14.2.2.2.2.2)])), ((u14.1), .inl (cA 0, 24, .inl z0)), ((u14.2.1), .inl (cA 0, 24, .inl z0)), ((u14.2.2.1), .inl (cA 0, 24, .inl z0)), ((u14.2.2.2.1), .inl (cA 0, 24, .inl z0)), ((u14.2.2.2.2.1), .inl (cA 0, 24, .inl z0)), ((u14.2.2.2.2.2), .inl (cA 0, 24, .inl z0)), (q1, .inr (2, [.int 0, .ref (u25.1), .ref (u25.2.1), .ref (u25.2.2.1), .ref (u25.2.2.2.1), .ref (u25.2.2.2.2)])), ((u25.1), .inl (cA 0, 60, .inl z0)), ((u25.2.1), .inl (cA 0, 60, .inl z0)), ((u25.2.2.1), .inl (cA 0, 60, .inl z0)), ((u25.2.2.2.1), .inl (cA 0, 60, .inl z0)), ((u25.2.2.2.2), .inl (cA 0, 10, .inl z0)), (q2, .inr (3, [.int 0, .ref (u36.1), .ref (u36.2.1), .ref (u36.2.2.1), .ref (u36.2.2.2.1), .ref (u36.2.2.2.2)])), ((u36.1), .inl (cA 0, 30, .inl z0)), ((u36.2.1), .inl (cA 0, 30, .inl z0)), ((u36.2.2.1), .inl (cA 0, 30, .inl z0)), ((u36.2.2.2.1), .inl (cA 0, 30, .inl z0)), ((u36.2.2.2.2), .inl (cA 0, 30, .inl z0))] := hD
  refine va_putF (D := G) (ci := 8) (v := .ref q2) (ty := .object "ParcelRegistry$Easements") (C := RX6) (T := TX6) (N := 5) hx hb hts i_X6 tyX6 tyX6_ok nmX6 hown hK.1 hP hD hS 0 rfl rfl 3 (by decide) (hts (.fieldLink RX6 32 "ParcelRegistry$World" "easements" "LParcelRegistry$Easements;") (by decide +kernel)) (fun _ h9 => h9) rfl hin rfl (by decide +kernel) rfl rfl (Nat.le_of_ble_eq_true rfl) dX6_init_39 (fun H locs hP hD hS => ?_)
  have hP : va_P G vwCl [(o, .inr (8, [.int 0, .ref q0, .ref q1, .ref q2, .null])), (q0, .inr (6, [.int 0, .ref (u14.1), .ref (u14.2.1), .ref (u14.2.2.1), .ref (u14.2.2.2.1), .ref (u14.2.2.2.2.1), .ref (u14.2.2.2.2.2)])), ((u14.1), .inl (cA 0, 24, .inl z0)), ((u14.2.1), .inl (cA 0, 24, .inl z0)), ((u14.2.2.1), .inl (cA 0, 24, .inl z0)), ((u14.2.2.2.1), .inl (cA 0, 24, .inl z0)), ((u14.2.2.2.2.1), .inl (cA 0, 24, .inl z0)), ((u14.2.2.2.2.2), .inl (cA 0, 24, .inl z0)), (q1, .inr (2, [.int 0, .ref (u25.1), .ref (u25.2.1), .ref (u25.2.2.1), .ref (u25.2.2.2.1), .ref (u25.2.2.2.2)])), ((u25.1), .inl (cA 0, 60, .inl z0)), ((u25.2.1), .inl (cA 0, 60, .inl z0)), ((u25.2.2.1), .inl (cA 0, 60, .inl z0)), ((u25.2.2.2.1), .inl (cA 0, 60, .inl z0)), ((u25.2.2.2.2), .inl (cA 0, 10, .inl z0)), (q2, .inr (3, [.int 0, .ref (u36.1), .ref (u36.2.1), .ref (u36.2.2.1), .ref (u36.2.2.2.1), .ref (u36.2.2.2.2)])), ((u36.1), .inl (cA 0, 30, .inl z0)), ((u36.2.1), .inl (cA 0, 30, .inl z0)), ((u36.2.2.1), .inl (cA 0, 30, .inl z0)), ((u36.2.2.2.1), .inl (cA 0, 30, .inl z0)), ((u36.2.2.2.2), .inl (cA 0, 30, .inl z0))] H := hP
  have hD : va_D A [(o, .inr (8, [.int 0, .ref q0, .ref q1, .ref q2, .null])), (q0, .inr (6, [.int 0, .ref (u14.1), .ref (u14.2.1), .ref (u14.2.2.1), .ref (u14.2.2.2.1), .ref (u14.2.2.2.2.1), .ref (u14.2.2.2.2.2)])), ((u14.1), .inl (cA 0, 24, .inl z0)), ((u14.2.1), .inl (cA 0, 24, .inl z0)), ((u14.2.2.1), .inl (cA 0, 24, .inl z0)), ((u14.2.2.2.1), .inl (cA 0, 24, .inl z0)), ((u14.2.2.2.2.1), .inl (cA 0, 24, .inl z0)), ((u14.2.2.2.2.2), .inl (cA 0, 24, .inl z0)), (q1, .inr (2, [.int 0, .ref (u25.1), .ref (u25.2.1), .ref (u25.2.2.1), .ref (u25.2.2.2.1), .ref (u25.2.2.2.2)])), ((u25.1), .inl (cA 0, 60, .inl z0)), ((u25.2.1), .inl (cA 0, 60, .inl z0)), ((u25.2.2.1), .inl (cA 0, 60, .inl z0)), ((u25.2.2.2.1), .inl (cA 0, 60, .inl z0)), ((u25.2.2.2.2), .inl (cA 0, 10, .inl z0)), (q2, .inr (3, [.int 0, .ref (u36.1), .ref (u36.2.1), .ref (u36.2.2.1), .ref (u36.2.2.2.1), .ref (u36.2.2.2.2)])), ((u36.1), .inl (cA 0, 30, .inl z0)), ((u36.2.1), .inl (cA 0, 30, .inl z0)), ((u36.2.2.1), .inl (cA 0, 30, .inl z0)), ((u36.2.2.2.1), .inl (cA 0, 30, .inl z0)), ((u36.2.2.2.2), .inl (cA 0, 30, .inl z0))] := hD
  refine lv_aload_n hx hb dX6_init_42 rfl (lv_at hl 0 rfl) ?_
  refine va_new (ci := 5) (fs := [.int 0, .int 0, .null, .null, .null, .null]) (C := RX3) (T := TX3) (N := 6) hx hb hts (by decide +kernel) tyX3 tyX3_ok hown (hts (.classLink RX6 36 RX3) (by decide +kernel)) (hts (.instantiable RX3 6) (by decide +kernel)) (hts (.initialized RX3) (by decide +kernel)) hK.1 hP hD hS hA rfl (fun j hj => by rcases (show j = 0 ∨ j = 1 ∨ j = 2 ∨ j = 3 ∨ j = 4 ∨ j = 5 by omega) with rfl | rfl | rfl | rfl | rfl | rfl <;> rfl) (Nat.le_of_ble_eq_true rfl) (Nat.le_of_ble_eq_true rfl) dX6_init_43 (fun q3 H hP hD hS => ?_)
  have hP : va_P G vwCl [(o, .inr (8, [.int 0, .ref q0, .ref q1, .ref q2, .null])), (q0, .inr (6, [.int 0, .ref (u14.1), .ref (u14.2.1), .ref (u14.2.2.1), .ref (u14.2.2.2.1), .ref (u14.2.2.2.2.1), .ref (u14.2.2.2.2.2)])), ((u14.1), .inl (cA 0, 24, .inl z0)), ((u14.2.1), .inl (cA 0, 24, .inl z0)), ((u14.2.2.1), .inl (cA 0, 24, .inl z0)), ((u14.2.2.2.1), .inl (cA 0, 24, .inl z0)), ((u14.2.2.2.2.1), .inl (cA 0, 24, .inl z0)), ((u14.2.2.2.2.2), .inl (cA 0, 24, .inl z0)), (q1, .inr (2, [.int 0, .ref (u25.1), .ref (u25.2.1), .ref (u25.2.2.1), .ref (u25.2.2.2.1), .ref (u25.2.2.2.2)])), ((u25.1), .inl (cA 0, 60, .inl z0)), ((u25.2.1), .inl (cA 0, 60, .inl z0)), ((u25.2.2.1), .inl (cA 0, 60, .inl z0)), ((u25.2.2.2.1), .inl (cA 0, 60, .inl z0)), ((u25.2.2.2.2), .inl (cA 0, 10, .inl z0)), (q2, .inr (3, [.int 0, .ref (u36.1), .ref (u36.2.1), .ref (u36.2.2.1), .ref (u36.2.2.2.1), .ref (u36.2.2.2.2)])), ((u36.1), .inl (cA 0, 30, .inl z0)), ((u36.2.1), .inl (cA 0, 30, .inl z0)), ((u36.2.2.1), .inl (cA 0, 30, .inl z0)), ((u36.2.2.2.1), .inl (cA 0, 30, .inl z0)), ((u36.2.2.2.2), .inl (cA 0, 30, .inl z0)), (q3, .inr (5, [.int 0, .int 0, .null, .null, .null, .null]))] H := hP
  have hD : va_D A [(o, .inr (8, [.int 0, .ref q0, .ref q1, .ref q2, .null])), (q0, .inr (6, [.int 0, .ref (u14.1), .ref (u14.2.1), .ref (u14.2.2.1), .ref (u14.2.2.2.1), .ref (u14.2.2.2.2.1), .ref (u14.2.2.2.2.2)])), ((u14.1), .inl (cA 0, 24, .inl z0)), ((u14.2.1), .inl (cA 0, 24, .inl z0)), ((u14.2.2.1), .inl (cA 0, 24, .inl z0)), ((u14.2.2.2.1), .inl (cA 0, 24, .inl z0)), ((u14.2.2.2.2.1), .inl (cA 0, 24, .inl z0)), ((u14.2.2.2.2.2), .inl (cA 0, 24, .inl z0)), (q1, .inr (2, [.int 0, .ref (u25.1), .ref (u25.2.1), .ref (u25.2.2.1), .ref (u25.2.2.2.1), .ref (u25.2.2.2.2)])), ((u25.1), .inl (cA 0, 60, .inl z0)), ((u25.2.1), .inl (cA 0, 60, .inl z0)), ((u25.2.2.1), .inl (cA 0, 60, .inl z0)), ((u25.2.2.2.1), .inl (cA 0, 60, .inl z0)), ((u25.2.2.2.2), .inl (cA 0, 10, .inl z0)), (q2, .inr (3, [.int 0, .ref (u36.1), .ref (u36.2.1), .ref (u36.2.2.1), .ref (u36.2.2.2.1), .ref (u36.2.2.2.2)])), ((u36.1), .inl (cA 0, 30, .inl z0)), ((u36.2.1), .inl (cA 0, 30, .inl z0)), ((u36.2.2.1), .inl (cA 0, 30, .inl z0)), ((u36.2.2.2.1), .inl (cA 0, 30, .inl z0)), ((u36.2.2.2.2), .inl (cA 0, 30, .inl z0)), (q3, .inr (5, [.int 0, .int 0, .null, .null, .null, .null]))] := hD
  refine lv_dup hx hb dX6_init_46 rfl ?_
  have hPc := hP.sub (ws' := [(q3, .inr (5, [.int 0, .int 0, .null, .null, .null, .null]))]) [20] rfl
  have hDc := hD.sub (ws' := [(q3, .inr (5, [.int 0, .int 0, .null, .null, .null, .null]))]) [20] (by decide) rfl
  have hFc := va_free (wc := [(q3, .inr (5, [.int 0, .int 0, .null, .null, .null, .null]))]) hD hS hA [20] rfl
  refine va_callv (va_runIN (As := []) (rest := [.ref q3, .ref o]) ⟨hx, hb, hml, hown, hts⟩ (c_X3_init l G cA q3 H.size) ⟨va_cnB (host := "ParcelRegistry") 0 hts gX6_init_X3_init_n38 rfl rfl rfl (hK.2 (RX6, 38, yX3_init) (List.mem_of_getElem? (i := 4) rfl)) (hts (.initialized RX3) (by decide +kernel)) (by decide +kernel) ⟨Nat.le_of_ble_eq_true rfl, Nat.le_of_ble_eq_true rfl⟩, rfl, hts (.instanceMethod yX3_init) (by decide +kernel)⟩ (preI hPc hDc hK hR) rfl rfl hl.1 rfl (lv_room (Nat.le_of_ble_eq_true rfl)) dX6_init_47 ⟨Nat.le_of_ble_eq_true rfl, Nat.le_of_ble_eq_true rfl⟩) hS (fun q _ h => hFc q h) hFc (fun u47 t H1 locs ht hvm _ hB hz1 hk1 hS => ?_)
  obtain ⟨hP1, hD1⟩ := hB
  rw [ht] at hP1
  obtain ⟨hP, hD⟩ := va_join (wr := [(o, .inr (8, [.int 0, .ref q0, .ref q1, .ref q2, .null])), (q0, .inr (6, [.int 0, .ref (u14.1), .ref (u14.2.1), .ref (u14.2.2.1), .ref (u14.2.2.2.1), .ref (u14.2.2.2.2.1), .ref (u14.2.2.2.2.2)])), ((u14.1), .inl (cA 0, 24, .inl z0)), ((u14.2.1), .inl (cA 0, 24, .inl z0)), ((u14.2.2.1), .inl (cA 0, 24, .inl z0)), ((u14.2.2.2.1), .inl (cA 0, 24, .inl z0)), ((u14.2.2.2.2.1), .inl (cA 0, 24, .inl z0)), ((u14.2.2.2.2.2), .inl (cA 0, 24, .inl z0)), (q1, .inr (2, [.int 0, .ref (u25.1), .ref (u25.2.1), .ref (u25.2.2.1), .ref (u25.2.2.2.1), .ref (u25.2.2.2.2)])), ((u25.1), .inl (cA 0, 60, .inl z0)), ((u25.2.1), .inl (cA 0, 60, .inl z0)), ((u25.2.2.1), .inl (cA 0, 60, .inl z0)), ((u25.2.2.2.1), .inl (cA 0, 60, .inl z0)), ((u25.2.2.2.2), .inl (cA 0, 10, .inl z0)), (q2, .inr (3, [.int 0, .ref (u36.1), .ref (u36.2.1), .ref (u36.2.2.1), .ref (u36.2.2.2.1), .ref (u36.2.2.2.2)])), ((u36.1), .inl (cA 0, 30, .inl z0)), ((u36.2.1), .inl (cA 0, 30, .inl z0)), ((u36.2.2.1), .inl (cA 0, 30, .inl z0)), ((u36.2.2.2.1), .inl (cA 0, 30, .inl z0)), ((u36.2.2.2.2), .inl (cA 0, 30, .inl z0))]) (w1 := [(q3, .inr (5, [.int 0, .int 0, .ref (u47.1), .ref (u47.2.1), .ref (u47.2.2.1), .ref (u47.2.2.2)])), ((u47.1), .inl (cA 0, 20, .inl z0)), ((u47.2.1), .inl (cA 0, 20, .inl z0)), ((u47.2.2.1), .inl (cA 0, 20, .inl z0)), ((u47.2.2.2), .inl (cA 0, 20, .inl z0))]) hP hD [20] [0, 1, 2, 3, 4, 5, 6, 7, 8, 9, 10, 11, 12, 13, 14, 15, 16, 17, 18, 19] rfl rfl (by decide) (by decide) hk1 hFc hP1 hD1
  clear hP1 hD1 hPc hDc hFc
  generalize H1 = H at hP hS ⊢
  have hP : va_P G vwCl [(o, .inr (8, [.int 0, .ref q0, .ref q1, .ref q2, .null])), (q0, .inr (6, [.int 0, .ref (u14.1), .ref (u14.2.1), .ref (u14.2.2.1), .ref (u14.2.2.2.1), .ref (u14.2.2.2.2.1), .ref (u14.2.2.2.2.2)])), ((u14.1), .inl (cA 0, 24, .inl z0)), ((u14.2.1), .inl (cA 0, 24, .inl z0)), ((u14.2.2.1), .inl (cA 0, 24, .inl z0)), ((u14.2.2.2.1), .inl (cA 0, 24, .inl z0)), ((u14.2.2.2.2.1), .inl (cA 0, 24, .inl z0)), ((u14.2.2.2.2.2), .inl (cA 0, 24, .inl z0)), (q1, .inr (2, [.int 0, .ref (u25.1), .ref (u25.2.1), .ref (u25.2.2.1), .ref (u25.2.2.2.1), .ref (u25.2.2.2.2)])), ((u25.1), .inl (cA 0, 60, .inl z0)), ((u25.2.1), .inl (cA 0, 60, .inl z0)), ((u25.2.2.1), .inl (cA 0, 60, .inl z0)), ((u25.2.2.2.1), .inl (cA 0, 60, .inl z0)), ((u25.2.2.2.2), .inl (cA 0, 10, .inl z0)), (q2, .inr (3, [.int 0, .ref (u36.1), .ref (u36.2.1), .ref (u36.2.2.1), .ref (u36.2.2.2.1), .ref (u36.2.2.2.2)])), ((u36.1), .inl (cA 0, 30, .inl z0)), ((u36.2.1), .inl (cA 0, 30, .inl z0)), ((u36.2.2.1), .inl (cA 0, 30, .inl z0)), ((u36.2.2.2.1), .inl (cA 0, 30, .inl z0)), ((u36.2.2.2.2), .inl (cA 0, 30, .inl z0)), (q3, .inr (5, [.int 0, .int 0, .ref (u47.1), .ref (u47.2.1), .ref (u47.2.2.1), .ref (u47.2.2.2)])), ((u47.1), .inl (cA 0, 20, .inl z0)), ((u47.2.1), .inl (cA 0, 20, .inl z0)), ((u47.2.2.1), .inl (cA 0, 20, .inl z0)), ((u47.2.2.2), .inl (cA 0, 20, .inl z0))] H := hP
  have hD : va_D A [(o, .inr (8, [.int 0, .ref q0, .ref q1, .ref q2, .null])), (q0, .inr (6, [.int 0, .ref (u14.1), .ref (u14.2.1), .ref (u14.2.2.1), .ref (u14.2.2.2.1), .ref (u14.2.2.2.2.1), .ref (u14.2.2.2.2.2)])), ((u14.1), .inl (cA 0, 24, .inl z0)), ((u14.2.1), .inl (cA 0, 24, .inl z0)), ((u14.2.2.1), .inl (cA 0, 24, .inl z0)), ((u14.2.2.2.1), .inl (cA 0, 24, .inl z0)), ((u14.2.2.2.2.1), .inl (cA 0, 24, .inl z0)), ((u14.2.2.2.2.2), .inl (cA 0, 24, .inl z0)), (q1, .inr (2, [.int 0, .ref (u25.1), .ref (u25.2.1), .ref (u25.2.2.1), .ref (u25.2.2.2.1), .ref (u25.2.2.2.2)])), ((u25.1), .inl (cA 0, 60, .inl z0)), ((u25.2.1), .inl (cA 0, 60, .inl z0)), ((u25.2.2.1), .inl (cA 0, 60, .inl z0)), ((u25.2.2.2.1), .inl (cA 0, 60, .inl z0)), ((u25.2.2.2.2), .inl (cA 0, 10, .inl z0)), (q2, .inr (3, [.int 0, .ref (u36.1), .ref (u36.2.1), .ref (u36.2.2.1), .ref (u36.2.2.2.1), .ref (u36.2.2.2.2)])), ((u36.1), .inl (cA 0, 30, .inl z0)), ((u36.2.1), .inl (cA 0, 30, .inl z0)), ((u36.2.2.1), .inl (cA 0, 30, .inl z0)), ((u36.2.2.2.1), .inl (cA 0, 30, .inl z0)), ((u36.2.2.2.2), .inl (cA 0, 30, .inl z0)), (q3, .inr (5, [.int 0, .int 0, .ref (u47.1), .ref (u47.2.1), .ref (u47.2.2.1), .ref (u47.2.2.2)])), ((u47.1), .inl (cA 0, 20, .inl z0)), ((u47.2.1), .inl (cA 0, 20, .inl z0)), ((u47.2.2.1), .inl (cA 0, 20, .inl z0)), ((u47.2.2.2), .inl (cA 0, 20, .inl z0))] := hD
  refine va_putF (D := G) (ci := 8) (v := .ref q3) (ty := .object "ParcelRegistry$Liens") (C := RX6) (T := TX6) (N := 5) hx hb hts i_X6 tyX6 tyX6_ok nmX6 hown hK.1 hP hD hS 0 rfl rfl 4 (by decide) (hts (.fieldLink RX6 39 "ParcelRegistry$World" "liens" "LParcelRegistry$Liens;") (by decide +kernel)) (fun _ h9 => h9) rfl hin rfl (by decide +kernel) rfl rfl (Nat.le_of_ble_eq_true rfl) dX6_init_50 (fun H locs hP hD hS => ?_)
  have hP : va_P G vwCl [(o, .inr (8, [.int 0, .ref q0, .ref q1, .ref q2, .ref q3])), (q0, .inr (6, [.int 0, .ref (u14.1), .ref (u14.2.1), .ref (u14.2.2.1), .ref (u14.2.2.2.1), .ref (u14.2.2.2.2.1), .ref (u14.2.2.2.2.2)])), ((u14.1), .inl (cA 0, 24, .inl z0)), ((u14.2.1), .inl (cA 0, 24, .inl z0)), ((u14.2.2.1), .inl (cA 0, 24, .inl z0)), ((u14.2.2.2.1), .inl (cA 0, 24, .inl z0)), ((u14.2.2.2.2.1), .inl (cA 0, 24, .inl z0)), ((u14.2.2.2.2.2), .inl (cA 0, 24, .inl z0)), (q1, .inr (2, [.int 0, .ref (u25.1), .ref (u25.2.1), .ref (u25.2.2.1), .ref (u25.2.2.2.1), .ref (u25.2.2.2.2)])), ((u25.1), .inl (cA 0, 60, .inl z0)), ((u25.2.1), .inl (cA 0, 60, .inl z0)), ((u25.2.2.1), .inl (cA 0, 60, .inl z0)), ((u25.2.2.2.1), .inl (cA 0, 60, .inl z0)), ((u25.2.2.2.2), .inl (cA 0, 10, .inl z0)), (q2, .inr (3, [.int 0, .ref (u36.1), .ref (u36.2.1), .ref (u36.2.2.1), .ref (u36.2.2.2.1), .ref (u36.2.2.2.2)])), ((u36.1), .inl (cA 0, 30, .inl z0)), ((u36.2.1), .inl (cA 0, 30, .inl z0)), ((u36.2.2.1), .inl (cA 0, 30, .inl z0)), ((u36.2.2.2.1), .inl (cA 0, 30, .inl z0)), ((u36.2.2.2.2), .inl (cA 0, 30, .inl z0)), (q3, .inr (5, [.int 0, .int 0, .ref (u47.1), .ref (u47.2.1), .ref (u47.2.2.1), .ref (u47.2.2.2)])), ((u47.1), .inl (cA 0, 20, .inl z0)), ((u47.2.1), .inl (cA 0, 20, .inl z0)), ((u47.2.2.1), .inl (cA 0, 20, .inl z0)), ((u47.2.2.2), .inl (cA 0, 20, .inl z0))] H := hP
  have hD : va_D A [(o, .inr (8, [.int 0, .ref q0, .ref q1, .ref q2, .ref q3])), (q0, .inr (6, [.int 0, .ref (u14.1), .ref (u14.2.1), .ref (u14.2.2.1), .ref (u14.2.2.2.1), .ref (u14.2.2.2.2.1), .ref (u14.2.2.2.2.2)])), ((u14.1), .inl (cA 0, 24, .inl z0)), ((u14.2.1), .inl (cA 0, 24, .inl z0)), ((u14.2.2.1), .inl (cA 0, 24, .inl z0)), ((u14.2.2.2.1), .inl (cA 0, 24, .inl z0)), ((u14.2.2.2.2.1), .inl (cA 0, 24, .inl z0)), ((u14.2.2.2.2.2), .inl (cA 0, 24, .inl z0)), (q1, .inr (2, [.int 0, .ref (u25.1), .ref (u25.2.1), .ref (u25.2.2.1), .ref (u25.2.2.2.1), .ref (u25.2.2.2.2)])), ((u25.1), .inl (cA 0, 60, .inl z0)), ((u25.2.1), .inl (cA 0, 60, .inl z0)), ((u25.2.2.1), .inl (cA 0, 60, .inl z0)), ((u25.2.2.2.1), .inl (cA 0, 60, .inl z0)), ((u25.2.2.2.2), .inl (cA 0, 10, .inl z0)), (q2, .inr (3, [.int 0, .ref (u36.1), .ref (u36.2.1), .ref (u36.2.2.1), .ref (u36.2.2.2.1), .ref (u36.2.2.2.2)])), ((u36.1), .inl (cA 0, 30, .inl z0)), ((u36.2.1), .inl (cA 0, 30, .inl z0)), ((u36.2.2.1), .inl (cA 0, 30, .inl z0)), ((u36.2.2.2.1), .inl (cA 0, 30, .inl z0)), ((u36.2.2.2.2), .inl (cA 0, 30, .inl z0)), (q3, .inr (5, [.int 0, .int 0, .ref (u47.1), .ref (u47.2.1), .ref (u47.2.2.1), .ref (u47.2.2.2)])), ((u47.1), .inl (cA 0, 20, .inl z0)), ((u47.2.1), .inl (cA 0, 20, .inl z0)), ((u47.2.2.1), .inl (cA 0, 20, .inl z0)), ((u47.2.2.2), .inl (cA 0, 20, .inl z0))] := hD
  have hP := hP.sub (ws' := kI_X6 cA (a25 o q0 ((u14.1)) ((u14.2.1)) ((u14.2.2.1)) ((u14.2.2.2.1)) ((u14.2.2.2.2.1)) ((u14.2.2.2.2.2)) q1 ((u25.1)) ((u25.2.1)) ((u25.2.2.1)) ((u25.2.2.2.1)) ((u25.2.2.2.2)) q2 ((u36.1)) ((u36.2.1)) ((u36.2.2.1)) ((u36.2.2.2.1)) ((u36.2.2.2.2)) q3 ((u47.1)) ((u47.2.1)) ((u47.2.2.1)) ((u47.2.2.2)))) [0, 1, 2, 3, 4, 5, 6, 7, 8, 9, 10, 11, 12, 14, 15, 16, 17, 18, 19, 20, 21, 22, 23, 24, 13] rfl
  have hD := hD.sub (ws' := kI_X6 cA (a25 o q0 ((u14.1)) ((u14.2.1)) ((u14.2.2.1)) ((u14.2.2.2.1)) ((u14.2.2.2.2.1)) ((u14.2.2.2.2.2)) q1 ((u25.1)) ((u25.2.1)) ((u25.2.2.1)) ((u25.2.2.2.1)) ((u25.2.2.2.2)) q2 ((u36.1)) ((u36.2.1)) ((u36.2.2.1)) ((u36.2.2.2.1)) ((u36.2.2.2.2)) q3 ((u47.1)) ((u47.2.1)) ((u47.2.2.1)) ((u47.2.2.2)))) [0, 1, 2, 3, 4, 5, 6, 7, 8, 9, 10, 11, 12, 14, 15, 16, 17, 18, 19, 20, 21, 22, 23, 24, 13] (by decide) rfl
  exact hret _ _ ⟨a25 o q0 ((u14.1)) ((u14.2.1)) ((u14.2.2.1)) ((u14.2.2.2.1)) ((u14.2.2.2.2.1)) ((u14.2.2.2.2.2)) q1 ((u25.1)) ((u25.2.1)) ((u25.2.2.1)) ((u25.2.2.2.1)) ((u25.2.2.2.2)) q2 ((u36.1)) ((u36.2.1)) ((u36.2.2.1)) ((u36.2.2.2.1)) ((u36.2.2.2.2)) q3 ((u47.1)) ((u47.2.1)) ((u47.2.2.1)) ((u47.2.2.2)), rfl⟩ _ _ _ _ dX6_init_53 hP hD hS (Nat.le_of_ble_eq_true rfl) (Nat.le_of_ble_eq_true rfl)
