/-! The entries of methods that need the outside, or throw. -/
theorem lenS_lt : ∀ k : Nat, lenS.getD k 0 < 2 ^ 31
  | 0 | 1 | 2 | 3 | 4 | 5 => by decide
  | _ + 6 => by simp [lenS]
theorem metRo {l : Launch} {y : MethodName} {ws ws' : List Cond} {rm : Room} {cc : ByteArray} {maxL : Nat} {z : Nat → Nat} {G : va_G} {cA : Nat → ClassId} {args : List Value} {wc : va_W} {post : Int32 → Prop} (ty : FieldType) (hy : plainName y.cls = true) (hw : ws = Cond.code y cc maxL (some ty) :: ws') (hargs : (lg_sl args).length ≤ maxL)
    (body : ∀ (p : Program) (e : Env) (s : State) (m : MethodId) (av : Array Value) (below : List Frame) (meth : Method) (c : Code) (Q : State → Prop) (ls : Array Slot), p.tables.exec = Jvm.exec → c.code = cc → c.maxLocals = maxL → (∀ w ∈ ws, w.before av s = true) → s.vm.findClass y.cls = some m.cls → va_P G vwCl wc s.heap → KK G cA s → TW z s → HW z NoA s s.heap → lv_has ls maxL (lv_args 0 args) →
      (∀ (pc : Nat) (ls : Array Slot) (v : Int32), decode cc pc = .ok (.ireturn, 1) → narrow ty (.int v) = .int v → post v → W p l e rm s m av below meth c s.heap [] 0 0 Q (F0 m pc ls [.int v])) → W p l e rm s m av below meth c s.heap [] 0 0 Q (F0 m 0 ls [])) :
    Met l y ws rm (va_Pc args (PRo z G cA wc)) (vp_Si post) 0 0 (fun _ => False) := by
  refine Met.ofW (cc := cc) (maxL := maxL) (ret := some ty) hy hw ?_
  intro p e s m args0 below meth c s₁ B hml hv
  obtain ⟨rfl, ⟨hP, hK⟩, hT, hO⟩ := hv
  have hl := lv_entry args (n := maxL) hargs
  have hlocks := B.notSynchronized
  rw [lg_entry_eq]
  generalize (lg_sl args ++ List.replicate (maxL - (lg_sl args).length) Slot.unset).toArray = ls at hl ⊢
  exact body p e s m _ below meth c _ ls B.exec B.bytes hml (atoms_spec (ws := ws) B.pre) (findClass_of_methodNamed B.named) hP hK hT hO hl (fun pc ls v hd hn hp => W.zret B.exec B.bytes B.returns hn (fun t ht _ => ⟨v, rfl, hp, ht⟩) (fun q h => by cases h) hd)
theorem metRs {l : Launch} {y : MethodName} {ws ws' : List Cond} {rm : Room} {cc : ByteArray} {maxL : Nat} {z : Nat → Nat} {G : va_G} {cA : Nat → ClassId} {args : List Value} {wc : va_W} {post : Nat → Prop} {ad : Nat → Nat} {nm : String} (hy : plainName y.cls = true) (hw : ws = Cond.code y cc maxL (some (.object nm)) :: ws') (hargs : (lg_sl args).length ≤ maxL)
    (body : ∀ (p : Program) (e : Env) (s : State) (m : MethodId) (av : Array Value) (below : List Frame) (meth : Method) (c : Code) (Q : State → Prop) (ls : Array Slot), p.tables.exec = Jvm.exec → c.code = cc → c.maxLocals = maxL → (∀ w ∈ ws, w.before av s = true) → s.vm.findClass y.cls = some m.cls → va_P G vwCl wc s.heap → KK G cA s → TW z s → HW z NoA s s.heap → lv_has ls maxL (lv_args 0 args) →
      (∀ (pc : Nat) (ls : Array Slot) (k : Nat), decode cc pc = .ok (.areturn, 1) → post k → W p l e rm s m av below meth c s.heap [] 0 0 Q (F0 m pc ls [.ref (ad k)])) → W p l e rm s m av below meth c s.heap [] 0 0 Q (F0 m 0 ls [])) :
    Met l y ws rm (va_Pc args (PRo z G cA wc)) (va_Sr post (fun k => .ref (ad k))) 0 0 (fun _ => False) := by
  refine Met.ofW (cc := cc) (maxL := maxL) (ret := some (.object nm)) hy hw ?_
  intro p e s m args0 below meth c s₁ B hml hv
  obtain ⟨rfl, ⟨hP, hK⟩, hT, hO⟩ := hv
  have hl := lv_entry args (n := maxL) hargs
  have hlocks := B.notSynchronized
  rw [lg_entry_eq]
  generalize (lg_sl args ++ List.replicate (maxL - (lg_sl args).length) Slot.unset).toArray = ls at hl ⊢
  exact body p e s m _ below meth c _ ls B.exec B.bytes hml (atoms_spec (ws := ws) B.pre) (findClass_of_methodNamed B.named) hP hK hT hO hl (fun pc ls k hd hp => W.aret B.exec B.bytes B.returns (Or.inl ⟨_, rfl⟩) (Or.inr ⟨_, rfl⟩) (fun t ht _ => ⟨k, rfl, hp, ht⟩) (fun q h => by cases h) hd)
theorem metMo {l : Launch} {y : MethodName} {ws ws' : List Cond} {rm : Room} {cc : ByteArray} {maxL : Nat} {z : Nat → Nat} {G : va_G} {cA : Nat → ClassId} {args : List Value} {wc : va_W} {sz : Nat} {S : Type} {post : Int32 → S → Prop} {kf : S → va_W} (ty : FieldType) (hy : plainName y.cls = true) (hw : ws = Cond.code y cc maxL (some ty) :: ws') (hargs : (lg_sl args).length ≤ maxL)
    (body : ∀ (p : Program) (e : Env) (s : State) (m : MethodId) (av : Array Value) (below : List Frame) (meth : Method) (c : Code) (Q : State → Prop) (ls : Array Slot) (A : Nat → Prop) (H : Heap), p.tables.exec = Jvm.exec → c.code = cc → c.maxLocals = maxL → (∀ w ∈ ws, w.before av s = true) → s.vm.findClass y.cls = some m.cls → va_P G vwCl wc H → KK G cA s → TW z s → HW z A s s.heap → va_D A wc → (∀ q : Nat, s.heap.size ≤ q → A q) → va_S A s.heap H [] → lv_has ls maxL (lv_args 0 args) →
      (∀ (pc : Nat) (ls : Array Slot) (v : Int32) (u : S) (H : Heap) (locs : List Loc), decode cc pc = .ok (.ireturn, 1) → narrow ty (.int v) = .int v → va_P G vwCl (kf u) H → va_S A s.heap H locs → post v u → W p l e rm s m av below meth c H locs 0 0 Q (F0 m pc ls [.int v])) → W p l e rm s m av below meth c H [] 0 0 Q (F0 m 0 ls [])) :
    Met l y ws rm (va_Pc args (PMo z G cA wc sz)) (va_Qi post (BM G kf) (va_A wc sz)) 0 0 (va_A wc sz) := by
  refine Met.ofW (cc := cc) (maxL := maxL) (ret := some ty) hy hw ?_
  intro p e s m args0 below meth c s₁ B hml hv
  obtain ⟨rfl, ⟨hsz, hP, hD0, hK⟩, hT, hO⟩ := hv
  subst hsz
  have hl := lv_entry args (n := maxL) hargs
  have hlocks := B.notSynchronized
  rw [lg_entry_eq]
  generalize (lg_sl args ++ List.replicate (maxL - (lg_sl args).length) Slot.unset).toArray = ls at hl ⊢
  exact body p e s m _ below meth c _ ls (va_A wc s.heap.size) s.heap B.exec B.bytes hml (atoms_spec (ws := ws) B.pre) (findClass_of_methodNamed B.named) hP hK hT hO (hD0.self) (fun q h => Or.inr h) va_S.rf hl (fun pc ls v u H locs hd hn hP hS hp => W.zret B.exec B.bytes B.returns hn (fun t ht _ => ⟨⟨v, u, rfl, hp, by show va_P G vwCl (kf u) t.heap; rw [ht]; exact hP⟩, hS.F ht⟩) hS.2.2 hd)
theorem metVo {l : Launch} {y : MethodName} {ws ws' : List Cond} {rm : Room} {cc : ByteArray} {maxL : Nat} {z : Nat → Nat} {G : va_G} {cA : Nat → ClassId} {args : List Value} {wc : va_W} {sz : Nat} {S : Type} {post : S → Prop} {kf : S → va_W} (hy : plainName y.cls = true) (hw : ws = Cond.code y cc maxL none :: ws') (hargs : (lg_sl args).length ≤ maxL)
    (body : ∀ (p : Program) (e : Env) (s : State) (m : MethodId) (av : Array Value) (below : List Frame) (meth : Method) (c : Code) (Q : State → Prop) (ls : Array Slot) (A : Nat → Prop) (H : Heap), p.tables.exec = Jvm.exec → c.code = cc → c.maxLocals = maxL → (∀ w ∈ ws, w.before av s = true) → s.vm.findClass y.cls = some m.cls → va_P G vwCl wc H → KK G cA s → TW z s → HW z A s s.heap → va_D A wc → (∀ q : Nat, s.heap.size ≤ q → A q) → va_S A s.heap H [] → lv_has ls maxL (lv_args 0 args) →
      (∀ (pc : Nat) (ls : Array Slot) (u : S) (H : Heap) (locs : List Loc), decode cc pc = .ok (.return_, 1) → va_P G vwCl (kf u) H → va_S A s.heap H locs → post u → W p l e rm s m av below meth c H locs 0 0 Q (F0 m pc ls [])) → W p l e rm s m av below meth c H [] 0 0 Q (F0 m 0 ls [])) :
    Met l y ws rm (va_Pc args (PMo z G cA wc sz)) (va_Qv post (BM G kf) (va_A wc sz)) 0 0 (va_A wc sz) := by
  refine Met.ofW (cc := cc) (maxL := maxL) (ret := none) hy hw ?_
  intro p e s m args0 below meth c s₁ B hml hv
  obtain ⟨rfl, ⟨hsz, hP, hD0, hK⟩, hT, hO⟩ := hv
  subst hsz
  have hl := lv_entry args (n := maxL) hargs
  have hlocks := B.notSynchronized
  rw [lg_entry_eq]
  generalize (lg_sl args ++ List.replicate (maxL - (lg_sl args).length) Slot.unset).toArray = ls at hl ⊢
  exact body p e s m _ below meth c _ ls (va_A wc s.heap.size) s.heap B.exec B.bytes hml (atoms_spec (ws := ws) B.pre) (findClass_of_methodNamed B.named) hP hK hT hO (hD0.self) (fun q h => Or.inr h) va_S.rf hl (fun pc ls u H locs hd hP hS hp => W.vret B.exec B.bytes B.returns (fun t ht _ => ⟨⟨u, rfl, hp, by show va_P G vwCl (kf u) t.heap; rw [ht]; exact hP⟩, hS.F ht⟩) hS.2.2 hd)
/-- a method of an int or a boolean that returns or throws; one cell of six slots comes, the thrown -/
theorem metX {l : Launch} {y : MethodName} {ws ws' : List Cond} {rm : Room} {cc : ByteArray} {maxL : Nat} {z : Nat → Nat} {G : va_G} {cA : Nat → ClassId} {args : List Value} {wc : va_W} {sz : Nat} {S : Type} {post : Int32 → S → Prop} {px : Nat × S → Prop} {kf : S → va_W} (ty : FieldType) (hy : plainName y.cls = true) (hw : ws = Cond.code y cc maxL (some ty) :: ws') (hargs : (lg_sl args).length ≤ maxL)
    (body : ∀ (p : Program) (e : Env) (s : State) (m : MethodId) (av : Array Value) (below : List Frame) (meth : Method) (c : Code) (Q : State → Prop) (ls : Array Slot) (A : Nat → Prop) (H : Heap), p.tables.exec = Jvm.exec → c.code = cc → c.maxLocals = maxL → (∀ w ∈ ws, w.before av s = true) → s.vm.findClass y.cls = some m.cls → va_P G vwCl wc H → KK G cA s → TW z s → HW z A s s.heap → va_D A wc → (∀ q : Nat, s.heap.size ≤ q → A q) → va_S A s.heap H [] → lv_has ls maxL (lv_args 0 args) →
      (∀ (pc : Nat) (ls : Array Slot) (v : Int32) (u : S) (H : Heap) (locs : List Loc), decode cc pc = .ok (.ireturn, 1) → narrow ty (.int v) = .int v → va_P G vwCl (kf u) H → va_S A s.heap H locs → post v u → W p l e rm s m av below meth c H locs 0 0 Q (F0 m pc ls [.int v])) →
      (∀ (pc : Nat) (ls : Array Slot) (rest : List Value) (E : String) (ce : Cell) (q : Addr) (k : Nat) (u : S) (H : Heap) (locs : List Loc), H[q]? = some ce → ce.vm = .none → s.vm.findClass E = some ce.cls → E = exN k → va_P G vwCl (kf u) H → va_S A s.heap H locs → px (k, u) → vx_W p l e rm s m av below meth c H locs (0 + 1) (0 + 6) Q (F0 m pc ls rest) q) →
      W p l e rm s m av below meth c H [] 0 0 Q (F0 m 0 ls [])) :
    vx_Met l y ws rm (va_Pc args (PMo z G cA wc sz)) (va_Qi post (BM G kf) (va_A wc sz)) (vx_X px (fun E x t => E = exN x.1 ∧ va_P G vwCl (kf x.2) t.heap) (va_A wc sz)) 1 6 (va_A wc sz) := by
  refine vx_ofW (cc := cc) (maxL := maxL) (ret := some ty) hy hw ?_
  intro p e s m args0 below meth c s₁ B hml hexc hv
  obtain ⟨rfl, ⟨hsz, hP, hD0, hK⟩, hT, hO⟩ := hv
  subst hsz
  have hl := lv_entry args (n := maxL) hargs
  have hlocks := B.notSynchronized
  rw [lg_entry_eq]
  generalize (lg_sl args ++ List.replicate (maxL - (lg_sl args).length) Slot.unset).toArray = ls at hl ⊢
  exact body p e s m _ below meth c _ ls (va_A wc s.heap.size) s.heap B.exec B.bytes hml (atoms_spec (ws := ws) B.pre) (findClass_of_methodNamed B.named) hP hK hT hO (hD0.self) (fun q h => Or.inr h) va_S.rf hl
    (fun pc ls v u H locs hd hn hP hS hp => W.widen (k := 1) (n := 6) (by omega) (by omega) (vx_ret (W.zret B.exec B.bytes B.returns hn (fun t ht _ => ⟨⟨v, u, rfl, hp, by show va_P G vwCl (kf u) t.heap; rw [ht]; exact hP⟩, hS.F ht⟩) hS.2.2 hd)))
    (fun pc ls rest E ce q k u H locs hce hcv hcl hE hP hS hp => vx_out (fun x hx => (hexc x hx).elim) hlocks hce hcv hcl (fun t ht hvm => ⟨(k, u), hp, ⟨hE, by rw [ht]; exact hP⟩, hS.F ht⟩) hS.2.2 (Nat.le_refl _) (Nat.le_refl _))
theorem va_ldcSW {p : Program} {l : Launch} {e : Env} {R : Room} {s : State} {m : MethodId} {args : Array Value} {below : List Frame} {meth : Method} {c : Code} {H : Heap} {locs : List Loc} {cells slots : Nat} {Q : State → Prop} {cc : ByteArray} {pc : Nat} {ls : Array Slot} {rest : List Value} (hexec : p.tables.exec = Jvm.exec) (hb : c.code = cc) {own tx : String} {index q : Nat} (hown : s.vm.findClass own = some m.cls) (hZ : vk_R own index tx q s) (hdg : decode cc pc = .ok (.ldc_w index, 3))
    (k : W p l e R s m args below meth c H locs cells slots Q (F0 m (pc + 3) ls (.ref q :: rest))) : W p l e R s m args below meth c H locs cells slots Q (F0 m pc ls rest) := by
  intro T hT X
  obtain ⟨t, a1, b1⟩ := k T hT X
  exact ⟨t, X.ldcStringW hexec hown (text := tx) (a := q) hZ.1 hZ.2 (g := F0 m pc ls rest) rfl (by rw [hb]; exact hdg) t a1, b1⟩
theorem va_aldA {p : Program} {l : Launch} {e : Env} {R : Room} {s : State} {m : MethodId} {args : Array Value} {below : List Frame} {meth : Method} {c : Code} {H : Heap} {locs : List Loc} {cells slots : Nat} {Q : State → Prop} {cc : ByteArray} {pc : Nat} {ls : Array Slot} {rest : List Value} {D : va_G} {cl : List vw_C} {a : Nat} {tys : List (ClassId × FieldType)} {ws : va_W} (hexec : p.tables.exec = Jvm.exec) (hb : c.code = cc) (hK : va_K D cl tys s) (hP : va_P D cl ws H) (q0 t0 : Nat) {cA : ClassId} {ty : FieldType} {n : Nat} {f : Nat → Option Nat} (ha : ws[q0]? = some (a, .inl (cA, n, .inr (.inr (.inr (.inr f)))))) (ht : tys[t0]? = some (cA, .array ty)) {i : Int32} (hin : vp_in i n) (hdg : decode cc pc = .ok (.aaload, 1))
    (kk : W p l e R s m args below meth c H locs cells slots Q (F0 m (pc + 1) ls (va_rf (f i.toNatClampNeg) :: rest))) : W p l e R s m args below meth c H locs cells slots Q (F0 m pc ls (.int i :: .ref a :: rest)) := by
  have hlt : i.toNatClampNeg < n := Nat.not_le.mp fun q => hin (Or.inr q)
  exact W.aald (v := va_rf (f i.toNatClampNeg)) (ty := .array ty) hexec hb (hP q0 _ ha) ((hK.2 t0 _ ht).1 n (fun j => va_rf (f j))) rfl (fun q => by cases q) (by show ¬ (i < 0 ∨ (arrV _ _ _).slots.size ≤ _); rw [arrV_size]; exact hin) (by show (arrV _ _ _).slots[_]? = _; rw [arrV_read _ _ hlt]) rfl rfl hdg kk
