/-! The entries of the law's methods that catch; of methods of a double. -/
def nn64 (r : UInt64) : Bool := decide (r &&& 0x7fffffffffffffff ≤ 0x7ff0000000000000)
theorem nn64z {r : UInt64} (h : nn64 r = true) : vf_n64 r := by
  unfold vf_n64
  exact of_decide_eq_true h
/-- a method of the law that catches what is thrown -/
theorem metL {hh : List (Nat × Nat × Nat × Nat)} {l : Launch} {y : MethodName} {ws ws' : List Cond} {rm : Room} {cc : ByteArray} {maxL : Nat} {z : Nat → Nat} {G : va_G} {cA : Nat → ClassId} {args : List Value} {wc : va_W} {sz : Nat} {S : Type} {post : Int32 → S → Prop} {kf : S → va_W} (hy : plainName y.cls = true) (hw : ws = Cond.codeWith y cc maxL (some .int) hh :: ws') (hargs : (lg_sl args).length ≤ maxL)
    (body : ∀ (p : Program) (e : Env) (s : State) (m : MethodId) (av : Array Value) (below : List Frame) (meth : Method) (c : Code) (Q : State → Prop) (ls : Array Slot) (A : Nat → Prop) (H : Heap), p.tables.exec = Jvm.exec → c.code = cc → c.maxLocals = maxL → (∀ w ∈ ws, w.before av s = true) → s.vm.findClass y.cls = some m.cls → va_P G vwCl wc H → KK G cA s → TW z s → HW z A s s.heap → va_D A wc → (∀ q : Nat, s.heap.size ≤ q → A q) → va_S A s.heap H [] → lv_has ls maxL (lv_args 0 args) →
      (∀ (pc : Nat) (ls : Array Slot) (v : Int32) (u : S) (H : Heap) (locs : List Loc), decode cc pc = .ok (.ireturn, 1) → va_P G vwCl (kf u) H → va_S A s.heap H locs → post v u → W p l e rm s m av below meth c H locs (0 + 1) (0 + 6) Q (F0 m pc ls [.int v])) → c.exceptionTable.toList = tableOf hh → W p l e rm s m av below meth c H [] 0 0 Q (F0 m 0 ls [])) :
    Met l y ws rm (va_Pc args (PMo z G cA wc sz)) (va_Qi post (BM G kf) (va_A wc sz)) 1 6 (va_A wc sz) := by
  refine va_MetW (cc := cc) (maxL := maxL) (ret := some .int) (hh := hh) hy hw ?_
  intro p e s m args0 below meth c s₁ B hml hv
  obtain ⟨rfl, ⟨hsz, hP, hD0, hK⟩, hT, hO⟩ := hv
  subst hsz
  have hl := lv_entry args (n := maxL) hargs
  have hlocks := B.notSynchronized
  rw [lg_entry_eq]
  generalize (lg_sl args ++ List.replicate (maxL - (lg_sl args).length) Slot.unset).toArray = ls at hl ⊢
  exact body p e s m _ below meth c _ ls (va_A wc s.heap.size) s.heap B.exec B.bytes hml (atoms_spec (ws := ws) B.pre) (findClass_of_methodNamed B.named) hP hK hT hO (hD0.self) (fun q h => Or.inr h) va_S.rf hl (fun pc ls v u H locs hd hP hS hp => W.iret B.exec B.bytes B.returns (fun t ht _ => ⟨⟨v, u, rfl, hp, by show va_P G vwCl (kf u) t.heap; rw [ht]; exact hP⟩, hS.F ht⟩) hS.2.2 hd) (vx_table (x := y) B (atoms_spec (ws := ws) B.pre _ (by rw [hw]; exact List.mem_cons_self)))
/-- a writing method of a double -/
theorem metMd {l : Launch} {y : MethodName} {ws ws' : List Cond} {rm : Room} {cc : ByteArray} {maxL : Nat} {G : va_G} {cA : Nat → ClassId} {args : List Value} {wc : va_W} {sz : Nat} {S : Type} {post : UInt64 → S → Prop} {kf : S → va_W} (hy : plainName y.cls = true) (hw : ws = Cond.code y cc maxL (some .double) :: ws') (hargs : (lg_sl args).length ≤ maxL)
    (body : ∀ (p : Program) (e : Env) (s : State) (m : MethodId) (av : Array Value) (below : List Frame) (meth : Method) (c : Code) (Q : State → Prop) (ls : Array Slot) (A : Nat → Prop) (H : Heap), p.tables.exec = Jvm.exec → c.code = cc → c.maxLocals = maxL → (∀ w ∈ ws, w.before av s = true) → s.vm.findClass y.cls = some m.cls → va_P G vwCl wc H → KK G cA s → va_D A wc → (∀ q : Nat, s.heap.size ≤ q → A q) → va_S A s.heap H [] → lv_has ls maxL (lv_args 0 args) →
      (∀ (pc : Nat) (ls : Array Slot) (v : UInt64) (u : S) (H : Heap) (locs : List Loc), decode cc pc = .ok (.dreturn, 1) → va_P G vwCl (kf u) H → va_S A s.heap H locs → post v u → W p l e rm s m av below meth c H locs 0 0 Q (F0 m pc ls [.double v])) → W p l e rm s m av below meth c H [] 0 0 Q (F0 m 0 ls [])) :
    Met l y ws rm (va_Pc args (PM G cA wc sz)) (va_Qd post (BM G kf) (va_A wc sz)) 0 0 (va_A wc sz) := by
  refine Met.ofW (cc := cc) (maxL := maxL) (ret := some .double) hy hw ?_
  intro p e s m args0 below meth c s₁ B hml hv
  obtain ⟨rfl, hsz, hP, hD0, hK⟩ := hv
  subst hsz
  have hl := lv_entry args (n := maxL) hargs
  have hlocks := B.notSynchronized
  rw [lg_entry_eq]
  generalize (lg_sl args ++ List.replicate (maxL - (lg_sl args).length) Slot.unset).toArray = ls at hl ⊢
  exact body p e s m _ below meth c _ ls (va_A wc s.heap.size) s.heap B.exec B.bytes hml (atoms_spec (ws := ws) B.pre) (findClass_of_methodNamed B.named) hP hK (hD0.self) (fun q h => Or.inr h) va_S.rf hl (fun pc ls v u H locs hd hP hS hp => W.dret B.exec B.bytes B.returns (fun t ht _ => ⟨⟨v, u, rfl, hp, by show va_P G vwCl (kf u) t.heap; rw [ht]; exact hP⟩, hS.F ht⟩) hS.2.2 hd)
/-- a method of an int or a boolean that returns or throws; one cell of six slots comes, the thrown -/
theorem metXd {l : Launch} {y : MethodName} {ws ws' : List Cond} {rm : Room} {cc : ByteArray} {maxL : Nat} {z : Nat → Nat} {G : va_G} {cA : Nat → ClassId} {args : List Value} {wc : va_W} {sz : Nat} {S : Type} {post : UInt64 → S → Prop} {px : Nat × S → Prop} {kf : S → va_W} (hy : plainName y.cls = true) (hw : ws = Cond.code y cc maxL (some .double) :: ws') (hargs : (lg_sl args).length ≤ maxL) (hyy : y = yX7_meanArea) (hcc : cc = cX7_meanArea) (hws : ws = wsX7_meanArea) (hfl : l.stackTraces = false) (hrm : 6 ≤ rm.frames ∧ 90 ≤ rm.locals ∧ rm.cells = 1 ∧ rm.slots = 6)
    (body : ∀ (p : Program) (e : Env) (s : State) (m : MethodId) (av : Array Value) (below : List Frame) (meth : Method) (c : Code) (Q : State → Prop) (ls : Array Slot) (A : Nat → Prop) (H : Heap), p.tables.exec = Jvm.exec → c.code = cc → c.maxLocals = maxL → (∀ w ∈ ws, w.before av s = true) → s.vm.findClass y.cls = some m.cls → va_P G vwCl wc H → KK G cA s → TW z s → HW z A s s.heap → va_D A wc → (∀ q : Nat, s.heap.size ≤ q → A q) → va_S A s.heap H [] → lv_has ls maxL (lv_args 0 args) →
      (∀ (pc : Nat) (ls : Array Slot) (v : UInt64) (u : S) (H : Heap) (locs : List Loc), decode cc pc = .ok (.dreturn, 1) → va_P G vwCl (kf u) H → va_S A s.heap H locs → post v u → W p l e rm s m av below meth c H locs 0 0 Q (F0 m pc ls [.double v])) →
      (∀ (pc : Nat) (ls : Array Slot) (rest : List Value) (E : String) (ce : Cell) (q : Addr) (k : Nat) (u : S) (H : Heap) (locs : List Loc), H[q]? = some ce → ce.vm = .none → s.vm.findClass E = some ce.cls → E = exN k → va_P G vwCl (kf u) H → va_S A s.heap H locs → px (k, u) → vx_W p l e rm s m av below meth c H locs (0 + 1) (0 + 6) Q (F0 m pc ls rest) q) →
      (∀ (ls : Array Slot) (u : S) (H : Heap) (locs : List Loc), ls.size = maxL → va_P G vwCl (kf u) H → va_S A s.heap H locs → px (6, u) → W p l e rm s m av below meth c H locs 0 0 Q (F0 m 20 ls [])) →
      W p l e rm s m av below meth c H [] 0 0 Q (F0 m 0 ls [])) :
    vx_Met l y ws rm (va_Pc args (PMo z G cA wc sz)) (va_Qd post (BM G kf) (va_A wc sz)) (vx_X px (fun E x t => E = exN x.1 ∧ va_P G vwCl (kf x.2) t.heap) (va_A wc sz)) 1 6 (va_A wc sz) := by
  refine vx_ofW (cc := cc) (maxL := maxL) (ret := some .double) hy hw ?_
  intro p e s m args0 below meth c s₁ B hml hexc hv
  obtain ⟨rfl, ⟨hsz, hP, hD0, hK⟩, hT, hO⟩ := hv
  subst hsz
  have hl := lv_entry args (n := maxL) hargs
  have hlocks := B.notSynchronized
  rw [lg_entry_eq]
  generalize (lg_sl args ++ List.replicate (maxL - (lg_sl args).length) Slot.unset).toArray = ls at hl ⊢
  exact body p e s m _ below meth c _ ls (va_A wc s.heap.size) s.heap B.exec B.bytes hml (atoms_spec (ws := ws) B.pre) (findClass_of_methodNamed B.named) hP hK hT hO (hD0.self) (fun q h => Or.inr h) va_S.rf hl
    (fun pc ls v u H locs hd hP hS hp => W.widen (k := 1) (n := 6) (by omega) (by omega) (vx_ret (W.dret B.exec B.bytes B.returns (fun t ht _ => ⟨⟨v, u, rfl, hp, by show va_P G vwCl (kf u) t.heap; rw [ht]; exact hP⟩, hS.F ht⟩) hS.2.2 hd)))
    (fun pc ls rest E ce q k u H locs hce hcv hcl hE hP hS hp => vx_out (fun x hx => (hexc x hx).elim) hlocks hce hcv hcl (fun t ht hvm => ⟨(k, u), hp, ⟨hE, by rw [ht]; exact hP⟩, hS.F ht⟩) hS.2.2 (Nat.le_refl _) (Nat.le_refl _))
    (fun ls u H locs hsz hP hS hp => by
      subst hyy
      subst hcc
      subst hws
      have hts := atoms_spec (ws := wsX7_meanArea) B.pre
      have hown : s.vm.findClass RX7 = some m.cls := findClass_of_methodNamed B.named
      obtain ⟨r1, r2, r3, r4⟩ := hrm
      refine vx_throwSW (own := RX7) (cls := "java/lang/ArithmeticException") (names := ["java/lang/RuntimeException", "java/lang/Exception"]) (text := "the person holds no parcel") (sa := z 24) (A := va_A wc s.heap.size) B.exec B.bytes hfl hown (by decide) (by decide) (hts (.classLink RX7 334 "java/lang/ArithmeticException") (by decide +kernel)) (hts (.initialized "java/lang/ArithmeticException") (by decide +kernel)) (hT.1 (RX7, 336, "the person holds no parcel", 24) (List.mem_of_getElem? (i := 12) rfl)) (vx_hat (B := [.declares (Bundle.initS "java/lang/RuntimeException"), .declares (Bundle.initS "java/lang/Exception"), .declares (Bundle.initS "java/lang/Throwable"), .castable "java/lang/ArithmeticException" "java/lang/ArithmeticException"]) (fun w hw => hts w (by first | exact List.mem_cons_of_mem _ (List.mem_append_right _ hw) | exact List.mem_cons_of_mem _ (List.mem_append_left _ (List.mem_append_right _ hw)) | exact List.mem_cons_of_mem _ (List.mem_append_left _ (List.mem_append_left _ (List.mem_append_right _ hw))))) (by decide +kernel) (vx_c ((hT.2.2.2 _ (List.mem_of_getElem? (i := 0) rfl)).use rfl) (vx_c ((hT.2.2.2 _ (List.mem_of_getElem? (i := 1) rfl)).use rfl) (vx_c ((hT.2.2.2 _ (List.mem_of_getElem? (i := 2) rfl)).use rfl) (vx_c ((hT.2.1 6 (by decide)).use rfl) vx_n))))) (by decide +kernel) hO.2.2.2.1 hO.2.2.2.2.1 hS (hsz.trans hml.symm) dX7_meanArea_20 dX7_meanArea_23 dX7_meanArea_24 dX7_meanArea_27 dX7_meanArea_30 (fun x hx => (hexc x hx).elim) (by show 5 < rm.frames; omega) (by show 0 + 82 ≤ rm.locals; omega) (by show 0 + 1 ≤ rm.cells; omega) (by show 0 + 6 ≤ rm.slots; omega) hlocks (fun t hvm h1 h2 => ⟨(6, u), hp, ⟨rfl, hP.kept (fun k q hq => h2 q.1 (hP k q hq).lt)⟩, ⟨Nat.le_trans hS.1 h1, fun q hq hA => (h2 q (Nat.lt_of_lt_of_le hq hS.1)).trans (hS.2.1 q hq hA)⟩⟩) hS.2.2 (Nat.le_refl _) (Nat.le_refl _))
