/-! What all walks stand on: the array classes, the links to private members of nest mates, models as partial functions with fuel. -/
/-- the array classes that the walks speak of, by their places -/
abbrev tyS (cA : Nat → ClassId) : List (ClassId × FieldType) := [(cA 0, .int), (cA 1, .char), (cA 2, .object "ParcelRegistry$World"), (cA 3, .array .int), (cA 4, .long), (cA 5, .double)]
abbrev vwCl : List vw_C := [(RJ0, TJ0, 2), (RJx00060, TJx00060, 6), (RX0, TX0, 6), (RX1, TX1, 6), (RX2, TX2, 3), (RX3, TX3, 6), (RX4, TX4, 7), (RX5, TX5, 6), (RX6, TX6, 5), (RX7, TX7, 8), (RX8, TX8, 15)]
/-- the links from one class of the nest to another's private members -/
def nst : List (String × Nat × MethodName) := [(RX7, 9, yX6_init), (RX6, 17, yX4_init), (RX6, 24, yX0_init), (RX6, 31, yX1_init), (RX6, 38, yX3_init), (RX2, 22, yX6_init), (RX7, 31, yX5_init), (RX6, 94, yX7_isFrom), (RX6, 104, yX7_isPerson), (RX4, 48, yX7_isIn), (RX3, 41, yX7_isIn), (RX0, 45, yX7_isPerson), (RX1, 47, yX7_isIn)]
def NN (U : State) : Prop := ∀ q ∈ nst, va_Nw (.methodLinkNest q.1 q.2.1 q.2.2 "ParcelRegistry") U
theorem NN.warm {s U : State} (hW : s.WarmedH U.vm) (h : NN s) : NN U := fun q hq => (h q hq).warmM hW
theorem NN.same {u U : State} (e : u.vm = U.vm) (h : NN u) : NN U := fun q hq => (h q hq).same rfl e
def KK (G : va_G) (cA : Nat → ClassId) (U : State) : Prop := va_K G vwCl (tyS cA) U ∧ NN U
theorem KK.warm {G : va_G} {cA : Nat → ClassId} {s U : State} (hW : s.WarmedH U.vm) (h : KK G cA s) : KK G cA U := ⟨va_K.moved hW.alike h.1, h.2.warm hW⟩
theorem KK.calling {G : va_G} {cA : Nat → ClassId} {U : State} (g : JFrame) (mk : MethodId) (a : Array Value) (h : KK G cA U) : KK G cA (U.calling g mk a) := ⟨va_K.moved (u := U) (U := U.calling g mk a) (Vm.Alike.refl U.vm) h.1, h.2.same rfl⟩
/-- a method that reads: its world, the classes -/
def PR (G : va_G) (cA : Nat → ClassId) (ws : va_W) (U : State) : Prop := va_P G vwCl ws U.heap ∧ KK G cA U
/-- a method that writes: also the heap's size, its cells apart -/
def PM (G : va_G) (cA : Nat → ClassId) (ws : va_W) (sz : Nat) (U : State) : Prop := U.heap.size = sz ∧ va_P G vwCl ws U.heap ∧ va_D (fun _ => True) ws ∧ KK G cA U
theorem blR {G : va_G} {cA : Nat → ClassId} {av : List Value} {ws : va_W} : FrameBlind (va_Pc av (PR G cA ws)) := fun a _ g mk q => ⟨q.1, q.2.1, q.2.2.calling g mk a⟩
theorem blM {G : va_G} {cA : Nat → ClassId} {av : List Value} {ws : va_W} {sz : Nat} : FrameBlind (va_Pc av (PM G cA ws sz)) := fun a _ g mk q => ⟨q.1, q.2.1, q.2.2.1, q.2.2.2.1, q.2.2.2.2.calling g mk a⟩
theorem preRS {G : va_G} {cA : Nat → ClassId} {As : List Value} {ws : va_W} {s : State} {H : Heap} (hP : va_P G vwCl ws H) (hK : KK G cA s) : PreS s H (va_Pc As (PR G cA ws)) As := ⟨blR, fun _ hU hW => ⟨rfl, by rw [hU]; exact hP, hK.warm hW⟩⟩
theorem preMS {G : va_G} {cA : Nat → ClassId} {As : List Value} {ws : va_W} {A : Nat → Prop} {s : State} {H : Heap} (hP : va_P G vwCl ws H) (hD : va_D A ws) (hK : KK G cA s) : PreS s H (va_Pc As (PM G cA ws H.size)) As := ⟨blM, fun _ hU hW => ⟨rfl, by rw [hU], by rw [hU]; exact hP, hD.weaken (fun _ _ _ _ => trivial), hK.warm hW⟩⟩
theorem preRV {G : va_G} {cA : Nat → ClassId} {b ci : Nat} {As fs : List Value} {ws : va_W} {s : State} {H : Heap} {q : vw_C} (hP : va_P G vwCl ws H) (hK : KK G cA s) (q0 : Nat) (he : ws[q0]? = some (b, .inr (ci, fs))) (hc : vwCl[ci]? = some q) : PreV s H q.1 b (va_Pc (.ref b :: As) (PR G cA ws)) As := ⟨blR, va_recv hK.1 hP hc he, fun _ hU hW => ⟨rfl, by rw [hU]; exact hP, hK.warm hW⟩⟩
theorem preMV {G : va_G} {cA : Nat → ClassId} {b ci : Nat} {As fs : List Value} {ws : va_W} {A : Nat → Prop} {s : State} {H : Heap} {q : vw_C} (hP : va_P G vwCl ws H) (hD : va_D A ws) (hK : KK G cA s) (q0 : Nat) (he : ws[q0]? = some (b, .inr (ci, fs))) (hc : vwCl[ci]? = some q) : PreV s H q.1 b (va_Pc (.ref b :: As) (PM G cA ws H.size)) As := ⟨blM, va_recv hK.1 hP hc he, fun _ hU hW => ⟨rfl, by rw [hU], by rw [hU]; exact hP, hD.weaken (fun _ _ _ _ => trivial), hK.warm hW⟩⟩
/-- what a writing method leaves: the cells as the answer u says -/
def BM {S : Type} (G : va_G) (ws : S → va_W) (u : S) (t : State) : Prop := va_P G vwCl (ws u) t.heap
/-- behind a call that makes no cell: the caller's cells, those of the callee as it left them. sel: for each cell, whether it is the callee's, and its place there or here -/
theorem va_back {G : va_G} {A0 : Nat → Prop} {ws wc w1 ws' : va_W} {H H1 : Heap} (hP : va_P G vwCl ws H) (hD : va_D A0 ws) (isC : List Nat) (hC : isC.map (fun i => ws[i]?) = wc.map some)
    (hk : ∀ q : Nat, q < H.size → ¬ va_A wc H.size q → H1[q]? = H[q]?) (hP1 : va_P G vwCl w1 H1) (sel : List (Bool × Nat)) (hs : sel.map (fun x => if x.1 then w1[x.2]? else ws[x.2]?) = ws'.map some) (hn : sel.all (fun x => x.1 || !(isC.contains x.2)) = true) (ha : ws'.map Prod.fst = ws.map Prod.fst) : va_P G vwCl ws' H1 ∧ va_D A0 ws' := by
  have hDD : va_D A0 ws' := by
    have key : ∀ (k : Nat) (q : Nat × va_E), ws'[k]? = some q → ∃ e, ws[k]? = some (q.1, e) := by
      intro k q hq
      have h1 : (ws'.map Prod.fst)[k]? = some q.1 := by rw [List.getElem?_map, hq]; rfl
      rw [ha, List.getElem?_map] at h1
      cases hw : ws[k]? with
      | none => rw [hw] at h1; cases h1
      | some z => rw [hw] at h1; exact ⟨z.2, by rw [← Option.some.inj h1]⟩
    refine ⟨fun i j p q hi hj hpq => ?_, fun k q hq => ?_⟩
    · obtain ⟨e1, h1⟩ := key i p hi
      obtain ⟨e2, h2⟩ := key j q hj
      exact hD.1 i j _ _ h1 h2 hpq
    · obtain ⟨e1, h1⟩ := key k q hq
      exact hD.2 k (q.1, e1) h1
  refine ⟨fun k q hq => ?_, hDD⟩
  have h1 : (sel.map (fun x => if x.1 then w1[x.2]? else ws[x.2]?))[k]? = some (some q) := by rw [hs, List.getElem?_map, hq]; rfl
  rw [List.getElem?_map] at h1
  cases hx : sel[k]? with
  | none => rw [hx] at h1; cases h1
  | some x =>
    rw [hx] at h1
    have h2 : (if x.1 then w1[x.2]? else ws[x.2]?) = some q := Option.some.inj h1
    have h3 := List.all_eq_true.mp hn x (List.mem_of_getElem? hx)
    by_cases hb : x.1 = true
    · rw [if_pos hb] at h2
      exact hP1 _ _ h2
    · rw [if_neg hb] at h2
      have hb' : x.1 = false := by cases h : x.1 <;> simp_all
      rw [hb', Bool.false_or, Bool.not_eq_true'] at h3
      have hnot : x.2 ∉ isC := fun hm => by
        rw [List.contains_iff_mem.mpr hm] at h3
        cases h3
      have hlt := (hP _ _ h2).lt
      refine (hP _ _ h2).kept (hk q.1 hlt (fun hA => ?_))
      rcases hA with ⟨k2, e, h4⟩ | h4
      · have h5 : (isC.map (fun i => ws[i]?))[k2]? = some (some (q.1, e)) := by rw [hC, List.getElem?_map, h4]; rfl
        rw [List.getElem?_map] at h5
        cases hi : isC[k2]? with
        | none => rw [hi] at h5; cases h5
        | some i =>
          rw [hi] at h5
          have h6 : ws[i]? = some (q.1, e) := Option.some.inj h5
          have h7 := hD.1 x.2 i q (q.1, e) h2 h6 rfl
          exact hnot (h7 ▸ List.mem_of_getElem? hi)
      · omega
/-- a partial function over and over, at most so many times -/
def fuel {V : Type} {R : Type} (F : (V → Option R) → V → Option R) : Nat → V → Option R
  | 0, _ => none
  | n + 1, v => F (fuel F n) v
def FU : Nat := 1000
theorem fu0 {V : Type} {R : Type} {F : (V → Option R) → V → Option R} {v : V} {r : Option R} (h : fuel F 0 v = r) (hz : r ≠ none) : False := hz h.symm
theorem fus {V : Type} {R : Type} {F : (V → Option R) → V → Option R} {n : Nat} {v : V} {r : Option R} (h : fuel F (n + 1) v = r) : F (fuel F n) v = r := h
/-- go on only where b holds -/
def gd {R : Type} (b : Bool) (k : Option R) : Option R := match b with
  | true => k
  | false => none
theorem gdo {R : Type} {b : Bool} {k r : Option R} (h : gd b k = r) (hz : r ≠ none) : b = true ∧ k = r := by
  cases b with
  | true => exact ⟨rfl, h⟩
  | false => exact absurd h.symm hz
/-- an index in a row of n -/
def ix (i : Int32) (n : Nat) : Bool := !(decide (i < 0) || decide (n ≤ i.toNatClampNeg))
theorem ixi {i : Int32} {n : Nat} (h : ix i n = true) : vp_in i n := by
  unfold ix at h
  intro q
  rcases q with q | q
  · simp [q] at h
  · simp [q] at h
theorem it {R : Type} {c : Prop} {d : Decidable c} {a b r : R} (h : @ite R c d a b = r) (hc : c) : a = r := (if_pos hc).symm.trans h
theorem ie {R : Type} {c : Prop} {d : Decidable c} {a b r : R} (h : @ite R c d a b = r) (hc : ¬ c) : b = r := (if_neg hc).symm.trans h
theorem bnz {Q R : Type} {o : Option Q} {f : Q → Option R} {r : Option R} (h : o.bind f = r) (hz : r ≠ none) : o ≠ none := fun q => hz (by rw [← h, q]; rfl)
theorem bst {Q R : Type} {o : Option Q} {f : Q → Option R} {r : Option R} {q : Q} (h : o.bind f = r) (hq : o = some q) : f q = r := by rw [hq] at h; exact h
/-- a value by a name -/
def nm {α : Type} {R : Type} (x : α) (k : α → Option R) : Option R := k x
theorem nmo {α : Type} {R : Type} {x y : α} {k : α → Option R} {r : Option R} (h : nm x k = r) (e : y = x) : k y = r := by
  subst e
  exact h
theorem nz {r : Int32} (h : r = 0 ∨ r = 1) : narrow .boolean (.int r) = .int r := by rcases h with rfl | rfl <;> rfl
/-- a value that a boolean holds -/
def isb (x : Int32) : Bool := decide (x = 0) || decide (x = 1)
theorem isbz {r : Int32} (h : isb r = true) : r = 0 ∨ r = 1 := by
  unfold isb at h
  simpa using h
/-- a reading method of an int or a boolean, from its entry -/
theorem metR {l : Launch} {y : MethodName} {ws ws' : List Cond} {rm : Room} {cc : ByteArray} {maxL : Nat} {G : va_G} {cA : Nat → ClassId} {args : List Value} {wc : va_W} {post : Int32 → Prop} (ty : FieldType) (hy : plainName y.cls = true) (hw : ws = Cond.code y cc maxL (some ty) :: ws') (hargs : (lg_sl args).length ≤ maxL)
    (body : ∀ (p : Program) (e : Env) (s : State) (m : MethodId) (av : Array Value) (below : List Frame) (meth : Method) (c : Code) (Q : State → Prop) (ls : Array Slot), p.tables.exec = Jvm.exec → c.code = cc → c.maxLocals = maxL → (∀ w ∈ ws, w.before av s = true) → s.vm.findClass y.cls = some m.cls → va_P G vwCl wc s.heap → KK G cA s → lv_has ls maxL (lv_args 0 args) →
      (∀ (pc : Nat) (ls : Array Slot) (v : Int32), decode cc pc = .ok (.ireturn, 1) → narrow ty (.int v) = .int v → post v → W p l e rm s m av below meth c s.heap [] 0 0 Q (F0 m pc ls [.int v])) → W p l e rm s m av below meth c s.heap [] 0 0 Q (F0 m 0 ls [])) :
    Met l y ws rm (va_Pc args (PR G cA wc)) (vp_Si post) 0 0 (fun _ => False) := by
  refine Met.ofW (cc := cc) (maxL := maxL) (ret := some ty) hy hw ?_
  intro p e s m args0 below meth c s₁ B hml hv
  obtain ⟨rfl, hP, hK⟩ := hv
  have hl := lv_entry args (n := maxL) hargs
  have hlocks := B.notSynchronized
  rw [lg_entry_eq]
  generalize (lg_sl args ++ List.replicate (maxL - (lg_sl args).length) Slot.unset).toArray = ls at hl ⊢
  exact body p e s m _ below meth c _ ls B.exec B.bytes hml (atoms_spec (ws := ws) B.pre) (findClass_of_methodNamed B.named) hP hK hl (fun pc ls v hd hn hp => W.zret B.exec B.bytes B.returns hn (fun t ht _ => ⟨v, rfl, hp, ht⟩) (fun q h => by cases h) hd)
/-- a writing method of an int or a boolean, from its entry -/
theorem metM {l : Launch} {y : MethodName} {ws ws' : List Cond} {rm : Room} {cc : ByteArray} {maxL : Nat} {G : va_G} {cA : Nat → ClassId} {args : List Value} {wc : va_W} {sz : Nat} {S : Type} {post : Int32 → S → Prop} {kf : S → va_W} (ty : FieldType) (hy : plainName y.cls = true) (hw : ws = Cond.code y cc maxL (some ty) :: ws') (hargs : (lg_sl args).length ≤ maxL)
    (body : ∀ (p : Program) (e : Env) (s : State) (m : MethodId) (av : Array Value) (below : List Frame) (meth : Method) (c : Code) (Q : State → Prop) (ls : Array Slot) (A : Nat → Prop) (H : Heap), p.tables.exec = Jvm.exec → c.code = cc → c.maxLocals = maxL → (∀ w ∈ ws, w.before av s = true) → s.vm.findClass y.cls = some m.cls → va_P G vwCl wc H → KK G cA s → va_D A wc → (∀ q : Nat, s.heap.size ≤ q → A q) → va_S A s.heap H [] → lv_has ls maxL (lv_args 0 args) →
      (∀ (pc : Nat) (ls : Array Slot) (v : Int32) (u : S) (H : Heap) (locs : List Loc), decode cc pc = .ok (.ireturn, 1) → narrow ty (.int v) = .int v → va_P G vwCl (kf u) H → va_S A s.heap H locs → post v u → W p l e rm s m av below meth c H locs 0 0 Q (F0 m pc ls [.int v])) → W p l e rm s m av below meth c H [] 0 0 Q (F0 m 0 ls [])) :
    Met l y ws rm (va_Pc args (PM G cA wc sz)) (va_Qi post (BM G kf) (va_A wc sz)) 0 0 (va_A wc sz) := by
  refine Met.ofW (cc := cc) (maxL := maxL) (ret := some ty) hy hw ?_
  intro p e s m args0 below meth c s₁ B hml hv
  obtain ⟨rfl, hsz, hP, hD0, hK⟩ := hv
  subst hsz
  have hl := lv_entry args (n := maxL) hargs
  have hlocks := B.notSynchronized
  rw [lg_entry_eq]
  generalize (lg_sl args ++ List.replicate (maxL - (lg_sl args).length) Slot.unset).toArray = ls at hl ⊢
  exact body p e s m _ below meth c _ ls (va_A wc s.heap.size) s.heap B.exec B.bytes hml (atoms_spec (ws := ws) B.pre) (findClass_of_methodNamed B.named) hP hK (hD0.self) (fun q h => Or.inr h) va_S.rf hl (fun pc ls v u H locs hd hn hP hS hp => W.zret B.exec B.bytes B.returns hn (fun t ht _ => ⟨⟨v, u, rfl, hp, by show va_P G vwCl (kf u) t.heap; rw [ht]; exact hP⟩, hS.F ht⟩) hS.2.2 hd)
/-- a writing method without an answer, from its entry -/
theorem metV {l : Launch} {y : MethodName} {ws ws' : List Cond} {rm : Room} {cc : ByteArray} {maxL : Nat} {G : va_G} {cA : Nat → ClassId} {args : List Value} {wc : va_W} {sz : Nat} {S : Type} {post : S → Prop} {kf : S → va_W} (hy : plainName y.cls = true) (hw : ws = Cond.code y cc maxL none :: ws') (hargs : (lg_sl args).length ≤ maxL)
    (body : ∀ (p : Program) (e : Env) (s : State) (m : MethodId) (av : Array Value) (below : List Frame) (meth : Method) (c : Code) (Q : State → Prop) (ls : Array Slot) (A : Nat → Prop) (H : Heap), p.tables.exec = Jvm.exec → c.code = cc → c.maxLocals = maxL → (∀ w ∈ ws, w.before av s = true) → s.vm.findClass y.cls = some m.cls → va_P G vwCl wc H → KK G cA s → va_D A wc → (∀ q : Nat, s.heap.size ≤ q → A q) → va_S A s.heap H [] → lv_has ls maxL (lv_args 0 args) →
      (∀ (pc : Nat) (ls : Array Slot) (u : S) (H : Heap) (locs : List Loc), decode cc pc = .ok (.return_, 1) → va_P G vwCl (kf u) H → va_S A s.heap H locs → post u → W p l e rm s m av below meth c H locs 0 0 Q (F0 m pc ls [])) → W p l e rm s m av below meth c H [] 0 0 Q (F0 m 0 ls [])) :
    Met l y ws rm (va_Pc args (PM G cA wc sz)) (va_Qv post (BM G kf) (va_A wc sz)) 0 0 (va_A wc sz) := by
  refine Met.ofW (cc := cc) (maxL := maxL) (ret := none) hy hw ?_
  intro p e s m args0 below meth c s₁ B hml hv
  obtain ⟨rfl, hsz, hP, hD0, hK⟩ := hv
  subst hsz
  have hl := lv_entry args (n := maxL) hargs
  have hlocks := B.notSynchronized
  rw [lg_entry_eq]
  generalize (lg_sl args ++ List.replicate (maxL - (lg_sl args).length) Slot.unset).toArray = ls at hl ⊢
  exact body p e s m _ below meth c _ ls (va_A wc s.heap.size) s.heap B.exec B.bytes hml (atoms_spec (ws := ws) B.pre) (findClass_of_methodNamed B.named) hP hK (hD0.self) (fun q h => Or.inr h) va_S.rf hl (fun pc ls u H locs hd hP hS hp => W.vret B.exec B.bytes B.returns (fun t ht _ => ⟨⟨u, rfl, hp, by show va_P G vwCl (kf u) t.heap; rw [ht]; exact hP⟩, hS.F ht⟩) hS.2.2 hd)
