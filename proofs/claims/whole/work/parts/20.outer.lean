/-! What lies outside the claim's own objects: the literals, the statics that a throw reads, the classes of what is thrown. -/
def lenS : List Nat := [5, 5, 4, 3, 4, 4]
def bytS : List (List Int32) := [[115, 112, 108, 105, 116], [109, 101, 114, 103, 101], [100, 101, 101, 100], [119, 97, 121], [108, 105, 101, 110], [100, 97, 121, 115]]
def strs : List (String × Nat × String × Nat) := [(RX5, 80, "split", 0), (RX5, 82, "merge", 1), (RX5, 84, "deed", 2), (RX5, 86, "way", 3), (RX5, 88, "lien", 4), (RX5, 90, "days", 5), (RX8, 250, "split", 12), (RX8, 252, "merge", 13), (RX8, 254, "deed", 14), (RX8, 256, "way", 15), (RX8, 258, "lien", 16), (RX8, 260, "days", 17), (RX7, 336, "the person holds no parcel", 24), (RX7, 370, "there is no such number", 25), (RX7, 375, "an argument is not in its range", 26), (RX7, 380, "this cannot be done now", 27), (RX7, 385, "there is no answer", 28), (RX7, 393, "refused; reason() tells why", 29)]
/-- what is thrown, by numbers: 1 .. 6 -/
def exN : Nat → String
  | 1 => "java/lang/IndexOutOfBoundsException"
  | 2 => "java/lang/IllegalArgumentException"
  | 3 => "java/lang/IllegalStateException"
  | 4 => "java/util/NoSuchElementException"
  | 5 => "java/lang/UnsupportedOperationException"
  | _ => "java/lang/ArithmeticException"
def exL : List Nat := [1, 2, 3, 4, 5, 6]
def decL : List String := ["java/lang/RuntimeException", "java/lang/Exception", "java/lang/Throwable"]
/-- the tables' part -/
def TW (z : Nat → Nat) (U : State) : Prop := (∀ q ∈ strs, vk_R q.1 q.2.1 q.2.2.1 (z q.2.2.2) U) ∧ (∀ i ∈ exL, va_Nw (.castable (exN i) (exN i)) U) ∧ (∀ i ∈ exL, ∀ j ∈ exL, i ≠ j → va_Nc (exN i) (exN j) U) ∧ ∀ n ∈ decL, va_Nw (.declares (Bundle.initS n)) U
theorem TW.warm {z : Nat → Nat} {s U : State} (hW : s.WarmedH U.vm) (h : TW z s) : TW z U := ⟨fun q hq => (h.1 q hq).warm hW, fun i hi => (h.2.1 i hi).warmC hW, fun i hi j hj n => va_Nc.moved hW.alike (h.2.2.1 i hi j hj n), fun n hn => (h.2.2.2 n hn).warmD hW⟩
theorem TW.calling {z : Nat → Nat} {U : State} (g : JFrame) (mk : MethodId) (a : Array Value) (h : TW z U) : TW z (U.calling g mk a) := ⟨fun q hq => vk_R.same (u := U) rfl (h.1 q hq), fun i hi => (h.2.1 i hi).same rfl rfl, fun i hi j hj n => va_Nc.moved (u := U) (U := U.calling g mk a) (Vm.Alike.refl U.vm) (h.2.2.1 i hi j hj n), fun n hn => (h.2.2.2 n hn).same rfl rfl⟩
/-- the heap's part -/
def HW (z : Nat → Nat) (A : Nat → Prop) (U : State) (H : Heap) : Prop := vk_S 6 lenS bytS z (fun i => z (6 + i)) A U H ∧ vk_S 6 lenS bytS (fun i => z (12 + i)) (fun i => z (18 + i)) A U H ∧ va_Z "java/lang/String" "COMPACT_STRINGS" "Z" (.int 1) A U H ∧ vx_Zq Bundle.tN "UNASSIGNED_STACK" Bundle.steD A U H ∧ vx_Zq Bundle.tN "SUPPRESSED_SENTINEL" Bundle.listD A U H ∧ va_Zq "jdk/internal/util/Preconditions" "SIOOBE_FORMATTER" "Ljava/util/function/BiFunction;" A U H
theorem HW.moved {z : Nat → Nat} {A : Nat → Prop} {u U : State} {H : Heap} (hvm : u.vm.Alike U.vm) (h : HW z A u H) : HW z A U H := ⟨h.1.moved hvm, h.2.1.moved hvm, h.2.2.1.moved hvm, h.2.2.2.1.moved hvm, h.2.2.2.2.1.moved hvm, h.2.2.2.2.2.moved hvm⟩
theorem HW.kept {z : Nat → Nat} {A : Nat → Prop} {U : State} {H H1 : Heap} (h : HW z A U H) (hq : ∀ a : Nat, a < H.size → ¬ A a → H1[a]? = H[a]?) : HW z A U H1 := ⟨h.1.kept hq, h.2.1.kept hq, h.2.2.1.kept hq, h.2.2.2.1.kept hq, h.2.2.2.2.1.kept hq, h.2.2.2.2.2.kept hq⟩
theorem HW.narrow {z : Nat → Nat} {A B : Nat → Prop} {U : State} {H : Heap} (h : HW z A U H) (hAB : ∀ q, B q → A q) : HW z B U H := ⟨h.1.narrow hAB, h.2.1.narrow hAB, h.2.2.1.narrow hAB, h.2.2.2.1.narrow hAB, h.2.2.2.2.1.narrow hAB, h.2.2.2.2.2.narrow hAB⟩
def NoA : Nat → Prop := fun _ => False
/-- a reading method that needs the outside -/
def PRo (z : Nat → Nat) (G : va_G) (cA : Nat → ClassId) (ws : va_W) (U : State) : Prop := PR G cA ws U ∧ TW z U ∧ HW z NoA U U.heap
def PMo (z : Nat → Nat) (G : va_G) (cA : Nat → ClassId) (ws : va_W) (sz : Nat) (U : State) : Prop := PM G cA ws sz U ∧ TW z U ∧ HW z (va_A ws sz) U U.heap
theorem HW.calling {z : Nat → Nat} {A : Nat → Prop} {U : State} (g : JFrame) (mk : MethodId) (a : Array Value) (h : HW z A U U.heap) : HW z A (U.calling g mk a) (U.calling g mk a).heap := HW.moved (u := U) (U := U.calling g mk a) (Vm.Alike.refl U.vm) h
theorem blRo {z : Nat → Nat} {G : va_G} {cA : Nat → ClassId} {av : List Value} {ws : va_W} : FrameBlind (va_Pc av (PRo z G cA ws)) := fun a U g mk q => ⟨q.1, ⟨q.2.1.1, q.2.1.2.calling g mk a⟩, q.2.2.1.calling g mk a, q.2.2.2.calling g mk a⟩
theorem blMo {z : Nat → Nat} {G : va_G} {cA : Nat → ClassId} {av : List Value} {ws : va_W} {sz : Nat} : FrameBlind (va_Pc av (PMo z G cA ws sz)) := fun a U g mk q => ⟨q.1, ⟨q.2.1.1, q.2.1.2.1, q.2.1.2.2.1, q.2.1.2.2.2.calling g mk a⟩, q.2.2.1.calling g mk a, q.2.2.2.calling g mk a⟩
theorem preRSo {z : Nat → Nat} {G : va_G} {cA : Nat → ClassId} {A0 : Nat → Prop} {As : List Value} {ws : va_W} {s : State} {H : Heap} {locs : List Loc} (hP : va_P G vwCl ws H) (hK : KK G cA s) (hT : TW z s) (hO : HW z A0 s s.heap) (hS : va_S A0 s.heap H locs) : PreS s H (va_Pc As (PRo z G cA ws)) As :=
  ⟨blRo, fun U hU hW => ⟨rfl, ⟨by rw [hU]; exact hP, hK.warm hW⟩, hT.warm hW, by rw [hU]; exact ((hO.kept hS.2.1).narrow (fun _ h => h.elim)).moved hW.alike⟩⟩
theorem preRVo {z : Nat → Nat} {G : va_G} {cA : Nat → ClassId} {A0 : Nat → Prop} {b ci : Nat} {As fs : List Value} {ws : va_W} {s : State} {H : Heap} {locs : List Loc} {q : vw_C} (hP : va_P G vwCl ws H) (hK : KK G cA s) (hT : TW z s) (hO : HW z A0 s s.heap) (hS : va_S A0 s.heap H locs) (q0 : Nat) (he : ws[q0]? = some (b, .inr (ci, fs))) (hc : vwCl[ci]? = some q) : PreV s H q.1 b (va_Pc (.ref b :: As) (PRo z G cA ws)) As :=
  ⟨blRo, va_recv hK.1 hP hc he, fun U hU hW => ⟨rfl, ⟨by rw [hU]; exact hP, hK.warm hW⟩, hT.warm hW, by rw [hU]; exact ((hO.kept hS.2.1).narrow (fun _ h => h.elim)).moved hW.alike⟩⟩
theorem preMSo {z : Nat → Nat} {G : va_G} {cA : Nat → ClassId} {A0 : Nat → Prop} {As : List Value} {ws : va_W} {s : State} {H : Heap} {locs : List Loc} (hP : va_P G vwCl ws H) (hD : va_D A0 ws) (hK : KK G cA s) (hT : TW z s) (hO : HW z A0 s s.heap) (hS : va_S A0 s.heap H locs) (hF : ∀ q, va_A ws H.size q → A0 q) : PreS s H (va_Pc As (PMo z G cA ws H.size)) As :=
  ⟨blMo, fun U hU hW => ⟨rfl, ⟨by rw [hU], by rw [hU]; exact hP, hD.weaken (fun _ _ _ _ => trivial), hK.warm hW⟩, hT.warm hW, by rw [hU]; exact ((hO.kept hS.2.1).narrow hF).moved hW.alike⟩⟩
theorem preMVo {z : Nat → Nat} {G : va_G} {cA : Nat → ClassId} {A0 : Nat → Prop} {b ci : Nat} {As fs : List Value} {ws : va_W} {s : State} {H : Heap} {locs : List Loc} {q : vw_C} (hP : va_P G vwCl ws H) (hD : va_D A0 ws) (hK : KK G cA s) (hT : TW z s) (hO : HW z A0 s s.heap) (hS : va_S A0 s.heap H locs) (hF : ∀ q, va_A ws H.size q → A0 q) (q0 : Nat) (he : ws[q0]? = some (b, .inr (ci, fs))) (hc : vwCl[ci]? = some q) : PreV s H q.1 b (va_Pc (.ref b :: As) (PMo z G cA ws H.size)) As :=
  ⟨blMo, va_recv hK.1 hP hc he, fun U hU hW => ⟨rfl, ⟨by rw [hU], by rw [hU]; exact hP, hD.weaken (fun _ _ _ _ => trivial), hK.warm hW⟩, hT.warm hW, by rw [hU]; exact ((hO.kept hS.2.1).narrow hF).moved hW.alike⟩⟩
/-- one literal, and what its methods read -/
def SZ (a v n : Nat) (f : Nat → Int32) (U : State) : Prop := va_O "java/lang/String" a NoA U U.heap ∧ va_OF "java/lang/String" "coder" "B" (.int 0) a NoA U U.heap ∧ va_OF "java/lang/String" "value" "[B" (.ref v) a NoA U U.heap ∧ va_T .byte v n (fun j => .int (f j)) NoA U U.heap ∧ va_Z "java/lang/String" "COMPACT_STRINGS" "Z" (.int 1) NoA U U.heap ∧ va_Zq "jdk/internal/util/Preconditions" "SIOOBE_FORMATTER" "Ljava/util/function/BiFunction;" NoA U U.heap
theorem SZ.warm {a v n : Nat} {f : Nat → Int32} {s U : State} (hvm : s.vm.Alike U.vm) (hh : U.heap = s.heap) (h : SZ a v n f s) : SZ a v n f U := by
  unfold SZ
  rw [hh]
  exact ⟨h.1.moved hvm, h.2.1.moved hvm, h.2.2.1.moved hvm, h.2.2.2.1.moved hvm, h.2.2.2.2.1.moved hvm, h.2.2.2.2.2.moved hvm⟩
theorem blSZ {a v n : Nat} {f : Nat → Int32} {av : List Value} : FrameBlind (va_Pc av (SZ a v n f)) := fun x U g mk q => ⟨q.1, SZ.warm (s := U) (Vm.Alike.refl U.vm) rfl q.2⟩
theorem SZ.of {z : Nat → Nat} {A0 : Nat → Prop} {s U : State} {H : Heap} {locs : List Loc} (hO : HW z A0 s s.heap) (hS : va_S A0 s.heap H locs) (hU : U.heap = H) (hvm : s.vm.Alike U.vm) (k : Nat) (hk : k < 6) : SZ (z k) (z (6 + k)) (lenS.getD k 0) (fun j => (bytS.getD k []).getD j 0) U := by
  have h := ((hO.kept hS.2.1).narrow (B := NoA) (fun _ h => h.elim)).moved hvm
  obtain ⟨h1, h2, h3, h4⟩ := h.1.1 k hk
  unfold SZ
  rw [hU]
  exact ⟨h1, h2, h3, h4, h.2.2.1, h.2.2.2.2.2⟩
theorem SZ.of8 {z : Nat → Nat} {A0 : Nat → Prop} {s U : State} {H : Heap} {locs : List Loc} (hO : HW z A0 s s.heap) (hS : va_S A0 s.heap H locs) (hU : U.heap = H) (hvm : s.vm.Alike U.vm) (k : Nat) (hk : k < 6) : SZ (z (12 + k)) (z (18 + k)) (lenS.getD k 0) (fun j => (bytS.getD k []).getD j 0) U := by
  have h := ((hO.kept hS.2.1).narrow (B := NoA) (fun _ h => h.elim)).moved hvm
  obtain ⟨h1, h2, h3, h4⟩ := h.2.1.1 k hk
  unfold SZ
  rw [hU]
  exact ⟨h1, h2, h3, h4, h.2.2.1, h.2.2.2.2.2⟩
theorem SZ.recv {a v n : Nat} {f : Nat → Int32} {s : State} (h : SZ a v n f s) : ∃ cell : Cell, s.heap[a]? = some cell ∧ cell.vm.isStatics = false ∧ s.vm.findClass "java/lang/String" = some cell.cls := va_Orecv h.1 va_S.rf
