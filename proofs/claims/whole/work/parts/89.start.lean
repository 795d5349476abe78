/-! The start: what lies outside, the classes. -/
set_option maxHeartbeats 4000000 in
set_option maxRecDepth 100000 in
theorem st_5 {s : State} {av : Array Value} (hs : ∀ c ∈ flatC (Jvm.Cond.and given_1 narrow_1), c.before av s = true) : ∃ a v : Nat → Nat, vk_S 6 lenS bytS a v (fun q : Nat => s.heap.size ≤ q) s s.heap ∧ ∀ i : Nat, i < 6 → (Term.string RX5 (80 + 2 * i)).eval av s none [] s = some (.ref (a i)) := by
  refine vk_Sof (args := av) (tm := fun i => Term.string RX5 (80 + 2 * i)) (fun i hi => ?_) (fun i hi => ?_) (fun i hi => ?_) (fun i hi => ?_) (fun i hi => ?_) (fun i hi j hj => ?_) (fun i j hi hj hij => ?_) (fun a h => Nat.not_le.mpr h)
  · rcases (show i = 0 ∨ i = 1 ∨ i = 2 ∨ i = 3 ∨ i = 4 ∨ i = 5 by omega) with rfl | rfl | rfl | rfl | rfl | rfl <;> decide
  · rcases (show i = 0 ∨ i = 1 ∨ i = 2 ∨ i = 3 ∨ i = 4 ∨ i = 5 by omega) with rfl | rfl | rfl | rfl | rfl | rfl <;> exact hs _ (by decide +kernel)
  · rcases (show i = 0 ∨ i = 1 ∨ i = 2 ∨ i = 3 ∨ i = 4 ∨ i = 5 by omega) with rfl | rfl | rfl | rfl | rfl | rfl <;> exact hs _ (by decide +kernel)
  · rcases (show i = 0 ∨ i = 1 ∨ i = 2 ∨ i = 3 ∨ i = 4 ∨ i = 5 by omega) with rfl | rfl | rfl | rfl | rfl | rfl <;> exact hs _ (by decide +kernel)
  · rcases (show i = 0 ∨ i = 1 ∨ i = 2 ∨ i = 3 ∨ i = 4 ∨ i = 5 by omega) with rfl | rfl | rfl | rfl | rfl | rfl <;> exact hs _ (by decide +kernel)
  · rcases (show i = 0 ∨ i = 1 ∨ i = 2 ∨ i = 3 ∨ i = 4 ∨ i = 5 by omega) with rfl | rfl | rfl | rfl | rfl | rfl
    · replace hj : j < 5 := hj
      rcases (show j = 0 ∨ j = 1 ∨ j = 2 ∨ j = 3 ∨ j = 4 by omega) with rfl | rfl | rfl | rfl | rfl <;> exact hs _ (by decide +kernel)
    · replace hj : j < 5 := hj
      rcases (show j = 0 ∨ j = 1 ∨ j = 2 ∨ j = 3 ∨ j = 4 by omega) with rfl | rfl | rfl | rfl | rfl <;> exact hs _ (by decide +kernel)
    · replace hj : j < 4 := hj
      rcases (show j = 0 ∨ j = 1 ∨ j = 2 ∨ j = 3 by omega) with rfl | rfl | rfl | rfl <;> exact hs _ (by decide +kernel)
    · replace hj : j < 3 := hj
      rcases (show j = 0 ∨ j = 1 ∨ j = 2 by omega) with rfl | rfl | rfl <;> exact hs _ (by decide +kernel)
    · replace hj : j < 4 := hj
      rcases (show j = 0 ∨ j = 1 ∨ j = 2 ∨ j = 3 by omega) with rfl | rfl | rfl | rfl <;> exact hs _ (by decide +kernel)
    · replace hj : j < 4 := hj
      rcases (show j = 0 ∨ j = 1 ∨ j = 2 ∨ j = 3 by omega) with rfl | rfl | rfl | rfl <;> exact hs _ (by decide +kernel)
  · rcases (show i = 0 ∨ i = 1 ∨ i = 2 ∨ i = 3 ∨ i = 4 ∨ i = 5 by omega) with rfl | rfl | rfl | rfl | rfl | rfl <;> rcases (show j = 0 ∨ j = 1 ∨ j = 2 ∨ j = 3 ∨ j = 4 ∨ j = 5 by omega) with rfl | rfl | rfl | rfl | rfl | rfl <;> first | exact absurd rfl hij | exact Or.inl (hs _ (by decide +kernel)) | exact Or.inr (hs _ (by decide +kernel))

set_option maxHeartbeats 4000000 in
set_option maxRecDepth 100000 in
theorem st_8 {s : State} {av : Array Value} (hs : ∀ c ∈ flatC (Jvm.Cond.and given_1 narrow_1), c.before av s = true) : ∃ a v : Nat → Nat, vk_S 6 lenS bytS a v (fun q : Nat => s.heap.size ≤ q) s s.heap ∧ ∀ i : Nat, i < 6 → (Term.string RX8 (250 + 2 * i)).eval av s none [] s = some (.ref (a i)) := by
  refine vk_Sof (args := av) (tm := fun i => Term.string RX8 (250 + 2 * i)) (fun i hi => ?_) (fun i hi => ?_) (fun i hi => ?_) (fun i hi => ?_) (fun i hi => ?_) (fun i hi j hj => ?_) (fun i j hi hj hij => ?_) (fun a h => Nat.not_le.mpr h)
  · rcases (show i = 0 ∨ i = 1 ∨ i = 2 ∨ i = 3 ∨ i = 4 ∨ i = 5 by omega) with rfl | rfl | rfl | rfl | rfl | rfl <;> decide
  · rcases (show i = 0 ∨ i = 1 ∨ i = 2 ∨ i = 3 ∨ i = 4 ∨ i = 5 by omega) with rfl | rfl | rfl | rfl | rfl | rfl <;> exact hs _ (by decide +kernel)
  · rcases (show i = 0 ∨ i = 1 ∨ i = 2 ∨ i = 3 ∨ i = 4 ∨ i = 5 by omega) with rfl | rfl | rfl | rfl | rfl | rfl <;> exact hs _ (by decide +kernel)
  · rcases (show i = 0 ∨ i = 1 ∨ i = 2 ∨ i = 3 ∨ i = 4 ∨ i = 5 by omega) with rfl | rfl | rfl | rfl | rfl | rfl <;> exact hs _ (by decide +kernel)
  · rcases (show i = 0 ∨ i = 1 ∨ i = 2 ∨ i = 3 ∨ i = 4 ∨ i = 5 by omega) with rfl | rfl | rfl | rfl | rfl | rfl <;> exact hs _ (by decide +kernel)
  · rcases (show i = 0 ∨ i = 1 ∨ i = 2 ∨ i = 3 ∨ i = 4 ∨ i = 5 by omega) with rfl | rfl | rfl | rfl | rfl | rfl
    · replace hj : j < 5 := hj
      rcases (show j = 0 ∨ j = 1 ∨ j = 2 ∨ j = 3 ∨ j = 4 by omega) with rfl | rfl | rfl | rfl | rfl <;> exact hs _ (by decide +kernel)
    · replace hj : j < 5 := hj
      rcases (show j = 0 ∨ j = 1 ∨ j = 2 ∨ j = 3 ∨ j = 4 by omega) with rfl | rfl | rfl | rfl | rfl <;> exact hs _ (by decide +kernel)
    · replace hj : j < 4 := hj
      rcases (show j = 0 ∨ j = 1 ∨ j = 2 ∨ j = 3 by omega) with rfl | rfl | rfl | rfl <;> exact hs _ (by decide +kernel)
    · replace hj : j < 3 := hj
      rcases (show j = 0 ∨ j = 1 ∨ j = 2 by omega) with rfl | rfl | rfl <;> exact hs _ (by decide +kernel)
    · replace hj : j < 4 := hj
      rcases (show j = 0 ∨ j = 1 ∨ j = 2 ∨ j = 3 by omega) with rfl | rfl | rfl | rfl <;> exact hs _ (by decide +kernel)
    · replace hj : j < 4 := hj
      rcases (show j = 0 ∨ j = 1 ∨ j = 2 ∨ j = 3 by omega) with rfl | rfl | rfl | rfl <;> exact hs _ (by decide +kernel)
  · rcases (show i = 0 ∨ i = 1 ∨ i = 2 ∨ i = 3 ∨ i = 4 ∨ i = 5 by omega) with rfl | rfl | rfl | rfl | rfl | rfl <;> rcases (show j = 0 ∨ j = 1 ∨ j = 2 ∨ j = 3 ∨ j = 4 ∨ j = 5 by omega) with rfl | rfl | rfl | rfl | rfl | rfl <;> first | exact absurd rfl hij | exact Or.inl (hs _ (by decide +kernel)) | exact Or.inr (hs _ (by decide +kernel))

theorem st_x {s : State} {av : Array Value} {own : String} {k : Nat} (h : (Cond.exactly (Term.string own k) "java/lang/String").before av s = true) : ∃ a, (Term.string own k).eval av s none [] s = some (.ref a) := by
  obtain ⟨a, c, cA, kA, q1, -⟩ := Cond.exactly_spec (args := av) (first := s) (o := none) (s := s) (idx := []) h
  exact ⟨a, q1⟩
set_option maxHeartbeats 4000000 in
set_option maxRecDepth 100000 in
theorem start_out {s : State} {av : Array Value} (hts : ∀ w ∈ lw_tbl, w.before av s = true) (hs : ∀ c ∈ flatC (Jvm.Cond.and given_1 narrow_1), c.before av s = true) : ∃ z : Nat → Nat, TW z s ∧ HW z (fun q : Nat => s.heap.size ≤ q) s s.heap := by
  obtain ⟨a, v, h5, e5⟩ := st_5 hs
  obtain ⟨a', v', h8, e8⟩ := st_8 hs
  obtain ⟨b0, f0⟩ := st_x (hs (.exactly (.string RX7 336) "java/lang/String") (by decide +kernel))
  obtain ⟨b1, f1⟩ := st_x (hs (.exactly (.string RX7 370) "java/lang/String") (by decide +kernel))
  obtain ⟨b2, f2⟩ := st_x (hs (.exactly (.string RX7 375) "java/lang/String") (by decide +kernel))
  obtain ⟨b3, f3⟩ := st_x (hs (.exactly (.string RX7 380) "java/lang/String") (by decide +kernel))
  obtain ⟨b4, f4⟩ := st_x (hs (.exactly (.string RX7 385) "java/lang/String") (by decide +kernel))
  obtain ⟨b5, f5⟩ := st_x (hs (.exactly (.string RX7 393) "java/lang/String") (by decide +kernel))
  have hA : ∀ q : Nat, q < s.heap.size → ¬ (fun q : Nat => s.heap.size ≤ q) q := fun q h => Nat.not_le.mpr h
  obtain ⟨z, hz⟩ : ∃ z : Nat → Nat, z = fun k => if k < 6 then a k else if k < 12 then v (k - 6) else if k < 18 then a' (k - 12) else if k < 24 then v' (k - 18) else if k = 24 then b0 else if k = 25 then b1 else if k = 26 then b2 else if k = 27 then b3 else if k = 28 then b4 else b5 := ⟨_, rfl⟩
  have z1 : ∀ i, i < 6 → z i = a i := fun i hi => by rw [hz]; exact if_pos hi
  have z2 : ∀ i, i < 6 → z (6 + i) = v i := fun i hi => by
    rw [hz]
    show (if 6 + i < 6 then a (6 + i) else if 6 + i < 12 then v (6 + i - 6) else _) = _
    rw [if_neg (by omega), if_pos (by omega), Nat.add_sub_cancel_left]
  have z3 : ∀ i, i < 6 → z (12 + i) = a' i := fun i hi => by
    rw [hz]
    show (if 12 + i < 6 then a (12 + i) else if 12 + i < 12 then v (12 + i - 6) else if 12 + i < 18 then a' (12 + i - 12) else _) = _
    rw [if_neg (by omega), if_neg (by omega), if_pos (by omega), Nat.add_sub_cancel_left]
  have z4 : ∀ i, i < 6 → z (18 + i) = v' i := fun i hi => by
    rw [hz]
    show (if 18 + i < 6 then a (18 + i) else if 18 + i < 12 then v (18 + i - 6) else if 18 + i < 18 then a' (18 + i - 12) else if 18 + i < 24 then v' (18 + i - 18) else _) = _
    rw [if_neg (by omega), if_neg (by omega), if_neg (by omega), if_pos (by omega), Nat.add_sub_cancel_left]
  refine ⟨z, ⟨?_, ?_, ?_, ?_⟩, ?_, ?_, ?_, ?_, ?_, ?_⟩
  · intro q hq
    rcases List.mem_cons.mp hq with rfl | hq
    · exact vk_R.of (A := av) (hts (.stringRef RX5 80 "split") (by decide +kernel)) (by show (Term.string RX5 80).eval _ _ _ _ _ = some (.ref (z 0)); rw [z1 0 (by omega)]; exact e5 0 (by omega))
    rcases List.mem_cons.mp hq with rfl | hq
    · exact vk_R.of (A := av) (hts (.stringRef RX5 82 "merge") (by decide +kernel)) (by show (Term.string RX5 82).eval _ _ _ _ _ = some (.ref (z 1)); rw [z1 1 (by omega)]; exact e5 1 (by omega))
    rcases List.mem_cons.mp hq with rfl | hq
    · exact vk_R.of (A := av) (hts (.stringRef RX5 84 "deed") (by decide +kernel)) (by show (Term.string RX5 84).eval _ _ _ _ _ = some (.ref (z 2)); rw [z1 2 (by omega)]; exact e5 2 (by omega))
    rcases List.mem_cons.mp hq with rfl | hq
    · exact vk_R.of (A := av) (hts (.stringRef RX5 86 "way") (by decide +kernel)) (by show (Term.string RX5 86).eval _ _ _ _ _ = some (.ref (z 3)); rw [z1 3 (by omega)]; exact e5 3 (by omega))
    rcases List.mem_cons.mp hq with rfl | hq
    · exact vk_R.of (A := av) (hts (.stringRef RX5 88 "lien") (by decide +kernel)) (by show (Term.string RX5 88).eval _ _ _ _ _ = some (.ref (z 4)); rw [z1 4 (by omega)]; exact e5 4 (by omega))
    rcases List.mem_cons.mp hq with rfl | hq
    · exact vk_R.of (A := av) (hts (.stringRef RX5 90 "days") (by decide +kernel)) (by show (Term.string RX5 90).eval _ _ _ _ _ = some (.ref (z 5)); rw [z1 5 (by omega)]; exact e5 5 (by omega))
    rcases List.mem_cons.mp hq with rfl | hq
    · exact vk_R.of (A := av) (hts (.stringRef RX8 250 "split") (by decide +kernel)) (by show (Term.string RX8 250).eval _ _ _ _ _ = some (.ref (z (12 + 0))); rw [z3 0 (by omega)]; exact e8 0 (by omega))
    rcases List.mem_cons.mp hq with rfl | hq
    · exact vk_R.of (A := av) (hts (.stringRef RX8 252 "merge") (by decide +kernel)) (by show (Term.string RX8 252).eval _ _ _ _ _ = some (.ref (z (12 + 1))); rw [z3 1 (by omega)]; exact e8 1 (by omega))
    rcases List.mem_cons.mp hq with rfl | hq
    · exact vk_R.of (A := av) (hts (.stringRef RX8 254 "deed") (by decide +kernel)) (by show (Term.string RX8 254).eval _ _ _ _ _ = some (.ref (z (12 + 2))); rw [z3 2 (by omega)]; exact e8 2 (by omega))
    rcases List.mem_cons.mp hq with rfl | hq
    · exact vk_R.of (A := av) (hts (.stringRef RX8 256 "way") (by decide +kernel)) (by show (Term.string RX8 256).eval _ _ _ _ _ = some (.ref (z (12 + 3))); rw [z3 3 (by omega)]; exact e8 3 (by omega))
    rcases List.mem_cons.mp hq with rfl | hq
    · exact vk_R.of (A := av) (hts (.stringRef RX8 258 "lien") (by decide +kernel)) (by show (Term.string RX8 258).eval _ _ _ _ _ = some (.ref (z (12 + 4))); rw [z3 4 (by omega)]; exact e8 4 (by omega))
    rcases List.mem_cons.mp hq with rfl | hq
    · exact vk_R.of (A := av) (hts (.stringRef RX8 260 "days") (by decide +kernel)) (by show (Term.string RX8 260).eval _ _ _ _ _ = some (.ref (z (12 + 5))); rw [z3 5 (by omega)]; exact e8 5 (by omega))
    rcases List.mem_cons.mp hq with rfl | hq
    · exact vk_R.of (A := av) (hts (.stringRef RX7 336 "the person holds no parcel") (by decide +kernel)) (by show (Term.string RX7 336).eval _ _ _ _ _ = some (.ref (z 24)); rw [hz]; exact f0)
    rcases List.mem_cons.mp hq with rfl | hq
    · exact vk_R.of (A := av) (hts (.stringRef RX7 370 "there is no such number") (by decide +kernel)) (by show (Term.string RX7 370).eval _ _ _ _ _ = some (.ref (z 25)); rw [hz]; exact f1)
    rcases List.mem_cons.mp hq with rfl | hq
    · exact vk_R.of (A := av) (hts (.stringRef RX7 375 "an argument is not in its range") (by decide +kernel)) (by show (Term.string RX7 375).eval _ _ _ _ _ = some (.ref (z 26)); rw [hz]; exact f2)
    rcases List.mem_cons.mp hq with rfl | hq
    · exact vk_R.of (A := av) (hts (.stringRef RX7 380 "this cannot be done now") (by decide +kernel)) (by show (Term.string RX7 380).eval _ _ _ _ _ = some (.ref (z 27)); rw [hz]; exact f3)
    rcases List.mem_cons.mp hq with rfl | hq
    · exact vk_R.of (A := av) (hts (.stringRef RX7 385 "there is no answer") (by decide +kernel)) (by show (Term.string RX7 385).eval _ _ _ _ _ = some (.ref (z 28)); rw [hz]; exact f4)
    rcases List.mem_cons.mp hq with rfl | hq
    · exact vk_R.of (A := av) (hts (.stringRef RX7 393 "refused; reason() tells why") (by decide +kernel)) (by show (Term.string RX7 393).eval _ _ _ _ _ = some (.ref (z 29)); rw [hz]; exact f5)
    exact absurd hq List.not_mem_nil
  · intro i hi
    rcases (show i = 1 ∨ i = 2 ∨ i = 3 ∨ i = 4 ∨ i = 5 ∨ i = 6 by simpa [exL] using hi) with rfl | rfl | rfl | rfl | rfl | rfl <;> exact va_Nw.of (A := av) rfl (by first | exact hts _ (by decide +kernel) | exact hs _ (by decide +kernel))
  · intro i hi j hj hij
    rcases (show i = 1 ∨ i = 2 ∨ i = 3 ∨ i = 4 ∨ i = 5 ∨ i = 6 by simpa [exL] using hi) with rfl | rfl | rfl | rfl | rfl | rfl <;> rcases (show j = 1 ∨ j = 2 ∨ j = 3 ∨ j = 4 ∨ j = 5 ∨ j = 6 by simpa [exL] using hj) with rfl | rfl | rfl | rfl | rfl | rfl <;> first | exact absurd rfl hij | exact va_Nc.of (args := av) (hs _ (by decide +kernel)) | exact va_Nc.of (args := av) (hts _ (by decide +kernel))
  · intro n hn
    rcases (show n = "java/lang/RuntimeException" ∨ n = "java/lang/Exception" ∨ n = "java/lang/Throwable" by simpa [decL] using hn) with rfl | rfl | rfl <;> exact va_Nw.of (A := av) rfl (by first | exact hts _ (by decide +kernel) | exact hs _ (by decide +kernel))
  · refine ⟨fun i hi => ?_, fun i j hi hj e => ?_⟩
    · rw [z1 i hi]
      show _ ∧ _ ∧ va_OF _ _ _ (.ref (z (6 + i))) _ _ _ _ ∧ va_T _ (z (6 + i)) _ _ _ _ _
      rw [z2 i hi]
      exact h5.1 i hi
    · rw [z1 i hi, z1 j hj] at e
      exact h5.2 i j hi hj e
  · refine ⟨fun i hi => ?_, fun i j hi hj e => ?_⟩
    · show va_O _ (z (12 + i)) _ _ _ ∧ va_OF _ _ _ _ (z (12 + i)) _ _ _ ∧ va_OF _ _ _ (.ref (z (18 + i))) (z (12 + i)) _ _ _ ∧ va_T _ (z (18 + i)) _ _ _ _ _
      rw [z3 i hi, z4 i hi]
      exact h8.1 i hi
    · replace e : z (12 + i) = z (12 + j) := e
      rw [z3 i hi, z3 j hj] at e
      exact h8.2 i j hi hj e
  · exact va_Zof (args := av) (hts (.laysStatic "java/lang/String" "COMPACT_STRINGS" "Z") (by decide +kernel)) (hts (.initialized "java/lang/String") (by decide +kernel)) (va_eqt (hs (.eq (.static "java/lang/String" "COMPACT_STRINGS" "Z") (.int 1)) (by decide +kernel))) hA
  · exact vx_Zqof (args := av) (hts (.laysStatic Bundle.tN "UNASSIGNED_STACK" Bundle.steD) (by decide +kernel)) (hts (.initialized Bundle.tN) (by decide +kernel)) (hs (.isRef (.static Bundle.tN "UNASSIGNED_STACK" Bundle.steD)) (by decide +kernel)) hA
  · exact vx_Zqof (args := av) (hts (.laysStatic Bundle.tN "SUPPRESSED_SENTINEL" Bundle.listD) (by decide +kernel)) (hts (.initialized Bundle.tN) (by decide +kernel)) (hs (.isRef (.static Bundle.tN "SUPPRESSED_SENTINEL" Bundle.listD)) (by decide +kernel)) hA
  · exact va_Zqof (args := av) (hts (.laysStatic "jdk/internal/util/Preconditions" "SIOOBE_FORMATTER" "Ljava/util/function/BiFunction;") (by decide +kernel)) (hts (.initialized "jdk/internal/util/Preconditions") (by decide +kernel)) (hs (.isRef (.static "jdk/internal/util/Preconditions" "SIOOBE_FORMATTER" "Ljava/util/function/BiFunction;")) (by decide +kernel)) hA

theorem st_arr {s : State} {av : Array Value} {ty : FieldType} (h : (Cond.arrayClass ty).before av s = true) (hr : ∀ c, s.vm.findClass ("[" ++ ty.toString) = some c → va_RA s c ty) : ∃ c, ArrOfT s c ty ∧ va_RA s c ty := by
  obtain ⟨c, k, comp, h1, h2, h3⟩ := Cond.arrayClass_spec h
  exact ⟨c, fun n z => ⟨fun k h => (by cases h), k, h2, comp, h3⟩, hr c h1⟩
theorem st_arrO {s : State} {av : Array Value} {C : String} (h : (Cond.arrayOver (.object C)).before av s = true) : ∃ c, ArrOfT s c (.object C) ∧ va_RA s c (.object C) := by
  obtain ⟨comp, c, k, h1, h2, h3, h4, h5⟩ := Cond.arrayOver_spec h
  exact ⟨c, fun n z => ⟨fun k h => (by cases h), k, h3, comp, h4⟩, k, comp, h3, h4, h1, h5⟩
theorem st_arrA {s : State} {av : Array Value} (h : (Cond.arrayOver (.array .int)).before av s = true) : ∃ c, ArrOfT s c (.array .int) ∧ va_RA s c (.array .int) := by
  obtain ⟨comp, c, k, h1, h2, h3, h4⟩ := Cond.arrayOver_specA h
  exact ⟨c, fun n z => ⟨fun k h => (by cases h), k, h2, comp, h3⟩, h4⟩
set_option maxHeartbeats 4000000 in
set_option maxRecDepth 100000 in
theorem start_kk {s : State} {av : Array Value} (hts : ∀ w ∈ lw_tbl, w.before av s = true) : ∃ (G : va_G) (cA : Nat → ClassId), KK G cA s ∧ AR s := by
  obtain ⟨c20, i20, k20⟩ := u_known (C := RJ0) (T := TJ0) (N := 2) (n := 4) hts inJ0 (hts (.instantiable RJ0 4) (by decide +kernel))
  obtain ⟨c21, i21, k21⟩ := u_known (C := RJx00060) (T := TJx00060) (N := 6) (n := 6) hts inJx00060 (hts (.instantiable RJx00060 6) (by decide +kernel))
  obtain ⟨c22, i22, k22⟩ := u_known (C := RX0) (T := TX0) (N := 6) (n := 6) hts inX0 (hts (.instantiable RX0 6) (by decide +kernel))
  obtain ⟨c23, i23, k23⟩ := u_known (C := RX1) (T := TX1) (N := 6) (n := 6) hts inX1 (hts (.instantiable RX1 6) (by decide +kernel))
  obtain ⟨c24, i24, k24⟩ := u_known (C := RX2) (T := TX2) (N := 3) (n := 3) hts inX2 (hts (.instantiable RX2 3) (by decide +kernel))
  obtain ⟨c25, i25, k25⟩ := u_known (C := RX3) (T := TX3) (N := 6) (n := 6) hts inX3 (hts (.instantiable RX3 6) (by decide +kernel))
  obtain ⟨c26, i26, k26⟩ := u_known (C := RX4) (T := TX4) (N := 7) (n := 7) hts inX4 (hts (.instantiable RX4 7) (by decide +kernel))
  obtain ⟨c27, i27, k27⟩ := u_known (C := RX5) (T := TX5) (N := 6) (n := 6) hts inX5 (hts (.instantiable RX5 6) (by decide +kernel))
  obtain ⟨c28, i28, k28⟩ := u_known (C := RX6) (T := TX6) (N := 5) (n := 5) hts inX6 (hts (.instantiable RX6 5) (by decide +kernel))
  obtain ⟨c29, i29, k29⟩ := u_known (C := RX7) (T := TX7) (N := 8) (n := 8) hts inX7 (hts (.instantiable RX7 8) (by decide +kernel))
  obtain ⟨c30, i30, k30⟩ := u_known (C := RX8) (T := TX8) (N := 15) (n := 15) hts inX8 (hts (.instantiable RX8 15) (by decide +kernel))
  obtain ⟨a0, ha0⟩ := st_arr (hts (.arrayClass .int) (by decide +kernel)) (fun c h => h)
  obtain ⟨a1, ha1⟩ := st_arr (hts (.arrayClass .char) (by decide +kernel)) (fun c h => h)
  have hW : (Cond.arrayOver (.object "ParcelRegistry$World")).before av s = true := hts _ (by decide +kernel)
  have hI : (Cond.arrayOver (.array .int)).before av s = true := hts _ (by decide +kernel)
  obtain ⟨a2, ha2⟩ := st_arrO hW
  obtain ⟨a3, ha3⟩ := st_arrA hI
  obtain ⟨a4, ha4⟩ := st_arr (hts (.arrayClass .long) (by decide +kernel)) (fun c h => h)
  obtain ⟨a5, ha5⟩ := st_arr (hts (.arrayClass .double) (by decide +kernel)) (fun c h => h)
  refine ⟨(fun k => match k with | 0 => c20 | 1 => c21 | 2 => c22 | 3 => c23 | 4 => c24 | 5 => c25 | 6 => c26 | 7 => c27 | 8 => c28 | 9 => c29 | _ => c30, fun k => match k with | 0 => i20 | 1 => i21 | 2 => i22 | 3 => i23 | 4 => i24 | 5 => i25 | 6 => i26 | 7 => i27 | 8 => i28 | 9 => i29 | _ => i30), fun k => match k with | 0 => a0 | 1 => a1 | 2 => a2 | 3 => a3 | 4 => a4 | _ => a5, ⟨⟨fun k q hq => ?_, fun k q hq => ?_⟩, fun q hq => ?_⟩, hW, hI⟩
  · match k, hq with
    | 0, hq => cases hq; exact k20
    | 1, hq => cases hq; exact k21
    | 2, hq => cases hq; exact k22
    | 3, hq => cases hq; exact k23
    | 4, hq => cases hq; exact k24
    | 5, hq => cases hq; exact k25
    | 6, hq => cases hq; exact k26
    | 7, hq => cases hq; exact k27
    | 8, hq => cases hq; exact k28
    | 9, hq => cases hq; exact k29
    | 10, hq => cases hq; exact k30
    | k + 11, hq => simp at hq
  · match k, hq with
    | 0, hq => cases hq; exact ha0
    | 1, hq => cases hq; exact ha1
    | 2, hq => cases hq; exact ha2
    | 3, hq => cases hq; exact ha3
    | 4, hq => cases hq; exact ha4
    | 5, hq => cases hq; exact ha5
    | k + 6, hq => simp at hq
  · have hm : ∀ q ∈ nst, Cond.methodLinkNest q.1 q.2.1 q.2.2 "ParcelRegistry" ∈ lw_tbl := by decide +kernel
    exact va_Nw.of (A := av) rfl (hts _ (hm q hq))
