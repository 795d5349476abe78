/-! The law: its world, what holds between its calls. -/
/-- the reference's cells -/
def PO (lpo rpo : Int32) : Prop := lpo = -1 ∧ rpo = -1 ∨ ∃ k, k ≤ 80 ∧ lpo = nI k ∧ rpo = nI k
/-- what holds between the calls -/
def LSt (cA : Nat → ClassId) (ad aw ab ak : Nat → Nat) (hA : Nat → Nat → Nat) (gA : Nat → Nat) (ws : va_W) : Prop := ∃ (P D E L K dn c x l_ : Nat) (ar fi la nb pa ro dp dg de dd ek eo es ef el lc lm lp lr n : Nat → Int32) (hW : Nat → WS) (gW : Nat → Nat → Int32) (B K0 : WS) (isK isS lre rea lpo rpo ta tc thr ra rwr : Int32) (mo ti tw tn sv as ch bu nu : Nat → Int32) (g : Nat → Int64) (gd : Nat → UInt64), ws = (((E7 cA (ad 0) aw ab ak (ad 1) (ad 2) hA (ad 3) (ad 4) (ad 5) (ad 6) isK lre lpo (nI dn, nI P, ar, fi, la, nb, pa, ro, nI D, dp, dg, de, dd, nI E, ek, eo, es, ef, el, nI L, nI K, lc, lm, lp, lr) mo B K0 (nI c) (nI x) (nI l_) ta tc ti tw tn ++ [((ad 7), .inl (cA 4, 1, .inr (.inl g))), ((ad 8), .inl (cA 5, 1, .inr (.inr (.inr (.inl gd)))))]) ++ hblk cA hA hW) ++ ((E8 cA (ad 9) (ad 10) (ad 11) (ad 12) (ad 13) (ad 14) (ad 15) (ad 16) gA thr (nI c) rea rpo isS (nI l_) ra rwr n sv as ch bu nu) ++ gblk cA gA gW)) ∧ WC P D E L K dn ar fi la nb pa ro dp dg de dd ek eo es ef el lc lm lp lr n ∧ HR c x hW gW ∧ RR lre rea ∧ PO lpo rpo ∧ SR isK isS K0 sv ∧ TR l_ ti bu
/-- what the law's walk stands on -/
def LC (p : Program) (l : Launch) (s : State) (m : MethodId) (c : Code) (b L : Nat) (xs : Nat → Int32) (z : Nat → Nat) (G : va_G) (cA : Nat → ClassId) : Prop := p.tables.exec = Jvm.exec ∧ c.code = cL_law ∧ c.maxLocals = 9 ∧ s.vm.findClass RL = some m.cls ∧ (∀ w ∈ wsL_law, w.before #[Value.ref b] s = true) ∧ va_X b L xs s s.heap ∧ b < s.heap.size ∧ KK G cA s ∧ TW z s ∧ HW z (fun q : Nat => s.heap.size ≤ q) s s.heap ∧ l.stackTraces = false
def LNext (p : Program) (l : Launch) (e : Env) (s : State) (m : MethodId) (below : List Frame) (meth : Method) (c : Code) (b : Nat) (G : va_G) (cA : Nat → ClassId) (ad aw ab ak : Nat → Nat) (hA : Nat → Nat → Nat) (gA : Nat → Nat) (i n k : Nat) : Prop := ∀ (ws : va_W) (H : Heap) (locs : List Loc) (ls : Array Slot), LSt cA ad aw ab ak hA gA ws → va_P G vwCl ws H → va_D (fun q : Nat => s.heap.size ≤ q) ws → va_S (fun q : Nat => s.heap.size ≤ q) s.heap H locs → lv_has ls 9 [(5, .int (nI i)), (4, .ref (ad 8)), (3, .ref (ad 7)), (2, .ref (ad 9)), (1, .ref (ad 0)), (0, .ref b)] → W p l e room_1 s m #[Value.ref b] below meth c H locs n k (lw_Z below #[Value.ref b] s) (F0 m 2652 ls [])
/-- the cells at these places -/
def pk (E : va_W) (is : List Nat) : va_W := is.filterMap fun i => E[i]?
theorem pk_go {E : va_W} : ∀ k, k ≤ E.length → (List.range k).filterMap (fun i => E[i]?) = E.take k := by
  intro k
  induction k with
  | zero => intro _; rfl
  | succ k ih =>
    intro hk
    rw [List.range_succ, List.filterMap_append, ih (by omega)]
    first
      | rw [List.take_add_one]
      | rw [List.take_succ]
    congr 1
theorem pk_all {E : va_W} : pk E (List.range E.length) = E := by
  unfold pk
  rw [pk_go E.length (Nat.le_refl _), List.take_length]
theorem pick {E Ec Er : va_W} {n : Nat} (is js : List Nat) (hn : E.length = n) (hp : (is ++ js).isPerm (List.range n) = true) (hc : pk E is = Ec) (hr : pk E js = Er) : E.Perm (Ec ++ Er) := by
  have h1 : (is ++ js).Perm (List.range E.length) := by rw [hn]; exact List.isPerm_iff.mp hp
  have h2 : (pk E (is ++ js)).Perm (pk E (List.range E.length)) := h1.filterMap _
  rw [pk_all] at h2
  have h3 : pk E (is ++ js) = Ec ++ Er := by
    rw [← hc, ← hr]
    exact List.filterMap_append
  rw [h3] at h2
  exact h2.symm
theorem pk_cg {E E' : va_W} : ∀ is : List Nat, (∀ i ∈ is, E'[i]? = E[i]?) → pk E' is = pk E is
  | [], _ => rfl
  | i :: is, h => by
    have h1 := h i List.mem_cons_self
    have h2 := pk_cg is (fun j hj => h j (List.mem_cons_of_mem _ hj))
    unfold pk at h2 ⊢
    simp only [List.filterMap_cons, h1, h2]
theorem pk_e0 {A : va_W} {x x' y : Nat × va_E} {n : Nat} (is : List Nat) (hA : A.length = n) (h : is.all (fun i => i != n) = true) : pk (A ++ [x', y]) is = pk (A ++ [x, y]) is := by
  refine pk_cg is fun i hi => ?_
  have hn : i ≠ n := bne_iff_ne.mp (List.all_eq_true.mp h i hi)
  subst hA
  rcases Nat.lt_or_gt_of_ne hn with q | q
  · rw [List.getElem?_append_left q, List.getElem?_append_left q]
  · rw [List.getElem?_append_right (Nat.le_of_lt q), List.getElem?_append_right (Nat.le_of_lt q)]
    obtain ⟨k, hk⟩ : ∃ k, i - A.length = k + 1 := ⟨i - A.length - 1, by omega⟩
    rw [hk]
    rfl
theorem pk_e1 {A : va_W} {x y y' : Nat × va_E} {n : Nat} (is : List Nat) (hA : A.length = n) (h : is.all (fun i => i != n + 1) = true) : pk (A ++ [x, y']) is = pk (A ++ [x, y]) is := by
  refine pk_cg is fun i hi => ?_
  have hn : i ≠ n + 1 := bne_iff_ne.mp (List.all_eq_true.mp h i hi)
  subst hA
  rcases Nat.lt_or_ge i A.length with q | q
  · rw [List.getElem?_append_left q, List.getElem?_append_left q]
  · rw [List.getElem?_append_right q, List.getElem?_append_right q]
    obtain ⟨k, hk⟩ : ∃ k, i - A.length = k := ⟨_, rfl⟩
    rw [hk]
    match k, hk with
    | 0, _ => rfl
    | 1, h1 => exact absurd (by omega) hn
    | _ + 2, _ => rfl
theorem gl_B {E Ec Er B R : va_W} (h : E.Perm (Ec ++ Er)) : ((E ++ B) ++ R).Perm ((Ec ++ B) ++ (Er ++ R)) := by
  rw [List.append_assoc, List.append_assoc]
  refine (h.append_right (B ++ R)).trans ?_
  rw [List.append_assoc]
  refine List.Perm.append_left Ec ?_
  rw [← List.append_assoc, ← List.append_assoc]
  exact List.Perm.append_right R List.perm_append_comm
theorem gl_0 {E Ec Er B R : va_W} (h : E.Perm (Ec ++ Er)) : ((E ++ B) ++ R).Perm (Ec ++ (Er ++ (B ++ R))) := by
  rw [List.append_assoc]
  refine (h.append_right (B ++ R)).trans ?_
  rw [List.append_assoc]
theorem gq_B {E Ec Er B R : va_W} (h : E.Perm (Ec ++ Er)) : (R ++ (E ++ B)).Perm ((Ec ++ B) ++ (Er ++ R)) := List.perm_append_comm.trans (gl_B h)
theorem gq_0 {E Ec Er B R : va_W} (h : E.Perm (Ec ++ Er)) : (R ++ (E ++ B)).Perm (Ec ++ (Er ++ (B ++ R))) := List.perm_append_comm.trans (gl_0 h)
theorem ad_app {a a' b b' : va_W} (h1 : a.map Prod.fst = a'.map Prod.fst) (h2 : b.map Prod.fst = b'.map Prod.fst) : (a ++ b).map Prod.fst = (a' ++ b').map Prod.fst := by rw [List.map_append, List.map_append, h1, h2]
theorem dcmp_same {b : UInt64} (h : nn64 b = true) : Op.cmpValue (FP.dcmp b b) .l = 0 := by
  have h1 := of_decide_eq_true h
  have hne : Jvm.FP.Core.val64 b ≠ .nan := by
    rw [Jvm.FP.Core.ne_nan]
    rw [UInt64.le_iff_toNat_le, UInt64.toNat_and] at h1
    have e := Nat.and_two_pow_sub_one_eq_mod b.toNat 63
    have e2 : (2 : Nat) ^ 63 - 1 = 9223372036854775807 := by decide
    rw [e2] at e
    rw [← e]
    exact h1
  rw [show FP.dcmp b b = some .eq from Jvm.FP.Core.dcmp_self hne]
  rfl
theorem cmp_self (x : Int64) : lg_cmp x x = 0 := by
  unfold lg_cmp
  rw [if_neg (Int64.lt_irrefl), if_pos rfl]

