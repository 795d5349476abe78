/-! Worlds of which a part is a list of blocks: permutations, frames. -/
theorem va_P.mem {D : va_G} {cl : List vw_C} {ws : va_W} {H : Heap} (h : va_P D cl ws H) : ∀ q ∈ ws, va_at D cl q H := fun q hq => by
  obtain ⟨i, hi⟩ := List.getElem?_of_mem hq
  exact h i q hi
theorem va_P.ofMem {D : va_G} {cl : List vw_C} {ws : va_W} {H : Heap} (h : ∀ q ∈ ws, va_at D cl q H) : va_P D cl ws H := fun _ q hq => h q (List.mem_of_getElem? hq)
theorem va_D.nodup {A : Nat → Prop} {ws : va_W} (h : va_D A ws) : (ws.map Prod.fst).Nodup := by
  rw [List.Nodup, List.pairwise_iff_getElem]
  intro i j hi hj hij e
  rw [List.getElem_map, List.getElem_map] at e
  have hi' : i < ws.length := by simpa using hi
  have hj' : j < ws.length := by simpa using hj
  have := h.1 i j ws[i] ws[j] (List.getElem?_eq_getElem hi') (List.getElem?_eq_getElem hj') e
  omega
theorem va_D.ofNodup {A : Nat → Prop} {ws : va_W} (h : (ws.map Prod.fst).Nodup) (hA : ∀ q ∈ ws, A q.1) : va_D A ws := by
  refine ⟨fun i j p q hi hj e => ?_, fun k q hk => hA q (List.mem_of_getElem? hk)⟩
  obtain ⟨hi', e1⟩ := List.getElem?_eq_some_iff.mp hi
  obtain ⟨hj', e2⟩ := List.getElem?_eq_some_iff.mp hj
  rw [List.Nodup, List.pairwise_iff_getElem] at h
  rcases Nat.lt_trichotomy i j with q1 | q1 | q1
  · exact absurd (by rw [List.getElem_map, List.getElem_map, e1, e2]; exact e) (h i j (by simpa using hi') (by simpa using hj') q1)
  · exact q1
  · exact absurd (by rw [List.getElem_map, List.getElem_map, e1, e2]; exact e.symm) (h j i (by simpa using hj') (by simpa using hi') q1)
theorem va_D.all {A : Nat → Prop} {ws : va_W} (h : va_D A ws) : ∀ q ∈ ws, A q.1 := fun q hq => by
  obtain ⟨i, hi⟩ := List.getElem?_of_mem hq
  exact h.2 i q hi
theorem va_P.perm {D : va_G} {cl : List vw_C} {ws ws' : va_W} {H : Heap} (h : va_P D cl ws H) (hp : ws.Perm ws') : va_P D cl ws' H := va_P.ofMem fun q hq => h.mem q (hp.mem_iff.mpr hq)
theorem va_D.perm {A : Nat → Prop} {ws ws' : va_W} (h : va_D A ws) (hp : ws.Perm ws') : va_D A ws' := va_D.ofNodup (((hp.map Prod.fst).nodup_iff).mp h.nodup) fun q hq => h.all q (hp.mem_iff.mpr hq)
theorem va_P.left {D : va_G} {cl : List vw_C} {a b : va_W} {H : Heap} (h : va_P D cl (a ++ b) H) : va_P D cl a H := va_P.ofMem fun q hq => h.mem q (List.mem_append_left _ hq)
theorem va_P.right {D : va_G} {cl : List vw_C} {a b : va_W} {H : Heap} (h : va_P D cl (a ++ b) H) : va_P D cl b H := va_P.ofMem fun q hq => h.mem q (List.mem_append_right _ hq)
theorem va_D.left {A : Nat → Prop} {a b : va_W} (h : va_D A (a ++ b)) : va_D A a := va_D.ofNodup (by have := h.nodup; rw [List.map_append] at this; exact (List.nodup_append.mp this).1) fun q hq => h.all q (List.mem_append_left _ hq)
theorem va_D.right {A : Nat → Prop} {a b : va_W} (h : va_D A (a ++ b)) : va_D A b := va_D.ofNodup (by have := h.nodup; rw [List.map_append] at this; exact (List.nodup_append.mp this).2.1) fun q hq => h.all q (List.mem_append_right _ hq)
/-- the addresses alone matter -/
theorem va_D.addr {A : Nat → Prop} {ws ws' : va_W} (h : va_D A ws) (e : ws'.map Prod.fst = ws.map Prod.fst) : va_D A ws' := va_D.ofNodup (by rw [e]; exact h.nodup) fun q hq => by
  have h1 : q.1 ∈ ws'.map Prod.fst := List.mem_map_of_mem hq
  rw [e] at h1
  obtain ⟨x, hx, e2⟩ := List.mem_map.mp h1
  rw [← e2]
  exact h.all x hx
theorem va_A.mem {ws : va_W} {sz : Nat} {q : Nat} : va_A ws sz q ↔ q ∈ ws.map Prod.fst ∨ sz ≤ q := by
  refine ⟨fun h => h.elim (fun ⟨k, e, hk⟩ => Or.inl (List.mem_map.mpr ⟨(q, e), List.mem_of_getElem? hk, rfl⟩)) Or.inr, fun h => h.elim (fun hq => ?_) Or.inr⟩
  obtain ⟨x, hx, e⟩ := List.mem_map.mp hq
  obtain ⟨i, hi⟩ := List.getElem?_of_mem hx
  exact Or.inl ⟨i, x.2, by rw [hi, ← e]⟩
/-- what a callee may touch, where its cells are among ours -/
theorem va_freePm {A0 : Nat → Prop} {ws wc wr : va_W} {H0 H : Heap} {locs : List Loc} (hp : ws.Perm (wc ++ wr)) (hD : va_D A0 ws) (hS : va_S A0 H0 H locs) (hA : ∀ q, H0.size ≤ q → A0 q) : ∀ q, va_A wc H.size q → A0 q := fun q h => by
  rcases va_A.mem.mp h with h | h
  · obtain ⟨x, hx, e⟩ := List.mem_map.mp h
    rw [← e]
    exact hD.all x (hp.mem_iff.mpr (List.mem_append_left _ hx))
  · exact hA q (Nat.le_trans hS.1 h)
theorem va_backP {G : va_G} {A0 : Nat → Prop} {ws wc wr w1 : va_W} {H H1 : Heap} (hp : ws.Perm (wc ++ wr)) (hP : va_P G vwCl ws H) (hD : va_D A0 ws) (hk : ∀ q : Nat, q < H.size → ¬ va_A wc H.size q → H1[q]? = H[q]?) (hP1 : va_P G vwCl w1 H1) (ha : w1.map Prod.fst = wc.map Prod.fst) : va_P G vwCl (w1 ++ wr) H1 ∧ va_D A0 (w1 ++ wr) := by
  have hP2 := hP.perm hp
  have hD2 := hD.perm hp
  refine ⟨va_P.ofMem fun q hq => ?_, hD2.addr (by rw [List.map_append, List.map_append, ha])⟩
  rcases List.mem_append.mp hq with h | h
  · exact hP1.mem q h
  · have hat := hP2.mem q (List.mem_append_right _ h)
    refine hat.kept (hk q.1 hat.lt fun hA => ?_)
    rcases va_A.mem.mp hA with h3 | h3
    · have hn := hD2.nodup
      rw [List.map_append] at hn
      exact (List.nodup_append.mp hn).2.2 _ h3 _ (List.mem_map_of_mem h) rfl
    · exact absurd hat.lt (by omega)
/-- our cells are E and a block B; the callee has some of E -/
theorem va_backB {G : va_G} {A0 : Nat → Prop} {E E' B wc w1 : va_W} {H H1 : Heap} (hP : va_P G vwCl (E ++ B) H) (hD : va_D A0 (E ++ B)) (isC : List Nat) (hC : isC.map (fun i => E[i]?) = wc.map some)
    (hk : ∀ q : Nat, q < H.size → ¬ va_A wc H.size q → H1[q]? = H[q]?) (hP1 : va_P G vwCl w1 H1) (sel : List (Bool × Nat)) (hs : sel.map (fun x => if x.1 then w1[x.2]? else E[x.2]?) = E'.map some) (hn : sel.all (fun x => x.1 || !(isC.contains x.2)) = true) (ha : E'.map Prod.fst = E.map Prod.fst) : va_P G vwCl (E' ++ B) H1 ∧ va_D A0 (E' ++ B) := by
  obtain ⟨h1, -⟩ := va_back (ws' := E') hP.left hD.left isC hC hk hP1 sel hs hn ha
  refine ⟨va_P.app h1 (va_P.ofMem fun q hq => ?_), hD.addr (by rw [List.map_append, List.map_append, ha])⟩
  have hat := hP.right.mem q hq
  refine hat.kept (hk q.1 hat.lt fun hA => ?_)
  rcases va_A.mem.mp hA with h3 | h3
  · obtain ⟨x, hx, e⟩ := List.mem_map.mp h3
    have hxE : x ∈ E := by
      obtain ⟨i, hi⟩ := List.getElem?_of_mem hx
      have h4 : (isC.map (fun i => E[i]?))[i]? = some (some x) := by rw [hC, List.getElem?_map, hi]; rfl
      rw [List.getElem?_map] at h4
      cases hc : isC[i]? with
      | none => rw [hc] at h4; cases h4
      | some j => rw [hc] at h4; exact List.mem_of_getElem? (Option.some.inj h4)
    have hn2 := hD.nodup
    rw [List.map_append] at hn2
    exact (List.nodup_append.mp hn2).2.2 _ (List.mem_map_of_mem hxE) _ (List.mem_map_of_mem hq) e
  · exact absurd hat.lt (by omega)
/-- the callee has some of E, and the block -/
theorem va_subC {G : va_G} {E Ec B : va_W} {H : Heap} (hP : va_P G vwCl (E ++ B) H) (is : List Nat) (hs : is.filterMap (fun i => E[i]?) = Ec) : va_P G vwCl (Ec ++ B) H := va_P.app (hP.left.sub is hs) hP.right
theorem va_subCD {A0 : Nat → Prop} {E Ec B : va_W} (hD : va_D A0 (E ++ B)) (is : List Nat) (hn : va_nd is = true) (hs : is.map (fun i => E[i]?) = Ec.map some) : va_D A0 (Ec ++ B) := by
  refine va_D.app (hD.left.sub is hn hs) hD.right fun i j p q hi hj e => ?_
  have h4 : (is.map (fun i => E[i]?))[i]? = some (some p) := by rw [hs, List.getElem?_map, hi]; rfl
  rw [List.getElem?_map] at h4
  cases hc : is[i]? with
  | none => rw [hc] at h4; cases h4
  | some k =>
    rw [hc] at h4
    have hn2 := hD.nodup
    rw [List.map_append] at hn2
    exact (List.nodup_append.mp hn2).2.2 _ (List.mem_map_of_mem (List.mem_of_getElem? (Option.some.inj h4))) _ (List.mem_map_of_mem (List.mem_of_getElem? hj)) e
theorem va_freeC {A0 : Nat → Prop} {E Ec B : va_W} {H0 H : Heap} {locs : List Loc} (hD : va_D A0 (E ++ B)) (hS : va_S A0 H0 H locs) (hA : ∀ q, H0.size ≤ q → A0 q) (is : List Nat) (hs : is.map (fun i => E[i]?) = Ec.map some) : ∀ q, va_A (Ec ++ B) H.size q → A0 q := fun q h => by
  rcases va_A.mem.mp h with h | h
  · rw [List.map_append] at h
    rcases List.mem_append.mp h with h | h
    · exact va_free hD.left hS hA is hs q (va_A.mem.mpr (Or.inl h))
    · obtain ⟨x, hx, e⟩ := List.mem_map.mp h
      rw [← e]
      exact hD.right.all x hx
  · exact hA q (Nat.le_trans hS.1 h)
theorem va_backC {G : va_G} {A0 : Nat → Prop} {E E' Ec Ec1 B B1 : va_W} {H H1 : Heap} (hP : va_P G vwCl (E ++ B) H) (hD : va_D A0 (E ++ B)) (isC : List Nat) (hC : isC.map (fun i => E[i]?) = Ec.map some)
    (hk : ∀ q : Nat, q < H.size → ¬ va_A (Ec ++ B) H.size q → H1[q]? = H[q]?) (hP1 : va_P G vwCl (Ec1 ++ B1) H1) (hB : B1.map Prod.fst = B.map Prod.fst) (sel : List (Bool × Nat)) (hs : sel.map (fun x => if x.1 then Ec1[x.2]? else E[x.2]?) = E'.map some) (hn : sel.all (fun x => x.1 || !(isC.contains x.2)) = true) (ha : E'.map Prod.fst = E.map Prod.fst) : va_P G vwCl (E' ++ B1) H1 ∧ va_D A0 (E' ++ B1) := by
  refine ⟨va_P.app (fun k q hq => ?_) hP1.right, hD.addr (by rw [List.map_append, List.map_append, ha, hB])⟩
  have h1 : (sel.map (fun x => if x.1 then Ec1[x.2]? else E[x.2]?))[k]? = some (some q) := by rw [hs, List.getElem?_map, hq]; rfl
  rw [List.getElem?_map] at h1
  cases hx : sel[k]? with
  | none => rw [hx] at h1; cases h1
  | some x =>
    rw [hx] at h1
    have h2 : (if x.1 then Ec1[x.2]? else E[x.2]?) = some q := Option.some.inj h1
    have h3 := List.all_eq_true.mp hn x (List.mem_of_getElem? hx)
    by_cases hb : x.1 = true
    · rw [if_pos hb] at h2
      exact hP1.left _ _ h2
    · rw [if_neg hb] at h2
      have hb' : x.1 = false := by cases h : x.1 <;> simp_all
      rw [hb', Bool.false_or, Bool.not_eq_true'] at h3
      have hnot : x.2 ∉ isC := fun hm => by
        rw [List.contains_iff_mem.mpr hm] at h3
        cases h3
      have hat := hP.left _ _ h2
      refine hat.kept (hk q.1 hat.lt (fun hA => ?_))
      rcases va_A.mem.mp hA with h4 | h4
      · rw [List.map_append] at h4
        rcases List.mem_append.mp h4 with h4 | h4
        · obtain ⟨y, hy, e⟩ := List.mem_map.mp h4
          obtain ⟨k2, hk2⟩ := List.getElem?_of_mem hy
          have h5 : (isC.map (fun i => E[i]?))[k2]? = some (some y) := by rw [hC, List.getElem?_map, hk2]; rfl
          rw [List.getElem?_map] at h5
          cases hi : isC[k2]? with
          | none => rw [hi] at h5; cases h5
          | some i =>
            rw [hi] at h5
            have h7 := hD.left.1 x.2 i q y h2 (Option.some.inj h5) e.symm
            exact hnot (h7 ▸ List.mem_of_getElem? hi)
        · obtain ⟨y, hy, e⟩ := List.mem_map.mp h4
          have hn2 := hD.nodup
          rw [List.map_append] at hn2
          exact (List.nodup_append.mp hn2).2.2 _ (List.mem_map_of_mem (List.mem_of_getElem? h2)) _ (List.mem_map_of_mem hy) e.symm
      · exact absurd hat.lt (by omega)
/-- f, but v at k -/
def hup {α : Type} (f : Nat → α) (k : Nat) (v : α) : Nat → α := fun j => if j = k then v else f j
/-- n blocks -/
def blk {α : Type} (n : Nat) (w : Nat → α → va_W) (v : Nat → α) : va_W := (List.range n).flatMap fun j => w j (v j)
def blkR {α : Type} (n : Nat) (w : Nat → α → va_W) (v : Nat → α) (k : Nat) : va_W := ((List.range n).erase k).flatMap fun j => w j (v j)
theorem blk_perm {α : Type} {n : Nat} {w : Nat → α → va_W} {v : Nat → α} {k : Nat} (hk : k < n) : (blk n w v).Perm (w k (v k) ++ blkR n w v k) := by
  have h := (List.perm_cons_erase (List.mem_range.mpr hk)).flatMap_right (fun j => w j (v j))
  rw [List.flatMap_cons] at h
  exact h
theorem blk_upd {α : Type} {n : Nat} {w : Nat → α → va_W} {v : Nat → α} {k : Nat} {x : α} (hk : k < n) : (blk n w (hup v k x)).Perm (w k x ++ blkR n w v k) := by
  have h := blk_perm (w := w) (v := hup v k x) hk
  have e1 : hup v k x k = x := if_pos rfl
  have e2 : blkR n w (hup v k x) k = blkR n w v k := by
    unfold blkR
    rw [List.flatMap_def, List.flatMap_def]
    refine congrArg List.flatten (List.map_congr_left fun j hj => ?_)
    have hj2 : j ≠ k := fun q => by
      rw [q] at hj
      exact (List.Nodup.not_mem_erase List.nodup_range) hj
    show w j (hup v k x j) = _
    rw [show hup v k x j = v j from if_neg hj2]
  rw [e1, e2] at h
  exact h
theorem blk_addr {α : Type} {n : Nat} {w : Nat → α → va_W} {v v' : Nat → α} (hw : ∀ j a b, (w j a).map Prod.fst = (w j b).map Prod.fst) : (blk n w v').map Prod.fst = (blk n w v).map Prod.fst := by
  unfold blk
  rw [List.map_flatMap, List.map_flatMap]
  exact congrArg (fun f => (List.range n).flatMap f) (funext fun j => hw j _ _)
/-! Rows of numbers in an outer row. -/
def gblk (cA : Nat → ClassId) (gA : Nat → Nat) (gW : Nat → Nat → Int32) : va_W := blk 6 (fun j v => [(gA j, .inl (cA 0, 621, .inl v))]) gW
def gblkR (cA : Nat → ClassId) (gA : Nat → Nat) (gW : Nat → Nat → Int32) (k : Nat) : va_W := blkR 6 (fun j v => [(gA j, .inl (cA 0, 621, .inl v))]) gW k
theorem gblk_addr {cA : Nat → ClassId} {gA : Nat → Nat} {u v : Nat → Nat → Int32} : (gblk cA gA u).map Prod.fst = (gblk cA gA v).map Prod.fst := blk_addr (fun _ _ _ => rfl)
theorem era_perm {E : va_W} {q : Nat × va_E} : ∀ {pos : Nat}, E[pos]? = some q → E.Perm (q :: E.eraseIdx pos) := by
  induction E with
  | nil => intro pos h; cases h
  | cons x E ih =>
    intro pos h
    cases pos with
    | zero => cases h; exact List.Perm.refl _
    | succ n => exact ((ih (pos := n) h).cons x).trans (List.Perm.swap q x _)
theorem gp_perm {cA : Nat → ClassId} {gA : Nat → Nat} {gW : Nat → Nat → Int32} {k : Nat} (hk : k < 6) : (gblk cA gA gW).Perm ((gA k, .inl (cA 0, 621, .inl (gW k))) :: gblkR cA gA gW k) := blk_perm (w := fun j v => [(gA j, .inl (cA 0, 621, .inl v))]) hk
theorem gp_upd {cA : Nat → ClassId} {gA : Nat → Nat} {gW : Nat → Nat → Int32} {k : Nat} {x : Nat → Int32} (hk : k < 6) : (gblk cA gA (hup gW k x)).Perm ((gA k, .inl (cA 0, 621, .inl x)) :: gblkR cA gA gW k) := blk_upd (w := fun j v => [(gA j, .inl (cA 0, 621, .inl v))]) hk
/-- one of E, then one of the block -/
theorem gc_A {E B Br : va_W} {q1 q2 : Nat × va_E} (pos : Nat) (h1 : E[pos]? = some q1) (hB : B.Perm (q2 :: Br)) : (E ++ B).Perm ([q1, q2] ++ (E.eraseIdx pos ++ Br)) := by
  refine ((era_perm h1).append hB).trans ?_
  show (q1 :: (E.eraseIdx pos ++ (q2 :: Br))).Perm (q1 :: q2 :: (E.eraseIdx pos ++ Br))
  exact List.perm_middle.cons q1
/-- one of the block, then one of E -/
theorem gc_C {E B Br : va_W} {q1 q2 : Nat × va_E} (pos : Nat) (h1 : E[pos]? = some q1) (hB : B.Perm (q2 :: Br)) : (E ++ B).Perm ([q2, q1] ++ (E.eraseIdx pos ++ Br)) := (gc_A pos h1 hB).trans (List.Perm.swap q2 q1 _)
/-- two of the block -/
theorem gc_B {E B Br : va_W} {q1 q2 : Nat × va_E} (hB : B.Perm (q1 :: q2 :: Br)) : (E ++ B).Perm ([q1, q2] ++ (E ++ Br)) := by
  refine (hB.append_left E).trans ?_
  refine List.perm_middle.trans ?_
  exact List.perm_middle.cons q1
def gblkS (cA : Nat → ClassId) (gA : Nat → Nat) (gW : Nat → Nat → Int32) (k j : Nat) : va_W := ((((List.range 6).erase k).erase j).flatMap fun i => [(gA i, .inl (cA 0, 621, .inl (gW i)))])
theorem gp_two {cA : Nat → ClassId} {gA : Nat → Nat} {gW : Nat → Nat → Int32} {k j : Nat} (hk : k < 6) (hj : j < 6) (hn : k ≠ j) : (gblk cA gA gW).Perm ((gA k, .inl (cA 0, 621, .inl (gW k))) :: (gA j, .inl (cA 0, 621, .inl (gW j))) :: gblkS cA gA gW k j) := by
  refine (gp_perm hk).trans ?_
  refine List.Perm.cons _ ?_
  have hm : j ∈ (List.range 6).erase k := (List.mem_erase_of_ne (fun q => hn q.symm)).mpr (List.mem_range.mpr hj)
  have h := (List.perm_cons_erase hm).flatMap_right (fun i => ([(gA i, .inl (cA 0, 621, .inl (gW i)))] : va_W))
  rw [List.flatMap_cons] at h
  exact h
theorem gp_two_upd {cA : Nat → ClassId} {gA : Nat → Nat} {gW : Nat → Nat → Int32} {k j : Nat} {x : Nat → Int32} (hk : k < 6) (hj : j < 6) (hn : k ≠ j) : (gblk cA gA (hup gW j x)).Perm ((gA k, .inl (cA 0, 621, .inl (gW k))) :: (gA j, .inl (cA 0, 621, .inl x)) :: gblkS cA gA gW k j) := by
  have h := gp_two (cA := cA) (gA := gA) (gW := hup gW j x) hk hj hn
  have e1 : hup gW j x k = gW k := if_neg hn
  have e2 : hup gW j x j = x := if_pos rfl
  have e3 : gblkS cA gA (hup gW j x) k j = gblkS cA gA gW k j := by
    unfold gblkS
    rw [List.flatMap_def, List.flatMap_def]
    refine congrArg List.flatten (List.map_congr_left fun i hi => ?_)
    have hi2 : i ≠ j := fun q => by
      rw [q] at hi
      exact (List.Nodup.not_mem_erase ((List.nodup_range).erase k)) hi
    rw [show hup gW j x i = gW i from if_neg hi2]
  rw [e1, e2, e3] at h
  exact h
