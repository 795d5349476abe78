/-! The pure layer: numbers, bits, loops that count. -/
def bt (x : Int32) (i : Nat) : Bool := x.toBitVec.getLsbD i
theorem b_ext {x y : Int32} (h : ∀ i, i < 32 → bt x i = bt y i) : x = y := Int32.toBitVec_inj.mp (BitVec.eq_of_getLsbD_eq (fun i hi => h i hi))
theorem b_or (x y : Int32) (i : Nat) : bt (x ||| y) i = (bt x i || bt y i) := by unfold bt; rw [Int32.toBitVec_or, BitVec.getLsbD_or]
theorem b_and (x y : Int32) (i : Nat) : bt (x &&& y) i = (bt x i && bt y i) := by unfold bt; rw [Int32.toBitVec_and, BitVec.getLsbD_and]
theorem b_xor (x y : Int32) (i : Nat) : bt (x ^^^ y) i = (bt x i ^^ bt y i) := by unfold bt; rw [Int32.toBitVec_xor, BitVec.getLsbD_xor]
theorem b_big {x : Int32} {i : Nat} (h : 32 ≤ i) : bt x i = false := BitVec.getLsbD_of_ge _ _ h
theorem b_m1 : ∀ i, i < 32 → bt (-1) i = true := by decide +kernel
theorem b_0 (i : Nat) : bt 0 i = false := BitVec.getLsbD_zero
theorem b_not (x : Int32) {i : Nat} (h : i < 32) : bt (x ^^^ (-1)) i = !(bt x i) := by rw [b_xor, b_m1 i h]; cases bt x i <;> rfl
/-- the number of one bit -/
abbrev pw (k : Nat) : Int32 := (1 : Int32) <<< (nI k &&& 31)
theorem pw_tp : ∀ l, l < 32 → (pw l).toBitVec = BitVec.twoPow 32 l := by decide +kernel
theorem b_pw {k : Nat} (hk : k < 32) (i : Nat) : bt (pw k) i = decide (i = k) := by
  unfold bt
  rw [pw_tp k hk, BitVec.getLsbD_twoPow]
  by_cases h : i = k
  · subst h; simp [hk]
  · have : ¬ k = i := fun q => h q.symm
    simp [h, this]
theorem s_l : ∀ n, n < 32 → ((nI n &&& 31).toBitVec.smod 32).toNat = n := by decide +kernel
theorem s_u : ∀ n, n < 32 → (((nI n).toUInt32 &&& Int32.toUInt32 31).toBitVec % 32).toNat = n := by decide +kernel
theorem b_ushr (n : Nat) (hn : n < 32) (x : Int32) (i : Nat) : bt ((x.toUInt32 >>> ((nI n).toUInt32 &&& Int32.toUInt32 31)).toInt32) i = bt x (n + i) := by
  unfold bt
  show (x.toUInt32 >>> ((nI n).toUInt32 &&& Int32.toUInt32 31)).toBitVec.getLsbD i = _
  rw [UInt32.toBitVec_shiftRight, BitVec.ushiftRight_eq', BitVec.getLsbD_ushiftRight, s_u n hn]
  rfl
theorem b_sshr (n : Nat) (hn : n < 32) (x : Int32) {i : Nat} (hi : i < 32) : bt (x >>> (nI n &&& 31)) i = if n + i < 32 then bt x (n + i) else bt x 31 := by
  unfold bt
  rw [Int32.toBitVec_shiftRight]
  show (BitVec.sshiftRight _ ((nI n &&& 31).toBitVec.smod 32).toNat).getLsbD i = _
  rw [s_l n hn, BitVec.getLsbD_sshiftRight, BitVec.msb_eq_getLsbD_last]
  have h3 : ¬ 32 ≤ i := by omega
  rw [decide_eq_false h3]
  rfl
theorem b_one (i : Nat) : bt 1 i = decide (i = 0) := b_pw (k := 0) (by omega) i
theorem b_eq0 {x : Int32} : x = 0 ↔ ∀ i, i < 32 → bt x i = false := ⟨fun h i _ => by rw [h, b_0], fun h => b_ext fun i hi => by rw [h i hi, b_0]⟩
theorem and1 (x : Int32) : (x &&& 1 = 0 ↔ bt x 0 = false) ∧ (x &&& 1 = 1 ↔ bt x 0 = true) := by
  constructor
  · rw [b_eq0]
    refine ⟨fun h => ?_, fun h i hi => ?_⟩
    · have := h 0 (by omega)
      rw [b_and, b_one] at this
      simpa using this
    · rw [b_and, b_one]
      by_cases q : i = 0
      · subst q; rw [h]; rfl
      · simp [q]
  · refine ⟨fun h => ?_, fun h => b_ext fun i hi => ?_⟩
    · have := congrArg (fun z => bt z 0) h
      simp only [b_and, b_one] at this
      simpa using this
    · rw [b_and, b_one]
      by_cases q : i = 0
      · subst q; rw [h]; rfl
      · simp [q]
/-- one of a set: the class's test and the reference's -/
theorem isIn_b {m : Int32} {k : Nat} (hk : k < 32) : m_X7_isIn m (nI k) = some (if bt m k then 1 else 0) := by
  unfold m_X7_isIn
  have h := (and1 ((m.toUInt32 >>> ((nI k).toUInt32 &&& Int32.toUInt32 31)).toInt32)).1
  rw [b_ushr k hk] at h
  cases hb : bt m k with
  | false => rw [if_pos (h.mpr hb)]; rfl
  | true => rw [if_neg (fun q => by rw [show bt m (k + 0) = bt m k from rfl, hb] at h; exact absurd (h.mp q) (by decide))]; rfl
theorem has_b {m : Int32} {k : Nat} (hk : k < 32) : m_X8_has m (nI k) = some (if bt m k then 1 else 0) := by
  unfold m_X8_has
  have h := (and1 (m >>> (nI k &&& 31))).2
  rw [b_sshr k hk m (by omega)] at h
  have e : (if k + 0 < 32 then bt m (k + 0) else bt m 31) = bt m k := if_pos hk
  rw [e] at h
  cases hb : bt m k with
  | false => rw [if_neg (fun q => by rw [hb] at h; exact absurd (h.mp q) (by decide))]; rfl
  | true => rw [if_pos (h.mpr hb)]; rfl
theorem gd_ix {R : Type} {i n : Nat} {k : Option R} (h : i < n) (hn : n < 2 ^ 31) : gd (ix (nI i) n) k = k := by
  have : ix (nI i) n = true := by
    unfold ix
    rw [nI_clamp (by omega), decide_eq_false (nI_pos (by omega)), decide_eq_false (by omega)]
    rfl
  rw [this]; rfl
theorem gd_t {R : Type} {k : Option R} : gd true k = k := rfl
theorem gd_b {R : Type} {x : Int32} {k : Option R} (h : x = 0 ∨ x = 1) : gd (isb x) k = k := by rcases h with rfl | rfl <;> rfl
theorem gd_b0 {R : Type} {k : Option R} : gd (isb 0) k = k := rfl
theorem gd_b1 {R : Type} {k : Option R} : gd (isb 1) k = k := rfl
theorem gd_bi {R : Type} {c : Prop} {d : Decidable c} {k : Option R} : gd (isb (@ite Int32 c d 1 0)) k = k := by by_cases h : c <;> simp [h, gd_b0, gd_b1]
theorem bsm {α β : Type} (a : α) (f : α → Option β) : Option.bind (some a) f = f a := rfl
theorem nmd {α R : Type} (x : α) (k : α → Option R) : nm x k = k x := rfl
theorem lp_go {α : Type} {i c : Nat} {d : Decidable (nI c ≤ nI i)} {A B : α} (h : i < c) (hc : c < 2 ^ 31) : @ite α (nI c ≤ nI i) d A B = B := if_neg (nI_ge h hc)
theorem lp_end {α : Type} {c i : Nat} {d : Decidable (nI c ≤ nI i)} {A B : α} (h : c ≤ i) (hc : i < 2 ^ 31) : @ite α (nI c ≤ nI i) d A B = A := if_pos (nI_le h hc)
theorem i10 : ((1 : Int32) = 0) = False := by decide
theorem i00 : ((0 : Int32) = 0) = True := by decide
theorem ite_b {α : Type} {b : Bool} {A B : α} {d : Decidable ((if b = true then (1 : Int32) else 0) = 0)} : @ite α ((if b = true then (1 : Int32) else 0) = 0) d A B = if b = true then B else A := by cases b <;> simp [i10]
theorem ite_p {α : Type} {c : Prop} {dc : Decidable c} {A B : α} {d : Decidable (@ite Int32 c dc 1 0 = 0)} : @ite α (@ite Int32 c dc 1 0 = 0) d A B = @ite α c dc B A := by by_cases h : c <;> simp [h, i10]
theorem or0 (x : Int32) : x ||| 0 = x := b_ext fun i _ => by rw [b_or, b_0, Bool.or_false]
theorem add0 (x : Int32) : x + 0 = x := Int32.add_zero x
/-! Loops. -/
def foldN {α : Type} (f : Nat → α → α) (a : α) : Nat → α
  | 0 => a
  | n + 1 => f n (foldN f a n)
theorem foldN_s {α : Type} {f : Nat → α → α} {a : α} {n : Nat} : foldN f a (n + 1) = f n (foldN f a n) := rfl
theorem foldN_congr {α : Type} {f g : Nat → α → α} {a : α} {n : Nat} (h : ∀ i, i < n → f i (foldN g a i) = g i (foldN g a i)) : foldN f a n = foldN g a n := by
  induction n with
  | zero => rfl
  | succ n ih =>
    have e := ih (fun i hi => h i (Nat.lt_succ_of_lt hi))
    show f n (foldN f a n) = g n (foldN g a n)
    rw [e]
    exact h n (Nat.lt_succ_self n)
theorem foldN_inv {α : Type} {f : Nat → α → α} {a : α} {P : Nat → α → Prop} {n : Nat} (h0 : P 0 a) (hs : ∀ i x, i < n → P i x → P (i + 1) (f i x)) : P n (foldN f a n) := by
  have key : ∀ k, k ≤ n → P k (foldN f a k) := by
    intro k
    induction k with
    | zero => intro _; exact h0
    | succ k ih => intro hk; exact hs k _ (by omega) (ih (by omega))
  exact key n (Nat.le_refl n)
theorem loop_run {V R : Type} {F : (V → Option R) → V → Option R} {c : Nat} (st : Nat → V) {out : Option R} (hc : c < 1000)
    (hs : ∀ (rec : V → Option R) (i : Nat), i < c → F rec (st i) = rec (st (i + 1))) (ho : ∀ rec : V → Option R, F rec (st c) = out) : fuel F FU (st 0) = out := by
  have key : ∀ n i, i + n = c → ∀ k, n < k → fuel F k (st i) = out := by
    intro n
    induction n with
    | zero =>
      intro i hi k hk
      obtain ⟨k, rfl⟩ : ∃ k', k = k' + 1 := ⟨k - 1, by omega⟩
      have e : i = c := by omega
      subst e
      exact ho _
    | succ n ih =>
      intro i hi k hk
      obtain ⟨k, rfl⟩ : ∃ k', k = k' + 1 := ⟨k - 1, by omega⟩
      show F (fuel F k) _ = out
      rw [hs _ i (by omega)]
      exact ih (i + 1) (by omega) k (by omega)
  exact key c 0 (by omega) FU hc
/-- a loop that counts up -/
theorem for_up {α V R : Type} {F : (V → Option R) → V → Option R} {c : Nat} (mk : α → Int32 → V) (f : Nat → α → α) (a : α) {out : Option R} (hc : c < 1000)
    (hs : ∀ (rec : V → Option R) (i : Nat), i < c → F rec (mk (foldN f a i) (nI i)) = rec (mk (f i (foldN f a i)) (nI (i + 1))))
    (ho : ∀ rec : V → Option R, F rec (mk (foldN f a c) (nI c)) = out) : fuel F FU (mk a (nI 0)) = out :=
  loop_run (fun i => mk (foldN f a i) (nI i)) hc hs ho
/-! The two ways to hold a number against a count. -/
theorem X4_has_y {p c : Nat} (h : p < c) (hc : c < 2 ^ 31) : m_X4_has (nI p) (nI c) = some 1 := by
  unfold m_X4_has
  rw [if_neg (nI_pos (by omega)), if_neg (nI_ge h hc)]
theorem X4_has_n {x : Int32} {c : Nat} (h : ¬ ∃ p, p < c ∧ x = nI p) (hc : c < 2 ^ 31) : m_X4_has x (nI c) = some 0 := by
  unfold m_X4_has
  by_cases h0 : x < 0
  · rw [if_pos h0]
  · rw [if_neg h0]
    by_cases h1 : nI c ≤ x
    · rw [if_pos h1]
    · exact absurd ((pk_ix x hc).resolve_left h0 |>.resolve_left h1) h
theorem X1_has_e : m_X1_has = m_X4_has := rfl
theorem isB_y {x lo hi : Int32} (h1 : ¬ x < lo) (h2 : ¬ hi < x) : m_X8_isBetween x lo hi = some 1 := by
  unfold m_X8_isBetween
  rw [if_neg h1, if_neg h2]
theorem isB_n {x lo hi : Int32} (h : x < lo ∨ hi < x) : m_X8_isBetween x lo hi = some 0 := by
  unfold m_X8_isBetween
  by_cases h1 : x < lo
  · rw [if_pos h1]
  · rw [if_neg h1, if_pos (h.resolve_left h1)]
theorem nI_m1 {c p : Nat} (h : p < c) (hc : c < 2 ^ 31) : ¬ nI c - 1 < nI p := by
  obtain ⟨d, rfl⟩ : ∃ d, c = d + 1 := ⟨c - 1, by omega⟩
  rw [nI_pred]
  exact nI_nlt (by omega) (by omega)
theorem isB_cy {p c : Nat} (h : p < c) (hc : c < 2 ^ 31) : m_X8_isBetween (nI p) 0 (nI c - 1) = some 1 := isB_y (nI_pos (by omega)) (nI_m1 h hc)
theorem isB_cn {x : Int32} {c : Nat} (h : ¬ ∃ p, p < c ∧ x = nI p) (hc : c < 2 ^ 31) : m_X8_isBetween x 0 (nI c - 1) = some 0 := by
  refine isB_n ?_
  by_cases h0 : x < 0
  · exact Or.inl h0
  · refine Or.inr ?_
    obtain ⟨j, hj, rfl⟩ := nI_of h0
    have hj2 : c ≤ j := Nat.not_lt.mp fun q => h ⟨j, q, rfl⟩
    by_cases hz : c = 0
    · subst hz
      have : nI 0 - 1 = -1 := by decide
      rw [this, Int32.lt_iff_toInt_lt, nI_toInt hj]
      show (-1 : Int) < _
      omega
    · obtain ⟨d, rfl⟩ : ∃ d, c = d + 1 := ⟨c - 1, by omega⟩
      rw [nI_pred]
      exact nI_lt (by omega) hj
