/-! Counting bits: both ways. -/
theorem nx_and (a b : Nat) : nI a &&& nI b = nI (a &&& b) := by
  unfold nI
  apply Int32.toBitVec_inj.mp
  rw [Int32.toBitVec_and]
  show BitVec.ofNat 32 a &&& BitVec.ofNat 32 b = BitVec.ofNat 32 (a &&& b)
  exact BitVec.ofNat_and.symm
theorem bt_nI {n i : Nat} (hi : i < 32) : bt (nI n) i = n.testBit i := by
  unfold bt
  show (BitVec.ofNat 32 n).getLsbD i = _
  rw [BitVec.getLsbD_ofNat, decide_eq_true hi, Bool.true_and]
theorem i32_nat (x : Int32) : ∃ n, n < 2 ^ 32 ∧ x = nI n := ⟨x.toBitVec.toNat, x.toBitVec.isLt, Int32.toBitVec_inj.mp (by show _ = BitVec.ofNat 32 _; simp)⟩
def pc (x : Int32) : Nat := cN (bt x) 32
theorem cN_add {b : Nat → Bool} {m : Nat} : ∀ n, cN b (m + n) = cN b m + cN (fun i => b (m + i)) n := by
  intro n
  induction n with
  | zero => rfl
  | succ n ih =>
    show cN b (m + n) + (if b (m + n) = true then 1 else 0) = _
    rw [ih, cN_s]
    omega
/-- the bytes of a mask, of a number -/
def ms (m : Nat) : Nat → Nat
  | 0 => 0
  | k + 1 => m + 256 * ms m k
def ln (f : Nat → Nat) : Nat → Nat → Nat
  | 0, _ => 0
  | k + 1, n => f (n % 256) + 256 * ln f k (n / 256)
theorem and_b (a : Nat) {m : Nat} (M : Nat) (hm : m < 256) : a &&& (m + 256 * M) = (a % 256 &&& m) + 256 * (a / 256 &&& M) := by
  have h1 : (a &&& (m + 256 * M)) % 2 ^ 8 = (a % 2 ^ 8) &&& ((m + 256 * M) % 2 ^ 8) := Nat.and_mod_two_pow
  have h2 : (a &&& (m + 256 * M)) / 2 ^ 8 = (a / 2 ^ 8) &&& ((m + 256 * M) / 2 ^ 8) := Nat.and_div_two_pow
  have e1 : (m + 256 * M) % 2 ^ 8 = m := by omega
  have e2 : (m + 256 * M) / 2 ^ 8 = M := by omega
  rw [e1] at h1
  rw [e2] at h2
  have e3 : (2 : Nat) ^ 8 = 256 := rfl
  rw [e3] at h1 h2
  have := Nat.mod_add_div (a &&& (m + 256 * M)) 256
  omega
def q1 (a : Nat) : Nat := a - (a / 2 &&& 85)
def q2 (a : Nat) : Nat := (a &&& 51) + (a / 4 &&& 51)
def q3 (a : Nat) : Nat := (a + a / 16) &&& 15
theorem t1 : ∀ a, a < 256 → ∀ t, t < 2 → ((a / 2 + 128 * t) &&& 85) = (a / 2 &&& 85) ∧ (a / 2 &&& 85) ≤ a := by decide +kernel
theorem t2 : ∀ a, a < 256 → ∀ t, t < 4 → ((a / 4 + 64 * t) &&& 51) = (a / 4 &&& 51) ∧ q2 a < 256 := by decide +kernel
theorem t3 : ∀ a, a < 256 → ∀ t, t < 16 → a % 16 ≤ 4 → a / 16 ≤ 4 → (a + a / 16 + 16 * t) % 256 &&& 15 = q3 a ∧ q3 a ≤ 8 := by decide +kernel
theorem t4 : ∀ a, a < 256 → q1 a < 256 ∧ q2 (q1 a) % 16 ≤ 4 ∧ q2 (q1 a) / 16 ≤ 4 ∧ q3 (q2 (q1 a)) = cN a.testBit 8 := by decide +kernel
theorem l1 : ∀ k n, n < 256 ^ k → n / 2 &&& ms 85 k ≤ n ∧ n - (n / 2 &&& ms 85 k) = ln q1 k n := by
  intro k
  induction k with
  | zero => intro n h; exact ⟨by show n / 2 &&& 0 ≤ n; rw [Nat.and_zero]; omega, by show n - (n / 2 &&& 0) = 0; rw [Nat.and_zero]; have : n < 1 := h; omega⟩
  | succ k ih =>
    intro n h
    obtain ⟨i1, i2⟩ := ih (n / 256) (by rw [Nat.pow_succ] at h; omega)
    have e : n / 2 &&& ms 85 (k + 1) = (n % 256 / 2 &&& 85) + 256 * (n / 256 / 2 &&& ms 85 k) := by
      show n / 2 &&& (85 + 256 * ms 85 k) = _
      rw [and_b _ _ (by omega), show n / 2 / 256 = n / 256 / 2 by omega, show n / 2 % 256 = n % 256 / 2 + 128 * (n / 256 % 2) by omega, (t1 _ (by omega) _ (by omega)).1]
    have h3 := (t1 (n % 256) (by omega) 0 (by omega)).2
    rw [e]
    refine ⟨by omega, ?_⟩
    show _ = (n % 256 - (n % 256 / 2 &&& 85)) + 256 * ln q1 k (n / 256)
    rw [← i2]
    omega
theorem l2 : ∀ k n, (n &&& ms 51 k) + (n / 4 &&& ms 51 k) = ln q2 k n := by
  intro k
  induction k with
  | zero => intro n; show (n &&& 0) + (n / 4 &&& 0) = 0; rw [Nat.and_zero, Nat.and_zero]
  | succ k ih =>
    intro n
    have i2 := ih (n / 256)
    show (n &&& (51 + 256 * ms 51 k)) + (n / 4 &&& (51 + 256 * ms 51 k)) = ((n % 256 &&& 51) + (n % 256 / 4 &&& 51)) + 256 * ln q2 k (n / 256)
    rw [and_b _ _ (by omega), and_b _ _ (by omega), show n / 4 / 256 = n / 256 / 4 by omega, show n / 4 % 256 = n % 256 / 4 + 64 * (n / 256 % 4) by omega, (t2 _ (by omega) _ (by omega)).1, ← i2]
    omega
/-- in each byte two small numbers -/
def sm : Nat → Nat → Prop
  | 0, n => n = 0
  | k + 1, n => n % 256 % 16 ≤ 4 ∧ n % 256 / 16 ≤ 4 ∧ sm k (n / 256)
theorem l3 : ∀ k n, sm k n → (n + n / 16) &&& ms 15 k = ln q3 k n := by
  intro k
  induction k with
  | zero => intro n _; show (n + n / 16) &&& 0 = 0; rw [Nat.and_zero]
  | succ k ih =>
    intro n h
    obtain ⟨h1, h2, h3⟩ := h
    have i2 := ih (n / 256) h3
    have hm : n / 256 % 256 % 16 ≤ 4 := by
      cases k with
      | zero => have : n / 256 = 0 := h3; rw [this]; decide
      | succ k => exact h3.1
    show (n + n / 16) &&& (15 + 256 * ms 15 k) = q3 (n % 256) + 256 * ln q3 k (n / 256)
    have hm2 : n / 256 % 16 ≤ 4 := by omega
    have e1 : (n + n / 16) / 256 = n / 256 + n / 256 / 16 := by omega
    have e2 : (n + n / 16) % 256 = (n % 256 + n % 256 / 16 + 16 * (n / 256 % 16)) % 256 := by omega
    rw [and_b _ _ (by omega), e1, i2, e2, (t3 (n % 256) (by omega) _ (by omega) h1 h2).1]
theorem ln_mod {f : Nat → Nat} {k n : Nat} (h : f (n % 256) < 256) : ln f (k + 1) n % 256 = f (n % 256) ∧ ln f (k + 1) n / 256 = ln f k (n / 256) := by
  show (f (n % 256) + 256 * ln f k (n / 256)) % 256 = _ ∧ (f (n % 256) + 256 * ln f k (n / 256)) / 256 = _
  omega
theorem l4 : ∀ k n, sm k (ln q2 k (ln q1 k n)) ∧ ln q3 k (ln q2 k (ln q1 k n)) = ln (fun a => cN a.testBit 8) k n := by
  intro k
  induction k with
  | zero => intro n; exact ⟨rfl, rfl⟩
  | succ k ih =>
    intro n
    obtain ⟨h1, h2, h3, h4⟩ := t4 (n % 256) (by omega)
    obtain ⟨a1, a2⟩ := ln_mod (k := k) (n := n) h1
    have h5 := (t2 (q1 (n % 256)) h1 0 (by omega)).2
    obtain ⟨b1, b2⟩ := ln_mod (f := q2) (k := k) (n := ln q1 (k + 1) n) (by rw [a1]; exact h5)
    rw [a1] at b1
    rw [a2] at b2
    obtain ⟨i1, i2⟩ := ih (n / 256)
    refine ⟨⟨by rw [b1]; exact h2, by rw [b1]; exact h3, by rw [b2]; exact i1⟩, ?_⟩
    show q3 (ln q2 (k + 1) (ln q1 (k + 1) n) % 256) + 256 * ln q3 k (ln q2 (k + 1) (ln q1 (k + 1) n) / 256) = cN (n % 256).testBit 8 + 256 * ln (fun a => cN a.testBit 8) k (n / 256)
    rw [b1, b2, h4, i2]
theorem tb_mod {n i : Nat} (h : i < 8) : (n % 256).testBit i = n.testBit i := by
  have := Nat.testBit_mod_two_pow n 8 i
  rw [decide_eq_true h, Bool.true_and] at this
  exact this
theorem tb_div {n i : Nat} : (n / 256).testBit i = n.testBit (8 + i) := by
  have h : n.testBit (8 + i) = (n / 2 ^ 8).testBit i := by
    rw [Nat.testBit_div_two_pow, Nat.add_comm]
  exact h.symm
theorem pc_ln (n : Nat) : cN n.testBit 32 = cN (n % 256).testBit 8 + cN (n / 256 % 256).testBit 8 + cN (n / 65536 % 256).testBit 8 + cN (n / 16777216 % 256).testBit 8 := by
  have s : ∀ (m k : Nat), cN m.testBit (8 + k) = cN (m % 256).testBit 8 + cN (m / 256).testBit k := fun m k => by
    rw [cN_add, cN_c (b := (m % 256).testBit) (b' := m.testBit) fun i hi => tb_mod hi, cN_c (b := (m / 256).testBit) (b' := fun i => m.testBit (8 + i)) fun i _ => tb_div]
  have h1 := s n 24
  have h2 := s (n / 256) 16
  have h3 := s (n / 65536) 8
  have e2 : n / 256 / 256 = n / 65536 := by omega
  have e3 : n / 65536 / 256 = n / 16777216 := by omega
  rw [e2] at h2
  rw [e3] at h3
  have h4 : cN (n / 16777216).testBit 8 = cN (n / 16777216 % 256).testBit 8 := (cN_c fun i hi => tb_mod hi).symm
  rw [show (32 : Nat) = 8 + 24 from rfl, h1, show (24 : Nat) = 8 + 16 from rfl, h2, show (16 : Nat) = 8 + 8 from rfl, h3, h4]
  omega
theorem c8 (n : Nat) : cN (n % 256).testBit 8 ≤ 8 := cN_le _ _
theorem ln_lt {f : Nat → Nat} (h : ∀ a, a < 256 → f a < 256) : ∀ k n, ln f k n < 256 ^ k := by
  intro k
  induction k with
  | zero => intro n; exact Nat.one_pos
  | succ k ih =>
    intro n
    have h1 := h (n % 256) (by omega)
    have h2 := ih (n / 256)
    rw [Nat.pow_succ]
    show f (n % 256) + 256 * ln f k (n / 256) < _
    omega
theorem ush {n : Nat} (hn : n < 2 ^ 32) (s : Int32) (k : Nat) (hs : ((s.toUInt32 &&& Int32.toUInt32 31).toBitVec % 32).toNat = k) : ((nI n).toUInt32 >>> (s.toUInt32 &&& Int32.toUInt32 31)).toInt32 = nI (n / 2 ^ k) := pk_ushrN hn s k hs
theorem bcv_pc (x : Int32) : bcv x = nI (pc x) := by
  obtain ⟨n, hn, rfl⟩ := i32_nat x
  have hpc : pc (nI n) = cN n.testBit 32 := cN_c fun i hi => bt_nI hi
  rw [hpc, pc_ln]
  have hn4 : n < 256 ^ 4 := hn
  obtain ⟨a1, a2⟩ := l1 4 n hn4
  obtain ⟨d1, d2⟩ := l4 4 n
  have k1 : ln q1 4 n < 2 ^ 32 := ln_lt (fun a h => (t4 a h).1) 4 n
  have k2 : ln q2 4 (ln q1 4 n) < 2 ^ 32 := ln_lt (fun a h => (t2 a h 0 (by omega)).2) 4 _
  have m5 : (1431655765 : Int32) = nI (ms 85 4) := rfl
  have m3 : (858993459 : Int32) = nI (ms 51 4) := rfl
  have m1 : (252645135 : Int32) = nI (ms 15 4) := rfl
  have m6 : (63 : Int32) = nI 63 := rfl
  unfold bcv
  simp only [m5, m3, m1, m6]
  rw [ush hn 1 1 (by decide), nx_and, pk_sub a1, show n / 2 ^ 1 = n / 2 from rfl, a2]
  rw [ush k1 2 2 (by decide), nx_and, nx_and, nI_add, show ln q1 4 n / 2 ^ 2 = ln q1 4 n / 4 from rfl, l2]
  rw [ush k2 4 4 (by decide), nI_add, nx_and, show ln q2 4 (ln q1 4 n) / 2 ^ 4 = ln q2 4 (ln q1 4 n) / 16 from rfl, l3 _ _ d1, d2]
  have e : ln (fun a => cN a.testBit 8) 4 n = cN (n % 256).testBit 8 + 256 * (cN (n / 256 % 256).testBit 8 + 256 * (cN (n / 65536 % 256).testBit 8 + 256 * cN (n / 16777216 % 256).testBit 8)) := by
    show cN (n % 256).testBit 8 + 256 * (cN (n / 256 % 256).testBit 8 + 256 * (cN (n / 256 / 256 % 256).testBit 8 + 256 * (cN (n / 256 / 256 / 256 % 256).testBit 8 + 256 * 0))) = _
    rw [show n / 256 / 256 = n / 65536 by omega, show n / 65536 / 256 = n / 16777216 by omega, Nat.mul_zero, Nat.add_zero]
  rw [e]
  have b1 := c8 n
  have b2 := c8 (n / 256)
  have b3 := c8 (n / 65536)
  have b4 := c8 (n / 16777216)
  generalize cN (n % 256).testBit 8 = w1 at *
  generalize cN (n / 256 % 256).testBit 8 = w2 at *
  generalize cN (n / 65536 % 256).testBit 8 = w3 at *
  generalize cN (n / 16777216 % 256).testBit 8 = w4 at *
  rw [ush (by omega) 8 8 (by decide), nI_add, show (w1 + 256 * (w2 + 256 * (w3 + 256 * w4))) / 2 ^ 8 = w2 + 256 * (w3 + 256 * w4) by omega, ush (by omega) 16 16 (by decide), nI_add, show (w1 + 256 * (w2 + 256 * (w3 + 256 * w4)) + (w2 + 256 * (w3 + 256 * w4))) / 2 ^ 16 = w3 + w4 + 256 * w4 by omega, nx_and]
  congr 1
  have h6 := Nat.and_two_pow_sub_one_eq_mod (w1 + 256 * (w2 + 256 * (w3 + 256 * w4)) + (w2 + 256 * (w3 + 256 * w4)) + (w3 + w4 + 256 * w4)) 6
  rw [show 2 ^ 6 - 1 = 63 from rfl] at h6
  rw [h6]
  clear h6 a1 a2 d1 d2 k1 k2 hn hn4
  omega
/-- clearing the lowest bit -/
theorem low_clear {x : Int32} (h : ¬ x = 0) : pc (x &&& (x - 1)) + 1 = pc x := by
  obtain ⟨n, hn, rfl⟩ := i32_nat x
  have hex : ∃ i, i < 32 ∧ n.testBit i = true := by
    by_cases q : ∃ i, i < 32 ∧ n.testBit i = true
    · exact q
    · refine absurd (b_eq0.mpr fun i hi => ?_) h
      rw [bt_nI hi]
      cases hb : n.testBit i with
      | false => rfl
      | true => exact absurd ⟨i, hi, hb⟩ q
  have hf : ∃ k, fnd n.testBit 32 = some k := by
    cases hk : fnd n.testBit 32 with
    | some k => exact ⟨k, rfl⟩
    | none => obtain ⟨i, hi, hb⟩ := hex; rw [fnd_none hk i hi] at hb; cases hb
  obtain ⟨k, hk⟩ := hf
  obtain ⟨k1, k2, k3⟩ := fnd_some hk
  have hm : n % 2 ^ (k + 1) = 2 ^ k := by
    apply Nat.eq_of_testBit_eq
    intro i
    rw [Nat.testBit_mod_two_pow, Nat.testBit_two_pow]
    by_cases e : k = i
    · subst e; rw [k2]; simp
    · rw [decide_eq_false e]
      by_cases q : i < k + 1
      · rw [k3 i (by omega), Bool.and_false]
      · rw [decide_eq_false q, Bool.false_and]
  have hpos : 0 < 2 ^ k := Nat.two_pow_pos k
  have hn1 : 2 ^ k ≤ n := by have := Nat.mod_le n (2 ^ (k + 1)); omega
  have e1 : nI n - 1 = nI (n - 1) := by
    obtain ⟨m, rfl⟩ : ∃ m, n = m + 1 := ⟨n - 1, by omega⟩
    rw [nI_pred]; rfl
  have hd : (n - 1) / 2 ^ (k + 1) = n / 2 ^ (k + 1) := by
    have h1 := Nat.mod_add_div n (2 ^ (k + 1))
    have h2 : n - 1 = (2 ^ k - 1) + 2 ^ (k + 1) * (n / 2 ^ (k + 1)) := by omega
    rw [h2, Nat.add_mul_div_left _ _ (Nat.two_pow_pos _), Nat.div_eq_of_lt (by rw [Nat.pow_succ]; omega), Nat.zero_add]
  have hk0 : (n - 1).testBit k = false := by
    have h1 := Nat.mod_add_div n (2 ^ (k + 1))
    have h2 : n - 1 = (2 ^ k - 1) + 2 ^ k * (2 * (n / 2 ^ (k + 1))) := by
      have e9 : 2 ^ k * (2 * (n / 2 ^ (k + 1))) = 2 ^ (k + 1) * (n / 2 ^ (k + 1)) := by rw [Nat.pow_succ, Nat.mul_assoc]
      omega
    rw [Nat.testBit_eq_decide_div_mod_eq, h2, Nat.add_mul_div_left _ _ hpos, Nat.div_eq_of_lt (by omega)]
    simp
  have hb : ∀ i, i < 32 → bt (nI n &&& (nI n - 1)) i = (bt (nI n) i && !decide (i = k)) := fun i hi => by
    rw [e1, b_and, bt_nI hi, bt_nI hi]
    by_cases e : i = k
    · subst e; rw [hk0, decide_eq_true rfl]; simp
    · rw [decide_eq_false e, Bool.not_false, Bool.and_true]
      by_cases q : i < k
      · rw [k3 i q, Bool.false_and]
      · have h3 : (n - 1).testBit i = n.testBit i := by
          obtain ⟨j, rfl⟩ : ∃ j, i = (k + 1) + j := ⟨i - (k + 1), by omega⟩
          rw [Nat.add_comm (k + 1) j, ← Nat.testBit_div_two_pow, ← Nat.testBit_div_two_pow, hd]
        rw [h3, Bool.and_self]
  unfold pc
  rw [cN_c hb]
  have gen : ∀ (b : Nat → Bool) (m : Nat), k < m → b k = true → cN (fun i => b i && !decide (i = k)) m + 1 = cN b m := by
    intro b m
    induction m with
    | zero => intro q; omega
    | succ m ih =>
      intro q hbk
      rw [cN_s, cN_s]
      by_cases e : k = m
      · subst e
        have : cN (fun i => b i && !decide (i = k)) k = cN b k := cN_c fun i hi => by rw [decide_eq_false (by omega)]; simp
        rw [this, hbk]
        simp
      · have := ih (by omega) hbk
        have e2 : (b m && !decide (m = k)) = b m := by rw [decide_eq_false (fun q => e q.symm)]; simp
        rw [e2]
        omega
  exact gen _ 32 k1 (by rw [bt_nI k1]; exact k2)
def clr (x : Int32) : Nat → Int32
  | 0 => x
  | n + 1 => clr x n &&& (clr x n - 1)
theorem pc_0 {x : Int32} : x = 0 ↔ pc x = 0 := by
  refine ⟨fun h => by rw [h]; decide, fun h => b_eq0.mpr fun i hi => ?_⟩
  cases hb : bt x i with
  | false => rfl
  | true =>
    have := cN_lt (b := bt x) hi hb
    unfold pc at h
    omega
theorem clr_pc (x : Int32) : ∀ i, i ≤ pc x → pc (clr x i) = pc x - i := by
  intro i
  induction i with
  | zero => intro _; rfl
  | succ i ih =>
    intro h
    have h1 := ih (by omega)
    have h2 : ¬ clr x i = 0 := fun q => by rw [pc_0.mp q] at h1; omega
    have h3 := low_clear h2
    show pc (clr x i &&& (clr x i - 1)) = _
    omega
theorem X8_count (x : Int32) : m_X8_count x = some (nI (pc x)) := by
  have hl := cN_le (bt x) 32
  unfold m_X8_count
  refine loop_run (c := pc x) (fun i => (nI i, clr x i)) (by unfold pc; omega) (fun rec i hi => ?_) (fun rec => ?_)
  · have h1 := clr_pc x i (by omega)
    have h2 : ¬ clr x i = 0 := fun q => by rw [pc_0.mp q] at h1; omega
    simp only [m_X8_count_L4, h2, if_false, nI_1]
    rfl
  · have h1 := clr_pc x (pc x) (Nat.le_refl _)
    have h2 : clr x (pc x) = 0 := pc_0.mpr (by omega)
    simp only [m_X8_count_L4, h2, if_true]
/-- as many bits as places -/
theorem pc_or {b : Nat → Bool} : ∀ n, n ≤ 32 → pc (foldN (sOr b pw) 0 n) = cN b n := by
  have key : ∀ n, n ≤ 32 → ∀ i, i < 32 → bt (foldN (sOr b pw) 0 n) i = (b i && decide (i < n)) := by
    intro n
    induction n with
    | zero => intro _ i _; show bt 0 i = _; rw [b_0]; simp
    | succ n ih =>
      intro hn i hi
      have := ih (by omega) i hi
      rw [foldN_s]
      cases hb : b n with
      | false =>
        rw [sOr_f hb, this]
        by_cases e : i = n
        · subst e; rw [hb]; rfl
        · rw [show decide (i < n + 1) = decide (i < n) from decide_eq_decide.mpr (by omega)]
      | true =>
        rw [sOr_t hb, b_or, this, b_pw (by omega)]
        by_cases e : i = n
        · subst e; rw [hb]; simp
        · rw [decide_eq_false e, Bool.or_false, show decide (i < n + 1) = decide (i < n) from decide_eq_decide.mpr (by omega)]
  intro n hn
  unfold pc
  rw [cN_c (b' := fun i => b i && decide (i < n)) fun i hi => key n hn i hi]
  have e : (32 : Nat) = n + (32 - n) := by omega
  rw [e, cN_add, cN_c (b' := b) (n := n) fun i hi => by rw [decide_eq_true hi, Bool.and_true]]
  have : cN (fun i => (b (n + i) && decide (n + i < n))) (32 - n) = 0 := by
    have : ∀ m, cN (fun i => (b (n + i) && decide (n + i < n))) m = 0 := by
      intro m
      induction m with
      | zero => rfl
      | succ m ih => rw [cN_s, ih, decide_eq_false (by omega)]; simp
    exact this _
  rw [this]
  rfl

