/-! The relation between the tables of the class and the row of the reference; reading and writing the row. -/
abbrev wDay (w : WS) : Int32 := w.1
abbrev wP (w : WS) : Int32 := w.2.1
abbrev war (w : WS) : Nat → Int32 := w.2.2.1
abbrev wfi (w : WS) : Nat → Int32 := w.2.2.2.1
abbrev wla (w : WS) : Nat → Int32 := w.2.2.2.2.1
abbrev wnb (w : WS) : Nat → Int32 := w.2.2.2.2.2.1
abbrev wpa (w : WS) : Nat → Int32 := w.2.2.2.2.2.2.1
abbrev wro (w : WS) : Nat → Int32 := w.2.2.2.2.2.2.2.1
abbrev wD (w : WS) : Int32 := w.2.2.2.2.2.2.2.2.1
abbrev wdp (w : WS) : Nat → Int32 := w.2.2.2.2.2.2.2.2.2.1
abbrev wdg (w : WS) : Nat → Int32 := w.2.2.2.2.2.2.2.2.2.2.1
abbrev wde (w : WS) : Nat → Int32 := w.2.2.2.2.2.2.2.2.2.2.2.1
abbrev wdd (w : WS) : Nat → Int32 := w.2.2.2.2.2.2.2.2.2.2.2.2.1
abbrev wE (w : WS) : Int32 := w.2.2.2.2.2.2.2.2.2.2.2.2.2.1
abbrev wek (w : WS) : Nat → Int32 := w.2.2.2.2.2.2.2.2.2.2.2.2.2.2.1
abbrev weo (w : WS) : Nat → Int32 := w.2.2.2.2.2.2.2.2.2.2.2.2.2.2.2.1
abbrev wes (w : WS) : Nat → Int32 := w.2.2.2.2.2.2.2.2.2.2.2.2.2.2.2.2.1
abbrev wef (w : WS) : Nat → Int32 := w.2.2.2.2.2.2.2.2.2.2.2.2.2.2.2.2.2.1
abbrev wel (w : WS) : Nat → Int32 := w.2.2.2.2.2.2.2.2.2.2.2.2.2.2.2.2.2.2.1
abbrev wL (w : WS) : Int32 := w.2.2.2.2.2.2.2.2.2.2.2.2.2.2.2.2.2.2.2.1
abbrev wK (w : WS) : Int32 := w.2.2.2.2.2.2.2.2.2.2.2.2.2.2.2.2.2.2.2.2.1
abbrev wlc (w : WS) : Nat → Int32 := w.2.2.2.2.2.2.2.2.2.2.2.2.2.2.2.2.2.2.2.2.2.1
abbrev wlm (w : WS) : Nat → Int32 := w.2.2.2.2.2.2.2.2.2.2.2.2.2.2.2.2.2.2.2.2.2.2.1
abbrev wlp (w : WS) : Nat → Int32 := w.2.2.2.2.2.2.2.2.2.2.2.2.2.2.2.2.2.2.2.2.2.2.2.1
abbrev wlr (w : WS) : Nat → Int32 := w.2.2.2.2.2.2.2.2.2.2.2.2.2.2.2.2.2.2.2.2.2.2.2.2
theorem idx3 (a p b w : Nat) : (nI a + (nI p * nI b)) + nI w = nI (a + p * b + w) := by rw [pk_mul, nI_add, nI_add]
theorem of_w {p w : Nat} (n : Nat → Int32) (h : p < 24) (hw : w < 6) : m_X8_of (nI p) (nI w) n = some (n (7 + p * 6 + w)) := by
  unfold m_X8_of
  show gd (ix ((nI 7 + (nI p * nI 6)) + nI w) 621) (some (n ((nI 7 + (nI p * nI 6)) + nI w).toNatClampNeg)) = _
  rw [idx3, gd_ix (by omega) (by omega), nI_clamp (by omega)]
theorem deedAt_w {p w : Nat} (n : Nat → Int32) (h : p < 60) (hw : w < 4) : m_X8_deedAt (nI p) (nI w) n = some (n (151 + p * 4 + w)) := by
  unfold m_X8_deedAt
  show gd (ix ((nI 151 + (nI p * nI 4)) + nI w) 621) (some (n ((nI 151 + (nI p * nI 4)) + nI w).toNatClampNeg)) = _
  rw [idx3, gd_ix (by omega) (by omega), nI_clamp (by omega)]
theorem easementOf_w {p w : Nat} (n : Nat → Int32) (h : p < 30) (hw : w < 5) : m_X8_easementOf (nI p) (nI w) n = some (n (391 + p * 5 + w)) := by
  unfold m_X8_easementOf
  show gd (ix ((nI 391 + (nI p * nI 5)) + nI w) 621) (some (n ((nI 391 + (nI p * nI 5)) + nI w).toNatClampNeg)) = _
  rw [idx3, gd_ix (by omega) (by omega), nI_clamp (by omega)]
theorem lienOf_w {p w : Nat} (n : Nat → Int32) (h : p < 20) (hw : w < 3) : m_X8_lienOf (nI p) (nI w) n = some (n (541 + p * 3 + w)) := by
  unfold m_X8_lienOf
  show gd (ix ((nI 541 + (nI p * nI 3)) + nI w) 621) (some (n ((nI 541 + (nI p * nI 3)) + nI w).toNatClampNeg)) = _
  rw [idx3, gd_ix (by omega) (by omega), nI_clamp (by omega)]
theorem set_w {p w : Nat} (n : Nat → Int32) (v : Int32) (h : p < 24) (hw : w < 6) : m_X8_set (nI p) (nI w) v n = some (upd n (7 + p * 6 + w) v) := by
  unfold m_X8_set
  show gd (ix ((nI 7 + (nI p * nI 6)) + nI w) 621) (some (upd n ((nI 7 + (nI p * nI 6)) + nI w).toNatClampNeg v)) = _
  rw [idx3, gd_ix (by omega) (by omega), nI_clamp (by omega)]
theorem setEasement_w {p w : Nat} (n : Nat → Int32) (v : Int32) (h : p < 30) (hw : w < 5) : m_X8_setEasement (nI p) (nI w) v n = some (upd n (391 + p * 5 + w) v) := by
  unfold m_X8_setEasement
  show gd (ix ((nI 391 + (nI p * nI 5)) + nI w) 621) (some (upd n ((nI 391 + (nI p * nI 5)) + nI w).toNatClampNeg v)) = _
  rw [idx3, gd_ix (by omega) (by omega), nI_clamp (by omega)]
/-- the row holds the parcels, the deeds, .. -/
def VP (P : Nat) (ar fi la nb pa ro : Nat → Int32) (n : Nat → Int32) : Prop := n 1 = nI P ∧ ∀ p, p < P → n (7 + p * 6 + 0) = ar p ∧ n (7 + p * 6 + 1) = fi p ∧ n (7 + p * 6 + 2) = la p ∧ n (7 + p * 6 + 3) = nb p ∧ n (7 + p * 6 + 4) = pa p ∧ n (7 + p * 6 + 5) = ro p
def VE (E : Nat) (ek eo es ef el : Nat → Int32) (n : Nat → Int32) : Prop := n 3 = nI E ∧ ∀ k, k < E → n (391 + k * 5 + 0) = ek k ∧ n (391 + k * 5 + 1) = eo k ∧ n (391 + k * 5 + 2) = es k ∧ n (391 + k * 5 + 3) = ef k ∧ n (391 + k * 5 + 4) = el k
def VL (L K : Nat) (lc lm lp lr : Nat → Int32) (n : Nat → Int32) : Prop := n 4 = nI L ∧ n 5 = nI K ∧ (∀ k, k < L → n (541 + k * 3 + 0) = lc k ∧ n (541 + k * 3 + 1) = lm k ∧ n (541 + k * 3 + 2) = lp k) ∧ ∀ k, k < K → n (601 + k) = lr k
def VD (D : Nat) (dp dg de dd : Nat → Int32) (n : Nat → Int32) : Prop := n 2 = nI D ∧ ∀ k, k < D → n (151 + k * 4 + 0) = dp k ∧ n (151 + k * 4 + 1) = dg k ∧ n (151 + k * 4 + 2) = de k ∧ n (151 + k * 4 + 3) = dd k

theorem VP.ar {P : Nat} {ar fi la nb pa ro n : Nat → Int32} (h : VP P ar fi la nb pa ro n) (hc : P ≤ 24) {p : Nat} (hp : p < P) : m_X8_of (nI p) 0 n = some (ar p) := (of_w (w := 0) n (by omega) (by omega)).trans (congrArg some (h.2 p hp).1)
theorem VP.fi {P : Nat} {ar fi la nb pa ro n : Nat → Int32} (h : VP P ar fi la nb pa ro n) (hc : P ≤ 24) {p : Nat} (hp : p < P) : m_X8_of (nI p) 1 n = some (fi p) := (of_w (w := 1) n (by omega) (by omega)).trans (congrArg some (h.2 p hp).2.1)
theorem VP.la {P : Nat} {ar fi la nb pa ro n : Nat → Int32} (h : VP P ar fi la nb pa ro n) (hc : P ≤ 24) {p : Nat} (hp : p < P) : m_X8_of (nI p) 2 n = some (la p) := (of_w (w := 2) n (by omega) (by omega)).trans (congrArg some (h.2 p hp).2.2.1)
theorem VP.nb {P : Nat} {ar fi la nb pa ro n : Nat → Int32} (h : VP P ar fi la nb pa ro n) (hc : P ≤ 24) {p : Nat} (hp : p < P) : m_X8_of (nI p) 3 n = some (nb p) := (of_w (w := 3) n (by omega) (by omega)).trans (congrArg some (h.2 p hp).2.2.2.1)
theorem VP.pa {P : Nat} {ar fi la nb pa ro n : Nat → Int32} (h : VP P ar fi la nb pa ro n) (hc : P ≤ 24) {p : Nat} (hp : p < P) : m_X8_of (nI p) 4 n = some (pa p) := (of_w (w := 4) n (by omega) (by omega)).trans (congrArg some (h.2 p hp).2.2.2.2.1)
theorem VP.ro {P : Nat} {ar fi la nb pa ro n : Nat → Int32} (h : VP P ar fi la nb pa ro n) (hc : P ≤ 24) {p : Nat} (hp : p < P) : m_X8_of (nI p) 5 n = some (ro p) := (of_w (w := 5) n (by omega) (by omega)).trans (congrArg some (h.2 p hp).2.2.2.2.2)
theorem VE.ek {E : Nat} {ek eo es ef el n : Nat → Int32} (h : VE E ek eo es ef el n) (hc : E ≤ 30) {p : Nat} (hp : p < E) : m_X8_easementOf (nI p) 0 n = some (ek p) := (easementOf_w (w := 0) n (by omega) (by omega)).trans (congrArg some (h.2 p hp).1)
theorem VE.eo {E : Nat} {ek eo es ef el n : Nat → Int32} (h : VE E ek eo es ef el n) (hc : E ≤ 30) {p : Nat} (hp : p < E) : m_X8_easementOf (nI p) 1 n = some (eo p) := (easementOf_w (w := 1) n (by omega) (by omega)).trans (congrArg some (h.2 p hp).2.1)
theorem VE.es {E : Nat} {ek eo es ef el n : Nat → Int32} (h : VE E ek eo es ef el n) (hc : E ≤ 30) {p : Nat} (hp : p < E) : m_X8_easementOf (nI p) 2 n = some (es p) := (easementOf_w (w := 2) n (by omega) (by omega)).trans (congrArg some (h.2 p hp).2.2.1)
theorem VE.ef {E : Nat} {ek eo es ef el n : Nat → Int32} (h : VE E ek eo es ef el n) (hc : E ≤ 30) {p : Nat} (hp : p < E) : m_X8_easementOf (nI p) 3 n = some (ef p) := (easementOf_w (w := 3) n (by omega) (by omega)).trans (congrArg some (h.2 p hp).2.2.2.1)
theorem VE.el {E : Nat} {ek eo es ef el n : Nat → Int32} (h : VE E ek eo es ef el n) (hc : E ≤ 30) {p : Nat} (hp : p < E) : m_X8_easementOf (nI p) 4 n = some (el p) := (easementOf_w (w := 4) n (by omega) (by omega)).trans (congrArg some (h.2 p hp).2.2.2.2)
theorem VL.lc {L K : Nat} {lc lm lp lr n : Nat → Int32} (h : VL L K lc lm lp lr n) (hc : L ≤ 20) {p : Nat} (hp : p < L) : m_X8_lienOf (nI p) 0 n = some (lc p) := (lienOf_w (w := 0) n (by omega) (by omega)).trans (congrArg some (h.2.2.1 p hp).1)
theorem VL.lm {L K : Nat} {lc lm lp lr n : Nat → Int32} (h : VL L K lc lm lp lr n) (hc : L ≤ 20) {p : Nat} (hp : p < L) : m_X8_lienOf (nI p) 1 n = some (lm p) := (lienOf_w (w := 1) n (by omega) (by omega)).trans (congrArg some (h.2.2.1 p hp).2.1)
theorem VL.lp {L K : Nat} {lc lm lp lr n : Nat → Int32} (h : VL L K lc lm lp lr n) (hc : L ≤ 20) {p : Nat} (hp : p < L) : m_X8_lienOf (nI p) 2 n = some (lp p) := (lienOf_w (w := 2) n (by omega) (by omega)).trans (congrArg some (h.2.2.1 p hp).2.2)
theorem VD.dp {D : Nat} {dp dg de dd n : Nat → Int32} (h : VD D dp dg de dd n) (hc : D ≤ 60) {p : Nat} (hp : p < D) : m_X8_deedAt (nI p) 0 n = some (dp p) := (deedAt_w (w := 0) n (by omega) (by omega)).trans (congrArg some (h.2 p hp).1)
theorem VD.dg {D : Nat} {dp dg de dd n : Nat → Int32} (h : VD D dp dg de dd n) (hc : D ≤ 60) {p : Nat} (hp : p < D) : m_X8_deedAt (nI p) 1 n = some (dg p) := (deedAt_w (w := 1) n (by omega) (by omega)).trans (congrArg some (h.2 p hp).2.1)
theorem VD.de {D : Nat} {dp dg de dd n : Nat → Int32} (h : VD D dp dg de dd n) (hc : D ≤ 60) {p : Nat} (hp : p < D) : m_X8_deedAt (nI p) 2 n = some (de p) := (deedAt_w (w := 2) n (by omega) (by omega)).trans (congrArg some (h.2 p hp).2.2.1)
theorem VD.dd {D : Nat} {dp dg de dd n : Nat → Int32} (h : VD D dp dg de dd n) (hc : D ≤ 60) {p : Nat} (hp : p < D) : m_X8_deedAt (nI p) 3 n = some (dd p) := (deedAt_w (w := 3) n (by omega) (by omega)).trans (congrArg some (h.2 p hp).2.2.2)
theorem g0 {R : Type} {k : Option R} : gd (ix (0 : Int32) 621) k = k := rfl
theorem c0 : (0 : Int32).toNatClampNeg = 0 := rfl
theorem g1 {R : Type} {k : Option R} : gd (ix (1 : Int32) 621) k = k := rfl
theorem c1 : (1 : Int32).toNatClampNeg = 1 := rfl
theorem g2 {R : Type} {k : Option R} : gd (ix (2 : Int32) 621) k = k := rfl
theorem c2 : (2 : Int32).toNatClampNeg = 2 := rfl
theorem g3 {R : Type} {k : Option R} : gd (ix (3 : Int32) 621) k = k := rfl
theorem c3 : (3 : Int32).toNatClampNeg = 3 := rfl
theorem g4 {R : Type} {k : Option R} : gd (ix (4 : Int32) 621) k = k := rfl
theorem c4 : (4 : Int32).toNatClampNeg = 4 := rfl
theorem g5 {R : Type} {k : Option R} : gd (ix (5 : Int32) 621) k = k := rfl
theorem c5 : (5 : Int32).toNatClampNeg = 5 := rfl
theorem g6 {R : Type} {k : Option R} : gd (ix (6 : Int32) 621) k = k := rfl
theorem c6 : (6 : Int32).toNatClampNeg = 6 := rfl
theorem VL.lr {L K : Nat} {lc lm lp lr n : Nat → Int32} (h : VL L K lc lm lp lr n) {p : Nat} (hp : p < K) : n (601 + p) = lr p := h.2.2.2 p hp
theorem rk_ix {k : Nat} (h : k < 20) {R : Type} {r : Option R} : gd (ix ((601 : Int32) + nI k) 621) r = r := by
  show gd (ix (nI 601 + nI k) 621) r = r
  rw [nI_add, gd_ix (by omega) (by omega)]
theorem rk_cl {k : Nat} (h : k < 20) : ((601 : Int32) + nI k).toNatClampNeg = 601 + k := by
  show (nI 601 + nI k).toNatClampNeg = _
  rw [nI_add, nI_clamp (by omega)]
/-- what holds of the parcels of the class: by their count, the day -/
def IP (P dn : Nat) (ar fi la nb pa ro : Nat → Int32) : Prop := P ≤ 24 ∧ dn ≤ 9999 ∧ ∀ p, p < P → (∃ a, 10 ≤ a ∧ a ≤ 9999 ∧ ar p = nI a) ∧ (∃ f, f ≤ dn ∧ fi p = nI f) ∧ (la p = -1 ∨ ∃ d, d ≤ dn ∧ la p = nI d) ∧ (∀ i, P ≤ i → bt (nb p) i = false) ∧ (∀ i, p ≤ i → bt (pa p) i = false) ∧ (∃ r, r < 10 ∧ ro p = nI r) ∧ bt (nb p) p = false ∧ ∀ q, q < P → bt (nb p) q = bt (nb q) p
def IE (E P dn : Nat) (ek eo es ef el : Nat → Int32) : Prop := E ≤ 30 ∧ ∀ k, k < E → (∃ a, a < P ∧ eo k = nI a) ∧ (∃ b, b < P ∧ es k = nI b) ∧ (el k = -1 ∨ ∃ d, d ≤ dn ∧ el k = nI d) ∧ (el k = -1 → ¬ eo k = es k)
def IL (L K : Nat) (lc lm lp lr : Nat → Int32) : Prop := L ≤ 20 ∧ K ≤ L ∧ (∀ k, k < L → (∃ c, c < 10 ∧ lc k = nI c) ∧ ∃ a, 1 ≤ a ∧ a ≤ 9999 ∧ lm k = nI a) ∧ (∀ k, k < K → ∃ r, r < L ∧ lr k = nI r) ∧ ∀ i j, i < K → j < K → lr i = lr j → i = j
def ID (D P dn : Nat) (dp dg de dd : Nat → Int32) : Prop := D ≤ 60 ∧ ∀ k, k < D → (∃ q, q < P ∧ dp k = nI q) ∧ (∃ a, a < 10 ∧ dg k = nI a) ∧ (∃ b, b < 10 ∧ de k = nI b) ∧ ∃ d, d ≤ dn ∧ dd k = nI d
/-- the rows of the class stand by their days -/
def IS (D : Nat) (dd : Nat → Int32) : Prop := ∀ i j, i < j → j < D → dd i ≤ dd j
/-- a parcel's chain: its deeds in the order of the table -/
def chn (dp dg de dd : Nat → Int32) (p : Int32) : Nat → List (Int32 × Int32 × Int32)
  | 0 => []
  | n + 1 => chn dp dg de dd p n ++ (if dp n = p then [(dg n, de n, dd n)] else [])

