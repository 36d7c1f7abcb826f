/-! part 40: numbers, cells of tables, cells of the model's row of numbers -/
theorem nJ_add (a b : Nat) : nI a + nI b = nI (a + b) := (Int32.ofNat_add a b).symm
theorem nI_mul (a b : Nat) : nI a * nI b = nI (a * b) := (Int32.ofNat_mul a b).symm
theorem nI_sub {a b : Nat} (h : b ≤ a) : nI a - nI b = nI (a - b) := (Int32.ofNat_sub a b h).symm
theorem nI_inj {a b : Nat} (ha : a < 2 ^ 31) (hb : b < 2 ^ 31) : nI a = nI b ↔ a = b := by
  constructor
  · intro h
    have h1 := nI_toInt ha
    rw [h, nI_toInt hb] at h1
    omega
  · intro h; rw [h]
theorem nI_le_iff {a b : Nat} (ha : a < 2 ^ 31) (hb : b < 2 ^ 31) : nI a ≤ nI b ↔ a ≤ b := by
  rw [Int32.le_iff_toInt_le, nI_toInt ha, nI_toInt hb]; omega
theorem nI_lt_iff {a b : Nat} (ha : a < 2 ^ 31) (hb : b < 2 ^ 31) : nI a < nI b ↔ a < b := by
  rw [Int32.lt_iff_toInt_lt, nI_toInt ha, nI_toInt hb]; omega
theorem ex_nI {x : Int32} (h : 0 ≤ x.toInt) : ∃ n, n < 2 ^ 31 ∧ x = nI n ∧ x.toInt = n := by
  have h1 := Int32.toInt_lt x
  refine ⟨x.toInt.toNat, by omega, ?_, by omega⟩
  have h2 : (nI x.toInt.toNat).toInt = x.toInt := by rw [nI_toInt (by omega)]; omega
  exact (Int32.toInt_inj.mp h2).symm
theorem nI_mod {m : Nat} (hm : m < 2 ^ 31) : nI m - nI m / 40 * 40 = nI (m % 40) := by
  have h1 : nI m / 40 = nI (m / 40) := (Int32.ofNat_div hm (by decide : 40 < 2 ^ 31)).symm
  rw [h1, show (40 : Int32) = nI 40 from rfl, nI_mul, nI_sub (by omega)]
  congr 1
  omega
theorem nI_mod4 {m : Nat} (hm : m < 2 ^ 31) : nI m - nI m / 4 * 4 = nI (m % 4) := by
  have h1 : nI m / 4 = nI (m / 4) := (Int32.ofNat_div hm (by decide : 4 < 2 ^ 31)).symm
  rw [h1, show (4 : Int32) = nI 4 from rfl, nI_mul, nI_sub (by omega)]
  congr 1
  omega
theorem upd_eq {f : Nat → Int32} {k j : Nat} {x : Int32} (h : j = k) : upd f k x j = x := if_pos h
theorem upd_ne {f : Nat → Int32} {k j : Nat} {x : Int32} (h : j ≠ k) : upd f k x j = f j := if_neg h
theorem upd_self {f : Nat → Int32} {k : Nat} {x : Int32} : upd f k x k = x := if_pos rfl
theorem ob1_some {A B : Type} (a : A) (k : A → Option B) : ob1 (some a) k = k a := rfl
theorem tb1_mk {A B : Type} (a : A) (k : A → B) : tb1 a k = k a := rfl
theorem ob2_some {A1 A2 B : Type} (a1 : A1) (a2 : A2) (k : A1 → A2 → Option B) : ob2 (some (a1, a2)) k = k a1 a2 := rfl
theorem tb2_mk {A1 A2 B : Type} (a1 : A1) (a2 : A2) (k : A1 → A2 → B) : tb2 (a1, a2) k = k a1 a2 := rfl
theorem ob3_some {A1 A2 A3 B : Type} (a1 : A1) (a2 : A2) (a3 : A3) (k : A1 → A2 → A3 → Option B) : ob3 (some (a1, a2, a3)) k = k a1 a2 a3 := rfl
theorem tb3_mk {A1 A2 A3 B : Type} (a1 : A1) (a2 : A2) (a3 : A3) (k : A1 → A2 → A3 → B) : tb3 (a1, a2, a3) k = k a1 a2 a3 := rfl
theorem ob4_some {A1 A2 A3 A4 B : Type} (a1 : A1) (a2 : A2) (a3 : A3) (a4 : A4) (k : A1 → A2 → A3 → A4 → Option B) : ob4 (some (a1, a2, a3, a4)) k = k a1 a2 a3 a4 := rfl
theorem tb4_mk {A1 A2 A3 A4 B : Type} (a1 : A1) (a2 : A2) (a3 : A3) (a4 : A4) (k : A1 → A2 → A3 → A4 → B) : tb4 (a1, a2, a3, a4) k = k a1 a2 a3 a4 := rfl
theorem ob5_some {A1 A2 A3 A4 A5 B : Type} (a1 : A1) (a2 : A2) (a3 : A3) (a4 : A4) (a5 : A5) (k : A1 → A2 → A3 → A4 → A5 → Option B) : ob5 (some (a1, a2, a3, a4, a5)) k = k a1 a2 a3 a4 a5 := rfl
theorem tb5_mk {A1 A2 A3 A4 A5 B : Type} (a1 : A1) (a2 : A2) (a3 : A3) (a4 : A4) (a5 : A5) (k : A1 → A2 → A3 → A4 → A5 → B) : tb5 (a1, a2, a3, a4, a5) k = k a1 a2 a3 a4 a5 := rfl
theorem ob6_some {A1 A2 A3 A4 A5 A6 B : Type} (a1 : A1) (a2 : A2) (a3 : A3) (a4 : A4) (a5 : A5) (a6 : A6) (k : A1 → A2 → A3 → A4 → A5 → A6 → Option B) : ob6 (some (a1, a2, a3, a4, a5, a6)) k = k a1 a2 a3 a4 a5 a6 := rfl
theorem tb6_mk {A1 A2 A3 A4 A5 A6 B : Type} (a1 : A1) (a2 : A2) (a3 : A3) (a4 : A4) (a5 : A5) (a6 : A6) (k : A1 → A2 → A3 → A4 → A5 → A6 → B) : tb6 (a1, a2, a3, a4, a5, a6) k = k a1 a2 a3 a4 a5 a6 := rfl
theorem ob7_some {A1 A2 A3 A4 A5 A6 A7 B : Type} (a1 : A1) (a2 : A2) (a3 : A3) (a4 : A4) (a5 : A5) (a6 : A6) (a7 : A7) (k : A1 → A2 → A3 → A4 → A5 → A6 → A7 → Option B) : ob7 (some (a1, a2, a3, a4, a5, a6, a7)) k = k a1 a2 a3 a4 a5 a6 a7 := rfl
theorem tb7_mk {A1 A2 A3 A4 A5 A6 A7 B : Type} (a1 : A1) (a2 : A2) (a3 : A3) (a4 : A4) (a5 : A5) (a6 : A6) (a7 : A7) (k : A1 → A2 → A3 → A4 → A5 → A6 → A7 → B) : tb7 (a1, a2, a3, a4, a5, a6, a7) k = k a1 a2 a3 a4 a5 a6 a7 := rfl
theorem ob8_some {A1 A2 A3 A4 A5 A6 A7 A8 B : Type} (a1 : A1) (a2 : A2) (a3 : A3) (a4 : A4) (a5 : A5) (a6 : A6) (a7 : A7) (a8 : A8) (k : A1 → A2 → A3 → A4 → A5 → A6 → A7 → A8 → Option B) : ob8 (some (a1, a2, a3, a4, a5, a6, a7, a8)) k = k a1 a2 a3 a4 a5 a6 a7 a8 := rfl
theorem tb8_mk {A1 A2 A3 A4 A5 A6 A7 A8 B : Type} (a1 : A1) (a2 : A2) (a3 : A3) (a4 : A4) (a5 : A5) (a6 : A6) (a7 : A7) (a8 : A8) (k : A1 → A2 → A3 → A4 → A5 → A6 → A7 → A8 → B) : tb8 (a1, a2, a3, a4, a5, a6, a7, a8) k = k a1 a2 a3 a4 a5 a6 a7 a8 := rfl
theorem ob9_some {A1 A2 A3 A4 A5 A6 A7 A8 A9 B : Type} (a1 : A1) (a2 : A2) (a3 : A3) (a4 : A4) (a5 : A5) (a6 : A6) (a7 : A7) (a8 : A8) (a9 : A9) (k : A1 → A2 → A3 → A4 → A5 → A6 → A7 → A8 → A9 → Option B) : ob9 (some (a1, a2, a3, a4, a5, a6, a7, a8, a9)) k = k a1 a2 a3 a4 a5 a6 a7 a8 a9 := rfl
theorem tb9_mk {A1 A2 A3 A4 A5 A6 A7 A8 A9 B : Type} (a1 : A1) (a2 : A2) (a3 : A3) (a4 : A4) (a5 : A5) (a6 : A6) (a7 : A7) (a8 : A8) (a9 : A9) (k : A1 → A2 → A3 → A4 → A5 → A6 → A7 → A8 → A9 → B) : tb9 (a1, a2, a3, a4, a5, a6, a7, a8, a9) k = k a1 a2 a3 a4 a5 a6 a7 a8 a9 := rfl
theorem ob10_some {A1 A2 A3 A4 A5 A6 A7 A8 A9 A10 B : Type} (a1 : A1) (a2 : A2) (a3 : A3) (a4 : A4) (a5 : A5) (a6 : A6) (a7 : A7) (a8 : A8) (a9 : A9) (a10 : A10) (k : A1 → A2 → A3 → A4 → A5 → A6 → A7 → A8 → A9 → A10 → Option B) : ob10 (some (a1, a2, a3, a4, a5, a6, a7, a8, a9, a10)) k = k a1 a2 a3 a4 a5 a6 a7 a8 a9 a10 := rfl
theorem tb10_mk {A1 A2 A3 A4 A5 A6 A7 A8 A9 A10 B : Type} (a1 : A1) (a2 : A2) (a3 : A3) (a4 : A4) (a5 : A5) (a6 : A6) (a7 : A7) (a8 : A8) (a9 : A9) (a10 : A10) (k : A1 → A2 → A3 → A4 → A5 → A6 → A7 → A8 → A9 → A10 → B) : tb10 (a1, a2, a3, a4, a5, a6, a7, a8, a9, a10) k = k a1 a2 a3 a4 a5 a6 a7 a8 a9 a10 := rfl
theorem ob11_some {A1 A2 A3 A4 A5 A6 A7 A8 A9 A10 A11 B : Type} (a1 : A1) (a2 : A2) (a3 : A3) (a4 : A4) (a5 : A5) (a6 : A6) (a7 : A7) (a8 : A8) (a9 : A9) (a10 : A10) (a11 : A11) (k : A1 → A2 → A3 → A4 → A5 → A6 → A7 → A8 → A9 → A10 → A11 → Option B) : ob11 (some (a1, a2, a3, a4, a5, a6, a7, a8, a9, a10, a11)) k = k a1 a2 a3 a4 a5 a6 a7 a8 a9 a10 a11 := rfl
theorem tb11_mk {A1 A2 A3 A4 A5 A6 A7 A8 A9 A10 A11 B : Type} (a1 : A1) (a2 : A2) (a3 : A3) (a4 : A4) (a5 : A5) (a6 : A6) (a7 : A7) (a8 : A8) (a9 : A9) (a10 : A10) (a11 : A11) (k : A1 → A2 → A3 → A4 → A5 → A6 → A7 → A8 → A9 → A10 → A11 → B) : tb11 (a1, a2, a3, a4, a5, a6, a7, a8, a9, a10, a11) k = k a1 a2 a3 a4 a5 a6 a7 a8 a9 a10 a11 := rfl
theorem ob12_some {A1 A2 A3 A4 A5 A6 A7 A8 A9 A10 A11 A12 B : Type} (a1 : A1) (a2 : A2) (a3 : A3) (a4 : A4) (a5 : A5) (a6 : A6) (a7 : A7) (a8 : A8) (a9 : A9) (a10 : A10) (a11 : A11) (a12 : A12) (k : A1 → A2 → A3 → A4 → A5 → A6 → A7 → A8 → A9 → A10 → A11 → A12 → Option B) : ob12 (some (a1, a2, a3, a4, a5, a6, a7, a8, a9, a10, a11, a12)) k = k a1 a2 a3 a4 a5 a6 a7 a8 a9 a10 a11 a12 := rfl
theorem tb12_mk {A1 A2 A3 A4 A5 A6 A7 A8 A9 A10 A11 A12 B : Type} (a1 : A1) (a2 : A2) (a3 : A3) (a4 : A4) (a5 : A5) (a6 : A6) (a7 : A7) (a8 : A8) (a9 : A9) (a10 : A10) (a11 : A11) (a12 : A12) (k : A1 → A2 → A3 → A4 → A5 → A6 → A7 → A8 → A9 → A10 → A11 → A12 → B) : tb12 (a1, a2, a3, a4, a5, a6, a7, a8, a9, a10, a11, a12) k = k a1 a2 a3 a4 a5 a6 a7 a8 a9 a10 a11 a12 := rfl
theorem g_rd {n : Nat} (f : Nat → Int32) {x : Int32} {i : Nat} (hx : x = nI i) (h : i < n) (hn : n < 2 ^ 31) : rd n f x = some (f i) := by
  subst hx
  unfold rd
  rw [if_neg (nI_in h hn), nI_clamp (by omega)]
theorem g_wr {n : Nat} (f : Nat → Int32) {x : Int32} {i : Nat} (v : Int32) (hx : x = nI i) (h : i < n) (hn : n < 2 ^ 31) : wr n f x v = some (upd f i v) := by
  subst hx
  unfold wr
  rw [if_neg (nI_in h hn), nI_clamp (by omega)]
theorem g_get {n : Nat} (f : Nat → Int32) {p c cols : Int32} {i : Nat} (hi : p * cols + c = nI i) (h : i < n) (hn : n < 2 ^ 31) : d_X4_get n p c f cols = some (f i) := by
  unfold d_X4_get
  rw [hi, if_neg (nI_pos (by omega)), if_neg (nI_ge h hn), g_rd f rfl h hn]
  rfl
theorem g_put {n : Nat} (f : Nat → Int32) {p c cols : Int32} {i : Nat} (v : Int32) (hi : p * cols + c = nI i) (h : i < n) (hn : n < 2 ^ 31) : d_X4_put n p c v f cols = some (upd f i v) := by
  unfold d_X4_put
  rw [hi, if_neg (nI_pos (by omega)), if_neg (nI_ge h hn), g_wr f v rfl h hn]
  rfl
theorem g_inc {n : Nat} (f : Nat → Int32) {p c cols : Int32} {i : Nat} (v : Int32) (hi : p * cols + c = nI i) (h : i < n) (hn : n < 2 ^ 31) : d_X4_increase n p c v f cols = some (upd f i (f i + v)) := by
  unfold d_X4_increase
  rw [hi, if_neg (nI_pos (by omega)), if_neg (nI_ge h hn), g_rd f rfl h hn]
  show ob1 (wr n f (nI i) (f i + v)) _ = _
  rw [g_wr f (f i + v) rfl h hn]
  rfl
theorem g_ix (p c cols : Nat) : nI p * nI cols + nI c = nI (cols * p + c) := by
  rw [nI_mul, nJ_add]; congr 1; rw [Nat.mul_comm]
theorem getT0 {f : Nat → Int32} {p : Nat} (h : p < 8) : d_X4_get 16 (nI p) 0 f 2 = some (f (2 * p)) := g_get f (g_ix p 0 2) (by omega) (by omega)
theorem putT0 {f : Nat → Int32} {p : Nat} {v : Int32} (h : p < 8) : d_X4_put 16 (nI p) 0 v f 2 = some (upd f (2 * p) v) := g_put f v (g_ix p 0 2) (by omega) (by omega)
theorem incT0 {f : Nat → Int32} {p : Nat} {v : Int32} (h : p < 8) : d_X4_increase 16 (nI p) 0 v f 2 = some (upd f (2 * p) (f (2 * p) + v)) := g_inc f v (g_ix p 0 2) (by omega) (by omega)
theorem getT1 {f : Nat → Int32} {p : Nat} (h : p < 8) : d_X4_get 16 (nI p) 1 f 2 = some (f (2 * p + 1)) := g_get f (g_ix p 1 2) (by omega) (by omega)
theorem putT1 {f : Nat → Int32} {p : Nat} {v : Int32} (h : p < 8) : d_X4_put 16 (nI p) 1 v f 2 = some (upd f (2 * p + 1) v) := g_put f v (g_ix p 1 2) (by omega) (by omega)
theorem incT1 {f : Nat → Int32} {p : Nat} {v : Int32} (h : p < 8) : d_X4_increase 16 (nI p) 1 v f 2 = some (upd f (2 * p + 1) (f (2 * p + 1) + v)) := g_inc f v (g_ix p 1 2) (by omega) (by omega)
theorem getT {f : Nat → Int32} {p c : Nat} (h : p < 8) (hc : c < 2) : d_X4_get 16 (nI p) (nI c) f 2 = some (f (2 * p + c)) := g_get f (g_ix p c 2) (by omega) (by omega)
theorem getR0 {f : Nat → Int32} {p : Nat} (h : p < 20) : d_X4_get 80 (nI p) 0 f 4 = some (f (4 * p)) := g_get f (g_ix p 0 4) (by omega) (by omega)
theorem putR0 {f : Nat → Int32} {p : Nat} {v : Int32} (h : p < 20) : d_X4_put 80 (nI p) 0 v f 4 = some (upd f (4 * p) v) := g_put f v (g_ix p 0 4) (by omega) (by omega)
theorem incR0 {f : Nat → Int32} {p : Nat} {v : Int32} (h : p < 20) : d_X4_increase 80 (nI p) 0 v f 4 = some (upd f (4 * p) (f (4 * p) + v)) := g_inc f v (g_ix p 0 4) (by omega) (by omega)
theorem getR1 {f : Nat → Int32} {p : Nat} (h : p < 20) : d_X4_get 80 (nI p) 1 f 4 = some (f (4 * p + 1)) := g_get f (g_ix p 1 4) (by omega) (by omega)
theorem putR1 {f : Nat → Int32} {p : Nat} {v : Int32} (h : p < 20) : d_X4_put 80 (nI p) 1 v f 4 = some (upd f (4 * p + 1) v) := g_put f v (g_ix p 1 4) (by omega) (by omega)
theorem incR1 {f : Nat → Int32} {p : Nat} {v : Int32} (h : p < 20) : d_X4_increase 80 (nI p) 1 v f 4 = some (upd f (4 * p + 1) (f (4 * p + 1) + v)) := g_inc f v (g_ix p 1 4) (by omega) (by omega)
theorem getR2 {f : Nat → Int32} {p : Nat} (h : p < 20) : d_X4_get 80 (nI p) 2 f 4 = some (f (4 * p + 2)) := g_get f (g_ix p 2 4) (by omega) (by omega)
theorem putR2 {f : Nat → Int32} {p : Nat} {v : Int32} (h : p < 20) : d_X4_put 80 (nI p) 2 v f 4 = some (upd f (4 * p + 2) v) := g_put f v (g_ix p 2 4) (by omega) (by omega)
theorem incR2 {f : Nat → Int32} {p : Nat} {v : Int32} (h : p < 20) : d_X4_increase 80 (nI p) 2 v f 4 = some (upd f (4 * p + 2) (f (4 * p + 2) + v)) := g_inc f v (g_ix p 2 4) (by omega) (by omega)
theorem getR3 {f : Nat → Int32} {p : Nat} (h : p < 20) : d_X4_get 80 (nI p) 3 f 4 = some (f (4 * p + 3)) := g_get f (g_ix p 3 4) (by omega) (by omega)
theorem putR3 {f : Nat → Int32} {p : Nat} {v : Int32} (h : p < 20) : d_X4_put 80 (nI p) 3 v f 4 = some (upd f (4 * p + 3) v) := g_put f v (g_ix p 3 4) (by omega) (by omega)
theorem incR3 {f : Nat → Int32} {p : Nat} {v : Int32} (h : p < 20) : d_X4_increase 80 (nI p) 3 v f 4 = some (upd f (4 * p + 3) (f (4 * p + 3) + v)) := g_inc f v (g_ix p 3 4) (by omega) (by omega)
theorem getR {f : Nat → Int32} {p c : Nat} (h : p < 20) (hc : c < 4) : d_X4_get 80 (nI p) (nI c) f 4 = some (f (4 * p + c)) := g_get f (g_ix p c 4) (by omega) (by omega)
theorem getA0 {f : Nat → Int32} {p : Nat} (h : p < 40) : d_X4_get 320 (nI p) 0 f 8 = some (f (8 * p)) := g_get f (g_ix p 0 8) (by omega) (by omega)
theorem putA0 {f : Nat → Int32} {p : Nat} {v : Int32} (h : p < 40) : d_X4_put 320 (nI p) 0 v f 8 = some (upd f (8 * p) v) := g_put f v (g_ix p 0 8) (by omega) (by omega)
theorem incA0 {f : Nat → Int32} {p : Nat} {v : Int32} (h : p < 40) : d_X4_increase 320 (nI p) 0 v f 8 = some (upd f (8 * p) (f (8 * p) + v)) := g_inc f v (g_ix p 0 8) (by omega) (by omega)
theorem getA1 {f : Nat → Int32} {p : Nat} (h : p < 40) : d_X4_get 320 (nI p) 1 f 8 = some (f (8 * p + 1)) := g_get f (g_ix p 1 8) (by omega) (by omega)
theorem putA1 {f : Nat → Int32} {p : Nat} {v : Int32} (h : p < 40) : d_X4_put 320 (nI p) 1 v f 8 = some (upd f (8 * p + 1) v) := g_put f v (g_ix p 1 8) (by omega) (by omega)
theorem incA1 {f : Nat → Int32} {p : Nat} {v : Int32} (h : p < 40) : d_X4_increase 320 (nI p) 1 v f 8 = some (upd f (8 * p + 1) (f (8 * p + 1) + v)) := g_inc f v (g_ix p 1 8) (by omega) (by omega)
theorem getA2 {f : Nat → Int32} {p : Nat} (h : p < 40) : d_X4_get 320 (nI p) 2 f 8 = some (f (8 * p + 2)) := g_get f (g_ix p 2 8) (by omega) (by omega)
theorem putA2 {f : Nat → Int32} {p : Nat} {v : Int32} (h : p < 40) : d_X4_put 320 (nI p) 2 v f 8 = some (upd f (8 * p + 2) v) := g_put f v (g_ix p 2 8) (by omega) (by omega)
theorem incA2 {f : Nat → Int32} {p : Nat} {v : Int32} (h : p < 40) : d_X4_increase 320 (nI p) 2 v f 8 = some (upd f (8 * p + 2) (f (8 * p + 2) + v)) := g_inc f v (g_ix p 2 8) (by omega) (by omega)
theorem getA3 {f : Nat → Int32} {p : Nat} (h : p < 40) : d_X4_get 320 (nI p) 3 f 8 = some (f (8 * p + 3)) := g_get f (g_ix p 3 8) (by omega) (by omega)
theorem putA3 {f : Nat → Int32} {p : Nat} {v : Int32} (h : p < 40) : d_X4_put 320 (nI p) 3 v f 8 = some (upd f (8 * p + 3) v) := g_put f v (g_ix p 3 8) (by omega) (by omega)
theorem incA3 {f : Nat → Int32} {p : Nat} {v : Int32} (h : p < 40) : d_X4_increase 320 (nI p) 3 v f 8 = some (upd f (8 * p + 3) (f (8 * p + 3) + v)) := g_inc f v (g_ix p 3 8) (by omega) (by omega)
theorem getA4 {f : Nat → Int32} {p : Nat} (h : p < 40) : d_X4_get 320 (nI p) 4 f 8 = some (f (8 * p + 4)) := g_get f (g_ix p 4 8) (by omega) (by omega)
theorem putA4 {f : Nat → Int32} {p : Nat} {v : Int32} (h : p < 40) : d_X4_put 320 (nI p) 4 v f 8 = some (upd f (8 * p + 4) v) := g_put f v (g_ix p 4 8) (by omega) (by omega)
theorem incA4 {f : Nat → Int32} {p : Nat} {v : Int32} (h : p < 40) : d_X4_increase 320 (nI p) 4 v f 8 = some (upd f (8 * p + 4) (f (8 * p + 4) + v)) := g_inc f v (g_ix p 4 8) (by omega) (by omega)
theorem getA5 {f : Nat → Int32} {p : Nat} (h : p < 40) : d_X4_get 320 (nI p) 5 f 8 = some (f (8 * p + 5)) := g_get f (g_ix p 5 8) (by omega) (by omega)
theorem putA5 {f : Nat → Int32} {p : Nat} {v : Int32} (h : p < 40) : d_X4_put 320 (nI p) 5 v f 8 = some (upd f (8 * p + 5) v) := g_put f v (g_ix p 5 8) (by omega) (by omega)
theorem incA5 {f : Nat → Int32} {p : Nat} {v : Int32} (h : p < 40) : d_X4_increase 320 (nI p) 5 v f 8 = some (upd f (8 * p + 5) (f (8 * p + 5) + v)) := g_inc f v (g_ix p 5 8) (by omega) (by omega)
theorem getA6 {f : Nat → Int32} {p : Nat} (h : p < 40) : d_X4_get 320 (nI p) 6 f 8 = some (f (8 * p + 6)) := g_get f (g_ix p 6 8) (by omega) (by omega)
theorem putA6 {f : Nat → Int32} {p : Nat} {v : Int32} (h : p < 40) : d_X4_put 320 (nI p) 6 v f 8 = some (upd f (8 * p + 6) v) := g_put f v (g_ix p 6 8) (by omega) (by omega)
theorem incA6 {f : Nat → Int32} {p : Nat} {v : Int32} (h : p < 40) : d_X4_increase 320 (nI p) 6 v f 8 = some (upd f (8 * p + 6) (f (8 * p + 6) + v)) := g_inc f v (g_ix p 6 8) (by omega) (by omega)
theorem getA7 {f : Nat → Int32} {p : Nat} (h : p < 40) : d_X4_get 320 (nI p) 7 f 8 = some (f (8 * p + 7)) := g_get f (g_ix p 7 8) (by omega) (by omega)
theorem putA7 {f : Nat → Int32} {p : Nat} {v : Int32} (h : p < 40) : d_X4_put 320 (nI p) 7 v f 8 = some (upd f (8 * p + 7) v) := g_put f v (g_ix p 7 8) (by omega) (by omega)
theorem incA7 {f : Nat → Int32} {p : Nat} {v : Int32} (h : p < 40) : d_X4_increase 320 (nI p) 7 v f 8 = some (upd f (8 * p + 7) (f (8 * p + 7) + v)) := g_inc f v (g_ix p 7 8) (by omega) (by omega)
theorem getA {f : Nat → Int32} {p c : Nat} (h : p < 40) (hc : c < 8) : d_X4_get 320 (nI p) (nI c) f 8 = some (f (8 * p + c)) := g_get f (g_ix p c 8) (by omega) (by omega)
theorem getG0 {f : Nat → Int32} {p : Nat} (h : p < 30) : d_X4_get 150 (nI p) 0 f 5 = some (f (5 * p)) := g_get f (g_ix p 0 5) (by omega) (by omega)
theorem putG0 {f : Nat → Int32} {p : Nat} {v : Int32} (h : p < 30) : d_X4_put 150 (nI p) 0 v f 5 = some (upd f (5 * p) v) := g_put f v (g_ix p 0 5) (by omega) (by omega)
theorem incG0 {f : Nat → Int32} {p : Nat} {v : Int32} (h : p < 30) : d_X4_increase 150 (nI p) 0 v f 5 = some (upd f (5 * p) (f (5 * p) + v)) := g_inc f v (g_ix p 0 5) (by omega) (by omega)
theorem getG1 {f : Nat → Int32} {p : Nat} (h : p < 30) : d_X4_get 150 (nI p) 1 f 5 = some (f (5 * p + 1)) := g_get f (g_ix p 1 5) (by omega) (by omega)
theorem putG1 {f : Nat → Int32} {p : Nat} {v : Int32} (h : p < 30) : d_X4_put 150 (nI p) 1 v f 5 = some (upd f (5 * p + 1) v) := g_put f v (g_ix p 1 5) (by omega) (by omega)
theorem incG1 {f : Nat → Int32} {p : Nat} {v : Int32} (h : p < 30) : d_X4_increase 150 (nI p) 1 v f 5 = some (upd f (5 * p + 1) (f (5 * p + 1) + v)) := g_inc f v (g_ix p 1 5) (by omega) (by omega)
theorem getG2 {f : Nat → Int32} {p : Nat} (h : p < 30) : d_X4_get 150 (nI p) 2 f 5 = some (f (5 * p + 2)) := g_get f (g_ix p 2 5) (by omega) (by omega)
theorem putG2 {f : Nat → Int32} {p : Nat} {v : Int32} (h : p < 30) : d_X4_put 150 (nI p) 2 v f 5 = some (upd f (5 * p + 2) v) := g_put f v (g_ix p 2 5) (by omega) (by omega)
theorem incG2 {f : Nat → Int32} {p : Nat} {v : Int32} (h : p < 30) : d_X4_increase 150 (nI p) 2 v f 5 = some (upd f (5 * p + 2) (f (5 * p + 2) + v)) := g_inc f v (g_ix p 2 5) (by omega) (by omega)
theorem getG3 {f : Nat → Int32} {p : Nat} (h : p < 30) : d_X4_get 150 (nI p) 3 f 5 = some (f (5 * p + 3)) := g_get f (g_ix p 3 5) (by omega) (by omega)
theorem putG3 {f : Nat → Int32} {p : Nat} {v : Int32} (h : p < 30) : d_X4_put 150 (nI p) 3 v f 5 = some (upd f (5 * p + 3) v) := g_put f v (g_ix p 3 5) (by omega) (by omega)
theorem incG3 {f : Nat → Int32} {p : Nat} {v : Int32} (h : p < 30) : d_X4_increase 150 (nI p) 3 v f 5 = some (upd f (5 * p + 3) (f (5 * p + 3) + v)) := g_inc f v (g_ix p 3 5) (by omega) (by omega)
theorem getG4 {f : Nat → Int32} {p : Nat} (h : p < 30) : d_X4_get 150 (nI p) 4 f 5 = some (f (5 * p + 4)) := g_get f (g_ix p 4 5) (by omega) (by omega)
theorem putG4 {f : Nat → Int32} {p : Nat} {v : Int32} (h : p < 30) : d_X4_put 150 (nI p) 4 v f 5 = some (upd f (5 * p + 4) v) := g_put f v (g_ix p 4 5) (by omega) (by omega)
theorem incG4 {f : Nat → Int32} {p : Nat} {v : Int32} (h : p < 30) : d_X4_increase 150 (nI p) 4 v f 5 = some (upd f (5 * p + 4) (f (5 * p + 4) + v)) := g_inc f v (g_ix p 4 5) (by omega) (by omega)
theorem getG {f : Nat → Int32} {p c : Nat} (h : p < 30) (hc : c < 5) : d_X4_get 150 (nI p) (nI c) f 5 = some (f (5 * p + c)) := g_get f (g_ix p c 5) (by omega) (by omega)
theorem getS0 {f : Nat → Int32} {p : Nat} (h : p < 2) : d_X4_get 4 (nI p) 0 f 2 = some (f (2 * p)) := g_get f (g_ix p 0 2) (by omega) (by omega)
theorem putS0 {f : Nat → Int32} {p : Nat} {v : Int32} (h : p < 2) : d_X4_put 4 (nI p) 0 v f 2 = some (upd f (2 * p) v) := g_put f v (g_ix p 0 2) (by omega) (by omega)
theorem incS0 {f : Nat → Int32} {p : Nat} {v : Int32} (h : p < 2) : d_X4_increase 4 (nI p) 0 v f 2 = some (upd f (2 * p) (f (2 * p) + v)) := g_inc f v (g_ix p 0 2) (by omega) (by omega)
theorem getS1 {f : Nat → Int32} {p : Nat} (h : p < 2) : d_X4_get 4 (nI p) 1 f 2 = some (f (2 * p + 1)) := g_get f (g_ix p 1 2) (by omega) (by omega)
theorem putS1 {f : Nat → Int32} {p : Nat} {v : Int32} (h : p < 2) : d_X4_put 4 (nI p) 1 v f 2 = some (upd f (2 * p + 1) v) := g_put f v (g_ix p 1 2) (by omega) (by omega)
theorem incS1 {f : Nat → Int32} {p : Nat} {v : Int32} (h : p < 2) : d_X4_increase 4 (nI p) 1 v f 2 = some (upd f (2 * p + 1) (f (2 * p + 1) + v)) := g_inc f v (g_ix p 1 2) (by omega) (by omega)
theorem getS {f : Nat → Int32} {p c : Nat} (h : p < 2) (hc : c < 2) : d_X4_get 4 (nI p) (nI c) f 2 = some (f (2 * p + c)) := g_get f (g_ix p c 2) (by omega) (by omega)
theorem getE0 {f : Nat → Int32} {p : Nat} (h : p < 4) : d_X4_get 12 (nI p) 0 f 3 = some (f (3 * p)) := g_get f (g_ix p 0 3) (by omega) (by omega)
theorem putE0 {f : Nat → Int32} {p : Nat} {v : Int32} (h : p < 4) : d_X4_put 12 (nI p) 0 v f 3 = some (upd f (3 * p) v) := g_put f v (g_ix p 0 3) (by omega) (by omega)
theorem incE0 {f : Nat → Int32} {p : Nat} {v : Int32} (h : p < 4) : d_X4_increase 12 (nI p) 0 v f 3 = some (upd f (3 * p) (f (3 * p) + v)) := g_inc f v (g_ix p 0 3) (by omega) (by omega)
theorem getE1 {f : Nat → Int32} {p : Nat} (h : p < 4) : d_X4_get 12 (nI p) 1 f 3 = some (f (3 * p + 1)) := g_get f (g_ix p 1 3) (by omega) (by omega)
theorem putE1 {f : Nat → Int32} {p : Nat} {v : Int32} (h : p < 4) : d_X4_put 12 (nI p) 1 v f 3 = some (upd f (3 * p + 1) v) := g_put f v (g_ix p 1 3) (by omega) (by omega)
theorem incE1 {f : Nat → Int32} {p : Nat} {v : Int32} (h : p < 4) : d_X4_increase 12 (nI p) 1 v f 3 = some (upd f (3 * p + 1) (f (3 * p + 1) + v)) := g_inc f v (g_ix p 1 3) (by omega) (by omega)
theorem getE2 {f : Nat → Int32} {p : Nat} (h : p < 4) : d_X4_get 12 (nI p) 2 f 3 = some (f (3 * p + 2)) := g_get f (g_ix p 2 3) (by omega) (by omega)
theorem putE2 {f : Nat → Int32} {p : Nat} {v : Int32} (h : p < 4) : d_X4_put 12 (nI p) 2 v f 3 = some (upd f (3 * p + 2) v) := g_put f v (g_ix p 2 3) (by omega) (by omega)
theorem incE2 {f : Nat → Int32} {p : Nat} {v : Int32} (h : p < 4) : d_X4_increase 12 (nI p) 2 v f 3 = some (upd f (3 * p + 2) (f (3 * p + 2) + v)) := g_inc f v (g_ix p 2 3) (by omega) (by omega)
theorem getE {f : Nat → Int32} {p c : Nat} (h : p < 4) (hc : c < 3) : d_X4_get 12 (nI p) (nI c) f 3 = some (f (3 * p + c)) := g_get f (g_ix p c 3) (by omega) (by omega)
theorem getS_00 {f : Nat → Int32} : d_X4_get 4 0 0 f 2 = some (f 0) := g_get f (g_ix 0 0 2) (by decide) (by decide)
theorem putS_00 {f : Nat → Int32} {v : Int32} : d_X4_put 4 0 0 v f 2 = some (upd f 0 v) := g_put f v (g_ix 0 0 2) (by decide) (by decide)
theorem incS_00 {f : Nat → Int32} {v : Int32} : d_X4_increase 4 0 0 v f 2 = some (upd f 0 (f 0 + v)) := g_inc f v (g_ix 0 0 2) (by decide) (by decide)
theorem getS_01 {f : Nat → Int32} : d_X4_get 4 0 1 f 2 = some (f 1) := g_get f (g_ix 0 1 2) (by decide) (by decide)
theorem putS_01 {f : Nat → Int32} {v : Int32} : d_X4_put 4 0 1 v f 2 = some (upd f 1 v) := g_put f v (g_ix 0 1 2) (by decide) (by decide)
theorem incS_01 {f : Nat → Int32} {v : Int32} : d_X4_increase 4 0 1 v f 2 = some (upd f 1 (f 1 + v)) := g_inc f v (g_ix 0 1 2) (by decide) (by decide)
theorem getS_10 {f : Nat → Int32} : d_X4_get 4 1 0 f 2 = some (f 2) := g_get f (g_ix 1 0 2) (by decide) (by decide)
theorem putS_10 {f : Nat → Int32} {v : Int32} : d_X4_put 4 1 0 v f 2 = some (upd f 2 v) := g_put f v (g_ix 1 0 2) (by decide) (by decide)
theorem incS_10 {f : Nat → Int32} {v : Int32} : d_X4_increase 4 1 0 v f 2 = some (upd f 2 (f 2 + v)) := g_inc f v (g_ix 1 0 2) (by decide) (by decide)
theorem getS_11 {f : Nat → Int32} : d_X4_get 4 1 1 f 2 = some (f 3) := g_get f (g_ix 1 1 2) (by decide) (by decide)
theorem putS_11 {f : Nat → Int32} {v : Int32} : d_X4_put 4 1 1 v f 2 = some (upd f 3 v) := g_put f v (g_ix 1 1 2) (by decide) (by decide)
theorem incS_11 {f : Nat → Int32} {v : Int32} : d_X4_increase 4 1 1 v f 2 = some (upd f 3 (f 3 + v)) := g_inc f v (g_ix 1 1 2) (by decide) (by decide)
theorem getE_00 {f : Nat → Int32} : d_X4_get 12 0 0 f 3 = some (f 0) := g_get f (g_ix 0 0 3) (by decide) (by decide)
theorem getE_01 {f : Nat → Int32} : d_X4_get 12 0 1 f 3 = some (f 1) := g_get f (g_ix 0 1 3) (by decide) (by decide)
theorem getE_02 {f : Nat → Int32} : d_X4_get 12 0 2 f 3 = some (f 2) := g_get f (g_ix 0 2 3) (by decide) (by decide)
theorem getE_10 {f : Nat → Int32} : d_X4_get 12 1 0 f 3 = some (f 3) := g_get f (g_ix 1 0 3) (by decide) (by decide)
theorem getE_11 {f : Nat → Int32} : d_X4_get 12 1 1 f 3 = some (f 4) := g_get f (g_ix 1 1 3) (by decide) (by decide)
theorem getE_12 {f : Nat → Int32} : d_X4_get 12 1 2 f 3 = some (f 5) := g_get f (g_ix 1 2 3) (by decide) (by decide)
theorem getE_20 {f : Nat → Int32} : d_X4_get 12 2 0 f 3 = some (f 6) := g_get f (g_ix 2 0 3) (by decide) (by decide)
theorem getE_21 {f : Nat → Int32} : d_X4_get 12 2 1 f 3 = some (f 7) := g_get f (g_ix 2 1 3) (by decide) (by decide)
theorem getE_22 {f : Nat → Int32} : d_X4_get 12 2 2 f 3 = some (f 8) := g_get f (g_ix 2 2 3) (by decide) (by decide)
theorem getE_30 {f : Nat → Int32} : d_X4_get 12 3 0 f 3 = some (f 9) := g_get f (g_ix 3 0 3) (by decide) (by decide)
theorem getE_31 {f : Nat → Int32} : d_X4_get 12 3 1 f 3 = some (f 10) := g_get f (g_ix 3 1 3) (by decide) (by decide)
theorem getE_32 {f : Nat → Int32} : d_X4_get 12 3 2 f 3 = some (f 11) := g_get f (g_ix 3 2 3) (by decide) (by decide)
theorem mixR (r c : Nat) : d_X6_ofR (nI r) (nI c) = nI (16 + (5 * r + c)) := by
  show nI 16 + nI 5 * nI r + nI c = _
  rw [nI_mul, nJ_add, nJ_add, Nat.add_assoc]
theorem mixA (a c : Nat) : d_X6_ofA (nI a) (nI c) = nI (116 + (8 * a + c)) := by
  show nI 116 + nI 8 * nI a + nI c = _
  rw [nI_mul, nJ_add, nJ_add, Nat.add_assoc]
theorem rdR0 {s : Nat → Int32} {p : Nat} (h : p < 20) : rd 490 s (d_X6_ofR (nI p) 0) = some (s (16 + 5 * p)) := g_rd s (mixR p 0) (by omega) (by omega)
theorem wrR0 {s : Nat → Int32} {p : Nat} {v : Int32} (h : p < 20) : wr 490 s (d_X6_ofR (nI p) 0) v = some (upd s (16 + 5 * p) v) := g_wr s v (mixR p 0) (by omega) (by omega)
theorem rdR1 {s : Nat → Int32} {p : Nat} (h : p < 20) : rd 490 s (d_X6_ofR (nI p) 1) = some (s (16 + (5 * p + 1))) := g_rd s (mixR p 1) (by omega) (by omega)
theorem wrR1 {s : Nat → Int32} {p : Nat} {v : Int32} (h : p < 20) : wr 490 s (d_X6_ofR (nI p) 1) v = some (upd s (16 + (5 * p + 1)) v) := g_wr s v (mixR p 1) (by omega) (by omega)
theorem rdR2 {s : Nat → Int32} {p : Nat} (h : p < 20) : rd 490 s (d_X6_ofR (nI p) 2) = some (s (16 + (5 * p + 2))) := g_rd s (mixR p 2) (by omega) (by omega)
theorem wrR2 {s : Nat → Int32} {p : Nat} {v : Int32} (h : p < 20) : wr 490 s (d_X6_ofR (nI p) 2) v = some (upd s (16 + (5 * p + 2)) v) := g_wr s v (mixR p 2) (by omega) (by omega)
theorem rdR3 {s : Nat → Int32} {p : Nat} (h : p < 20) : rd 490 s (d_X6_ofR (nI p) 3) = some (s (16 + (5 * p + 3))) := g_rd s (mixR p 3) (by omega) (by omega)
theorem wrR3 {s : Nat → Int32} {p : Nat} {v : Int32} (h : p < 20) : wr 490 s (d_X6_ofR (nI p) 3) v = some (upd s (16 + (5 * p + 3)) v) := g_wr s v (mixR p 3) (by omega) (by omega)
theorem rdR4 {s : Nat → Int32} {p : Nat} (h : p < 20) : rd 490 s (d_X6_ofR (nI p) 4) = some (s (16 + (5 * p + 4))) := g_rd s (mixR p 4) (by omega) (by omega)
theorem wrR4 {s : Nat → Int32} {p : Nat} {v : Int32} (h : p < 20) : wr 490 s (d_X6_ofR (nI p) 4) v = some (upd s (16 + (5 * p + 4)) v) := g_wr s v (mixR p 4) (by omega) (by omega)
theorem rdR {s : Nat → Int32} {p c : Nat} (h : p < 20) (hc : c < 5) : rd 490 s (d_X6_ofR (nI p) (nI c)) = some (s (16 + (5 * p + c))) := g_rd s (mixR p c) (by omega) (by omega)
theorem wrR {s : Nat → Int32} {p c : Nat} {v : Int32} (h : p < 20) (hc : c < 5) : wr 490 s (d_X6_ofR (nI p) (nI c)) v = some (upd s (16 + (5 * p + c)) v) := g_wr s v (mixR p c) (by omega) (by omega)
theorem rdA0 {s : Nat → Int32} {p : Nat} (h : p < 40) : rd 490 s (d_X6_ofA (nI p) 0) = some (s (116 + 8 * p)) := g_rd s (mixA p 0) (by omega) (by omega)
theorem wrA0 {s : Nat → Int32} {p : Nat} {v : Int32} (h : p < 40) : wr 490 s (d_X6_ofA (nI p) 0) v = some (upd s (116 + 8 * p) v) := g_wr s v (mixA p 0) (by omega) (by omega)
theorem rdA1 {s : Nat → Int32} {p : Nat} (h : p < 40) : rd 490 s (d_X6_ofA (nI p) 1) = some (s (116 + (8 * p + 1))) := g_rd s (mixA p 1) (by omega) (by omega)
theorem wrA1 {s : Nat → Int32} {p : Nat} {v : Int32} (h : p < 40) : wr 490 s (d_X6_ofA (nI p) 1) v = some (upd s (116 + (8 * p + 1)) v) := g_wr s v (mixA p 1) (by omega) (by omega)
theorem rdA2 {s : Nat → Int32} {p : Nat} (h : p < 40) : rd 490 s (d_X6_ofA (nI p) 2) = some (s (116 + (8 * p + 2))) := g_rd s (mixA p 2) (by omega) (by omega)
theorem wrA2 {s : Nat → Int32} {p : Nat} {v : Int32} (h : p < 40) : wr 490 s (d_X6_ofA (nI p) 2) v = some (upd s (116 + (8 * p + 2)) v) := g_wr s v (mixA p 2) (by omega) (by omega)
theorem rdA3 {s : Nat → Int32} {p : Nat} (h : p < 40) : rd 490 s (d_X6_ofA (nI p) 3) = some (s (116 + (8 * p + 3))) := g_rd s (mixA p 3) (by omega) (by omega)
theorem wrA3 {s : Nat → Int32} {p : Nat} {v : Int32} (h : p < 40) : wr 490 s (d_X6_ofA (nI p) 3) v = some (upd s (116 + (8 * p + 3)) v) := g_wr s v (mixA p 3) (by omega) (by omega)
theorem rdA4 {s : Nat → Int32} {p : Nat} (h : p < 40) : rd 490 s (d_X6_ofA (nI p) 4) = some (s (116 + (8 * p + 4))) := g_rd s (mixA p 4) (by omega) (by omega)
theorem wrA4 {s : Nat → Int32} {p : Nat} {v : Int32} (h : p < 40) : wr 490 s (d_X6_ofA (nI p) 4) v = some (upd s (116 + (8 * p + 4)) v) := g_wr s v (mixA p 4) (by omega) (by omega)
theorem rdA5 {s : Nat → Int32} {p : Nat} (h : p < 40) : rd 490 s (d_X6_ofA (nI p) 5) = some (s (116 + (8 * p + 5))) := g_rd s (mixA p 5) (by omega) (by omega)
theorem wrA5 {s : Nat → Int32} {p : Nat} {v : Int32} (h : p < 40) : wr 490 s (d_X6_ofA (nI p) 5) v = some (upd s (116 + (8 * p + 5)) v) := g_wr s v (mixA p 5) (by omega) (by omega)
theorem rdA6 {s : Nat → Int32} {p : Nat} (h : p < 40) : rd 490 s (d_X6_ofA (nI p) 6) = some (s (116 + (8 * p + 6))) := g_rd s (mixA p 6) (by omega) (by omega)
theorem wrA6 {s : Nat → Int32} {p : Nat} {v : Int32} (h : p < 40) : wr 490 s (d_X6_ofA (nI p) 6) v = some (upd s (116 + (8 * p + 6)) v) := g_wr s v (mixA p 6) (by omega) (by omega)
theorem rdA7 {s : Nat → Int32} {p : Nat} (h : p < 40) : rd 490 s (d_X6_ofA (nI p) 7) = some (s (116 + (8 * p + 7))) := g_rd s (mixA p 7) (by omega) (by omega)
theorem wrA7 {s : Nat → Int32} {p : Nat} {v : Int32} (h : p < 40) : wr 490 s (d_X6_ofA (nI p) 7) v = some (upd s (116 + (8 * p + 7)) v) := g_wr s v (mixA p 7) (by omega) (by omega)
theorem rdA {s : Nat → Int32} {p c : Nat} (h : p < 40) (hc : c < 8) : rd 490 s (d_X6_ofA (nI p) (nI c)) = some (s (116 + (8 * p + c))) := g_rd s (mixA p c) (by omega) (by omega)
theorem wrA {s : Nat → Int32} {p c : Nat} {v : Int32} (h : p < 40) (hc : c < 8) : wr 490 s (d_X6_ofA (nI p) (nI c)) v = some (upd s (116 + (8 * p + c)) v) := g_wr s v (mixA p c) (by omega) (by omega)
theorem rdp0 {s : Nat → Int32} {p : Nat} (h : p < 8) : rd 490 s (0 + nI p) = some (s (p)) := g_rd s (by rw [show (0 : Int32) = nI 0 from rfl, nJ_add, Nat.zero_add]) (by omega) (by omega)
theorem wrp0 {s : Nat → Int32} {p : Nat} {v : Int32} (h : p < 8) : wr 490 s (0 + nI p) v = some (upd s (p) v) := g_wr s v (by rw [show (0 : Int32) = nI 0 from rfl, nJ_add, Nat.zero_add]) (by omega) (by omega)
theorem rdp8 {s : Nat → Int32} {p : Nat} (h : p < 8) : rd 490 s (8 + nI p) = some (s (8 + p)) := g_rd s (nJ_add 8 p) (by omega) (by omega)
theorem wrp8 {s : Nat → Int32} {p : Nat} {v : Int32} (h : p < 8) : wr 490 s (8 + nI p) v = some (upd s (8 + p) v) := g_wr s v (nJ_add 8 p) (by omega) (by omega)
theorem rdp436 {s : Nat → Int32} {p : Nat} (h : p < 40) : rd 490 s (436 + nI p) = some (s (436 + p)) := g_rd s (nJ_add 436 p) (by omega) (by omega)
theorem wrp436 {s : Nat → Int32} {p : Nat} {v : Int32} (h : p < 40) : wr 490 s (436 + nI p) v = some (upd s (436 + p) v) := g_wr s v (nJ_add 436 p) (by omega) (by omega)
theorem rdp477 {s : Nat → Int32} {p : Nat} (h : p < 2) : rd 490 s (477 + nI p) = some (s (477 + p)) := g_rd s (nJ_add 477 p) (by omega) (by omega)
theorem wrp477 {s : Nat → Int32} {p : Nat} {v : Int32} (h : p < 2) : wr 490 s (477 + nI p) v = some (upd s (477 + p) v) := g_wr s v (nJ_add 477 p) (by omega) (by omega)
theorem rdp479 {s : Nat → Int32} {p : Nat} (h : p < 4) : rd 490 s (479 + nI p) = some (s (479 + p)) := g_rd s (nJ_add 479 p) (by omega) (by omega)
theorem wrp479 {s : Nat → Int32} {p : Nat} {v : Int32} (h : p < 4) : wr 490 s (479 + nI p) v = some (upd s (479 + p) v) := g_wr s v (nJ_add 479 p) (by omega) (by omega)
theorem rdp436s {s : Nat → Int32} {p : Nat} (h : p < 40) : rd 490 s ((436 + nI p) + 1) = some (s (436 + (p + 1))) := g_rd s (by show nI 436 + nI p + nI 1 = _; rw [nJ_add, nJ_add, Nat.add_assoc]) (by omega) (by omega)
theorem rd436 {s : Nat → Int32} : rd 490 s 436 = some (s 436) := g_rd s rfl (by decide) (by decide)
theorem wr436 {s : Nat → Int32} {v : Int32} : wr 490 s 436 v = some (upd s 436 v) := g_wr s v rfl (by decide) (by decide)
theorem rd476 {s : Nat → Int32} : rd 490 s 476 = some (s 476) := g_rd s rfl (by decide) (by decide)
theorem wr476 {s : Nat → Int32} {v : Int32} : wr 490 s 476 v = some (upd s 476 v) := g_wr s v rfl (by decide) (by decide)
theorem rd477 {s : Nat → Int32} : rd 490 s 477 = some (s 477) := g_rd s rfl (by decide) (by decide)
theorem wr477 {s : Nat → Int32} {v : Int32} : wr 490 s 477 v = some (upd s 477 v) := g_wr s v rfl (by decide) (by decide)
theorem rd478 {s : Nat → Int32} : rd 490 s 478 = some (s 478) := g_rd s rfl (by decide) (by decide)
theorem wr478 {s : Nat → Int32} {v : Int32} : wr 490 s 478 v = some (upd s 478 v) := g_wr s v rfl (by decide) (by decide)
theorem rd479 {s : Nat → Int32} : rd 490 s 479 = some (s 479) := g_rd s rfl (by decide) (by decide)
theorem wr479 {s : Nat → Int32} {v : Int32} : wr 490 s 479 v = some (upd s 479 v) := g_wr s v rfl (by decide) (by decide)
theorem rd480 {s : Nat → Int32} : rd 490 s 480 = some (s 480) := g_rd s rfl (by decide) (by decide)
theorem wr480 {s : Nat → Int32} {v : Int32} : wr 490 s 480 v = some (upd s 480 v) := g_wr s v rfl (by decide) (by decide)
theorem rd481 {s : Nat → Int32} : rd 490 s 481 = some (s 481) := g_rd s rfl (by decide) (by decide)
theorem wr481 {s : Nat → Int32} {v : Int32} : wr 490 s 481 v = some (upd s 481 v) := g_wr s v rfl (by decide) (by decide)
theorem rd482 {s : Nat → Int32} : rd 490 s 482 = some (s 482) := g_rd s rfl (by decide) (by decide)
theorem wr482 {s : Nat → Int32} {v : Int32} : wr 490 s 482 v = some (upd s 482 v) := g_wr s v rfl (by decide) (by decide)
theorem rd483 {s : Nat → Int32} : rd 490 s 483 = some (s 483) := g_rd s rfl (by decide) (by decide)
theorem wr483 {s : Nat → Int32} {v : Int32} : wr 490 s 483 v = some (upd s 483 v) := g_wr s v rfl (by decide) (by decide)
theorem rd484 {s : Nat → Int32} : rd 490 s 484 = some (s 484) := g_rd s rfl (by decide) (by decide)
theorem wr484 {s : Nat → Int32} {v : Int32} : wr 490 s 484 v = some (upd s 484 v) := g_wr s v rfl (by decide) (by decide)
theorem rd485 {s : Nat → Int32} : rd 490 s 485 = some (s 485) := g_rd s rfl (by decide) (by decide)
theorem wr485 {s : Nat → Int32} {v : Int32} : wr 490 s 485 v = some (upd s 485 v) := g_wr s v rfl (by decide) (by decide)
theorem rd486 {s : Nat → Int32} : rd 490 s 486 = some (s 486) := g_rd s rfl (by decide) (by decide)
theorem wr486 {s : Nat → Int32} {v : Int32} : wr 490 s 486 v = some (upd s 486 v) := g_wr s v rfl (by decide) (by decide)
theorem rd487 {s : Nat → Int32} : rd 490 s 487 = some (s 487) := g_rd s rfl (by decide) (by decide)
theorem wr487 {s : Nat → Int32} {v : Int32} : wr 490 s 487 v = some (upd s 487 v) := g_wr s v rfl (by decide) (by decide)
theorem rd488 {s : Nat → Int32} : rd 490 s 488 = some (s 488) := g_rd s rfl (by decide) (by decide)
theorem wr488 {s : Nat → Int32} {v : Int32} : wr 490 s 488 v = some (upd s 488 v) := g_wr s v rfl (by decide) (by decide)
theorem rd489 {s : Nat → Int32} : rd 490 s 489 = some (s 489) := g_rd s rfl (by decide) (by decide)
theorem wr489 {s : Nat → Int32} {v : Int32} : wr 490 s 489 v = some (upd s 489 v) := g_wr s v rfl (by decide) (by decide)
theorem rd477_0 {s : Nat → Int32} : rd 490 s (477 + 0) = some (s 477) := g_rd s (nJ_add 477 0) (by decide) (by decide)
theorem wr477_0 {s : Nat → Int32} {v : Int32} : wr 490 s (477 + 0) v = some (upd s 477 v) := g_wr s v (nJ_add 477 0) (by decide) (by decide)
theorem rd477_1 {s : Nat → Int32} : rd 490 s (477 + 1) = some (s 478) := g_rd s (nJ_add 477 1) (by decide) (by decide)
theorem wr477_1 {s : Nat → Int32} {v : Int32} : wr 490 s (477 + 1) v = some (upd s 478 v) := g_wr s v (nJ_add 477 1) (by decide) (by decide)
/-- sums and counts over lists of numbers -/
def smI (f : Nat → Int32) : List Nat → Int32
  | [] => 0
  | a :: l => f a + smI f l
theorem smI_app (f : Nat → Int32) : ∀ (l k : List Nat), smI f (l ++ k) = smI f l + smI f k
  | [], k => by show smI f k = 0 + smI f k; rw [Int32.zero_add]
  | a :: l, k => by show f a + smI f (l ++ k) = f a + smI f l + smI f k; rw [smI_app f l k, Int32.add_assoc]
theorem smI_congr {f g : Nat → Int32} : ∀ {l : List Nat}, (∀ a ∈ l, f a = g a) → smI f l = smI g l
  | [], _ => rfl
  | a :: l, h => by show f a + smI f l = g a + smI g l; rw [h a List.mem_cons_self, smI_congr (fun b hb => h b (List.mem_cons_of_mem _ hb))]
theorem smI_one {f g : Nat → Int32} {x : Int32} {a : Nat} : ∀ {l : List Nat}, l.Nodup → a ∈ l → g a = f a + x → (∀ b ∈ l, b ≠ a → g b = f b) → smI g l = smI f l + x
  | [], _, h, _, _ => by cases h
  | b :: l, hn, h, ha, hb => by
    rw [List.nodup_cons] at hn
    show g b + smI g l = f b + smI f l + x
    by_cases e : b = a
    · subst e
      rw [ha, smI_congr (f := g) (g := f) (fun c hc => hb c (List.mem_cons_of_mem _ hc) (fun q => hn.1 (q ▸ hc)))]
      rw [Int32.add_assoc, Int32.add_assoc, Int32.add_comm x]
    · have h' : a ∈ l := by
        rcases List.mem_cons.mp h with q | q
        · exact absurd q.symm e
        · exact q
      rw [hb b List.mem_cons_self e, smI_one hn.2 h' ha (fun c hc => hb c (List.mem_cons_of_mem _ hc)), Int32.add_assoc]
theorem cp_congr {p q : Nat → Bool} {l : List Nat} (h : ∀ a ∈ l, p a = q a) : l.countP p = l.countP q := by
  induction l with
  | nil => rfl
  | cons a l ih => rw [List.countP_cons, List.countP_cons, h a List.mem_cons_self, ih (fun b hb => h b (List.mem_cons_of_mem _ hb))]
theorem cp_one {p q : Nat → Bool} {a : Nat} : ∀ {l : List Nat}, l.Nodup → a ∈ l → p a = false → q a = true → (∀ b ∈ l, b ≠ a → q b = p b) → l.countP q = l.countP p + 1
  | [], _, h, _, _, _ => by cases h
  | b :: l, hn, h, h0, h1, hb => by
    rw [List.nodup_cons] at hn
    rw [List.countP_cons, List.countP_cons]
    by_cases e : b = a
    · subst e
      rw [h0, h1, cp_congr (p := q) (q := p) (fun c hc => hb c (List.mem_cons_of_mem _ hc) (fun z => hn.1 (z ▸ hc)))]
      simp
    · have h' : a ∈ l := by
        rcases List.mem_cons.mp h with z | z
        · exact absurd z.symm e
        · exact z
      rw [hb b List.mem_cons_self e, cp_one hn.2 h' h0 h1 (fun c hc => hb c (List.mem_cons_of_mem _ hc))]
      omega
theorem nd_range (n : Nat) : (List.range' 0 n).Nodup := List.nodup_range'
theorem mem_r0 {a n : Nat} : a ∈ List.range' 0 n ↔ a < n := by rw [List.mem_range'_1]; omega
theorem cp_le {p : Nat → Bool} {n : Nat} : (List.range' 0 n).countP p ≤ n := by
  have := List.countP_le_length (p := p) (l := List.range' 0 n)
  rwa [List.length_range'] at this
theorem cp_ite (p : Nat → Bool) (a : Nat) (l : List Nat) (c : Int32) : c + nI ((a :: l).countP p) = (if p a = true then c + 1 else c) + nI (l.countP p) := by
  rw [List.countP_cons]
  by_cases h : p a = true
  · rw [if_pos h, if_pos h, ← nJ_add, show nI 1 = (1 : Int32) from rfl, Int32.add_comm (nI _) 1, Int32.add_assoc]
  · rw [if_neg h, if_neg h, Nat.add_zero]
