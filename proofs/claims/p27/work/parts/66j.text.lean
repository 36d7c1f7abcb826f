/-! part 66j: offers read from a text -/
def sc (ft : F_) (i : Nat) : Nat := (List.range' 0 i).countP (fun j => decide (ft j = 59))
theorem sc_succ (ft : F_) (i : Nat) : sc ft (i + 1) = sc ft i + if ft i = 59 then 1 else 0 := by
  unfold sc
  rw [cp_succ]
  by_cases c : ft i = 59
  · rw [decide_eq_true c, if_pos rfl, if_pos c]
  · rw [decide_eq_false c, if_neg (by decide), if_neg c]
theorem sc_mono (ft : F_) {i j : Nat} (h : i ≤ j) : sc ft i ≤ sc ft j := by
  obtain ⟨d, rfl⟩ : ∃ d, j = i + d := ⟨j - i, by omega⟩
  clear h
  induction d with
  | zero => exact Nat.le_refl _
  | succ d ih =>
    have := sc_succ ft (i + d)
    rw [← Nat.add_assoc, this]
    omega
/-- behind a point and one more sign the text goes on with a semicolon, or ends -/
def GT (ft : F_) (L : Nat) : Prop := ∀ i, i < L → ft i = 46 → i + 2 ≤ L ∧ (i + 2 < L → ft (i + 2) = 59)
section TEXT
variable {ft : F_} {L : Nat}
theorem hr_cases (hL : L ≤ 60) {i : Nat} {b : Int32} (hi : i < 2 ^ 31) (hb : b = 0 ∨ b = 1) : (i < L ∧ b = 0 ∧ d_X2_here ft (nI L) (nI i) b = some (ft i)) ∨ ((L ≤ i ∨ b = 1) ∧ d_X2_here ft (nI L) (nI i) b = some (-1)) := by
  rcases hb with rfl | rfl
  · by_cases c : i < L
    · exact Or.inl ⟨c, rfl, e_here_in hL c⟩
    · exact Or.inr ⟨Or.inl (by omega), e_here_out (by omega) hi⟩
  · exact Or.inr ⟨Or.inr rfl, e_here_bad⟩
theorem ex_cases (hL : L ≤ 60) {i : Nat} {b p : Int32} (hi : i < 2 ^ 31) (hb : b = 0 ∨ b = 1) (hp : ¬ (-1 : Int32) = p) : (i < L ∧ b = 0 ∧ ft i = p ∧ d_X2_expect p ft (nI L) (nI i) b = some (nI (i + 1), 0)) ∨ d_X2_expect p ft (nI L) (nI i) b = some (nI i, 1) := by
  unfold d_X2_expect
  rcases hr_cases (ft := ft) hL hi hb with ⟨h1, h2, h3⟩ | ⟨h1, h3⟩
  · rw [h3, ob1_some]
    by_cases c : ft i = p
    · rw [if_pos c, nI_s, h2]; exact Or.inl ⟨h1, rfl, c, rfl⟩
    · rw [if_neg c]; exact Or.inr rfl
  · rw [h3, ob1_some, if_neg hp]; exact Or.inr rfl
theorem dg_cases2 (hL : L ≤ 60) {i : Nat} {b : Int32} (hi : i < 2 ^ 31) (hb : b = 0 ∨ b = 1) : (d_X2_digitHere ft (nI L) (nI i) b = some (-1)) ∨ (i < L ∧ b = 0 ∧ ft i ≠ 59 ∧ ∃ d, d ≤ 9 ∧ d_X2_digitHere ft (nI L) (nI i) b = some (nI d)) := by
  rcases hr_cases (ft := ft) hL hi hb with ⟨h1, h2, h3⟩ | ⟨h1, h3⟩
  · subst h2
    rw [e_digit_in hL h1]
    rcases dg_cases (ft i) with ⟨d, hd, e1, e2, e3⟩ | ⟨e1, -⟩
    · rw [e2]
      refine Or.inr ⟨h1, rfl, fun e => ?_, d, hd, rfl⟩
      rw [e1] at e
      have := (nI_inj (b := 59) (by omega) (by decide)).mp e
      omega
    · rw [e1]; exact Or.inl rfl
  · exact Or.inl (e_digit_m1 h3)
theorem putG {fG : F_} {m c : Nat} {v : Int32} (hm : m < 30) (hc : c < 5) : d_X4_put 150 (nI m) (nI c) v fG 5 = some (upd fG (5 * m + c) v) := g_put fG v (g_ix m c 5) (by omega) (by omega)
theorem gtG5 {fG : F_} {m c : Nat} (hm : m < 30) (hc : c < 5) : d_X4_get 150 (nI m) (nI c) fG 5 = some (fG (5 * m + c)) := g_get fG (g_ix m c 5) (by omega) (by omega)
/-- a number -/
theorem rn (hL : L ≤ 60) {m c i : Nat} {b lo hi : Int32} {fG : F_} (hm : m < 30) (hc : c < 5) (hi' : i ≤ L) (hb : b = 0 ∨ b = 1) (hlo : 0 ≤ lo.toInt) :
    ∃ (fG' : F_) (i' : Nat) (b' : Int32), d_X2_readNumber (nI m) (nI c) lo hi ft fG (nI L) (nI i) b = some (fG', nI i', b') ∧ i ≤ i' ∧ i' ≤ L ∧ (b' = 0 ∨ b' = 1) ∧ (b' = 0 → b = 0) ∧ (∀ j, j ≠ 5 * m + c → fG' j = fG j) ∧ (b' = 0 → (L ≤ i + 1 ∨ ft (i + 1) = 59) → ∃ P, P ≤ 9 ∧ fG' (5 * m + c) = nI P) := by
  unfold d_X2_readNumber
  rcases dg_cases2 (ft := ft) hL (i := i) (by omega) hb with h1 | ⟨h1, h2, h3, d, hd, h4⟩
  · rw [h1, ob1_some, if_pos (by rw [Int32.lt_iff_toInt_lt, im1]; omega)]
    exact ⟨fG, i, 1, rfl, Nat.le_refl _, hi', Or.inr rfl, fun x => absurd x n10, fun _ _ => rfl, fun x => absurd x n10⟩
  · subst h2
    rw [h4, ob1_some]
    by_cases c1 : nI d < lo
    · rw [if_pos c1]
      exact ⟨fG, i, 1, rfl, Nat.le_refl _, hi', Or.inr rfl, fun x => absurd x n10, fun _ _ => rfl, fun x => absurd x n10⟩
    rw [if_neg c1]
    by_cases c2 : nI d ≤ hi
    · rw [if_pos c2, nI_s]
      have one : ∃ (fG' : F_) (i' : Nat) (b' : Int32), j_X2_readNumber_85 ft (nI L) (nI m) (nI c) lo hi (nI d) fG (nI (i + 1)) 0 = some (fG', nI i', b') ∧ i ≤ i' ∧ i' ≤ L ∧ (b' = 0 ∨ b' = 1) ∧ (b' = 0 → (0 : Int32) = 0) ∧ (∀ j, j ≠ 5 * m + c → fG' j = fG j) ∧ (b' = 0 → (L ≤ i + 1 ∨ ft (i + 1) = 59) → ∃ P, P ≤ 9 ∧ fG' (5 * m + c) = nI P) := by
        unfold j_X2_readNumber_85
        rw [putG hm hc, ob1_some]
        exact ⟨_, i + 1, 0, rfl, by omega, by omega, Or.inl rfl, fun _ => rfl, fun j hj => upd_ne hj, fun _ _ => ⟨d, hd, upd_self⟩⟩
      rcases dg_cases2 (ft := ft) hL (i := i + 1) (b := 0) (by omega) (Or.inl rfl) with g1 | ⟨g1, g2, g3, d2, hd2, g4⟩
      · rw [g1, ob1_some]
        by_cases c3 : nI d ≤ 0
        · rw [if_pos c3]; exact one
        · rw [if_neg c3, if_pos rfl]; exact one
      · rw [g4, ob1_some]
        by_cases c3 : nI d ≤ 0
        · rw [if_pos c3]; exact one
        · rw [if_neg c3, if_neg (fun e => absurd (show nI d2 < 0 by rw [e]; decide) (nI_pos (by omega)))]
          by_cases c4 : hi < nI d * 10 + nI d2
          · rw [if_pos c4]; exact one
          · rw [if_neg c4, nI_s]
            unfold j_X2_readNumber_85
            rw [putG hm hc, ob1_some]
            exact ⟨_, i + 1 + 1, 0, rfl, by omega, by omega, Or.inl rfl, fun _ => rfl, fun j hj => upd_ne hj, fun _ hx => by
              rcases hx with hx | hx
              · omega
              · exact absurd hx g3⟩
    · rw [if_neg c2]
      exact ⟨fG, i, 1, rfl, Nat.le_refl _, hi', Or.inr rfl, fun x => absurd x n10, fun _ _ => rfl, fun x => absurd x n10⟩
/-- an expected sign -/
theorem xp (hL : L ≤ 60) {i : Nat} {b p : Int32} (hi : i ≤ L) (hb : b = 0 ∨ b = 1) (hp : ¬ (-1 : Int32) = p) : ∃ (i' : Nat) (b' : Int32), d_X2_expect p ft (nI L) (nI i) b = some (nI i', b') ∧ i ≤ i' ∧ i' ≤ L ∧ (b' = 0 ∨ b' = 1) ∧ (b' = 0 → b = 0) := by
  rcases ex_cases (ft := ft) hL (i := i) (by omega) hb hp with ⟨h1, h2, h3, h4⟩ | h4
  · exact ⟨i + 1, 0, h4, by omega, by omega, Or.inl rfl, fun _ => h2⟩
  · exact ⟨i, 1, h4, Nat.le_refl _, hi, Or.inr rfl, fun x => absurd x n10⟩
def TH (fG : F_) (m : Nat) : Prop := fG (5 * m) = 0 ∨ fG (5 * m) = 1 ∨ (fG (5 * m) = 2 ∧ ∃ P, P ≤ 9 ∧ fG (5 * m + 1) = nI P)
theorem rt (hL : L ≤ 60) (hG : GT ft L) {m i : Nat} {b : Int32} {fG : F_} (hm : m < 30) (hi : i ≤ L) (hb : b = 0 ∨ b = 1) :
    ∃ (fG' : F_) (i' : Nat) (b' : Int32), d_X2_readThing (nI m) ft fG (nI L) (nI i) b = some (fG', nI i', b') ∧ i ≤ i' ∧ i' ≤ L ∧ (b' = 0 ∨ b' = 1) ∧ (b' = 0 → b = 0) ∧ (∀ j, j < 5 * m ∨ 5 * m + 4 < j → fG' j = fG j) ∧ (b' = 0 → TH fG' m) := by
  have no : ∀ c, d_X2_here ft (nI L) (nI i) b = some c → c ≠ 46 → c ≠ 97 → c ≠ 114 → ∃ (fG' : F_) (i' : Nat) (b' : Int32), d_X2_readThing (nI m) ft fG (nI L) (nI i) b = some (fG', nI i', b') ∧ i ≤ i' ∧ i' ≤ L ∧ (b' = 0 ∨ b' = 1) ∧ (b' = 0 → b = 0) ∧ (∀ j, j < 5 * m ∨ 5 * m + 4 < j → fG' j = fG j) ∧ (b' = 0 → TH fG' m) := fun c h0 h1 h2 h3 =>
    ⟨fG, i, 1, e_readThing_no h0 h1 h2 h3, Nat.le_refl _, hi, Or.inr rfl, fun x => absurd x n10, fun _ _ => rfl, fun x => absurd x n10⟩
  rcases hr_cases (ft := ft) hL (i := i) (by omega) hb with ⟨h1, h2, h3⟩ | ⟨h1, h3⟩
  · subst h2
    by_cases c1 : ft i = 46
    · obtain ⟨g1, g2⟩ := hG i h1 c1
      obtain ⟨f1, i1, b1, e1, p1, p2, p3, p4, p5, p6⟩ := rn (ft := ft) hL (m := m) (c := 1) (i := i + 1) (b := 0) (lo := 1) (hi := 99) (fG := upd fG (5 * m + 0) 2) hm (by decide) (by omega) (Or.inl rfl) (by decide)
      have e1' : d_X2_readNumber (nI m) 1 1 99 ft (upd fG (5 * m + 0) 2) (nI L) (nI (i + 1)) 0 = some (f1, nI i1, b1) := e1
      have pk : d_X4_put 150 (nI m) 0 2 fG 5 = some (upd fG (5 * m + 0) 2) := putG (c := 0) hm (by decide)
      refine ⟨f1, i1, b1, ?_, by omega, p2, p3, fun _ => rfl, fun j hj => by rw [p5 j (by omega), upd_ne (by omega)], fun hb1 => ?_⟩
      · unfold d_X2_readThing
        rw [h3, ob1_some, if_pos c1, pk, ob1_some, nI_s, e1', ob3_some]
      · refine Or.inr (Or.inr ⟨by rw [p5 (5 * m) (by omega)]; exact upd_self, p6 hb1 ?_⟩)
        by_cases z : i + 2 < L
        · exact Or.inr (g2 z)
        · exact Or.inl (by omega)
    by_cases c2 : ft i = 97
    · have pk : d_X4_put 150 (nI m) 0 1 fG 5 = some (upd fG (5 * m + 0) 1) := putG (c := 0) hm (by decide)
      obtain ⟨f1, i1, b1, e1, p1, p2, p3, p4, p5, p6⟩ := rn (ft := ft) hL (m := m) (c := 1) (i := i + 1) (b := 0) (lo := 0) (hi := 7) (fG := upd fG (5 * m + 0) 1) hm (by decide) (by omega) (Or.inl rfl) (by decide)
      obtain ⟨i2, b2, e2, q1, q2, q3, q4⟩ := xp (ft := ft) hL (i := i1) (b := b1) (p := 58) p2 p3 (by decide)
      obtain ⟨f3, i3, b3, e3, r1, r2, r3, r4, r5, r6⟩ := rn (ft := ft) hL (m := m) (c := 2) (i := i2) (b := b2) (lo := 0) (hi := 19) (fG := f1) hm (by decide) q2 q3 (by decide)
      obtain ⟨i4, b4, e4, s1, s2, s3, s4⟩ := xp (ft := ft) hL (i := i3) (b := b3) (p := 61) r2 r3 (by decide)
      obtain ⟨f5, i5, b5, e5, t1, t2, t3, t4, t5, t6⟩ := rn (ft := ft) hL (m := m) (c := 3) (i := i4) (b := b4) (lo := 0) (hi := 99) (fG := f3) hm (by decide) s2 s3 (by decide)
      obtain ⟨i6, b6, e6, u1, u2, u3, u4⟩ := xp (ft := ft) hL (i := i5) (b := b5) (p := 42) t2 t3 (by decide)
      obtain ⟨f7, i7, b7, e7, w1, w2, w3, w4, w5, w6⟩ := rn (ft := ft) hL (m := m) (c := 4) (i := i6) (b := b6) (lo := 1) (hi := 99) (fG := f5) hm (by decide) u2 u3 (by decide)
      have e1' : d_X2_readNumber (nI m) 1 0 7 ft (upd fG (5 * m + 0) 1) (nI L) (nI (i + 1)) 0 = some (f1, nI i1, b1) := e1
      have e3' : d_X2_readNumber (nI m) 2 0 19 ft f1 (nI L) (nI i2) b2 = some (f3, nI i3, b3) := e3
      have e5' : d_X2_readNumber (nI m) 3 0 99 ft f3 (nI L) (nI i4) b4 = some (f5, nI i5, b5) := e5
      have e7' : d_X2_readNumber (nI m) 4 1 99 ft f5 (nI L) (nI i6) b6 = some (f7, nI i7, b7) := e7
      refine ⟨f7, i7, b7, ?_, by omega, w2, w3, fun _ => rfl, fun j hj => by rw [w5 j (by omega), t5 j (by omega), r5 j (by omega), p5 j (by omega), upd_ne (by omega)], fun _ => ?_⟩
      · unfold d_X2_readThing
        rw [h3, ob1_some, if_neg c1, if_pos c2, pk, ob1_some, nI_s, e1', ob3_some, e2, ob2_some, e3', ob3_some, e4, ob2_some, e5', ob3_some, e6, ob2_some, e7', ob3_some]
      · exact Or.inr (Or.inl (by rw [w5 (5 * m) (by omega), t5 (5 * m) (by omega), r5 (5 * m) (by omega), p5 (5 * m) (by omega)]; exact upd_self))
    by_cases c3 : ft i = 114
    · have pk : d_X4_put 150 (nI m) 0 0 fG 5 = some (upd fG (5 * m + 0) 0) := putG (c := 0) hm (by decide)
      obtain ⟨f1, i1, b1, e1, p1, p2, p3, p4, p5, p6⟩ := rn (ft := ft) hL (m := m) (c := 1) (i := i + 1) (b := 0) (lo := 0) (hi := 7) (fG := upd fG (5 * m + 0) 0) hm (by decide) (by omega) (Or.inl rfl) (by decide)
      obtain ⟨i2, b2, e2, q1, q2, q3, q4⟩ := xp (ft := ft) hL (i := i1) (b := b1) (p := 58) p2 p3 (by decide)
      obtain ⟨f3, i3, b3, e3, r1, r2, r3, r4, r5, r6⟩ := rn (ft := ft) hL (m := m) (c := 2) (i := i2) (b := b2) (lo := 1) (hi := 50) (fG := f1) hm (by decide) q2 q3 (by decide)
      obtain ⟨i4, b4, e4, s1, s2, s3, s4⟩ := xp (ft := ft) hL (i := i3) (b := b3) (p := 61) r2 r3 (by decide)
      obtain ⟨f5, i5, b5, e5, t1, t2, t3, t4, t5, t6⟩ := rn (ft := ft) hL (m := m) (c := 3) (i := i4) (b := b4) (lo := 0) (hi := 99) (fG := f3) hm (by decide) s2 s3 (by decide)
      have e1' : d_X2_readNumber (nI m) 1 0 7 ft (upd fG (5 * m + 0) 0) (nI L) (nI (i + 1)) 0 = some (f1, nI i1, b1) := e1
      have e3' : d_X2_readNumber (nI m) 2 1 50 ft f1 (nI L) (nI i2) b2 = some (f3, nI i3, b3) := e3
      have e5' : d_X2_readNumber (nI m) 3 0 99 ft f3 (nI L) (nI i4) b4 = some (f5, nI i5, b5) := e5
      refine ⟨f5, i5, b5, ?_, by omega, t2, t3, fun _ => rfl, fun j hj => by rw [t5 j (by omega), r5 j (by omega), p5 j (by omega), upd_ne (by omega)], fun _ => ?_⟩
      · unfold d_X2_readThing
        rw [h3, ob1_some, if_neg c1, if_neg c2, if_pos c3, pk, ob1_some, nI_s, e1', ob3_some, e2, ob2_some, e3', ob3_some, e4, ob2_some, e5', ob3_some]
      · exact Or.inl (by rw [t5 (5 * m) (by omega), r5 (5 * m) (by omega), p5 (5 * m) (by omega)]; exact upd_self)
    exact no _ h3 c1 c2 c3
  · exact no _ h3 (by decide) (by decide) (by decide)
theorem TH.fr {fG fG' : F_} {m j : Nat} (h : TH fG j) (hj : j < m) (g : ∀ k, k < 5 * m ∨ 5 * m + 4 < k → fG' k = fG k) : TH fG' j := by
  unfold TH at h ⊢
  rw [g (5 * j) (by omega), g (5 * j + 1) (by omega)]
  exact h
theorem rd_loop (hL : L ≤ 60) (hG : GT ft L) : ∀ (d m i k : Nat) (fG : F_) (b : Int32), m + d = 30 → d < k → i ≤ L → (b = 0 ∨ b = 1) → (b = 0 → m ≤ sc ft i) → (∀ j, j < m → TH fG j) →
    ∃ (r : Int32) (fG' : F_) (M i' : Nat) (b' : Int32), lp_X2_read_19 ft (nI L) k (nI m) fG (nI m) (nI i) b = some (r, fG', nI M, nI i', b') ∧ ((r < 0 ∧ M ≤ sc ft L + 1 ∧ M ≤ 30 ∧ ∀ j, j < M → TH fG' j) ∨ (¬ r < 0 ∧ ∃ c, c ≤ 60 ∧ r = nI c)) := by
  intro d
  induction d with
  | zero =>
    intro m i k fG b hm hk hi hb hs hT
    obtain ⟨k, rfl⟩ : ∃ k', k = k' + 1 := ⟨k - 1, by omega⟩
    have : m = 30 := by omega
    subst this
    refine ⟨nI i, fG, 30, i, b, ?_, Or.inr ⟨nI_pos (by omega), i, by omega, rfl⟩⟩
    simp only [lp_X2_read_19]
    rw [if_pos (show (30 : Int32) ≤ nI 30 by decide)]
  | succ d ih =>
    intro m i k fG b hm hk hi hb hs hT
    obtain ⟨k, rfl⟩ : ∃ k', k = k' + 1 := ⟨k - 1, by omega⟩
    obtain ⟨f1, i1, b1, e1, p1, p2, p3, p4, p5, p6⟩ := rt hL hG (m := m) (i := i) (b := b) (fG := fG) (by omega) hi hb
    rw [e_rd1 k (by omega) e1]
    rcases p3 with z | z
    · rw [if_pos z]
      have hm' := hs (p4 z)
      have hT1 : ∀ j, j < m + 1 → TH f1 j := fun j hj => by
        by_cases e : j = m
        · subst e; exact p6 z
        · exact (hT j (by omega)).fr (m := m) (by omega) p5
      by_cases c : nI i1 = nI L
      · rw [if_pos c]
        have hsL := sc_mono ft hi
        exact ⟨-1, f1, m + 1, i1, b1, rfl, Or.inl ⟨by decide, by omega, by omega, hT1⟩⟩
      · rw [if_neg c]
        rcases ex_cases (ft := ft) hL (i := i1) (b := b1) (p := 59) (by omega) (Or.inl z) (by decide) with ⟨x1, x2, x3, x4⟩ | x4
        · rw [x4, ob2_some]
          have hs1 := sc_succ ft i1
          rw [if_pos x3] at hs1
          have hs2 := sc_mono ft p1
          exact ih (m + 1) (i1 + 1) k f1 0 (by omega) (by omega) (by omega) (Or.inl rfl) (fun _ => by omega) hT1
        · rw [x4, ob2_some]
          exact ih (m + 1) i1 k f1 1 (by omega) (by omega) p2 (Or.inr rfl) (fun x => absurd x n10) hT1
    · rw [z, if_neg n10]
      exact ⟨nI i1, f1, m + 1, i1, 1, rfl, Or.inr ⟨nI_pos (by omega), i1, by omega, rfl⟩⟩
theorem read_tot (hL : L ≤ 60) (hG : GT ft L) (fG : F_) : ∃ (r : Int32) (fG' : F_) (M i' : Nat) (b' : Int32), (∀ rG pos bad, d_X2_read ft fG rG (nI L) pos bad = some (r, fG', nI M, nI i', b')) ∧ ((r < 0 ∧ M ≤ sc ft L + 1 ∧ M ≤ 30 ∧ ∀ j, j < M → TH fG' j) ∨ (¬ r < 0 ∧ ∃ c, c ≤ 60 ∧ r = nI c)) := by
  obtain ⟨r, fG', M, i', b', h1, h2⟩ := rd_loop hL hG 30 0 0 fuel fG 0 rfl (by decide) (Nat.zero_le L) (Or.inl rfl) (fun _ => Nat.zero_le _) (fun j hj => absurd hj (by omega))
  exact ⟨r, fG', M, i', b', fun rG pos bad => by
    unfold d_X2_read d_X4_dropRows
    rw [tb1_mk]
    exact h1, h2⟩
end TEXT
/-! things are done -/
theorem do_thing {R : Nat} {T : Ex} {fG : F_} {j : Nat} (h : IV R T) (hj : j < 30) (hT : TH fG j) : ∃ r E, d_X5_doThing (nI j) T fG = some (r, E) ∧ (r < 0 ∨ ∃ c, c < 2 ^ 31 ∧ r = nI c ∧ IV (R + 9) E) := by
  have g0 : d_X2_numberOf (nI j) 0 fG = some (fG (5 * j)) := by unfold d_X2_numberOf; rw [show d_X4_get 150 (nI j) 0 fG 5 = some (fG (5 * j)) from gtG5 (c := 0) hj (by decide), ob1_some]
  have g1 : d_X2_numberOf (nI j) 1 fG = some (fG (5 * j + 1)) := by unfold d_X2_numberOf; rw [show d_X4_get 150 (nI j) 1 fG 5 = some (fG (5 * j + 1)) from gtG5 (c := 1) hj (by decide), ob1_some]
  have g2 : d_X2_numberOf (nI j) 2 fG = some (fG (5 * j + 2)) := by unfold d_X2_numberOf; rw [show d_X4_get 150 (nI j) 2 fG 5 = some (fG (5 * j + 2)) from gtG5 (c := 2) hj (by decide), ob1_some]
  have g3 : d_X2_numberOf (nI j) 3 fG = some (fG (5 * j + 3)) := by unfold d_X2_numberOf; rw [show d_X4_get 150 (nI j) 3 fG 5 = some (fG (5 * j + 3)) from gtG5 (c := 3) hj (by decide), ob1_some]
  have g4 : d_X2_numberOf (nI j) 4 fG = some (fG (5 * j + 4)) := by unfold d_X2_numberOf; rw [show d_X4_get 150 (nI j) 4 fG 5 = some (fG (5 * j + 4)) from gtG5 (c := 4) hj (by decide), ob1_some]
  unfold d_X5_doThing
  rw [g1, ob1_some, g2, ob1_some, g3, ob1_some, g0, ob1_some]
  rcases hT with z | z | ⟨z, P, hP, e⟩
  · rw [if_pos z]
    obtain ⟨r, fR, rR, e, hc⟩ := a_ask h (fG (5 * j + 1)) (fG (5 * j + 2)) (fG (5 * j + 3))
    rw [e, ob3_some]
    exact ⟨_, _, rfl, hc.imp id (fun ⟨c, a1, a2, a3⟩ => ⟨c, a1, a2, a3.mono (by omega)⟩)⟩
  · rw [z, if_neg n10, if_pos rfl, g4, ob1_some]
    obtain ⟨r, fA, rA, ri, ln, e, hc⟩ := a_deliver h (fG (5 * j + 1)) (fG (5 * j + 2)) (fG (5 * j + 3)) (fG (5 * j + 4))
    rw [e, ob5_some]
    exact ⟨_, _, rfl, hc.imp id (fun ⟨c, a1, a2, a3⟩ => ⟨c, a1, a2, a3.mono (by omega)⟩)⟩
  · rw [z, if_neg n20, if_neg n21, e]
    obtain ⟨r, fT, fR, fA, fS, ri, hd, ln, rnd, e1, hc⟩ := a_passK (K := 9) h (by decide) (p := nI P) (by rw [nI_toInt (by omega)]; omega)
    rw [e1, ob9_some]
    exact ⟨_, _, rfl, hc⟩
theorem perf_loop {ft fG : F_} {len : Int32} {M : Nat} {N : Ex} {Hs : Nat → Ex} {old sze : Int32} (hM : M ≤ 30) (hTH : ∀ j, j < M → TH fG j) : ∀ (d j k R : Nat) (T : Ex), j + d = M → d < k → IV R T → IV (R + 9 * d) N → (∀ i, IV (R + 9 * d) (Hs i)) → (∃ o, o < 4 ∧ old = nI o) → (∃ z, z ≤ 4 ∧ sze = nI z) →
    ∃ r N' T' Hs' old' sze', (∀ rG pos bad stN stE, ∃ x y, lp_X5_perform_38 ft len k (nI M) (nI j) N T Hs old sze fG rG pos bad stN stE = some (r, N', T', Hs', old', sze', fG, rG, pos, bad, x, y)) ∧ IV (R + 9 * d) N' ∧ (∀ i, IV (R + 9 * d) (Hs' i)) ∧ (∃ o, o < 4 ∧ old' = nI o) ∧ (∃ z, z ≤ 4 ∧ sze' = nI z) := by
  intro d
  induction d with
  | zero =>
    intro j k R T hj hk hT hN hH ho hz
    obtain ⟨k, rfl⟩ : ∃ k', k = k' + 1 := ⟨k - 1, by omega⟩
    have : j = M := by omega
    subst this
    obtain ⟨Hs', old', sze', g1, g2, g3, g4⟩ := rec_ok hN hH ho hz
    exact ⟨_, _, _, _, _, _, fun rG pos bad stN stE => ⟨_, _, pc_end k (by omega) g1⟩, by simpa using hT, g2, g3, g4⟩
  | succ d ih =>
    intro j k R T hj hk hT hN hH ho hz
    obtain ⟨k, rfl⟩ : ∃ k', k = k' + 1 := ⟨k - 1, by omega⟩
    obtain ⟨r, E, e, hc⟩ := do_thing hT (show j < 30 by omega) (hTH j (by omega))
    have hne : ¬ nI M ≤ nI j := nI_ge (by omega) (by omega)
    by_cases c : r < 0
    · refine ⟨-4, N, E, Hs, old, sze, fun rG pos bad stN stE => ⟨nI j, r, ?_⟩, hN, hH, ho, hz⟩
      rw [pc_step k hne, e, ob2_some, if_neg (Int32.not_le.mpr c)]
    · obtain ⟨c', hc1, hc2, hE⟩ := hc.resolve_left c
      have eR : R + 9 + 9 * d = R + 9 * (d + 1) := by omega
      obtain ⟨r', N', T', Hs', old', sze', g1, g2, g3, g4, g5⟩ := ih (j + 1) k (R + 9) E (by omega) (by omega) hE (by rw [eR]; exact hN) (by rw [eR]; exact hH) ho hz
      rw [eR] at g2 g3
      refine ⟨r', N', T', Hs', old', sze', fun rG pos bad stN stE => ?_, g2, g3, g4, g5⟩
      obtain ⟨x, y, hxy⟩ := g1 rG pos bad stN stE
      refine ⟨x, y, ?_⟩
      rw [pc_step k hne, e, ob2_some, if_pos (Int32.not_lt.mp c), nI_s]
      exact hxy
theorem tk_perform {R L : Nat} {t u : Td} (hT : TV R t) (hS : SR t u) (hL : L ≤ 60) (hLt : LN t = nI L) (hLu : LN u = nI L) (hG : GT t.2.2.2.2.2.2.1 L) (hsc : sc t.2.2.2.2.2.2.1 L ≤ 3) :
    ∃ r t' u', q_perform t = some (r, t') ∧ q_perform u = some (r, u') ∧ TV (R + 36) t' ∧ SR t' u' ∧ LN t' = nI L ∧ LN u' = nI L := by
  obtain ⟨h1, h2, h3, h4, h5, h6, h7, h8⟩ := hS
  obtain ⟨k1, k2, k3, k4, k5⟩ := hT.mono (show R ≤ R + 36 by omega)
  obtain ⟨r, fG', M, i', b', e, hc⟩ := read_tot hL hG t.2.2.2.2.2.2.2.1
  have hLt' : t.2.2.2.2.2.2.2.2.2.1 = nI L := hLt
  have hLu' : u.2.2.2.2.2.2.2.2.2.1 = nI L := hLu
  have key : ∃ r N' Hs' old' sze' fG', IV (R + 36) N' ∧ (∀ i, IV (R + 36) (Hs' i)) ∧ (∃ o, o < 4 ∧ old' = nI o) ∧ (∃ z, z ≤ 4 ∧ sze' = nI z) ∧ ∀ T rG pos bad stN stE, ∃ T' rG' pos' bad' x y, d_X5_perform t.1 T t.2.2.2.1 t.2.2.2.2.1 t.2.2.2.2.2.1 t.2.2.2.2.2.2.1 t.2.2.2.2.2.2.2.1 rG (nI L) pos bad stN stE = some (r, N', T', Hs', old', sze', fG', rG', pos', bad', x, y) := by
    rcases hc with ⟨c1, c2, c3, c4⟩ | ⟨c1, c2⟩
    · obtain ⟨r', N', T', Hs', old', sze', g1, g2, g3, g4, g5⟩ := perf_loop (ft := t.2.2.2.2.2.2.1) (len := nI L) (N := t.1) (Hs := t.2.2.2.1) (old := t.2.2.2.2.1) (sze := t.2.2.2.2.2.1) c3 c4 M 0 fuel R t.1 (by omega) (k_fuel (by omega)) hT.1 (hT.1.mono (by omega)) (fun i => (hT.2.2.1 i).mono (by omega)) k4 k5
      refine ⟨r', N', Hs', old', sze', fG', g2.mono (by omega), fun i => (g3 i).mono (by omega), g4, g5, fun T rG pos bad stN stE => ?_⟩
      obtain ⟨x, y, hxy⟩ := g1 (nI M) (nI i') b' stN stE
      refine ⟨T', nI M, nI i', b', x, y, ?_⟩
      unfold d_X5_perform
      rw [e, ob5_some, if_pos c1]
      exact hxy
    · refine ⟨-100 - r, t.1, t.2.2.2.1, t.2.2.2.2.1, t.2.2.2.2.2.1, fG', k1, k3, k4, k5, fun T rG pos bad stN stE => ⟨T, nI M, nI i', b', stN, stE, ?_⟩⟩
      unfold d_X5_perform
      rw [e, ob5_some, if_neg c1]
  obtain ⟨r, N', Hs', old', sze', fG', g1, g2, g3, g4, g5⟩ := key
  obtain ⟨T1, rG1, pos1, bad1, x1, y1, e1⟩ := g5 t.2.1 t.2.2.2.2.2.2.2.2.1 t.2.2.2.2.2.2.2.2.2.2.1 t.2.2.2.2.2.2.2.2.2.2.2.1 t.2.2.2.2.2.2.2.2.2.2.2.2.2.1 t.2.2.2.2.2.2.2.2.2.2.2.2.2.2
  obtain ⟨T2, rG2, pos2, bad2, x2, y2, e2⟩ := g5 u.2.1 u.2.2.2.2.2.2.2.2.1 u.2.2.2.2.2.2.2.2.2.2.1 u.2.2.2.2.2.2.2.2.2.2.2.1 u.2.2.2.2.2.2.2.2.2.2.2.2.2.1 u.2.2.2.2.2.2.2.2.2.2.2.2.2.2
  rw [← hLt'] at e1
  rw [h1, h3, h4, h5, h6, h7, ← hLu'] at e2
  exact ⟨r, (N', T1, t.2.2.1, Hs', old', sze', t.2.2.2.2.2.2.1, fG', rG1, t.2.2.2.2.2.2.2.2.2.1, pos1, bad1, t.2.2.2.2.2.2.2.2.2.2.2.2.1, x1, y1), (N', T2, u.2.2.1, Hs', old', sze', u.2.2.2.2.2.2.1, fG', rG2, u.2.2.2.2.2.2.2.2.2.1, pos2, bad2, u.2.2.2.2.2.2.2.2.2.2.2.2.1, x2, y2), by unfold q_perform; rw [e1]; rfl, by unfold q_perform; rw [e2]; rfl, ⟨g1, k2, g2, g3, g4⟩, ⟨rfl, h2, rfl, rfl, rfl, h6, rfl, h8⟩, hLt, hLu⟩
