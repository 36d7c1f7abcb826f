/-! part 66e: what a trade tells -/
def NX (t : Td) (fT fR fA fS fE ri : F_) (hd ln rnd : Int32) (nR nA n : Nat) (q : List Nat) : Prop := t.1 = (fT, fR, nI nR, fA, nI nA, fS, fE, ri, hd, ln, rnd) ∧ JX fT fR fA fS fE ri hd ln rnd nR nA n q
theorem IV.nx {R : Nat} {t : Td} (h : IV R t.1) : ∃ fT fR fA fS fE ri hd ln rnd nR nA n q, n ≤ R ∧ NX t fT fR fA fS fE ri hd ln rnd nR nA n q := by
  obtain ⟨nR, nA, n, q, h1, h2, h3, h4⟩ := h
  refine ⟨_, _, _, _, _, _, _, _, _, nR, nA, n, q, h3, ?_, h4⟩
  rw [← h1, ← h2]
theorem has8 {i : Nat} (hi : i < 8) : ¬ d_X4_has (nI i) 8 = 0 := has_nI (N := 8) hi (by decide)
theorem ob1_id (o : Option Int32) : (ob1 o fun r => some r) = o := by cases o <;> rfl
theorem qv_trader (t : Td) (p1 p2 : Int32) : q_trader p1 p2 t = d_X0_tellTrader p1 p2 t.1.1 t.1.2.1 t.1.2.2.1 t.1.2.2.2.1 t.1.2.2.2.2.1 := ob1_id _
theorem qv_riddle (t : Td) (p1 p2 : Int32) : q_riddle p1 p2 t = d_X0_tellRiddle p1 p2 t.1.2.1 t.1.2.2.1 t.1.2.2.2.1 t.1.2.2.2.2.1 := ob1_id _
theorem qv_answer (t : Td) (p1 p2 : Int32) : q_answer p1 p2 t = d_X0_tellAnswer p1 p2 t.1.2.2.2.1 t.1.2.2.2.2.1 t.1.2.2.2.2.2.2.2.1 t.1.2.2.2.2.2.2.2.2.1 t.1.2.2.2.2.2.2.2.2.2.1 := ob1_id _
theorem qv_account (t : Td) (p1 : Int32) : q_account p1 t = d_X0_tellAccount p1 t.1.1 t.1.2.1 t.1.2.2.2.1 t.1.2.2.2.2.1 := ob1_id _
theorem qv_richest (t : Td) : q_richest t = d_X0_richestTrader t.1.1 := ob1_id _
theorem qv_waits (t : Td) {p1 : Int32} (h : 0 ≤ p1) : q_waits p1 t = d_X3_at p1 t.1.2.2.2.2.2.2.2.1 t.1.2.2.2.2.2.2.2.2.1 t.1.2.2.2.2.2.2.2.2.2.1 := by
  unfold q_waits d_X5_waits d_X0_waitingAt
  rw [if_pos h, ob1_id, ob1_id]
theorem qv_count (t : Td) {p1 : Int32} (h1 : ¬ p1 = 18) (h2 : ¬ p1 = 19) : q_count p1 t = d_X0_tellCount p1 t.1.1 t.1.2.1 t.1.2.2.1 t.1.2.2.2.1 t.1.2.2.2.2.1 t.1.2.2.2.2.2.1 t.1.2.2.2.2.2.2.1 t.1.2.2.2.2.2.2.2.2.2.1 t.1.2.2.2.2.2.2.2.2.2.2 := by
  unfold q_count d_X5_count
  rw [if_neg h1, if_neg h2, ob1_id]
theorem qv_count18 (t : Td) : q_count 18 t = some t.2.2.2.2.2.1 := by
  unfold q_count d_X5_count d_X1_size
  rw [if_pos rfl]
section TELL
variable {t : Td} {fT fR fA fS fE ri : F_} {hd ln rnd : Int32} {nR nA n : Nat} {q : List Nat}
/-! traders -/
theorem v_tr0 (h : NX t fT fR fA fS fE ri hd ln rnd nR nA n q) {i : Nat} (hi : i < 8) : q_trader (nI i) 0 t = some (if 0 < -(fT (2 * i)) then -(fT (2 * i)) else 0) := by
  rw [qv_trader, h.1]
  show d_X0_tellTrader (nI i) 0 fT fR (nI nR) fA (nI nA) = _
  unfold d_X0_tellTrader
  rw [if_neg (has8 hi), if_pos rfl, getT0 hi, ob1_some]
theorem v_tr1 (h : NX t fT fR fA fS fE ri hd ln rnd nR nA n q) {i : Nat} (hi : i < 8) : q_trader (nI i) 1 t = some (if 0 < fT (2 * i) then fT (2 * i) else 0) := by
  rw [qv_trader, h.1]
  show d_X0_tellTrader (nI i) 1 fT fR (nI nR) fA (nI nA) = _
  unfold d_X0_tellTrader
  rw [if_neg (has8 hi), if_neg (by decide), if_pos rfl, getT0 hi, ob1_some]
theorem v_tr7 (h : NX t fT fR fA fS fE ri hd ln rnd nR nA n q) {i : Nat} (hi : i < 8) : q_trader (nI i) 7 t = some (fT (2 * i + 1)) := by
  rw [qv_trader, h.1]
  show d_X0_tellTrader (nI i) 7 fT fR (nI nR) fA (nI nA) = _
  unfold d_X0_tellTrader
  rw [if_neg (has8 hi), if_neg (by decide), if_neg (by decide), if_neg (by decide), if_neg (by decide), if_neg (by decide), if_neg (by decide), if_neg (by decide), if_pos rfl, getT1 hi, ob1_some]
theorem gR0 (h : NX t fT fR fA fS fE ri hd ln rnd nR nA n q) : ∀ i, i < nR → d_X4_get 80 (nI i) 0 fR 4 = some (fR (4 * i)) := fun i hi => getR0 (by have := h.2.2.2.1.1; omega)
theorem gR3 (h : NX t fT fR fA fS fE ri hd ln rnd nR nA n q) : ∀ i, i < nR → d_X4_get 80 (nI i) 3 fR 4 = some (fR (4 * i + 3)) := fun i hi => getR3 (by have := h.2.2.2.1.1; omega)
theorem gA0 (h : NX t fT fR fA fS fE ri hd ln rnd nR nA n q) : ∀ i, i < nA → d_X4_get 320 (nI i) 0 fA 8 = some (fA (8 * i)) := fun i hi => getA0 (by have := h.2.2.2.1.2.1; omega)
theorem gA1 (h : NX t fT fR fA fS fE ri hd ln rnd nR nA n q) : ∀ i, i < nA → d_X4_get 320 (nI i) 1 fA 8 = some (fA (8 * i + 1)) := fun i hi => getA1 (by have := h.2.2.2.1.2.1; omega)
theorem gA4 (h : NX t fT fR fA fS fE ri hd ln rnd nR nA n q) : ∀ i, i < nA → d_X4_get 320 (nI i) 4 fA 8 = some (fA (8 * i + 4)) := fun i hi => getA4 (by have := h.2.2.2.1.2.1; omega)
theorem gA6 (h : NX t fT fR fA fS fE ri hd ln rnd nR nA n q) : ∀ i, i < nA → d_X4_get 320 (nI i) 6 fA 8 = some (fA (8 * i + 6)) := fun i hi => getA6 (by have := h.2.2.2.1.2.1; omega)
theorem gA7 (h : NX t fT fR fA fS fE ri hd ln rnd nR nA n q) : ∀ i, i < nA → d_X4_get 320 (nI i) 7 fA 8 = some (fA (8 * i + 7)) := fun i hi => getA7 (by have := h.2.2.2.1.2.1; omega)
theorem bR (h : NX t fT fR fA fS fE ri hd ln rnd nR nA n q) : nR < 2 ^ 31 := by have := h.2.2.2.1.1; omega
theorem bA (h : NX t fT fR fA fS fE ri hd ln rnd nR nA n q) : nA < 2 ^ 31 := by have := h.2.2.2.1.2.1; omega
theorem v_tr2 (h : NX t fT fR fA fS fE ri hd ln rnd nR nA n q) {i : Nat} (hi : i < 8) : q_trader (nI i) 2 t = some (nI ((List.range' 0 nR).countP (fun r => decide (fR (4 * r) = nI i)))) := by
  rw [qv_trader, h.1]
  show d_X0_tellTrader (nI i) 2 fT fR (nI nR) fA (nI nA) = _
  unfold d_X0_tellTrader
  rw [if_neg (has8 hi), if_neg (by decide), if_neg (by decide), if_pos rfl, e_countOf _ (gR0 h) (bR h), ob1_some]
theorem v_tr3 (h : NX t fT fR fA fS fE ri hd ln rnd nR nA n q) {i : Nat} (hi : i < 8) : q_trader (nI i) 3 t = some (nI ((List.range' 0 nR).countP (fun r => decide (fR (4 * r) = nI i) && decide (fR (4 * r + 3) = 1)))) := by
  rw [qv_trader, h.1]
  show d_X0_tellTrader (nI i) 3 fT fR (nI nR) fA (nI nA) = _
  unfold d_X0_tellTrader
  rw [if_neg (has8 hi), if_neg (by decide), if_neg (by decide), if_neg (by decide), if_pos rfl, e_countOfBoth _ _ (gR0 h) (gR3 h) (bR h), ob1_some]
theorem v_tr4 (h : NX t fT fR fA fS fE ri hd ln rnd nR nA n q) {i : Nat} (hi : i < 8) : q_trader (nI i) 4 t = some (nI ((List.range' 0 nA).countP (fun a => decide (fA (8 * a) = nI i)))) := by
  rw [qv_trader, h.1]
  show d_X0_tellTrader (nI i) 4 fT fR (nI nR) fA (nI nA) = _
  unfold d_X0_tellTrader
  rw [if_neg (has8 hi), if_neg (by decide), if_neg (by decide), if_neg (by decide), if_neg (by decide), if_pos rfl, e_countOf _ (gA0 h) (bA h), ob1_some]
theorem v_tr5 (h : NX t fT fR fA fS fE ri hd ln rnd nR nA n q) {i : Nat} (hi : i < 8) : q_trader (nI i) 5 t = some (nI ((List.range' 0 nA).countP (fun a => decide (fA (8 * a) = nI i) && decide (fA (8 * a + 4) = 1)))) := by
  rw [qv_trader, h.1]
  show d_X0_tellTrader (nI i) 5 fT fR (nI nR) fA (nI nA) = _
  unfold d_X0_tellTrader
  rw [if_neg (has8 hi), if_neg (by decide), if_neg (by decide), if_neg (by decide), if_neg (by decide), if_neg (by decide), if_pos rfl, e_countOfBoth _ _ (gA0 h) (gA4 h) (bA h), ob1_some]
theorem v_tr6 (h : NX t fT fR fA fS fE ri hd ln rnd nR nA n q) {i : Nat} (hi : i < 8) : q_trader (nI i) 6 t = some (nI ((List.range' 0 nA).countP (fun a => decide (fA (8 * a) = nI i) && decide (fA (8 * a + 4) = 2)))) := by
  rw [qv_trader, h.1]
  show d_X0_tellTrader (nI i) 6 fT fR (nI nR) fA (nI nA) = _
  unfold d_X0_tellTrader
  rw [if_neg (has8 hi), if_neg (by decide), if_neg (by decide), if_neg (by decide), if_neg (by decide), if_neg (by decide), if_neg (by decide), if_pos rfl, e_countOfBoth _ _ (gA0 h) (gA4 h) (bA h), ob1_some]
/-- the account, told the other way, is the coins -/
theorem e_acc {fT fR fA : F_} {nR nA i : Nat} (jA : JA fR fA nR nA) (hR : nR ≤ 20) (hA : nA ≤ 40) : ∀ (d a k : Nat) (x : Int32), a + d = nA → d < k → lp_X0_tellAccount_28 fT fR fA (nI nA) (nI i) k x (nI a) = some (x + smI (net fR fA i) (List.range' a d) + 100000) := by
  intro d
  induction d with
  | zero =>
    intro a k x ha hk
    obtain ⟨k, rfl⟩ : ∃ k', k = k' + 1 := ⟨k - 1, by omega⟩
    have : a = nA := by omega
    subst this
    simp only [lp_X0_tellAccount_28]
    rw [if_pos (show d_X4_rows (nI a) ≤ nI a from Int32.le_refl _)]
    show _ = some (x + 0 + 100000)
    rw [Int32.add_zero]
  | succ d ih =>
    intro a k x ha hk
    obtain ⟨k, rfl⟩ : ∃ k', k = k' + 1 := ⟨k - 1, by omega⟩
    obtain ⟨g, r, w, h1, h2, h3, h4, h5, h6, h7, h8, h9⟩ := jA a (by omega)
    simp only [lp_X0_tellAccount_28]
    rw [if_neg (show ¬ d_X4_rows (nI nA) ≤ nI a from nI_ge (by omega) (by omega)), getA7 (by omega), ob1_some, getA0 (by omega), ob1_some, List.range'_succ]
    unfold j_X0_tellAccount_69
    simp only [getA1 (show a < 40 by omega), ob1_some, h6, getR0 (show r < 20 by omega), nI_s]
    show _ = some (x + (net fR fA i a + smI (net fR fA i) (List.range' (a + 1) d)) + 100000)
    unfold net
    rw [h6, nI_clamp (by omega)]
    by_cases c1 : fA (8 * a) = nI i
    · by_cases c2 : fR (4 * r) = nI i
      · rw [if_pos c1, if_pos c2, if_pos c1, if_pos c2, ih (a + 1) k _ (by omega) (by omega)]
        congr 2
        rw [Int32.sub_self, Int32.zero_add, Int32.add_sub_cancel]
        rfl
      · rw [if_pos c1, if_neg c2, if_pos c1, if_neg c2, ih (a + 1) k _ (by omega) (by omega)]
        congr 2
        rw [Int32.sub_zero, Int32.add_assoc]
        rfl
    · by_cases c2 : fR (4 * r) = nI i
      · rw [if_neg c1, if_pos c2, if_neg c1, if_pos c2, ih (a + 1) k _ (by omega) (by omega)]
        congr 2
        rw [Int32.zero_sub, Int32.sub_eq_add_neg, Int32.add_assoc]
        rfl
      · rw [if_neg c1, if_neg c2, if_neg c1, if_neg c2, ih (a + 1) k _ (by omega) (by omega)]
        congr 2
        rw [Int32.sub_self, Int32.zero_add]
        rfl
theorem v_acc (h : NX t fT fR fA fS fE ri hd ln rnd nR nA n q) {i : Nat} (hi : i < 8) : q_account (nI i) t = some (fT (2 * i) + 100000) := by
  rw [qv_account, h.1]
  show d_X0_tellAccount (nI i) fT fR fA (nI nA) = _
  have hM := h.2.2.2.1
  unfold d_X0_tellAccount
  rw [if_neg (has8 hi), getT1 hi, ob1_some]
  show lp_X0_tellAccount_28 fT fR fA (nI nA) (nI i) fuel _ (nI 0) = _
  rw [e_acc hM.2.2.2.1 hM.1 hM.2.1 nA 0 fuel _ (by omega) (k_fuel (bA h)), ← hM.2.2.2.2.2.2.1 i hi]
/-- the richest -/
theorem e_rich {fT : F_} : ∀ (d i k b : Nat), i + d = 8 → d < k → b < 8 → b < i → (∀ j, j < i → fT (2 * j) ≤ fT (2 * b)) → (∀ j, j < b → fT (2 * j) < fT (2 * b)) → ∃ b', b' < 8 ∧ lp_X0_richestTrader_4 fT k (nI b) (nI i) = some (nI b') ∧ (∀ j, j < 8 → fT (2 * j) ≤ fT (2 * b')) ∧ ∀ j, j < b' → fT (2 * j) < fT (2 * b') := by
  intro d
  induction d with
  | zero =>
    intro i k b hi hk hb hbi h1 h2
    obtain ⟨k, rfl⟩ : ∃ k', k = k' + 1 := ⟨k - 1, by omega⟩
    have : i = 8 := by omega
    subst this
    exact ⟨b, hb, by simp only [lp_X0_richestTrader_4]; rw [if_pos (show (8 : Int32) ≤ nI 8 by decide)], h1, h2⟩
  | succ d ih =>
    intro i k b hi hk hb hbi h1 h2
    obtain ⟨k, rfl⟩ : ∃ k', k = k' + 1 := ⟨k - 1, by omega⟩
    have hi8 : i < 8 := by omega
    simp only [lp_X0_richestTrader_4]
    rw [if_neg (nlt8 hi8), getT0 hi8, ob1_some, getT0 hb, ob1_some, nI_s]
    by_cases c : fT (2 * i) ≤ fT (2 * b)
    · rw [if_pos c]
      refine ih (i + 1) k b (by omega) (by omega) hb (by omega) (fun j hj => ?_) h2
      by_cases e : j = i
      · subst e; exact c
      · exact h1 j (by omega)
    · rw [if_neg c]
      have c' := Int32.not_le.mp c
      refine ih (i + 1) k i (by omega) (by omega) hi8 (by omega) (fun j hj => ?_) (fun j hj => ?_)
      · by_cases e : j = i
        · subst e; exact Int32.le_refl _
        · exact Int32.le_of_lt (Int32.lt_of_le_of_lt (h1 j (by omega)) c')
      · exact Int32.lt_of_le_of_lt (h1 j (by omega)) c'
theorem v_rich (h : NX t fT fR fA fS fE ri hd ln rnd nR nA n q) : ∃ b, b < 8 ∧ q_richest t = some (nI b) ∧ (∀ j, j < 8 → fT (2 * j) ≤ fT (2 * b)) ∧ ∀ j, j < b → fT (2 * j) < fT (2 * b) := by
  rw [qv_richest, h.1]
  show ∃ b, b < 8 ∧ lp_X0_richestTrader_4 fT fuel (nI 0) (nI 1) = some (nI b) ∧ _
  refine e_rich 7 1 fuel 0 (by omega) (by decide) (by decide) (by decide) (fun j hj => ?_) (fun j hj => absurd hj (by omega))
  have : j = 0 := by omega
  subst this
  exact Int32.le_refl _
/-! riddles -/
theorem v_rd (h : NX t fT fR fA fS fE ri hd ln rnd nR nA n q) {i c : Nat} (hi : i < nR) (hc : c < 4) : q_riddle (nI i) (nI c) t = some (fR (4 * i + c)) := by
  have h20 : i < 20 := by have := h.2.2.2.1.1; omega
  rw [qv_riddle, h.1]
  show d_X0_tellRiddle (nI i) (nI c) fR (nI nR) fA (nI nA) = _
  unfold d_X0_tellRiddle
  rw [if_neg (has_nI hi (bR h)), getR h20 hc]
  simp only [ob1_some]
  rcases n4cases hc with rfl | rfl | rfl | rfl
  · rw [if_pos (show nI 0 = (0 : Int32) from rfl)]
  · rw [if_neg (by decide), if_pos (show nI 1 = (1 : Int32) from rfl)]
  · rw [if_neg (by decide), if_neg (by decide), if_pos (show nI 2 = (2 : Int32) from rfl)]
  · rw [if_neg (by decide), if_neg (by decide), if_neg (by decide), if_pos (show nI 3 = (3 : Int32) from rfl)]
theorem v_rd4 (h : NX t fT fR fA fS fE ri hd ln rnd nR nA n q) {i : Nat} (hi : i < nR) : q_riddle (nI i) 4 t = some (nI ((List.range' 0 nA).countP (fun a => decide (fA (8 * a + 1) = nI i)))) := by
  rw [qv_riddle, h.1]
  show d_X0_tellRiddle (nI i) 4 fR (nI nR) fA (nI nA) = _
  unfold d_X0_tellRiddle
  rw [if_neg (has_nI hi (bR h)), if_neg (by decide), if_neg (by decide), if_neg (by decide), if_neg (by decide), if_pos rfl, e_countOf _ (gA1 h) (bA h), ob1_some]
theorem v_rd5 (h : NX t fT fR fA fS fE ri hd ln rnd nR nA n q) {i : Nat} (hi : i < nR) : q_riddle (nI i) 5 t = some (nI ((List.range' 0 nA).countP (fun a => decide (fA (8 * a + 1) = nI i) && decide (fA (8 * a + 4) = 0)))) := by
  rw [qv_riddle, h.1]
  show d_X0_tellRiddle (nI i) 5 fR (nI nR) fA (nI nA) = _
  unfold d_X0_tellRiddle
  rw [if_neg (has_nI hi (bR h)), if_neg (by decide), if_neg (by decide), if_neg (by decide), if_neg (by decide), if_neg (by decide), if_pos rfl, e_countOfBoth _ _ (gA1 h) (gA4 h) (bA h), ob1_some]
theorem v_rd6 (h : NX t fT fR fA fS fE ri hd ln rnd nR nA n q) {i : Nat} (hi : i < nR) : (fR (4 * i + 3) = 1 ∧ ∃ a, a < nA ∧ q_riddle (nI i) 6 t = some (nI a) ∧ fA (8 * a + 1) = nI i ∧ fA (8 * a + 4) = 1) ∨ (fR (4 * i + 3) ≠ 1 ∧ q_riddle (nI i) 6 t = some (-5)) := by
  have jP := h.2.2.2.1.2.2.2.2.1 i hi
  rw [qv_riddle, h.1]
  show (_ ∧ ∃ a, a < nA ∧ d_X0_tellRiddle (nI i) 6 fR (nI nR) fA (nI nA) = _ ∧ _) ∨ (_ ∧ d_X0_tellRiddle (nI i) 6 fR (nI nR) fA (nI nA) = _)
  unfold d_X0_tellRiddle
  rw [if_neg (has_nI hi (bR h)), if_neg (by decide), if_neg (by decide), if_neg (by decide), if_neg (by decide), if_neg (by decide), if_neg (by decide), if_pos rfl, ob1_id]
  show (_ ∧ ∃ a, a < nA ∧ lp_X4_rowOfBoth_3 320 fA 8 (nI nA) 1 (nI i) 4 1 fuel (nI 0) = _ ∧ _) ∨ (_ ∧ lp_X4_rowOfBoth_3 320 fA 8 (nI nA) 1 (nI i) 4 1 fuel (nI 0) = _)
  have hrow := e_rowOfBoth (p2 := nI i) (p4 := 1) _ _ (gA1 h) (gA4 h) (bA h) nA 0 fuel (by omega) (k_fuel (bA h))
  by_cases c : fR (4 * i + 3) = 1
  · refine Or.inl ⟨c, ?_⟩
    rw [if_pos c] at jP
    have hex : ∃ a, a < nA ∧ fA (8 * a + 1) = nI i ∧ fA (8 * a + 4) = 1 := by
      have : 0 < pcR fA nA i := by omega
      unfold pcR at this
      rw [List.countP_pos_iff] at this
      obtain ⟨a, ha, hp⟩ := this
      rw [Bool.and_eq_true, decide_eq_true_eq, decide_eq_true_eq] at hp
      exact ⟨a, mem_r0.mp ha, hp⟩
    obtain ⟨a, ha, hmin⟩ : ∃ a, (a < nA ∧ fA (8 * a + 1) = nI i ∧ fA (8 * a + 4) = 1) ∧ ∀ j, j < a → ¬ (j < nA ∧ fA (8 * j + 1) = nI i ∧ fA (8 * j + 4) = 1) := by
      obtain ⟨a0, h0⟩ := hex
      clear jP hrow
      induction a0 using Nat.strongRecOn with
      | ind a0 ih =>
        by_cases z : ∃ j, j < a0 ∧ (j < nA ∧ fA (8 * j + 1) = nI i ∧ fA (8 * j + 4) = 1)
        · obtain ⟨j, hj, hp⟩ := z
          exact ih j hj hp
        · exact ⟨a0, h0, fun j hj hp => z ⟨j, hj, hp⟩⟩
    exact ⟨a, ha.1, hrow.2 a (Nat.zero_le a) ha.1 ha.2.1 ha.2.2 (fun j _ hj hp => hmin j hj ⟨by omega, hp⟩), ha.2⟩
  · refine Or.inr ⟨c, hrow.1 (fun j _ hj hp => ?_)⟩
    rw [if_neg c] at jP
    unfold pcR at jP
    rw [List.countP_eq_zero] at jP
    exact jP j (mem_r0.mpr hj) (by rw [hp.1, hp.2]; simp)
/-! answers -/
theorem v_an (h : NX t fT fR fA fS fE ri hd ln rnd nR nA n q) {i c : Nat} (hi : i < nA) (hc : c < 8) : q_answer (nI i) (nI c) t = some (fA (8 * i + c)) := by
  have h40 : i < 40 := by have := h.2.2.2.1.2.1; omega
  rw [qv_answer, h.1]
  show d_X0_tellAnswer (nI i) (nI c) fA (nI nA) ri hd ln = _
  unfold d_X0_tellAnswer
  rw [if_neg (has_nI hi (bA h)), if_neg (fun e => by have := (nI_inj (b := 8) (by omega) (by decide)).mp e; omega), if_neg (nI_pos (by omega)), if_pos (show nI c ≤ 8 from nI_le (b := 8) (by omega) (by decide)), getA h40 hc, ob1_some]
theorem v_an8w (h : NX t fT fR fA fS fE ri hd ln rnd nR nA n q) {i : Nat} (hi : i < nA) (h0 : fA (8 * i + 4) = 0) : ∃ k, k < q.length ∧ q_answer (nI i) 8 t = some (nI k) ∧ q_waits (nI k) t = some (nI i) := by
  obtain ⟨hq40, ⟨hh, hh40, ehd, hri⟩, eln⟩ := h.2.2.2.2
  have jW := h.2.2.2.1.2.2.2.2.2.1
  have hA := h.2.2.2.1.2.1
  have hmem : i ∈ q := (jW.2 i).mpr ⟨hi, h0⟩
  obtain ⟨m, hm, em⟩ : ∃ m, m < q.length ∧ q.getD m 0 = i := by
    obtain ⟨m, hm⟩ := List.getElem?_of_mem hmem
    have hlt : m < q.length := (List.getElem?_eq_some_iff.mp hm).1
    exact ⟨m, hlt, by rw [List.getD_eq_getElem?_getD, hm]; rfl⟩
  have hinj : ∀ j, j < q.length → ri ((hh + j) % 40) = nI i → j = m := fun j hj e => by
    rw [hri j hj] at e
    have hj40 : q.getD j 0 < 40 := by have := ((jW.2 _).mp (getD_mem hj)).1; omega
    rw [nI_inj (by omega) (by omega), ← em] at e
    have hjj : q[j]? = q[m]? := by
      rw [List.getD_eq_getElem?_getD, List.getD_eq_getElem?_getD, List.getElem?_eq_getElem hj, List.getElem?_eq_getElem hm] at e
      rw [List.getElem?_eq_getElem hj, List.getElem?_eq_getElem hm]
      exact congrArg some e
    exact (List.getElem?_inj hj jW.1).mp hjj
  have hpl := (e_placeOf (ri := ri) (a := nI i) ehd eln hh40 hq40 q.length 0 fuel (by omega) (k_fuel (by omega))).2 m (Nat.zero_le m) hm (by rw [hri m hm, em]) (fun j _ hj e => by have := hinj j (by omega) e; omega)
  refine ⟨m, hm, ?_, ?_⟩
  · rw [qv_answer, h.1]
    show d_X0_tellAnswer (nI i) 8 fA (nI nA) ri hd ln = _
    unfold d_X0_tellAnswer
    rw [if_neg (has_nI hi (bA h)), if_pos rfl, ob1_id]
    exact hpl
  · rw [qv_waits t (nI_pos' (by omega)), h.1]
    show d_X3_at (nI m) ri hd ln = _
    rw [e_at ehd eln hh40 hq40 hm, hri m hm, em]
theorem v_an8n (h : NX t fT fR fA fS fE ri hd ln rnd nR nA n q) {i : Nat} (hi : i < nA) (h0 : fA (8 * i + 4) ≠ 0) : q_answer (nI i) 8 t = some (-5) := by
  obtain ⟨hq40, ⟨hh, hh40, ehd, hri⟩, eln⟩ := h.2.2.2.2
  have jW := h.2.2.2.1.2.2.2.2.2.1
  have hA := h.2.2.2.1.2.1
  rw [qv_answer, h.1]
  show d_X0_tellAnswer (nI i) 8 fA (nI nA) ri hd ln = _
  unfold d_X0_tellAnswer
  rw [if_neg (has_nI hi (bA h)), if_pos rfl, ob1_id]
  refine (e_placeOf (ri := ri) (a := nI i) ehd eln hh40 hq40 q.length 0 fuel (by omega) (k_fuel (by omega))).1 (fun j _ hj e => ?_)
  rw [hri j hj] at e
  have hjm := (jW.2 _).mp (getD_mem hj)
  rw [nI_inj (by omega) (by omega)] at e
  rw [e] at hjm
  exact h0 hjm.2
theorem v_waits (h : NX t fT fR fA fS fE ri hd ln rnd nR nA n q) : q_waits ln t = some (-5) := by
  obtain ⟨hq40, ⟨hh, hh40, ehd, hri⟩, eln⟩ := h.2.2.2.2
  rw [qv_waits t (by rw [eln]; exact nI_pos' (by omega)), h.1]
  show d_X3_at ln ri hd ln = _
  unfold d_X3_at
  rw [if_neg (by rw [eln]; exact nI_pos (by omega)), if_neg Int32.lt_irrefl]
theorem v_reason_w (h : NX t fT fR fA fS fE ri hd ln rnd nR nA n q) {i : Nat} (hi : i < nA) (h0 : fA (8 * i + 4) = 0) : ∃ c, c < 5 ∧ q_reason (nI i) t = some (nI c) := by
  have hA := h.2.2.2.1.2.1
  obtain ⟨r, w, t', g, ho, hr, hw1, hw2, htg, t0, t2, pb⟩ := h.2.2.2.1.ans hi
  unfold q_reason d_X5_reason
  rw [h.1]
  show ∃ c, c < 5 ∧ (ob1 (d_X0_errorIfNotWaiting (nI i) fA (nI nA)) fun r1 => if 0 ≤ r1 then (ob1 (d_X0_paymentFor (nI i) fR fA fS) fun r4 => ob1 (d_X0_hindrance (nI i) r4 fT fR fA fS fE) fun r6 => some r6) else some r1) = _
  rw [e_errW hi hA, ob1_some, if_pos h0, if_pos (show (0 : Int32) ≤ 0 by decide), e_paymentFor ho, ob1_some, e_hind ho, ob1_some]
  by_cases c1 : fR (4 * r + 3) = 0
  · rw [if_pos c1]
    by_cases c2 : fR (4 * r + 2) = fA (8 * i + 2)
    · rw [if_pos c2]
      by_cases c3 : ab (tl (nI w + fS 0) - tl (nI w + fS 2)) ≤ fE 0
      · rw [if_pos c3]
        by_cases c4 : -(fE 9) ≤ fT (2 * t') - pm (fR (4 * r + 1)) (tl (nI w + fS 0)) (tl (nI w + fS 2))
        · rw [if_pos c4]; exact ⟨0, by decide, rfl⟩
        · rw [if_neg c4]; exact ⟨4, by decide, rfl⟩
      · rw [if_neg c3]; exact ⟨3, by decide, rfl⟩
    · rw [if_neg c2]; exact ⟨2, by decide, rfl⟩
  · rw [if_neg c1]; exact ⟨1, by decide, rfl⟩
theorem v_reason_n (h : NX t fT fR fA fS fE ri hd ln rnd nR nA n q) {i : Nat} (hi : i < nA) (h0 : fA (8 * i + 4) ≠ 0) : q_reason (nI i) t = some (-4) := by
  unfold q_reason d_X5_reason
  rw [h.1]
  show (ob1 (d_X0_errorIfNotWaiting (nI i) fA (nI nA)) fun r1 => if 0 ≤ r1 then (ob1 (d_X0_paymentFor (nI i) fR fA fS) fun r4 => ob1 (d_X0_hindrance (nI i) r4 fT fR fA fS fE) fun r6 => some r6) else some r1) = _
  rw [e_errW hi h.2.2.2.1.2.1, ob1_some, if_neg h0, if_neg n04]
/-! counts -/
def st2 (fA : F_) (m : Nat) : Nat := (List.range' 0 m).countP (fun a => decide (fA (8 * a + 4) = 2))
theorem e_sum8 {fT : F_} : d_X4_sumOf 16 1 fT 2 8 = some (smI (fun k => fT (2 * k + 1)) (List.range' 0 8)) := e_sumOf (N := 8) _ (fun i hi => getT1 hi) (by decide)
theorem e_sum2 {fS : F_} : d_X4_sumOf 4 1 fS 2 2 = some (fS 1 + fS 3) := by
  have := e_sumOf (n := 4) (f := fS) (p1 := 1) (cols := 2) (N := 2) (fun i => fS (2 * i + 1)) (fun i hi => getS1 hi) (by decide)
  rw [show (2 : Int32) = nI 2 from rfl] at *
  rw [this]
  show some (fS (2 * 0 + 1) + (fS (2 * 1 + 1) + 0)) = _
  rw [Int32.add_zero]
theorem v_c0 (h : NX t fT fR fA fS fE ri hd ln rnd nR nA n q) : q_count 0 t = some (rnd) := by
  rw [qv_count t (by decide) (by decide), h.1]
  show d_X0_tellCount 0 fT fR (nI nR) fA (nI nA) fS fE ln rnd = _
  unfold d_X0_tellCount
  rw [if_pos rfl]
theorem v_c1 (h : NX t fT fR fA fS fE ri hd ln rnd nR nA n q) : q_count 1 t = some (nI nR) := by
  rw [qv_count t (by decide) (by decide), h.1]
  show d_X0_tellCount 1 fT fR (nI nR) fA (nI nA) fS fE ln rnd = _
  unfold d_X0_tellCount
  rw [if_neg (by decide), if_pos rfl]
  rfl
theorem v_c2 (h : NX t fT fR fA fS fE ri hd ln rnd nR nA n q) : q_count 2 t = some (nI (op fR nR)) := by
  rw [qv_count t (by decide) (by decide), h.1]
  show d_X0_tellCount 2 fT fR (nI nR) fA (nI nA) fS fE ln rnd = _
  unfold d_X0_tellCount
  rw [if_neg (by decide), if_neg (by decide), if_pos rfl, e_countOf _ (gR3 h) (bR h), ob1_some]
  rfl
theorem v_c3 (h : NX t fT fR fA fS fE ri hd ln rnd nR nA n q) : q_count 3 t = some (nI nA) := by
  rw [qv_count t (by decide) (by decide), h.1]
  show d_X0_tellCount 3 fT fR (nI nR) fA (nI nA) fS fE ln rnd = _
  unfold d_X0_tellCount
  rw [if_neg (by decide), if_neg (by decide), if_neg (by decide), if_pos rfl]
  rfl
theorem v_c4 (h : NX t fT fR fA fS fE ri hd ln rnd nR nA n q) : q_count 4 t = some (ln) := by
  rw [qv_count t (by decide) (by decide), h.1]
  show d_X0_tellCount 4 fT fR (nI nR) fA (nI nA) fS fE ln rnd = _
  unfold d_X0_tellCount
  rw [if_neg (by decide), if_neg (by decide), if_neg (by decide), if_neg (by decide), if_pos rfl]
  rfl
theorem v_c5 (h : NX t fT fR fA fS fE ri hd ln rnd nR nA n q) : q_count 5 t = some (nI (st1 fA nA)) := by
  rw [qv_count t (by decide) (by decide), h.1]
  show d_X0_tellCount 5 fT fR (nI nR) fA (nI nA) fS fE ln rnd = _
  unfold d_X0_tellCount
  rw [if_neg (by decide), if_neg (by decide), if_neg (by decide), if_neg (by decide), if_neg (by decide), if_pos rfl, e_countOf _ (gA4 h) (bA h), ob1_some]
  rfl
theorem v_c6 (h : NX t fT fR fA fS fE ri hd ln rnd nR nA n q) : q_count 6 t = some (nI (st2 fA nA)) := by
  rw [qv_count t (by decide) (by decide), h.1]
  show d_X0_tellCount 6 fT fR (nI nR) fA (nI nA) fS fE ln rnd = _
  unfold d_X0_tellCount
  rw [if_neg (by decide), if_neg (by decide), if_neg (by decide), if_neg (by decide), if_neg (by decide), if_neg (by decide), if_pos rfl, e_countOf _ (gA4 h) (bA h), ob1_some]
  rfl
theorem v_c7 (h : NX t fT fR fA fS fE ri hd ln rnd nR nA n q) : q_count 7 t = some (smI (fun a => fA (8 * a + 6)) (List.range' 0 nA)) := by
  rw [qv_count t (by decide) (by decide), h.1]
  show d_X0_tellCount 7 fT fR (nI nR) fA (nI nA) fS fE ln rnd = _
  unfold d_X0_tellCount
  rw [if_neg (by decide), if_neg (by decide), if_neg (by decide), if_neg (by decide), if_neg (by decide), if_neg (by decide), if_neg (by decide), if_pos rfl, e_sumOf _ (gA6 h) (bA h), ob1_some]
theorem v_c8 (h : NX t fT fR fA fS fE ri hd ln rnd nR nA n q) : q_count 8 t = some (fS 1 + fS 3) := by
  rw [qv_count t (by decide) (by decide), h.1]
  show d_X0_tellCount 8 fT fR (nI nR) fA (nI nA) fS fE ln rnd = _
  unfold d_X0_tellCount
  rw [if_neg (by decide), if_neg (by decide), if_neg (by decide), if_neg (by decide), if_neg (by decide), if_neg (by decide), if_neg (by decide), if_neg (by decide), if_pos rfl, e_sum2, ob1_some]
theorem v_c9 (h : NX t fT fR fA fS fE ri hd ln rnd nR nA n q) : q_count 9 t = some (smI (fun k => fT (2 * k + 1)) (List.range' 0 8)) := by
  rw [qv_count t (by decide) (by decide), h.1]
  show d_X0_tellCount 9 fT fR (nI nR) fA (nI nA) fS fE ln rnd = _
  unfold d_X0_tellCount
  rw [if_neg (by decide), if_neg (by decide), if_neg (by decide), if_neg (by decide), if_neg (by decide), if_neg (by decide), if_neg (by decide), if_neg (by decide), if_neg (by decide), if_pos rfl, e_sum8, ob1_some]
theorem v_c10 (h : NX t fT fR fA fS fE ri hd ln rnd nR nA n q) : q_count 10 t = some (nI ((List.range' 0 8).countP (fun k => decide (¬ 0 ≤ fT (2 * k))))) := by
  rw [qv_count t (by decide) (by decide), h.1]
  show d_X0_tellCount 10 fT fR (nI nR) fA (nI nA) fS fE ln rnd = _
  unfold d_X0_tellCount
  rw [if_neg (by decide), if_neg (by decide), if_neg (by decide), if_neg (by decide), if_neg (by decide), if_neg (by decide), if_neg (by decide), if_neg (by decide), if_neg (by decide), if_neg (by decide), if_pos rfl, e_tradersInDebt, ob1_some]
theorem v_c11 (h : NX t fT fR fA fS fE ri hd ln rnd nR nA n q) : q_count 11 t = some (smI (fun a => fA (8 * a + 7)) (List.range' 0 nA)) := by
  rw [qv_count t (by decide) (by decide), h.1]
  show d_X0_tellCount 11 fT fR (nI nR) fA (nI nA) fS fE ln rnd = _
  unfold d_X0_tellCount
  rw [if_neg (by decide), if_neg (by decide), if_neg (by decide), if_neg (by decide), if_neg (by decide), if_neg (by decide), if_neg (by decide), if_neg (by decide), if_neg (by decide), if_neg (by decide), if_neg (by decide), if_pos rfl, e_sumOf _ (gA7 h) (bA h), ob1_some]
theorem v_c12 (h : NX t fT fR fA fS fE ri hd ln rnd nR nA n q) : q_count 12 t = some (fS 0 + 9) := by
  rw [qv_count t (by decide) (by decide), h.1]
  show d_X0_tellCount 12 fT fR (nI nR) fA (nI nA) fS fE ln rnd = _
  unfold d_X0_tellCount
  rw [if_neg (by decide), if_neg (by decide), if_neg (by decide), if_neg (by decide), if_neg (by decide), if_neg (by decide), if_neg (by decide), if_neg (by decide), if_neg (by decide), if_neg (by decide), if_neg (by decide), if_neg (by decide), if_pos rfl, show (12 : Int32) - 12 = 0 from rfl, getS_00, ob1_some]
theorem v_c13 (h : NX t fT fR fA fS fE ri hd ln rnd nR nA n q) : q_count 13 t = some (fS 2 + 9) := by
  rw [qv_count t (by decide) (by decide), h.1]
  show d_X0_tellCount 13 fT fR (nI nR) fA (nI nA) fS fE ln rnd = _
  unfold d_X0_tellCount
  rw [if_neg (by decide), if_neg (by decide), if_neg (by decide), if_neg (by decide), if_neg (by decide), if_neg (by decide), if_neg (by decide), if_neg (by decide), if_neg (by decide), if_neg (by decide), if_neg (by decide), if_neg (by decide), if_neg (by decide), if_pos rfl, show (13 : Int32) - 12 = 1 from rfl, getS_10, ob1_some]
theorem v_c14 (h : NX t fT fR fA fS fE ri hd ln rnd nR nA n q) : q_count 14 t = some (fE 0) := by
  rw [qv_count t (by decide) (by decide), h.1]
  show d_X0_tellCount 14 fT fR (nI nR) fA (nI nA) fS fE ln rnd = _
  unfold d_X0_tellCount
  rw [if_neg (by decide), if_neg (by decide), if_neg (by decide), if_neg (by decide), if_neg (by decide), if_neg (by decide), if_neg (by decide), if_neg (by decide), if_neg (by decide), if_neg (by decide), if_neg (by decide), if_neg (by decide), if_neg (by decide), if_neg (by decide), if_pos rfl, show (14 : Int32) - 14 = 0 from rfl, getE_00, ob1_some]
theorem v_c15 (h : NX t fT fR fA fS fE ri hd ln rnd nR nA n q) : q_count 15 t = some (fE 3) := by
  rw [qv_count t (by decide) (by decide), h.1]
  show d_X0_tellCount 15 fT fR (nI nR) fA (nI nA) fS fE ln rnd = _
  unfold d_X0_tellCount
  rw [if_neg (by decide), if_neg (by decide), if_neg (by decide), if_neg (by decide), if_neg (by decide), if_neg (by decide), if_neg (by decide), if_neg (by decide), if_neg (by decide), if_neg (by decide), if_neg (by decide), if_neg (by decide), if_neg (by decide), if_neg (by decide), if_neg (by decide), if_pos rfl, show (15 : Int32) - 14 = 1 from rfl, getE_10, ob1_some]
theorem v_c16 (h : NX t fT fR fA fS fE ri hd ln rnd nR nA n q) : q_count 16 t = some (fE 6) := by
  rw [qv_count t (by decide) (by decide), h.1]
  show d_X0_tellCount 16 fT fR (nI nR) fA (nI nA) fS fE ln rnd = _
  unfold d_X0_tellCount
  rw [if_neg (by decide), if_neg (by decide), if_neg (by decide), if_neg (by decide), if_neg (by decide), if_neg (by decide), if_neg (by decide), if_neg (by decide), if_neg (by decide), if_neg (by decide), if_neg (by decide), if_neg (by decide), if_neg (by decide), if_neg (by decide), if_neg (by decide), if_neg (by decide), if_pos rfl, show (16 : Int32) - 14 = 2 from rfl, getE_20, ob1_some]
theorem v_c17 (h : NX t fT fR fA fS fE ri hd ln rnd nR nA n q) : q_count 17 t = some (fE 9) := by
  rw [qv_count t (by decide) (by decide), h.1]
  show d_X0_tellCount 17 fT fR (nI nR) fA (nI nA) fS fE ln rnd = _
  unfold d_X0_tellCount
  rw [if_neg (by decide), if_neg (by decide), if_neg (by decide), if_neg (by decide), if_neg (by decide), if_neg (by decide), if_neg (by decide), if_neg (by decide), if_neg (by decide), if_neg (by decide), if_neg (by decide), if_neg (by decide), if_neg (by decide), if_neg (by decide), if_neg (by decide), if_neg (by decide), if_neg (by decide), if_pos rfl, show (17 : Int32) - 14 = 3 from rfl, getE_30, ob1_some]
end TELL
