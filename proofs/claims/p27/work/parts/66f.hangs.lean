/-! part 66f: all of a trade hangs together -/
def sN (f : Nat → Nat) : Nat → Nat
  | 0 => 0
  | k + 1 => sN f k + f k
theorem sN_congr {f g : Nat → Nat} : ∀ {m : Nat}, (∀ k, k < m → f k = g k) → sN f m = sN g m
  | 0, _ => rfl
  | m + 1, h => by
    show sN f m + f m = sN g m + g m
    rw [h m (by omega), sN_congr (fun k hk => h k (by omega))]
/-- counted by what they belong to, all are counted once -/
theorem sN_part {p : Nat → Nat → Bool} {c : Nat → Bool} {f : Nat → Nat} {l : List Nat} : ∀ (m : Nat), (∀ k, k < m → ∀ a ∈ l, p k a = (c a && decide (f a = k))) → sN (fun k => l.countP (p k)) m = l.countP (fun a => c a && decide (f a < m))
  | 0, _ => by
    show 0 = _
    exact (cp_zero fun a _ => by rw [decide_eq_false (Nat.not_lt_zero _), Bool.and_false]).symm
  | m + 1, h => by
    show sN (fun k => l.countP (p k)) m + l.countP (p m) = _
    rw [sN_part m (fun k hk => h k (by omega)), cp_congr (fun a ha => h m (by omega) a ha)]
    clear h
    induction l with
    | nil => rfl
    | cons a l ih =>
      rw [List.countP_cons, List.countP_cons, List.countP_cons, ← ih]
      cases c a
      · simp
      · by_cases e : f a < m
        · rw [decide_eq_true e, decide_eq_false (show ¬ f a = m by omega), decide_eq_true (show f a < m + 1 by omega)]
          simp; omega
        · by_cases e2 : f a = m
          · rw [decide_eq_false e, decide_eq_true e2, decide_eq_true (show f a < m + 1 by omega)]
            simp; omega
          · rw [decide_eq_false e, decide_eq_false e2, decide_eq_false (show ¬ f a < m + 1 by omega)]
            simp
theorem cp_and {p q : Nat → Bool} {l : List Nat} : l.countP (fun a => p a && q a) ≤ l.countP p := by
  induction l with
  | nil => exact Nat.le_refl _
  | cons a l ih =>
    rw [List.countP_cons, List.countP_cons]
    cases p a <;> cases q a <;> simp <;> omega
theorem cp_and2 {p q r : Nat → Bool} {l : List Nat} (hd : ∀ a, q a = true → r a = true → False) : l.countP (fun a => p a && q a) + l.countP (fun a => p a && r a) ≤ l.countP p := by
  induction l with
  | nil => exact Nat.le_refl _
  | cons a l ih =>
    rw [List.countP_cons, List.countP_cons, List.countP_cons]
    have := hd a
    cases hp : p a <;> cases hq : q a <;> cases hr : r a <;> simp_all <;> omega
/-- the two ways in which coins are told -/
theorem coins2 {c : Int32} (h : -2147483648 < c.toInt) (p0 p1 : Int32) (h0 : p0 = if 0 < -c then -c else 0) (h1 : p1 = if 0 < c then c else 0) : ¬ p0 < 0 ∧ ¬ p1 < 0 ∧ (p0 = 0 ∨ p1 = 0) ∧ p1 - p0 = c ∧ (p0 ≤ 0 ↔ 0 ≤ c) := by
  have hn := neg_toInt h
  by_cases a : 0 < c
  · have a' := a
    rw [Int32.lt_iff_toInt_lt, i0] at a'
    have b : ¬ 0 < -c := by rw [Int32.lt_iff_toInt_lt, i0]; omega
    rw [if_neg b] at h0
    rw [if_pos a] at h1
    subst h0; subst h1
    refine ⟨by decide, ?_, Or.inl rfl, Int32.sub_zero _, ⟨fun _ => Int32.le_of_lt a, fun _ => by decide⟩⟩
    rw [Int32.lt_iff_toInt_lt, i0]; omega
  · rw [if_neg a] at h1
    subst h1
    rw [Int32.lt_iff_toInt_lt, i0] at a
    by_cases b : 0 < -c
    · rw [if_pos b] at h0
      subst h0
      rw [Int32.lt_iff_toInt_lt, i0] at b
      refine ⟨?_, by decide, Or.inr rfl, by rw [Int32.zero_sub, Int32.neg_neg], ⟨fun x => ?_, fun x => ?_⟩⟩
      · rw [Int32.lt_iff_toInt_lt, i0]; omega
      · rw [Int32.le_iff_toInt_le, i0] at x ⊢; omega
      · rw [Int32.le_iff_toInt_le, i0] at x ⊢; omega
    · rw [if_neg b] at h0
      subst h0
      rw [Int32.lt_iff_toInt_lt, i0] at b
      have hc : c = 0 := Int32.toInt_inj.mp (by rw [i0]; omega)
      subst hc
      exact ⟨by decide, by decide, Or.inl rfl, by decide, by decide⟩
section HANGS
variable {t : Td} {fT fR fA fS fE ri : F_} {hd ln rnd : Int32} {nR nA n : Nat} {q : List Nat}
theorem v_rd3 (h : NX t fT fR fA fS fE ri hd ln rnd nR nA n q) {i : Nat} (hi : i < nR) : q_riddle (nI i) 3 t = some (fR (4 * i + 3)) := v_rd h (c := 3) hi (by decide)
theorem v_rd1 (h : NX t fT fR fA fS fE ri hd ln rnd nR nA n q) {i : Nat} (hi : i < nR) : q_riddle (nI i) 1 t = some (fR (4 * i + 1)) := v_rd h (c := 1) hi (by decide)
theorem v_rd0 (h : NX t fT fR fA fS fE ri hd ln rnd nR nA n q) {i : Nat} (hi : i < nR) : q_riddle (nI i) 0 t = some (fR (4 * i)) := v_rd h (c := 0) hi (by decide)
theorem v_an0 (h : NX t fT fR fA fS fE ri hd ln rnd nR nA n q) {i : Nat} (hi : i < nA) : q_answer (nI i) 0 t = some (fA (8 * i)) := v_an h (c := 0) hi (by decide)
theorem v_an1 (h : NX t fT fR fA fS fE ri hd ln rnd nR nA n q) {i : Nat} (hi : i < nA) : q_answer (nI i) 1 t = some (fA (8 * i + 1)) := v_an h (c := 1) hi (by decide)
theorem v_an4 (h : NX t fT fR fA fS fE ri hd ln rnd nR nA n q) {i : Nat} (hi : i < nA) : q_answer (nI i) 4 t = some (fA (8 * i + 4)) := v_an h (c := 4) hi (by decide)
theorem v_an5 (h : NX t fT fR fA fS fE ri hd ln rnd nR nA n q) {i : Nat} (hi : i < nA) : q_answer (nI i) 5 t = some (fA (8 * i + 5)) := v_an h (c := 5) hi (by decide)
theorem v_an6 (h : NX t fT fR fA fS fE ri hd ln rnd nR nA n q) {i : Nat} (hi : i < nA) : q_answer (nI i) 6 t = some (fA (8 * i + 6)) := v_an h (c := 6) hi (by decide)
theorem v_an7 (h : NX t fT fR fA fS fE ri hd ln rnd nR nA n q) {i : Nat} (hi : i < nA) : q_answer (nI i) 7 t = some (fA (8 * i + 7)) := v_an h (c := 7) hi (by decide)
def cAsk (fR : F_) (nR k : Nat) : Nat := (List.range' 0 nR).countP (fun r => decide (fR (4 * r) = nI k))
def cGiv (fA : F_) (nA k : Nat) : Nat := (List.range' 0 nA).countP (fun a => decide (fA (8 * a) = nI k))
def cDeb (fT : F_) (m : Nat) : Nat := (List.range' 0 m).countP (fun k => decide (¬ 0 ≤ fT (2 * k)))
theorem hg1 (h : NX t fT fR fA fS fE ri hd ln rnd nR nA n q) {b : Nat} (hb : b < 8) (m1 : ∀ j, j < 8 → fT (2 * j) ≤ fT (2 * b)) (m2 : ∀ j, j < b → fT (2 * j) < fT (2 * b)) : ∀ (d i k : Nat), i + d = 8 → d < k →
    lp_L_hangs_24 k (smI (fun k => fT (2 * k)) (List.range' 0 i)) (smI (fun k => fT (2 * k + 1)) (List.range' 0 i)) (nI (sN (cAsk fR nR) i)) (nI (sN (cGiv fA nA) i)) (nI (cDeb fT i)) 1 (nI b) (nI i) t =
      j_L_hangs_269 (smI (fun k => fT (2 * k)) (List.range' 0 8)) (smI (fun k => fT (2 * k + 1)) (List.range' 0 8)) (nI (sN (cAsk fR nR) 8)) (nI (sN (cGiv fA nA) 8)) (nI (cDeb fT 8)) 1 t := by
  intro d
  induction d with
  | zero =>
    intro i k hi hk
    obtain ⟨k, rfl⟩ : ∃ k', k = k' + 1 := ⟨k - 1, by omega⟩
    have : i = 8 := by omega
    subst this
    simp only [lp_L_hangs_24]
    rw [if_pos (show (8 : Int32) ≤ nI 8 by decide)]
  | succ d ih =>
    intro i k hi hk
    obtain ⟨k, rfl⟩ : ∃ k', k = k' + 1 := ⟨k - 1, by omega⟩
    have hi8 : i < 8 := by omega
    obtain ⟨hn, hM, hQ⟩ := h.2.2
    have hC := hM.2.2.2.2.2.2.2.2.1
    have hci := hC i hi8
    have hcb := hC b hb
    have hF := hM.2.2.2.2.2.2.2.2.2.1 i hi8
    obtain ⟨p0, h0⟩ : ∃ x, x = if 0 < -(fT (2 * i)) then -(fT (2 * i)) else 0 := ⟨_, rfl⟩
    obtain ⟨p1, h1⟩ : ∃ x, x = if 0 < fT (2 * i) then fT (2 * i) else 0 := ⟨_, rfl⟩
    obtain ⟨a1, a2, a3, a4, a5⟩ := coins2 (c := fT (2 * i)) (by omega) p0 p1 h0 h1
    have e0 : q_trader (nI i) 0 t = some p0 := by rw [v_tr0 h hi8, h0]
    have e1 : q_trader (nI i) 1 t = some p1 := by rw [v_tr1 h hi8, h1]
    have hac : ∀ j, j < 8 → (fT (2 * j) + 100000).toInt = (fT (2 * j)).toInt + 100000 := fun j hj => by
      have := hC j hj
      have e : (100000 : Int32).toInt = 100000 := rfl
      rw [add_toInt (by rw [e]; omega) (by rw [e]; omega), e]
    have k155 : j_L_hangs_155 (lp_L_hangs_24 k) (smI (fun k => fT (2 * k)) (List.range' 0 i)) (smI (fun k => fT (2 * k + 1)) (List.range' 0 i)) (nI (sN (cAsk fR nR) i)) (nI (sN (cGiv fA nA) i)) (nI (cDeb fT i)) (nI b) (nI i) (fT (2 * i)) t =
        j_L_hangs_269 (smI (fun k => fT (2 * k)) (List.range' 0 8)) (smI (fun k => fT (2 * k + 1)) (List.range' 0 8)) (nI (sN (cAsk fR nR) 8)) (nI (sN (cGiv fA nA) 8)) (nI (cDeb fT 8)) 1 t := by
      have w1 := cp_and (p := fun r => decide (fR (4 * r) = nI i)) (q := fun r => decide (fR (4 * r + 3) = 1)) (l := List.range' 0 nR)
      have w2 := cp_and2 (p := fun a => decide (fA (8 * a) = nI i)) (q := fun a => decide (fA (8 * a + 4) = 1)) (r := fun a => decide (fA (8 * a + 4) = 2)) (l := List.range' 0 nA) (fun a x y => by
        rw [decide_eq_true_eq] at x y
        rw [x] at y
        exact absurd y (by decide))
      have w3 := cp_le (p := fun r => decide (fR (4 * r) = nI i)) (n := nR)
      have w4 := cp_le (p := fun a => decide (fA (8 * a) = nI i)) (n := nA)
      have hR := hM.1
      have hA := hM.2.1
      unfold j_L_hangs_155
      rw [v_tr3 h hi8, ob1_some, v_tr2 h hi8, ob1_some, if_neg (nI_nlt w1 (by omega)), v_tr5 h hi8, ob1_some, v_tr6 h hi8, ob1_some, v_tr4 h hi8, ob1_some, nJ_add, if_neg (nI_nlt w2 (by omega))]
      unfold j_L_hangs_205
      rw [v_tr7 h hi8, ob1_some, v_tr2 h hi8, ob1_some, v_tr4 h hi8, ob1_some, e0, ob1_some, nJ_add, nJ_add, nI_s]
      have s1 : smI (fun k => fT (2 * k)) (List.range' 0 i) + fT (2 * i) = smI (fun k => fT (2 * k)) (List.range' 0 (i + 1)) := (smI_succ _ i).symm
      have s2 : smI (fun k => fT (2 * k + 1)) (List.range' 0 i) + fT (2 * i + 1) = smI (fun k => fT (2 * k + 1)) (List.range' 0 (i + 1)) := (smI_succ _ i).symm
      rw [s1, s2]
      have s5 : cDeb fT (i + 1) = cDeb fT i + if decide (¬ 0 ≤ fT (2 * i)) = true then 1 else 0 := cp_succ _ i
      by_cases z : p0 ≤ 0
      · rw [if_pos z, Int32.add_zero]
        rw [decide_eq_false (fun x => x (a5.mp z)), if_neg (by decide)] at s5
        have s5 : cDeb fT (i + 1) = cDeb fT i := s5
        rw [← s5]
        exact ih (i + 1) k (by omega) (by omega)
      · rw [if_neg z, nI_s]
        rw [decide_eq_true (p := ¬ 0 ≤ fT (2 * i)) (fun x => z (a5.mpr x)), if_pos rfl] at s5
        rw [← s5]
        exact ih (i + 1) k (by omega) (by omega)
    have k93 : j_L_hangs_93 (lp_L_hangs_24 k) (smI (fun k => fT (2 * k)) (List.range' 0 i)) (smI (fun k => fT (2 * k + 1)) (List.range' 0 i)) (nI (sN (cAsk fR nR) i)) (nI (sN (cGiv fA nA) i)) (nI (cDeb fT i)) (nI b) (nI i) (fT (2 * i)) t =
        j_L_hangs_269 (smI (fun k => fT (2 * k)) (List.range' 0 8)) (smI (fun k => fT (2 * k + 1)) (List.range' 0 8)) (nI (sN (cAsk fR nR) 8)) (nI (sN (cGiv fA nA) 8)) (nI (cDeb fT 8)) 1 t := by
      have q1 : ¬ fT (2 * b) + 100000 < fT (2 * i) + 100000 := by
        have := Int32.le_iff_toInt_le.mp (m1 i hi8)
        rw [Int32.lt_iff_toInt_lt, hac b hb, hac i hi8]; omega
      unfold j_L_hangs_93
      rw [v_acc h hi8, ob1_some, if_pos rfl, v_tr7 h hi8, ob1_some, if_neg (by rw [Int32.lt_iff_toInt_lt, i0]; omega), v_acc h hb, ob1_some, ob1_some, if_neg q1]
      by_cases z : nI b ≤ nI i
      · rw [if_pos z]; exact k155
      · have z' : i < b := by
          rw [nI_le_iff (by omega) (by omega)] at z
          omega
        have q2 : ¬ fT (2 * b) + 100000 ≤ fT (2 * i) + 100000 := by
          have := Int32.lt_iff_toInt_lt.mp (m2 i z')
          rw [Int32.le_iff_toInt_le, hac b hb, hac i hi8]; omega
        rw [if_neg z, ob1_some, ob1_some, if_neg q2]
        exact k155
    simp only [lp_L_hangs_24]
    rw [if_neg (nlt8 hi8), if_neg n10, e1, ob1_some, e0, ob1_some, ob1_some, if_neg a1, ob1_some, if_neg a2, ob1_some, a4]
    by_cases z : p0 = 0
    · rw [if_pos z]; exact k93
    · rw [if_neg z, ob1_some, if_pos (a3.resolve_left z)]; exact k93
def cOpn (fR : F_) (m : Nat) : Nat := (List.range' 0 m).countP (fun r => decide (fR (4 * r + 3) = 0))
def cSol (fR : F_) (m : Nat) : Nat := (List.range' 0 m).countP (fun r => decide (fR (4 * r + 3) = 1))
def cTo (fA : F_) (nA k : Nat) : Nat := (List.range' 0 nA).countP (fun a => decide (fA (8 * a + 1) = nI k))
def cWt (fA : F_) (nA k : Nat) : Nat := (List.range' 0 nA).countP (fun a => decide (fA (8 * a + 1) = nI k) && decide (fA (8 * a + 4) = 0))
theorem hg2 (h : NX t fT fR fA fS fE ri hd ln rnd nR nA n q) {x1 x2 x3 x4 x5 : Int32} : ∀ (d i k : Nat), i + d = nR → d < k →
    lp_L_hangs_291 k x1 x2 x3 x4 x5 1 (nI nR) (nI (cOpn fR i)) (nI (cSol fR i)) (nI (sN (cWt fA nA) i)) (nI (sN (cTo fA nA) i)) (nI i) t =
      j_L_hangs_501 x1 x2 x3 x4 x5 1 (nI nR) (nI (cOpn fR nR)) (nI (cSol fR nR)) (nI (sN (cWt fA nA) nR)) (nI (sN (cTo fA nA) nR)) t := by
  intro d
  induction d with
  | zero =>
    intro i k hi hk
    obtain ⟨k, rfl⟩ : ∃ k', k = k' + 1 := ⟨k - 1, by omega⟩
    have : i = nR := by omega
    subst this
    simp only [lp_L_hangs_291]
    rw [if_pos (Int32.le_refl _)]
  | succ d ih =>
    intro i k hi hk
    obtain ⟨k, rfl⟩ : ∃ k', k = k' + 1 := ⟨k - 1, by omega⟩
    have hiR : i < nR := by omega
    obtain ⟨hn, hM, hQ⟩ := h.2.2
    have hR := hM.1
    have hA := hM.2.1
    obtain ⟨tr, p, g1, g2, g3, g4, g5, g6⟩ := hM.2.2.1 i hiR
    have w1 := cp_and (p := fun a => decide (fA (8 * a + 1) = nI i)) (q := fun a => decide (fA (8 * a + 4) = 0)) (l := List.range' 0 nA)
    have w4 := cp_le (p := fun a => decide (fA (8 * a + 1) = nI i)) (n := nA)
    have sO : cOpn fR (i + 1) = cOpn fR i + if decide (fR (4 * i + 3) = 0) = true then 1 else 0 := cp_succ _ i
    have sS : cSol fR (i + 1) = cSol fR i + if decide (fR (4 * i + 3) = 1) = true then 1 else 0 := cp_succ _ i
    have k471 : ∀ x9 x10 : Int32, x9 = nI (cOpn fR (i + 1)) → x10 = nI (cSol fR (i + 1)) → j_L_hangs_471 (lp_L_hangs_291 k) x1 x2 x3 x4 x5 1 (nI nR) x9 x10 (nI (sN (cWt fA nA) i)) (nI (sN (cTo fA nA) i)) (nI i) t =
        j_L_hangs_501 x1 x2 x3 x4 x5 1 (nI nR) (nI (cOpn fR nR)) (nI (cSol fR nR)) (nI (sN (cWt fA nA) nR)) (nI (sN (cTo fA nA) nR)) t := by
      intro x9 x10 y1 y2
      subst y1; subst y2
      unfold j_L_hangs_471
      rw [v_rd5 h hiR, ob1_some, v_rd4 h hiR, ob1_some, nJ_add, nJ_add, nI_s]
      exact ih (i + 1) k (by omega) (by omega)
    have k440 : j_L_hangs_440 (lp_L_hangs_291 k) x1 x2 x3 x4 x5 1 (nI nR) (nI (cOpn fR i)) (nI (cSol fR i)) (nI (sN (cWt fA nA) i)) (nI (sN (cTo fA nA) i)) (nI i) (fR (4 * i + 3)) t =
        j_L_hangs_501 x1 x2 x3 x4 x5 1 (nI nR) (nI (cOpn fR nR)) (nI (cSol fR nR)) (nI (sN (cWt fA nA) nR)) (nI (sN (cTo fA nA) nR)) t := by
      unfold j_L_hangs_440 j_L_hangs_455
      rcases g6 with z | z | z
      · rw [z] at sO sS ⊢
        rw [if_pos rfl, if_neg n01]
        refine k471 _ _ ?_ ?_
        · rw [sO, nI_s]; rfl
        · rw [sS, Int32.add_zero]; rfl
      · rw [z] at sO sS ⊢
        rw [if_neg n10, if_pos rfl]
        refine k471 _ _ ?_ ?_
        · rw [sO, Int32.add_zero]; rfl
        · rw [sS, nI_s]; rfl
      · rw [z] at sO sS ⊢
        rw [if_neg n20, if_neg n21]
        refine k471 _ _ ?_ ?_
        · rw [sO, Int32.add_zero]; rfl
        · rw [sS, Int32.add_zero]; rfl
    have k394 : j_L_hangs_394 (lp_L_hangs_291 k) x1 x2 x3 x4 x5 (nI nR) (nI (cOpn fR i)) (nI (cSol fR i)) (nI (sN (cWt fA nA) i)) (nI (sN (cTo fA nA) i)) (nI i) (fR (4 * i + 3)) t =
        j_L_hangs_501 x1 x2 x3 x4 x5 1 (nI nR) (nI (cOpn fR nR)) (nI (cSol fR nR)) (nI (sN (cWt fA nA) nR)) (nI (sN (cTo fA nA) nR)) t := by
      unfold j_L_hangs_394
      rw [v_rd1 h hiR, ob1_some, g5, if_neg (nI_nle g2 (by omega)), ob1_some, if_neg (show ¬ (51 : Int32) ≤ nI p from nI_ge (b := 51) (by omega) (by decide)), v_rd5 h hiR, ob1_some, v_rd4 h hiR, ob1_some, if_neg (nI_nlt w1 (by omega))]
      exact k440
    simp only [lp_L_hangs_291]
    rw [if_neg (nI_ge hiR (by omega)), if_neg (show ¬ (20 : Int32) ≤ nI i from nI_ge (b := 20) (by omega) (by decide)), if_neg n10, v_rd3 h hiR, ob1_some]
    have hs0 : ¬ fR (4 * i + 3) < 0 := by rcases g6 with z | z | z <;> rw [z] <;> decide
    have hs3 : ¬ 3 ≤ fR (4 * i + 3) := by rcases g6 with z | z | z <;> rw [z] <;> decide
    rcases v_rd6 h hiR with ⟨z, a, ha, e1, e2, e3⟩ | ⟨z, e1⟩
    · rw [e1, ob1_some, if_neg hs0, if_neg hs3, if_pos z, if_neg (nI_pos (by omega))]
      unfold j_L_hangs_364
      rw [if_neg (fun x => absurd (show nI a < 0 by rw [x]; decide) (nI_pos (by omega))), v_an1 h ha, ob1_some, if_pos e2, v_an4 h ha, ob1_some, if_pos e3]
      exact k394
    · rw [e1, ob1_some, if_neg hs0, if_neg hs3, if_neg z, if_pos (by decide)]
      unfold j_L_hangs_364
      rw [if_pos rfl]
      exact k394
theorem hg3 (h : NX t fT fR fA fS fE ri hd ln rnd nR nA n q) {x1 x2 x3 x4 x5 x8 x9 x10 x11 x12 : Int32} : ∀ (d i k : Nat), i + d = nA → d < k →
    lp_L_hangs_523 k x1 x2 x3 x4 x5 1 x8 x9 x10 x11 x12 (nI (st1 fA i)) (nI (st2 fA i)) (smI (fun a => fA (8 * a + 7)) (List.range' 0 i)) (smI (fun a => fA (8 * a + 6)) (List.range' 0 i)) (nI nA) (nI i) t =
      j_L_hangs_860 x1 x2 x3 x4 x5 1 x8 x9 x10 x11 x12 (nI (st1 fA nA)) (nI (st2 fA nA)) (smI (fun a => fA (8 * a + 7)) (List.range' 0 nA)) (smI (fun a => fA (8 * a + 6)) (List.range' 0 nA)) (nI nA) t := by
  intro d
  induction d with
  | zero =>
    intro i k hi hk
    obtain ⟨k, rfl⟩ : ∃ k', k = k' + 1 := ⟨k - 1, by omega⟩
    have : i = nA := by omega
    subst this
    simp only [lp_L_hangs_523]
    rw [if_pos (Int32.le_refl _)]
  | succ d ih =>
    intro i k hi hk
    obtain ⟨k, rfl⟩ : ∃ k', k = k' + 1 := ⟨k - 1, by omega⟩
    have hiA : i < nA := by omega
    obtain ⟨hn, hM, hQ⟩ := h.2.2
    have hR := hM.1
    have hA := hM.2.1
    obtain ⟨g, r, w, b1, b2, b3, b4, b5, b6, b7, b8, b9⟩ := hM.2.2.2.1 i hiA
    have s1 : st1 fA (i + 1) = st1 fA i + if decide (fA (8 * i + 4) = 1) = true then 1 else 0 := cp_succ _ i
    have s2 : st2 fA (i + 1) = st2 fA i + if decide (fA (8 * i + 4) = 2) = true then 1 else 0 := cp_succ _ i
    have s7 : smI (fun a => fA (8 * a + 7)) (List.range' 0 i) + fA (8 * i + 7) = smI (fun a => fA (8 * a + 7)) (List.range' 0 (i + 1)) := (smI_succ _ i).symm
    have s6 : smI (fun a => fA (8 * a + 6)) (List.range' 0 i) + fA (8 * i + 6) = smI (fun a => fA (8 * a + 6)) (List.range' 0 (i + 1)) := (smI_succ _ i).symm
    have k828 : ∀ x13 x14 : Int32, x13 = nI (st1 fA (i + 1)) → x14 = nI (st2 fA (i + 1)) → j_L_hangs_828 (lp_L_hangs_523 k) x1 x2 x3 x4 x5 1 x8 x9 x10 x11 x12 x13 x14 (smI (fun a => fA (8 * a + 7)) (List.range' 0 i)) (smI (fun a => fA (8 * a + 6)) (List.range' 0 i)) (nI nA) (nI i) t =
        j_L_hangs_860 x1 x2 x3 x4 x5 1 x8 x9 x10 x11 x12 (nI (st1 fA nA)) (nI (st2 fA nA)) (smI (fun a => fA (8 * a + 7)) (List.range' 0 nA)) (smI (fun a => fA (8 * a + 6)) (List.range' 0 nA)) (nI nA) t := by
      intro x13 x14 y1 y2
      subst y1; subst y2
      unfold j_L_hangs_828
      rw [v_an7 h hiA, ob1_some, v_an6 h hiA, ob1_some, s7, s6, nI_s]
      exact ih (i + 1) k (by omega) (by omega)
    have k796 : j_L_hangs_796 (lp_L_hangs_523 k) x1 x2 x3 x4 x5 1 x8 x9 x10 x11 x12 (nI (st1 fA i)) (nI (st2 fA i)) (smI (fun a => fA (8 * a + 7)) (List.range' 0 i)) (smI (fun a => fA (8 * a + 6)) (List.range' 0 i)) (nI nA) (nI i) (fA (8 * i + 4)) t =
        j_L_hangs_860 x1 x2 x3 x4 x5 1 x8 x9 x10 x11 x12 (nI (st1 fA nA)) (nI (st2 fA nA)) (smI (fun a => fA (8 * a + 7)) (List.range' 0 nA)) (smI (fun a => fA (8 * a + 6)) (List.range' 0 nA)) (nI nA) t := by
      unfold j_L_hangs_796 j_L_hangs_812
      have zz : fA (8 * i + 4) = 0 ∨ fA (8 * i + 4) = 1 ∨ fA (8 * i + 4) = 2 := by
        rcases b9 with z | z | z | z
        · exact Or.inl z.1
        · exact Or.inr (Or.inl z.1)
        · exact Or.inr (Or.inr z.1)
        · exact Or.inr (Or.inr z.1)
      rcases zz with z | z | z
      · rw [z] at s1 s2 ⊢
        rw [if_neg n01, if_neg (show ¬ (0 : Int32) = 2 by decide)]
        refine k828 _ _ ?_ ?_
        · rw [s1, Int32.add_zero]; rfl
        · rw [s2, Int32.add_zero]; rfl
      · rw [z] at s1 s2 ⊢
        rw [if_pos rfl, if_neg (show ¬ (1 : Int32) = 2 by decide)]
        refine k828 _ _ ?_ ?_
        · rw [s1, nI_s]; rfl
        · rw [s2, Int32.add_zero]; rfl
      · rw [z] at s1 s2 ⊢
        rw [if_neg n21, if_pos rfl]
        refine k828 _ _ ?_ ?_
        · rw [s1, Int32.add_zero]; rfl
        · rw [s2, nI_s]; rfl
    have k767 : j_L_hangs_767 (lp_L_hangs_523 k) x1 x2 x3 x4 x5 x8 x9 x10 x11 x12 (nI (st1 fA i)) (nI (st2 fA i)) (smI (fun a => fA (8 * a + 7)) (List.range' 0 i)) (smI (fun a => fA (8 * a + 6)) (List.range' 0 i)) (nI nA) (nI i) (fA (8 * i + 4)) t =
        j_L_hangs_860 x1 x2 x3 x4 x5 1 x8 x9 x10 x11 x12 (nI (st1 fA nA)) (nI (st2 fA nA)) (smI (fun a => fA (8 * a + 7)) (List.range' 0 nA)) (smI (fun a => fA (8 * a + 6)) (List.range' 0 nA)) (nI nA) t := by
      unfold j_L_hangs_767
      rw [v_an0 h hiA, ob1_some, v_an1 h hiA, ob1_some, b6, v_rd0 h b2, ob1_some, if_neg (fun x => b8 (by rw [← x, b5]))]
      exact k796
    simp only [lp_L_hangs_523]
    rw [if_neg (nI_ge hiA (by omega)), if_neg (show ¬ (40 : Int32) ≤ nI i from nI_ge (b := 40) (by omega) (by decide)), if_neg n10, v_an4 h hiA, ob1_some]
    rcases b9 with ⟨z1, z2, ⟨d', z3, z4⟩, z5⟩ | ⟨z1, z2, ⟨d', z3, z4⟩, z5, z6⟩ | ⟨z1, z2, ⟨d', z3, z4⟩, z5⟩ | ⟨z1, z2, z4, z5⟩
    · obtain ⟨m, hm, e1, e2⟩ := v_an8w h hiA z1
      obtain ⟨c, hc, e3⟩ := v_reason_w h hiA z1
      have hq40 : q.length ≤ 40 := hQ.1
      rw [e1, ob1_some, v_an5 h hiA, ob1_some, z2]
      rw [z1] at k767 ⊢
      rw [if_neg (show ¬ (0 : Int32) < 0 by decide), if_neg (show ¬ (3 : Int32) ≤ 0 by decide), if_pos rfl, if_neg (nI_pos (by omega))]
      unfold j_L_hangs_604
      rw [if_pos rfl, e2, ob1_some, if_pos rfl, e3, ob1_some, if_neg (nI_pos (by omega)), ob1_some, if_neg (show ¬ (5 : Int32) ≤ nI c from nI_ge (b := 5) hc (by decide))]
      unfold j_L_hangs_653
      rw [if_neg (show ¬ (0 : Int32) = 2 by decide), if_pos (show (0 : Int32) ≤ 0 by decide)]
      unfold j_L_hangs_677
      rw [if_neg (show ¬ (4 : Int32) ≤ 0 by decide), v_an6 h hiA, ob1_some, z4, if_neg (nI_pos (by omega)), ob1_some, if_neg (show ¬ (4 : Int32) ≤ nI d' from nI_ge (b := 4) (by omega) (by decide)), ob1_some, if_neg (fun x => by have := (nI_inj (b := 3) (by omega) (by decide)).mp x; omega), if_neg (show ¬ (0 : Int32) = 3 by decide)]
      unfold j_L_hangs_737
      rw [if_neg n01, v_an7 h hiA, ob1_some, z5, if_pos (show (0 : Int32) ≤ 0 by decide)]
      exact k767
    · have e1 := v_an8n h hiA (by rw [z1]; exact n10)
      have e3 := v_reason_n h hiA (by rw [z1]; exact n10)
      rw [e1, ob1_some, v_an5 h hiA, ob1_some, z2]
      rw [z1] at k767 ⊢
      rw [if_neg (show ¬ (1 : Int32) < 0 by decide), if_neg (show ¬ (3 : Int32) ≤ 1 by decide), if_neg n10, if_pos (show (-5 : Int32) < 0 by decide)]
      unfold j_L_hangs_604
      rw [if_neg n10, e3, ob1_some, if_pos rfl]
      unfold j_L_hangs_653
      rw [if_neg (show ¬ (1 : Int32) = 2 by decide), if_pos (show (0 : Int32) ≤ 0 by decide)]
      unfold j_L_hangs_677
      rw [if_neg (show ¬ (4 : Int32) ≤ 0 by decide), v_an6 h hiA, ob1_some, z4, if_neg (nI_pos (by omega)), ob1_some, if_neg (show ¬ (4 : Int32) ≤ nI d' from nI_ge (b := 4) (by omega) (by decide)), ob1_some, if_neg (fun x => by have := (nI_inj (b := 3) (by omega) (by decide)).mp x; omega), if_neg (show ¬ (0 : Int32) = 3 by decide)]
      unfold j_L_hangs_737
      rw [if_pos rfl, v_an7 h hiA, ob1_some, if_neg (by rw [Int32.le_iff_toInt_le, i0]; omega)]
      exact k767
    · have e1 := v_an8n h hiA (by rw [z1]; exact n20)
      have e3 := v_reason_n h hiA (by rw [z1]; exact n20)
      have y0 : ¬ fA (8 * i + 5) ≤ 0 := by rcases z2 with y | y <;> rw [y] <;> decide
      have y4 : ¬ 4 ≤ fA (8 * i + 5) := by rcases z2 with y | y <;> rw [y] <;> decide
      have y3 : ¬ fA (8 * i + 5) = 3 := by rcases z2 with y | y <;> rw [y] <;> decide
      rw [e1, ob1_some, v_an5 h hiA, ob1_some]
      rw [z1] at k767 ⊢
      rw [if_neg (show ¬ (2 : Int32) < 0 by decide), if_neg (show ¬ (3 : Int32) ≤ 2 by decide), if_neg n20, if_pos (show (-5 : Int32) < 0 by decide)]
      unfold j_L_hangs_604
      rw [if_neg n20, e3, ob1_some, if_pos rfl]
      unfold j_L_hangs_653
      rw [if_pos rfl, if_neg y0]
      unfold j_L_hangs_677
      rw [if_neg y4, v_an6 h hiA, ob1_some, z4, if_neg (nI_pos (by omega)), ob1_some, if_neg (show ¬ (4 : Int32) ≤ nI d' from nI_ge (b := 4) (by omega) (by decide)), ob1_some, if_neg (fun x => by have := (nI_inj (b := 3) (by omega) (by decide)).mp x; omega), if_neg y3]
      unfold j_L_hangs_737
      rw [if_neg n21, v_an7 h hiA, ob1_some, z5, if_pos (show (0 : Int32) ≤ 0 by decide)]
      exact k767
    · have e1 := v_an8n h hiA (by rw [z1]; exact n20)
      have e3 := v_reason_n h hiA (by rw [z1]; exact n20)
      rw [e1, ob1_some, v_an5 h hiA, ob1_some, z2]
      rw [z1] at k767 ⊢
      rw [if_neg (show ¬ (2 : Int32) < 0 by decide), if_neg (show ¬ (3 : Int32) ≤ 2 by decide), if_neg n20, if_pos (show (-5 : Int32) < 0 by decide)]
      unfold j_L_hangs_604
      rw [if_neg n20, e3, ob1_some, if_pos rfl]
      unfold j_L_hangs_653
      rw [if_pos rfl, if_neg (show ¬ (3 : Int32) ≤ 0 by decide)]
      unfold j_L_hangs_677
      rw [if_neg (show ¬ (4 : Int32) ≤ 3 by decide), v_an6 h hiA, ob1_some, z4, if_neg (show ¬ (3 : Int32) < 0 by decide), ob1_some, if_neg (show ¬ (4 : Int32) ≤ 3 by decide), ob1_some, if_pos rfl, if_pos rfl]
      unfold j_L_hangs_737
      rw [if_neg n21, v_an7 h hiA, ob1_some, z5, if_pos (show (0 : Int32) ≤ 0 by decide)]
      exact k767
end HANGS
