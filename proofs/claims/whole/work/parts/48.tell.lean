/-! part 48: what is told, on both sides -/
theorem cp2 {p q : Nat → Bool} {l : List Nat} (h : ∀ a ∈ l, p a = q a) : ∃ r, ob1 (some (nI (l.countP p))) (fun x => some x) = some r ∧ ob1 (some (nI (l.countP q))) (fun x => some x) = some r := by
  rw [cp_congr h]; exact ⟨_, rfl, rfl⟩
theorem in_ge {p lo hi : Int32} (h : ¬ p < lo) : d_X6_in p lo hi = if hi < p then 0 else 1 := by
  unfold d_X6_in; rw [if_neg h]
theorem has_dich (p : Int32) (N : Nat) (hN : N < 2 ^ 31) : (d_X4_has p (nI N) = 0 ∧ d_X6_in p 0 (nI N - 1) = 0) ∨ ∃ t, t < N ∧ p = nI t ∧ d_X4_has p (nI N) = 1 ∧ d_X6_in p 0 (nI N - 1) = 1 := by
  have hm : (nI N - 1).toInt = (N : Int) - 1 := by
    rw [sub_toInt (by rw [nI_toInt hN, i1]; omega) (by rw [nI_toInt hN, i1]; omega), nI_toInt hN, i1]
  unfold d_X4_has d_X6_in
  by_cases c : p < 0
  · rw [if_pos c, if_pos c]; exact Or.inl ⟨rfl, rfl⟩
  · rw [if_neg c, if_neg c]
    rw [Int32.lt_iff_toInt_lt, i0] at c
    obtain ⟨t, ht, e, ei⟩ := ex_nI (x := p) (by omega)
    by_cases d : t < N
    · refine Or.inr ⟨t, d, e, ?_, ?_⟩
      · rw [e, if_neg (nI_ge d hN)]
      · rw [if_neg]
        rw [Int32.lt_iff_toInt_lt, hm]; omega
    · refine Or.inl ⟨?_, ?_⟩
      · rw [e, if_pos (nI_le (by omega) ht)]
      · rw [if_pos]
        rw [Int32.lt_iff_toInt_lt, hm]; omega
theorem trader_dich (p : Int32) : (d_X4_has p 8 = 0 ∧ d_X6_isTrader p = 0) ∨ ∃ t, t < 8 ∧ p = nI t ∧ d_X4_has p 8 = 1 ∧ d_X6_isTrader p = 1 :=
  has_dich p 8 (by decide)
theorem e_isRiddle {s : F_} {nR : Nat} {p : Int32} (h : s 483 = nI nR) : d_X6_isRiddle p s = some (d_X6_in p 0 (nI nR - 1)) := by
  unfold d_X6_isRiddle; rw [rd483, ob1_some, h]
theorem e_isAnswer {s : F_} {nA : Nat} {p : Int32} (h : s 484 = nI nA) : d_X6_isAnswer p s = some (d_X6_in p 0 (nI nA - 1)) := by
  unfold d_X6_isAnswer; rw [rd484, ob1_some, h]
theorem e_riddlesOf {s : F_} {nR : Nat} {p v : Int32} (h : s 483 = nI nR) (hn : nR ≤ 20) (hv : ¬ v < 0) : d_X6_riddlesOf p v s = some (nI ((List.range' 0 nR).countP (fun r => decide (s (16 + 5 * r) = p) && decide (s (16 + (5 * r + 3)) = v)))) := by
  refine cnt_loop (lp_X6_riddlesOf_5 s p v) _ nR (fun k c => ?_) (fun k c i hi => ?_) (by omega)
  · simp only [lp_X6_riddlesOf_5]
    rw [rd483, ob1_some, h, if_pos (Int32.le_refl _)]
  · simp only [lp_X6_riddlesOf_5]
    rw [rd483, ob1_some, h, if_neg (nI_ge hi (by omega)), rdR0 (by omega), ob1_some, if_neg hv, rdR3 (by omega), ob1_some, nI_s, Int32.add_zero, dt2]
theorem e_riddlesOfN {s : F_} {nR : Nat} {p : Int32} (h : s 483 = nI nR) (hn : nR ≤ 20) : d_X6_riddlesOf p (-1) s = some (nI ((List.range' 0 nR).countP (fun r => decide (s (16 + 5 * r) = p)))) := by
  refine cnt_loop (lp_X6_riddlesOf_5 s p (-1)) _ nR (fun k c => ?_) (fun k c i hi => ?_) (by omega)
  · simp only [lp_X6_riddlesOf_5]
    rw [rd483, ob1_some, h, if_pos (Int32.le_refl _)]
  · simp only [lp_X6_riddlesOf_5]
    rw [rd483, ob1_some, h, if_neg (nI_ge hi (by omega)), rdR0 (by omega), ob1_some, if_pos (show (-1 : Int32) < 0 by decide), nI_s, Int32.add_zero, dt]
theorem e_answersOf {s : F_} {nA : Nat} {p v : Int32} (h : s 484 = nI nA) (hn : nA ≤ 40) (hv : ¬ v < 0) : d_X6_answersOf p v s = some (nI ((List.range' 0 nA).countP (fun a => decide (s (116 + 8 * a) = p) && decide (s (116 + (8 * a + 4)) = v)))) := by
  refine cnt_loop (lp_X6_answersOf_5 s p v) _ nA (fun k c => ?_) (fun k c i hi => ?_) (by omega)
  · simp only [lp_X6_answersOf_5]
    rw [rd484, ob1_some, h, if_pos (Int32.le_refl _)]
  · simp only [lp_X6_answersOf_5]
    rw [rd484, ob1_some, h, if_neg (nI_ge hi (by omega)), rdA0 (by omega), ob1_some, if_neg hv, rdA4 (by omega), ob1_some, nI_s, Int32.add_zero, dt2]
theorem e_answersOfN {s : F_} {nA : Nat} {p : Int32} (h : s 484 = nI nA) (hn : nA ≤ 40) : d_X6_answersOf p (-1) s = some (nI ((List.range' 0 nA).countP (fun a => decide (s (116 + 8 * a) = p)))) := by
  refine cnt_loop (lp_X6_answersOf_5 s p (-1)) _ nA (fun k c => ?_) (fun k c i hi => ?_) (by omega)
  · simp only [lp_X6_answersOf_5]
    rw [rd484, ob1_some, h, if_pos (Int32.le_refl _)]
  · simp only [lp_X6_answersOf_5]
    rw [rd484, ob1_some, h, if_neg (nI_ge hi (by omega)), rdA0 (by omega), ob1_some, if_pos (show (-1 : Int32) < 0 by decide), nI_s, Int32.add_zero, dt]
theorem e_answersTo {s : F_} {nA : Nat} {p : Int32} (h : s 484 = nI nA) (hn : nA ≤ 40) : d_X6_answersTo p s = some (nI ((List.range' 0 nA).countP (fun a => decide (s (116 + (8 * a + 1)) = p)))) := by
  refine cnt_loop (lp_X6_answersTo_4 s p) _ nA (fun k c => ?_) (fun k c i hi => ?_) (by omega)
  · simp only [lp_X6_answersTo_4]
    rw [rd484, ob1_some, h, if_pos (Int32.le_refl _)]
  · simp only [lp_X6_answersTo_4]
    rw [rd484, ob1_some, h, if_neg (nI_ge hi (by omega)), rdA1 (by omega), ob1_some, nI_s, Int32.add_zero, dt]
theorem e_open {s : F_} {nR : Nat} (h : s 483 = nI nR) (hn : nR ≤ 20) : d_X6_open s = some (nI ((List.range' 0 nR).countP (fun r => decide (s (16 + (5 * r + 3)) = 0)))) := by
  refine cnt_loop (lp_X6_open_4 s) _ nR (fun k c => ?_) (fun k c i hi => ?_) (by omega)
  · simp only [lp_X6_open_4]
    rw [rd483, ob1_some, h, if_pos (Int32.le_refl _)]
  · simp only [lp_X6_open_4]
    rw [rd483, ob1_some, h, if_neg (nI_ge hi (by omega)), rdR3 (by omega), ob1_some, nI_s, Int32.add_zero, dt]
theorem e_debtors {s : F_} : d_X6_debtors s = some (nI ((List.range' 0 8).countP (fun t => decide (¬ 0 ≤ s t)))) := by
  refine cnt_loop (lp_X6_debtors_4 s) _ 8 (fun k c => ?_) (fun k c i hi => ?_) (by decide)
  · simp only [lp_X6_debtors_4]
    rw [if_pos (show (8 : Int32) ≤ nI 8 by decide)]
  · simp only [lp_X6_debtors_4]
    rw [if_neg (nlt8 hi), rdp0 hi, ob1_some, nI_s, Int32.add_zero, dt, ite_not]
theorem e_tradersInDebt {fT : F_} : d_X0_tradersInDebt fT = some (nI ((List.range' 0 8).countP (fun t => decide (¬ 0 ≤ fT (2 * t))))) := by
  refine cnt_loop (lp_X0_tradersInDebt_4 fT) _ 8 (fun k c => ?_) (fun k c i hi => ?_) (by decide)
  · simp only [lp_X0_tradersInDebt_4]
    rw [if_pos (show (8 : Int32) ≤ nI 8 by decide)]
  · simp only [lp_X0_tradersInDebt_4]
    rw [if_neg (nlt8 hi), getT0 hi, ob1_some, nI_s, dt, ite_not]
/-- the row as a list, in the model -/
theorem e_waiting {s : F_} {q : List Nat} {p : Int32} (h1 : q.length ≤ 40) (h2 : s 476 = nI q.length) (h3 : ∀ k, k < q.length → s (436 + k) = nI (q.getD k 0)) (h4 : ∀ a ∈ q, a < 40) :
    d_X6_waiting p s = some (nI (q.countP (fun a => decide (s (116 + (8 * a + 1)) = p)))) := by
  have key : ∀ (suf pre : List Nat) (c : Int32) (k : Nat), q = pre ++ suf → suf.length < k → lp_X6_waiting_4 s p k c (nI pre.length) = some (c + nI (suf.countP (fun a => decide (s (116 + (8 * a + 1)) = p)))) := by
    intro suf
    induction suf with
    | nil =>
      intro pre c k e hk
      obtain ⟨k, rfl⟩ : ∃ k', k = k' + 1 := ⟨k - 1, by simp at hk; omega⟩
      have : pre.length = q.length := by rw [e, List.append_nil]
      simp only [lp_X6_waiting_4]
      rw [rd476, ob1_some, h2, this, if_pos (Int32.le_refl _)]
      show some c = some (c + nI 0)
      rw [nI_0, Int32.add_zero]
    | cons a suf ih =>
      intro pre c k e hk
      obtain ⟨k, rfl⟩ : ∃ k', k = k' + 1 := ⟨k - 1, by simp at hk; omega⟩
      have hl : pre.length < q.length := by rw [e]; simp
      have ha : q.getD pre.length 0 = a := by rw [e]; simp [List.getD]
      have ha40 : a < 40 := h4 a (by rw [e]; simp)
      have ih' := fun c => ih (pre ++ [a]) c k (by rw [e]; simp) (by simp at hk; omega)
      rw [List.length_append, show [a].length = 1 from rfl] at ih'
      simp only [lp_X6_waiting_4]
      rw [rd476, ob1_some, h2, if_neg (nI_ge hl (by omega)), rdp436 (by omega), ob1_some, h3 _ hl, ha, rdA1 ha40, ob1_some, nI_s, ih', ih', cp_ite, Int32.add_zero, dt]
      by_cases z : s (116 + (8 * a + 1)) = p
      · rw [if_pos z, if_pos z]
      · rw [if_neg z, if_neg z]
  have := key q [] 0 fuel rfl (k_fuel (by omega))
  rw [Int32.zero_add] at this
  exact this
theorem wait_perm {fA : F_} {nA : Nat} {q : List Nat} (h : IW fA nA q) : q.Perm ((List.range' 0 nA).filter (fun a => decide (fA (8 * a + 4) = 0))) := by
  rw [List.perm_ext_iff_of_nodup h.1 ((nd_range nA).sublist List.filter_sublist)]
  intro a
  rw [h.2 a, List.mem_filter, mem_r0, decide_eq_true_eq]
theorem wait_cnt {fA : F_} {nA : Nat} {q : List Nat} (h : IW fA nA q) (p : Nat → Bool) : q.countP p = (List.range' 0 nA).countP (fun a => p a && decide (fA (8 * a + 4) = 0)) := by
  rw [(wait_perm h).countP_eq, List.countP_filter]
theorem has_nI {t N : Nat} (h : t < N) (hN : N < 2 ^ 31) : ¬ d_X4_has (nI t) (nI N) = 0 := by
  unfold d_X4_has
  rw [if_neg (nI_pos (by omega)), if_neg (nI_ge h hN)]
  decide
theorem tell_trader {fT fR fA fS fE ri : F_} {hd ln rnd : Int32} {nR nA n : Nat} {s : F_} (h : RX fT fR fA fS fE ri hd ln rnd nR nA n s) (p1 p2 : Int32) : ∃ r, d_X0_tellTrader p1 p2 fT fR (nI nR) fA (nI nA) = some r ∧ d_X6_trader p1 p2 s = some r := by
  obtain ⟨hn, -, -, q, ⟨hT, hR, hA, hP, hS, hE, jA, jR, jW, jE, jD, jC⟩, hQ⟩ := h
  unfold d_X0_tellTrader d_X6_trader
  rcases trader_dich p1 with ⟨e1, e2⟩ | ⟨t, ht, rfl, e1, e2⟩
  · rw [e1, e2]; exact ⟨_, rfl, rfl⟩
  · rw [e1, e2, if_neg n10, if_neg n10, rdp0 ht, ob1_some, hT.1 t ht]
    have hc := jC t ht
    have gR : ∀ i, i < nR → d_X4_get 80 (nI i) 0 fR 4 = some (fR (4 * i)) := fun i hi => getR0 (by have := hR.1; omega)
    have gR3 : ∀ i, i < nR → d_X4_get 80 (nI i) 3 fR 4 = some (fR (4 * i + 3)) := fun i hi => getR3 (by have := hR.1; omega)
    have gA : ∀ i, i < nA → d_X4_get 320 (nI i) 0 fA 8 = some (fA (8 * i)) := fun i hi => getA0 (by have := hA.1; omega)
    have gA4 : ∀ i, i < nA → d_X4_get 320 (nI i) 4 fA 8 = some (fA (8 * i + 4)) := fun i hi => getA4 (by have := hA.1; omega)
    have bR : nR < 2 ^ 31 := by have := hR.1; omega
    have bA : nA < 2 ^ 31 := by have := hA.1; omega
    have cR : ∀ r ∈ List.range' 0 nR, s (16 + 5 * r) = fR (4 * r) ∧ s (16 + (5 * r + 3)) = fR (4 * r + 3) := fun r hr => by
      have := mem_r0.mp hr
      obtain ⟨a, b, c, d⟩ := hR.2.2 r (by have := hR.1; omega)
      exact ⟨a, d⟩
    have cA : ∀ a ∈ List.range' 0 nA, s (116 + 8 * a) = fA (8 * a) ∧ s (116 + (8 * a + 4)) = fA (8 * a + 4) := fun a ha => by
      have := mem_r0.mp ha
      have := hA.1
      exact ⟨hA.2.2.1 _ (by omega), hA.2.2.1 _ (by omega)⟩
    by_cases c0 : p2 = 0
    · rw [if_pos c0, if_pos c0, getT0 ht, ob1_some]
      by_cases c : 0 ≤ fT (2 * t)
      · rw [if_pos c, if_neg]
        · exact ⟨_, rfl, rfl⟩
        · rw [Int32.le_iff_toInt_le, i0] at c
          rw [Int32.lt_iff_toInt_lt, neg_toInt (by omega), i0]; omega
      · rw [if_neg c, if_pos]
        · exact ⟨_, rfl, rfl⟩
        · rw [Int32.le_iff_toInt_le, i0] at c
          rw [Int32.lt_iff_toInt_lt, neg_toInt (by omega), i0]; omega
    rw [if_neg c0, if_neg c0]
    by_cases c1 : p2 = 1
    · rw [if_pos c1, if_pos c1, getT0 ht, ob1_some, tl_le]; exact ⟨_, rfl, rfl⟩
    rw [if_neg c1, if_neg c1]
    by_cases c2 : p2 = 2
    · rw [if_pos c2, if_pos c2, e_countOf _ gR bR, e_riddlesOfN hR.2.1 hR.1]; exact cp2 fun r hr => by rw [(cR r hr).1]
    rw [if_neg c2, if_neg c2]
    by_cases c3 : p2 = 3
    · rw [if_pos c3, if_pos c3, e_countOfBoth _ _ gR gR3 bR, e_riddlesOf hR.2.1 hR.1 (by decide)]; exact cp2 fun r hr => by rw [(cR r hr).1, (cR r hr).2]
    rw [if_neg c3, if_neg c3]
    by_cases c4 : p2 = 4
    · rw [if_pos c4, if_pos c4, e_countOf _ gA bA, e_answersOfN hA.2.1 hA.1]; exact cp2 fun r hr => by rw [(cA r hr).1]
    rw [if_neg c4, if_neg c4]
    by_cases c5 : p2 = 5
    · rw [if_pos c5, if_pos c5, e_countOfBoth _ _ gA gA4 bA, e_answersOf hA.2.1 hA.1 (by decide)]; exact cp2 fun r hr => by rw [(cA r hr).1, (cA r hr).2]
    rw [if_neg c5, if_neg c5]
    by_cases c6 : p2 = 6
    · rw [if_pos c6, if_pos c6, e_countOfBoth _ _ gA gA4 bA, e_answersOf hA.2.1 hA.1 (by decide)]; exact cp2 fun r hr => by rw [(cA r hr).1, (cA r hr).2]
    rw [if_neg c6, if_neg c6]
    by_cases c7 : p2 = 7
    · rw [if_pos c7, if_pos c7, getT1 ht, ob1_some, rdp8 ht, ob1_some, hT.2.1 t ht]; exact ⟨_, rfl, rfl⟩
    rw [if_neg c7, if_neg c7]
    exact ⟨_, rfl, rfl⟩
theorem RQ.lt40 {fA : F_} {nA : Nat} {q : List Nat} (h : IW fA nA q) (hA : nA ≤ 40) : ∀ a ∈ q, a < 40 := fun a ha => by have := ((h.2 a).mp ha).1; omega
theorem tell_riddle {fT fR fA fS fE ri : F_} {hd ln rnd : Int32} {nR nA n : Nat} {s : F_} (h : RX fT fR fA fS fE ri hd ln rnd nR nA n s) (p1 p2 : Int32) : ∃ r, d_X0_tellRiddle p1 p2 fR (nI nR) fA (nI nA) = some r ∧ d_X6_riddle p1 p2 s = some r := by
  obtain ⟨hn, -, -, q, ⟨hT, hR, hA, hP, hS, hE, jA, jR, jW, jE, jD, jC⟩, hQ⟩ := h
  have bR : nR < 2 ^ 31 := by have := hR.1; omega
  have bA : nA < 2 ^ 31 := by have := hA.1; omega
  unfold d_X0_tellRiddle d_X6_riddle
  rw [e_isRiddle hR.2.1, ob1_some]
  rcases has_dich p1 nR bR with ⟨e1, e2⟩ | ⟨r, hr, rfl, e1, e2⟩
  · rw [e1, e2]; exact ⟨_, rfl, rfl⟩
  · rw [e1, e2, if_neg n10, if_neg n10]
    have hr20 : r < 20 := by have := hR.1; omega
    obtain ⟨q0, q1, q2, q3⟩ := hR.2.2 r hr20
    have gA1 : ∀ i, i < nA → d_X4_get 320 (nI i) 1 fA 8 = some (fA (8 * i + 1)) := fun i hi => getA1 (by have := hA.1; omega)
    have gA4 : ∀ i, i < nA → d_X4_get 320 (nI i) 4 fA 8 = some (fA (8 * i + 4)) := fun i hi => getA4 (by have := hA.1; omega)
    have cA : ∀ a, a < 40 → s (116 + (8 * a + 1)) = fA (8 * a + 1) := fun a ha => hA.2.2.1 _ (by omega)
    by_cases c0 : p2 = 0
    · rw [if_pos c0, if_pos c0, c0, getR0 hr20, ob1_some, rdR0 hr20, ob1_some, q0]; exact ⟨_, rfl, rfl⟩
    rw [if_neg c0, if_neg c0]
    by_cases c1 : p2 = 1
    · rw [if_pos c1, if_pos c1, c1, getR1 hr20, ob1_some, rdR1 hr20, ob1_some, q1]; exact ⟨_, rfl, rfl⟩
    rw [if_neg c1, if_neg c1]
    by_cases c2 : p2 = 2
    · rw [if_pos c2, if_pos c2, c2, getR2 hr20, ob1_some, rdR2 hr20, ob1_some, q2]; exact ⟨_, rfl, rfl⟩
    rw [if_neg c2, if_neg c2]
    by_cases c3 : p2 = 3
    · rw [if_pos c3, if_pos c3, c3, getR3 hr20, ob1_some, rdR3 hr20, ob1_some, q3]; exact ⟨_, rfl, rfl⟩
    rw [if_neg c3, if_neg c3]
    by_cases c4 : p2 = 4
    · rw [if_pos c4, if_pos c4, e_countOf _ gA1 bA, e_answersTo hA.2.1 hA.1]; exact cp2 fun a ha => by rw [cA a (by have := mem_r0.mp ha; have := hA.1; omega)]
    rw [if_neg c4, if_neg c4]
    by_cases c5 : p2 = 5
    · rw [if_pos c5, if_pos c5, e_countOfBoth _ _ gA1 gA4 bA, e_waiting hQ.1 hQ.2.2.2.1 hQ.2.2.2.2 (RQ.lt40 jW hA.1), wait_cnt jW]; exact cp2 fun a ha => by rw [cA a (by have := mem_r0.mp ha; have := hA.1; omega)]
    rw [if_neg c5, if_neg c5]
    by_cases c6 : p2 = 6
    · obtain ⟨k1, k2⟩ := e_rowOfBoth (p2 := nI r) (p4 := 1) _ _ gA1 gA4 bA nA 0 fuel (by omega) (k_fuel bA)
      have hd : d_X4_rowOfBoth 320 1 (nI r) 4 1 fA 8 (nI nA) = lp_X4_rowOfBoth_3 320 fA 8 (nI nA) 1 (nI r) 4 1 fuel (nI 0) := rfl
      rw [if_pos c6, if_pos c6, hd, rdR4 hr20, ob1_some, ob1_some]
      rcases hP r hr with ⟨u1, u2⟩ | ⟨u1, a, ha, u2, u3, u4, u5⟩
      · rw [k1 fun j _ hj e => u2 j hj e.1 e.2, u1, if_pos rfl]; exact ⟨_, rfl, rfl⟩
      · rw [k2 a (Nat.zero_le a) ha u3 u4 fun j _ hj e => by have := u5 j (by omega) e.1 e.2; omega, u2, if_neg (nI_ne0 (Nat.succ_pos a) (by omega)), nI_pred]; exact ⟨_, rfl, rfl⟩
    rw [if_neg c6, if_neg c6]
    exact ⟨_, rfl, rfl⟩
