/-! part 24: acts keep what holds -/
theorem has_case (p : Int32) (N : Nat) (hN : N < 2 ^ 31) : d_X4_has p (nI N) = 0 ∨ ∃ t, t < N ∧ p = nI t ∧ d_X4_has p (nI N) = 1 := by
  unfold d_X4_has
  by_cases c : p < 0
  · rw [if_pos c]; exact Or.inl rfl
  · rw [if_neg c]
    rw [Int32.lt_iff_toInt_lt, i0] at c
    obtain ⟨t, ht, e, ei⟩ := ex_nI (x := p) (by omega)
    by_cases d : t < N
    · exact Or.inr ⟨t, d, e, by rw [e, if_neg (nI_ge d hN)]⟩
    · exact Or.inl (by rw [e, if_pos (nI_le (by omega) ht)])
theorem smI_zero {f : Nat → Int32} : ∀ {l : List Nat}, (∀ a ∈ l, f a = 0) → smI f l = 0
  | [], _ => rfl
  | a :: l, h => by
    show f a + smI f l = 0
    rw [h a List.mem_cons_self, smI_zero (fun b hb => h b (List.mem_cons_of_mem _ hb)), Int32.add_zero]
theorem cp_zero {p : Nat → Bool} {l : List Nat} (h : ∀ a ∈ l, p a = false) : l.countP p = 0 := by
  rw [List.countP_eq_zero]
  intro a ha
  rw [h a ha]
  decide
theorem r0_succ (n : Nat) : List.range' 0 (n + 1) = List.range' 0 n ++ [n] := by rw [List.range'_concat]; simp
theorem cp_succ (p : Nat → Bool) (n : Nat) : (List.range' 0 (n + 1)).countP p = (List.range' 0 n).countP p + if p n = true then 1 else 0 := by
  rw [r0_succ, List.countP_append, List.countP_cons, List.countP_nil, Nat.zero_add]
theorem smI_succ (f : Nat → Int32) (n : Nat) : smI f (List.range' 0 (n + 1)) = smI f (List.range' 0 n) + f n := by
  rw [r0_succ, smI_app]
  show _ + (f n + 0) = _
  rw [Int32.add_zero]
def nwR (fR : F_) (n : Nat) (p1 p2 p3 : Int32) : F_ := upd (upd (upd (upd fR (4 * n) p1) (4 * n + 1) p2) (4 * n + 2) p3) (4 * n + 3) 0
theorem nwR_v {fR : F_} {n : Nat} {p1 p2 p3 : Int32} : nwR fR n p1 p2 p3 (4 * n) = p1 ∧ nwR fR n p1 p2 p3 (4 * n + 1) = p2 ∧ nwR fR n p1 p2 p3 (4 * n + 3) = 0 ∧ ∀ j, (j < 4 * n ∨ 4 * n + 3 < j) → nwR fR n p1 p2 p3 j = fR j := by
  unfold nwR
  refine ⟨?_, ?_, ?_, fun j hj => ?_⟩
  · rw [upd_ne (by omega), upd_ne (by omega), upd_ne (by omega), upd_self]
  · rw [upd_ne (by omega), upd_ne (by omega), upd_self]
  · rw [upd_self]
  · rw [upd_ne (by omega), upd_ne (by omega), upd_ne (by omega), upd_ne (by omega)]
theorem JC.ask {fT fR fA fS fE : F_} {nR nA t p : Nat} {q : List Nat} {lo hi nf : Int} {B : Nat} {p3 : Int32} (hn : nR < 20) (ht : t < 8) (hp1 : 1 ≤ p) (hp2 : p ≤ 50) (h : JC fT fR fA fS fE nR nA q lo hi nf B) :
    JC fT (nwR fR nR (nI t) (nI p) p3) fA fS fE (nR + 1) nA q lo hi nf B := by
  obtain ⟨hR, hA, jR, jA, jP, jW, jM, jS, jC, jF, jV, jE, jD⟩ := h
  obtain ⟨v0, v1, v3, vn⟩ := nwR_v (fR := fR) (n := nR) (p1 := nI t) (p2 := nI p) (p3 := p3)
  refine ⟨by omega, hA, fun r hr => ?_, fun a ha => ?_, fun r hr => ?_, jW, fun k hk => ?_, jS, jC, jF, jV, jE, jD⟩
  · by_cases e : r = nR
    · subst e; exact ⟨t, p, ht, hp1, hp2, v0, v1, Or.inl v3⟩
    · rw [vn _ (by omega), vn _ (by omega), vn _ (by omega)]; exact jR r (by omega)
  · obtain ⟨g, r, w, h1, h2, h3, h4, h5, h6, h7, h8, h9⟩ := jA a ha
    exact ⟨g, r, w, h1, by omega, h3, h4, h5, h6, h7, by rw [vn _ (by omega)]; exact h8, h9⟩
  · by_cases e : r = nR
    · subst e
      rw [v3, if_neg n01]
      refine cp_zero fun a ha => ?_
      obtain ⟨g, r', w, h1, h2, h3, h4, h5, h6, -⟩ := jA a (mem_r0.mp ha)
      rw [h6, decide_eq_false (fun x => by rw [nI_inj (by omega) (by omega)] at x; omega), Bool.false_and]
    · rw [vn _ (by omega)]; exact jP r (by omega)
  · rw [jM k hk]
    refine congrArg (fun x => 100 - fT (2 * k + 1) + x) (smI_congr fun a ha => ?_)
    obtain ⟨g, r', w, h1, h2, h3, h4, h5, h6, -⟩ := jA a (mem_r0.mp ha)
    unfold net
    rw [h6, nI_clamp (by omega), vn _ (by omega)]
theorem JC.close {fT fR fA fS fE : F_} {nR nA r : Nat} {q : List Nat} {lo hi nf : Int} {B : Nat} (h3 : fR (4 * r + 3) = 0) (h : JC fT fR fA fS fE nR nA q lo hi nf B) :
    JC fT (upd fR (4 * r + 3) 2) fA fS fE nR nA q lo hi nf B := by
  obtain ⟨hR, hA, jR, jA, jP, jW, jM, jS, jC, jF, jV, jE, jD⟩ := h
  have hR4 : ∀ k, upd fR (4 * r + 3) 2 (4 * k) = fR (4 * k) := fun k => upd_ne (by omega)
  refine ⟨hR, hA, fun k hk => ?_, fun a ha => ?_, fun k hk => ?_, jW, jM.same (fun _ => rfl) (fun _ => rfl) (fun _ => rfl) hR4, jS, jC, jF, jV, jE, jD⟩
  · obtain ⟨t', p', q1, q2, q3, q4, q5, q6⟩ := jR k hk
    refine ⟨t', p', q1, q2, q3, by rw [hR4]; exact q4, by rw [upd_ne (by omega)]; exact q5, ?_⟩
    by_cases z : k = r
    · subst z; rw [upd_self]; exact Or.inr (Or.inr rfl)
    · rw [upd_ne (by omega)]; exact q6
  · obtain ⟨g, r, w, h1, h2, h3, h4, h5, h6, h7, h8, h9⟩ := jA a ha
    exact ⟨g, r, w, h1, h2, h3, h4, h5, h6, h7, by rw [hR4]; exact h8, h9⟩
  · have h0 := jP k hk
    by_cases z : k = r
    · subst z; rw [h3, if_neg n01] at h0; rw [h0, upd_self, if_neg n21]
    · rw [upd_ne (by omega)]; exact h0
theorem JC.deliver {fT fR fA fS fE : F_} {nR nA t r w : Nat} {q : List Nat} {lo hi nf : Int} {B : Nat} {p3 : Int32} (hn : nA < 40) (ht : t < 8) (hr : r < nR) (hw1 : 1 ≤ w) (hw2 : w ≤ 99) (hne : fR (4 * r) ≠ nI t) (h : JC fT fR fA fS fE nR nA q lo hi nf B) :
    JC fT fR (nwA fA nA (nI t) (nI r) p3 (nI w)) fS fE nR (nA + 1) (q ++ [nA]) lo hi nf B := by
  obtain ⟨hR, hA, jR, jA, jP, jW, jM, jS, jC, jF, jV, jE, jD⟩ := h
  obtain ⟨n0, n1, n3, n4, n6, n7⟩ := nw4 (f := fA) (a := nA) (p1 := nI t) (p2 := nI r) (p3 := p3) (p4 := nI w)
  have n5 : nwA fA nA (nI t) (nI r) p3 (nI w) (8 * nA + 5) = 0 := by unfold nwA; rw [upd_ne (by omega), upd_ne (by omega), upd_self]
  have vn : ∀ b j, b < nA → j < 8 → nwA fA nA (nI t) (nI r) p3 (nI w) (8 * b + j) = fA (8 * b + j) := fun b j h1 h2 => nwA_ne (by omega)
  have vn0 : ∀ b, b < nA → nwA fA nA (nI t) (nI r) p3 (nI w) (8 * b) = fA (8 * b) := fun b h1 => nwA_ne (by omega)
  obtain ⟨fA', hf⟩ : ∃ f, f = nwA fA nA (nI t) (nI r) p3 (nI w) := ⟨_, rfl⟩
  rw [← hf] at n0 n1 n3 n4 n5 n6 n7 vn vn0 ⊢
  refine ⟨hR, by omega, jR, fun a ha => ?_, fun k hk => ?_, ⟨?_, fun b => ?_⟩, fun k hk => ?_, jS, jC, jF, ?_, jE, jD⟩
  · by_cases e : a = nA
    · subst e
      exact ⟨t, r, w, ht, hr, hw1, hw2, n0, n1, n3, hne, Or.inl ⟨n4, n5, ⟨0, by decide, n6⟩, n7⟩⟩
    · rw [vn0 a (by omega), vn a 1 (by omega) (by omega), vn a 3 (by omega) (by omega), vn a 4 (by omega) (by omega), vn a 5 (by omega) (by omega), vn a 6 (by omega) (by omega), vn a 7 (by omega) (by omega)]
      exact jA a (by omega)
  · unfold pcR
    rw [cp_succ, n4, decide_eq_false n01, Bool.and_false, if_neg (by decide), Nat.add_zero, ← jP k hk]
    refine cp_congr fun b hb => ?_
    rw [vn b 1 (mem_r0.mp hb) (by omega), vn b 4 (mem_r0.mp hb) (by omega)]
  · rw [List.nodup_append]
    refine ⟨jW.1, by simp, fun a ha b hb => ?_⟩
    rw [List.mem_singleton] at hb
    have := ((jW.2 a).mp ha).1
    omega
  · rw [List.mem_append, List.mem_singleton]
    by_cases e : b = nA
    · subst e; rw [n4]; exact ⟨fun _ => ⟨by omega, rfl⟩, fun _ => Or.inr rfl⟩
    · rw [jW.2 b]
      refine ⟨fun x => x.elim (fun y => ⟨by omega, by rw [vn b 4 y.1 (by omega)]; exact y.2⟩) (fun y => absurd y e), fun x => Or.inl ⟨by omega, ?_⟩⟩
      have := x.2
      rwa [vn b 4 (by omega) (by omega)] at this
  · rw [jM k hk, smI_succ]
    have hz : net fR fA' k nA = 0 := by
      unfold net
      rw [n7, ite_self, ite_self, Int32.sub_self]
    rw [hz, Int32.add_zero]
    refine congrArg (fun x => 100 - fT (2 * k + 1) + x) (smI_congr fun b hb => ?_)
    unfold net
    rw [vn0 b (mem_r0.mp hb), vn b 1 (mem_r0.mp hb) (by omega), vn b 7 (mem_r0.mp hb) (by omega)]
  · obtain ⟨w', ds, a1, a2, a3, a4, a5⟩ := jV
    refine ⟨w', ds, a1, a2, ?_, ?_, a5⟩
    · rw [smI_succ, n6, Int32.add_zero, ← a3]
      exact smI_congr fun b hb => vn b 6 (mem_r0.mp hb) (by omega)
    · unfold st1
      rw [cp_succ, n4, decide_eq_false n01, if_neg (by decide), Nat.add_zero]
      have : (List.range' 0 nA).countP (fun a => decide (fA' (8 * a + 4) = 1)) = st1 fA nA := cp_congr fun b hb => by rw [vn b 4 (mem_r0.mp hb) (by omega)]
      omega
/-- every state of an exchange -/
def IV (R : Nat) (E : Ex) : Prop := ∃ nR nA n q, E.2.2.1 = nI nR ∧ E.2.2.2.2.1 = nI nA ∧ n ≤ R ∧ JX E.1 E.2.1 E.2.2.2.1 E.2.2.2.2.2.1 E.2.2.2.2.2.2.1 E.2.2.2.2.2.2.2.1 E.2.2.2.2.2.2.2.2.1 E.2.2.2.2.2.2.2.2.2.1 E.2.2.2.2.2.2.2.2.2.2 nR nA n q
theorem IV.mono {R R' : Nat} {E : Ex} (h : IV R E) (hR : R ≤ R') : IV R' E := by
  obtain ⟨nR, nA, n, q, h1, h2, h3, h4⟩ := h
  exact ⟨nR, nA, n, q, h1, h2, by omega, h4⟩
theorem a_ask {R : Nat} {E : Ex} (h : IV R E) (p1 p2 p3 : Int32) : ∃ (r : Int32) (fR : F_) (rR : Int32), d_X0_addRiddle p1 p2 p3 E.2.1 E.2.2.1 = some (r, fR, rR) ∧ (r < 0 ∨ ∃ c, c < 2 ^ 31 ∧ r = nI c ∧
    IV R (E.1, fR, rR, E.2.2.2.1, E.2.2.2.2.1, E.2.2.2.2.2.1, E.2.2.2.2.2.2.1, E.2.2.2.2.2.2.2.1, E.2.2.2.2.2.2.2.2.1, E.2.2.2.2.2.2.2.2.2.1, E.2.2.2.2.2.2.2.2.2.2)) := by
  obtain ⟨nR, nA, n, q, hr, ha, hnR, hrnd, hn, hM, hQ⟩ := h
  have hR := hM.1
  have i50 : (50 : Int32).toInt = 50 := rfl
  rw [hr]
  unfold d_X0_addRiddle
  rcases has_case p1 8 (by decide) with e1 | ⟨t, ht, rfl, e1⟩
  · rw [show d_X4_has p1 8 = 0 from e1, if_pos rfl]; exact ⟨_, _, _, rfl, Or.inl (by decide)⟩
  rw [show d_X4_has (nI t) 8 = 1 from e1, if_neg n10]
  by_cases c1 : p2 < 1
  · rw [if_pos c1]; exact ⟨_, _, _, rfl, Or.inl (by decide)⟩
  rw [if_neg c1]
  by_cases c2 : 50 < p2
  · rw [if_pos c2]; exact ⟨_, _, _, rfl, Or.inl (by decide)⟩
  rw [if_neg c2]
  by_cases c3 : p3 < 0
  · rw [if_pos c3]; exact ⟨_, _, _, rfl, Or.inl (by decide)⟩
  rw [if_neg c3]
  by_cases c4 : p3 ≤ 99
  · rw [if_pos c4]
    by_cases c5 : nR < 20
    · have c5' : d_X4_rows (nI nR) < 20 := nI_lt (b := 20) c5 (by decide)
      rw [if_pos c5', e_addRow, tb2_mk, putR0 c5, ob1_some, putR1 c5, ob1_some, putR2 c5, ob1_some, putR3 c5, ob1_some]
      rw [Int32.lt_iff_toInt_lt, i1] at c1
      rw [Int32.lt_iff_toInt_lt, i50] at c2
      obtain ⟨p, hp, rfl, ei⟩ := ex_nI (x := p2) (by omega)
      exact ⟨_, _, _, rfl, Or.inr ⟨nR, by omega, rfl, nR + 1, nA, n, q, rfl, ha, hnR, hrnd, hn, hM.ask c5 ht (by omega) (by omega), hQ⟩⟩
    · have e20 : nR = 20 := by omega
      subst e20
      rw [if_neg (show ¬ d_X4_rows (nI 20) < 20 by decide)]
      exact ⟨_, _, _, rfl, Or.inl (by decide)⟩
  · rw [if_neg c4]; exact ⟨_, _, _, rfl, Or.inl (by decide)⟩
theorem a_withdraw {R : Nat} {E : Ex} (h : IV R E) (p1 : Int32) : ∃ (r : Int32) (fR : F_), d_X0_closeRiddle p1 E.2.1 E.2.2.1 E.2.2.2.1 E.2.2.2.2.1 = some (r, fR) ∧ (r < 0 ∨ ∃ c, c < 2 ^ 31 ∧ r = nI c ∧
    IV R (E.1, fR, E.2.2.1, E.2.2.2.1, E.2.2.2.2.1, E.2.2.2.2.2.1, E.2.2.2.2.2.2.1, E.2.2.2.2.2.2.2.1, E.2.2.2.2.2.2.2.2.1, E.2.2.2.2.2.2.2.2.2.1, E.2.2.2.2.2.2.2.2.2.2)) := by
  obtain ⟨nR, nA, n, q, hr, ha, hnR, hrnd, hn, hM, hQ⟩ := h
  have hR := hM.1
  have hA := hM.2.1
  rw [hr, ha]
  unfold d_X0_closeRiddle
  rcases has_case p1 nR (by omega) with e1 | ⟨r, hrn, rfl, e1⟩
  · rw [e1, if_pos rfl]; exact ⟨_, _, rfl, Or.inl (by decide)⟩
  have hr20 : r < 20 := by omega
  rw [e1, if_neg n10, getR3 hr20, ob1_some]
  by_cases c : E.2.1 (4 * r + 3) = 0
  · have gA1 : ∀ i, i < nA → d_X4_get 320 (nI i) 1 E.2.2.2.1 8 = some (E.2.2.2.1 (8 * i + 1)) := fun i hi => getA1 (by omega)
    have gA4 : ∀ i, i < nA → d_X4_get 320 (nI i) 4 E.2.2.2.1 8 = some (E.2.2.2.1 (8 * i + 4)) := fun i hi => getA4 (by omega)
    rw [if_pos c, putR3 hr20, ob1_some, e_countOfBoth _ _ gA1 gA4 (by omega), ob1_some]
    have hcp := cp_le (p := fun i => decide (E.2.2.2.1 (8 * i + 1) = nI r) && decide (E.2.2.2.1 (8 * i + 4) = 0)) (n := nA)
    exact ⟨_, _, rfl, Or.inr ⟨_, by omega, rfl, nR, nA, n, q, rfl, rfl, hnR, hrnd, hn, hM.close c, hQ⟩⟩
  · rw [if_neg c]; exact ⟨_, _, rfl, Or.inl (by decide)⟩
theorem a_deliver {R : Nat} {E : Ex} (h : IV R E) (p1 p2 p3 p4 : Int32) : ∃ (r : Int32) (fA : F_) (rA : Int32) (ri : F_) (ln : Int32), d_X0_addAnswer p1 p2 p3 p4 E.2.1 E.2.2.1 E.2.2.2.1 E.2.2.2.2.1 E.2.2.2.2.2.2.2.1 E.2.2.2.2.2.2.2.2.1 E.2.2.2.2.2.2.2.2.2.1 = some (r, fA, rA, ri, ln) ∧ (r < 0 ∨ ∃ c, c < 2 ^ 31 ∧ r = nI c ∧
    IV R (E.1, E.2.1, E.2.2.1, fA, rA, E.2.2.2.2.2.1, E.2.2.2.2.2.2.1, ri, E.2.2.2.2.2.2.2.2.1, ln, E.2.2.2.2.2.2.2.2.2.2)) := by
  obtain ⟨nR, nA, n, q, hr, ha, hnR, hrnd, hn, hM, hQ⟩ := h
  have hR := hM.1
  have hA := hM.2.1
  have jW := hM.2.2.2.2.2.1
  have i99 : (99 : Int32).toInt = 99 := rfl
  rw [hr, ha]
  unfold d_X0_addAnswer
  rcases has_case p1 8 (by decide) with e1 | ⟨t, ht, rfl, e1⟩
  · rw [show d_X4_has p1 8 = 0 from e1, if_pos rfl]; exact ⟨_, _, _, _, _, rfl, Or.inl (by decide)⟩
  rw [show d_X4_has (nI t) 8 = 1 from e1, if_neg n10]
  rcases has_case p2 nR (by omega) with e1 | ⟨r, hrn, rfl, e1⟩
  · rw [e1, if_pos rfl]; exact ⟨_, _, _, _, _, rfl, Or.inl (by decide)⟩
  have hr20 : r < 20 := by omega
  rw [e1, if_neg n10]
  by_cases c1 : p3 < 0
  · rw [if_pos c1]; exact ⟨_, _, _, _, _, rfl, Or.inl (by decide)⟩
  rw [if_neg c1]
  by_cases c2 : 99 < p3
  · rw [if_pos c2]; exact ⟨_, _, _, _, _, rfl, Or.inl (by decide)⟩
  rw [if_neg c2]
  by_cases c3 : p4 < 1
  · rw [if_pos c3]; exact ⟨_, _, _, _, _, rfl, Or.inl (by decide)⟩
  rw [if_neg c3]
  by_cases c4 : p4 ≤ 99
  · rw [if_pos c4, getR3 hr20, ob1_some]
    by_cases c5 : E.2.1 (4 * r + 3) = 0
    · rw [if_pos c5, getR0 hr20, ob1_some]
      by_cases c6 : E.2.1 (4 * r) = nI t
      · rw [if_pos c6]; exact ⟨_, _, _, _, _, rfl, Or.inl (by decide)⟩
      rw [if_neg c6]
      by_cases c7 : nA < 40
      · have c7' : d_X4_rows (nI nA) < 40 := nI_lt (b := 40) c7 (by decide)
        rw [Int32.lt_iff_toInt_lt, i1] at c3
        rw [Int32.le_iff_toInt_le, i99] at c4
        obtain ⟨w, hw, rfl, ei⟩ := ex_nI (x := p4) (by omega)
        have hql : q.length < 40 := by
          have := jW.1.length_le_of_subset (l₂ := List.range' 0 nA) fun a ha => mem_r0.mpr ((jW.2 a).mp ha).1
          rw [List.length_range'] at this
          omega
        obtain ⟨ri', ln', g1, g3⟩ := hQ.add (a := nA) hql
        rw [if_pos c7', e_addRow, tb2_mk, putA0 c7, ob1_some, putA1 c7, ob1_some, putA2 c7, ob1_some, putA3 c7, ob1_some, putA4 c7, ob1_some, putA5 c7, ob1_some, putA6 c7, ob1_some, putA7 c7, ob1_some, g1, ob2_some]
        exact ⟨_, _, _, _, _, rfl, Or.inr ⟨nA, by omega, rfl, nR, nA + 1, n, q ++ [nA], rfl, rfl, hnR, hrnd, hn, hM.deliver c7 ht hrn (by omega) (by omega) c6, g3⟩⟩
      · have e40 : nA = 40 := by omega
        subst e40
        rw [if_neg (show ¬ d_X4_rows (nI 40) < 40 by decide)]
        exact ⟨_, _, _, _, _, rfl, Or.inl (by decide)⟩
    · rw [if_neg c5]; exact ⟨_, _, _, _, _, rfl, Or.inl (by decide)⟩
  · rw [if_neg c4]; exact ⟨_, _, _, _, _, rfl, Or.inl (by decide)⟩
theorem a_adjust {R : Nat} {E : Ex} (h : IV R E) : ∃ (r : Int32) (fS : F_), d_X0_setScalesRight E.2.2.2.2.2.1 = some (r, fS) ∧ (r < 0 ∨ ∃ c, c < 2 ^ 31 ∧ r = nI c ∧
    IV R (E.1, E.2.1, E.2.2.1, E.2.2.2.1, E.2.2.2.2.1, fS, E.2.2.2.2.2.2.1, E.2.2.2.2.2.2.2.1, E.2.2.2.2.2.2.2.2.1, E.2.2.2.2.2.2.2.2.2.1, E.2.2.2.2.2.2.2.2.2.2)) := by
  obtain ⟨nR, nA, n, q, hr, ha, hnR, hrnd, hn, hM, hQ⟩ := h
  obtain ⟨hR, hA, jR, jA, jP, jW, jM, jS, jC, jF, jV, jE, jD⟩ := hM
  rw [e_scales]
  have b0 := ab_bd jD.1
  have b2 := ab_bd jD.2
  have hs : (ab (E.2.2.2.2.2.1 0) + ab (E.2.2.2.2.2.1 2)).toInt = (ab (E.2.2.2.2.2.1 0)).toInt + (ab (E.2.2.2.2.2.1 2)).toInt := add_toInt (by omega) (by omega)
  obtain ⟨c, hc, e, ei⟩ := ex_nI (x := ab (E.2.2.2.2.2.1 0) + ab (E.2.2.2.2.2.1 2)) (by omega)
  refine ⟨_, _, rfl, ?_⟩
  by_cases z : ab (E.2.2.2.2.2.1 0) + ab (E.2.2.2.2.2.1 2) = 0
  · rw [if_pos z]; exact Or.inl (by decide)
  · rw [if_neg z]
    refine Or.inr ⟨c, hc, e, nR, nA, n, q, hr, ha, hnR, hrnd, hn, ⟨hR, hA, jR, jA, jP, jW, jM, jS, jC, jF, ?_, jE, ?_, ?_⟩, hQ⟩
    · obtain ⟨w', ds, a1, a2, a3⟩ := jV
      have y1 : upd (upd E.2.2.2.2.2.1 0 0) 2 0 1 = E.2.2.2.2.2.1 1 := by rw [upd_ne (by decide), upd_ne (by decide)]
      have y3 : upd (upd E.2.2.2.2.2.1 0 0) 2 0 3 = E.2.2.2.2.2.1 3 := by rw [upd_ne (by decide), upd_ne (by decide)]
      exact ⟨w', ds, y1.trans a1, y3.trans a2, a3⟩
    · have y0 : upd (upd E.2.2.2.2.2.1 0 0) 2 0 0 = 0 := by rw [upd_ne (by decide), upd_self]
      show -9 ≤ (upd (upd E.2.2.2.2.2.1 0 0) 2 0 0).toInt ∧ (upd (upd E.2.2.2.2.2.1 0 0) 2 0 0).toInt ≤ 9
      rw [y0, i0]; omega
    · have y0 : upd (upd E.2.2.2.2.2.1 0 0) 2 0 2 = 0 := upd_self
      show -9 ≤ (upd (upd E.2.2.2.2.2.1 0 0) 2 0 2).toInt ∧ (upd (upd E.2.2.2.2.2.1 0 0) 2 0 2).toInt ≤ 9
      rw [y0, i0]; omega
theorem IE_set {fE : F_} (h : IE fE) {k : Nat} (hk : k < 4) {p : Int32} (h1 : (fE (3 * k + 1)).toInt ≤ p.toInt) (h2 : p.toInt ≤ (fE (3 * k + 2)).toInt) : IE (upd fE (3 * k) p) ∧ ∃ c, c < 2 ^ 31 ∧ fE (3 * k) = nI c := by
  obtain ⟨⟨a0, b0, c0⟩, ⟨a1, b1, c1⟩, ⟨a2, b2, b2', c2⟩, ⟨a3, b3, c3⟩, d1, d2, d4, d5, d7, d8, d10, d11⟩ := h
  have i9 : (9 : Int32).toInt = 9 := rfl
  have i500 : (500 : Int32).toInt = 500 := rfl
  rcases n4cases hk with rfl | rfl | rfl | rfl
  · have g1 : (fE (3 * 0 + 1)).toInt = 0 := by rw [show fE (3 * 0 + 1) = 0 from d1]; rfl
    have g2 : (fE (3 * 0 + 2)).toInt = 9 := by rw [show fE (3 * 0 + 2) = 9 from d2]; rfl
    obtain ⟨v, hv, e, ei⟩ := ex_nI (x := p) (by omega)
    exact ⟨⟨⟨v, by omega, e⟩, ⟨a1, b1, c1⟩, ⟨a2, b2, b2', c2⟩, ⟨a3, b3, c3⟩, d1, d2, d4, d5, d7, d8, d10, d11⟩, a0, by omega, c0⟩
  · have g1 : (fE (3 * 1 + 1)).toInt = 0 := by rw [show fE (3 * 1 + 1) = 0 from d4]; rfl
    have g2 : (fE (3 * 1 + 2)).toInt = 9 := by rw [show fE (3 * 1 + 2) = 9 from d5]; rfl
    obtain ⟨v, hv, e, ei⟩ := ex_nI (x := p) (by omega)
    exact ⟨⟨⟨a0, b0, c0⟩, ⟨v, by omega, e⟩, ⟨a2, b2, b2', c2⟩, ⟨a3, b3, c3⟩, d1, d2, d4, d5, d7, d8, d10, d11⟩, a1, by omega, c1⟩
  · have g1 : (fE (3 * 2 + 1)).toInt = 1 := by rw [show fE (3 * 2 + 1) = 1 from d7]; rfl
    have g2 : (fE (3 * 2 + 2)).toInt = 9 := by rw [show fE (3 * 2 + 2) = 9 from d8]; rfl
    obtain ⟨v, hv, e, ei⟩ := ex_nI (x := p) (by omega)
    exact ⟨⟨⟨a0, b0, c0⟩, ⟨a1, b1, c1⟩, ⟨v, by omega, by omega, e⟩, ⟨a3, b3, c3⟩, d1, d2, d4, d5, d7, d8, d10, d11⟩, a2, by omega, c2⟩
  · have g1 : (fE (3 * 3 + 1)).toInt = 0 := by rw [show fE (3 * 3 + 1) = 0 from d10]; rfl
    have g2 : (fE (3 * 3 + 2)).toInt = 500 := by rw [show fE (3 * 3 + 2) = 500 from d11]; rfl
    obtain ⟨v, hv, e, ei⟩ := ex_nI (x := p) (by omega)
    exact ⟨⟨⟨a0, b0, c0⟩, ⟨a1, b1, c1⟩, ⟨a2, b2, b2', c2⟩, ⟨v, by omega, e⟩, d1, d2, d4, d5, d7, d8, d10, d11⟩, a3, by omega, c3⟩
theorem a_set {R : Nat} {E : Ex} (h : IV R E) (p1 p2 : Int32) : ∃ (r : Int32) (fE : F_), d_X0_changeSetting p1 p2 E.2.2.2.2.2.2.1 = some (r, fE) ∧ (r < 0 ∨ ∃ c, c < 2 ^ 31 ∧ r = nI c ∧
    IV R (E.1, E.2.1, E.2.2.1, E.2.2.2.1, E.2.2.2.2.1, E.2.2.2.2.2.1, fE, E.2.2.2.2.2.2.2.1, E.2.2.2.2.2.2.2.2.1, E.2.2.2.2.2.2.2.2.2.1, E.2.2.2.2.2.2.2.2.2.2)) := by
  obtain ⟨nR, nA, n, q, hr, ha, hnR, hrnd, hn, hM, hQ⟩ := h
  obtain ⟨hR, hA, jR, jA, jP, jW, jM, jS, jC, jF, jV, jE, jD⟩ := hM
  unfold d_X0_changeSetting
  rcases has_case p1 4 (by decide) with e1 | ⟨k, hk, rfl, e1⟩
  · rw [show d_X4_has p1 4 = 0 from e1, if_pos rfl]; exact ⟨_, _, rfl, Or.inl (by decide)⟩
  rw [show d_X4_has (nI k) 4 = 1 from e1, if_neg n10, getE1 hk, ob1_some]
  by_cases c1 : p2 < E.2.2.2.2.2.2.1 (3 * k + 1)
  · rw [if_pos c1]; exact ⟨_, _, rfl, Or.inl (by decide)⟩
  rw [if_neg c1, getE2 hk, ob1_some]
  by_cases c2 : p2 ≤ E.2.2.2.2.2.2.1 (3 * k + 2)
  · rw [if_pos c2, getE0 hk, ob1_some]
    by_cases c3 : E.2.2.2.2.2.2.1 (3 * k) = p2
    · rw [if_pos c3]; exact ⟨_, _, rfl, Or.inl (by decide)⟩
    · rw [if_neg c3, putE0 hk, ob1_some]
      rw [Int32.lt_iff_toInt_lt] at c1
      rw [Int32.le_iff_toInt_le] at c2
      obtain ⟨g1, c, hc, g2⟩ := IE_set jE hk (p := p2) (by omega) c2
      exact ⟨_, _, rfl, Or.inr ⟨c, hc, g2, nR, nA, n, q, hr, ha, hnR, hrnd, hn, ⟨hR, hA, jR, jA, jP, jW, jM, jS, jC, jF, jV, g1, jD⟩, hQ⟩⟩
  · rw [if_neg c2]; exact ⟨_, _, rfl, Or.inl (by decide)⟩
theorem n99 {P : Nat} (h : P ≤ 99) : nI P ≤ 99 := nI_le (a := P) (b := 99) h (by decide)
theorem a_pass {R : Nat} {E : Ex} (h : IV R E) (P : Nat) (hP1 : 1 ≤ P) (hP : P ≤ 99) (hR : R + P ≤ 9999) : ∃ (p : Nat) (fT fR fA fS ri : F_) (hd ln rnd : Int32), d_X0_playRounds (nI P) E.1 E.2.1 E.2.2.2.1 E.2.2.2.2.2.1 E.2.2.2.2.2.2.1 E.2.2.2.2.2.2.2.1 E.2.2.2.2.2.2.2.2.1 E.2.2.2.2.2.2.2.2.2.1 E.2.2.2.2.2.2.2.2.2.2 = some (nI p, fT, fR, fA, fS, ri, hd, ln, rnd) ∧
    lp_X0_playRounds_33 E.2.2.2.2.2.2.1 (nI P) fuel 0 0 E.1 E.2.1 E.2.2.2.1 E.2.2.2.2.2.1 E.2.2.2.2.2.2.2.1 E.2.2.2.2.2.2.2.2.1 E.2.2.2.2.2.2.2.2.2.1 E.2.2.2.2.2.2.2.2.2.2 = some (nI p, fT, fR, fA, fS, ri, hd, ln, rnd) ∧ p ≤ 40 ∧
    IV (R + P) (fT, fR, E.2.2.1, fA, E.2.2.2.2.1, fS, E.2.2.2.2.2.2.1, ri, hd, ln, rnd) := by
  obtain ⟨nR, nA, n, q, hr, ha, hnR, hX⟩ := h
  have hrnd := hX.1
  have hq40 : q.length ≤ 40 := hX.2.2.2.1
  obtain ⟨p, fT', fR', fA', fS', ri', hd', ln', q', g1, g2, g3, g4⟩ := rounds_loop (R := P) (by omega) P 0 0 fuel n _ _ _ _ _ _ _ _ q (by omega) (k_fuel (by omega)) (by omega) hX
  have g1' : lp_X0_playRounds_33 E.2.2.2.2.2.2.1 (nI P) fuel 0 0 E.1 E.2.1 E.2.2.2.1 E.2.2.2.2.2.1 E.2.2.2.2.2.2.2.1 E.2.2.2.2.2.2.2.2.1 E.2.2.2.2.2.2.2.2.2.1 E.2.2.2.2.2.2.2.2.2.2 = some (nI p, fT', fR', fA', fS', ri', hd', ln', nI (n + P)) := by
    rw [Nat.zero_add] at g1; exact g1
  refine ⟨p, fT', fR', fA', fS', ri', hd', ln', _, ?_, g1', by omega, nR, nA, n + P, q', hr, ha, by omega, g2⟩
  unfold d_X0_playRounds
  rw [if_neg (show ¬ nI P < 1 from nI_nlt (b := 1) hP1 (by omega)), if_pos (n99 hP), hrnd, nJ_add, if_pos (show nI (n + P) ≤ 9999 from nI_le (b := 9999) (by omega) (by decide)), ← hrnd]
  exact g1'
/-- what rounds beyond the last one, and none, come to -/
theorem a_pass_lo {fT fR fA fS fE ri : F_} {hd ln rnd p : Int32} (h : p < 1) : d_X0_playRounds p fT fR fA fS fE ri hd ln rnd = some (-2, fT, fR, fA, fS, ri, hd, ln, rnd) := by
  unfold d_X0_playRounds; rw [if_pos h]
theorem a_pass_hi {fT fR fA fS fE ri : F_} {hd ln rnd p : Int32} (h1 : ¬ p < 1) (h : ¬ p ≤ 99) : d_X0_playRounds p fT fR fA fS fE ri hd ln rnd = some (-2, fT, fR, fA, fS, ri, hd, ln, rnd) := by
  unfold d_X0_playRounds; rw [if_neg h1, if_neg h]
