/-! part 66n: what is refused, from the beginning -/
section REFUSED2
variable {t t' : Td} {fT fR fA fS fE ri : F_} {hd ln rnd : Int32} {nR nA n : Nat} {q : List Nat} {e p p1 p2 p3 p4 : Int32}
theorem n_ask1 (h8 : d_X4_has p1 8 = 0) : ∃ t', q_ask p1 p2 p3 t = some (-1, t') ∧ KP t t' :=
  x_ask (by decide) ⟨t.1.2.1, t.1.2.2.1, by unfold d_X0_addRiddle; rw [if_pos h8]⟩
theorem n_ask2 (c : 50 < p2) : ∃ t', q_ask 0 p2 p3 t = some (-2, t') ∧ KP t t' :=
  x_ask (by decide) ⟨t.1.2.1, t.1.2.2.1, by
    unfold d_X0_addRiddle
    rw [if_neg (show ¬ d_X4_has 0 8 = 0 by decide)]
    by_cases d : p2 < 1
    · rw [if_pos d]
    · rw [if_neg d, if_pos c]⟩
theorem n_ask3 (c : ¬ p3 ≤ 99) : ∃ t', q_ask 0 1 p3 t = some (-2, t') ∧ KP t t' :=
  x_ask (by decide) ⟨t.1.2.1, t.1.2.2.1, by
    unfold d_X0_addRiddle
    rw [if_neg (show ¬ d_X4_has 0 8 = 0 by decide), if_neg (by decide), if_neg (by decide)]
    by_cases d : p3 < 0
    · rw [if_pos d]
    · rw [if_neg d, if_neg c]⟩
theorem n_withdraw (hR : d_X4_has p1 t.1.2.2.1 = 0) : ∃ t', q_withdraw p1 t = some (-1, t') ∧ KP t t' :=
  x_withdraw (by decide) ⟨t.1.2.1, by unfold d_X0_closeRiddle; rw [if_pos hR]⟩
theorem n_deliver1 (h8 : d_X4_has p1 8 = 0) : ∃ t', q_deliver p1 p2 p3 p4 t = some (-1, t') ∧ KP t t' :=
  x_deliver (by decide) ⟨_, _, _, _, by unfold d_X0_addAnswer; rw [if_pos h8]⟩
theorem n_deliver2 (hR : d_X4_has p2 t.1.2.2.1 = 0) : ∃ t', q_deliver 0 p2 p3 p4 t = some (-1, t') ∧ KP t t' :=
  x_deliver (by decide) ⟨_, _, _, _, by unfold d_X0_addAnswer; rw [if_neg (show ¬ d_X4_has 0 8 = 0 by decide), if_pos hR]⟩
theorem n_set1 (h4 : d_X4_has p1 4 = 0) : ∃ t', q_set p1 p2 t = some (-1, t') ∧ KP t t' :=
  x_set (by decide) ⟨_, by unfold d_X0_changeSetting; rw [if_pos h4]⟩
theorem n_set2 (hE : IE t.1.2.2.2.2.2.2.1) (c : ¬ p2 ≤ 9) (c0 : ¬ p2 < 0) : ∃ t', q_set 0 p2 t = some (-2, t') ∧ KP t t' := by
  obtain ⟨-, -, -, -, d1, d2, d4, d5, d7, d8, d10, d11⟩ := hE
  refine x_set (by decide) ⟨t.1.2.2.2.2.2.2.1, ?_⟩
  have g1 : d_X4_get 12 0 1 t.1.2.2.2.2.2.2.1 3 = some (t.1.2.2.2.2.2.2.1 1) := getE1 (p := 0) (by decide)
  have g2 : d_X4_get 12 0 2 t.1.2.2.2.2.2.2.1 3 = some (t.1.2.2.2.2.2.2.1 2) := getE2 (p := 0) (by decide)
  unfold d_X0_changeSetting
  rw [if_neg (show ¬ d_X4_has 0 4 = 0 by decide), g1, d1, ob1_some, if_neg c0, g2, d2, ob1_some, if_neg c]
theorem n_set3 (hE : IE t.1.2.2.2.2.2.2.1) : ∃ t', q_set 2 0 t = some (-2, t') ∧ KP t t' := by
  obtain ⟨-, -, -, -, d1, d2, d4, d5, d7, d8, d10, d11⟩ := hE
  refine x_set (by decide) ⟨t.1.2.2.2.2.2.2.1, ?_⟩
  have g1 : d_X4_get 12 2 1 t.1.2.2.2.2.2.2.1 3 = some (t.1.2.2.2.2.2.2.1 7) := getE1 (p := 2) (by decide)
  unfold d_X0_changeSetting
  rw [if_neg (show ¬ d_X4_has 2 4 = 0 by decide), g1, d7, ob1_some, if_pos (by decide)]
theorem n_set4 (hE : IE t.1.2.2.2.2.2.2.1) : ∃ t', q_set 1 (t.1.2.2.2.2.2.2.1 3) t = some (-5, t') ∧ KP t t' := by
  obtain ⟨-, ⟨v, hv, ev⟩, -, -, d1, d2, d4, d5, d7, d8, d10, d11⟩ := hE
  refine x_set (by decide) ⟨t.1.2.2.2.2.2.2.1, ?_⟩
  have g0 : d_X4_get 12 1 0 t.1.2.2.2.2.2.2.1 3 = some (t.1.2.2.2.2.2.2.1 3) := getE0 (p := 1) (by decide)
  have g1 : d_X4_get 12 1 1 t.1.2.2.2.2.2.2.1 3 = some (t.1.2.2.2.2.2.2.1 4) := getE1 (p := 1) (by decide)
  have g2 : d_X4_get 12 1 2 t.1.2.2.2.2.2.2.1 3 = some (t.1.2.2.2.2.2.2.1 5) := getE2 (p := 1) (by decide)
  unfold d_X0_changeSetting
  rw [if_neg (show ¬ d_X4_has 1 4 = 0 by decide), g1, d4, ob1_some, if_neg (show ¬ t.1.2.2.2.2.2.2.1 3 < 0 by rw [ev]; exact nI_pos (by omega)), g2, d5, ob1_some, if_pos (show t.1.2.2.2.2.2.2.1 3 ≤ 9 by rw [ev]; exact nI_le (b := 9) hv (by decide)), g0, ob1_some, if_pos rfl]
theorem n_stopped (c0 : ¬ p = 0) (c1 : ¬ p = 1) : q_stopped p t = some (-2) := by
  show some (if p = 0 then _ else if p = 1 then _ else -2) = _
  rw [if_neg c0, if_neg c1]
theorem n_trader1 (h8 : d_X4_has p 8 = 0) : q_trader p p2 t = some (-1) := by
  rw [qv_trader]; unfold d_X0_tellTrader; rw [if_pos h8]
theorem n_trader2 {Y : Nat} (hY : Y < 100000) : q_trader 0 (8 + nI Y) t = some (-2) := by
  rw [qv_trader, show (8 : Int32) + nI Y = nI (8 + Y) from nJ_add 8 Y]
  unfold d_X0_tellTrader
  rw [if_neg (show ¬ d_X4_has 0 8 = 0 by decide), if_neg (nn (A := 8 + Y) (c := 0) (k := 0) rfl (by omega) (by decide) (by omega)), if_neg (nn (A := 8 + Y) (c := 1) (k := 1) rfl (by omega) (by decide) (by omega)), if_neg (nn (A := 8 + Y) (c := 2) (k := 2) rfl (by omega) (by decide) (by omega)), if_neg (nn (A := 8 + Y) (c := 3) (k := 3) rfl (by omega) (by decide) (by omega)), if_neg (nn (A := 8 + Y) (c := 4) (k := 4) rfl (by omega) (by decide) (by omega)), if_neg (nn (A := 8 + Y) (c := 5) (k := 5) rfl (by omega) (by decide) (by omega)), if_neg (nn (A := 8 + Y) (c := 6) (k := 6) rfl (by omega) (by decide) (by omega)), if_neg (nn (A := 8 + Y) (c := 7) (k := 7) rfl (by omega) (by decide) (by omega))]
theorem n_riddle (hR : d_X4_has p t.1.2.2.1 = 0) : q_riddle p p2 t = some (-1) := by
  rw [qv_riddle]; unfold d_X0_tellRiddle; rw [if_pos hR]
theorem n_answer (hA : d_X4_has p t.1.2.2.2.2.1 = 0) : q_answer p p2 t = some (-1) := by
  rw [qv_answer]; unfold d_X0_tellAnswer; rw [if_pos hA]
theorem n_waits (c : p < 0) : q_waits p t = some (-2) := by
  show d_X5_waits p t.1 = _
  unfold d_X5_waits
  rw [if_neg (Int32.not_le.mpr c)]
theorem n_weigh1 (c0 : ¬ p < 0) (c : ¬ p ≤ 1) : q_weigh p p2 t = some (-1) := by
  show d_X5_weigh p p2 t.1 = _
  unfold d_X5_weigh
  rw [if_neg c0, if_neg c]
theorem n_weigh2 (c0 : ¬ p < 1) (c : ¬ p ≤ 99) : q_weigh 0 p t = some (-2) := by
  show d_X5_weigh 0 p t.1 = _
  unfold d_X5_weigh
  rw [if_neg (by decide), if_pos (by decide), if_neg c0, if_neg c]
theorem n_wt (hA : d_X4_has p t.1.2.2.2.2.1 = 0) : d_X0_errorIfNotWaiting p t.1.2.2.2.1 t.1.2.2.2.2.1 = some (-1) := by
  unfold d_X0_errorIfNotWaiting; rw [if_pos hA]
theorem n_reason (hA : d_X4_has p t.1.2.2.2.2.1 = 0) : q_reason p t = some (-1) := by
  show d_X5_reason p t.1 = _
  unfold d_X5_reason
  rw [n_wt hA, ob1_some, if_neg (by decide)]
theorem n_settled (hA : d_X4_has p t.1.2.2.2.2.1 = 0) : ∃ t', q_settledIn p t = some (-1, t') ∧ KP t t' := by
  unfold q_settledIn d_X5_settledIn
  rw [n_wt hA, ob1_some, if_neg (by decide)]
  exact ⟨_, rfl, ⟨rfl, rfl, rfl, rfl, rfl, rfl, rfl, rfl⟩, rfl⟩
theorem n_ifRounds (c0 : ¬ p < 1) (c : ¬ p ≤ 99) : ∃ t', q_ifRounds p p2 t = some (-2, t') ∧ KP t t' := by
  unfold q_ifRounds d_X5_ifRounds
  rw [if_neg c0, if_neg c]
  exact ⟨_, rfl, ⟨rfl, rfl, rfl, rfl, rfl, rfl, rfl, rfl⟩, rfl⟩
theorem n_account (h8 : d_X4_has p 8 = 0) : q_account p t = some (-1) := by
  rw [qv_account]; unfold d_X0_tellAccount; rw [if_pos h8]
theorem n_count (h : ∀ k : Nat, k < 20 → ¬ p = nI k) : q_count p t = some (-2) := by
  show d_X5_count p t.1 _ _ = _
  unfold d_X5_count d_X0_tellCount
  rw [if_neg (show ¬ p = 18 from h 18 (by decide)), if_neg (show ¬ p = 19 from h 19 (by decide)), if_neg (show ¬ p = 0 from h 0 (by decide)), if_neg (show ¬ p = 1 from h 1 (by decide)), if_neg (show ¬ p = 2 from h 2 (by decide)), if_neg (show ¬ p = 3 from h 3 (by decide)), if_neg (show ¬ p = 4 from h 4 (by decide)), if_neg (show ¬ p = 5 from h 5 (by decide)), if_neg (show ¬ p = 6 from h 6 (by decide)), if_neg (show ¬ p = 7 from h 7 (by decide)), if_neg (show ¬ p = 8 from h 8 (by decide)), if_neg (show ¬ p = 9 from h 9 (by decide)), if_neg (show ¬ p = 10 from h 10 (by decide)), if_neg (show ¬ p = 11 from h 11 (by decide)), if_neg (show ¬ p = 12 from h 12 (by decide)), if_neg (show ¬ p = 13 from h 13 (by decide)), if_neg (show ¬ p = 14 from h 14 (by decide)), if_neg (show ¬ p = 15 from h 15 (by decide)), if_neg (show ¬ p = 16 from h 16 (by decide)), if_neg (show ¬ p = 17 from h 17 (by decide)), ob1_some]

theorem r_58 {x2 x3 x4 : Int32} (h : NX t fT fR fA fS fE ri hd ln rnd nR nA n q) {Y : Nat} (hY : Y < 100000) (hl : LO t) (h2 : d_X4_has x2 8 = 0) (h3 : d_X4_has x3 (nI nR) = 0) (h4 : d_X4_has x4 (nI nA) = 0) : RF t (j_L_refuses_58 (nI Y) x2 x3 x4 t) := by
  have hE : IE fE := by
    obtain ⟨hR, hA, jR, jA, jP, jW, jM, jS, jC, jF, jV, jE, jD⟩ := h.2.2.2.1
    exact jE
  have up : ∀ B : Nat, B ≤ 100 → ∀ c : Int32, c = nI B → c + nI Y = nI (B + Y) := fun B _ c hc => by rw [hc, nJ_add]
  have w99 : ∀ B : Nat, B ≤ 100 → 100 ≤ B → ¬ nI (B + Y) ≤ 99 := fun B h1 h2 => nI_ge (a := 99) (by omega) (by omega)
  unfold j_L_refuses_58
  rw [show (51 : Int32) + nI Y = nI (51 + Y) from nJ_add 51 Y, show (100 : Int32) + nI Y = nI (100 + Y) from nJ_add 100 Y, show (4 : Int32) + nI Y = nI (4 + Y) from nJ_add 4 Y, show (10 : Int32) + nI Y = nI (10 + Y) from nJ_add 10 Y, show (2 : Int32) + nI Y = nI (2 + Y) from nJ_add 2 Y, show (20 : Int32) + nI Y = nI (20 + Y) from nJ_add 20 Y]
  obtain ⟨t1, e1, s1, l1⟩ := n_ask1 (t := t) (p1 := x2) (p2 := 0) (p3 := 0) h2
  refine RF.of s1 ?_
  have h101 := h.of s1
  have hl1 := hl.of6 l1
  rw [e1, ob2_some, if_pos rfl]
  obtain ⟨t2, e2, s2, l2⟩ := n_ask2 (t := t1) (p2 := nI (51 + Y)) (p3 := 0) (nI_lt (a := 50) (by omega) (by omega))
  refine RF.of s2 ?_
  have h102 := h101.of s2
  have hl2 := hl1.of6 l2
  rw [e2, ob2_some, if_pos rfl]
  obtain ⟨t3, e3, s3, l3⟩ := n_ask3 (t := t2) (p3 := nI (100 + Y)) (w99 100 (by decide) (by decide))
  refine RF.of s3 ?_
  have h103 := h102.of s3
  have hl3 := hl2.of6 l3
  rw [e3, ob2_some, if_pos rfl]
  obtain ⟨t4, e4, s4, l4⟩ := n_withdraw (t := t3) (p1 := x3) (show d_X4_has x3 t3.1.2.2.1 = 0 by rw [h103.1]; exact h3)
  refine RF.of s4 ?_
  have h104 := h103.of s4
  have hl4 := hl3.of6 l4
  rw [e4, ob2_some, if_pos rfl]
  obtain ⟨t5, e5, s5, l5⟩ := n_deliver2 (t := t4) (p2 := x3) (p3 := 0) (p4 := 0) (show d_X4_has x3 t4.1.2.2.1 = 0 by rw [h104.1]; exact h3)
  refine RF.of s5 ?_
  have h105 := h104.of s5
  have hl5 := hl4.of6 l5
  rw [e5, ob2_some, if_pos rfl]
  obtain ⟨t6, e6, s6, l6⟩ := n_deliver1 (t := t5) (p1 := x2) (p2 := 0) (p3 := 0) (p4 := 1) h2
  refine RF.of s6 ?_
  have h106 := h105.of s6
  have hl6 := hl5.of6 l6
  rw [e6, ob2_some, if_pos rfl]
  obtain ⟨t7, e7, s7, l7⟩ := n_set1 (t := t6) (p1 := nI (4 + Y)) (p2 := 0) (has_big (nI_le (a := 4) (by omega) (by omega)))
  refine RF.of s7 ?_
  have h107 := h106.of s7
  have hl7 := hl6.of6 l7
  rw [e7, ob2_some, if_pos rfl]
  obtain ⟨t8, e8, s8, l8⟩ := n_set2 (t := t7) (p2 := nI (10 + Y)) (show IE t7.1.2.2.2.2.2.2.1 by rw [h107.1]; exact hE) (nI_ge (a := 9) (by omega) (by omega)) (nI_pos (by omega))
  refine RF.of s8 ?_
  have h108 := h107.of s8
  have hl8 := hl7.of6 l8
  rw [e8, ob2_some, if_pos rfl]
  obtain ⟨t9, e9, s9, l9⟩ := n_set3 (t := t8) (show IE t8.1.2.2.2.2.2.2.1 by rw [h108.1]; exact hE)
  refine RF.of s9 ?_
  have h109 := h108.of s9
  have hl9 := hl8.of6 l9
  rw [e9, ob2_some, if_pos rfl]
  have e15 : t9.1.2.2.2.2.2.2.1 3 = fE 3 := by rw [h109.1]
  rw [v_c15 h109, ob1_some, ← e15]
  obtain ⟨t10, e10, s10, l10⟩ := n_set4 (t := t9) (show IE t9.1.2.2.2.2.2.2.1 by rw [h109.1]; exact hE)
  refine RF.of s10 ?_
  have h110 := h109.of s10
  have hl10 := hl9.of6 l10
  rw [e10, ob2_some, if_pos rfl]
  obtain ⟨t11, e11, s11, l11⟩ := x_pass (t := t10) (p1 := 0) (Or.inl (by decide))
  refine RF.of s11 ?_
  have h111 := h110.of s11
  have hl11 := hl10.of6 l11
  rw [e11, ob2_some, if_pos rfl]
  obtain ⟨t12, e12, s12, l12⟩ := x_pass (t := t11) (p1 := nI (100 + Y)) (Or.inr ⟨nI_nlt (b := 1) (by omega) (by omega), w99 100 (by decide) (by decide)⟩)
  refine RF.of s12 ?_
  have h112 := h111.of s12
  have hl12 := hl11.of6 l12
  rw [e12, ob2_some, if_pos rfl]
  rw [n_stopped (t := t12) (p := nI (2 + Y)) (nn (k := 0) rfl (by omega) (by decide) (by omega)) (nn (k := 1) rfl (by omega) (by decide) (by omega)), ob1_some, if_pos rfl]
  rw [n_trader1 (t := t12) (p := x2) (p2 := 0) h2, ob1_some, if_pos rfl]
  rw [n_trader2 (t := t12) hY, ob1_some, if_pos rfl]
  rw [n_riddle (t := t12) (p := x3) (p2 := 0) (show d_X4_has x3 t12.1.2.2.1 = 0 by rw [h112.1]; exact h3), ob1_some, if_pos rfl]
  rw [n_answer (t := t12) (p := x4) (p2 := 0) (show d_X4_has x4 t12.1.2.2.2.2.1 = 0 by rw [h112.1]; exact h4), ob1_some, if_pos rfl]
  rw [n_waits (t := t12) (ng1 hY), ob1_some, if_pos rfl]
  rw [n_weigh1 (t := t12) (p := nI (2 + Y)) (p2 := 1) (nI_pos (by omega)) (nI_ge (a := 1) (by omega) (by omega)), ob1_some, if_pos rfl]
  rw [n_weigh2 (t := t12) (p := nI (100 + Y)) (nI_nlt (b := 1) (by omega) (by omega)) (w99 100 (by decide) (by decide)), ob1_some, if_pos rfl]
  rw [n_reason (t := t12) (p := x4) (show d_X4_has x4 t12.1.2.2.2.2.1 = 0 by rw [h112.1]; exact h4), ob1_some, if_pos rfl]
  obtain ⟨t13, e13, s13, l13⟩ := n_settled (t := t12) (p := x4) (show d_X4_has x4 t12.1.2.2.2.2.1 = 0 by rw [h112.1]; exact h4)
  refine RF.of s13 ?_
  have h113 := h112.of s13
  have hl13 := hl12.of6 l13
  rw [e13, ob2_some, if_pos rfl]
  obtain ⟨t14, e14, s14, l14⟩ := n_ifRounds (t := t13) (p := nI (100 + Y)) (p2 := 1) (nI_nlt (b := 1) (by omega) (by omega)) (w99 100 (by decide) (by decide))
  refine RF.of s14 ?_
  have h114 := h113.of s14
  have hl14 := hl13.of6 l14
  rw [e14, ob2_some, if_pos rfl]
  rw [n_account (t := t14) (p := x2) h2, ob1_some, if_pos rfl]
  rw [n_count (t := t14) (p := nI (20 + Y)) (fun k hk => nn rfl (by omega) (by omega) (by omega)), ob1_some, if_pos rfl]
  rw [n_count (t := t14) (p := (-1) - nI Y) (fun k hk => nng (ng1 hY) (by omega)), ob1_some, if_pos rfl]
  exact r_378 h114 hY hl14
theorem refuses_ok {R : Nat} (hT : TV R t) (hl : LO t) {Y : Nat} (hY : Y < 100000) : RF t (d_L_refuses (nI Y) t) := by
  obtain ⟨fT, fR, fA, fS, fE, ri, hd, ln, rnd, nR, nA, n, q, hn, h⟩ := IV.nx hT.1
  have hR := bR h
  have hR2 : nR ≤ 20 := h.2.2.2.1.1
  have hA : nA ≤ 40 := h.2.2.2.1.2.1
  have fin : ∀ x2 x3 x4, d_X4_has x2 8 = 0 → d_X4_has x3 (nI nR) = 0 → d_X4_has x4 (nI nA) = 0 → RF t (j_L_refuses_58 (nI Y) x2 x3 x4 t) := fun x2 x3 x4 h2 h3 h4 => r_58 h hY hl h2 h3 h4
  have a37 : ∀ x2 x3, d_X4_has x2 8 = 0 → d_X4_has x3 (nI nR) = 0 → RF t (j_L_refuses_37 (nI Y) x2 x3 t) := fun x2 x3 h2 h3 => by
    unfold j_L_refuses_37
    by_cases c : nI Y - nI Y / 2 * 2 = 0
    · rw [if_pos c, v_c3 h, ob1_some]
      exact fin _ _ _ h2 h3 (by rw [nJ_add]; exact has_big (nI_le (by omega) (by omega)))
    · rw [if_neg c]
      exact fin _ _ _ h2 h3 (has_neg _ (ng1 hY))
  have a17 : ∀ x2, d_X4_has x2 8 = 0 → RF t (j_L_refuses_17 (nI Y) x2 t) := fun x2 h2 => by
    unfold j_L_refuses_17
    by_cases c : nI Y - nI Y / 2 * 2 = 0
    · rw [if_pos c, v_c1 h, ob1_some]
      exact a37 _ _ h2 (by rw [nJ_add]; exact has_big (nI_le (by omega) (by omega)))
    · rw [if_neg c]
      exact a37 _ _ h2 (has_neg _ (ng1 hY))
  unfold d_L_refuses
  by_cases c : nI Y - nI Y / 2 * 2 = 0
  · rw [if_pos c]
    exact a17 _ (by rw [show (8 : Int32) + nI Y = nI (8 + Y) from nJ_add 8 Y]; exact has_big (nI_le (a := 8) (by omega) (by omega)))
  · rw [if_neg c]
    exact a17 _ (has_neg _ (ng1 hY))
end REFUSED2
