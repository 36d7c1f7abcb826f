/-! part 50: acts, on both sides: ask, withdraw, deliver -/
theorem e_asks {s : F_} {nR : Nat} {p1 p2 p3 : Int32} (h : s 483 = nI nR) (hn : nR < 20) : d_X6_asks p1 p2 p3 s =
    some (nI nR, upd (upd (upd (upd (upd (upd s (16 + 5 * nR) p1) (16 + (5 * nR + 1)) p2) (16 + (5 * nR + 2)) p3) (16 + (5 * nR + 3)) 0) (16 + (5 * nR + 4)) 0) 483 (nI (nR + 1))) := by
  unfold d_X6_asks
  rw [rd483, ob1_some, h, wrR0 hn, ob1_some, wrR1 hn, ob1_some, wrR2 hn, ob1_some, wrR3 hn, ob1_some, wrR4 hn, ob1_some, rd483, ob1_some, wr483, ob1_some]
  rw [upd_ne (show (483 : Nat) ≠ 16 + (5 * nR + 4) by omega), upd_ne (show (483 : Nat) ≠ 16 + (5 * nR + 3) by omega), upd_ne (show (483 : Nat) ≠ 16 + (5 * nR + 2) by omega), upd_ne (show (483 : Nat) ≠ 16 + (5 * nR + 1) by omega), upd_ne (show (483 : Nat) ≠ 16 + 5 * nR by omega), h, nI_s]
theorem e_addRow (n : Nat) : d_X4_addRow (nI n) = (nI n, nI (n + 1)) := by
  unfold d_X4_addRow
  rw [nI_s, nI_pred]
theorem RM.ask {fT fR fA fS fE : F_} {nR nA t p : Nat} {q : List Nat} {lo hi : Int} {s : F_} {p3 : Int32} (hn : nR < 20) (ht : t < 8) (hp1 : 1 ≤ p) (hp2 : p ≤ 50) (h : RM fT fR fA fS fE nR nA q lo hi s) :
    RM fT (upd (upd (upd (upd fR (4 * nR) (nI t)) (4 * nR + 1) (nI p)) (4 * nR + 2) p3) (4 * nR + 3) 0) fA fS fE (nR + 1) nA q lo hi
      (upd (upd (upd (upd (upd (upd s (16 + 5 * nR) (nI t)) (16 + (5 * nR + 1)) (nI p)) (16 + (5 * nR + 2)) p3) (16 + (5 * nR + 3)) 0) (16 + (5 * nR + 4)) 0) 483 (nI (nR + 1))) := by
  obtain ⟨hT, hR, hA, hP, hS, hE, jA, jR, jW, jE, jD, jC⟩ := h
  have out : ∀ j, j ≠ 483 → (j < 16 + 5 * nR ∨ 16 + 5 * nR + 4 < j) → (upd (upd (upd (upd (upd (upd s (16 + 5 * nR) (nI t)) (16 + (5 * nR + 1)) (nI p)) (16 + (5 * nR + 2)) p3) (16 + (5 * nR + 3)) 0) (16 + (5 * nR + 4)) 0) 483 (nI (nR + 1))) j = s j := fun j h1 h2 => by
    rw [upd_ne h1, upd_ne (by omega), upd_ne (by omega), upd_ne (by omega), upd_ne (by omega), upd_ne (by omega)]
  have outR : ∀ j, (j < 4 * nR ∨ 4 * nR + 3 < j) → (upd (upd (upd (upd fR (4 * nR) (nI t)) (4 * nR + 1) (nI p)) (4 * nR + 2) p3) (4 * nR + 3) 0) j = fR j := fun j h2 => by
    rw [upd_ne (by omega), upd_ne (by omega), upd_ne (by omega), upd_ne (by omega)]
  refine ⟨hT.fr fun j hj => out j (by omega) (by omega), ⟨by omega, upd_self, fun r hr => ?_⟩, hA.fr fun j hj => out j (by omega) (by omega), fun r hr => ?_, hS.fr fun j hj => out j (by omega) (by omega), hE.fr fun j hj => out j (by omega) (by omega), fun a ha => ?_, fun r hr => ?_, jW, jE, jD, jC⟩
  · by_cases e : r = nR
    · subst e
      rw [upd_ne (show 16 + 5 * r ≠ 483 by omega), upd_ne (show 16 + 5 * r ≠ 16 + (5 * r + 4) by omega), upd_ne (show 16 + 5 * r ≠ 16 + (5 * r + 3) by omega), upd_ne (show 16 + 5 * r ≠ 16 + (5 * r + 2) by omega), upd_ne (show 16 + 5 * r ≠ 16 + (5 * r + 1) by omega), upd_self]
      rw [upd_ne (show 16 + (5 * r + 1) ≠ 483 by omega), upd_ne (show 16 + (5 * r + 1) ≠ 16 + (5 * r + 4) by omega), upd_ne (show 16 + (5 * r + 1) ≠ 16 + (5 * r + 3) by omega), upd_ne (show 16 + (5 * r + 1) ≠ 16 + (5 * r + 2) by omega), upd_self]
      rw [upd_ne (show 16 + (5 * r + 2) ≠ 483 by omega), upd_ne (show 16 + (5 * r + 2) ≠ 16 + (5 * r + 4) by omega), upd_ne (show 16 + (5 * r + 2) ≠ 16 + (5 * r + 3) by omega), upd_self]
      rw [upd_ne (show 16 + (5 * r + 3) ≠ 483 by omega), upd_ne (show 16 + (5 * r + 3) ≠ 16 + (5 * r + 4) by omega), upd_self]
      rw [upd_ne (show 4 * r ≠ 4 * r + 3 by omega), upd_ne (show 4 * r ≠ 4 * r + 2 by omega), upd_ne (show 4 * r ≠ 4 * r + 1 by omega), upd_self]
      rw [upd_ne (show 4 * r + 1 ≠ 4 * r + 3 by omega), upd_ne (show 4 * r + 1 ≠ 4 * r + 2 by omega), upd_self]
      rw [upd_ne (show 4 * r + 2 ≠ 4 * r + 3 by omega), upd_self, upd_self]
      exact ⟨rfl, rfl, rfl, rfl⟩
    · rw [out _ (by omega) (by omega), out _ (by omega) (by omega), out _ (by omega) (by omega), out _ (by omega) (by omega), outR _ (by omega), outR _ (by omega), outR _ (by omega), outR _ (by omega)]
      exact hR.2.2 r hr
  · by_cases e : r = nR
    · subst e
      refine Or.inl ⟨by rw [upd_ne (by omega), upd_self], fun a ha x => ?_⟩
      obtain ⟨-, ⟨r', hr', er⟩, -, -⟩ := jA a ha
      rw [er, nI_inj (by omega) (by omega)] at x
      omega
    · rw [out _ (by omega) (by omega), outR _ (by omega)]
      exact hP r (by omega)
  · obtain ⟨h1, ⟨r', hr', er⟩, h3⟩ := jA a ha
    exact ⟨h1, ⟨r', by omega, er⟩, h3⟩
  · by_cases e : r = nR
    · subst e
      exact ⟨⟨t, ht, by rw [upd_ne (by omega), upd_ne (by omega), upd_ne (by omega), upd_self]⟩, ⟨p, hp1, hp2, by rw [upd_ne (by omega), upd_ne (by omega), upd_self]⟩⟩
    · rw [outR _ (by omega), outR _ (by omega)]
      exact jR r (by omega)
theorem RX.ask {fT fR fA fS fE ri : F_} {hd ln rnd : Int32} {nR nA n : Nat} {s : F_} (h : RX fT fR fA fS fE ri hd ln rnd nR nA n s) (p1 p2 p3 : Int32) :
    (∃ e : Int32, e < 0 ∧ d_X0_addRiddle p1 p2 p3 fR (nI nR) = some (e, fR, nI nR) ∧ d_X6_barAsk p1 p2 p3 s = some e) ∨
    (∃ fR' s' : F_, d_X0_addRiddle p1 p2 p3 fR (nI nR) = some (nI nR, fR', nI (nR + 1)) ∧ d_X6_barAsk p1 p2 p3 s = some 0 ∧ d_X6_asks p1 p2 p3 s = some (nI nR, s') ∧ RX fT fR' fA fS fE ri hd ln rnd (nR + 1) nA n s' ∧ nR < 2 ^ 31) := by
  obtain ⟨hn, hrnd, h485, q, hM, hQ⟩ := h
  have hR := hM.2.1
  have i99 : (99 : Int32).toInt = 99 := rfl
  have i50 : (50 : Int32).toInt = 50 := rfl
  unfold d_X0_addRiddle d_X6_barAsk
  rcases trader_dich p1 with ⟨e1, e2⟩ | ⟨t, ht, rfl, e1, e2⟩
  · rw [e1, e2]; exact Or.inl ⟨-1, by decide, rfl, rfl⟩
  · rw [e1, e2, if_neg n10, if_neg n10]
    by_cases c1 : p2 < 1
    · rw [if_pos c1]; refine Or.inl ⟨-2, by decide, rfl, ?_⟩
      unfold d_X6_in; rw [if_pos c1, if_pos rfl]
    rw [if_neg c1, in_ge c1]
    by_cases c2 : 50 < p2
    · rw [if_pos c2, if_pos c2]; exact Or.inl ⟨-2, by decide, rfl, rfl⟩
    rw [if_neg c2, if_neg c2, if_neg n10]
    by_cases c3 : p3 < 0
    · rw [if_pos c3]; refine Or.inl ⟨-2, by decide, rfl, ?_⟩
      unfold d_X6_in; rw [if_pos c3, if_pos rfl]
    rw [if_neg c3, in_ge c3]
    by_cases c4 : p3 ≤ 99
    · rw [if_pos c4, if_neg (Int32.not_lt.mpr c4), if_neg n10, rd483, ob1_some, hR.2.1]
      by_cases c5 : nR < 20
      · have c5' : d_X4_rows (nI nR) < 20 := nI_lt (b := 20) c5 (by decide)
        have c5'' : ¬ nI nR = 20 := fun x => by
          have := (nI_inj (b := 20) (by omega) (by decide)).mp x
          omega
        rw [if_pos c5', if_neg c5'', e_addRow, tb2_mk, putR0 c5, ob1_some, putR1 c5, ob1_some, putR2 c5, ob1_some, putR3 c5, ob1_some, e_asks hR.2.1 c5]
        rw [Int32.lt_iff_toInt_lt, i1] at c1
        rw [Int32.lt_iff_toInt_lt, i50] at c2
        obtain ⟨p, hp, rfl, ei⟩ := ex_nI (x := p2) (by omega)
        refine Or.inr ⟨_, _, rfl, rfl, rfl, ⟨hn, hrnd, ?_, q, hM.ask c5 ht (by omega) (by omega), hQ.fr fun j hj => ?_⟩, by omega⟩
        · rw [upd_ne (by omega), upd_ne (by omega), upd_ne (by omega), upd_ne (by omega), upd_ne (by omega), upd_ne (by omega)]; exact h485
        · rw [upd_ne (by omega), upd_ne (by omega), upd_ne (by omega), upd_ne (by omega), upd_ne (by omega), upd_ne (by omega)]
      · have e20 : nR = 20 := by have := hR.1; omega
        subst e20
        rw [if_neg (show ¬ d_X4_rows (nI 20) < 20 by decide), if_pos (show nI 20 = (20 : Int32) from rfl)]
        exact Or.inl ⟨-3, by decide, rfl, rfl⟩
    · rw [if_neg c4, if_pos (Int32.not_le.mp c4), if_pos rfl]; exact Or.inl ⟨-2, by decide, rfl, rfl⟩
theorem RM.close {fT fR fA fS fE : F_} {nR nA r : Nat} {q : List Nat} {lo hi : Int} {s : F_} (hr : r < nR) (h3 : fR (4 * r + 3) = 0) (h : RM fT fR fA fS fE nR nA q lo hi s) :
    RM fT (upd fR (4 * r + 3) 2) fA fS fE nR nA q lo hi (upd s (16 + (5 * r + 3)) 2) := by
  obtain ⟨hT, hR, hA, hP, hS, hE, jA, jR, jW, jE, jD, jC⟩ := h
  have hr20 : r < 20 := by have := hR.1; omega
  refine ⟨hT.fr fun j hj => upd_ne (by omega), hR.set3 hr20, hA.fr fun j hj => upd_ne (by omega), fun k hk => ?_, hS.fr fun j hj => upd_ne (by omega), hE.fr fun j hj => upd_ne (by omega), jA, fun k hk => ?_, jW, jE, jD, jC⟩
  · rw [upd_ne (show 16 + (5 * k + 4) ≠ _ by omega)]
    by_cases e : k = r
    · subst e
      rcases hP k hk with u | ⟨u, -⟩
      · exact Or.inl u
      · rw [h3] at u; exact absurd u n01
    · rw [upd_ne (show 4 * k + 3 ≠ _ by omega)]; exact hP k hk
  · rw [upd_ne (by omega), upd_ne (by omega)]; exact jR k hk
theorem RX.withdraw {fT fR fA fS fE ri : F_} {hd ln rnd : Int32} {nR nA n : Nat} {s : F_} (h : RX fT fR fA fS fE ri hd ln rnd nR nA n s) (p1 : Int32) (past : F_) (pasts : Int32) :
    (∃ e : Int32, e < 0 ∧ d_X0_closeRiddle p1 fR (nI nR) fA (nI nA) = some (e, fR) ∧ d_X6_withdraw p1 s past pasts = some (e, s, past, pasts)) ∨
    (∃ (c : Nat) (fR' s' : F_), c < 2 ^ 31 ∧ d_X0_closeRiddle p1 fR (nI nR) fA (nI nA) = some (nI c, fR') ∧ d_X6_withdraw p1 s past pasts = (ob2 (d_X6_records s past pasts) fun a b => some (nI c, s', a, b)) ∧ RX fT fR' fA fS fE ri hd ln rnd nR nA n s') := by
  obtain ⟨hn, hrnd, h485, q, hM, hQ⟩ := h
  have hR := hM.2.1
  have hA := hM.2.2.1
  have bR : nR < 2 ^ 31 := by have := hR.1; omega
  have bA : nA < 2 ^ 31 := by have := hA.1; omega
  unfold d_X0_closeRiddle d_X6_withdraw
  rw [e_isRiddle hR.2.1, ob1_some]
  rcases has_dich p1 nR bR with ⟨e1, e2⟩ | ⟨r, hr, rfl, e1, e2⟩
  · rw [e1, e2]; exact Or.inl ⟨-1, by decide, rfl, rfl⟩
  · have hr20 : r < 20 := by have := hR.1; omega
    rw [e1, e2, if_neg n10, if_neg n10, getR3 hr20, ob1_some, rdR3 hr20, ob1_some, (hR.2.2 r hr20).2.2.2]
    by_cases c : fR (4 * r + 3) = 0
    · have hC := hM.close hr c
      obtain ⟨-, -, hA', -, -, -, -, -, jW, -⟩ := id hC
      have hQ' := hQ.fr (s' := upd s (16 + (5 * r + 3)) 2) fun j hj => upd_ne (by omega)
      have gA1 : ∀ i, i < nA → d_X4_get 320 (nI i) 1 fA 8 = some (fA (8 * i + 1)) := fun i hi => getA1 (by have := hA.1; omega)
      have gA4 : ∀ i, i < nA → d_X4_get 320 (nI i) 4 fA 8 = some (fA (8 * i + 4)) := fun i hi => getA4 (by have := hA.1; omega)
      have ew := e_waiting (p := nI r) hQ'.1 hQ'.2.2.2.1 hQ'.2.2.2.2 (RQ.lt40 jW hA.1)
      rw [wait_cnt jW, cp_congr (q := fun i => decide (fA (8 * i + 1) = nI r) && decide (fA (8 * i + 4) = 0)) fun a ha => by rw [hA'.2.2.1 _ (by have := mem_r0.mp ha; have := hA.1; omega)]] at ew
      rw [if_pos c, if_pos c, putR3 hr20, ob1_some, e_countOfBoth _ _ gA1 gA4 bA, ob1_some]
      refine Or.inr ⟨_, _, upd s (16 + (5 * r + 3)) 2, ?_, rfl, ?_, hn, hrnd, by rw [upd_ne (by omega)]; exact h485, q, hC, hQ'⟩
      · have := cp_le (p := fun i => decide (fA (8 * i + 1) = nI r) && decide (fA (8 * i + 4) = 0)) (n := nA)
        omega
      · rw [wrR3 hr20]
        simp only [ob1_some]
        rw [ew]
        simp only [ob1_some]
    · rw [if_neg c, if_neg c]; exact Or.inl ⟨-4, by decide, rfl, rfl⟩
/-! deliver -/
def nwA (fA : F_) (a : Nat) (p1 p2 p3 p4 : Int32) : F_ := upd (upd (upd (upd (upd (upd (upd (upd fA (8 * a) p1) (8 * a + 1) p2) (8 * a + 2) p3) (8 * a + 3) p4) (8 * a + 4) 0) (8 * a + 5) 0) (8 * a + 6) 0) (8 * a + 7) 0
def nwM (s : F_) (a : Nat) (p1 p2 p3 p4 : Int32) : F_ := upd (upd (upd (upd (upd (upd (upd (upd s (116 + 8 * a) p1) (116 + (8 * a + 1)) p2) (116 + (8 * a + 2)) p3) (116 + (8 * a + 3)) p4) (116 + (8 * a + 4)) 0) (116 + (8 * a + 5)) 0) (116 + (8 * a + 6)) 0) (116 + (8 * a + 7)) 0
theorem nwM_ne {s : F_} {a j : Nat} {p1 p2 p3 p4 : Int32} (h : j < 116 + 8 * a ∨ 116 + 8 * a + 7 < j) : nwM s a p1 p2 p3 p4 j = s j := by
  unfold nwM
  rw [upd_ne (by omega), upd_ne (by omega), upd_ne (by omega), upd_ne (by omega), upd_ne (by omega), upd_ne (by omega), upd_ne (by omega), upd_ne (by omega)]
theorem nwA_ne {s : F_} {a j : Nat} {p1 p2 p3 p4 : Int32} (h : j < 8 * a ∨ 8 * a + 7 < j) : nwA s a p1 p2 p3 p4 j = s j := by
  unfold nwA
  rw [upd_ne (by omega), upd_ne (by omega), upd_ne (by omega), upd_ne (by omega), upd_ne (by omega), upd_ne (by omega), upd_ne (by omega), upd_ne (by omega)]
theorem shift_upd {f g : F_} {k j : Nat} {x : Int32} (h : f (116 + j) = g j) : upd f (116 + k) x (116 + j) = upd g k x j := by
  by_cases e : j = k
  · subst e; rw [upd_self, upd_self]
  · rw [upd_ne (by omega), upd_ne e]; exact h
theorem nw_eq {fA s : F_} {a j : Nat} {p1 p2 p3 p4 : Int32} (h : s (116 + j) = fA j) : nwM s a p1 p2 p3 p4 (116 + j) = nwA fA a p1 p2 p3 p4 j := by
  unfold nwM nwA
  exact shift_upd (shift_upd (shift_upd (shift_upd (shift_upd (shift_upd (shift_upd (shift_upd h)))))))
theorem nw4 {f : F_} {a : Nat} {p1 p2 p3 p4 : Int32} : nwA f a p1 p2 p3 p4 (8 * a) = p1 ∧ nwA f a p1 p2 p3 p4 (8 * a + 1) = p2 ∧ nwA f a p1 p2 p3 p4 (8 * a + 3) = p4 ∧ nwA f a p1 p2 p3 p4 (8 * a + 4) = 0 ∧ nwA f a p1 p2 p3 p4 (8 * a + 6) = 0 ∧ nwA f a p1 p2 p3 p4 (8 * a + 7) = 0 := by
  unfold nwA
  refine ⟨?_, ?_, ?_, ?_, ?_, ?_⟩
  · rw [upd_ne (by omega), upd_ne (by omega), upd_ne (by omega), upd_ne (by omega), upd_ne (by omega), upd_ne (by omega), upd_ne (by omega), upd_self]
  · rw [upd_ne (by omega), upd_ne (by omega), upd_ne (by omega), upd_ne (by omega), upd_ne (by omega), upd_ne (by omega), upd_self]
  · rw [upd_ne (by omega), upd_ne (by omega), upd_ne (by omega), upd_ne (by omega), upd_self]
  · rw [upd_ne (by omega), upd_ne (by omega), upd_ne (by omega), upd_self]
  · rw [upd_ne (by omega), upd_self]
  · rw [upd_self]
theorem e_del (a p1 p2 p3 p4 : Int32) (k : Nat) (s : F_) {i : Nat} {x : Nat} (hx : x < 40) (hi : i < 8) : lp_X6_delivers_62 p1 p2 p3 p4 (k + 1) (nI x) (nI i) s = lp_X6_delivers_62 p1 p2 p3 p4 k (nI x) (nI (i + 1)) (upd s (116 + (8 * x + i)) 0) := by
  simp only [lp_X6_delivers_62]
  rw [if_neg (nlt8 hi), wrA hx hi, ob1_some, nI_s]
theorem e_del8 (a p1 p2 p3 p4 : Int32) (k : Nat) (s : F_) : lp_X6_delivers_62 p1 p2 p3 p4 (k + 1) a (nI 8) s = ob1 (rd 490 s 484) fun v7 => ob1 (wr 490 s 484 (v7 + 1)) fun z => ob1 (d_X6_queues a z) fun y => some (a, y) := by
  simp only [lp_X6_delivers_62]
  rw [if_pos (show (8 : Int32) ≤ nI 8 by decide)]
theorem e_delivers {s : F_} {nA : Nat} {p1 p2 p3 p4 : Int32} (h : s 484 = nI nA) (hn : nA < 40) : d_X6_delivers p1 p2 p3 p4 s = ob1 (d_X6_queues (nI nA) (upd (nwM s nA p1 p2 p3 p4) 484 (nI (nA + 1)))) fun z => some (nI nA, z) := by
  unfold d_X6_delivers
  rw [rd484, ob1_some, h, wrA0 hn, ob1_some, wrA1 hn, ob1_some, wrA2 hn, ob1_some, wrA3 hn, ob1_some]
  have hf : fuel = 2147483643 + 1 + 1 + 1 + 1 + 1 := rfl
  rw [hf]
  show lp_X6_delivers_62 p1 p2 p3 p4 _ (nI nA) (nI 4) _ = _
  rw [e_del 0 p1 p2 p3 p4 _ _ hn (by decide), e_del 0 p1 p2 p3 p4 _ _ hn (by decide), e_del 0 p1 p2 p3 p4 _ _ hn (by decide), e_del 0 p1 p2 p3 p4 _ _ hn (by decide)]
  rw [e_del8 (nI nA) p1 p2 p3 p4, rd484, ob1_some, wr484, ob1_some]
  have e : upd (upd (upd (upd (upd (upd (upd (upd s (116 + 8 * nA) p1) (116 + (8 * nA + 1)) p2) (116 + (8 * nA + 2)) p3) (116 + (8 * nA + 3)) p4) (116 + (8 * nA + 4)) 0) (116 + (8 * nA + (4 + 1))) 0) (116 + (8 * nA + (4 + 1 + 1))) 0) (116 + (8 * nA + (4 + 1 + 1 + 1))) 0 = nwM s nA p1 p2 p3 p4 := rfl
  rw [e, nwM_ne (by omega), h, nI_s]
theorem RM.deliver {fT fR fA fS fE : F_} {nR nA t r w : Nat} {q : List Nat} {lo hi : Int} {s : F_} {p3 : Int32} (hn : nA < 40) (ht : t < 8) (hr : r < nR) (hw1 : 1 ≤ w) (hw2 : w ≤ 99) (h : RM fT fR fA fS fE nR nA q lo hi s) :
    RM fT fR (nwA fA nA (nI t) (nI r) p3 (nI w)) fS fE nR (nA + 1) (q ++ [nA]) lo hi (upd (nwM s nA (nI t) (nI r) p3 (nI w)) 484 (nI (nA + 1))) := by
  obtain ⟨hT, hR, hA, hP, hS, hE, jA, jR, jW, jE, jD, jC⟩ := h
  have out : ∀ j, j ≠ 484 → (j < 116 + 8 * nA ∨ 116 + 8 * nA + 7 < j) → upd (nwM s nA (nI t) (nI r) p3 (nI w)) 484 (nI (nA + 1)) j = s j := fun j h1 h2 => by rw [upd_ne h1, nwM_ne h2]
  obtain ⟨n0, n1, n3, n4, n6, n7⟩ := nw4 (f := fA) (a := nA) (p1 := nI t) (p2 := nI r) (p3 := p3) (p4 := nI w)
  have r1 : List.range' 0 (nA + 1) = List.range' 0 nA ++ [nA] := by rw [List.range'_concat]; simp
  refine ⟨hT.fr fun j hj => out j (by omega) (by omega), hR.fr fun j hj => out j (by omega) (by omega), ⟨by omega, upd_self, fun k hk => ?_, ?_, ?_⟩, fun k hk => ?_, hS.fr fun j hj => out j (by omega) (by omega), hE.fr fun j hj => out j (by omega) (by omega), fun a ha => ?_, jR, ⟨?_, fun b => ?_⟩, jE, jD, jC⟩
  · rw [upd_ne (by omega)]; exact nw_eq (hA.2.2.1 k hk)
  · rw [out 487 (by omega) (by omega), hA.2.2.2.1, r1, smI_app]
    show _ = _ + (nwA fA nA (nI t) (nI r) p3 (nI w) (8 * nA + 6) + 0)
    rw [n6, Int32.add_zero, Int32.add_zero]
    exact smI_congr fun b hb => (nwA_ne (by have := mem_r0.mp hb; omega)).symm
  · rw [out 489 (by omega) (by omega), hA.2.2.2.2, r1, smI_app]
    show _ = _ + (nwA fA nA (nI t) (nI r) p3 (nI w) (8 * nA + 7) + 0)
    rw [n7, Int32.add_zero, Int32.add_zero]
    exact smI_congr fun b hb => (nwA_ne (by have := mem_r0.mp hb; omega)).symm
  · have hnR := hR.1
    rw [out (16 + (5 * k + 4)) (by omega) (by omega)]
    rcases hP k hk with ⟨u1, u2⟩ | ⟨u1, a, ha, u2, u3, u4, u5⟩
    · refine Or.inl ⟨u1, fun b hb x => ?_⟩
      by_cases e : b = nA
      · subst e; rw [n4]; decide
      · rw [nwA_ne (by omega)] at x ⊢; exact u2 b (by omega) x
    · refine Or.inr ⟨u1, a, by omega, u2, by rw [nwA_ne (by omega)]; exact u3, by rw [nwA_ne (by omega)]; exact u4, fun b hb x y => ?_⟩
      by_cases e : b = nA
      · subst e; rw [n4] at y; exact absurd y n01
      · rw [nwA_ne (by omega)] at x y; exact u5 b (by omega) x y
  · by_cases e : a = nA
    · subst e
      exact ⟨⟨t, ht, n0⟩, ⟨r, hr, n1⟩, ⟨w, hw1, hw2, n3⟩, fun _ => ⟨⟨0, by decide, n6⟩, n7⟩⟩
    · rw [nwA_ne (by omega), nwA_ne (by omega), nwA_ne (by omega), nwA_ne (by omega), nwA_ne (by omega), nwA_ne (by omega)]
      exact jA a (by omega)
  · rw [List.nodup_append]
    refine ⟨jW.1, by simp, fun a ha b hb => ?_⟩
    rw [List.mem_singleton] at hb
    have := ((jW.2 a).mp ha).1
    omega
  · rw [List.mem_append, List.mem_singleton]
    by_cases e : b = nA
    · subst e; rw [n4]; exact ⟨fun _ => ⟨by omega, rfl⟩, fun _ => Or.inr rfl⟩
    · rw [nwA_ne (by omega), jW.2 b]
      exact ⟨fun x => x.elim (fun y => ⟨by omega, y.2⟩) (fun y => absurd y e), fun x => Or.inl ⟨by omega, x.2⟩⟩
theorem RX.deliver {fT fR fA fS fE ri : F_} {hd ln rnd : Int32} {nR nA n : Nat} {s : F_} (h : RX fT fR fA fS fE ri hd ln rnd nR nA n s) (p1 p2 p3 p4 : Int32) :
    (∃ e : Int32, e < 0 ∧ d_X0_addAnswer p1 p2 p3 p4 fR (nI nR) fA (nI nA) ri hd ln = some (e, fA, nI nA, ri, ln) ∧ d_X6_barDeliver p1 p2 p3 p4 s = some e) ∨
    (∃ (fA' ri' s' : F_) (ln' : Int32), d_X0_addAnswer p1 p2 p3 p4 fR (nI nR) fA (nI nA) ri hd ln = some (nI nA, fA', nI (nA + 1), ri', ln') ∧ d_X6_barDeliver p1 p2 p3 p4 s = some 0 ∧ d_X6_delivers p1 p2 p3 p4 s = some (nI nA, s') ∧ RX fT fR fA' fS fE ri' hd ln' rnd nR (nA + 1) n s' ∧ nA < 2 ^ 31) := by
  obtain ⟨hn, hrnd, h485, q, hM, hQ⟩ := h
  have hR := hM.2.1
  have hA := hM.2.2.1
  have jW := hM.2.2.2.2.2.2.2.2.1
  have bR : nR < 2 ^ 31 := by have := hR.1; omega
  have i99 : (99 : Int32).toInt = 99 := rfl
  unfold d_X0_addAnswer d_X6_barDeliver
  rw [e_isRiddle hR.2.1, ob1_some]
  rcases trader_dich p1 with ⟨e1, e2⟩ | ⟨t, ht, rfl, e1, e2⟩
  · rw [e1, e2]; exact Or.inl ⟨-1, by decide, rfl, rfl⟩
  rw [e1, e2, if_neg n10, if_neg n10]
  rcases has_dich p2 nR bR with ⟨e1, e2⟩ | ⟨r, hr, rfl, e1, e2⟩
  · rw [e1, e2]; exact Or.inl ⟨-1, by decide, rfl, rfl⟩
  have hr20 : r < 20 := by have := hR.1; omega
  obtain ⟨q0, q1, q2, q3⟩ := hR.2.2 r hr20
  rw [e1, e2, if_neg n10, if_neg n10]
  by_cases c1 : p3 < 0
  · rw [if_pos c1]; refine Or.inl ⟨-2, by decide, rfl, ?_⟩
    unfold d_X6_in; rw [if_pos c1, if_pos rfl]
  rw [if_neg c1, in_ge c1]
  by_cases c2 : 99 < p3
  · rw [if_pos c2, if_pos c2]; exact Or.inl ⟨-2, by decide, rfl, rfl⟩
  rw [if_neg c2, if_neg c2, if_neg n10]
  by_cases c3 : p4 < 1
  · rw [if_pos c3]; refine Or.inl ⟨-2, by decide, rfl, ?_⟩
    unfold d_X6_in; rw [if_pos c3, if_pos rfl]
  rw [if_neg c3, in_ge c3]
  by_cases c4 : p4 ≤ 99
  · rw [if_pos c4, if_neg (Int32.not_lt.mpr c4), if_neg n10, getR3 hr20, ob1_some, rdR3 hr20, ob1_some, q3]
    by_cases c5 : fR (4 * r + 3) = 0
    · rw [if_pos c5, if_pos c5, getR0 hr20, ob1_some, rdR0 hr20, ob1_some, q0]
      by_cases c6 : fR (4 * r) = nI t
      · rw [if_pos c6, if_pos c6]; exact Or.inl ⟨-4, by decide, rfl, rfl⟩
      rw [if_neg c6, if_neg c6, rd484, ob1_some, hA.2.1]
      by_cases c7 : nA < 40
      · have c7' : d_X4_rows (nI nA) < 40 := nI_lt (b := 40) c7 (by decide)
        have c7'' : ¬ nI nA = 40 := fun x => by
          have := (nI_inj (b := 40) (by omega) (by decide)).mp x
          omega
        rw [Int32.lt_iff_toInt_lt, i1] at c3
        rw [Int32.le_iff_toInt_le, i99] at c4
        obtain ⟨w, hw, rfl, ei⟩ := ex_nI (x := p4) (by omega)
        have hql : q.length < 40 := by
          have := jW.1.length_le_of_subset (l₂ := List.range' 0 nA) fun a ha => mem_r0.mpr ((jW.2 a).mp ha).1
          rw [List.length_range'] at this
          omega
        have hD := hM.deliver (t := t) (r := r) (w := w) (p3 := p3) c7 ht hr (by omega) (by omega)
        obtain ⟨ri', ln', s', g1, g2, g3, g4⟩ := (hQ.fr (s' := upd (nwM s nA (nI t) (nI r) p3 (nI w)) 484 (nI (nA + 1))) fun j hj => by rw [upd_ne (by omega), nwM_ne (by omega)]).add (a := nA) hql
        rw [if_pos c7', if_neg c7'', e_addRow, tb2_mk, putA0 c7, ob1_some, putA1 c7, ob1_some, putA2 c7, ob1_some, putA3 c7, ob1_some, putA4 c7, ob1_some, putA5 c7, ob1_some, putA6 c7, ob1_some, putA7 c7, ob1_some, g1, ob2_some, e_delivers hA.2.1 c7, g2, ob1_some]
        refine Or.inr ⟨_, ri', s', ln', rfl, rfl, rfl, ⟨hn, hrnd, ?_, q ++ [nA], hD.fr fun j hj _ => g4 j hj, g3⟩, by omega⟩
        rw [g4 485 (by omega), upd_ne (by omega), nwM_ne (by omega)]; exact h485
      · have e40 : nA = 40 := by have := hA.1; omega
        subst e40
        rw [if_neg (show ¬ d_X4_rows (nI 40) < 40 by decide), if_pos (show nI 40 = (40 : Int32) from rfl)]
        exact Or.inl ⟨-3, by decide, rfl, rfl⟩
    · rw [if_neg c5, if_neg c5]; exact Or.inl ⟨-4, by decide, rfl, rfl⟩
  · rw [if_neg c4, if_pos (Int32.not_le.mp c4), if_pos rfl]; exact Or.inl ⟨-2, by decide, rfl, rfl⟩
