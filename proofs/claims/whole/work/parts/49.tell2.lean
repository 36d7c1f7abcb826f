/-! part 49: what is told, the rest -/
theorem e_placeOf {ri : F_} {hd ln a : Int32} {L h : Nat} (hh : hd = nI h) (hl : ln = nI L) (h40 : h < 40) (hL : L ≤ 40) : ∀ (d i k : Nat), i + d = L → d < k →
    ((∀ j, i ≤ j → j < L → ri ((h + j) % 40) ≠ a) → lp_X3_placeOf_2 ri hd ln a k (nI i) = some (-5)) ∧
    (∀ m, i ≤ m → m < L → ri ((h + m) % 40) = a → (∀ j, i ≤ j → j < m → ri ((h + j) % 40) ≠ a) → lp_X3_placeOf_2 ri hd ln a k (nI i) = some (nI m)) := by
  intro d
  induction d with
  | zero =>
    intro i k hi hk
    obtain ⟨k, rfl⟩ : ∃ k', k = k' + 1 := ⟨k - 1, by omega⟩
    refine ⟨fun _ => ?_, fun m h1 h2 => by omega⟩
    simp only [lp_X3_placeOf_2]
    rw [hl, if_pos (nI_le (by omega) (by omega))]
  | succ d ih =>
    intro i k hi hk
    obtain ⟨k, rfl⟩ : ∃ k', k = k' + 1 := ⟨k - 1, by omega⟩
    obtain ⟨i1, i2⟩ := ih (i + 1) k (by omega) (by omega)
    have key : lp_X3_placeOf_2 ri hd ln a (k + 1) (nI i) = if ri ((h + i) % 40) = a then some (nI i) else lp_X3_placeOf_2 ri hd ln a k (nI (i + 1)) := by
      simp only [lp_X3_placeOf_2]
      rw [e_at hh hl h40 hL (by omega), ob1_some, nI_s]
      rw [hl, if_neg (nI_ge (by omega) (by omega))]
    rw [key]
    refine ⟨fun g => ?_, fun m h1 h2 h3 h4 => ?_⟩
    · rw [if_neg (g i (Nat.le_refl i) (by omega))]
      exact i1 fun j hj => g j (by omega)
    · by_cases e : i = m
      · subst e; rw [if_pos h3]
      · rw [if_neg (h4 i (Nat.le_refl i) (by omega))]
        exact i2 m (by omega) h2 h3 fun j hj => h4 j (by omega)
theorem e_place {s : F_} {a : Int32} {L : Nat} (h : s 476 = nI L) (hL : L ≤ 40) : ∀ (d i k : Nat) (c : Int32), i + d = L → d < k →
    ((∀ j, i ≤ j → j < L → s (436 + j) ≠ a) → lp_X6_place_5 s a k c (nI i) = some c) ∧
    (∀ m, i ≤ m → m < L → s (436 + m) = a → (∀ j, m < j → j < L → s (436 + j) ≠ a) → lp_X6_place_5 s a k c (nI i) = some (nI m)) := by
  intro d
  induction d with
  | zero =>
    intro i k c hi hk
    obtain ⟨k, rfl⟩ : ∃ k', k = k' + 1 := ⟨k - 1, by omega⟩
    refine ⟨fun _ => ?_, fun m h1 h2 => by omega⟩
    simp only [lp_X6_place_5]
    rw [rd476, ob1_some, h, if_pos (nI_le (by omega) (by omega))]
  | succ d ih =>
    intro i k c hi hk
    obtain ⟨k, rfl⟩ : ∃ k', k = k' + 1 := ⟨k - 1, by omega⟩
    have key : lp_X6_place_5 s a (k + 1) c (nI i) = if s (436 + i) = a then lp_X6_place_5 s a k (nI i) (nI (i + 1)) else lp_X6_place_5 s a k c (nI (i + 1)) := by
      simp only [lp_X6_place_5]
      rw [rd476, ob1_some, h, if_neg (nI_ge (by omega) (by omega)), rdp436 (by omega), ob1_some, nI_s]
    rw [key]
    refine ⟨fun g => ?_, fun m h1 h2 h3 h4 => ?_⟩
    · rw [if_neg (g i (Nat.le_refl i) (by omega))]
      exact (ih (i + 1) k c (by omega) (by omega)).1 fun j hj => g j (by omega)
    · by_cases e : i = m
      · subst e
        rw [if_pos h3]
        exact (ih (i + 1) k (nI i) (by omega) (by omega)).1 fun j hj => h4 j (by omega)
      · have i2 := fun c => (ih (i + 1) k c (by omega) (by omega)).2 m (by omega) h2 h3 h4
        rw [i2, i2]
        by_cases z : s (436 + i) = a
        · rw [if_pos z]
        · rw [if_neg z]
theorem getD_mem {q : List Nat} {k : Nat} (h : k < q.length) : q.getD k 0 ∈ q := by
  rw [List.getD_eq_getElem?_getD, List.getElem?_eq_getElem h]
  exact List.getElem_mem h
theorem tell_answer {fT fR fA fS fE ri : F_} {hd ln rnd : Int32} {nR nA n : Nat} {s : F_} (h : RX fT fR fA fS fE ri hd ln rnd nR nA n s) (p1 p2 : Int32) : ∃ r, d_X0_tellAnswer p1 p2 fA (nI nA) ri hd ln = some r ∧ d_X6_answer p1 p2 s = some r := by
  obtain ⟨hn, -, -, q, ⟨hT, hR, hA, hP, hS, hE, jA, jR, jW, jE, jD, jC⟩, hQ⟩ := h
  have bA : nA < 2 ^ 31 := by have := hA.1; omega
  unfold d_X0_tellAnswer d_X6_answer
  rw [e_isAnswer hA.2.1, ob1_some]
  rcases has_dich p1 nA bA with ⟨e1, e2⟩ | ⟨a, ha, rfl, e1, e2⟩
  · rw [e1, e2]; exact ⟨_, rfl, rfl⟩
  · rw [e1, e2, if_neg n10, if_neg n10]
    have ha40 : a < 40 := by have := hA.1; omega
    by_cases c8 : p2 = 8
    · rw [if_pos c8, c8, if_neg (by decide), if_pos rfl]
      obtain ⟨hq1, ⟨i, hi, hh, hr⟩, hln, h476, hs⟩ := hQ
      unfold d_X3_placeOf d_X6_place
      obtain ⟨k1, k2⟩ := e_placeOf (a := nI a) hh hln hi hq1 q.length 0 fuel (by omega) (k_fuel (by omega))
      obtain ⟨m1, m2⟩ := e_place (a := nI a) h476 hq1 q.length 0 fuel (-5) (by omega) (k_fuel (by omega))
      have m40 := RQ.lt40 jW hA.1
      have inj : ∀ k, k < q.length → (nI (q.getD k 0) = nI a ↔ q.getD k 0 = a) := fun k hk => nI_inj (by have := m40 _ (getD_mem hk); omega) (by omega)
      show ∃ r, ob1 (lp_X3_placeOf_2 ri hd ln (nI a) fuel (nI 0)) _ = _ ∧ ob1 (lp_X6_place_5 s (nI a) fuel (-5) (nI 0)) _ = _
      by_cases hm : a ∈ q
      · obtain ⟨m, hml, hme⟩ := List.getElem_of_mem hm
        have hmd : q.getD m 0 = a := by rw [List.getD_eq_getElem?_getD, List.getElem?_eq_getElem hml]; exact hme
        have uniq : ∀ j, j < q.length → q.getD j 0 = a → j = m := fun j hj e => by
          have : q[j]? = q[m]? := by
            rw [List.getElem?_eq_getElem hj, List.getElem?_eq_getElem hml, hme]
            rw [List.getD_eq_getElem?_getD, List.getElem?_eq_getElem hj] at e
            exact congrArg some e
          exact (List.getElem?_inj hj jW.1).mp this
        rw [k2 m (Nat.zero_le m) hml (by rw [hr m hml, hmd]) fun j _ hj e => by rw [hr j (by omega), inj j (by omega)] at e; have := uniq j (by omega) e; omega]
        rw [m2 m (Nat.zero_le m) hml (by rw [hs m hml, hmd]) fun j hj hj2 e => by rw [hs j hj2, inj j hj2] at e; have := uniq j hj2 e; omega]
        exact ⟨_, rfl, rfl⟩
      · rw [k1 fun j _ hj e => hm (by rw [hr j hj, inj j hj] at e; rw [← e]; exact getD_mem hj)]
        rw [m1 fun j _ hj e => hm (by rw [hs j hj, inj j hj] at e; rw [← e]; exact getD_mem hj)]
        exact ⟨_, rfl, rfl⟩
    · rw [if_neg c8]
      by_cases c : p2 < 0
      · rw [if_pos c]
        unfold d_X6_in
        rw [if_pos c, if_pos rfl]; exact ⟨_, rfl, rfl⟩
      · rw [if_neg c, in_ge c]
        by_cases d : p2 ≤ 8
        · rw [if_pos d, if_neg (Int32.not_lt.mpr d), if_neg n10, if_neg c8]
          rw [Int32.lt_iff_toInt_lt, i0] at c
          obtain ⟨w, hw, e, ei⟩ := ex_nI (x := p2) (by omega)
          have e8 : (8 : Int32).toInt = 8 := rfl
          rw [Int32.le_iff_toInt_le, e8] at d
          have hw8 : w < 8 := by
            have : w ≠ 8 := fun z => c8 (by rw [e, z]; rfl)
            omega
          rw [e, getA ha40 hw8, ob1_some, rdA ha40 hw8, ob1_some, hA.2.2.1 _ (by omega)]; exact ⟨_, rfl, rfl⟩
        · rw [if_neg d, if_pos (Int32.not_le.mp d), if_pos rfl]; exact ⟨_, rfl, rfl⟩
theorem tell_waits {fT fR fA fS fE ri : F_} {hd ln rnd : Int32} {nR nA n : Nat} {s : F_} (h : RX fT fR fA fS fE ri hd ln rnd nR nA n s) (p1 : Int32) : ∃ r, (if 0 ≤ p1 then (ob1 (d_X0_waitingAt p1 ri hd ln) fun r2 => some r2) else some (-2)) = some r ∧ d_X6_waits p1 s = some r := by
  obtain ⟨hn, -, -, q, hM, hq1, ⟨i, hi, hh, hr⟩, hln, h476, hs⟩ := h
  unfold d_X0_waitingAt d_X6_waits
  by_cases c : 0 ≤ p1
  · rw [if_pos c, if_pos c, rd476, ob1_some, h476]
    rw [Int32.le_iff_toInt_le, i0] at c
    obtain ⟨k, hk, rfl, ei⟩ := ex_nI c
    by_cases d : k < q.length
    · rw [if_neg (nI_ge d (by omega)), e_at hh hln hi hq1 d, ob1_some, ob1_some, rdp436 (by omega), ob1_some, hr k d, hs k d]; exact ⟨_, rfl, rfl⟩
    · rw [if_pos (nI_le (by omega) hk)]
      unfold d_X3_at
      rw [if_neg (nI_pos hk), hln, if_neg (nI_nlt (by omega) hk)]; exact ⟨_, rfl, rfl⟩
  · rw [if_neg c, if_neg c]; exact ⟨_, rfl, rfl⟩
theorem tell_weigh {fT fR fA fS fE ri : F_} {hd ln rnd : Int32} {nR nA n : Nat} {s : F_} (h : RX fT fR fA fS fE ri hd ln rnd nR nA n s) (p1 p2 : Int32) : ∃ r, (if p1 < 0 then (some (-1) : Option Int32) else if p1 ≤ 1 then if p2 < 1 then some (-2) else if p2 ≤ 99 then ob1 (d_X0_told p1 p2 fS) fun r5 => some r5 else some (-2) else some (-1)) = some r ∧ d_X6_weigh p1 p2 s = some r := by
  obtain ⟨hn, -, -, q, ⟨hT, hR, hA, hP, hS, hE, -⟩, hQ⟩ := h
  unfold d_X6_weigh
  by_cases c : p1 < 0
  · rw [if_pos c]; unfold d_X6_in; rw [if_pos c, if_pos rfl]; exact ⟨_, rfl, rfl⟩
  · rw [if_neg c, in_ge c]
    by_cases d : p1 ≤ 1
    · rw [if_pos d, if_neg (Int32.not_lt.mpr d), if_neg n10]
      by_cases e : p2 < 1
      · rw [if_pos e]; unfold d_X6_in; rw [if_pos e, if_pos rfl]; exact ⟨_, rfl, rfl⟩
      · rw [if_neg e, in_ge e]
        by_cases f : p2 ≤ 99
        · rw [if_pos f, if_neg (Int32.not_lt.mpr f), if_neg n10]
          rw [Int32.lt_iff_toInt_lt, i0] at c
          obtain ⟨k, hk, rfl, ei⟩ := ex_nI (x := p1) (by omega)
          rw [Int32.le_iff_toInt_le, i1] at d
          have : k = 0 ∨ k = 1 := by omega
          rcases this with rfl | rfl
          · show ∃ r, ob1 (d_X0_told 0 p2 fS) _ = some r ∧ ob1 (d_X6_tells 0 p2 s) _ = some r
            rw [e_told0, e_tells0, hS.1]; exact ⟨_, rfl, rfl⟩
          · show ∃ r, ob1 (d_X0_told 1 p2 fS) _ = some r ∧ ob1 (d_X6_tells 1 p2 s) _ = some r
            rw [e_told1, e_tells1, hS.2.1]; exact ⟨_, rfl, rfl⟩
        · rw [if_neg f, if_pos (Int32.not_le.mp f), if_pos rfl]; exact ⟨_, rfl, rfl⟩
    · rw [if_neg d, if_pos (Int32.not_le.mp d), if_pos rfl]; exact ⟨_, rfl, rfl⟩
theorem e_errW {fA : F_} {a nA : Nat} (ha : a < nA) (hA : nA ≤ 40) : d_X0_errorIfNotWaiting (nI a) fA (nI nA) = some (if fA (8 * a + 4) = 0 then 0 else -4) := by
  unfold d_X0_errorIfNotWaiting
  rw [if_neg (has_nI ha (by omega)), getA4 (by omega), ob1_some]
  by_cases c : fA (8 * a + 4) = 0
  · rw [if_pos c, if_pos c]
  · rw [if_neg c, if_neg c]
theorem n04 : ¬ (0 : Int32) ≤ -4 := by decide
theorem n01' : ¬ (0 : Int32) ≤ -1 := by decide
theorem tell_reason {fT fR fA fS fE ri : F_} {hd ln rnd : Int32} {nR nA n : Nat} {s : F_} (h : RX fT fR fA fS fE ri hd ln rnd nR nA n s) (p1 : Int32) :
    ∃ r, (ob1 (d_X0_errorIfNotWaiting p1 fA (nI nA)) fun r1 => if 0 ≤ r1 then (ob1 (d_X0_paymentFor p1 fR fA fS) fun r4 => ob1 (d_X0_hindrance p1 r4 fT fR fA fS fE) fun r6 => some r6) else some r1) = some r ∧ d_X6_reason p1 s = some r := by
  obtain ⟨hn, -, -, q, hM, hQ⟩ := h
  have hA := hM.2.2.1
  have bA : nA < 2 ^ 31 := by have := hA.1; omega
  unfold d_X6_reason
  rw [e_isAnswer hA.2.1, ob1_some]
  rcases has_dich p1 nA bA with ⟨e1, e2⟩ | ⟨a, ha, rfl, e1, e2⟩
  · unfold d_X0_errorIfNotWaiting
    rw [e1, e2, if_pos rfl, if_pos rfl, ob1_some, if_neg n01']; exact ⟨_, rfl, rfl⟩
  · have ha40 : a < 40 := by have := hA.1; omega
    rw [e_errW ha hA.1, ob1_some, e2, if_neg n10, rdA4 ha40, ob1_some]
    obtain ⟨r, w, t, g, ho, hm, hrn, hw1, hw2, x2, x4, x6, y1, y2, y3, xt, t0, t2, pb⟩ := hM.ans ha
    have hr20 := ho.2.1
    have hS := hM.2.2.2.2.1
    have hE := hM.2.2.2.2.2.1
    rw [x4]
    by_cases c : fA (8 * a + 4) = 0
    · rw [if_pos c, if_pos (Int32.le_refl _), if_pos c, e_paymentFor ho, ob1_some, e_hind ho, ob1_some]
      have hm' := hm
      obtain ⟨-, -, -, -, h1, h2, h3, h4⟩ := hm
      rw [rdA1 ha40, ob1_some, h2, rdA3 ha40, ob1_some, h3, e_tells0, ob1_some, ob1_some, e_tells1, ob1_some, rdR3 hr20, ob1_some, y3, hS.1, hS.2.1]
      by_cases c1 : fR (4 * r + 3) = 0
      · rw [if_pos c1, if_pos c1, rdR2 hr20, ob1_some, rdA2 ha40, ob1_some, y2, x2]
        by_cases c2 : fR (4 * r + 2) = fA (8 * a + 2)
        · rw [if_pos c2, if_pos c2, rd479, ob1_some, hE.1, size_ab]
          by_cases c3 : ab (tl (nI w + fS 0) - tl (nI w + fS 2)) ≤ fE 0
          · rw [if_pos c3, if_pos c3, e_payment hm', ob1_some, e_canPay hm', ob1_some, y1, xt, hE.2.2.2]
            by_cases c4 : -(fE 9) ≤ fT (2 * t) - pm (fR (4 * r + 1)) (tl (nI w + fS 0)) (tl (nI w + fS 2))
            · rw [if_pos c4, if_neg (Int32.not_lt.mpr c4), if_neg n10]; exact ⟨_, rfl, rfl⟩
            · rw [if_neg c4, if_pos (Int32.not_le.mp c4), if_pos rfl]; exact ⟨_, rfl, rfl⟩
          · rw [if_neg c3, if_neg c3]; exact ⟨_, rfl, rfl⟩
        · rw [if_neg c2, if_neg c2]; exact ⟨_, rfl, rfl⟩
      · rw [if_neg c1, if_neg c1]; exact ⟨_, rfl, rfl⟩
    · rw [if_neg c, if_neg n04, if_neg c]; exact ⟨_, rfl, rfl⟩
theorem tell_richest {fT fR fA fS fE ri : F_} {hd ln rnd : Int32} {nR nA n : Nat} {s : F_} (h : RX fT fR fA fS fE ri hd ln rnd nR nA n s) : ∃ r, d_X0_richestTrader fT = some r ∧ d_X6_richest s = some r := by
  obtain ⟨hn, -, -, q, ⟨hT, -⟩, hQ⟩ := h
  have key : ∀ (d i m kc km : Nat), i + d = 8 → m < 8 → d < kc → d < km → ∃ r, lp_X0_richestTrader_4 fT kc (nI m) (nI i) = some r ∧ lp_X6_richest_4 s km (nI m) (nI i) = some r := by
    intro d
    induction d with
    | zero =>
      intro i m kc km hi hm h1 h2
      obtain ⟨kc, rfl⟩ : ∃ k', kc = k' + 1 := ⟨kc - 1, by omega⟩
      obtain ⟨km, rfl⟩ : ∃ k', km = k' + 1 := ⟨km - 1, by omega⟩
      have e : i = 8 := by omega
      subst e
      simp only [lp_X0_richestTrader_4, lp_X6_richest_4]
      rw [if_pos (show (8 : Int32) ≤ nI 8 by decide), if_pos (show (8 : Int32) ≤ nI 8 by decide)]
      exact ⟨_, rfl, rfl⟩
    | succ d ih =>
      intro i m kc km hi hm h1 h2
      obtain ⟨kc, rfl⟩ : ∃ k', kc = k' + 1 := ⟨kc - 1, by omega⟩
      obtain ⟨km, rfl⟩ : ∃ k', km = k' + 1 := ⟨km - 1, by omega⟩
      have hi8 : i < 8 := by omega
      simp only [lp_X0_richestTrader_4, lp_X6_richest_4]
      rw [if_neg (nlt8 hi8), if_neg (nlt8 hi8), getT0 hi8, ob1_some, getT0 hm, ob1_some, rdp0 hi8, ob1_some, rdp0 hm, ob1_some, hT.1 i hi8, hT.1 m hm, nI_s]
      by_cases c : fT (2 * i) ≤ fT (2 * m)
      · rw [if_pos c, if_pos c]; exact ih (i + 1) m kc km (by omega) hm (by omega) (by omega)
      · rw [if_neg c, if_neg c]; exact ih (i + 1) i kc km (by omega) hi8 (by omega) (by omega)
  exact key 7 1 0 fuel fuel rfl (by decide) (k_fuel (by decide)) (k_fuel (by decide))
theorem tell_account {fT fR fA fS fE ri : F_} {hd ln rnd : Int32} {nR nA n : Nat} {s : F_} (h : RX fT fR fA fS fE ri hd ln rnd nR nA n s) (p1 : Int32) : ∃ r, d_X0_tellAccount p1 fT fR fA (nI nA) = some r ∧ d_X6_account p1 s = some r := by
  obtain ⟨hn, -, -, q, ⟨hT, hR, hA, hP, hS, hE, jA, jR, jW, jE, jD, jC⟩, hQ⟩ := h
  unfold d_X0_tellAccount d_X6_account
  rcases trader_dich p1 with ⟨e1, e2⟩ | ⟨t, ht, rfl, e1, e2⟩
  · rw [e1, e2]; exact ⟨_, rfl, rfl⟩
  · rw [e1, e2, if_neg n10, if_neg n10, getT1 ht, ob1_some, rdp8 ht, ob1_some, hT.2.1 t ht]
    have key : ∀ (d i kc km : Nat) (c : Int32), i + d = nA → d < kc → d < km → ∃ r, lp_X0_tellAccount_28 fT fR fA (nI nA) (nI t) kc c (nI i) = some r ∧ lp_X6_account_24 s (nI t) km (c + 100000) (nI i) = some r := by
      intro d
      induction d with
      | zero =>
        intro i kc km c hi h1 h2
        obtain ⟨kc, rfl⟩ : ∃ k', kc = k' + 1 := ⟨kc - 1, by omega⟩
        obtain ⟨km, rfl⟩ : ∃ k', km = k' + 1 := ⟨km - 1, by omega⟩
        have e : i = nA := by omega
        subst e
        simp only [lp_X0_tellAccount_28, lp_X6_account_24]
        rw [rd484, ob1_some, hA.2.1, if_pos (show d_X4_rows (nI i) ≤ nI i from Int32.le_refl _), if_pos (Int32.le_refl _)]
        exact ⟨_, rfl, rfl⟩
      | succ d ih =>
        intro i kc km c hi h1 h2
        obtain ⟨kc, rfl⟩ : ∃ k', kc = k' + 1 := ⟨kc - 1, by omega⟩
        obtain ⟨km, rfl⟩ : ∃ k', km = k' + 1 := ⟨km - 1, by omega⟩
        have hA40 := hA.1
        have hiA : i < nA := by omega
        have hi40 : i < 40 := by omega
        obtain ⟨-, ⟨r, hr, er⟩, -, -⟩ := jA i hiA
        have hr20 : r < 20 := by have := hR.1; omega
        obtain ⟨q0, -⟩ := hR.2.2 r hr20
        have s0 : s (116 + 8 * i) = fA (8 * i) := hA.2.2.1 _ (by omega)
        have s1 : s (116 + (8 * i + 1)) = nI r := by rw [hA.2.2.1 _ (by omega)]; exact er
        have s7 : s (116 + (8 * i + 7)) = fA (8 * i + 7) := hA.2.2.1 _ (by omega)
        have jj : ∀ (LP LP' : Int32 → Int32 → Option Int32) (x : Int32), (∀ y, ∃ r, LP y (nI (i + 1)) = some r ∧ LP' (y + 100000) (nI (i + 1)) = some r) → ∃ z, j_X0_tellAccount_69 LP fT fR fA (nI nA) (nI t) x (nI i) (fA (8 * i + 7)) = some z ∧ j_X6_account_68 LP' s (nI t) (x + 100000) (nI i) = some z := by
          intro LP LP' x hy
          unfold j_X0_tellAccount_69 j_X6_account_68
          rw [getA1 hi40, ob1_some, er, getR0 hr20, ob1_some, rdA1 hi40, ob1_some, s1, rdR0 hr20, ob1_some, q0, rdA7 hi40, ob1_some, s7, nI_s]
          by_cases z : fR (4 * r) = nI t
          · rw [if_pos z, if_pos z]
            have := hy (x - fA (8 * i + 7))
            rwa [show x - fA (8 * i + 7) + 100000 = x + 100000 - fA (8 * i + 7) by rw [Int32.sub_eq_add_neg, Int32.sub_eq_add_neg]; ac_rfl] at this
          · rw [if_neg z, if_neg z, Int32.sub_zero]; exact hy x
        simp only [lp_X0_tellAccount_28, lp_X6_account_24]
        rw [rd484, ob1_some, hA.2.1, if_neg (show ¬ d_X4_rows (nI nA) ≤ nI i from nI_ge hiA (by omega)), if_neg (nI_ge hiA (by omega)), getA7 hi40, ob1_some, getA0 hi40, ob1_some, rdA0 hi40, ob1_some, s0, rdA7 hi40, ob1_some, s7]
        by_cases z : fA (8 * i) = nI t
        · rw [if_pos z, if_pos z, show c + 100000 + fA (8 * i + 7) = c + fA (8 * i + 7) + 100000 by ac_rfl]
          exact jj _ _ _ fun y => ih (i + 1) kc km y (by omega) (by omega) (by omega)
        · rw [if_neg z, if_neg z, Int32.add_zero]
          exact jj _ _ _ fun y => ih (i + 1) kc km y (by omega) (by omega) (by omega)
    have := key nA 0 fuel fuel (100 - fT (2 * t + 1)) (by omega) (k_fuel (by have := hA.1; omega)) (k_fuel (by have := hA.1; omega))
    rwa [show (100 : Int32) - fT (2 * t + 1) + 100000 = 100100 - fT (2 * t + 1) by rw [Int32.sub_eq_add_neg, Int32.sub_eq_add_neg, show (100100 : Int32) = 100 + 100000 from rfl]; ac_rfl] at this
theorem e12 : (12 : Int32) - 12 = 0 ∧ (13 : Int32) - 12 = 1 ∧ (14 : Int32) - 14 = 0 ∧ (15 : Int32) - 14 = 1 ∧ (16 : Int32) - 14 = 2 ∧ (17 : Int32) - 14 = 3 := by decide
theorem e477 : (477 : Int32) + 12 - 12 = 477 ∧ (477 : Int32) + 13 - 12 = 478 ∧ (479 : Int32) + 14 - 14 = 479 ∧ (479 : Int32) + 15 - 14 = 480 ∧ (479 : Int32) + 16 - 14 = 481 ∧ (479 : Int32) + 17 - 14 = 482 := by decide
theorem tell_count {fT fR fA fS fE ri : F_} {hd ln rnd : Int32} {nR nA n : Nat} {s : F_} (h : RX fT fR fA fS fE ri hd ln rnd nR nA n s) (p1 sze len : Int32) :
    ∃ r, (if p1 = 18 then (some (d_X1_size sze) : Option Int32) else if p1 = 19 then some (d_X2_textLength len) else ob1 (d_X0_tellCount p1 fT fR (nI nR) fA (nI nA) fS fE ln rnd) fun r4 => some r4) = some r ∧ d_X6_count p1 s sze len = some r := by
  obtain ⟨hn, hrnd, h485, q, ⟨hT, hR, hA, hP, hS, hE, jA, jR, jW, jE, jD, jC⟩, hQ⟩ := h
  have bR : nR < 2 ^ 31 := by have := hR.1; omega
  have bA : nA < 2 ^ 31 := by have := hA.1; omega
  have gR3 : ∀ i, i < nR → d_X4_get 80 (nI i) 3 fR 4 = some (fR (4 * i + 3)) := fun i hi => getR3 (by have := hR.1; omega)
  have gA4 : ∀ i, i < nA → d_X4_get 320 (nI i) 4 fA 8 = some (fA (8 * i + 4)) := fun i hi => getA4 (by have := hA.1; omega)
  have gA6 : ∀ i, i < nA → d_X4_get 320 (nI i) 6 fA 8 = some (fA (8 * i + 6)) := fun i hi => getA6 (by have := hA.1; omega)
  have gA7 : ∀ i, i < nA → d_X4_get 320 (nI i) 7 fA 8 = some (fA (8 * i + 7)) := fun i hi => getA7 (by have := hA.1; omega)
  by_cases c18 : p1 = 18
  · rw [if_pos c18, c18]; exact ⟨_, rfl, rfl⟩
  rw [if_neg c18]
  by_cases c19 : p1 = 19
  · rw [if_pos c19, c19]; exact ⟨_, rfl, rfl⟩
  rw [if_neg c19]
  unfold d_X0_tellCount d_X6_count
  by_cases c0 : p1 = 0
  · rw [if_pos c0, if_pos c0, rd485, ob1_some, ob1_some, hrnd, h485]; exact ⟨_, rfl, rfl⟩
  rw [if_neg c0, if_neg c0]
  by_cases c1 : p1 = 1
  · rw [if_pos c1, if_pos c1, rd483, ob1_some, ob1_some, hR.2.1]; exact ⟨_, rfl, rfl⟩
  rw [if_neg c1, if_neg c1]
  by_cases c2 : p1 = 2
  · rw [if_pos c2, if_pos c2, e_countOf _ gR3 bR, e_open hR.2.1 hR.1]; exact cp2 fun r hr => by rw [(hR.2.2 r (by have := mem_r0.mp hr; have := hR.1; omega)).2.2.2]
  rw [if_neg c2, if_neg c2]
  by_cases c3 : p1 = 3
  · rw [if_pos c3, if_pos c3, rd484, ob1_some, ob1_some, hA.2.1]; exact ⟨_, rfl, rfl⟩
  rw [if_neg c3, if_neg c3]
  by_cases c4 : p1 = 4
  · rw [if_pos c4, if_pos c4, rd476, ob1_some, ob1_some, hQ.2.2.2.1, hQ.2.2.1]; exact ⟨_, rfl, rfl⟩
  rw [if_neg c4, if_neg c4]
  by_cases c5 : p1 = 5
  · rw [if_pos c5, if_pos c5, e_countOf _ gA4 bA, e_inState hA.2.1 hA.1]; exact cp2 fun a ha => by rw [hA.2.2.1 (8 * a + 4) (by have := mem_r0.mp ha; have := hA.1; omega)]
  rw [if_neg c5, if_neg c5]
  by_cases c6 : p1 = 6
  · rw [if_pos c6, if_pos c6, e_countOf _ gA4 bA, e_inState hA.2.1 hA.1]; exact cp2 fun a ha => by rw [hA.2.2.1 (8 * a + 4) (by have := mem_r0.mp ha; have := hA.1; omega)]
  rw [if_neg c6, if_neg c6]
  by_cases c7 : p1 = 7
  · rw [if_pos c7, if_pos c7, e_sumOf _ gA6 bA, rd487, ob1_some, ob1_some, ob1_some, hA.2.2.2.1]; exact ⟨_, rfl, rfl⟩
  rw [if_neg c7, if_neg c7]
  by_cases c8 : p1 = 8
  · have g : d_X4_sumOf 4 1 fS 2 (nI 2) = some (smI (fun i => fS (2 * i + 1)) (List.range' 0 2)) := e_sumOf _ (fun i hi => getS1 hi) (by decide)
    have g' : d_X4_sumOf 4 1 fS 2 2 = some (fS 1 + (fS 3 + 0)) := g
    rw [if_pos c8, if_pos c8, g', rd488, ob1_some, ob1_some, ob1_some, hS.2.2, Int32.add_zero]; exact ⟨_, rfl, rfl⟩
  rw [if_neg c8, if_neg c8]
  by_cases c9 : p1 = 9
  · have g : d_X4_sumOf 16 1 fT 2 (nI 8) = some (smI (fun i => fT (2 * i + 1)) (List.range' 0 8)) := e_sumOf _ (fun i hi => getT1 hi) (by decide)
    have g' : d_X4_sumOf 16 1 fT 2 8 = some (smI (fun i => fT (2 * i + 1)) (List.range' 0 8)) := g
    rw [if_pos c9, if_pos c9, g', rd486, ob1_some, ob1_some, ob1_some, hT.2.2]; exact ⟨_, rfl, rfl⟩
  rw [if_neg c9, if_neg c9]
  by_cases c10 : p1 = 10
  · rw [if_pos c10, if_pos c10, e_tradersInDebt, e_debtors]; exact cp2 fun t ht => by rw [hT.1 t (mem_r0.mp ht)]
  rw [if_neg c10, if_neg c10]
  by_cases c11 : p1 = 11
  · rw [if_pos c11, if_pos c11, e_sumOf _ gA7 bA, rd489, ob1_some, ob1_some, ob1_some, hA.2.2.2.2]; exact ⟨_, rfl, rfl⟩
  rw [if_neg c11, if_neg c11]
  by_cases c12 : p1 = 12
  · rw [if_pos c12, if_pos c12, c12, e12.1, e477.1, getS_00, rd477, ob1_some, ob1_some, ob1_some, hS.1]; exact ⟨_, rfl, rfl⟩
  rw [if_neg c12, if_neg c12]
  by_cases c13 : p1 = 13
  · rw [if_pos c13, if_pos c13, c13, e12.2.1, e477.2.1, getS_10, rd478, ob1_some, ob1_some, ob1_some, hS.2.1]; exact ⟨_, rfl, rfl⟩
  rw [if_neg c13, if_neg c13]
  by_cases c14 : p1 = 14
  · rw [if_pos c14, if_pos c14, c14, e12.2.2.1, e477.2.2.1, getE_00, rd479, ob1_some, ob1_some, ob1_some, hE.1]; exact ⟨_, rfl, rfl⟩
  rw [if_neg c14, if_neg c14]
  by_cases c15 : p1 = 15
  · rw [if_pos c15, if_pos c15, c15, e12.2.2.2.1, e477.2.2.2.1, getE_10, rd480, ob1_some, ob1_some, ob1_some, hE.2.1]; exact ⟨_, rfl, rfl⟩
  rw [if_neg c15, if_neg c15]
  by_cases c16 : p1 = 16
  · rw [if_pos c16, if_pos c16, c16, e12.2.2.2.2.1, e477.2.2.2.2.1, getE_20, rd481, ob1_some, ob1_some, ob1_some, hE.2.2.1]; exact ⟨_, rfl, rfl⟩
  rw [if_neg c16, if_neg c16]
  by_cases c17 : p1 = 17
  · rw [if_pos c17, if_pos c17, c17, e12.2.2.2.2.2, e477.2.2.2.2.2, getE_30, rd482, ob1_some, ob1_some, ob1_some, hE.2.2.2]; exact ⟨_, rfl, rfl⟩
  rw [if_neg c17, if_neg c17, if_neg c18, if_neg c19]
  exact ⟨_, rfl, rfl⟩
