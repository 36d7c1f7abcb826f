/-! part 51: adjust, set, pass, settledIn, ifRounds -/
theorem e_sr (k : Nat) (x : Int32) (fS : F_) {i : Nat} (hi : i < 2) : lp_X0_setScalesRight_4 (k + 1) x (nI i) fS = lp_X0_setScalesRight_4 k (x + ab (fS (2 * i))) (nI (i + 1)) (upd fS (2 * i) 0) := by
  simp only [lp_X0_setScalesRight_4]
  rw [if_neg (show ¬ (2 : Int32) ≤ nI i from nI_ge (b := 2) hi (by decide)), getS0 hi, ob1_some, putS0 hi, ob1_some, nI_s, ab_eq]
theorem e_sr2 (k : Nat) (x : Int32) (fS : F_) : lp_X0_setScalesRight_4 (k + 1) x (nI 2) fS = some (if x = 0 then -5 else x, fS) := by
  simp only [lp_X0_setScalesRight_4]
  rw [if_pos (show (2 : Int32) ≤ nI 2 by decide)]
  by_cases c : x = 0
  · rw [if_pos c, if_pos c]
  · rw [if_neg c, if_neg c]
theorem e_scales (fS : F_) : d_X0_setScalesRight fS = some (if ab (fS 0) + ab (fS 2) = 0 then -5 else ab (fS 0) + ab (fS 2), upd (upd fS 0 0) 2 0) := by
  unfold d_X0_setScalesRight
  rw [show fuel = 2147483645 + 1 + 1 + 1 from rfl]
  show lp_X0_setScalesRight_4 _ 0 (nI 0) fS = _
  rw [e_sr _ _ _ (by decide), e_sr _ _ _ (by decide), e_sr2, Int32.zero_add]
  rw [show upd fS (2 * 0) 0 (2 * (0 + 1)) = fS 2 from upd_ne (by decide)]
theorem ab_bd {x : Int32} (h : -9 ≤ x.toInt ∧ x.toInt ≤ 9) : 0 ≤ (ab x).toInt ∧ (ab x).toInt ≤ 9 := by
  rw [ab_toInt (by omega)]
  by_cases c : 0 ≤ x.toInt
  · rw [if_pos c]; omega
  · rw [if_neg c]; omega
theorem RX.zero {fT fR fA fS fE ri : F_} {hd ln rnd : Int32} {nR nA n : Nat} {s : F_} (h : RX fT fR fA fS fE ri hd ln rnd nR nA n s) : RX fT fR fA (upd (upd fS 0 0) 2 0) fE ri hd ln rnd nR nA n (upd (upd s 477 0) 478 0) := by
  obtain ⟨hn, hrnd, h485, q, ⟨hT, hR, hA, hP, hS, hE, jA, jR, jW, jE, jD, jC⟩, hQ⟩ := h
  have out : ∀ j, j ≠ 477 → j ≠ 478 → upd (upd s 477 0) 478 0 j = s j := fun j a b => by rw [upd_ne b, upd_ne a]
  refine ⟨hn, hrnd, by rw [out 485 (by decide) (by decide)]; exact h485, q, ⟨hT.fr fun j hj => out j (by omega) (by omega), hR.fr fun j hj => out j (by omega) (by omega), hA.fr fun j hj => out j (by omega) (by omega), hP.fr hR.1 fun j hj => out j (by omega) (by omega), ⟨?_, ?_, ?_⟩, hE.fr fun j hj => out j (by omega) (by omega), jA, jR, jW, jE, ⟨?_, ?_⟩, jC⟩, hQ.fr fun j hj => out j (by omega) (by omega)⟩
  · rw [upd_ne (show (477 : Nat) ≠ 478 by decide), upd_self, upd_ne (show (0 : Nat) ≠ 2 by decide), upd_self]
  · rw [upd_self, upd_self]
  · rw [out 488 (by decide) (by decide), upd_ne (show (1 : Nat) ≠ 2 by decide), upd_ne (show (1 : Nat) ≠ 0 by decide), upd_ne (show (3 : Nat) ≠ 2 by decide), upd_ne (show (3 : Nat) ≠ 0 by decide)]; exact hS.2.2
  · rw [upd_ne (show (0 : Nat) ≠ 2 by decide), upd_self, i0]; omega
  · rw [upd_self, i0]; omega
theorem RX.adjust {fT fR fA fS fE ri : F_} {hd ln rnd : Int32} {nR nA n : Nat} {s : F_} (h : RX fT fR fA fS fE ri hd ln rnd nR nA n s) (past : F_) (pasts : Int32) :
    (d_X0_setScalesRight fS = some (-5, upd (upd fS 0 0) 2 0) ∧ d_X6_adjust s past pasts = some (-5, s, past, pasts)) ∨
    (∃ (c : Nat), c < 2 ^ 31 ∧ d_X0_setScalesRight fS = some (nI c, upd (upd fS 0 0) 2 0) ∧ d_X6_adjust s past pasts = (ob2 (d_X6_records s past pasts) fun a b => some (nI c, upd (upd s 477 0) 478 0, a, b))) := by
  obtain ⟨hn, hrnd, h485, q, ⟨hT, hR, hA, hP, hS, hE, jA, jR, jW, jE, jD, jC⟩, hQ⟩ := h
  rw [e_scales]
  unfold d_X6_adjust
  rw [rd477, ob1_some, rd478, ob1_some, hS.1, hS.2.1, size_ab, size_ab]
  by_cases c : ab (fS 0) + ab (fS 2) = 0
  · rw [if_pos c, if_pos c]; exact Or.inl ⟨rfl, rfl⟩
  · have b0 := ab_bd jD.1
    have b2 := ab_bd jD.2
    have bs : (ab (fS 0) + ab (fS 2)).toInt = (ab (fS 0)).toInt + (ab (fS 2)).toInt := add_toInt (by omega) (by omega)
    obtain ⟨m, hm, em, -⟩ := ex_nI (x := ab (fS 0) + ab (fS 2)) (by omega)
    rw [if_neg c, if_neg c, em]
    refine Or.inr ⟨m, hm, rfl, ?_⟩
    simp only [wr477, wr478, ob1_some]
/-- a setting: its least and its most -/
theorem IE.at {fE : F_} (h : IE fE) (i : Nat) (hi : i < 4) : ∃ (v : Nat) (mn mx : Int32), v < 1000 ∧ fE (3 * i) = nI v ∧ fE (3 * i + 1) = mn ∧ fE (3 * i + 2) = mx ∧ 0 ≤ mn.toInt ∧ mx.toInt ≤ 500 ∧
    (∀ (p2 : Int32) (s past : F_) (pasts : Int32), d_X6_set (nI i) p2 s past pasts = if p2 < mn then some (-2, s, past, pasts) else if mx < p2 then some (-2, s, past, pasts) else j_X6_set_44 (nI i) p2 s past pasts) ∧
    (∀ e : Nat, ¬ nI e < mn → ¬ mx < nI e → e < 2 ^ 31 → IE (upd fE (3 * i) (nI e))) := by
  obtain ⟨⟨e0, b0, h0⟩, ⟨e1, b1, h1⟩, ⟨e2, a2, b2, h2⟩, ⟨e3, b3, h3⟩, k1, k2, k4, k5, k7, k8, k10, k11⟩ := h
  have i9 : (9 : Int32).toInt = 9 := rfl
  have i500 : (500 : Int32).toInt = 500 := rfl
  have hin : ∀ (mn mx p2 : Int32) {A : Type} (x y : A), (if d_X6_in p2 mn mx = 0 then x else y) = if p2 < mn then x else if mx < p2 then x else y := by
    intro mn mx p2 A x y
    unfold d_X6_in
    by_cases c : p2 < mn
    · rw [if_pos c, if_pos c, if_pos rfl]
    · rw [if_neg c, if_neg c]
      by_cases d : mx < p2
      · rw [if_pos d, if_pos d, if_pos rfl]
      · rw [if_neg d, if_neg d, if_neg n10]
  rcases (show i = 0 ∨ i = 1 ∨ i = 2 ∨ i = 3 by omega) with rfl | rfl | rfl | rfl
  · refine ⟨e0, 0, 9, by omega, h0, k1, k2, by decide, by decide, fun p2 s past pasts => ?_, fun e g1 g2 ge => ?_⟩
    · unfold d_X6_set
      rw [if_neg (show ¬ d_X6_in (nI 0) 0 3 = 0 by decide), if_neg (show ¬ nI 0 = (2 : Int32) by decide), if_neg (show ¬ nI 0 = (3 : Int32) by decide), hin]
    · rw [Int32.lt_iff_toInt_lt, nI_toInt ge, i9] at g2
      exact ⟨⟨e, by omega, upd_self⟩, ⟨e1, b1, h1⟩, ⟨e2, a2, b2, h2⟩, ⟨e3, b3, h3⟩, k1, k2, k4, k5, k7, k8, k10, k11⟩
  · refine ⟨e1, 0, 9, by omega, h1, k4, k5, by decide, by decide, fun p2 s past pasts => ?_, fun e g1 g2 ge => ?_⟩
    · unfold d_X6_set
      rw [if_neg (show ¬ d_X6_in (nI 1) 0 3 = 0 by decide), if_neg (show ¬ nI 1 = (2 : Int32) by decide), if_neg (show ¬ nI 1 = (3 : Int32) by decide), hin]
    · rw [Int32.lt_iff_toInt_lt, nI_toInt ge, i9] at g2
      exact ⟨⟨e0, b0, h0⟩, ⟨e, by omega, upd_self⟩, ⟨e2, a2, b2, h2⟩, ⟨e3, b3, h3⟩, k1, k2, k4, k5, k7, k8, k10, k11⟩
  · refine ⟨e2, 1, 9, by omega, h2, k7, k8, by decide, by decide, fun p2 s past pasts => ?_, fun e g1 g2 ge => ?_⟩
    · unfold d_X6_set
      rw [if_neg (show ¬ d_X6_in (nI 2) 0 3 = 0 by decide), if_pos (show nI 2 = (2 : Int32) by decide), if_neg (show ¬ nI 2 = (3 : Int32) by decide), hin]
    · rw [Int32.lt_iff_toInt_lt, nI_toInt ge, i9] at g2
      rw [Int32.lt_iff_toInt_lt, nI_toInt ge, i1] at g1
      exact ⟨⟨e0, b0, h0⟩, ⟨e1, b1, h1⟩, ⟨e, by omega, by omega, upd_self⟩, ⟨e3, b3, h3⟩, k1, k2, k4, k5, k7, k8, k10, k11⟩
  · refine ⟨e3, 0, 500, by omega, h3, k10, k11, by decide, by decide, fun p2 s past pasts => ?_, fun e g1 g2 ge => ?_⟩
    · unfold d_X6_set
      rw [if_neg (show ¬ d_X6_in (nI 3) 0 3 = 0 by decide), if_neg (show ¬ nI 3 = (2 : Int32) by decide), if_pos (show nI 3 = (3 : Int32) by decide), hin]
    · rw [Int32.lt_iff_toInt_lt, nI_toInt ge, i500] at g2
      exact ⟨⟨e0, b0, h0⟩, ⟨e1, b1, h1⟩, ⟨e2, a2, b2, h2⟩, ⟨e, by omega, upd_self⟩, k1, k2, k4, k5, k7, k8, k10, k11⟩
theorem RX.set {fT fR fA fS fE ri : F_} {hd ln rnd : Int32} {nR nA n : Nat} {s : F_} (h : RX fT fR fA fS fE ri hd ln rnd nR nA n s) (p1 p2 : Int32) (past : F_) (pasts : Int32) :
    (∃ e : Int32, e < 0 ∧ d_X0_changeSetting p1 p2 fE = some (e, fE) ∧ d_X6_set p1 p2 s past pasts = some (e, s, past, pasts)) ∨
    (∃ (c : Nat) (fE' s' : F_), c < 2 ^ 31 ∧ d_X0_changeSetting p1 p2 fE = some (nI c, fE') ∧ d_X6_set p1 p2 s past pasts = (ob2 (d_X6_records s past pasts) fun a b => some (nI c, s', a, b)) ∧ RX fT fR fA fS fE' ri hd ln rnd nR nA n s') := by
  obtain ⟨hn, hrnd, h485, q, ⟨hT, hR, hA, hP, hS, hE, jA, jR, jW, jE, jD, jC⟩, hQ⟩ := h
  unfold d_X0_changeSetting
  rcases has_dich p1 4 (by decide) with ⟨e1, e2⟩ | ⟨i, hi, rfl, e1, e2⟩
  · have e1' : d_X4_has p1 4 = 0 := e1
    have e2' : d_X6_in p1 0 3 = 0 := e2
    unfold d_X6_set
    rw [e1', e2']; exact Or.inl ⟨-1, by decide, rfl, rfl⟩
  · have e1' : d_X4_has (nI i) 4 = 1 := e1
    obtain ⟨v, mn, mx, hv, f0, f1, f2, hmn, hmx, hset, hIE⟩ := jE.at i hi
    rw [e1', if_neg n10, getE1 hi, ob1_some, f1, hset]
    by_cases c1 : p2 < mn
    · rw [if_pos c1, if_pos c1]; exact Or.inl ⟨-2, by decide, rfl, rfl⟩
    rw [if_neg c1, if_neg c1, getE2 hi, ob1_some, f2]
    by_cases c2 : p2 ≤ mx
    · rw [if_pos c2, if_neg (Int32.not_lt.mpr c2), getE0 hi, ob1_some]
      unfold j_X6_set_44
      have hs : s (479 + i) = fE (3 * i) := by
        rcases (show i = 0 ∨ i = 1 ∨ i = 2 ∨ i = 3 by omega) with rfl | rfl | rfl | rfl
        · exact hE.1
        · exact hE.2.1
        · exact hE.2.2.1
        · exact hE.2.2.2
      rw [rdp479 hi, ob1_some, hs]
      by_cases c3 : fE (3 * i) = p2
      · rw [if_pos c3, if_pos c3]; exact Or.inl ⟨-5, by decide, rfl, rfl⟩
      · rw [if_neg c3, if_neg c3, putE0 hi, ob1_some, f0]
        rw [Int32.lt_iff_toInt_lt] at c1
        have c2' := c2
        rw [Int32.le_iff_toInt_le] at c2
        obtain ⟨e, he, rfl, ei⟩ := ex_nI (x := p2) (by omega)
        have hJ := hIE e (by rw [Int32.lt_iff_toInt_lt]; exact c1) (Int32.not_lt.mpr c2') he
        refine Or.inr ⟨v, _, upd s (479 + i) (nI e), by omega, rfl, ?_, hn, hrnd, by rw [upd_ne (by omega)]; exact h485, q, ⟨hT.fr fun j hj => upd_ne (by omega), hR.fr fun j hj => upd_ne (by omega), hA.fr fun j hj => upd_ne (by omega), hP.fr hR.1 fun j hj => upd_ne (by omega), hS.fr fun j hj => upd_ne (by omega), ?_, jA, jR, jW, hJ, jD, jC⟩, hQ.fr fun j hj => upd_ne (by omega)⟩
        · simp only [wrp479 hi, ob1_some]
        · rcases (show i = 0 ∨ i = 1 ∨ i = 2 ∨ i = 3 by omega) with rfl | rfl | rfl | rfl
          · exact ⟨by rw [upd_self, upd_self], by rw [upd_ne (by decide), upd_ne (by decide)]; exact hE.2.1, by rw [upd_ne (by decide), upd_ne (by decide)]; exact hE.2.2.1, by rw [upd_ne (by decide), upd_ne (by decide)]; exact hE.2.2.2⟩
          · exact ⟨by rw [upd_ne (by decide), upd_ne (by decide)]; exact hE.1, by rw [upd_self, upd_self], by rw [upd_ne (by decide), upd_ne (by decide)]; exact hE.2.2.1, by rw [upd_ne (by decide), upd_ne (by decide)]; exact hE.2.2.2⟩
          · exact ⟨by rw [upd_ne (by decide), upd_ne (by decide)]; exact hE.1, by rw [upd_ne (by decide), upd_ne (by decide)]; exact hE.2.1, by rw [upd_self, upd_self], by rw [upd_ne (by decide), upd_ne (by decide)]; exact hE.2.2.2⟩
          · exact ⟨by rw [upd_ne (by decide), upd_ne (by decide)]; exact hE.1, by rw [upd_ne (by decide), upd_ne (by decide)]; exact hE.2.1, by rw [upd_ne (by decide), upd_ne (by decide)]; exact hE.2.2.1, by rw [upd_self, upd_self]⟩
    · rw [if_neg c2, if_pos (Int32.not_le.mp c2)]; exact Or.inl ⟨-2, by decide, rfl, rfl⟩
theorem RX.pass {fT fR fA fS fE ri : F_} {hd ln rnd : Int32} {nR nA n : Nat} {s : F_} (h : RX fT fR fA fS fE ri hd ln rnd nR nA n s) (hn9 : n ≤ 9999) (p1 : Int32) :
    (∃ e : Int32, e < 0 ∧ d_X0_playRounds p1 fT fR fA fS fE ri hd ln rnd = some (e, fT, fR, fA, fS, ri, hd, ln, rnd) ∧ d_X6_barPass p1 s = some e) ∨
    (∃ (p n' : Nat) (fT' fR' fA' fS' ri' : F_) (hd' ln' : Int32) (s' : F_), p < 2 ^ 31 ∧ n' ≤ 9999 ∧ d_X0_playRounds p1 fT fR fA fS fE ri hd ln rnd = some (nI p, fT', fR', fA', fS', ri', hd', ln', nI n') ∧ d_X6_barPass p1 s = some 0 ∧ d_X6_passes p1 s = some (nI p, s') ∧ RX fT' fR' fA' fS' fE ri' hd' ln' (nI n') nR nA n' s') := by
  have hrnd := h.2.1
  have h485 := h.2.2.1
  have i99 : (99 : Int32).toInt = 99 := rfl
  unfold d_X0_playRounds d_X6_barPass
  by_cases c1 : p1 < 1
  · rw [if_pos c1]; refine Or.inl ⟨-2, by decide, rfl, ?_⟩
    unfold d_X6_in; rw [if_pos c1, if_pos rfl]
  rw [if_neg c1, in_ge c1]
  by_cases c2 : p1 ≤ 99
  · rw [if_pos c2, if_neg (Int32.not_lt.mpr c2), if_neg n10, rd485, ob1_some, h485, hrnd]
    rw [Int32.lt_iff_toInt_lt, i1] at c1
    rw [Int32.le_iff_toInt_le, i99] at c2
    obtain ⟨R, hR, rfl, ei⟩ := ex_nI (x := p1) (by omega)
    rw [nJ_add]
    by_cases c3 : n + R ≤ 9999
    · have c3' : nI (n + R) ≤ (9999 : Int32) := nI_le (b := 9999) c3 (by decide)
      rw [if_pos c3', if_pos c3']
      rw [hrnd] at h
      obtain ⟨p, fT', fR', fA', fS', ri', hd', ln', s', g1, g2, g3, g4⟩ := passes_both (R := R) h (by omega)
      exact Or.inr ⟨p, n + R, fT', fR', fA', fS', ri', hd', ln', s', g4, c3, g1, rfl, g2, g3⟩
    · have c3' : ¬ nI (n + R) ≤ (9999 : Int32) := nI_ge (a := 9999) (by omega) (by omega)
      rw [if_neg c3', if_neg c3']
      exact Or.inl ⟨-3, by decide, rfl, rfl⟩
  · rw [if_neg c2, if_pos (Int32.not_le.mp c2), if_pos rfl]; exact Or.inl ⟨-2, by decide, rfl, rfl⟩
/-! outlooks -/
theorem RX.fr {fT fR fA fS fE ri : F_} {hd ln rnd : Int32} {nR nA n : Nat} {s s' : F_} (g : ∀ j, j < 490 → s' j = s j) (h : RX fT fR fA fS fE ri hd ln rnd nR nA n s) : RX fT fR fA fS fE ri hd ln rnd nR nA n s' := by
  obtain ⟨hn, hrnd, h485, q, ⟨hT, hR, hA, hP, hS, hE, j⟩, hQ⟩ := h
  exact ⟨hn, hrnd, by rw [g 485 (by decide)]; exact h485, q, ⟨hT.fr fun j hj => g j (by omega), hR.fr fun j hj => g j (by omega), hA.fr fun j hj => g j (by omega), hP.fr hR.1 fun j hj => g j (by omega), hS.fr fun j hj => g j (by omega), hE.fr fun j hj => g j (by omega), j⟩, hQ.fr fun j hj => g j (by omega)⟩
def SX (E : Ex) (n : Nat) (s : F_) : Prop := ∃ nR nA, E.2.2.1 = nI nR ∧ E.2.2.2.2.1 = nI nA ∧ RX E.1 E.2.1 E.2.2.2.1 E.2.2.2.2.2.1 E.2.2.2.2.2.2.1 E.2.2.2.2.2.2.2.1 E.2.2.2.2.2.2.2.2.1 E.2.2.2.2.2.2.2.2.2.1 E.2.2.2.2.2.2.2.2.2.2 nR nA n s
theorem SX.fr {E : Ex} {n : Nat} {s s' : F_} (g : ∀ j, j < 490 → s' j = s j) (h : SX E n s) : SX E n s' := by
  obtain ⟨nR, nA, h1, h2, h3⟩ := h
  exact ⟨nR, nA, h1, h2, h3.fr g⟩
theorem e_if42 (N : Ex) (p1 p2 : Int32) : ∀ (k : Nat) (x3 x4 : Int32) (T : Ex), lp_X5_ifRounds_42 N p1 p2 k x3 x4 T =
    ob9 (lp_X0_playRounds_33 T.2.2.2.2.2.2.1 p1 k x3 x4 T.1 T.2.1 T.2.2.2.1 T.2.2.2.2.2.1 T.2.2.2.2.2.2.2.1 T.2.2.2.2.2.2.2.2.1 T.2.2.2.2.2.2.2.2.2.1 T.2.2.2.2.2.2.2.2.2.2) fun r fT fR fA fS ri hd ln rnd => some (r, (fT, fR, T.2.2.1, fA, T.2.2.2.2.1, fS, T.2.2.2.2.2.2.1, ri, hd, ln, rnd)) := by
  intro k
  induction k with
  | zero => intro x3 x4 T; rfl
  | succ k ih =>
    intro x3 x4 T
    simp only [lp_X5_ifRounds_42, lp_X0_playRounds_33]
    by_cases c : p1 ≤ x4
    · rw [if_pos c, if_pos c]; rfl
    · rw [if_neg c, if_neg c]
      cases d_X0_playRound T.1 T.2.1 T.2.2.2.1 T.2.2.2.2.2.1 T.2.2.2.2.2.2.1 T.2.2.2.2.2.2.2.1 T.2.2.2.2.2.2.2.2.1 T.2.2.2.2.2.2.2.2.2.1 T.2.2.2.2.2.2.2.2.2.2 with
      | none => rfl
      | some u =>
        obtain ⟨u1, u2, u3, u4, u5, u6, u7, u8, u9⟩ := u
        rw [ob9_some, ob9_some, ih]
theorem tell_ifRounds {N T : Ex} {n : Nat} {s aside : F_} (h : SX N n s) (hn : n ≤ 9999) (p1 p2 : Int32) : ∃ (r : Int32) (T' : Ex) (s' a' : F_), d_X5_ifRounds p1 p2 N T = some (r, T') ∧ d_X6_ifRounds p1 p2 s aside = some (r, s', a') ∧ ∀ j, j < 490 → s' j = s j := by
  obtain ⟨nR, nA, h1, h2, h3⟩ := h
  have i99 : (99 : Int32).toInt = 99 := rfl
  unfold d_X5_ifRounds d_X6_ifRounds
  by_cases c1 : p1 < 1
  · refine ⟨-2, T, s, aside, by rw [if_pos c1], ?_, fun _ _ => rfl⟩
    unfold d_X6_in; rw [if_pos c1, if_pos rfl]
  rw [if_neg c1, in_ge c1]
  by_cases c2 : p1 ≤ 99
  · rw [if_pos c2, if_neg (Int32.not_lt.mpr c2), if_neg n10]
    rw [Int32.lt_iff_toInt_lt, i1] at c1
    rw [Int32.le_iff_toInt_le, i99] at c2
    obtain ⟨R, hR, rfl, ei⟩ := ex_nI (x := p1) (by omega)
    obtain ⟨a', g1, g2⟩ := e_putAside (s := s) (aside := aside)
    rw [g1, ob1_some]
    unfold j_X6_ifRounds_39
    by_cases c3 : p2 = 0
    · rw [if_pos c3, if_pos c3, e_if42]
      obtain ⟨p, fT', fR', fA', fS', ri', hd', ln', s', u1, u2, u3, u4⟩ := passes_both (R := R) h3 (by omega)
      rw [u1, u2, ob9_some, ob2_some]
      obtain ⟨s2, v1, v2⟩ := e_putBack (s := s') (aside := a')
      rw [v1, ob1_some]
      exact ⟨_, _, s2, a', rfl, rfl, fun j hj => by rw [v2 j hj, g2 j hj]⟩
    · rw [if_neg c3, if_neg c3, e_scales, ob2_some, e_if42, wr477, ob1_some, wr478, ob1_some]
      obtain ⟨p, fT', fR', fA', fS', ri', hd', ln', s', u1, u2, u3, u4⟩ := passes_both (R := R) h3.zero (by omega)
      rw [u1, u2, ob9_some, ob2_some]
      obtain ⟨s2, v1, v2⟩ := e_putBack (s := s') (aside := a')
      rw [v1, ob1_some]
      exact ⟨_, _, s2, a', rfl, rfl, fun j hj => by rw [v2 j hj, g2 j hj]⟩
  · refine ⟨-2, T, s, aside, by rw [if_neg c2], ?_, fun _ _ => rfl⟩
    rw [if_pos (Int32.not_le.mp c2), if_pos rfl]
theorem settle_loop {N : Ex} {a nR nA : Nat} {aside : F_} (ha : a < nA) : ∀ (d i kc km n : Nat) (T : Ex) (s : F_), i + d = 300 → d < kc → d < km → n + d ≤ 12000 → T.2.2.2.2.1 = nI nA →
    RX T.1 T.2.1 T.2.2.2.1 T.2.2.2.2.2.1 T.2.2.2.2.2.2.1 T.2.2.2.2.2.2.2.1 T.2.2.2.2.2.2.2.2.1 T.2.2.2.2.2.2.2.2.2.1 T.2.2.2.2.2.2.2.2.2.2 nR nA n s → T.2.2.2.1 (8 * a + 4) = 0 →
    ∃ (r : Int32) (T' : Ex) (s' : F_), lp_X5_settledIn_28 N (nI a) kc (nI (i + 1)) T = some (r, T') ∧ lp_X6_settledIn_32 (nI a) km (nI i) s aside = (ob1 (d_X6_putBack s' aside) fun z => some (r, z, aside)) := by
  intro d
  induction d with
  | zero =>
    intro i kc km n T s hi h1 h2 hn hA h h0
    obtain ⟨kc, rfl⟩ : ∃ k', kc = k' + 1 := ⟨kc - 1, by omega⟩
    obtain ⟨km, rfl⟩ : ∃ k', km = k' + 1 := ⟨km - 1, by omega⟩
    have e : i = 300 := by omega
    subst e
    obtain ⟨-, -, -, q, hM, -⟩ := h
    have hA40 := hM.2.2.1.1
    have s4 : s (116 + (8 * a + 4)) = 0 := by rw [hM.2.2.1.2.2.1 _ (by omega)]; exact h0
    refine ⟨-5, T, s, ?_, ?_⟩
    · simp only [lp_X5_settledIn_28]
      rw [if_pos (show (300 : Int32) < nI (300 + 1) by decide)]
    · simp only [lp_X6_settledIn_32]
      rw [rdA4 (by omega), ob1_some, s4, if_pos rfl, if_pos (show (300 : Int32) ≤ nI 300 by decide)]
      unfold j_X6_settledIn_62 j_X6_settledIn_82
      rw [rdA4 (by omega), ob1_some, s4, if_pos rfl]
  | succ d ih =>
    intro i kc km n T s hi h1 h2 hn hA h h0
    obtain ⟨kc, rfl⟩ : ∃ k', kc = k' + 1 := ⟨kc - 1, by omega⟩
    obtain ⟨km, rfl⟩ : ∃ k', km = k' + 1 := ⟨km - 1, by omega⟩
    obtain ⟨-, -, -, q, hM, -⟩ := id h
    have hA40 := hM.2.2.1.1
    have s4 : s (116 + (8 * a + 4)) = 0 := by rw [hM.2.2.1.2.2.1 _ (by omega)]; exact h0
    obtain ⟨p, fT', fR', fA', fS', ri', hd', ln', s', g1, g2, g3, g4⟩ := round_both h (by omega)
    obtain ⟨-, -, -, q', hM', -⟩ := id g3
    have s4' : s' (116 + (8 * a + 4)) = fA' (8 * a + 4) := hM'.2.2.1.2.2.1 _ (by omega)
    have kC : lp_X5_settledIn_28 N (nI a) (kc + 1) (nI (i + 1)) T = if fA' (8 * a + 4) = 0 then lp_X5_settledIn_28 N (nI a) kc (nI (i + 1 + 1)) (fT', fR', T.2.2.1, fA', T.2.2.2.2.1, fS', T.2.2.2.2.2.2.1, ri', hd', ln', nI (n + 1)) else some (nI (i + 1), (fT', fR', T.2.2.1, fA', T.2.2.2.2.1, fS', T.2.2.2.2.2.2.1, ri', hd', ln', nI (n + 1))) := by
      simp only [lp_X5_settledIn_28]
      rw [if_neg (show ¬ (300 : Int32) < nI (i + 1) from nI_nlt (a := 300) (b := i + 1) (by omega) (by omega)), g1, ob9_some, hA, e_errW ha hA40, ob1_some, nI_s]
      by_cases c : fA' (8 * a + 4) = 0
      · rw [if_pos c, if_pos c, if_pos (Int32.le_refl _)]
      · rw [if_neg c, if_neg c, if_neg n04]
    have kM : lp_X6_settledIn_32 (nI a) (km + 1) (nI i) s aside = lp_X6_settledIn_32 (nI a) km (nI (i + 1)) s' aside := by
      simp only [lp_X6_settledIn_32]
      rw [rdA4 (by omega), ob1_some, s4, if_pos rfl, if_neg (show ¬ (300 : Int32) ≤ nI i from nI_ge (a := i) (b := 300) (by omega) (by omega)), g2, ob1_some, nI_s]
    rw [kC, kM]
    by_cases c : fA' (8 * a + 4) = 0
    · rw [if_pos c]
      exact ih (i + 1) kc km (n + 1) _ s' (by omega) (by omega) (by omega) (by omega) hA g3 c
    · rw [if_neg c]
      obtain ⟨km, rfl⟩ : ∃ k', km = k' + 1 := ⟨km - 1, by omega⟩
      refine ⟨_, _, s', rfl, ?_⟩
      simp only [lp_X6_settledIn_32]
      unfold j_X6_settledIn_62 j_X6_settledIn_82
      rw [rdA4 (by omega), ob1_some, s4', if_neg c, ob1_some, if_neg c]
theorem tell_settledIn {N T : Ex} {n : Nat} {s aside : F_} (h : SX N n s) (hn : n ≤ 9999) (p1 : Int32) : ∃ (r : Int32) (T' : Ex) (s' a' : F_), d_X5_settledIn p1 N T = some (r, T') ∧ d_X6_settledIn p1 s aside = some (r, s', a') ∧ ∀ j, j < 490 → s' j = s j := by
  obtain ⟨nR, nA, h1, h2, h3⟩ := h
  obtain ⟨-, -, -, q, hM, -⟩ := id h3
  have hA := hM.2.2.1
  have bA : nA < 2 ^ 31 := by have := hA.1; omega
  unfold d_X5_settledIn d_X6_settledIn
  rw [e_isAnswer hA.2.1, ob1_some, h2]
  rcases has_dich p1 nA bA with ⟨e1, e2⟩ | ⟨a, ha, rfl, e1, e2⟩
  · unfold d_X0_errorIfNotWaiting
    rw [e1, e2, if_pos rfl, if_pos rfl, ob1_some, if_neg n01']; exact ⟨_, T, s, aside, rfl, rfl, fun _ _ => rfl⟩
  · have ha40 : a < 40 := by have := hA.1; omega
    rw [e_errW ha hA.1, ob1_some, e2, if_neg n10, rdA4 ha40, ob1_some, hA.2.2.1 (8 * a + 4) (by omega)]
    by_cases c : N.2.2.2.1 (8 * a + 4) = 0
    · rw [if_pos c, if_pos c, if_pos (Int32.le_refl _)]
      obtain ⟨a', g1, g2⟩ := e_putAside (s := s) (aside := aside)
      rw [g1, ob1_some]
      obtain ⟨r, T', s', u1, u2⟩ := settle_loop (N := N) (aside := a') ha 300 0 fuel fuel n N s (by omega) (k_fuel (by decide)) (k_fuel (by decide)) (by omega) h2 h3 c
      obtain ⟨s2, v1, v2⟩ := e_putBack (s := s') (aside := a')
      rw [v1, ob1_some] at u2
      exact ⟨r, T', s2, a', u1, u2, fun j hj => by rw [v2 j hj, g2 j hj]⟩
    · rw [if_neg c, if_neg c, if_neg n04]
      exact ⟨_, T, s, aside, rfl, rfl, fun _ _ => rfl⟩
