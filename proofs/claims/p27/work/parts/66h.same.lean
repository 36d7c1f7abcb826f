/-! part 66h: two trades whose states are one tell the same -/
theorem cg_riddle {t u : Td} (h : t.1 = u.1) (p1 p2 : Int32) : q_riddle p1 p2 u = q_riddle p1 p2 t := by unfold q_riddle; rw [h]
theorem cg_trader {t u : Td} (h : t.1 = u.1) (p1 p2 : Int32) : q_trader p1 p2 u = q_trader p1 p2 t := by unfold q_trader; rw [h]
theorem cg_answer {t u : Td} (h : t.1 = u.1) (p1 p2 : Int32) : q_answer p1 p2 u = q_answer p1 p2 t := by unfold q_answer; rw [h]
theorem cg_account {t u : Td} (h : t.1 = u.1) (p1 : Int32) : q_account p1 u = q_account p1 t := by unfold q_account; rw [h]
theorem cg_waits {t u : Td} (h : t.1 = u.1) (p1 : Int32) : q_waits p1 u = q_waits p1 t := by unfold q_waits; rw [h]
theorem cg_count {t u : Td} (h : t.1 = u.1) (hz : t.2.2.2.2.2.1 = u.2.2.2.2.2.1) {p1 : Int32} (hp : ¬ p1 = 19) : q_count p1 u = q_count p1 t := by
  unfold q_count d_X5_count
  rw [h, hz]
  by_cases c : p1 = 18
  · rw [if_pos c, if_pos c]
  · rw [if_neg c, if_neg c, if_neg hp, if_neg hp]
section SAME
variable {t u : Td} {fT fR fA fS fE ri : F_} {hd ln rnd : Int32} {nR nA n : Nat} {q : List Nat}
theorem tot_riddle (h : NX t fT fR fA fS fE ri hd ln rnd nR nA n q) (i : Nat) {c : Nat} (hc : c < 4) (hi : i < 2 ^ 31) : ∃ r, q_riddle (nI i) (nI c) t = some r := by
  by_cases c1 : i < nR
  · exact ⟨_, v_rd h c1 hc⟩
  · refine ⟨-1, ?_⟩
    rw [qv_riddle, h.1]
    show d_X0_tellRiddle (nI i) (nI c) fR (nI nR) fA (nI nA) = _
    unfold d_X0_tellRiddle d_X4_has
    rw [if_neg (nI_pos hi), if_pos (nI_le (by omega) hi), if_pos rfl]
theorem tot_answer (h : NX t fT fR fA fS fE ri hd ln rnd nR nA n q) (i : Nat) {c : Nat} (hc : c < 8) (hi : i < 2 ^ 31) : ∃ r, q_answer (nI i) (nI c) t = some r := by
  by_cases c1 : i < nA
  · exact ⟨_, v_an h c1 hc⟩
  · refine ⟨-1, ?_⟩
    rw [qv_answer, h.1]
    show d_X0_tellAnswer (nI i) (nI c) fA (nI nA) ri hd ln = _
    unfold d_X0_tellAnswer d_X4_has
    rw [if_neg (nI_pos hi), if_pos (nI_le (by omega) hi), if_pos rfl]
theorem tot_waits (h : NX t fT fR fA fS fE ri hd ln rnd nR nA n q) (i : Nat) (hi : i < 2 ^ 31) : ∃ r, q_waits (nI i) t = some r := by
  obtain ⟨hq40, ⟨hh, hh40, ehd, hri⟩, eln⟩ := h.2.2.2.2
  rw [qv_waits t (nI_pos' hi), h.1]
  show ∃ r, d_X3_at (nI i) ri hd ln = some r
  by_cases c1 : i < q.length
  · exact ⟨_, e_at ehd eln hh40 hq40 c1⟩
  · refine ⟨-5, ?_⟩
    unfold d_X3_at
    rw [if_neg (nI_pos hi), eln, if_neg (nI_nlt (by omega) hi)]
theorem tot_count (h : NX t fT fR fA fS fE ri hd ln rnd nR nA n q) {i : Nat} (hi : i < 19) : ∃ r, q_count (nI i) t = some r := by
  match i, hi with
  | 0, _ => exact ⟨_, v_c0 h⟩
  | 1, _ => exact ⟨_, v_c1 h⟩
  | 2, _ => exact ⟨_, v_c2 h⟩
  | 3, _ => exact ⟨_, v_c3 h⟩
  | 4, _ => exact ⟨_, v_c4 h⟩
  | 5, _ => exact ⟨_, v_c5 h⟩
  | 6, _ => exact ⟨_, v_c6 h⟩
  | 7, _ => exact ⟨_, v_c7 h⟩
  | 8, _ => exact ⟨_, v_c8 h⟩
  | 9, _ => exact ⟨_, v_c9 h⟩
  | 10, _ => exact ⟨_, v_c10 h⟩
  | 11, _ => exact ⟨_, v_c11 h⟩
  | 12, _ => exact ⟨_, v_c12 h⟩
  | 13, _ => exact ⟨_, v_c13 h⟩
  | 14, _ => exact ⟨_, v_c14 h⟩
  | 15, _ => exact ⟨_, v_c15 h⟩
  | 16, _ => exact ⟨_, v_c16 h⟩
  | 17, _ => exact ⟨_, v_c17 h⟩
  | 18, _ => exact ⟨_, qv_count18 t⟩
  | k + 19, hi => exact absurd hi (by omega)
theorem sm4 (h : NX t fT fR fA fS fE ri hd ln rnd nR nA n q) (hu : t.1 = u.1) : ∀ (d i k : Nat), i + d = 40 → d < k → lp_L_same_202 t u k 1 (nI i) = some 1 := by
  intro d
  induction d with
  | zero =>
    intro i k hi hk
    obtain ⟨k, rfl⟩ : ∃ k', k = k' + 1 := ⟨k - 1, by omega⟩
    have : i = 40 := by omega
    subst this
    simp only [lp_L_same_202]
    rw [if_pos (show (40 : Int32) ≤ nI 40 by decide)]
  | succ d ih =>
    intro i k hi hk
    obtain ⟨k, rfl⟩ : ∃ k', k = k' + 1 := ⟨k - 1, by omega⟩
    obtain ⟨r1, e1⟩ := tot_waits h i (by omega)
    obtain ⟨r2, e2⟩ : ∃ r, q_answer (nI i) 3 t = some r := tot_answer h i (c := 3) (by decide) (by omega)
    obtain ⟨r3, e3⟩ : ∃ r, q_answer (nI i) 5 t = some r := tot_answer h i (c := 5) (by decide) (by omega)
    obtain ⟨r4, e4⟩ : ∃ r, q_answer (nI i) 6 t = some r := tot_answer h i (c := 6) (by decide) (by omega)
    simp only [lp_L_same_202]
    rw [if_neg (show ¬ (40 : Int32) ≤ nI i from nI_ge (b := 40) (by omega) (by decide)), if_neg n10, cg_waits hu, e1, ob1_some, ob1_some, if_pos rfl, cg_answer hu, e2, ob1_some, ob1_some, if_pos rfl, cg_answer hu, e3, ob1_some, ob1_some, if_pos rfl, cg_answer hu, e4, ob1_some, ob1_some, if_pos rfl, nI_s]
    exact ih (i + 1) k (by omega) (by omega)
theorem sm3 (h : NX t fT fR fA fS fE ri hd ln rnd nR nA n q) (hu : t.1 = u.1) : ∀ (d i k : Nat), i + d = 20 → d < k → lp_L_same_118 t u k 1 (nI i) = some 1 := by
  intro d
  induction d with
  | zero =>
    intro i k hi hk
    obtain ⟨k, rfl⟩ : ∃ k', k = k' + 1 := ⟨k - 1, by omega⟩
    have : i = 20 := by omega
    subst this
    simp only [lp_L_same_118]
    rw [if_pos (show (20 : Int32) ≤ nI 20 by decide)]
    exact sm4 h hu 40 0 fuel rfl (by decide)
  | succ d ih =>
    intro i k hi hk
    obtain ⟨k, rfl⟩ : ∃ k', k = k' + 1 := ⟨k - 1, by omega⟩
    obtain ⟨r1, e1⟩ : ∃ r, q_riddle (nI i) 0 t = some r := tot_riddle h i (c := 0) (by decide) (by omega)
    obtain ⟨r2, e2⟩ : ∃ r, q_riddle (nI i) 1 t = some r := tot_riddle h i (c := 1) (by decide) (by omega)
    obtain ⟨r3, e3⟩ : ∃ r, q_riddle (nI i) 2 t = some r := tot_riddle h i (c := 2) (by decide) (by omega)
    obtain ⟨r4, e4⟩ : ∃ r, q_riddle (nI i) 3 t = some r := tot_riddle h i (c := 3) (by decide) (by omega)
    simp only [lp_L_same_118]
    rw [if_neg (show ¬ (20 : Int32) ≤ nI i from nI_ge (b := 20) (by omega) (by decide)), if_neg n10, cg_riddle hu, e1, ob1_some, ob1_some, if_pos rfl, cg_riddle hu, e2, ob1_some, ob1_some, if_pos rfl, cg_riddle hu, e3, ob1_some, ob1_some, if_pos rfl, cg_riddle hu, e4, ob1_some, ob1_some, if_pos rfl, nI_s]
    exact ih (i + 1) k (by omega) (by omega)
theorem sm2 (h : NX t fT fR fA fS fE ri hd ln rnd nR nA n q) (hu : t.1 = u.1) : ∀ (d i k : Nat), i + d = 8 → d < k → lp_L_same_47 t u k 1 (nI i) = some 1 := by
  intro d
  induction d with
  | zero =>
    intro i k hi hk
    obtain ⟨k, rfl⟩ : ∃ k', k = k' + 1 := ⟨k - 1, by omega⟩
    have : i = 8 := by omega
    subst this
    simp only [lp_L_same_47]
    rw [if_pos (show (8 : Int32) ≤ nI 8 by decide)]
    exact sm3 h hu 20 0 fuel rfl (by decide)
  | succ d ih =>
    intro i k hi hk
    obtain ⟨k, rfl⟩ : ∃ k', k = k' + 1 := ⟨k - 1, by omega⟩
    have hi8 : i < 8 := by omega
    simp only [lp_L_same_47]
    rw [if_neg (nlt8 hi8), if_neg n10, cg_account hu, v_acc h hi8, ob1_some, ob1_some, if_pos rfl, cg_trader hu, v_tr7 h hi8, ob1_some, ob1_some, if_pos rfl, cg_trader hu, v_tr6 h hi8, ob1_some, ob1_some, if_pos rfl, nI_s]
    exact ih (i + 1) k (by omega) (by omega)
theorem sm1 (h : NX t fT fR fA fS fE ri hd ln rnd nR nA n q) (hu : t.1 = u.1) (hz : t.2.2.2.2.2.1 = u.2.2.2.2.2.1) : ∀ (d i k : Nat), i + d = 20 → d < k → lp_L_same_4 t u k 1 (nI i) = some 1 := by
  intro d
  induction d with
  | zero =>
    intro i k hi hk
    obtain ⟨k, rfl⟩ : ∃ k', k = k' + 1 := ⟨k - 1, by omega⟩
    have : i = 20 := by omega
    subst this
    simp only [lp_L_same_4]
    rw [if_pos (show (20 : Int32) ≤ nI 20 by decide)]
    exact sm2 h hu 8 0 fuel rfl (by decide)
  | succ d ih =>
    intro i k hi hk
    obtain ⟨k, rfl⟩ : ∃ k', k = k' + 1 := ⟨k - 1, by omega⟩
    simp only [lp_L_same_4]
    rw [if_neg (show ¬ (20 : Int32) ≤ nI i from nI_ge (b := 20) (by omega) (by decide)), if_neg n10]
    by_cases c : nI i = 19
    · rw [if_pos c, nI_s]
      exact ih (i + 1) k (by omega) (by omega)
    · have c' : i ≠ 19 := fun e => c (by rw [e]; rfl)
      obtain ⟨r1, e1⟩ := tot_count h (i := i) (by omega)
      rw [if_neg c, cg_count hu hz c, e1, ob1_some, ob1_some, if_pos rfl, nI_s]
      exact ih (i + 1) k (by omega) (by omega)
theorem same_ok {R : Nat} (h0 : IV R t.1) (hu : t.1 = u.1) (hz : t.2.2.2.2.2.1 = u.2.2.2.2.2.1) : d_L_same t u = some 1 := by
  obtain ⟨fT, fR, fA, fS, fE, ri, hd, ln, rnd, nR, nA, n, q, hnR, h⟩ := h0.nx
  exact sm1 h hu hz 20 0 fuel rfl (by decide)
end SAME
