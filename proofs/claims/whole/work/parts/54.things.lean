/-! part 54: the things of the text, on both sides -/
def RowG (p : Nat) (fG : F_) (k f1 f2 f3 f4 : Int32) : Prop :=
  (k = 114 ∧ fG (5 * p) = 0 ∧ fG (5 * p + 1) = f1 ∧ fG (5 * p + 2) = f2 ∧ fG (5 * p + 3) = f3) ∨
  (k = 97 ∧ fG (5 * p) = 1 ∧ fG (5 * p + 1) = f1 ∧ fG (5 * p + 2) = f2 ∧ fG (5 * p + 3) = f3 ∧ fG (5 * p + 4) = f4) ∨
  (k = 46 ∧ fG (5 * p) = 2 ∧ fG (5 * p + 1) = f1)
theorem e_sign_bad {mt : F_} {ml c spot : Int32} : d_X6_sign c mt ml spot 1 = some (spot, 1) := by
  unfold d_X6_sign j_X6_sign_35
  rw [if_neg n10, if_neg n10, Int32.add_zero]
theorem e_j94_bad {mt : F_} {L i : Nat} {k x1 x2 x3 x4 : Int32} (hL : L ≤ 60) (hi : i ≤ L) (h1 : k ≠ 46) (h2 : k ≠ 114) (h3 : k ≠ 97) : j_X6_thing_94 mt (nI L) (nI i) 1 k x1 x2 x3 x4 = some (nI i, 1, k, 0, 0, 0, x4) := by
  unfold j_X6_thing_94
  rw [if_neg h1, e_numberM_bad hL hi, ob3_some, e_sign_bad, ob2_some, if_neg h2, e_numberM_bad hL hi, ob3_some]
  unfold j_X6_thing_162
  rw [e_sign_bad, ob2_some, e_numberM_bad hL hi, ob3_some, if_neg h3]
theorem e_thing_in {mt : F_} {L i : Nat} {kd x1 x2 x3 x4 : Int32} (hL : L ≤ 60) (hi : i < L) : d_X6_thing mt (nI L) (nI i) 0 kd x1 x2 x3 x4 =
    if mt i = 114 then j_X6_thing_94 mt (nI L) (nI (i + 1)) 0 (mt i) x1 x2 x3 x4 else if mt i = 97 then j_X6_thing_94 mt (nI L) (nI (i + 1)) 0 (mt i) x1 x2 x3 x4 else if mt i = 46 then j_X6_thing_94 mt (nI L) (nI (i + 1)) 0 (mt i) x1 x2 x3 x4 else j_X6_thing_94 mt (nI L) (nI i) 1 (mt i) x1 x2 x3 x4 := by
  have ne : ¬ nI i = nI L := fun x => by
    have := (nI_inj (by omega) (by omega)).mp x
    omega
  unfold d_X6_thing j_X6_thing_19 j_X6_thing_73
  rw [if_pos rfl, e_next_in hL hi, ob1_some]
  simp only [if_true, if_neg n10, if_neg ne, nI_s, Int32.add_zero]
theorem e_thing_out {mt : F_} {L : Nat} {kd x1 x2 x3 x4 : Int32} (hL : L ≤ 60) : d_X6_thing mt (nI L) (nI L) 0 kd x1 x2 x3 x4 = some (nI L, 1, 0, 0, 0, 0, x4) := by
  unfold d_X6_thing j_X6_thing_19 j_X6_thing_73
  rw [if_pos rfl, e_next_out (Nat.le_refl _) (by omega), ob1_some, if_pos rfl, if_pos rfl, if_neg n10, Int32.add_zero, e_j94_bad hL (Nat.le_refl _) (by decide) (by decide) (by decide)]
theorem e_readThing_no {ft fG : F_} {p len pos b c : Int32} (h : d_X2_here ft len pos b = some c) (h1 : c ≠ 46) (h2 : c ≠ 97) (h3 : c ≠ 114) : d_X2_readThing p ft fG len pos b = some (fG, pos, 1) := by
  unfold d_X2_readThing
  rw [h, ob1_some, if_neg h1, if_neg h2, if_neg h3]
theorem sync_thing {ft mt fG : F_} {len ml : Int32} {L i p : Nat} (T : TX ft len mt ml L) (hi : i ≤ L) (hp : p < 30) :
    ∃ (fG' : F_) (i' : Nat) (b' : Int32), d_X2_readThing (nI p) ft fG len (nI i) 0 = some (fG', nI i', b') ∧ (b' = 0 ∨ b' = 1) ∧ i' ≤ L ∧ (b' = 0 → i + 2 ≤ i') ∧ (∀ j, j < 5 * p ∨ 5 * p + 4 < j → fG' j = fG j) ∧
      ∀ kd x1 x2 x3 x4, ∃ k f1 f2 f3 f4, d_X6_thing mt ml (nI i) 0 kd x1 x2 x3 x4 = some (nI i', b', k, f1, f2, f3, f4) ∧ (b' = 0 → RowG p fG' k f1 f2 f3 f4) := by
  have T0 := T
  obtain ⟨hL, rfl, rfl, ht⟩ := T
  have no : ∀ {A : Prop}, (1 : Int32) = 0 → A := fun x => absurd x n10
  by_cases e : i < L
  · have hh := e_here_in (ft := ft) hL e
    by_cases c46 : ft i = 46
    · obtain ⟨v1, g1, i1, b1, k1, k2, k3, k4, k5, k6, k7⟩ := sync_number (pI := nI p) (cI := 1) (least := 1) (most := 99) (l := 1) (m := 99) (k := 5 * p + 1) (fG := upd fG (5 * p) 2) (i := i + 1) (b := 0) T0 (by omega) (Or.inl rfl) rfl rfl (by decide) (by decide) (by decide) (fun v => putG1 hp)
      refine ⟨g1, i1, b1, ?_, k3, k5, fun z => by have := (k6 z).2.1; omega, fun j hj => by rw [k7 j (by omega), upd_ne (by omega)], fun kd x1 x2 x3 x4 => ⟨46, v1, x2, x3, x4, ?_, fun z => Or.inr (Or.inr ⟨rfl, ?_, ?_⟩)⟩⟩
      · unfold d_X2_readThing
        rw [hh, ob1_some, if_pos c46, putG0 hp, ob1_some, nI_s, k1, ob3_some]
      · rw [e_thing_in hL e, ht i e, c46, if_neg (by decide), if_neg (by decide), if_pos rfl]
        unfold j_X6_thing_94
        rw [if_pos rfl, k2, ob3_some]
      · rw [(k6 z).2.2, upd_ne (by omega), upd_self]
      · rw [(k6 z).2.2, upd_self]
    by_cases c97 : ft i = 97
    · obtain ⟨v1, g1, i1, b1, k1, k2, k3, k4, k5, k6, k7⟩ := sync_number (pI := nI p) (cI := 1) (least := 0) (most := 7) (l := 0) (m := 7) (k := 5 * p + 1) (fG := upd fG (5 * p) 1) (i := i + 1) (b := 0) T0 (by omega) (Or.inl rfl) rfl rfl (by decide) (by decide) (by decide) (fun v => putG1 hp)
      obtain ⟨j1, c1, m1, m2, m3, m4, m5, m6⟩ := sync_expect 58 (by decide) T0 k5 k3
      obtain ⟨v2, g2, i2, b2, q1, q2, q3, q4, q5, q6, q7⟩ := sync_number (pI := nI p) (cI := 2) (least := 0) (most := 19) (l := 0) (m := 19) (k := 5 * p + 2) (fG := g1) T0 m5 m3 rfl rfl (by decide) (by decide) (by decide) (fun v => putG2 hp)
      obtain ⟨j2, c2, r1, r2, r3, r4, r5, r6⟩ := sync_expect 61 (by decide) T0 q5 q3
      obtain ⟨v3, g3, i3, b3, s1, s2, s3, s4, s5, s6, s7⟩ := sync_number (pI := nI p) (cI := 3) (least := 0) (most := 99) (l := 0) (m := 99) (k := 5 * p + 3) (fG := g2) T0 r5 r3 rfl rfl (by decide) (by decide) (by decide) (fun v => putG3 hp)
      obtain ⟨j3, c3, t1, t2, t3, t4, t5, t6⟩ := sync_expect 42 (by decide) T0 s5 s3
      obtain ⟨v4, g4, i4, b4, u1, u2, u3, u4, u5, u6, u7⟩ := sync_number (pI := nI p) (cI := 4) (least := 1) (most := 99) (l := 1) (m := 99) (k := 5 * p + 4) (fG := g3) T0 t5 t3 rfl rfl (by decide) (by decide) (by decide) (fun v => putG4 hp)
      refine ⟨g4, i4, b4, ?_, u3, u5, fun z => by have := (u6 z).2.1; omega, fun j hj => by rw [u7 j (by omega), s7 j (by omega), q7 j (by omega), k7 j (by omega), upd_ne (by omega)], fun kd x1 x2 x3 x4 => ⟨97, v1, v2, v3, v4, ?_, fun z => ?_⟩⟩
      · unfold d_X2_readThing
        rw [hh, ob1_some, if_neg c46, if_pos c97, putG0 hp, ob1_some, nI_s, k1, ob3_some, m1, ob2_some, q1, ob3_some, r1, ob2_some, s1, ob3_some, t1, ob2_some, u1, ob3_some]
      · rw [e_thing_in hL e, ht i e, c97, if_neg (by decide), if_pos rfl]
        unfold j_X6_thing_94
        rw [if_neg (by decide), k2, ob3_some, m2, ob2_some, if_neg (by decide), q2, ob3_some]
        unfold j_X6_thing_162
        rw [r2, ob2_some, s2, ob3_some, if_pos rfl, t2, ob2_some, u2, ob3_some]
      · obtain ⟨z1, -, e4⟩ := u6 z
        obtain ⟨z2, -⟩ := t6 z1
        obtain ⟨z3, -, e3⟩ := s6 z2
        obtain ⟨z4, -⟩ := r6 z3
        obtain ⟨z5, -, e2⟩ := q6 z4
        obtain ⟨z6, -⟩ := m6 z5
        obtain ⟨-, -, e1⟩ := k6 z6
        refine Or.inr (Or.inl ⟨rfl, ?_, ?_, ?_, ?_, ?_⟩)
        · rw [e4, upd_ne (by omega), e3, upd_ne (by omega), e2, upd_ne (by omega), e1, upd_ne (by omega), upd_self]
        · rw [e4, upd_ne (by omega), e3, upd_ne (by omega), e2, upd_ne (by omega), e1, upd_self]
        · rw [e4, upd_ne (by omega), e3, upd_ne (by omega), e2, upd_self]
        · rw [e4, upd_ne (by omega), e3, upd_self]
        · rw [e4, upd_self]
    by_cases c114 : ft i = 114
    · obtain ⟨v1, g1, i1, b1, k1, k2, k3, k4, k5, k6, k7⟩ := sync_number (pI := nI p) (cI := 1) (least := 0) (most := 7) (l := 0) (m := 7) (k := 5 * p + 1) (fG := upd fG (5 * p) 0) (i := i + 1) (b := 0) T0 (by omega) (Or.inl rfl) rfl rfl (by decide) (by decide) (by decide) (fun v => putG1 hp)
      obtain ⟨j1, c1, m1, m2, m3, m4, m5, m6⟩ := sync_expect 58 (by decide) T0 k5 k3
      obtain ⟨v2, g2, i2, b2, q1, q2, q3, q4, q5, q6, q7⟩ := sync_number (pI := nI p) (cI := 2) (least := 1) (most := 50) (l := 1) (m := 50) (k := 5 * p + 2) (fG := g1) T0 m5 m3 rfl rfl (by decide) (by decide) (by decide) (fun v => putG2 hp)
      obtain ⟨j2, c2, r1, r2, r3, r4, r5, r6⟩ := sync_expect 61 (by decide) T0 q5 q3
      obtain ⟨v3, g3, i3, b3, s1, s2, s3, s4, s5, s6, s7⟩ := sync_number (pI := nI p) (cI := 3) (least := 0) (most := 99) (l := 0) (m := 99) (k := 5 * p + 3) (fG := g2) T0 r5 r3 rfl rfl (by decide) (by decide) (by decide) (fun v => putG3 hp)
      refine ⟨g3, i3, b3, ?_, s3, s5, fun z => by have := (s6 z).2.1; omega, fun j hj => by rw [s7 j (by omega), q7 j (by omega), k7 j (by omega), upd_ne (by omega)], fun kd x1 x2 x3 x4 => ⟨114, v1, v2, v3, x4, ?_, fun z => ?_⟩⟩
      · unfold d_X2_readThing
        rw [hh, ob1_some, if_neg c46, if_neg c97, if_pos c114, putG0 hp, ob1_some, nI_s, k1, ob3_some, m1, ob2_some, q1, ob3_some, r1, ob2_some, s1, ob3_some]
      · rw [e_thing_in hL e, ht i e, c114, if_pos rfl]
        unfold j_X6_thing_94
        rw [if_neg (by decide), k2, ob3_some, m2, ob2_some, if_pos rfl, q2, ob3_some]
        unfold j_X6_thing_162
        rw [r2, ob2_some, s2, ob3_some, if_neg (by decide)]
      · obtain ⟨z3, -, e3⟩ := s6 z
        obtain ⟨z4, -⟩ := r6 z3
        obtain ⟨z5, -, e2⟩ := q6 z4
        obtain ⟨z6, -⟩ := m6 z5
        obtain ⟨-, -, e1⟩ := k6 z6
        refine Or.inl ⟨rfl, ?_, ?_, ?_, ?_⟩
        · rw [e3, upd_ne (by omega), e2, upd_ne (by omega), e1, upd_ne (by omega), upd_self]
        · rw [e3, upd_ne (by omega), e2, upd_ne (by omega), e1, upd_self]
        · rw [e3, upd_ne (by omega), e2, upd_self]
        · rw [e3, upd_self]
    refine ⟨fG, i, 1, e_readThing_no hh c46 c97 c114, Or.inr rfl, hi, no, fun _ _ => rfl, fun kd x1 x2 x3 x4 => ⟨ft i, 0, 0, 0, x4, ?_, no⟩⟩
    rw [e_thing_in hL e, ht i e, if_neg c114, if_neg c97, if_neg c46, e_j94_bad hL hi c46 c114 c97]
  · have e' : i = L := by omega
    subst e'
    exact ⟨fG, i, 1, e_readThing_no (e_here_out (Nat.le_refl _) (by omega)) (by decide) (by decide) (by decide), Or.inr rfl, hi, no, fun _ _ => rfl, fun kd x1 x2 x3 x4 => ⟨0, 0, 0, 0, x4, e_thing_out hL, no⟩⟩
/-- thing p of the text, between two places, as the class has it in its table -/
def ThOK (mt : F_) (ml : Int32) (p i i' : Nat) (fG : F_) : Prop := ∀ kd x1 x2 x3 x4, ∃ k f1 f2 f3 f4, d_X6_thing mt ml (nI i) 0 kd x1 x2 x3 x4 = some (nI i', 0, k, f1, f2, f3, f4) ∧ RowG p fG k f1 f2 f3 f4
theorem RowG.fr {p : Nat} {fG fG' : F_} {k f1 f2 f3 f4 : Int32} (g : ∀ j, 5 * p ≤ j → j ≤ 5 * p + 4 → fG' j = fG j) (h : RowG p fG k f1 f2 f3 f4) : RowG p fG' k f1 f2 f3 f4 := by
  unfold RowG at h ⊢
  rw [g (5 * p) (by omega) (by omega), g (5 * p + 1) (by omega) (by omega), g (5 * p + 2) (by omega) (by omega), g (5 * p + 3) (by omega) (by omega), g (5 * p + 4) (by omega) (by omega)]
  exact h
def Tr (mt : F_) (ml : Int32) (ps : Nat → Nat) (n : Nat) (fG : F_) : Prop := ps 0 = 0 ∧ ∀ p, p < n → ∃ e, e + 1 = ps (p + 1) ∧ ThOK mt ml p (ps p) e fG
theorem e_th0 {mt : F_} {ml x1 sp w kd a1 a2 a3 a4 : Int32} (k : Nat) : lp_X6_things_14 mt ml (k + 1) x1 0 sp w kd a1 a2 a3 a4 = if w = 0 then some (x1, sp, w, kd, a1, a2, a3, a4) else some (-5, sp, w, kd, a1, a2, a3, a4) := by
  simp only [lp_X6_things_14]
  rw [if_pos trivial]
theorem e_th1 {mt : F_} {ml x1 sp kd a1 a2 a3 a4 sp' w' kd' y1 y2 y3 y4 : Int32} (k : Nat) (h : d_X6_thing mt ml sp 0 kd a1 a2 a3 a4 = some (sp', w', kd', y1, y2, y3, y4)) : lp_X6_things_14 mt ml (k + 1) x1 1 sp 0 kd a1 a2 a3 a4 =
    if w' = 0 then if ml ≤ sp' then lp_X6_things_14 mt ml k (x1 + 1) 0 sp' w' kd' y1 y2 y3 y4 else (ob2 (d_X6_sign 59 mt ml sp' w') fun sp2 w2 => if w2 = 0 then lp_X6_things_14 mt ml k (x1 + 1) 1 sp2 w2 kd' y1 y2 y3 y4 else lp_X6_things_14 mt ml k (x1 + 1) 0 sp2 w2 kd' y1 y2 y3 y4) else lp_X6_things_14 mt ml k (x1 + 1) 0 sp' w' kd' y1 y2 y3 y4 := by
  simp only [lp_X6_things_14]
  rw [if_neg n10, h, ob7_some]
  unfold j_X6_things_47 j_X6_things_49
  rw [if_pos rfl, if_neg n10]
theorem e_rd1 {ft fG fG' : F_} {len pos' b' : Int32} {m i : Nat} (k : Nat) (hm : m < 30) {b : Int32} (h : d_X2_readThing (nI m) ft fG len (nI i) b = some (fG', pos', b')) : lp_X2_read_19 ft len (k + 1) (nI m) fG (nI m) (nI i) b =
    if b' = 0 then if pos' = len then some (-1, fG', nI (m + 1), pos', b') else (ob2 (d_X2_expect 59 ft len pos' b') fun p2 b2 => lp_X2_read_19 ft len k (nI (m + 1)) fG' (nI (m + 1)) p2 b2) else some (pos', fG', nI (m + 1), pos', b') := by
  simp only [lp_X2_read_19]
  rw [if_neg (show ¬ (30 : Int32) ≤ nI m from nI_ge (b := 30) hm (by decide)), e_addRow, tb2_mk, h, ob3_some, nI_s]
theorem sync_read {ft mt : F_} {len ml : Int32} {L : Nat} (T : TX ft len mt ml L) : ∀ (d m i kc km : Nat) (fG : F_) (ps : Nat → Nat) (kd x1 x2 x3 x4 : Int32), L - i ≤ d → i ≤ L → 3 * m ≤ i → d + 2 < kc → d + 2 < km → Tr mt ml ps m fG → ps m = i →
    (∃ (n : Nat) (fG' : F_) (ps' : Nat → Nat) (y0 y1 y2 y3 y4 : Int32), n ≤ 30 ∧ lp_X2_read_19 ft len kc (nI m) fG (nI m) (nI i) 0 = some (-1, fG', nI n, nI L, 0) ∧ lp_X6_things_14 mt ml km (nI m) 1 (nI i) 0 kd x1 x2 x3 x4 = some (nI n, nI L, 0, y0, y1, y2, y3, y4) ∧ Tr mt ml ps' n fG') ∨
    (∃ (i' : Nat) (fG' : F_) (rG' pos' bad' y0 y1 y2 y3 y4 : Int32), i' ≤ L ∧ lp_X2_read_19 ft len kc (nI m) fG (nI m) (nI i) 0 = some (nI i', fG', rG', pos', bad') ∧ lp_X6_things_14 mt ml km (nI m) 1 (nI i) 0 kd x1 x2 x3 x4 = some (-5, nI i', 1, y0, y1, y2, y3, y4)) := by
  intro d
  induction d with
  | zero =>
    intro m i kc km fG ps kd x1 x2 x3 x4 h1 h2 h3 h4 h5 h6 h7
    obtain ⟨kc, rfl⟩ : ∃ k', kc = k' + 1 := ⟨kc - 1, by omega⟩
    obtain ⟨km, rfl⟩ : ∃ k', km = k' + 1 + 1 := ⟨km - 2, by omega⟩
    have hL := T.1
    have e : i = L := by omega
    subst e
    obtain ⟨fG', i', b', a1, a2, a3, a4, a5, a6⟩ := sync_thing (fG := fG) (p := m) T (Nat.le_refl i) (by omega)
    obtain ⟨k, f1, f2, f3, f4, u1, u2⟩ := a6 kd x1 x2 x3 x4
    rw [e_rd1 kc (by omega) a1, e_th1 _ u1]
    rcases a2 with rfl | rfl
    · have := a4 rfl; omega
    · rw [if_neg n10, if_neg n10, e_th0, if_neg n10]
      exact Or.inr ⟨i', _, _, _, _, _, _, _, _, _, a3, rfl, rfl⟩
  | succ d ih =>
    intro m i kc km fG ps kd x1 x2 x3 x4 h1 h2 h3 h4 h5 h6 h7
    obtain ⟨kc, rfl⟩ : ∃ k', kc = k' + 1 + 1 := ⟨kc - 2, by omega⟩
    obtain ⟨km, rfl⟩ : ∃ k', km = k' + 1 + 1 := ⟨km - 2, by omega⟩
    have hL := T.1
    have hlen := T.2.1
    have hml := T.2.2.1
    obtain ⟨fG', i', b', a1, a2, a3, a4, a5, a6⟩ := sync_thing (fG := fG) (p := m) T h2 (by omega)
    obtain ⟨k, f1, f2, f3, f4, u1, u2⟩ := a6 kd x1 x2 x3 x4
    rw [e_rd1 _ (by omega) a1, e_th1 _ u1]
    rcases a2 with rfl | rfl
    · have hi2 := a4 rfl
      have trm : ∀ p, p < m → ∃ e, e + 1 = ps (p + 1) ∧ ThOK mt ml p (ps p) e fG' := fun p hp => by
        obtain ⟨e, e1, e2⟩ := h6.2 p hp
        refine ⟨e, e1, fun kd x1 x2 x3 x4 => ?_⟩
        obtain ⟨k, f1, f2, f3, f4, v1, v2⟩ := e2 kd x1 x2 x3 x4
        exact ⟨k, f1, f2, f3, f4, v1, v2.fr fun j q1 q2 => a5 j (by omega)⟩
      have tok : ThOK mt ml m i i' fG' := fun kd x1 x2 x3 x4 => by
        obtain ⟨k, f1, f2, f3, f4, v1, v2⟩ := a6 kd x1 x2 x3 x4
        exact ⟨k, f1, f2, f3, f4, v1, v2 rfl⟩
      have tr' : Tr mt ml (fun p => if p ≤ m then ps p else i' + 1) (m + 1) fG' := by
        refine ⟨by show (if 0 ≤ m then ps 0 else i' + 1) = 0; rw [if_pos (Nat.zero_le m)]; exact h6.1, fun p hp => ?_⟩
        by_cases z : p = m
        · subst z
          refine ⟨i', by show i' + 1 = if p + 1 ≤ p then ps (p + 1) else i' + 1; rw [if_neg (by omega)], ?_⟩
          show ThOK mt ml p (if p ≤ p then ps p else i' + 1) i' fG'
          rw [if_pos (Nat.le_refl p), h7]
          exact tok
        · obtain ⟨e, e1, e2⟩ := trm p (by omega)
          refine ⟨e, by show e + 1 = if p + 1 ≤ m then ps (p + 1) else i' + 1; rw [if_pos (by omega)]; exact e1, ?_⟩
          show ThOK mt ml p (if p ≤ m then ps p else i' + 1) e fG'
          rw [if_pos (by omega)]
          exact e2
      rw [if_pos rfl, if_pos rfl]
      by_cases z : i' = L
      · subst z
        rw [hlen, hml, if_pos rfl, if_pos (Int32.le_refl _), e_th0, if_pos rfl, nI_s]
        exact Or.inl ⟨m + 1, fG', _, _, _, _, _, _, by omega, rfl, rfl, by rw [← hml]; exact tr'⟩
      · have ne : ¬ nI i' = len := fun x => by
          rw [hlen] at x
          exact z ((nI_inj (by omega) (by omega)).mp x)
        have nle : ¬ ml ≤ nI i' := by rw [hml]; exact nI_ge (by omega) (by omega)
        obtain ⟨j1, c1, m1, m2, m3, m4, m5, m6⟩ := sync_expect 59 (by decide) T a3 (Or.inl rfl)
        rw [if_neg ne, if_neg nle, m1, m2, ob2_some, ob2_some]
        rcases m3 with rfl | rfl
        · have hj1 := (m6 rfl).2
          rw [if_pos rfl, nI_s]
          exact ih (m + 1) j1 (kc + 1) (km + 1) fG' _ k f1 f2 f3 f4 (by omega) m5 (by omega) (by omega) (by omega) tr' (by show (if m + 1 ≤ m then ps (m + 1) else i' + 1) = j1; rw [if_neg (by omega)]; exact hj1.symm)
        · rw [if_neg n10, e_th0, if_neg n10, e_rd1 kc (by omega) (e_readThing_no e_here_bad (by decide) (by decide) (by decide)), if_neg n10]
          exact Or.inr ⟨j1, _, _, _, _, _, _, _, _, _, m5, rfl, rfl⟩
    · rw [if_neg n10, if_neg n10, e_th0, if_neg n10]
      exact Or.inr ⟨i', _, _, _, _, _, _, _, _, _, a3, rfl, rfl⟩
