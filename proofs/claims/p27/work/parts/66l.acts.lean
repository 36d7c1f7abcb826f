/-! part 66l: the same act on both trades -/
section ACTS
variable {R R1 R' : Nat} {t u t' u' : Td} {r : Int32} {a b : Option (Int32 × Td)}
theorem LO.of6 (h : LO t) (e : rs6 t' = rs6 t) : LO t' := by
  obtain ⟨L, h1, h2⟩ := h
  have e' : LN t' = LN t := congrArg (fun x : (Nat → Int32) × (Nat → Int32) × Int32 × Int32 × Int32 × Int32 × Int32 × Int32 × Int32 => x.2.2.2.1) e
  exact ⟨L, h1, e'.trans h2⟩
theorem fin6 (e1 : a = some (r, t')) (e2 : b = some (r, u')) (g1 : TV R1 t') (hR : R1 ≤ R') (g2 : SR t' u') (g3 : rs6 t' = rs6 t) (g4 : rs6 u' = rs6 u) (hl : LO t) (hl' : LO u) : RES R' (ob2 a fun r t => some (r, t)) (ob2 b fun r t => some (r, t)) := by
  subst e1; subst e2
  exact ⟨r, t', u', rfl, rfl, g1.mono hR, g2, hl.of6 g3, hl'.of6 g4⟩
theorem y_132 (hT : TV R t) (hS : SR t u) (hl : LO t) (hl' : LO u) (p1 x2 : Int32) : RES (R + 36) (j_L_acts_132 p1 x2 t) (j_L_acts_132 p1 x2 u) := by
  unfold j_L_acts_132
  obtain ⟨r, t', u', e1, e2, g1, g2, g3, g4, -⟩ := tk_ask hT hS (x2 - x2 / 8 * 8) (1 + ((x2 / 8) - (x2 / 8) / 50 * 50)) ((x2 / 512) - (x2 / 512) / 3 * 3)
  exact fin6 e1 e2 g1 (by omega) g2 g3 g4 hl hl'
theorem y_169 (hT : TV R t) (hS : SR t u) (hl : LO t) (hl' : LO u) (p1 x2 : Int32) : RES (R + 36) (j_L_acts_169 p1 x2 t) (j_L_acts_169 p1 x2 u) := by
  unfold j_L_acts_169
  by_cases c : (x2 - x2 / 4 * 4) = 3
  · rw [if_pos c, if_pos c]
    obtain ⟨r, t', u', e1, e2, g1, g2, g3, g4, -⟩ := tk_set hT hS (x2 - x2 / 4 * 4) ((x2 / 4) - (x2 / 4) / 300 * 300)
    exact fin6 e1 e2 g1 (by omega) g2 g3 g4 hl hl'
  · rw [if_neg c, if_neg c]
    obtain ⟨r, t', u', e1, e2, g1, g2, g3, g4, -⟩ := tk_set hT hS (x2 - x2 / 4 * 4) (1 + ((x2 / 4) - (x2 / 4) / 9 * 9))
    exact fin6 e1 e2 g1 (by omega) g2 g3 g4 hl hl'
theorem y_202 (hT : TV R t) (hS : SR t u) (hl : LO t) (hl' : LO u) (p1 : Int32) {Y : Nat} (hY : Y < 2 ^ 31) : RES (R + 36) (j_L_acts_202 p1 (nI Y) t) (j_L_acts_202 p1 (nI Y) u) := by
  unfold j_L_acts_202
  have hm := Nat.mod_lt Y (show 0 < 4 by decide)
  rw [nI_mod4 hY, show (1 : Int32) = nI 1 from rfl, nJ_add]
  obtain ⟨r, t', u', e1, e2, g1, g2, g3, g4, -⟩ := tk_pass hT hS (K := 4) (by decide) (p := nI (1 + Y % 4)) (by rw [nI_toInt (by omega)]; omega)
  exact fin6 e1 e2 g1 (by omega) g2 g3 g4 hl hl'
theorem y_212 (hT : TV R t) (hS : SR t u) (hl : LO t) (hl' : LO u) (p1 : Int32) : RES (R + 36) (j_L_acts_212 p1 t) (j_L_acts_212 p1 u) := by
  unfold j_L_acts_212
  obtain ⟨r, t', u', e1, e2, g1, g2, g3, g4⟩ := tk_undo hT hS
  exact fin6 e1 e2 g1 (by omega) g2 g3 g4 hl hl'
theorem y_227 (hT : TV R t) (hS : SR t u) (hl : LO t) (hl' : LO u) (p1 : Int32) {Y : Nat} (hY : Y < 2 ^ 31) : RES (R + 36) (j_L_acts_227 p1 (nI Y) t) (j_L_acts_227 p1 (nI Y) u) := by
  unfold j_L_acts_227
  rw [tk_clear, tk_clear, ob2_some, ob2_some]
  obtain ⟨h1, h2, h3, h4, h5, h6, h7, h8⟩ := hS
  have hm := Nat.mod_lt Y (show 0 < 4 by decide)
  exact ty_loop hY (1 + Y % 4) 0 fuel _ _ 0 _ _ (by omega) (k_fuel (by omega)) ⟨hT, ⟨h1, h2, h3, h4, h5, h6, h7, h8⟩, rfl, rfl⟩ (Nat.le_refl _) (fun i hi => absurd hi (by omega)) (Nat.le_refl _) (Or.inr rfl)
theorem y_28 (hT : TV R t) (hS : SR t u) (hl : LO t) (hl' : LO u) (p1 x4 : Int32) {Y : Nat} (hY : Y < 2 ^ 31) (hq : ∃ v, q_riddle x4 2 t = some v ∧ q_riddle x4 2 u = some v) : RES (R + 36) (j_L_acts_28 p1 (nI Y) x4 t) (j_L_acts_28 p1 (nI Y) x4 u) := by
  unfold j_L_acts_28
  by_cases c : (p1 - p1 / 32 * 32) = 0
  · rw [if_pos c, if_pos c]
    exact y_132 hT hS hl hl' p1 (nI Y)
  rw [if_neg c, if_neg c]
  clear c
  by_cases c : (p1 - p1 / 32 * 32) = 1
  · rw [if_pos c, if_pos c]
    exact y_132 hT hS hl hl' p1 (nI Y)
  rw [if_neg c, if_neg c]
  clear c
  by_cases c : (p1 - p1 / 32 * 32) = 2
  · rw [if_pos c, if_pos c]
    exact y_132 hT hS hl hl' p1 (nI Y)
  rw [if_neg c, if_neg c]
  clear c
  by_cases c : (p1 - p1 / 32 * 32) = 3
  · rw [if_pos c, if_pos c]
    exact y_132 hT hS hl hl' p1 (nI Y)
  rw [if_neg c, if_neg c]
  clear c
  by_cases c : (p1 - p1 / 32 * 32) = 4
  · rw [if_pos c, if_pos c]
    exact y_132 hT hS hl hl' p1 (nI Y)
  rw [if_neg c, if_neg c]
  clear c
  by_cases c : (p1 - p1 / 32 * 32) = 5
  · rw [if_pos c, if_pos c]
    exact y_132 hT hS hl hl' p1 (nI Y)
  rw [if_neg c, if_neg c]
  clear c
  by_cases c : (p1 - p1 / 32 * 32) = 6
  · rw [if_pos c, if_pos c]
    obtain ⟨r, t', u', e1, e2, g1, g2, g3, g4, -⟩ := tk_withdraw hT hS x4
    exact fin6 e1 e2 g1 (by omega) g2 g3 g4 hl hl'
  rw [if_neg c, if_neg c]
  clear c
  by_cases c : (p1 - p1 / 32 * 32) = 7
  · rw [if_pos c, if_pos c]
    obtain ⟨r, t', u', e1, e2, g1, g2, g3, g4, -⟩ := tk_adjust hT hS
    exact fin6 e1 e2 g1 (by omega) g2 g3 g4 hl hl'
  rw [if_neg c, if_neg c]
  clear c
  by_cases c : (p1 - p1 / 32 * 32) = 8
  · rw [if_pos c, if_pos c]
    exact y_169 hT hS hl hl' p1 (nI Y)
  rw [if_neg c, if_neg c]
  clear c
  by_cases c : (p1 - p1 / 32 * 32) = 9
  · rw [if_pos c, if_pos c]
    exact y_169 hT hS hl hl' p1 (nI Y)
  rw [if_neg c, if_neg c]
  clear c
  by_cases c : (p1 - p1 / 32 * 32) = 10
  · rw [if_pos c, if_pos c]
    exact y_202 hT hS hl hl' p1 hY
  rw [if_neg c, if_neg c]
  clear c
  by_cases c : (p1 - p1 / 32 * 32) = 11
  · rw [if_pos c, if_pos c]
    exact y_202 hT hS hl hl' p1 hY
  rw [if_neg c, if_neg c]
  clear c
  by_cases c : (p1 - p1 / 32 * 32) = 12
  · rw [if_pos c, if_pos c]
    exact y_202 hT hS hl hl' p1 hY
  rw [if_neg c, if_neg c]
  clear c
  by_cases c : (p1 - p1 / 32 * 32) = 13
  · rw [if_pos c, if_pos c]
    exact y_202 hT hS hl hl' p1 hY
  rw [if_neg c, if_neg c]
  clear c
  by_cases c : (p1 - p1 / 32 * 32) = 14
  · rw [if_pos c, if_pos c]
    exact y_212 hT hS hl hl' p1
  rw [if_neg c, if_neg c]
  clear c
  by_cases c : (p1 - p1 / 32 * 32) = 15
  · rw [if_pos c, if_pos c]
    exact y_212 hT hS hl hl' p1
  rw [if_neg c, if_neg c]
  clear c
  by_cases c : (p1 - p1 / 32 * 32) = 16
  · rw [if_pos c, if_pos c]
    obtain ⟨r, t', u', e1, e2, g1, g2, g3, g4⟩ := tk_keep hT hS
    rw [e1, e2, ob2_some, ob2_some]
    obtain ⟨L, k1, k2⟩ := hl
    obtain ⟨M, m1, m2⟩ := hl'
    exact ⟨r, t', u', rfl, rfl, g1.mono (by omega), g2, ⟨L, k1, g3.trans k2⟩, ⟨M, m1, g4.trans m2⟩⟩
  rw [if_neg c, if_neg c]
  clear c
  by_cases c : (p1 - p1 / 32 * 32) = 17
  · rw [if_pos c, if_pos c]
    obtain ⟨r, t', u', e1, e2, g1, g2, g3, g4⟩ := tk_restore hT hS
    exact fin6 e1 e2 g1 (by omega) g2 g3 g4 hl hl'
  rw [if_neg c, if_neg c]
  clear c
  by_cases c : (p1 - p1 / 32 * 32) = 18
  · rw [if_pos c, if_pos c]
    exact y_227 hT hS hl hl' p1 hY
  rw [if_neg c, if_neg c]
  clear c
  by_cases c : (p1 - p1 / 32 * 32) = 19
  · rw [if_pos c, if_pos c]
    exact y_227 hT hS hl hl' p1 hY
  rw [if_neg c, if_neg c]
  clear c
  by_cases c : (p1 - p1 / 32 * 32) = 20
  · rw [if_pos c, if_pos c]
    exact y_227 hT hS hl hl' p1 hY
  rw [if_neg c, if_neg c]
  clear c
  by_cases c : ((nI Y / 256) - (nI Y / 256) / 4 * 4) ≤ 0
  · rw [if_pos c, if_pos c]
    obtain ⟨r, t', u', e1, e2, g1, g2, g3, g4, -⟩ := tk_deliver hT hS (nI Y - nI Y / 8 * 8) x4 ((nI Y / 1024) - (nI Y / 1024) / 4 * 4) (1 + ((nI Y / 4096) - (nI Y / 4096) / 99 * 99))
    exact fin6 e1 e2 g1 (by omega) g2 g3 g4 hl hl'
  · rw [if_neg c, if_neg c]
    obtain ⟨v, v1, v2⟩ := hq
    rw [v1, v2, ob1_some, ob1_some]
    obtain ⟨r, t', u', e1, e2, g1, g2, g3, g4, -⟩ := tk_deliver hT hS (nI Y - nI Y / 8 * 8) x4 v (1 + ((nI Y / 4096) - (nI Y / 4096) / 99 * 99))
    exact fin6 e1 e2 g1 (by omega) g2 g3 g4 hl hl'
theorem acts_ok (hT : TV R t) (hS : SR t u) (hl : LO t) (hl' : LO u) {C : Nat} (hC : C < 2 ^ 31) : RES (R + 36) (d_L_acts (nI C) t) (d_L_acts (nI C) u) := by
  have hT' := hT
  obtain ⟨fT, fR, fA, fS, fE, ri, hd, ln, rnd, nR, nA, n, q, hn, nx⟩ := IV.nx hT'.1
  have nu : NX u fT fR fA fS fE ri hd ln rnd nR nA n q := ⟨hS.1 ▸ nx.1, nx.2⟩
  have hr := bR nx
  unfold d_L_acts
  rw [v_c1 nx, v_c1 nu, ob1_some, ob1_some, dv_l (m := C) (k := 32) (K := 32) rfl hC (by decide)]
  have hY : C / 32 < 2 ^ 31 := Nat.lt_of_le_of_lt (Nat.div_le_self _ _) hC
  by_cases c : (1 : Int32) ≤ nI nR
  · have c' : 1 ≤ nR := (nI_le_iff (a := 1) (by decide) (by omega)).mp c
    rw [if_pos c, if_pos c, dr_l (a := 8) (A := 8) (K := nR) rfl rfl hY (by decide) (by omega)]
    have hx := Nat.mod_lt (C / 32 / 8) c'
    exact y_28 hT hS hl hl' _ _ hY ⟨_, v_rd nx hx (c := 2) (by decide), v_rd nu hx (c := 2) (by decide)⟩
  · rw [if_neg c, if_neg c]
    have c' : nR = 0 := by
      rcases Nat.eq_zero_or_pos nR with z | z
      · exact z
      · exact absurd (nI_le (a := 1) z (by omega)) c
    subst c'
    refine y_28 hT hS hl hl' _ _ hY ⟨-1, ?_, ?_⟩
    · rw [qv_riddle, nx.1]; rfl
    · rw [qv_riddle, nu.1]; rfl
end ACTS
