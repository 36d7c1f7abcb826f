/-! part 66i: trades that have had the same calls -/
def SR (t u : Td) : Prop := t.1 = u.1 ∧ t.2.2.1 = u.2.2.1 ∧ t.2.2.2.1 = u.2.2.2.1 ∧ t.2.2.2.2.1 = u.2.2.2.2.1 ∧ t.2.2.2.2.2.1 = u.2.2.2.2.2.1 ∧ t.2.2.2.2.2.2.1 = u.2.2.2.2.2.2.1 ∧ t.2.2.2.2.2.2.2.1 = u.2.2.2.2.2.2.2.1 ∧ t.2.2.2.2.2.2.2.2.2.2.2.2.1 = u.2.2.2.2.2.2.2.2.2.2.2.2.1
theorem SR.refl (t : Td) : SR t t := ⟨rfl, rfl, rfl, rfl, rfl, rfl, rfl, rfl⟩
theorem SR.symm {t u : Td} (h : SR t u) : SR u t := ⟨h.1.symm, h.2.1.symm, h.2.2.1.symm, h.2.2.2.1.symm, h.2.2.2.2.1.symm, h.2.2.2.2.2.1.symm, h.2.2.2.2.2.2.1.symm, h.2.2.2.2.2.2.2.symm⟩
theorem SR.trans {t u v : Td} (h : SR t u) (g : SR u v) : SR t v := ⟨h.1.trans g.1, h.2.1.trans g.2.1, h.2.2.1.trans g.2.2.1, h.2.2.2.1.trans g.2.2.2.1, h.2.2.2.2.1.trans g.2.2.2.2.1, h.2.2.2.2.2.1.trans g.2.2.2.2.2.1, h.2.2.2.2.2.2.1.trans g.2.2.2.2.2.2.1, h.2.2.2.2.2.2.2.trans g.2.2.2.2.2.2.2⟩
def LN (t : Td) : Int32 := t.2.2.2.2.2.2.2.2.2.1
def LO (t : Td) : Prop := ∃ L, L ≤ 60 ∧ LN t = nI L
def TV (R : Nat) (t : Td) : Prop := IV R t.1 ∧ IV R t.2.2.1 ∧ (∀ k, IV R (t.2.2.2.1 k)) ∧ (∃ o, o < 4 ∧ t.2.2.2.2.1 = nI o) ∧ (∃ z, z ≤ 4 ∧ t.2.2.2.2.2.1 = nI z)
theorem TV.mono {R R' : Nat} {t : Td} (h : TV R t) (hR : R ≤ R') : TV R' t := ⟨h.1.mono hR, h.2.1.mono hR, fun k => (h.2.2.1 k).mono hR, h.2.2.2⟩
theorem TV.of {R : Nat} {t u : Td} (h : TV R t) (s : SR t u) : TV R u := by
  obtain ⟨s1, s2, s3, s4, s5, -⟩ := s
  obtain ⟨h1, h2, h3, h4, h5⟩ := h
  exact ⟨s1 ▸ h1, s2 ▸ h2, s3 ▸ h3, s4 ▸ h4, s5 ▸ h5⟩
theorem iv_upd {R : Nat} {N : Ex} {Hs : Nat → Ex} {m : Nat} (hN : IV R N) (hH : ∀ k, IV R (Hs k)) (k : Nat) : IV R (updE Hs m N k) := by
  by_cases e : k = m
  · subst e; rw [updE_self]; exact hN
  · rw [updE_ne e]; exact hH k
theorem rec_ok {R : Nat} {N : Ex} {Hs : Nat → Ex} {old sze : Int32} (hN : IV R N) (hH : ∀ k, IV R (Hs k)) (ho : ∃ o, o < 4 ∧ old = nI o) (hz : ∃ z, z ≤ 4 ∧ sze = nI z) : ∃ Hs' old' sze', d_X1_record N Hs old sze = (Hs', old', sze') ∧ (∀ k, IV R (Hs' k)) ∧ (∃ o, o < 4 ∧ old' = nI o) ∧ (∃ z, z ≤ 4 ∧ sze' = nI z) := by
  obtain ⟨o, ho, rfl⟩ := ho
  obtain ⟨z, hz, rfl⟩ := hz
  unfold d_X1_record
  by_cases c : z < 4
  · rw [if_pos (show nI z < 4 from nI_lt (b := 4) c (by decide)), e_j30 N Hs ho (by omega)]
    exact ⟨_, _, _, rfl, iv_upd hN hH, ⟨o, ho, rfl⟩, ⟨z + 1, by omega, rfl⟩⟩
  · have e : z = 4 := by omega
    subst e
    rw [if_neg (show ¬ nI 4 < 4 by decide), nI_s, nI_mod4 (by omega), show nI 4 - 1 = nI 3 from nI_pred 3, e_j30 N Hs (show (o + 1) % 4 < 4 by omega) (by decide)]
    exact ⟨_, _, _, rfl, iv_upd hN hH, ⟨(o + 1) % 4, by omega, rfl⟩, ⟨4, by decide, rfl⟩⟩
theorem fin_ok {R : Nat} {N T : Ex} {Hs : Nat → Ex} {old sze r : Int32} (hN : IV R N) (hH : ∀ k, IV R (Hs k)) (ho : ∃ o, o < 4 ∧ old = nI o) (hz : ∃ z, z ≤ 4 ∧ sze = nI z) (hr : r < 0 ∨ ∃ c, c < 2 ^ 31 ∧ r = nI c ∧ IV R T) :
    ∃ N' Hs' old' sze', d_X5_finishAct r N T Hs old sze = (r, N', Hs', old', sze') ∧ IV R N' ∧ (∀ k, IV R (Hs' k)) ∧ (∃ o, o < 4 ∧ old' = nI o) ∧ (∃ z, z ≤ 4 ∧ sze' = nI z) ∧ (r < 0 → N' = N ∧ Hs' = Hs ∧ old' = old ∧ sze' = sze) ∧ (¬ r < 0 → N' = T) := by
  by_cases c : r < 0
  · exact ⟨N, Hs, old, sze, e_finish_neg c N T Hs old sze, hN, hH, ho, hz, fun _ => ⟨rfl, rfl, rfl, rfl⟩, fun x => absurd c x⟩
  · obtain ⟨d, hd, rfl, hT⟩ := hr.resolve_left c
    obtain ⟨Hs', old', sze', g1, g2, g3, g4⟩ := rec_ok hN hH ho hz
    exact ⟨T, Hs', old', sze', e_finish hd g1, hT, g2, g3, g4, fun x => absurd x c, fun _ => rfl⟩
def rs6 (t : Td) : (Nat → Int32) × (Nat → Int32) × Int32 × Int32 × Int32 × Int32 × Int32 × Int32 × Int32 := t.2.2.2.2.2.2
theorem act6 {R R' : Nat} {t u : Td} (q : Td → Option (Int32 × Td)) (d : Ex → Ex → (Nat → Ex) → Int32 → Int32 → Option (Int32 × Ex × Ex × (Nat → Ex) × Int32 × Int32)) (hq : ∀ t : Td, q t = ob6 (d t.1 t.2.1 t.2.2.2.1 t.2.2.2.2.1 t.2.2.2.2.2.1) fun r0 N T Hs old sze => some (r0, (N, T, t.2.2.1, Hs, old, sze, t.2.2.2.2.2.2))) (hR : R ≤ R') (hT : TV R t) (hS : SR t u)
    (hd : ∃ r E, (∀ T Hs old sze, d t.1 T Hs old sze = tb5 (d_X5_finishAct r t.1 E Hs old sze) fun r N Hs old sze => some (r, N, E, Hs, old, sze)) ∧ (r < 0 ∨ ∃ c, c < 2 ^ 31 ∧ r = nI c ∧ IV R' E)) :
    ∃ r t' u', q t = some (r, t') ∧ q u = some (r, u') ∧ TV R' t' ∧ SR t' u' ∧ rs6 t' = rs6 t ∧ rs6 u' = rs6 u ∧ (r < 0 → SR t t') := by
  obtain ⟨r, E, h0, hr⟩ := hd
  obtain ⟨h1, h2, h3, h4, h5, h6, h7, h8⟩ := hS
  have hT' := hT.mono hR
  obtain ⟨N', Hs', old', sze', f, g1, g2, g3, g4, g5, -⟩ := fin_ok hT'.1 hT'.2.2.1 hT'.2.2.2.1 hT'.2.2.2.2 hr
  have kt : d t.1 t.2.1 t.2.2.2.1 t.2.2.2.2.1 t.2.2.2.2.2.1 = some (r, N', E, Hs', old', sze') := by rw [h0, f]; rfl
  have ku : d u.1 u.2.1 u.2.2.2.1 u.2.2.2.2.1 u.2.2.2.2.2.1 = some (r, N', E, Hs', old', sze') := by rw [← h1, ← h3, ← h4, ← h5, h0, f]; rfl
  refine ⟨r, (N', E, t.2.2.1, Hs', old', sze', t.2.2.2.2.2.2), (N', E, u.2.2.1, Hs', old', sze', u.2.2.2.2.2.2), by rw [hq, kt]; rfl, by rw [hq, ku]; rfl, ⟨g1, hT'.2.1, g2, g3, g4⟩, ⟨rfl, h2, rfl, rfl, rfl, h6, h7, h8⟩, rfl, rfl, fun hr => ?_⟩
  obtain ⟨y1, y2, y3, y4⟩ := g5 hr
  exact ⟨y1.symm, rfl, y2.symm, y3.symm, y4.symm, rfl, rfl, rfl⟩
section TRADE
variable {R : Nat} {t u : Td}
theorem tk_ask (hT : TV R t) (hS : SR t u) (p1 p2 p3 : Int32) : ∃ r t' u', q_ask p1 p2 p3 t = some (r, t') ∧ q_ask p1 p2 p3 u = some (r, u') ∧ TV R t' ∧ SR t' u' ∧ rs6 t' = rs6 t ∧ rs6 u' = rs6 u ∧ (r < 0 → SR t t') := by
  refine act6 (q_ask p1 p2 p3) (d_X5_ask p1 p2 p3) (fun _ => rfl) (Nat.le_refl R) hT hS ?_
  obtain ⟨r, fR, rR, e, hc⟩ := a_ask hT.1 p1 p2 p3
  refine ⟨r, _, fun T Hs old sze => ?_, hc⟩
  unfold d_X5_ask
  rw [e, ob3_some]
theorem tk_withdraw (hT : TV R t) (hS : SR t u) (p1 : Int32) : ∃ r t' u', q_withdraw p1 t = some (r, t') ∧ q_withdraw p1 u = some (r, u') ∧ TV R t' ∧ SR t' u' ∧ rs6 t' = rs6 t ∧ rs6 u' = rs6 u ∧ (r < 0 → SR t t') := by
  refine act6 (q_withdraw p1) (d_X5_withdraw p1) (fun _ => rfl) (Nat.le_refl R) hT hS ?_
  obtain ⟨r, fR, e, hc⟩ := a_withdraw hT.1 p1
  refine ⟨r, _, fun T Hs old sze => ?_, hc⟩
  unfold d_X5_withdraw
  rw [e, ob2_some]
theorem tk_deliver (hT : TV R t) (hS : SR t u) (p1 p2 p3 p4 : Int32) : ∃ r t' u', q_deliver p1 p2 p3 p4 t = some (r, t') ∧ q_deliver p1 p2 p3 p4 u = some (r, u') ∧ TV R t' ∧ SR t' u' ∧ rs6 t' = rs6 t ∧ rs6 u' = rs6 u ∧ (r < 0 → SR t t') := by
  refine act6 (q_deliver p1 p2 p3 p4) (d_X5_deliver p1 p2 p3 p4) (fun _ => rfl) (Nat.le_refl R) hT hS ?_
  obtain ⟨r, fA, rA, ri, ln, e, hc⟩ := a_deliver hT.1 p1 p2 p3 p4
  refine ⟨r, _, fun T Hs old sze => ?_, hc⟩
  unfold d_X5_deliver
  rw [e, ob5_some]
theorem tk_adjust (hT : TV R t) (hS : SR t u) : ∃ r t' u', q_adjust t = some (r, t') ∧ q_adjust u = some (r, u') ∧ TV R t' ∧ SR t' u' ∧ rs6 t' = rs6 t ∧ rs6 u' = rs6 u ∧ (r < 0 → SR t t') := by
  refine act6 q_adjust d_X5_adjust (fun _ => rfl) (Nat.le_refl R) hT hS ?_
  obtain ⟨r, fS, e, hc⟩ := a_adjust hT.1
  refine ⟨r, _, fun T Hs old sze => ?_, hc⟩
  unfold d_X5_adjust
  rw [e, ob2_some]
theorem tk_set (hT : TV R t) (hS : SR t u) (p1 p2 : Int32) : ∃ r t' u', q_set p1 p2 t = some (r, t') ∧ q_set p1 p2 u = some (r, u') ∧ TV R t' ∧ SR t' u' ∧ rs6 t' = rs6 t ∧ rs6 u' = rs6 u ∧ (r < 0 → SR t t') := by
  refine act6 (q_set p1 p2) (d_X5_set p1 p2) (fun _ => rfl) (Nat.le_refl R) hT hS ?_
  obtain ⟨r, fE, e, hc⟩ := a_set hT.1 p1 p2
  refine ⟨r, _, fun T Hs old sze => ?_, hc⟩
  unfold d_X5_set
  rw [e, ob2_some]
/-- rounds, of which no more than K pass -/
theorem a_passK {R K : Nat} {E : Ex} (h : IV R E) (hK : K ≤ 99) {p : Int32} (hp : p.toInt ≤ K) : ∃ (r : Int32) (fT fR fA fS ri : F_) (hd ln rnd : Int32), d_X0_playRounds p E.1 E.2.1 E.2.2.2.1 E.2.2.2.2.2.1 E.2.2.2.2.2.2.1 E.2.2.2.2.2.2.2.1 E.2.2.2.2.2.2.2.2.1 E.2.2.2.2.2.2.2.2.2.1 E.2.2.2.2.2.2.2.2.2.2 = some (r, fT, fR, fA, fS, ri, hd, ln, rnd) ∧
    (r < 0 ∨ ∃ c, c < 2 ^ 31 ∧ r = nI c ∧ IV (R + K) (fT, fR, E.2.2.1, fA, E.2.2.2.2.1, fS, E.2.2.2.2.2.2.1, ri, hd, ln, rnd)) := by
  by_cases c1 : p < 1
  · exact ⟨_, _, _, _, _, _, _, _, _, a_pass_lo c1, Or.inl (by decide)⟩
  · have c1' := c1
    rw [Int32.lt_iff_toInt_lt, i1] at c1'
    obtain ⟨P, hP, rfl, ei⟩ := ex_nI (x := p) (by omega)
    obtain ⟨nR, nA, n, q, hr, ha, hnR, hX⟩ := h
    have hrnd := hX.1
    have hn12 := hX.2.1
    unfold d_X0_playRounds
    rw [if_neg c1, if_pos (n99 (by omega)), hrnd, nJ_add]
    by_cases c2 : nI (n + P) ≤ 9999
    · have c2' : n + P ≤ 9999 := (nI_le_iff (b := 9999) (by omega) (by decide)).mp c2
      obtain ⟨k, fT', fR', fA', fS', ri', hd', ln', q', g1, g2, g3, g4⟩ := rounds_loop (R := P) (by omega) P 0 0 fuel n _ _ _ _ _ _ _ _ q (by omega) (k_fuel (by omega)) (by omega) hX
      have hq40 : q.length ≤ 40 := hX.2.2.2.1
      rw [if_pos c2, ← hrnd]
      refine ⟨nI k, fT', fR', fA', fS', ri', hd', ln', nI (n + P), ?_, Or.inr ⟨k, by omega, rfl, nR, nA, n + P, q', hr, ha, by omega, g2⟩⟩
      rw [Nat.zero_add] at g1
      exact g1
    · rw [if_neg c2]
      exact ⟨_, _, _, _, _, _, _, _, _, rfl, Or.inl (by decide)⟩
theorem tk_pass (hT : TV R t) (hS : SR t u) {K : Nat} (hK : K ≤ 99) {p : Int32} (hp : p.toInt ≤ K) : ∃ r t' u', q_pass p t = some (r, t') ∧ q_pass p u = some (r, u') ∧ TV (R + K) t' ∧ SR t' u' ∧ rs6 t' = rs6 t ∧ rs6 u' = rs6 u ∧ (r < 0 → SR t t') := by
  refine act6 (q_pass p) (d_X5_pass p) (fun _ => rfl) (Nat.le_add_right R K) hT hS ?_
  obtain ⟨r, fT, fR, fA, fS, ri, hd, ln, rnd, e, hc⟩ := a_passK hT.1 hK hp
  refine ⟨r, _, fun T Hs old sze => ?_, hc⟩
  unfold d_X5_pass
  rw [e, ob9_some]
theorem tk_undo (hT : TV R t) (hS : SR t u) : ∃ r t' u', q_undo t = some (r, t') ∧ q_undo u = some (r, u') ∧ TV R t' ∧ SR t' u' ∧ rs6 t' = rs6 t ∧ rs6 u' = rs6 u := by
  obtain ⟨h1, h2, h3, h4, h5, h6, h7, h8⟩ := hS
  obtain ⟨k1, k2, k3, ⟨o, ho, eo⟩, ⟨z, hz, ez⟩⟩ := hT
  obtain ⟨r, N', sze', e, g1, g2⟩ : ∃ r N' sze', d_X5_undo t.1 t.2.2.2.1 t.2.2.2.2.1 t.2.2.2.2.2.1 = (r, N', sze') ∧ IV R N' ∧ ∃ z, z ≤ 4 ∧ sze' = nI z := by
    unfold d_X5_undo
    rw [eo, ez]
    cases z with
    | zero => rw [e_takeBack0]; exact ⟨_, _, _, rfl, k1, 0, by decide, rfl⟩
    | succ z => rw [e_takeBack t.1 t.2.2.2.1 ho (by omega)]; exact ⟨_, _, _, rfl, k3 _, z, by omega, rfl⟩
  have eu : d_X5_undo u.1 u.2.2.2.1 u.2.2.2.2.1 u.2.2.2.2.2.1 = (r, N', sze') := by rw [← h1, ← h3, ← h4, ← h5]; exact e
  exact ⟨r, (N', t.2.1, t.2.2.1, t.2.2.2.1, t.2.2.2.2.1, sze', t.2.2.2.2.2.2), (N', u.2.1, u.2.2.1, u.2.2.2.1, u.2.2.2.2.1, sze', u.2.2.2.2.2.2), by unfold q_undo; rw [e]; rfl, by unfold q_undo; rw [eu]; rfl, ⟨g1, k2, k3, ⟨o, ho, eo⟩, g2⟩, ⟨rfl, h2, h3, h4, rfl, h6, h7, h8⟩, rfl, rfl⟩
theorem tk_keep (hT : TV R t) (hS : SR t u) : ∃ r t' u', q_keep t = some (r, t') ∧ q_keep u = some (r, u') ∧ TV R t' ∧ SR t' u' ∧ LN t' = LN t ∧ LN u' = LN u := by
  obtain ⟨h1, h2, h3, h4, h5, h6, h7, h8⟩ := hS
  obtain ⟨k1, k2, k3, k4⟩ := hT
  have eu : d_X5_keep u.1 u.2.2.1 u.2.2.2.2.2.2.2.2.2.2.2.2.1 = (d_X0_waiting t.1.2.2.2.2.2.2.2.2.2.1, t.1, 1) := by rw [← h1]; rfl
  have et : d_X5_keep t.1 t.2.2.1 t.2.2.2.2.2.2.2.2.2.2.2.2.1 = (d_X0_waiting t.1.2.2.2.2.2.2.2.2.2.1, t.1, 1) := rfl
  exact ⟨_, (t.1, t.2.1, t.1, t.2.2.2.1, t.2.2.2.2.1, t.2.2.2.2.2.1, t.2.2.2.2.2.2.1, t.2.2.2.2.2.2.2.1, t.2.2.2.2.2.2.2.2.1, t.2.2.2.2.2.2.2.2.2.1, t.2.2.2.2.2.2.2.2.2.2.1, t.2.2.2.2.2.2.2.2.2.2.2.1, 1, t.2.2.2.2.2.2.2.2.2.2.2.2.2), (u.1, u.2.1, t.1, u.2.2.2.1, u.2.2.2.2.1, u.2.2.2.2.2.1, u.2.2.2.2.2.2.1, u.2.2.2.2.2.2.2.1, u.2.2.2.2.2.2.2.2.1, u.2.2.2.2.2.2.2.2.2.1, u.2.2.2.2.2.2.2.2.2.2.1, u.2.2.2.2.2.2.2.2.2.2.2.1, 1, u.2.2.2.2.2.2.2.2.2.2.2.2.2), by unfold q_keep; rw [et]; rfl, by unfold q_keep; rw [eu]; rfl, ⟨k1, k1, k3, k4⟩, ⟨h1, rfl, h3, h4, h5, h6, h7, rfl⟩, rfl, rfl⟩
theorem iv_wait {R : Nat} {E : Ex} (h : IV R E) : ∃ c, c < 2 ^ 31 ∧ d_X0_waiting E.2.2.2.2.2.2.2.2.2.1 = nI c := by
  obtain ⟨nR, nA, n, q, h1, h2, h3, h4⟩ := h
  have := h4.2.2.2.1
  exact ⟨q.length, by omega, h4.2.2.2.2.2⟩
theorem tk_restore (hT : TV R t) (hS : SR t u) : ∃ r t' u', q_restore t = some (r, t') ∧ q_restore u = some (r, u') ∧ TV R t' ∧ SR t' u' ∧ rs6 t' = rs6 t ∧ rs6 u' = rs6 u := by
  obtain ⟨h1, h2, h3, h4, h5, h6, h7, h8⟩ := hS
  obtain ⟨k1, k2, k3, k4, k5⟩ := hT
  obtain ⟨r, N', X, Hs', old', sze', e, g1, g2, g3, g4⟩ : ∃ r N' X Hs' old' sze', (∀ T, d_X5_restore t.1 T t.2.2.1 t.2.2.2.1 t.2.2.2.2.1 t.2.2.2.2.2.1 t.2.2.2.2.2.2.2.2.2.2.2.2.1 = (r, N', (if t.2.2.2.2.2.2.2.2.2.2.2.2.1 = 0 then T else X), Hs', old', sze')) ∧ IV R N' ∧ (∀ k, IV R (Hs' k)) ∧ (∃ o, o < 4 ∧ old' = nI o) ∧ ∃ z, z ≤ 4 ∧ sze' = nI z := by
    by_cases c : t.2.2.2.2.2.2.2.2.2.2.2.2.1 = 0
    · exact ⟨_, _, t.1, _, _, _, fun T => by unfold d_X5_restore; rw [if_pos c, if_pos c], k1, k3, k4, k5⟩
    · obtain ⟨k, hk, ek⟩ := iv_wait k2
      obtain ⟨N', Hs', old', sze', f, g1, g2, g3, g4, -⟩ := fin_ok (T := t.2.2.1) (r := d_X0_waiting t.2.2.1.2.2.2.2.2.2.2.2.2.1) k1 k3 k4 k5 (Or.inr ⟨k, hk, ek, k2⟩)
      exact ⟨_, N', t.2.2.1, Hs', old', sze', fun T => by unfold d_X5_restore; rw [if_neg c, if_neg c, f]; rfl, g1, g2, g3, g4⟩
  have eu : d_X5_restore u.1 u.2.1 u.2.2.1 u.2.2.2.1 u.2.2.2.2.1 u.2.2.2.2.2.1 u.2.2.2.2.2.2.2.2.2.2.2.2.1 = (r, N', (if t.2.2.2.2.2.2.2.2.2.2.2.2.1 = 0 then u.2.1 else X), Hs', old', sze') := by rw [← h1, ← h2, ← h3, ← h4, ← h5, ← h8]; exact e u.2.1
  exact ⟨r, (N', (if t.2.2.2.2.2.2.2.2.2.2.2.2.1 = 0 then t.2.1 else X), t.2.2.1, Hs', old', sze', t.2.2.2.2.2.2), (N', (if t.2.2.2.2.2.2.2.2.2.2.2.2.1 = 0 then u.2.1 else X), u.2.2.1, Hs', old', sze', u.2.2.2.2.2.2), by unfold q_restore; rw [e]; rfl, by unfold q_restore; rw [eu]; rfl, ⟨g1, k2, g2, g3, g4⟩, ⟨rfl, h2, rfl, rfl, rfl, h6, h7, h8⟩, rfl, rfl⟩
/-! the text -/
theorem tk_clear (t : Td) : q_clearText t = some (LN t, (t.1, t.2.1, t.2.2.1, t.2.2.2.1, t.2.2.2.2.1, t.2.2.2.2.2.1, t.2.2.2.2.2.2.1, t.2.2.2.2.2.2.2.1, t.2.2.2.2.2.2.2.2.1, 0, t.2.2.2.2.2.2.2.2.2.2)) := rfl
def nch (c : Int32) : Int32 := vp_nar .char c
def tyT (c : Int32) (L : Nat) (t : Td) : Td := (t.1, t.2.1, t.2.2.1, t.2.2.2.1, t.2.2.2.2.1, t.2.2.2.2.2.1, upd t.2.2.2.2.2.2.1 L (nch c), t.2.2.2.2.2.2.2.1, t.2.2.2.2.2.2.2.2.1, nI (L + 1), t.2.2.2.2.2.2.2.2.2.2)
theorem tk_type {L : Nat} (hL : LN t = nI L) (h60 : L < 60) (c : Int32) : q_type c t = some (nI (L + 1), tyT c L t) := by
  have hL' : t.2.2.2.2.2.2.2.2.2.1 = nI L := hL
  unfold q_type d_X5_type d_X2_addCharacter
  rw [hL', if_neg (nI_pos (by omega)), if_pos (show nI L < 60 from nI_lt (b := 60) h60 (by decide)), wr_i h60 (by decide), ob1_some, ob3_some, ob3_some, nI_s]
  rfl
theorem tyT_SR {c : Int32} {L : Nat} (h : SR t u) : SR (tyT c L t) (tyT c L u) := by
  obtain ⟨h1, h2, h3, h4, h5, h6, h7, h8⟩ := h
  refine ⟨h1, h2, h3, h4, h5, ?_, h7, h8⟩
  show upd t.2.2.2.2.2.2.1 L (nch c) = upd u.2.2.2.2.2.2.1 L (nch c)
  rw [h6]
theorem tyT_TV {c : Int32} {L : Nat} (h : TV R t) : TV R (tyT c L t) := h
end TRADE
