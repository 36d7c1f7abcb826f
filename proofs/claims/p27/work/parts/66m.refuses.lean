/-! part 66m: what is refused -/
theorem has_neg {p : Int32} (N : Int32) (h : p < 0) : d_X4_has p N = 0 := by unfold d_X4_has; rw [if_pos h]
theorem has_big {p N : Int32} (h : N ≤ p) : d_X4_has p N = 0 := by
  unfold d_X4_has
  by_cases c : p < 0
  · rw [if_pos c]
  · rw [if_neg c, if_pos h]
theorem ng1 {Y : Nat} (hY : Y < 100000) : ((-1) - nI Y : Int32) < 0 := by
  have := nI_toInt (n := Y) (by omega)
  rw [Int32.lt_iff_toInt_lt, i0, sub_toInt (by rw [im1]; omega) (by rw [im1]; omega), im1]
  omega
theorem nn {A k : Nat} {c : Int32} (ec : c = nI k) (hA : A < 2 ^ 31) (hk : k < 2 ^ 31) (h : A ≠ k) : ¬ nI A = c := fun e => h ((nI_inj hA hk).mp (e.trans ec))
theorem nng {p : Int32} {k : Nat} (h : p < 0) (hk : k < 2 ^ 31) : ¬ p = nI k := fun e => nI_pos hk (e ▸ h)
def KP (t t' : Td) : Prop := SR t t' ∧ rs6 t' = rs6 t
def RF (t : Td) (o : Option (Int32 × Td)) : Prop := ∃ u', o = some (1, u') ∧ SR t u' ∧ LO u'
section REFUSED
variable {t t' : Td} {fT fR fA fS fE ri : F_} {hd ln rnd : Int32} {nR nA n : Nat} {q : List Nat} {e p1 p2 p3 p4 : Int32}
theorem NX.of (h : NX t fT fR fA fS fE ri hd ln rnd nR nA n q) (s : SR t t') : NX t' fT fR fA fS fE ri hd ln rnd nR nA n q := ⟨s.1 ▸ h.1, h.2⟩
theorem RF.of {o : Option (Int32 × Td)} (s : SR t t') (h : RF t' o) : RF t o := by
  obtain ⟨u', e1, e2, e3⟩ := h
  exact ⟨u', e1, s.trans e2, e3⟩
theorem x_ask (he : e < 0) (h : ∃ fR rR, d_X0_addRiddle p1 p2 p3 t.1.2.1 t.1.2.2.1 = some (e, fR, rR)) : ∃ t', q_ask p1 p2 p3 t = some (e, t') ∧ KP t t' := by
  obtain ⟨fR, rR, h⟩ := h
  unfold q_ask d_X5_ask
  rw [h, ob3_some, e_finish_neg he]
  exact ⟨_, rfl, ⟨rfl, rfl, rfl, rfl, rfl, rfl, rfl, rfl⟩, rfl⟩
theorem x_withdraw (he : e < 0) (h : ∃ fR, d_X0_closeRiddle p1 t.1.2.1 t.1.2.2.1 t.1.2.2.2.1 t.1.2.2.2.2.1 = some (e, fR)) : ∃ t', q_withdraw p1 t = some (e, t') ∧ KP t t' := by
  obtain ⟨fR, h⟩ := h
  unfold q_withdraw d_X5_withdraw
  rw [h, ob2_some, e_finish_neg he]
  exact ⟨_, rfl, ⟨rfl, rfl, rfl, rfl, rfl, rfl, rfl, rfl⟩, rfl⟩
theorem x_deliver (he : e < 0) (h : ∃ fA rA ri ln, d_X0_addAnswer p1 p2 p3 p4 t.1.2.1 t.1.2.2.1 t.1.2.2.2.1 t.1.2.2.2.2.1 t.1.2.2.2.2.2.2.2.1 t.1.2.2.2.2.2.2.2.2.1 t.1.2.2.2.2.2.2.2.2.2.1 = some (e, fA, rA, ri, ln)) : ∃ t', q_deliver p1 p2 p3 p4 t = some (e, t') ∧ KP t t' := by
  obtain ⟨fA, rA, ri, ln, h⟩ := h
  unfold q_deliver d_X5_deliver
  rw [h, ob5_some, e_finish_neg he]
  exact ⟨_, rfl, ⟨rfl, rfl, rfl, rfl, rfl, rfl, rfl, rfl⟩, rfl⟩
theorem x_adjust (he : e < 0) (h : ∃ fS, d_X0_setScalesRight t.1.2.2.2.2.2.1 = some (e, fS)) : ∃ t', q_adjust t = some (e, t') ∧ KP t t' := by
  obtain ⟨fS, h⟩ := h
  unfold q_adjust d_X5_adjust
  rw [h, ob2_some, e_finish_neg he]
  exact ⟨_, rfl, ⟨rfl, rfl, rfl, rfl, rfl, rfl, rfl, rfl⟩, rfl⟩
theorem x_set (he : e < 0) (h : ∃ fE, d_X0_changeSetting p1 p2 t.1.2.2.2.2.2.2.1 = some (e, fE)) : ∃ t', q_set p1 p2 t = some (e, t') ∧ KP t t' := by
  obtain ⟨fE, h⟩ := h
  unfold q_set d_X5_set
  rw [h, ob2_some, e_finish_neg he]
  exact ⟨_, rfl, ⟨rfl, rfl, rfl, rfl, rfl, rfl, rfl, rfl⟩, rfl⟩
theorem x_pass (h : p1 < 1 ∨ ¬ p1 < 1 ∧ ¬ p1 ≤ 99) : ∃ t', q_pass p1 t = some (-2, t') ∧ KP t t' := by
  unfold q_pass d_X5_pass
  rcases h with h | ⟨h1, h2⟩
  · rw [a_pass_lo h, ob9_some, e_finish_neg (by decide)]
    exact ⟨_, rfl, ⟨rfl, rfl, rfl, rfl, rfl, rfl, rfl, rfl⟩, rfl⟩
  · rw [a_pass_hi h1 h2, ob9_some, e_finish_neg (by decide)]
    exact ⟨_, rfl, ⟨rfl, rfl, rfl, rfl, rfl, rfl, rfl, rfl⟩, rfl⟩
theorem x_text {L : Nat} (hL : L ≤ 60) (hl : LN t = nI L) : ∃ t1 t2, q_clearText t = some (nI L, t1) ∧ q_perform t1 = some (-100, t2) ∧ SR t t2 ∧ LN t2 = 0 := by
  have hp : ∀ (ft fG : F_) (rG pos bad : Int32), d_X2_read ft fG rG 0 pos bad = some (0, fG, 1, 0, 1) := fun ft fG rG pos bad => by
    have h1 : d_X2_here ft (nI 0) (nI 0) 0 = some (-1) := e_here_out (Nat.le_refl 0) (by decide)
    have h2 := e_rd1 (fuel - 1) (m := 0) (i := 0) (by decide) (e_readThing_no (p := nI 0) (fG := fG) h1 (by decide) (by decide) (by decide))
    have h3 : fuel = fuel - 1 + 1 := by
      have := k_fuel (d := 0) (by decide)
      omega
    unfold d_X2_read d_X4_dropRows
    rw [tb1_mk, h3]
    refine Eq.trans h2 ?_
    rw [if_neg n10]
    rfl
  refine ⟨_, (t.1, t.2.1, t.2.2.1, t.2.2.2.1, t.2.2.2.2.1, t.2.2.2.2.2.1, t.2.2.2.2.2.2.1, t.2.2.2.2.2.2.2.1, 1, 0, 0, 1, t.2.2.2.2.2.2.2.2.2.2.2.2.1, t.2.2.2.2.2.2.2.2.2.2.2.2.2.1, t.2.2.2.2.2.2.2.2.2.2.2.2.2.2), by rw [tk_clear, hl], ?_, ⟨rfl, rfl, rfl, rfl, rfl, rfl, rfl, rfl⟩, rfl⟩
  unfold q_perform d_X5_perform
  show ob12 (ob5 (d_X2_read t.2.2.2.2.2.2.1 t.2.2.2.2.2.2.2.1 t.2.2.2.2.2.2.2.2.1 0 t.2.2.2.2.2.2.2.2.2.2.1 t.2.2.2.2.2.2.2.2.2.2.2.1) _) _ = _
  rw [hp, ob5_some, if_neg (by decide)]
  rfl
theorem r_505 (h : NX t fT fR fA fS fE ri hd ln rnd nR nA n q) {Y : Nat} (hY : Y < 100000) (hl : LO t) : RF t (j_L_refuses_505 (nI Y) t) := by
  unfold j_L_refuses_505
  have one : RF t (some (1, t)) := ⟨t, rfl, SR.refl t, hl⟩
  rw [v_c12 h, ob1_some]
  by_cases c : fS 0 + 9 = 9
  · rw [if_pos c, v_c13 h, ob1_some]
    by_cases d : fS 2 + 9 = 9
    · rw [if_pos d]
      have z : ∀ a : Int32, a + 9 = 9 → a = 0 := fun a ha => by
        have : a + 9 - 9 = a := Int32.add_sub_cancel a 9
        rw [ha] at this
        exact this.symm
      obtain ⟨t', e1, s, l⟩ := x_adjust (t := t) (e := -5) (by decide) ⟨upd (upd fS 0 0) 2 0, by
        rw [h.1]
        show d_X0_setScalesRight fS = _
        rw [e_scales, z _ c, z _ d, if_pos (show ab 0 + ab 0 = 0 by decide)]⟩
      rw [e1, ob2_some, if_pos rfl]
      exact ⟨t', rfl, s, hl.of6 l⟩
    · rw [if_neg d]; exact one
  · rw [if_neg c]; exact one
theorem r_483 (h : NX t fT fR fA fS fE ri hd ln rnd nR nA n q) {Y : Nat} (hY : Y < 100000) (hl : LO t) : RF t (j_L_refuses_483 (nI Y) t) := by
  unfold j_L_refuses_483
  have hA : nA < 2 ^ 31 := by have := h.2.2.2.1.2.1; omega
  rw [v_c3 h, ob1_some]
  by_cases c : nI nA = 0
  · rw [if_pos c]; exact r_505 h hY hl
  · rw [if_neg c]
    have hp : 0 < nA := by
      rcases Nat.eq_zero_or_pos nA with z | z
      · subst z; exact absurd rfl c
      · exact z
    have e : q_answer 0 (9 + nI Y) t = some (-2) := by
      rw [qv_answer, h.1, show (9 : Int32) + nI Y = nI (9 + Y) from nJ_add 9 Y]
      show d_X0_tellAnswer (nI 0) (nI (9 + Y)) fA (nI nA) ri hd ln = _
      unfold d_X0_tellAnswer
      rw [if_neg (has_nI hp hA), if_neg (nn (A := 9 + Y) (c := 8) (k := 8) rfl (by omega) (by decide) (by omega)), if_neg (show ¬ nI (9 + Y) < 0 from nI_pos (by omega)), if_neg (show ¬ nI (9 + Y) ≤ 8 from nI_ge (a := 8) (by omega) (by omega))]
    rw [e, ob1_some, if_pos rfl]
    exact r_505 h hY hl
theorem r_378 (h : NX t fT fR fA fS fE ri hd ln rnd nR nA n q) {Y : Nat} (hY : Y < 100000) (hl : LO t) : RF t (j_L_refuses_378 (nI Y) 1 t) := by
  unfold j_L_refuses_378
  obtain ⟨L, hL, hL'⟩ := hl
  obtain ⟨t1, t2, e1, e2, s, l2⟩ := x_text hL hL'
  have hl2 : LO t2 := ⟨0, by decide, l2⟩
  refine RF.of s ?_
  have h := h.of s
  rw [e1, ob2_some, if_neg n10, if_neg (nI_pos (by omega)), e2, ob2_some, if_pos rfl, v_c1 h, ob1_some]
  by_cases c : nI nR = 0
  · rw [if_pos c]; exact r_483 h hY hl2
  rw [if_neg c]
  have hR : nR < 2 ^ 31 := bR h
  have hp : 0 < nR := by
    rcases Nat.eq_zero_or_pos nR with z | z
    · subst z; exact absurd rfl c
    · exact z
  have f1 : q_riddle 0 (7 + nI Y) t2 = some (-2) := by
    rw [qv_riddle, h.1, show (7 : Int32) + nI Y = nI (7 + Y) from nJ_add 7 Y]
    show d_X0_tellRiddle (nI 0) (nI (7 + Y)) fR (nI nR) fA (nI nA) = _
    unfold d_X0_tellRiddle
    rw [if_neg (has_nI hp hR), if_neg (nn (A := 7 + Y) (c := 0) (k := 0) rfl (by omega) (by decide) (by omega)), if_neg (nn (A := 7 + Y) (c := 1) (k := 1) rfl (by omega) (by decide) (by omega)), if_neg (nn (A := 7 + Y) (c := 2) (k := 2) rfl (by omega) (by decide) (by omega)), if_neg (nn (A := 7 + Y) (c := 3) (k := 3) rfl (by omega) (by decide) (by omega)), if_neg (nn (A := 7 + Y) (c := 4) (k := 4) rfl (by omega) (by decide) (by omega)), if_neg (nn (A := 7 + Y) (c := 5) (k := 5) rfl (by omega) (by decide) (by omega)), if_neg (nn (A := 7 + Y) (c := 6) (k := 6) rfl (by omega) (by decide) (by omega))]
  have f0 : ∀ {t' : Td}, SR t2 t' → q_riddle 0 0 t' = some (fR 0) := fun s => v_rd (h.of s) (i := 0) (c := 0) hp (by decide)
  have f3 : ∀ {t' : Td}, SR t2 t' → q_riddle 0 3 t' = some (fR 3) := fun s => v_rd (h.of s) (i := 0) (c := 3) hp (by decide)
  rw [f1, ob1_some, if_pos rfl, f0 (SR.refl _), ob1_some]
  obtain ⟨a, p, ha, -, -, ea, -, k3⟩ := h.2.2.2.1.2.2.1 0 hp
  have ea : fR 0 = nI a := ea
  have hs8 : ¬ d_X4_has (nI a) 8 = 0 := has_nI (N := 8) ha (by decide)
  have hs0 : ¬ d_X4_has 0 (nI nR) = 0 := has_nI (t := 0) hp hR
  obtain ⟨t3, e3, s3, l3⟩ := x_deliver (t := t2) (p1 := fR 0) (p2 := 0) (p3 := 0) (p4 := 100 + nI Y) (e := -2) (by decide) ⟨fA, nI nA, ri, ln, by
    rw [h.1, ea, show (100 : Int32) + nI Y = nI (100 + Y) from nJ_add 100 Y]
    show d_X0_addAnswer (nI a) 0 0 (nI (100 + Y)) fR (nI nR) fA (nI nA) ri hd ln = _
    unfold d_X0_addAnswer
    rw [if_neg hs8, if_neg hs0, if_neg (by decide), if_neg (by decide), if_neg (show ¬ nI (100 + Y) < 1 from nI_nlt (b := 1) (by omega) (by omega)), if_neg (show ¬ nI (100 + Y) ≤ 99 from nI_ge (a := 99) (by omega) (by omega))]⟩
  rw [e3, ob2_some, if_pos rfl, f0 s3, ob1_some]
  have h3 := h.of s3
  obtain ⟨t4, e4, s4, l4⟩ := x_deliver (t := t3) (p1 := fR 0) (p2 := 0) (p3 := 0) (p4 := 1) (e := -4) (by decide) ⟨fA, nI nA, ri, ln, by
    rw [h3.1]
    show d_X0_addAnswer (fR 0) 0 0 1 fR (nI nR) fA (nI nA) ri hd ln = _
    have g3 : d_X4_get 80 0 3 fR 4 = some (fR 3) := getR3 (p := 0) (by decide)
    have g0 : d_X4_get 80 0 0 fR 4 = some (fR 0) := getR0 (p := 0) (by decide)
    unfold d_X0_addAnswer
    rw [if_neg (show ¬ d_X4_has (fR 0) 8 = 0 by rw [ea]; exact hs8), if_neg hs0, if_neg (by decide), if_neg (by decide), if_neg (by decide), if_pos (by decide), g3, ob1_some]
    by_cases c : fR 3 = 0
    · rw [if_pos c, g0, ob1_some, if_pos rfl]
    · rw [if_neg c]⟩
  have s24 := s3.trans s4
  rw [e4, ob2_some, if_pos rfl, f3 s24, ob1_some]
  have h4 := h.of s24
  have hl4 : LO t4 := (hl2.of6 l3).of6 l4
  by_cases c : fR 3 = 0
  · rw [if_pos c]; exact RF.of s24 (r_483 h4 hY hl4)
  · rw [if_neg c]
    obtain ⟨t5, e5, s5, l5⟩ := x_withdraw (t := t4) (p1 := 0) (e := -4) (by decide) ⟨fR, by
      rw [h4.1]
      show d_X0_closeRiddle 0 fR (nI nR) fA (nI nA) = _
      have g3 : d_X4_get 80 0 3 fR 4 = some (fR 3) := getR3 (p := 0) (by decide)
      unfold d_X0_closeRiddle
      rw [if_neg hs0, g3, ob1_some, if_neg c]⟩
    rw [e5, ob2_some, if_pos rfl]
    exact RF.of (s24.trans s5) (r_483 (h4.of s5) hY (hl4.of6 l5))
end REFUSED
