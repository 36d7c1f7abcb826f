/-! part 45: an answer that is paid; both sides take one answer -/
theorem RR.set4 {fR s : F_} {nR r : Nat} {v : Int32} (hr : r < 20) (h : RR fR nR s) : RR fR nR (upd s (16 + (5 * r + 4)) v) := by
  refine ⟨h.1, by rw [upd_ne (by omega)]; exact h.2.1, fun j hj => ?_⟩
  rw [upd_ne (show 16 + 5 * j ≠ _ by omega), upd_ne (show 16 + (5 * j + 1) ≠ _ by omega), upd_ne (show 16 + (5 * j + 2) ≠ _ by omega), upd_ne (show 16 + (5 * j + 3) ≠ _ by omega)]
  exact h.2.2 j hj
theorem IC.step {fT : F_} {t : Nat} {v : Int32} {lo hi hi' : Int} (h : IC fT lo hi) (hh : hi ≤ hi') (h1 : lo ≤ v.toInt) (h2 : v.toInt ≤ hi') : IC (upd fT (2 * t) v) lo hi' := by
  intro j hj
  by_cases e : j = t
  · subst e; rw [upd_self]; exact ⟨h1, h2⟩
  · rw [upd_ne (by omega)]; exact ⟨(h j hj).1, Int.le_trans (h j hj).2 hh⟩
theorem RM.mono {fT fR fA fS fE : F_} {nR nA : Nat} {w : List Nat} {lo hi lo' hi' : Int} {s : F_} (h : RM fT fR fA fS fE nR nA w lo hi s) (h1 : lo' ≤ lo) (h2 : hi ≤ hi') : RM fT fR fA fS fE nR nA w lo' hi' s := by
  obtain ⟨hT, hR, hA, hP, hS, hE, jA, jR, jW, jE, jD, jC⟩ := h
  exact ⟨hT, hR, hA, hP, hS, hE, jA, jR, jW, jE, jD, jC.mono h1 h2⟩
def pyB (s : F_) (a r t g : Nat) (P : Int32) : F_ := upd (upd (upd (upd (upd (pyM s t g P) 489 (s 489 + P)) (116 + (8 * a + 4)) 1) (116 + (8 * a + 7)) P) (16 + (5 * r + 3)) 1) (16 + (5 * r + 4)) (nI (a + 1))
theorem pyA_eq {s : F_} {a r t g : Nat} {P : Int32} : pyA s a r t g P = pyB (wgM s) a r t g P := by
  unfold pyA pyB
  rw [wgM_ne (s := s) (j := 489) (by decide)]
theorem pyB_ne {s : F_} {a r t g j : Nat} {P : Int32} (h : j ≠ t ∧ j ≠ g ∧ j ≠ 489 ∧ j ≠ 116 + (8 * a + 4) ∧ j ≠ 116 + (8 * a + 7) ∧ j ≠ 16 + (5 * r + 3) ∧ j ≠ 16 + (5 * r + 4)) : pyB s a r t g P j = s j := by
  obtain ⟨h1, h2, h3, h4, h5, h6, h7⟩ := h
  unfold pyB
  rw [upd_ne h7, upd_ne h6, upd_ne h5, upd_ne h4, upd_ne h3, pyM_ne ⟨h1, h2⟩]
theorem RM.pay {fT fR fA fS fE : F_} {nR nA a r w t g : Nat} {q : List Nat} {lo hi : Int} {s : F_} {P : Int32} (h : RM fT fR fA fS fE nR nA (a :: q) lo hi s) (ho : AO fR fA a r w t g) (hrn : r < nR) (h3 : fR (4 * r + 3) = 0) (hc : -(fE 9) ≤ fT (2 * t) - P) (hP : 0 ≤ P.toInt ∧ P.toInt ≤ 200) (b1 : -1000000000 ≤ lo) (b2 : lo ≤ -500) (b3 : hi ≤ 1000000000) :
    RM (pyT fT t g P) (upd fR (4 * r + 3) 1) (upd (upd fA (8 * a + 4) 1) (8 * a + 7) P) fS fE nR nA q lo (hi + 200) (pyB s a r t g P) := by
  obtain ⟨hT, hR, hA, hPB, hS, hE, jA, jR, jW, jE, jD, jC⟩ := h
  obtain ⟨ha40, hr, ht, hg, o1, o2, o3, o4⟩ := ho
  obtain ⟨ha, h4⟩ := (jW.2 a).mp List.mem_cons_self
  have hn := List.nodup_cons.mp jW.1
  have hpay0 : fA (8 * a + 7) = 0 := ((jA a ha).2.2.2 h4).2
  have T1 := hT.set (v := fT (2 * t) + -P) ht
  have T2 := T1.set (v := upd fT (2 * t) (fT (2 * t) + -P) (2 * g) + P) hg
  have eM : pyM s t g P = upd (upd s t (fT (2 * t) + -P)) g (upd fT (2 * t) (fT (2 * t) + -P) (2 * g) + P) := by
    unfold pyM
    rw [hT.1 t ht, Int32.sub_eq_add_neg, T1.1 g hg]
  obtain ⟨e, he, hm⟩ := jE.2.2.2.1
  have hx := jC t ht
  have hnp : (-P).toInt = -P.toInt := neg_toInt (by omega)
  have hv1 : (fT (2 * t) + -P).toInt = (fT (2 * t)).toInt - P.toInt := by rw [add_toInt (by omega) (by omega), hnp]; omega
  have hv1' : (fT (2 * t) - P).toInt = (fT (2 * t)).toInt - P.toInt := sub_toInt (by omega) (by omega)
  have hne : (-(fE 9)).toInt = -(e : Int) := by rw [neg_toInt (by rw [hm, nI_toInt (by omega)]; omega), hm, nI_toInt (by omega)]
  rw [Int32.le_iff_toInt_le, hne, hv1'] at hc
  have C1 : IC (upd fT (2 * t) (fT (2 * t) + -P)) lo hi := jC.step (Int.le_refl _) (by rw [hv1]; omega) (by rw [hv1]; omega)
  have hy := C1 g hg
  have hz : (upd fT (2 * t) (fT (2 * t) + -P) (2 * g) + P).toInt = (upd fT (2 * t) (fT (2 * t) + -P) (2 * g)).toInt + P.toInt := add_toInt (by omega) (by omega)
  have a4 : ∀ b, b ≠ a → upd (upd fA (8 * a + 4) 1) (8 * a + 7) P (8 * b + 4) = fA (8 * b + 4) := fun b hb => by rw [upd_ne (by omega), upd_ne (by omega)]
  have a4a : upd (upd fA (8 * a + 4) 1) (8 * a + 7) P (8 * a + 4) = 1 := by rw [upd_ne (by omega), upd_self]
  have a1 : ∀ b, upd (upd fA (8 * a + 4) 1) (8 * a + 7) P (8 * b + 1) = fA (8 * b + 1) := fun b => by rw [upd_ne (by omega), upd_ne (by omega)]
  refine ⟨T2.fr fun j hj => ?_, ?_, ?_, ?_, hS.fr fun j hj => pyB_ne (by omega), hE.fr fun j hj => pyB_ne (by omega), jA.chg fun b hb => ⟨?_, ?_, ?_, fun z => ?_⟩, ?_, ⟨hn.2, fun b => ?_⟩, jE, jD, C1.step (by omega) (by rw [hz]; omega) (by rw [hz]; omega)⟩
  · rw [← eM]
    unfold pyB
    rw [upd_ne (by omega), upd_ne (by omega), upd_ne (by omega), upd_ne (by omega), upd_ne (by omega)]
  · have R1 : RR fR nR (upd (upd (upd (pyM s t g P) 489 (s 489 + P)) (116 + (8 * a + 4)) 1) (116 + (8 * a + 7)) P) := hR.fr fun j hj => by
      rw [upd_ne (by omega), upd_ne (by omega), upd_ne (by omega), pyM_ne (by omega)]
    exact (R1.set3 hr).set4 hr
  · have A1 : RA fA nA (pyM s t g P) := hA.fr fun j hj => pyM_ne (by omega)
    have A2 := A1.set (k := 8 * a + 4) (v := 1) (by omega) (by omega)
    have A3 := A2.set7 (v := P) ha (by rw [upd_ne (by omega)]; exact hpay0)
    have e1 : upd (upd (pyM s t g P) (116 + (8 * a + 4)) 1) 489 (upd (pyM s t g P) (116 + (8 * a + 4)) 1 489 + P) = upd (upd (pyM s t g P) 489 (s 489 + P)) (116 + (8 * a + 4)) 1 := by
      rw [upd_ne (show (489 : Nat) ≠ 116 + (8 * a + 4) by omega), pyM_ne (j := 489) (by omega), upd_comm (by omega)]
    rw [e1] at A3
    exact A3.fr fun j hj => by unfold pyB; rw [upd_ne (by omega), upd_ne (by omega)]
  · intro k hk
    have hnR := hR.1
    by_cases z : k = r
    · subst z
      refine Or.inr ⟨upd_self, a, ha, by unfold pyB; rw [upd_self], by rw [a1]; exact o2, a4a, fun b hb x y => ?_⟩
      by_cases z : b = a
      · exact z
      · rw [a1] at x
        rw [a4 b z] at y
        rcases hPB k hk with ⟨-, u⟩ | ⟨u, -⟩
        · exact absurd y (u b hb x)
        · rw [h3] at u; exact absurd u n01
    · have hs : pyB s a r t g P (16 + (5 * k + 4)) = s (16 + (5 * k + 4)) := pyB_ne (by omega)
      have hf : upd fR (4 * r + 3) 1 (4 * k + 3) = fR (4 * k + 3) := upd_ne (by omega)
      have hkr : ¬ fA (8 * a + 1) = nI k := fun x => by
        rw [o2, nI_inj (by omega) (by omega)] at x
        exact z x.symm
      rw [hs, hf]
      rcases hPB k hk with ⟨u1, u2⟩ | ⟨u1, b, hb, u2, u3, u4, u5⟩
      · refine Or.inl ⟨u1, fun b hb x => ?_⟩
        rw [a1] at x
        by_cases y : b = a
        · subst y; exact absurd x hkr
        · rw [a4 b y]; exact u2 b hb x
      · have hba : b ≠ a := fun y => by subst y; exact hkr u3
        refine Or.inr ⟨u1, b, hb, u2, by rw [a1]; exact u3, by rw [a4 b hba]; exact u4, fun c hc x y => ?_⟩
        rw [a1] at x
        by_cases v : c = a
        · subst v; exact absurd x hkr
        · rw [a4 c v] at y; exact u5 c hc x y
  · rw [upd_ne (by omega), upd_ne (by omega)]
  · rw [upd_ne (by omega), upd_ne (by omega)]
  · rw [upd_ne (by omega), upd_ne (by omega)]
  · by_cases y : b = a
    · subst y; rw [a4a] at z; exact absurd z n10
    · rw [a4 b y] at z
      rw [upd_ne (show 8 * b + 6 ≠ _ by omega), upd_ne (show 8 * b + 6 ≠ _ by omega), upd_ne (show 8 * b + 7 ≠ _ by omega), upd_ne (show 8 * b + 7 ≠ _ by omega)]
      exact ⟨z, (jA b hb).2.2.2 z⟩
  · intro k hk
    rw [upd_ne (show 4 * k ≠ _ by omega), upd_ne (show 4 * k + 1 ≠ _ by omega)]
    exact jR k hk
  · by_cases z : b = a
    · subst z; rw [a4a]; exact ⟨fun x => absurd x hn.1, fun x => absurd x.2 n10⟩
    · rw [a4 b z, ← jW.2 b, List.mem_cons]
      exact ⟨Or.inr, fun x => x.resolve_left z⟩
/-- what one answer that waits is, in numbers -/
theorem RM.ans {fT fR fA fS fE : F_} {nR nA a : Nat} {w : List Nat} {lo hi : Int} {s : F_} (h : RM fT fR fA fS fE nR nA w lo hi s) (ha : a < nA) : ∃ r w t g, AO fR fA a r w t g ∧ MO s a r w t g ∧ r < nR ∧ 1 ≤ w ∧ w ≤ 99 ∧
    s (116 + (8 * a + 2)) = fA (8 * a + 2) ∧ s (116 + (8 * a + 4)) = fA (8 * a + 4) ∧ s (116 + (8 * a + 6)) = fA (8 * a + 6) ∧ s (16 + (5 * r + 1)) = fR (4 * r + 1) ∧ s (16 + (5 * r + 2)) = fR (4 * r + 2) ∧ s (16 + (5 * r + 3)) = fR (4 * r + 3) ∧ s t = fT (2 * t) ∧
    (0 ≤ (tl (nI w + fS 0)).toInt ∧ (tl (nI w + fS 0)).toInt ≤ 108) ∧ (0 ≤ (tl (nI w + fS 2)).toInt ∧ (tl (nI w + fS 2)).toInt ≤ 108) ∧ (0 ≤ (pm (fR (4 * r + 1)) (tl (nI w + fS 0)) (tl (nI w + fS 2))).toInt ∧ (pm (fR (4 * r + 1)) (tl (nI w + fS 0)) (tl (nI w + fS 2))).toInt ≤ 200) := by
  obtain ⟨hT, hR, hA, hPB, hS, hE, jA, jR, jW, jE, jD, jC⟩ := h
  have ha40 : a < 40 := Nat.lt_of_lt_of_le ha hA.1
  obtain ⟨⟨g, hg, e0⟩, ⟨r, hr, e1⟩, ⟨w, hw1, hw2, e3⟩, -⟩ := jA a ha
  obtain ⟨⟨t, ht, u0⟩, ⟨p, hp1, hp2, u1⟩⟩ := jR r hr
  have hr20 : r < 20 := Nat.lt_of_lt_of_le hr hR.1
  have sA := hA.2.2.1
  obtain ⟨q0, q1, q2, q3⟩ := hR.2.2 r hr20
  obtain ⟨⟨k1, k2⟩, k3, k4⟩ := jD
  have hwi : (nI w).toInt = w := nI_toInt (by omega)
  have w0 : (nI w + fS 0).toInt = w + (fS 0).toInt := by rw [add_toInt (by rw [hwi]; omega) (by rw [hwi]; omega), hwi]
  have w2 : (nI w + fS 2).toInt = w + (fS 2).toInt := by rw [add_toInt (by rw [hwi]; omega) (by rw [hwi]; omega), hwi]
  have t0 := tl_bd (x := nI w + fS 0) (k := 108) (by omega) (by omega)
  have t2 := tl_bd (x := nI w + fS 2) (k := 108) (by omega) (by omega)
  exact ⟨r, w, t, g, ⟨ha40, hr20, ht, hg, e0, e1, e3, u0⟩, ⟨ha40, hr20, ht, hg, by rw [sA _ (by omega)]; exact e0, by rw [sA _ (by omega)]; exact e1, by rw [sA _ (by omega)]; exact e3, by rw [q0]; exact u0⟩, hr, hw1, hw2,
    sA _ (by omega), sA _ (by omega), sA _ (by omega), q1, q2, q3, hT.1 t ht, t0, t2, pm_bd u1 hp2 t0 t2⟩
def st1 (fA : F_) (n : Nat) : Nat := (List.range' 0 n).countP (fun a => decide (fA (8 * a + 4) = 1))
theorem st1_congr {f g : F_} {n : Nat} (h : ∀ a, a < n → (f (8 * a + 4) = 1 ↔ g (8 * a + 4) = 1)) : st1 f n = st1 g n :=
  cp_congr fun a ha => decide_eq_decide.mpr (h a (mem_r0.mp ha))
theorem take_both {fT fR fA fS fE ri : F_} {hd ln : Int32} {nR nA a : Nat} {q : List Nat} {lo hi : Int} {s : F_} (h : RM fT fR fA fS fE nR nA (a :: q) lo hi s) (hq : RQ ri hd ln q s) (hl : q.length < 40) (b1 : -1000000000 ≤ lo) (b2 : lo ≤ -500) (b3 : hi ≤ 1000000000) :
    ∃ (p : Nat) (fT' fR' fA' fS' ri' : F_) (ln' : Int32) (s' : F_) (w' : List Nat), p ≤ 1 ∧ d_X0_takeOne (nI a) fT fR fA fS fE ri hd ln = some (nI p, fT', fR', fA', fS', ri', ln') ∧ d_X6_takes (nI a) s = some s' ∧ RM fT' fR' fA' fS' fE nR nA w' lo (hi + 200) s' ∧ RQ ri' hd ln' w' s' ∧ s' 485 = s 485 ∧ st1 fA' nA = st1 fA nA + p ∧ (w' = q ∨ w' = q ++ [a]) := by
  obtain ⟨ha, h4⟩ := (h.2.2.2.2.2.2.2.2.1.2 a).mp List.mem_cons_self
  obtain ⟨r, w, t, g, ho, hm, hrn, hw1, hw2, x2, x4, x6, y1, y2, y3, xt, t0, t2, pb⟩ := h.ans ha
  obtain ⟨hT, hR, hA, hPB, hS, hE, jA, jR, jW, jE, jD, jC⟩ := id h
  obtain ⟨⟨d, hd3, hd6⟩, hpay0⟩ := (jA a ha).2.2.2 h4
  have ha40 : a < 40 := ho.1
  have st0 : ∀ (f : F_), (∀ b, b ≠ a → f (8 * b + 4) = fA (8 * b + 4)) → f (8 * a + 4) ≠ 1 → st1 f nA = st1 fA nA := fun f g1 g2 => st1_congr fun b hb => by
    by_cases z : b = a
    · subst z; rw [h4]; exact ⟨fun x => absurd x g2, fun x => absurd x n01⟩
    · rw [g1 b z]
  have kT := e_takeOne (fT := fT) (fS := fS) (fE := fE) (ri := ri) (hd := hd) (ln := ln) ho hd6 hd3 _ rfl
  have kM := e_takes hm (by rw [x6]; exact hd6) hd3 _ rfl
  rw [y3, y2, x2, hS.1, hS.2.1, hE.1, xt, hE.2.2.2, y1] at kM
  rw [kT, kM]
  by_cases c1 : fR (4 * r + 3) = 0
  · simp only [if_pos c1]
    by_cases c2 : fR (4 * r + 2) = fA (8 * a + 2)
    · simp only [if_pos c2]
      by_cases c3 : ab (tl (nI w + fS 0) - tl (nI w + fS 2)) ≤ fE 0
      · simp only [if_pos c3]
        by_cases c4 : -(fE 9) ≤ fT (2 * t) - pm (fR (4 * r + 1)) (tl (nI w + fS 0)) (tl (nI w + fS 2))
        · simp only [if_pos c4, if_neg (Int32.not_lt.mpr c4)]
          have hp := h.weigh.pay ho hrn c1 c4 pb b1 b2 b3
          rw [← pyA_eq] at hp
          refine ⟨1, _, _, _, _, _, _, _, q, Nat.le_refl 1, rfl, rfl, hp, (hq.fr (s' := wgM s) fun j hj => wgM_ne (by omega)).fr fun j hj => by rw [pyA_eq]; exact pyB_ne (by have := ho.2.2.1; have := ho.2.2.2.1; have := ho.2.1; omega), ?_, ?_, Or.inl rfl⟩
          · rw [pyA_eq, pyB_ne (by have := ho.2.2.1; have := ho.2.2.2.1; have := ho.2.1; omega), wgM_ne (by decide)]
          · refine cp_one (nd_range nA) (mem_r0.mpr ha) (by rw [h4]; decide) (by rw [upd_ne (by omega), upd_self]; decide) (fun b hb hba => ?_)
            rw [upd_ne (by omega), upd_ne (by omega)]
        · simp only [if_neg c4, if_pos (Int32.not_le.mp c4)]
          obtain ⟨ri', ln', s', g1, g2, g3, g4⟩ := (hq.fr (s' := wgM s) fun j hj => wgM_ne (by omega)).add (a := a) hl
          rw [g1, g2, ob2_some]
          exact ⟨0, _, _, _, _, _, _, _, q ++ [a], Nat.zero_le 1, rfl, rfl, ((h.weigh.requeue).fr fun j hj _ => g4 j hj).mono (Int.le_refl _) (by omega), g3, by rw [g4 485 (by omega), wgM_ne (by decide)], rfl, Or.inr rfl⟩
      · simp only [if_neg c3]
        have hW : wgM s 487 = s 487 := wgM_ne (by decide)
        by_cases c5 : d = 2
        · subst c5
          rw [if_pos rfl, if_pos rfl]
          have k := (h.weigh.refuse 3).doubt (d := 2) ha (by rw [upd_ne (by omega), upd_ne (by omega)]; exact hd6) (by rw [upd_ne (by omega), upd_self]; exact fun x => absurd x n20)
          have e1 : upd (upd (upd fA (8 * a + 4) 2) (8 * a + 5) 3) (8 * a + 6) (nI (2 + 1)) = upd (upd (upd fA (8 * a + 6) (nI 3)) (8 * a + 4) 2) (8 * a + 5) 3 := by
            rw [upd_comm (k := 8 * a + 5) (j := 8 * a + 6) (by omega), upd_comm (k := 8 * a + 4) (j := 8 * a + 6) (by omega)]
          have e2 : upd (upd (upd (upd (wgM s) (116 + (8 * a + 4)) 2) (116 + (8 * a + 5)) 3) (116 + (8 * a + 6)) (nI (2 + 1))) 487 (upd (upd (wgM s) (116 + (8 * a + 4)) 2) (116 + (8 * a + 5)) 3 487 + 1) = upd (upd (dbM s a 2) (116 + (8 * a + 4)) 2) (116 + (8 * a + 5)) 3 := by
            unfold dbM
            rw [upd_ne (show (487 : Nat) ≠ 116 + (8 * a + 5) by omega), upd_ne (show (487 : Nat) ≠ 116 + (8 * a + 4) by omega), hW]
            rw [upd_comm (k := 116 + (8 * a + 5)) (j := 116 + (8 * a + 6)) (by omega), upd_comm (k := 116 + (8 * a + 4)) (j := 116 + (8 * a + 6)) (by omega)]
            rw [upd_comm (k := 116 + (8 * a + 5)) (j := 487) (by omega), upd_comm (k := 116 + (8 * a + 4)) (j := 487) (by omega)]
          rw [e1, e2] at k
          refine ⟨0, _, _, _, _, _, _, _, q, Nat.zero_le 1, rfl, rfl, k.mono (Int.le_refl _) (by omega), hq.fr fun j hj => ?_, ?_, st0 _ (fun b hb => ?_) ?_, Or.inl rfl⟩
          · unfold dbM; rw [upd_ne (by omega), upd_ne (by omega), upd_ne (by omega), upd_ne (by omega), wgM_ne (by omega)]
          · unfold dbM; rw [upd_ne (by omega), upd_ne (by omega), upd_ne (by omega), upd_ne (by omega), wgM_ne (by decide)]
          · rw [upd_ne (by omega), upd_ne (by omega), upd_ne (by omega)]
          · rw [upd_ne (by omega), upd_self]; decide
        · simp only [if_neg c5]
          have k := h.weigh.requeue.doubt (d := d) ha hd6 (fun _ => by omega)
          rw [hW] at k
          obtain ⟨ri', ln', s', g1, g2, g3, g4⟩ := (hq.fr (s' := dbM s a d) fun j hj => by unfold dbM; rw [upd_ne (by omega), upd_ne (by omega), wgM_ne (by omega)]).add (a := a) hl
          rw [g1, g2, ob2_some]
          refine ⟨0, _, _, _, _, _, _, _, q ++ [a], Nat.zero_le 1, rfl, rfl, (k.fr fun j hj _ => g4 j hj).mono (Int.le_refl _) (by omega), g3, ?_, st0 _ (fun b hb => ?_) ?_, Or.inr rfl⟩
          · rw [g4 485 (by omega)]; unfold dbM; rw [upd_ne (by omega), upd_ne (by omega), wgM_ne (by decide)]
          · rw [upd_ne (by omega)]
          · rw [upd_ne (by omega), h4]; decide
    · simp only [if_neg c2]
      refine ⟨0, _, _, _, _, _, _, _, q, Nat.zero_le 1, rfl, rfl, (h.refuse 2).mono (Int.le_refl _) (by omega), hq.fr fun j hj => ?_, ?_, st0 _ (fun b hb => ?_) ?_, Or.inl rfl⟩
      · rw [upd_ne (by omega), upd_ne (by omega)]
      · rw [upd_ne (by omega), upd_ne (by omega)]
      · rw [upd_ne (by omega), upd_ne (by omega)]
      · rw [upd_ne (by omega), upd_self]; decide
  · simp only [if_neg c1]
    refine ⟨0, _, _, _, _, _, _, _, q, Nat.zero_le 1, rfl, rfl, (h.refuse 1).mono (Int.le_refl _) (by omega), hq.fr fun j hj => ?_, ?_, st0 _ (fun b hb => ?_) ?_, Or.inl rfl⟩
    · rw [upd_ne (by omega), upd_ne (by omega)]
    · rw [upd_ne (by omega), upd_ne (by omega)]
    · rw [upd_ne (by omega), upd_ne (by omega)]
    · rw [upd_ne (by omega), upd_self]; decide
