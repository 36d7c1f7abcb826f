/-! part 22: one answer is taken -/
theorem pyT_v {fT : F_} {t g : Nat} {P : Int32} (h : t ≠ g) : pyT fT t g P (2 * t) = fT (2 * t) + -P ∧ pyT fT t g P (2 * g) = fT (2 * g) + P ∧ ∀ j, j ≠ 2 * t → j ≠ 2 * g → pyT fT t g P j = fT j := by
  unfold pyT
  refine ⟨?_, ?_, fun j h1 h2 => ?_⟩
  · rw [upd_ne (by omega), upd_self]
  · rw [upd_self, upd_ne (by omega)]
  · rw [upd_ne h2, upd_ne h1]
theorem JC.pay {fT fR fA fS fE : F_} {nR nA a r w t g : Nat} {q : List Nat} {lo hi nf : Int} {B : Nat} {P : Int32} (h : JC fT fR fA fS fE nR nA (a :: q) lo hi nf B) (ho : AO fR fA a r w t g) (hrn : r < nR) (htg : t ≠ g) (h3 : fR (4 * r + 3) = 0) (hc : -(fE 9) ≤ fT (2 * t) - P) (hP : 0 < P.toInt ∧ P.toInt ≤ 200) (b1 : -1000000000 ≤ lo) (b2 : lo ≤ -500) (b3 : hi ≤ 1000000000) :
    JC (pyT fT t g P) (upd fR (4 * r + 3) 1) (upd (upd fA (8 * a + 4) 1) (8 * a + 7) P) (wgS fS fE) fE nR nA q lo (hi + 200) nf (B + 1) := by
  obtain ⟨hR, hA, jR, jA, jP, jW, jM, jS, jC, jF, jV, jE, jD⟩ := h
  obtain ⟨ha40, hr, ht, hg, o1, o2, o3, o4⟩ := ho
  obtain ⟨ha, h4⟩ := (jW.2 a).mp List.mem_cons_self
  obtain ⟨-, -, -, -, -, -, -, -, -, -, -, hAS⟩ := jA a ha
  obtain ⟨s1, s2, s3⟩ := as_wait hAS h4
  obtain ⟨fA', hf⟩ : ∃ f, f = upd (upd fA (8 * a + 4) 1) (8 * a + 7) P := ⟨_, rfl⟩
  have v4 : fA' (8 * a + 4) = 1 := by rw [hf, upd_ne (by omega), upd_self]
  have v7 : fA' (8 * a + 7) = P := by rw [hf, upd_self]
  have vn : ∀ j, j ≠ 8 * a + 4 → j ≠ 8 * a + 7 → fA' j = fA j := fun j h1 h2 => by rw [hf, upd_ne h2, upd_ne h1]
  rw [← hf]
  obtain ⟨p1, p2, p3⟩ := pyT_v (fT := fT) (P := P) htg
  obtain ⟨e, he, hm⟩ := jE.2.2.2.1
  have hx := jC t ht
  have hy := jC g hg
  have hnp : (-P).toInt = -P.toInt := neg_toInt (by omega)
  have hv1 : (fT (2 * t) + -P).toInt = (fT (2 * t)).toInt - P.toInt := by rw [add_toInt (by omega) (by omega), hnp]; omega
  have hv1' : (fT (2 * t) - P).toInt = (fT (2 * t)).toInt - P.toInt := sub_toInt (by omega) (by omega)
  have hv2 : (fT (2 * g) + P).toInt = (fT (2 * g)).toInt + P.toInt := add_toInt (by omega) (by omega)
  have hne : (-(fE 9)).toInt = -(e : Int) := by rw [neg_toInt (by rw [hm, nI_toInt (by omega)]; omega), hm, nI_toInt (by omega)]
  rw [Int32.le_iff_toInt_le, hne, hv1'] at hc
  have hR4 : ∀ k, upd fR (4 * r + 3) 1 (4 * k) = fR (4 * k) := fun k => upd_ne (by omega)
  refine ⟨hR, hA, fun k hk => ?_, jA.chg (a := a) (fun j hj => vn j (by omega) (by omega)) hR4 (fun _ => ?_), fun k hk => ?_, jW.out (fun b hb => vn _ (by omega) (by omega)) (by rw [v4]; exact n10), fun k hk => ?_, ?_, fun k hk => ?_, fun k hk => ?_, jV.weigh 0 (Nat.zero_le 1) ?_ ?_, jE, jD.weigh jE⟩
  · obtain ⟨t', p', q1, q2, q3, q4, q5, q6⟩ := jR k hk
    refine ⟨t', p', q1, q2, q3, by rw [hR4]; exact q4, by rw [upd_ne (by omega)]; exact q5, ?_⟩
    by_cases z : k = r
    · subst z; rw [upd_self]; exact Or.inr (Or.inl rfl)
    · rw [upd_ne (by omega)]; exact q6
  · rw [v4, v7, vn _ (by omega) (by omega), vn _ (by omega) (by omega)]
    exact Or.inr (Or.inl ⟨rfl, s1, s2, hP⟩)
  · by_cases z : k = r
    · subst z
      rw [upd_self, if_pos rfl]
      have h0 := jP k hk
      rw [h3, if_neg n01] at h0
      have h1 : pcR fA' nA k = pcR fA nA k + 1 := by
        refine cp_one (nd_range nA) (mem_r0.mpr ha) ?_ ?_ (fun b hb hba => ?_)
        · rw [h4, decide_eq_false n01, Bool.and_false]
        · rw [v4, vn _ (by omega) (by omega), o2, decide_eq_true rfl, decide_eq_true rfl]; rfl
        · rw [vn _ (by omega) (by omega), vn _ (by omega) (by omega)]
      rw [h1, h0]
    · rw [upd_ne (by omega), ← jP k hk]
      refine cp_congr fun b hb => ?_
      rw [vn (8 * b + 1) (by omega) (by omega)]
      by_cases y : b = a
      · subst y
        have hkr : ¬ fA (8 * b + 1) = nI k := fun x => by
          rw [o2, nI_inj (by omega) (by omega)] at x
          exact z x.symm
        rw [decide_eq_false hkr, Bool.false_and, Bool.false_and]
      · rw [vn (8 * b + 4) (by omega) (by omega)]
  · have hn : smI (net (upd fR (4 * r + 3) 1) fA' k) (List.range' 0 nA) = smI (net fR fA k) (List.range' 0 nA) + ((if nI g = nI k then P else 0) - (if nI t = nI k then P else 0)) := by
      refine smI_one (nd_range nA) (mem_r0.mpr ha) ?_ (fun b _ hb => ?_)
      · unfold net
        rw [vn (8 * a) (by omega) (by omega), vn (8 * a + 1) (by omega) (by omega), v7, s3, hR4, o1, o2, nI_clamp (by omega), o4, ite_self, ite_self, Int32.sub_self, Int32.zero_add]
      · unfold net
        rw [vn (8 * b) (by omega) (by omega), vn (8 * b + 1) (by omega) (by omega), vn (8 * b + 7) (by omega) (by omega), hR4]
    rw [hn, p3 (2 * k + 1) (by omega) (by omega)]
    by_cases z : k = t
    · subst z
      rw [p1, jM k hk, if_neg (fun x => htg ((nI_inj (by omega) (by omega)).mp x).symm), if_pos rfl, Int32.zero_sub, Int32.add_assoc]
    · by_cases y : k = g
      · subst y
        rw [p2, jM k hk, if_pos rfl, if_neg (fun x => htg ((nI_inj (by omega) (by omega)).mp x)), Int32.sub_zero, Int32.add_assoc]
      · rw [p3 (2 * k) (by omega) (by omega), jM k hk, if_neg (fun x => y ((nI_inj (by omega) (by omega)).mp x).symm), if_neg (fun x => z ((nI_inj (by omega) (by omega)).mp x).symm), Int32.sub_self, Int32.add_zero]
  · obtain ⟨f1, hf1⟩ : ∃ f, f = upd fT (2 * t) (fT (2 * t) + -P) := ⟨_, rfl⟩
    have u1 : smI (fun k => f1 (2 * k) + f1 (2 * k + 1)) (List.range' 0 8) = smI (fun k => fT (2 * k) + fT (2 * k + 1)) (List.range' 0 8) + -P := by
      refine smI_one (nd_range 8) (mem_r0.mpr ht) ?_ (fun b _ hb => ?_)
      · rw [hf1, upd_self, upd_ne (by omega)]; ac_rfl
      · rw [hf1, upd_ne (by omega), upd_ne (by omega)]
    have u2 : smI (fun k => pyT fT t g P (2 * k) + pyT fT t g P (2 * k + 1)) (List.range' 0 8) = smI (fun k => f1 (2 * k) + f1 (2 * k + 1)) (List.range' 0 8) + P := by
      refine smI_one (nd_range 8) (mem_r0.mpr hg) ?_ (fun b _ hb => ?_)
      · rw [p2, p3 _ (by omega) (by omega), hf1, upd_ne (by omega), upd_ne (by omega)]; ac_rfl
      · rw [hf1]; unfold pyT; rw [upd_ne (by omega), upd_ne (show 2 * b + 1 ≠ 2 * g by omega)]
    show smI (fun k => pyT fT t g P (2 * k) + pyT fT t g P (2 * k + 1)) (List.range' 0 8) = 800
    have jS' : smI (fun k => fT (2 * k) + fT (2 * k + 1)) (List.range' 0 8) = 800 := jS
    rw [u2, u1, jS', Int32.add_assoc, Int32.add_comm (-P) P, ← Int32.sub_eq_add_neg, Int32.sub_self, Int32.add_zero]
  · by_cases z : k = t
    · subst z; rw [p1]; omega
    · by_cases y : k = g
      · subst y; rw [p2]; omega
      · rw [p3 _ (by omega) (by omega)]; have := jC k hk; omega
  · rw [p3 _ (by omega) (by omega)]; exact jF k hk
  · rw [show nI 0 = (0 : Int32) from rfl, Int32.add_zero]
    exact smI_congr fun b _ => vn _ (by omega) (by omega)
  · have : st1 fA' nA = st1 fA nA + 1 := by
      refine cp_one (nd_range nA) (mem_r0.mpr ha) (by rw [h4]; decide) (by rw [v4]; decide) (fun b hb hba => ?_)
      rw [vn _ (by omega) (by omega)]
    omega
theorem op_pay {fR : F_} {nR r : Nat} (hr : r < nR) (h3 : fR (4 * r + 3) = 0) : op (upd fR (4 * r + 3) 1) nR + 1 = op fR nR := by
  refine (cp_one (nd_range nR) (mem_r0.mpr hr) (by rw [upd_self]; decide) (by rw [h3]; decide) (fun b _ hb => ?_)).symm
  rw [upd_ne (by omega)]
theorem take_one {fT fR fA fS fE ri : F_} {hd ln : Int32} {nR nA a : Nat} {q : List Nat} {lo hi nf : Int} {B : Nat} (h : JC fT fR fA fS fE nR nA (a :: q) lo hi nf B) (hq : QI ri hd ln q) (hl : q.length < 40) (b1 : -1000000000 ≤ lo) (b2 : lo ≤ -500) (b3 : hi ≤ 1000000000) :
    ∃ (p : Nat) (fT' fR' fA' fS' ri' : F_) (ln' : Int32) (q' : List Nat), p ≤ 1 ∧ d_X0_takeOne (nI a) fT fR fA fS fE ri hd ln = some (nI p, fT', fR', fA', fS', ri', ln') ∧ JC fT' fR' fA' fS' fE nR nA q' lo (hi + 200) nf (B + 1) ∧ QI ri' hd ln' q' ∧ q'.length + p ≤ q.length + 1 ∧ q.length ≤ q'.length ∧ op fR' nR + p = op fR nR := by
  obtain ⟨ha, h4⟩ := (h.2.2.2.2.2.1.2 a).mp List.mem_cons_self
  obtain ⟨r, w, t, g, ho, hrn, hw1, hw2, htg, t0, t2, pb⟩ := h.ans ha
  obtain ⟨-, -, -, -, -, -, -, -, -, -, -, hAS⟩ := h.2.2.2.1 a ha
  obtain ⟨s1, ⟨d, hd3, hd6⟩, s3⟩ := as_wait hAS h4
  have kT := e_takeOne (fT := fT) (fS := fS) (fE := fE) (ri := ri) (hd := hd) (ln := ln) ho hd6 hd3 _ rfl
  have hql : (q ++ [a]).length = q.length + 1 := by simp
  rw [kT]
  by_cases c1 : fR (4 * r + 3) = 0
  · simp only [if_pos c1]
    by_cases c2 : fR (4 * r + 2) = fA (8 * a + 2)
    · simp only [if_pos c2]
      by_cases c3 : ab (tl (nI w + fS 0) - tl (nI w + fS 2)) ≤ fE 0
      · simp only [if_pos c3]
        by_cases c4 : -(fE 9) ≤ fT (2 * t) - pm (fR (4 * r + 1)) (tl (nI w + fS 0)) (tl (nI w + fS 2))
        · simp only [if_pos c4]
          exact ⟨1, _, _, _, _, _, _, q, Nat.le_refl 1, rfl, h.pay ho hrn htg c1 c4 pb b1 b2 b3, hq, Nat.le_refl _, Nat.le_refl _, op_pay hrn c1⟩
        · simp only [if_neg c4]
          obtain ⟨ri', ln', g1, g3⟩ := hq.add (a := a) hl
          rw [g1, ob2_some]
          exact ⟨0, _, _, _, _, _, _, q ++ [a], Nat.zero_le 1, rfl, h.requeue.mono (Int.le_refl _) (by omega) (Int.le_refl _) (Nat.le_refl _), g3, by omega, by omega, rfl⟩
      · simp only [if_neg c3]
        by_cases c5 : d = 2
        · subst c5
          rw [if_pos rfl]
          exact ⟨0, _, _, _, _, _, _, q, Nat.zero_le 1, rfl, (h.doubt3 hd6).mono (Int.le_refl _) (by omega) (Int.le_refl _) (Nat.le_refl _), hq, by omega, Nat.le_refl _, rfl⟩
        · simp only [if_neg c5]
          obtain ⟨ri', ln', g1, g3⟩ := hq.add (a := a) hl
          rw [g1, ob2_some]
          exact ⟨0, _, _, _, _, _, _, q ++ [a], Nat.zero_le 1, rfl, (h.doubt hd6 (by omega)).mono (Int.le_refl _) (by omega) (Int.le_refl _) (Nat.le_refl _), g3, by omega, by omega, rfl⟩
    · simp only [if_neg c2]
      exact ⟨0, _, _, _, _, _, _, q, Nat.zero_le 1, rfl, (h.refuse (Or.inr rfl)).mono (Int.le_refl _) (by omega) (Int.le_refl _) (Nat.le_succ _), hq, by omega, Nat.le_refl _, rfl⟩
  · simp only [if_neg c1]
    exact ⟨0, _, _, _, _, _, _, q, Nat.zero_le 1, rfl, (h.refuse (Or.inl rfl)).mono (Int.le_refl _) (by omega) (Int.le_refl _) (Nat.le_succ _), hq, by omega, Nat.le_refl _, rfl⟩
