/-! part 42: what one answer that is taken comes to, on both sides -/
def tl (x : Int32) : Int32 := if 0 < x then x else 0
def ab (x : Int32) : Int32 := if 0 ≤ x then x else -x
def dr (x m : Int32) : Int32 := if ab x ≤ m then x else if x ≤ 0 then m else -m
theorem ab_eq (x : Int32) : (if 0 ≤ x then x else 0 - x) = ab x := by unfold ab; rw [Int32.zero_sub]
theorem size_ab (x : Int32) : d_X6_size x = ab x := rfl
theorem tl_le (x : Int32) : (if 0 ≤ x then some x else some 0) = some (tl x) := by
  unfold tl
  by_cases c : 0 < x
  · rw [if_pos c, if_pos (Int32.le_of_lt c)]
  · rw [if_neg c]
    by_cases d : 0 ≤ x
    · rw [if_pos d, Int32.le_antisymm (Int32.not_lt.mp c) d]
    · rw [if_neg d]
theorem e_told0 {p : Int32} {fS : F_} : d_X0_told 0 p fS = some (tl (p + fS 0)) := by
  unfold d_X0_told; rw [getS_00, ob1_some]; rfl
theorem e_told1 {p : Int32} {fS : F_} : d_X0_told 1 p fS = some (tl (p + fS 2)) := by
  unfold d_X0_told; rw [getS_10, ob1_some]; rfl
theorem e_tells0 {p : Int32} {s : F_} : d_X6_tells 0 p s = some (tl (p + s 477)) := by
  unfold d_X6_tells; rw [rd477_0, ob1_some, tl_le]
theorem e_tells1 {p : Int32} {s : F_} : d_X6_tells 1 p s = some (tl (p + s 478)) := by
  unfold d_X6_tells; rw [rd477_1, ob1_some, tl_le]
theorem e_j45_0 {fE fS : F_} {p2 x : Int32} : j_X0_driftOn_45 fE 0 p2 x fS = some (upd (upd fS 0 x) 1 (fS 1 + 1)) := by
  unfold j_X0_driftOn_45; rw [putS_00, ob1_some, incS_01, ob1_some, upd_ne (f := fS) (by decide)]
theorem e_j45_1 {fE fS : F_} {p2 x : Int32} : j_X0_driftOn_45 fE 1 p2 x fS = some (upd (upd fS 2 x) 3 (fS 3 + 1)) := by
  unfold j_X0_driftOn_45; rw [putS_10, ob1_some, incS_11, ob1_some, upd_ne (f := fS) (by decide)]
theorem dr_ite {B : Type} (x m : Int32) (k : Int32 → B) : (if ab x ≤ m then k x else if x ≤ 0 then k m else k (-m)) = k (dr x m) := by
  unfold dr
  by_cases c : ab x ≤ m
  · rw [if_pos c, if_pos c]
  · rw [if_neg c, if_neg c]
    by_cases d : x ≤ 0
    · rw [if_pos d, if_pos d]
    · rw [if_neg d, if_neg d]
theorem e_driftOn0 {fS fE : F_} : d_X0_driftOn 0 1 fS fE = some (upd (upd fS 0 (dr (fS 0 + 1) (fE 3))) 1 (fS 1 + 1)) := by
  unfold d_X0_driftOn
  rw [getS_00, ob1_some, getE_10, ob1_some, ab_eq, dr_ite (fS 0 + 1) (fE 3) (fun x => j_X0_driftOn_45 fE 0 1 x fS), e_j45_0]
theorem e_driftOn1 {fS fE : F_} : d_X0_driftOn 1 (-1) fS fE = some (upd (upd fS 2 (dr (fS 2 + (-1)) (fE 3))) 3 (fS 3 + 1)) := by
  unfold d_X0_driftOn
  rw [getS_10, ob1_some, getE_10, ob1_some, ab_eq, dr_ite (fS 2 + (-1)) (fE 3) (fun x => j_X0_driftOn_45 fE 1 (-1) x fS), e_j45_1]
theorem dr_ite' {B : Type} (x m : Int32) (k : Int32 → B) : (if m < ab x then (if x ≤ 0 then k m else k (-m)) else k x) = k (dr x m) := by
  rw [← dr_ite x m k]
  by_cases c : ab x ≤ m
  · rw [if_pos c, if_neg (Int32.not_lt.mpr c)]
  · rw [if_neg c, if_pos (Int32.not_le.mp c)]
theorem e_drifts0 {s : F_} : d_X6_drifts 0 s = some (upd s 477 (dr (s 477 + 1) (s 480))) := by
  unfold d_X6_drifts
  rw [rd477_0, ob1_some, if_pos rfl]
  unfold j_X6_drifts_21
  rw [rd480, ob1_some]
  simp only [wr477_0, ob1_some, size_ab]
  exact dr_ite' (s 477 + 1) (s 480) (fun x => some (upd s 477 x))
theorem e_drifts1 {s : F_} : d_X6_drifts 1 s = some (upd s 478 (dr (s 478 + (-1)) (s 480))) := by
  unfold d_X6_drifts
  rw [rd477_1, ob1_some, if_neg (by decide)]
  unfold j_X6_drifts_21
  rw [rd480, ob1_some]
  simp only [wr477_1, ob1_some, size_ab]
  exact dr_ite' (s 478 + (-1)) (s 480) (fun x => some (upd s 478 x))
/-- an answer and its riddle as numbers -/
def AO (fR fA : F_) (a r w t g : Nat) : Prop := a < 40 ∧ r < 20 ∧ t < 8 ∧ g < 8 ∧ fA (8 * a) = nI g ∧ fA (8 * a + 1) = nI r ∧ fA (8 * a + 3) = nI w ∧ fR (4 * r) = nI t
def MO (s : F_) (a r w t g : Nat) : Prop := a < 40 ∧ r < 20 ∧ t < 8 ∧ g < 8 ∧ s (116 + 8 * a) = nI g ∧ s (116 + (8 * a + 1)) = nI r ∧ s (116 + (8 * a + 3)) = nI w ∧ s (16 + 5 * r) = nI t
def pm (price : Int32) (x y : Int32) : Int32 := price + (x + y) / 10
theorem e_paymentFor {fR fA fS : F_} {a r w t g : Nat} (h : AO fR fA a r w t g) : d_X0_paymentFor (nI a) fR fA fS = some (pm (fR (4 * r + 1)) (tl (nI w + fS 0)) (tl (nI w + fS 2))) := by
  obtain ⟨ha, hr, ht, hg, h1, h2, h3, h4⟩ := h
  unfold d_X0_paymentFor
  rw [getA3 ha, ob1_some, getA1 ha, ob1_some, h2, getR1 hr, ob1_some, h3, e_told0, ob1_some, e_told1, ob1_some]
  rfl
theorem e_hind {fT fR fA fS fE : F_} {a r w t g : Nat} {p : Int32} (h : AO fR fA a r w t g) : d_X0_hindrance (nI a) p fT fR fA fS fE =
    some (if fR (4 * r + 3) = 0 then if fR (4 * r + 2) = fA (8 * a + 2) then if ab (tl (nI w + fS 0) - tl (nI w + fS 2)) ≤ fE 0 then if -(fE 9) ≤ fT (2 * t) - p then 0 else 4 else 3 else 2 else 1) := by
  obtain ⟨ha, hr, ht, hg, h1, h2, h3, h4⟩ := h
  unfold d_X0_hindrance
  rw [getA1 ha, ob1_some, h2, getR3 hr, ob1_some]
  by_cases c1 : fR (4 * r + 3) = 0
  · rw [if_pos c1, if_pos c1, getR2 hr, ob1_some, getA2 ha, ob1_some]
    by_cases c2 : fR (4 * r + 2) = fA (8 * a + 2)
    · rw [if_pos c2, if_pos c2, getA3 ha, ob1_some, h3, e_told0, ob1_some, e_told1, ob1_some, getE_00, ob1_some, ab_eq]
      by_cases c3 : ab (tl (nI w + fS 0) - tl (nI w + fS 2)) ≤ fE 0
      · rw [if_pos c3, if_pos c3, getR0 hr, ob1_some, h4, getT0 ht, ob1_some, getE_30, ob1_some]
        by_cases c4 : -(fE 9) ≤ fT (2 * t) - p
        · rw [if_pos c4, if_pos c4]
        · rw [if_neg c4, if_neg c4]
      · rw [if_neg c3, if_neg c3]
    · rw [if_neg c2, if_neg c2]
  · rw [if_neg c1, if_neg c1]
theorem e_refuse {fA : F_} {a : Nat} {p : Int32} (ha : a < 40) : d_X0_refuse (nI a) p fA = some (upd (upd fA (8 * a + 4) 2) (8 * a + 5) p) := by
  unfold d_X0_refuse
  rw [putA4 ha, ob1_some, putA5 ha, ob1_some]
theorem e_refuses {s : F_} {a : Nat} {p : Int32} (ha : a < 40) : d_X6_refuses (nI a) p s = some (upd (upd s (116 + (8 * a + 4)) 2) (116 + (8 * a + 5)) p) := by
  unfold d_X6_refuses
  rw [wrA4 ha, ob1_some, wrA5 ha, ob1_some]
theorem e_payment {s : F_} {a r w t g : Nat} {x y : Int32} (h : MO s a r w t g) : d_X6_payment (nI a) x y s = some (pm (s (16 + (5 * r + 1))) x y) := by
  obtain ⟨ha, hr, ht, hg, h1, h2, h3, h4⟩ := h
  unfold d_X6_payment
  rw [rdA1 ha, ob1_some, h2, rdR1 hr, ob1_some]
  rfl
theorem e_canPay {s : F_} {a r w t g : Nat} {p : Int32} (h : MO s a r w t g) : d_X6_canPay (nI a) p s = some (if s t - p < -(s 482) then 0 else 1) := by
  obtain ⟨ha, hr, ht, hg, h1, h2, h3, h4⟩ := h
  unfold d_X6_canPay
  rw [rdA1 ha, ob1_some, h2, rdR0 hr, ob1_some, h4, rdp0 ht, ob1_some, rd482, ob1_some]
  by_cases c : s t - p < -(s 482)
  · rw [if_pos c, if_pos c]
  · rw [if_neg c, if_neg c]
def wgS (fS fE : F_) : F_ := upd (upd (upd (upd fS 0 (dr (fS 0 + 1) (fE 3))) 1 (fS 1 + 1)) 2 (dr (fS 2 + (-1)) (fE 3))) 3 (fS 3 + 1)
def wgM (s : F_) : F_ := upd (upd (upd s 477 (dr (s 477 + 1) (s 480))) 478 (dr (s 478 + (-1)) (s 480))) 488 (s 488 + 2)
def pyT (fT : F_) (t g : Nat) (p : Int32) : F_ := upd (upd fT (2 * t) (fT (2 * t) + -p)) (2 * g) (upd fT (2 * t) (fT (2 * t) + -p) (2 * g) + p)
def pyM (s : F_) (t g : Nat) (p : Int32) : F_ := upd (upd s t (s t - p)) g (upd s t (s t - p) g + p)
theorem wgM_ne {s : F_} {j : Nat} (h : j ≠ 477 ∧ j ≠ 478 ∧ j ≠ 488) : wgM s j = s j := by
  unfold wgM
  rw [upd_ne h.2.2, upd_ne h.2.1, upd_ne h.1]
theorem pyM_ne {s : F_} {t g j : Nat} {p : Int32} (h : j ≠ t ∧ j ≠ g) : pyM s t g p j = s j := by
  unfold pyM
  rw [upd_ne h.2, upd_ne h.1]
theorem e_weigh {fS fE : F_} {B : Type} (k : F_ → Option B) : (ob1 (d_X0_driftOn 0 1 fS fE) fun f => ob1 (d_X0_driftOn 1 (-1) f fE) k) = k (wgS fS fE) := by
  rw [e_driftOn0, ob1_some, e_driftOn1, ob1_some]
  simp only [upd_ne (show (2 : Nat) ≠ 1 by decide), upd_ne (show (2 : Nat) ≠ 0 by decide), upd_ne (show (3 : Nat) ≠ 1 by decide), upd_ne (show (3 : Nat) ≠ 0 by decide)]
  rfl
theorem e_pay {fT fR fA : F_} {a r w t g : Nat} {p : Int32} (h : AO fR fA a r w t g) : d_X0_pay (nI a) p fT fR fA = some (pyT fT t g p, upd fR (4 * r + 3) 1, upd (upd fA (8 * a + 4) 1) (8 * a + 7) p) := by
  obtain ⟨ha, hr, ht, hg, h1, h2, h3, h4⟩ := h
  unfold d_X0_pay
  rw [getA1 ha, ob1_some, h2, getR0 hr, ob1_some, h4, incT0 ht, ob1_some, getA0 ha, ob1_some, h1, incT0 hg, ob1_some, putA4 ha, ob1_some, putA7 ha, ob1_some, putR3 hr, ob1_some]
  rfl
theorem e_doubt {fA ri : F_} {a d : Nat} {hd ln : Int32} (ha : a < 40) (hd' : fA (8 * a + 6) = nI d) (h3 : d < 3) : d_X0_doubt (nI a) fA ri hd ln =
    if d = 2 then some (upd (upd (upd fA (8 * a + 6) (nI 3)) (8 * a + 4) 2) (8 * a + 5) 3, ri, ln) else ob2 (d_X3_addLast (nI a) ri hd ln) fun r l => some (upd fA (8 * a + 6) (nI (d + 1)), r, l) := by
  unfold d_X0_doubt
  rw [incA6 ha, ob1_some, getA6 ha, ob1_some, upd_self, hd', show nI d + 1 = nI (d + 1) from nJ_add d 1, e_refuse ha, ob1_some]
  by_cases c : d = 2
  · subst c
    rw [if_neg (by decide), if_pos rfl]
  · rw [if_pos (show nI (d + 1) < (3 : Int32) from nI_lt (b := 3) (show d + 1 < 3 by omega) (by decide)), if_neg c]
/-- the class takes one answer -/
theorem e_takeOne {fT fR fA fS fE ri : F_} {hd ln : Int32} {a r w t g d : Nat} (h : AO fR fA a r w t g) (hd' : fA (8 * a + 6) = nI d) (h3 : d < 3) (P : Int32) (hP : P = pm (fR (4 * r + 1)) (tl (nI w + fS 0)) (tl (nI w + fS 2))) :
    d_X0_takeOne (nI a) fT fR fA fS fE ri hd ln =
    if fR (4 * r + 3) = 0 then if fR (4 * r + 2) = fA (8 * a + 2) then if ab (tl (nI w + fS 0) - tl (nI w + fS 2)) ≤ fE 0 then if -(fE 9) ≤ fT (2 * t) - P
      then some (1, pyT fT t g P, upd fR (4 * r + 3) 1, upd (upd fA (8 * a + 4) 1) (8 * a + 7) P, wgS fS fE, ri, ln)
      else ob2 (d_X3_addLast (nI a) ri hd ln) fun x y => some (0, fT, fR, fA, wgS fS fE, x, y)
      else if d = 2 then some (0, fT, fR, upd (upd (upd fA (8 * a + 6) (nI 3)) (8 * a + 4) 2) (8 * a + 5) 3, wgS fS fE, ri, ln)
        else ob2 (d_X3_addLast (nI a) ri hd ln) fun x y => some (0, fT, fR, upd fA (8 * a + 6) (nI (d + 1)), wgS fS fE, x, y)
      else some (0, fT, fR, upd (upd fA (8 * a + 4) 2) (8 * a + 5) 2, fS, ri, ln)
      else some (0, fT, fR, upd (upd fA (8 * a + 4) 2) (8 * a + 5) 1, fS, ri, ln) := by
  have ha := h.1
  unfold d_X0_takeOne
  rw [e_paymentFor h, ob1_some, ← hP, e_hind h, ob1_some]
  by_cases c1 : fR (4 * r + 3) = 0
  · simp only [if_pos c1]
    by_cases c2 : fR (4 * r + 2) = fA (8 * a + 2)
    · simp only [if_pos c2]
      by_cases c3 : ab (tl (nI w + fS 0) - tl (nI w + fS 2)) ≤ fE 0
      · simp only [if_pos c3]
        by_cases c4 : -(fE 9) ≤ fT (2 * t) - P
        · simp only [if_pos c4]
          rw [if_neg (by decide), if_neg (by decide), e_weigh, if_neg (by decide), if_neg (by decide), e_pay h, ob3_some]
        · simp only [if_neg c4]
          rw [if_neg (by decide), if_neg (by decide), e_weigh, if_neg (by decide), if_pos trivial]
      · simp only [if_neg c3]
        rw [if_neg (by decide), if_neg (by decide), e_weigh, if_pos trivial, e_doubt ha hd' h3]
        by_cases c5 : d = 2
        · rw [if_pos c5, if_pos c5, ob3_some]
        · rw [if_neg c5, if_neg c5]
          cases d_X3_addLast (nI a) ri hd ln <;> rfl
    · simp only [if_neg c2]
      rw [if_neg (by decide), if_pos trivial]
      unfold j_X0_takeOne_23
      rw [e_refuse ha, ob1_some]
  · simp only [if_neg c1]
    rw [if_pos trivial]
    unfold j_X0_takeOne_23
    rw [e_refuse ha, ob1_some]
