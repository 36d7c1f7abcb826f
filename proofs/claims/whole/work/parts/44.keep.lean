/-! part 44: what one answer that is taken leaves of the relation -/
theorem add_toInt {a b : Int32} (h1 : -2147483648 ≤ a.toInt + b.toInt) (h2 : a.toInt + b.toInt < 2147483648) : (a + b).toInt = a.toInt + b.toInt := by
  rw [Int32.toInt_add]; exact Int.bmod_eq_of_le (by omega) (by omega)
theorem sub_toInt {a b : Int32} (h1 : -2147483648 ≤ a.toInt - b.toInt) (h2 : a.toInt - b.toInt < 2147483648) : (a - b).toInt = a.toInt - b.toInt := by
  rw [Int32.toInt_sub]; exact Int.bmod_eq_of_le (by omega) (by omega)
theorem neg_toInt {a : Int32} (h1 : -2147483648 < a.toInt) : (-a).toInt = -a.toInt := by
  have := a.toInt_lt
  rw [Int32.toInt_neg]; exact Int.bmod_eq_of_le (by omega) (by omega)
theorem i1 : (1 : Int32).toInt = 1 := rfl
theorem i0 : (0 : Int32).toInt = 0 := rfl
theorem im1 : (-1 : Int32).toInt = -1 := rfl
theorem ab_toInt {x : Int32} (h : -2147483648 < x.toInt) : (ab x).toInt = if 0 ≤ x.toInt then x.toInt else -x.toInt := by
  unfold ab
  by_cases c : 0 ≤ x
  · rw [if_pos c, if_pos]; rw [Int32.le_iff_toInt_le] at c; exact c
  · rw [if_neg c, if_neg, neg_toInt h]; rw [Int32.le_iff_toInt_le] at c; exact c
theorem dr_bd {x m : Int32} {e : Nat} (hm : m = nI e) (he : e ≤ 9) (h1 : -10 ≤ x.toInt) (h2 : x.toInt ≤ 10) : -9 ≤ (dr x m).toInt ∧ (dr x m).toInt ≤ 9 := by
  have hmi : m.toInt = e := by rw [hm, nI_toInt (by omega)]
  unfold dr
  by_cases c : ab x ≤ m
  · rw [if_pos c]
    rw [Int32.le_iff_toInt_le, ab_toInt (by omega), hmi] at c
    by_cases d : 0 ≤ x.toInt
    · rw [if_pos d] at c; omega
    · rw [if_neg d] at c; omega
  · rw [if_neg c]
    by_cases d : x ≤ 0
    · rw [if_pos d, hmi]; omega
    · rw [if_neg d, neg_toInt (by omega), hmi]; omega
theorem tl_bd {x : Int32} {k : Int} (h0 : 0 ≤ k) (h : x.toInt ≤ k) : 0 ≤ (tl x).toInt ∧ (tl x).toInt ≤ k := by
  unfold tl
  by_cases c : 0 < x
  · rw [if_pos c]; rw [Int32.lt_iff_toInt_lt] at c; rw [i0] at c; omega
  · rw [if_neg c, i0]; omega
theorem pm_bd {p : Int32} {x y : Int32} {n : Nat} (hp : p = nI n) (hn : n ≤ 50) (hx : 0 ≤ x.toInt ∧ x.toInt ≤ 108) (hy : 0 ≤ y.toInt ∧ y.toInt ≤ 108) : 0 ≤ (pm p x y).toInt ∧ (pm p x y).toInt ≤ 200 := by
  have h1 : (x + y).toInt = x.toInt + y.toInt := add_toInt (by omega) (by omega)
  have h2 : ((x + y) / 10).toInt = (x + y).toInt.tdiv (10 : Int32).toInt := Int32.toInt_div_of_ne_right _ _ (by decide)
  have h3 : (10 : Int32).toInt = 10 := rfl
  rw [h1, h3, Int.tdiv_eq_ediv_of_nonneg (by omega)] at h2
  have h4 : p.toInt = n := by rw [hp, nI_toInt (by omega)]
  have h5 : (pm p x y).toInt = p.toInt + ((x + y) / 10).toInt := add_toInt (by omega) (by omega)
  omega
/-! single writes -/
theorem upd_comm {f : F_} {k j : Nat} {x y : Int32} (h : k ≠ j) : upd (upd f k x) j y = upd (upd f j y) k x := by
  funext i
  by_cases e : i = j
  · subst e; rw [upd_self, upd_ne (by omega), upd_self]
  · rw [upd_ne e]
    by_cases e2 : i = k
    · subst e2; rw [upd_self, upd_self]
    · rw [upd_ne e2, upd_ne e2, upd_ne e]
theorem RA.set {fA s : F_} {nA k : Nat} {v : Int32} (hk : k < 320) (h6 : ∀ a, 8 * a + 6 ≠ k ∧ 8 * a + 7 ≠ k) (h : RA fA nA s) : RA (upd fA k v) nA (upd s (116 + k) v) := by
  obtain ⟨h1, h2, h3, h4, h5⟩ := h
  refine ⟨h1, by rw [upd_ne (by omega)]; exact h2, fun j hj => ?_, ?_, ?_⟩
  · by_cases e : j = k
    · subst e; rw [upd_self, upd_self]
    · rw [upd_ne (by omega), upd_ne e]; exact h3 j hj
  · rw [upd_ne (by omega), h4]; exact smI_congr fun a _ => (upd_ne (h6 a).1).symm
  · rw [upd_ne (by omega), h5]; exact smI_congr fun a _ => (upd_ne (h6 a).2).symm
theorem RA.set6 {fA s : F_} {nA a : Nat} {v x y : Int32} (ha : a < nA) (hv : v = fA (8 * a + 6) + x) (hy : y = s 487 + x) (h : RA fA nA s) : RA (upd fA (8 * a + 6) v) nA (upd (upd s (116 + (8 * a + 6)) v) 487 y) := by
  obtain ⟨h1, h2, h3, h4, h5⟩ := h
  refine ⟨h1, by rw [upd_ne (by omega), upd_ne (by omega)]; exact h2, fun j hj => ?_, ?_, ?_⟩
  · rw [upd_ne (by omega)]
    by_cases e : j = 8 * a + 6
    · subst e; rw [upd_self, upd_self]
    · rw [upd_ne (by omega), upd_ne e]; exact h3 j hj
  · rw [upd_self, hy, h4]
    exact (smI_one (nd_range nA) (mem_r0.mpr ha) (by rw [upd_self, hv]) (fun b _ hb => upd_ne (by omega))).symm
  · rw [upd_ne (by omega), upd_ne (by omega), h5]; exact smI_congr fun b _ => (upd_ne (by omega)).symm
theorem RA.set7 {fA s : F_} {nA a : Nat} {v : Int32} (ha : a < nA) (h0 : fA (8 * a + 7) = 0) (h : RA fA nA s) : RA (upd fA (8 * a + 7) v) nA (upd (upd s 489 (s 489 + v)) (116 + (8 * a + 7)) v) := by
  obtain ⟨h1, h2, h3, h4, h5⟩ := h
  refine ⟨h1, by rw [upd_ne (by omega), upd_ne (by omega)]; exact h2, fun j hj => ?_, ?_, ?_⟩
  · by_cases e : j = 8 * a + 7
    · subst e; rw [upd_self, upd_self]
    · rw [upd_ne (by omega), upd_ne (by omega), upd_ne e]; exact h3 j hj
  · rw [upd_ne (by omega), upd_ne (by omega), h4]; exact smI_congr fun b _ => (upd_ne (by omega)).symm
  · rw [upd_ne (by omega), upd_self, h5]
    exact (smI_one (nd_range nA) (mem_r0.mpr ha) (by rw [upd_self, h0, Int32.zero_add]) (fun b _ hb => upd_ne (by omega))).symm
theorem RT.set {fT s : F_} {t : Nat} {v : Int32} (ht : t < 8) (h : RT fT s) : RT (upd fT (2 * t) v) (upd s t v) := by
  refine ⟨fun j hj => ?_, fun j hj => ?_, ?_⟩
  · by_cases e : j = t
    · subst e; rw [upd_self, upd_self]
    · rw [upd_ne e, upd_ne (by omega)]; exact h.1 j hj
  · rw [upd_ne (by omega), upd_ne (by omega)]; exact h.2.1 j hj
  · rw [upd_ne (by omega), h.2.2]; exact smI_congr fun b _ => (upd_ne (by omega)).symm
theorem RR.set3 {fR s : F_} {nR r : Nat} {v : Int32} (hr : r < 20) (h : RR fR nR s) : RR (upd fR (4 * r + 3) v) nR (upd s (16 + (5 * r + 3)) v) := by
  refine ⟨h.1, by rw [upd_ne (by omega)]; exact h.2.1, fun j hj => ?_⟩
  rw [upd_ne (show 16 + 5 * j ≠ _ by omega), upd_ne (show 16 + (5 * j + 1) ≠ _ by omega), upd_ne (show 16 + (5 * j + 2) ≠ _ by omega), upd_ne (show 4 * j ≠ _ by omega), upd_ne (show 4 * j + 1 ≠ _ by omega), upd_ne (show 4 * j + 2 ≠ _ by omega)]
  obtain ⟨g1, g2, g3, g4⟩ := h.2.2 j hj
  refine ⟨g1, g2, g3, ?_⟩
  by_cases e : j = r
  · subst e; rw [upd_self, upd_self]
  · rw [upd_ne (by omega), upd_ne (by omega)]; exact g4
theorem RP.chg {fR fA fA' : F_} {nR nA : Nat} {s : F_} (g1 : ∀ b, fA' (8 * b + 1) = fA (8 * b + 1)) (g4 : ∀ b, b < nA → (fA' (8 * b + 4) = 1 ↔ fA (8 * b + 4) = 1)) (h : RP fR fA nR nA s) : RP fR fA' nR nA s := by
  intro r hr
  rcases h r hr with ⟨h1, h2⟩ | ⟨h1, a, ha, h2, h3, h4, h5⟩
  · exact Or.inl ⟨h1, fun a ha e => by rw [g1] at e; rw [ne_eq, g4 a ha]; exact h2 a ha e⟩
  · exact Or.inr ⟨h1, a, ha, h2, by rw [g1]; exact h3, (g4 a ha).mpr h4, fun b hb e f => h5 b hb (by rw [g1] at e; exact e) ((g4 b hb).mp f)⟩
theorem IA.chg {fA fA' : F_} {nR nA : Nat} (g : ∀ b, b < nA → fA' (8 * b) = fA (8 * b) ∧ fA' (8 * b + 1) = fA (8 * b + 1) ∧ fA' (8 * b + 3) = fA (8 * b + 3) ∧ (fA' (8 * b + 4) = 0 → fA (8 * b + 4) = 0 ∧ (∃ d, d < 3 ∧ fA' (8 * b + 6) = nI d) ∧ fA' (8 * b + 7) = 0)) (h : IA fA nR nA) : IA fA' nR nA := by
  intro a ha
  obtain ⟨g0, g1, g3, g4⟩ := g a ha
  obtain ⟨h1, h2, h3, h4⟩ := h a ha
  exact ⟨by rw [g0]; exact h1, by rw [g1]; exact h2, by rw [g3]; exact h3, fun e => (g4 e).2⟩
theorem n20 : ¬ (2 : Int32) = 0 := by decide
theorem n21 : ¬ (2 : Int32) = 1 := by decide
theorem n10 : ¬ (1 : Int32) = 0 := by decide
theorem n01 : ¬ (0 : Int32) = 1 := by decide
theorem RM.refuse {fT fR fA fS fE : F_} {nR nA a : Nat} {q : List Nat} {lo hi : Int} {s : F_} (v : Int32) (h : RM fT fR fA fS fE nR nA (a :: q) lo hi s) :
    RM fT fR (upd (upd fA (8 * a + 4) 2) (8 * a + 5) v) fS fE nR nA q lo hi (upd (upd s (116 + (8 * a + 4)) 2) (116 + (8 * a + 5)) v) := by
  obtain ⟨hT, hR, hA, hP, hS, hE, jA, jR, jW, jE, jD, jC⟩ := h
  obtain ⟨ha, h4⟩ := (jW.2 a).mp List.mem_cons_self
  have ha' : a < 40 := Nat.lt_of_lt_of_le ha hA.1
  have hn := List.nodup_cons.mp jW.1
  have e4 : ∀ b, b ≠ a → upd (upd fA (8 * a + 4) 2) (8 * a + 5) v (8 * b + 4) = fA (8 * b + 4) := fun b hb => by rw [upd_ne (by omega), upd_ne (by omega)]
  have e4a : upd (upd fA (8 * a + 4) 2) (8 * a + 5) v (8 * a + 4) = 2 := by rw [upd_ne (by omega), upd_self]
  refine ⟨hT.fr fun j hj => ?_, hR.fr fun j hj => ?_, (hA.set (by omega) (by omega)).set (by omega) (by omega), (hP.fr hR.1 fun j hj => ?_).chg (fun b => ?_) (fun b hb => ?_), hS.fr fun j hj => ?_, hE.fr fun j hj => ?_, jA.chg fun b hb => ⟨?_, ?_, ?_, fun e => ?_⟩, jR, ⟨hn.2, fun b => ?_⟩, jE, jD, jC⟩
  · rw [upd_ne (by omega), upd_ne (by omega)]
  · rw [upd_ne (by omega), upd_ne (by omega)]
  · rw [upd_ne (by omega), upd_ne (by omega)]
  · rw [upd_ne (by omega), upd_ne (by omega)]
  · by_cases e : b = a
    · subst e; rw [e4a, h4]; exact ⟨fun x => absurd x n21, fun x => absurd x n01⟩
    · rw [e4 b e]
  · rw [upd_ne (by omega), upd_ne (by omega)]
  · rw [upd_ne (by omega), upd_ne (by omega)]
  · rw [upd_ne (by omega), upd_ne (by omega)]
  · rw [upd_ne (by omega), upd_ne (by omega)]
  · rw [upd_ne (by omega), upd_ne (by omega)]
  · by_cases z : b = a
    · subst z; rw [e4a] at e; exact absurd e n20
    · rw [e4 b z] at e
      rw [upd_ne (by omega), upd_ne (by omega), upd_ne (by omega), upd_ne (by omega)]
      exact ⟨e, (jA b hb).2.2.2 e⟩
  · by_cases z : b = a
    · subst z; rw [e4a]; exact ⟨fun x => absurd x hn.1, fun x => absurd x.2 n20⟩
    · rw [e4 b z, ← jW.2 b, List.mem_cons]
      exact ⟨Or.inr, fun x => x.resolve_left z⟩
theorem RM.weigh {fT fR fA fS fE : F_} {nR nA : Nat} {w : List Nat} {lo hi : Int} {s : F_} (h : RM fT fR fA fS fE nR nA w lo hi s) : RM fT fR fA (wgS fS fE) fE nR nA w lo hi (wgM s) := by
  obtain ⟨hT, hR, hA, hP, hS, hE, jA, jR, jW, jE, jD, jC⟩ := h
  obtain ⟨e, he, hm⟩ := jE.2.1
  obtain ⟨⟨k1, k2⟩, k3, k4⟩ := jD
  have w0 : wgS fS fE 0 = dr (fS 0 + 1) (fE 3) := by unfold wgS; rw [upd_ne (by decide), upd_ne (by decide), upd_ne (by decide), upd_self]
  have w1 : wgS fS fE 1 = fS 1 + 1 := by unfold wgS; rw [upd_ne (by decide), upd_ne (by decide), upd_self]
  have w2 : wgS fS fE 2 = dr (fS 2 + (-1)) (fE 3) := by unfold wgS; rw [upd_ne (by decide), upd_self]
  have w3 : wgS fS fE 3 = fS 3 + 1 := by unfold wgS; rw [upd_self]
  have m477 : wgM s 477 = dr (s 477 + 1) (s 480) := by unfold wgM; rw [upd_ne (by decide), upd_ne (by decide), upd_self]
  have m478 : wgM s 478 = dr (s 478 + (-1)) (s 480) := by unfold wgM; rw [upd_ne (by decide), upd_self]
  have m488 : wgM s 488 = s 488 + 2 := by unfold wgM; rw [upd_self]
  have b1 : (fS 0 + 1).toInt = (fS 0).toInt + 1 := add_toInt (by rw [i1]; omega) (by rw [i1]; omega)
  have b2 : (fS 2 + (-1)).toInt = (fS 2).toInt + -1 := add_toInt (by rw [im1]; omega) (by rw [im1]; omega)
  refine ⟨hT.fr fun j hj => wgM_ne (by omega), hR.fr fun j hj => wgM_ne (by omega), hA.fr fun j hj => wgM_ne (by omega), hP.fr hR.1 fun j hj => wgM_ne (by omega), ⟨?_, ?_, ?_⟩, hE.fr fun j hj => wgM_ne (by omega), jA, jR, jW, jE, ⟨?_, ?_⟩, jC⟩
  · rw [m477, w0, hS.1, hE.2.1]
  · rw [m478, w2, hS.2.1, hE.2.1]
  · rw [m488, w1, w3, hS.2.2, show (2 : Int32) = 1 + 1 from rfl]
    ac_rfl
  · rw [w0]; exact dr_bd hm he (by omega) (by omega)
  · rw [w2]; exact dr_bd hm he (by omega) (by omega)
theorem RM.requeue {fT fR fA fS fE : F_} {nR nA a : Nat} {q : List Nat} {lo hi : Int} {s : F_} (h : RM fT fR fA fS fE nR nA (a :: q) lo hi s) : RM fT fR fA fS fE nR nA (q ++ [a]) lo hi s := by
  obtain ⟨hT, hR, hA, hP, hS, hE, jA, jR, jW, j⟩ := h
  have p : (a :: q).Perm (q ++ [a]) := (List.perm_append_comm (l₁ := [a]) (l₂ := q))
  exact ⟨hT, hR, hA, hP, hS, hE, jA, jR, ⟨p.nodup jW.1, fun b => by rw [← p.mem_iff]; exact jW.2 b⟩, j⟩
theorem RM.doubt {fT fR fA fS fE : F_} {nR nA a d : Nat} {w : List Nat} {lo hi : Int} {s : F_} (ha : a < nA) (hd : fA (8 * a + 6) = nI d) (hc : fA (8 * a + 4) = 0 → d + 1 < 3) (h : RM fT fR fA fS fE nR nA w lo hi s) :
    RM fT fR (upd fA (8 * a + 6) (nI (d + 1))) fS fE nR nA w lo hi (upd (upd s (116 + (8 * a + 6)) (nI (d + 1))) 487 (s 487 + 1)) := by
  obtain ⟨hT, hR, hA, hP, hS, hE, jA, jR, jW, j⟩ := h
  have ha' : a < 40 := Nat.lt_of_lt_of_le ha hA.1
  refine ⟨hT.fr fun j hj => ?_, hR.fr fun j hj => ?_, hA.set6 ha (by rw [hd]; exact (nJ_add d 1).symm) rfl, (hP.fr hR.1 fun j hj => ?_).chg (fun b => ?_) (fun b hb => ?_), hS.fr fun j hj => ?_, hE.fr fun j hj => ?_, jA.chg fun b hb => ⟨?_, ?_, ?_, fun e => ?_⟩, jR, ⟨jW.1, fun b => ?_⟩, j⟩
  · rw [upd_ne (by omega), upd_ne (by omega)]
  · rw [upd_ne (by omega), upd_ne (by omega)]
  · rw [upd_ne (by omega), upd_ne (by omega)]
  · rw [upd_ne (by omega)]
  · rw [upd_ne (by omega)]
  · rw [upd_ne (by omega), upd_ne (by omega)]
  · rw [upd_ne (by omega), upd_ne (by omega)]
  · rw [upd_ne (by omega)]
  · rw [upd_ne (by omega)]
  · rw [upd_ne (by omega)]
  · rw [upd_ne (by omega)] at e
    rw [upd_ne (show 8 * b + 7 ≠ _ by omega)]
    refine ⟨e, ?_, ((jA b hb).2.2.2 e).2⟩
    by_cases z : b = a
    · subst z; exact ⟨d + 1, hc e, by rw [upd_self]⟩
    · rw [upd_ne (by omega)]; exact ((jA b hb).2.2.2 e).1
  · rw [upd_ne (by omega)]; exact jW.2 b
