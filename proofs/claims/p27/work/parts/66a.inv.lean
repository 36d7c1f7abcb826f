/-! part 21: what holds of every state of an exchange -/
def QI (ri : F_) (hd ln : Int32) (q : List Nat) : Prop := q.length ≤ 40 ∧ (∃ h, h < 40 ∧ hd = nI h ∧ ∀ k, k < q.length → ri ((h + k) % 40) = nI (q.getD k 0)) ∧ ln = nI q.length
def AS (st rs db py : Int32) : Prop := (st = 0 ∧ rs = 0 ∧ (∃ d, d < 3 ∧ db = nI d) ∧ py = 0) ∨ (st = 1 ∧ rs = 0 ∧ (∃ d, d < 3 ∧ db = nI d) ∧ 0 < py.toInt ∧ py.toInt ≤ 200) ∨ (st = 2 ∧ (rs = 1 ∨ rs = 2) ∧ (∃ d, d < 3 ∧ db = nI d) ∧ py = 0) ∨ (st = 2 ∧ rs = 3 ∧ db = 3 ∧ py = 0)
def JA (fR fA : F_) (nR nA : Nat) : Prop := ∀ a, a < nA → ∃ g r w : Nat, g < 8 ∧ r < nR ∧ 1 ≤ w ∧ w ≤ 99 ∧ fA (8 * a) = nI g ∧ fA (8 * a + 1) = nI r ∧ fA (8 * a + 3) = nI w ∧ fR (4 * r) ≠ nI g ∧ AS (fA (8 * a + 4)) (fA (8 * a + 5)) (fA (8 * a + 6)) (fA (8 * a + 7))
def JR (fR : F_) (nR : Nat) : Prop := ∀ r, r < nR → ∃ t p : Nat, t < 8 ∧ 1 ≤ p ∧ p ≤ 50 ∧ fR (4 * r) = nI t ∧ fR (4 * r + 1) = nI p ∧ (fR (4 * r + 3) = 0 ∨ fR (4 * r + 3) = 1 ∨ fR (4 * r + 3) = 2)
def pcR (fA : F_) (nA r : Nat) : Nat := (List.range' 0 nA).countP (fun a => decide (fA (8 * a + 1) = nI r) && decide (fA (8 * a + 4) = 1))
def JP (fR fA : F_) (nR nA : Nat) : Prop := ∀ r, r < nR → pcR fA nA r = if fR (4 * r + 3) = 1 then 1 else 0
def net (fR fA : F_) (t a : Nat) : Int32 := (if fA (8 * a) = nI t then fA (8 * a + 7) else 0) - (if fR (4 * (fA (8 * a + 1)).toNatClampNeg) = nI t then fA (8 * a + 7) else 0)
def JM (fT fR fA : F_) (nA : Nat) : Prop := ∀ t, t < 8 → fT (2 * t) = 100 - fT (2 * t + 1) + smI (net fR fA t) (List.range' 0 nA)
def JS (fT : F_) : Prop := smI (fun t => fT (2 * t) + fT (2 * t + 1)) (List.range' 0 8) = 800
def JF (fT : F_) (nf : Int) : Prop := ∀ t, t < 8 → 0 ≤ (fT (2 * t + 1)).toInt ∧ (fT (2 * t + 1)).toInt ≤ nf
def JW (fS fA : F_) (nA : Nat) (B : Nat) : Prop := ∃ w ds, fS 1 = nI w ∧ fS 3 = nI w ∧ smI (fun a => fA (8 * a + 6)) (List.range' 0 nA) = nI ds ∧ ds + st1 fA nA ≤ w ∧ w ≤ B
def JC (fT fR fA fS fE : F_) (nR nA : Nat) (q : List Nat) (lo hi nf : Int) (B : Nat) : Prop :=
  nR ≤ 20 ∧ nA ≤ 40 ∧ JR fR nR ∧ JA fR fA nR nA ∧ JP fR fA nR nA ∧ IW fA nA q ∧ JM fT fR fA nA ∧ JS fT ∧ IC fT lo hi ∧ JF fT nf ∧ JW fS fA nA B ∧ IE fE ∧ ID fS
def op (fR : F_) (nR : Nat) : Nat := (List.range' 0 nR).countP (fun r => decide (fR (4 * r + 3) = 0))
theorem JF.mono {fT : F_} {nf nf' : Int} (h : JF fT nf) (h1 : nf ≤ nf') : JF fT nf' := fun t ht => ⟨(h t ht).1, Int.le_trans (h t ht).2 h1⟩
theorem JW.mono {fS fA : F_} {nA B B' : Nat} (h : JW fS fA nA B) (h1 : B ≤ B') : JW fS fA nA B' := by
  obtain ⟨w, ds, a1, a2, a3, a4, a5⟩ := h
  exact ⟨w, ds, a1, a2, a3, a4, Nat.le_trans a5 h1⟩
theorem JC.mono {fT fR fA fS fE : F_} {nR nA : Nat} {q : List Nat} {lo hi nf lo' hi' nf' : Int} {B B' : Nat} (h : JC fT fR fA fS fE nR nA q lo hi nf B) (h1 : lo' ≤ lo) (h2 : hi ≤ hi') (h3 : nf ≤ nf') (h4 : B ≤ B') : JC fT fR fA fS fE nR nA q lo' hi' nf' B' := by
  obtain ⟨a1, a2, a3, a4, a5, a6, a7, a8, a9, a10, a11, a12⟩ := h
  exact ⟨a1, a2, a3, a4, a5, a6, a7, a8, a9.mono h1 h2, a10.mono h3, a11.mono h4, a12⟩
theorem JA.chg {fR fR' fA fA' : F_} {nR nA a : Nat} (h : JA fR fA nR nA) (hs : ∀ j, j < 8 * a + 4 ∨ 8 * a + 7 < j → fA' j = fA j) (hR : ∀ r, fR' (4 * r) = fR (4 * r)) (ha : a < nA → AS (fA' (8 * a + 4)) (fA' (8 * a + 5)) (fA' (8 * a + 6)) (fA' (8 * a + 7))) : JA fR' fA' nR nA := by
  intro b hb
  obtain ⟨g, r, w, h1, h2, h3, h4, h5, h6, h7, h8, h9⟩ := h b hb
  refine ⟨g, r, w, h1, h2, h3, h4, by rw [hs _ (by omega)]; exact h5, by rw [hs _ (by omega)]; exact h6, by rw [hs _ (by omega)]; exact h7, by rw [hR]; exact h8, ?_⟩
  by_cases e : b = a
  · subst e; exact ha hb
  · rw [hs _ (by omega), hs _ (by omega), hs _ (by omega), hs _ (by omega)]; exact h9
theorem JP.chg {fR fA fA' : F_} {nR nA : Nat} (h : JP fR fA nR nA) (h1 : ∀ b, fA' (8 * b + 1) = fA (8 * b + 1)) (h4 : ∀ b, b < nA → (fA' (8 * b + 4) = 1 ↔ fA (8 * b + 4) = 1)) : JP fR fA' nR nA := by
  intro r hr
  rw [← h r hr]
  refine cp_congr fun b hb => ?_
  rw [h1, decide_eq_decide.mpr (h4 b (mem_r0.mp hb))]
theorem IW.out {fA fA' : F_} {nA a : Nat} {q : List Nat} (h : IW fA nA (a :: q)) (hs : ∀ b, b ≠ a → fA' (8 * b + 4) = fA (8 * b + 4)) (h4 : fA' (8 * a + 4) ≠ 0) : IW fA' nA q := by
  have hn := List.nodup_cons.mp h.1
  refine ⟨hn.2, fun b => ?_⟩
  by_cases z : b = a
  · subst z; exact ⟨fun x => absurd x hn.1, fun x => absurd x.2 h4⟩
  · rw [hs b z, ← h.2 b, List.mem_cons]
    exact ⟨Or.inr, fun x => x.resolve_left z⟩
theorem IW.back {fA fA' : F_} {nA a : Nat} {q : List Nat} (h : IW fA nA (a :: q)) (hs : ∀ b, fA' (8 * b + 4) = fA (8 * b + 4)) : IW fA' nA (q ++ [a]) := by
  have p : (a :: q).Perm (q ++ [a]) := (List.perm_append_comm (l₁ := [a]) (l₂ := q))
  exact ⟨p.nodup h.1, fun b => by rw [← p.mem_iff, hs b]; exact h.2 b⟩
theorem JM.same {fT fR fR' fA fA' : F_} {nA : Nat} (h : JM fT fR fA nA) (h0 : ∀ b, fA' (8 * b) = fA (8 * b)) (h1 : ∀ b, fA' (8 * b + 1) = fA (8 * b + 1)) (h7 : ∀ b, fA' (8 * b + 7) = fA (8 * b + 7)) (hR : ∀ r, fR' (4 * r) = fR (4 * r)) : JM fT fR' fA' nA := by
  intro t ht
  rw [h t ht]
  refine congrArg (fun x => 100 - fT (2 * t + 1) + x) (smI_congr fun b _ => ?_)
  unfold net
  rw [h0, h1, h7, hR]
/-- weighing -/
theorem wgS_v (fS fE : F_) : wgS fS fE 0 = dr (fS 0 + 1) (fE 3) ∧ wgS fS fE 1 = fS 1 + 1 ∧ wgS fS fE 2 = dr (fS 2 + (-1)) (fE 3) ∧ wgS fS fE 3 = fS 3 + 1 := by
  refine ⟨?_, ?_, ?_, ?_⟩
  · unfold wgS; rw [upd_ne (by decide), upd_ne (by decide), upd_ne (by decide), upd_self]
  · unfold wgS; rw [upd_ne (by decide), upd_ne (by decide), upd_self]
  · unfold wgS; rw [upd_ne (by decide), upd_self]
  · unfold wgS; rw [upd_self]
theorem ID.weigh {fS fE : F_} (h : ID fS) (hE : IE fE) : ID (wgS fS fE) := by
  obtain ⟨e, he, hm⟩ := hE.2.1
  obtain ⟨⟨k1, k2⟩, k3, k4⟩ := h
  obtain ⟨w0, w1, w2, w3⟩ := wgS_v fS fE
  have b1 : (fS 0 + 1).toInt = (fS 0).toInt + 1 := add_toInt (by rw [i1]; omega) (by rw [i1]; omega)
  have b2 : (fS 2 + (-1)).toInt = (fS 2).toInt + -1 := add_toInt (by rw [im1]; omega) (by rw [im1]; omega)
  refine ⟨?_, ?_⟩
  · rw [w0]; exact dr_bd hm he (by omega) (by omega)
  · rw [w2]; exact dr_bd hm he (by omega) (by omega)
/-- one weighing more; a doubt or a payment may come with it -/
theorem JW.weigh {fS fE fA fA' : F_} {nA B : Nat} (d : Nat) (hd : d ≤ 1) (h : JW fS fA nA B) (h6 : smI (fun a => fA' (8 * a + 6)) (List.range' 0 nA) = smI (fun a => fA (8 * a + 6)) (List.range' 0 nA) + nI d) (h4 : st1 fA' nA + d ≤ st1 fA nA + 1) : JW (wgS fS fE) fA' nA (B + 1) := by
  obtain ⟨w, ds, a1, a2, a3, a4, a5⟩ := h
  obtain ⟨w0, w1, w2, w3⟩ := wgS_v fS fE
  exact ⟨w + 1, ds + d, by rw [w1, a1, nI_s], by rw [w3, a2, nI_s], by rw [h6, a3, nJ_add], by omega, by omega⟩
theorem JW.keep {fS fA fA' : F_} {nA B : Nat} (h : JW fS fA nA B) (h6 : smI (fun a => fA' (8 * a + 6)) (List.range' 0 nA) = smI (fun a => fA (8 * a + 6)) (List.range' 0 nA)) (h4 : st1 fA' nA ≤ st1 fA nA) : JW fS fA' nA B := by
  obtain ⟨w, ds, a1, a2, a3, a4, a5⟩ := h
  exact ⟨w, ds, a1, a2, by rw [h6, a3], by omega, a5⟩
/-- the row: taking its head, adding at its end -/
theorem QI.add {ri : F_} {hd ln : Int32} {q : List Nat} {a : Nat} (h : QI ri hd ln q) (hl : q.length < 40) :
    ∃ (ri' : F_) (ln' : Int32), d_X3_addLast (nI a) ri hd ln = some (ri', ln') ∧ QI ri' hd ln' (q ++ [a]) := by
  obtain ⟨h1, ⟨i, hi, hh, hr⟩, h3⟩ := h
  refine ⟨_, _, e_addLast hh h3 hi hl, ⟨by simp; omega, ⟨i, hi, hh, fun k hk => ?_⟩, by simp⟩⟩
  have hk' : k < q.length + 1 := by simpa using hk
  by_cases e : k = q.length
  · subst e; rw [upd_self, getD_app_eq]
  · rw [upd_ne (by omega), hr k (by omega), getD_app_lt (by omega)]
theorem QI.take {ri : F_} {hd ln : Int32} {q : List Nat} {a : Nat} (h : QI ri hd ln (a :: q)) :
    ∃ (hd' ln' : Int32), d_X3_takeFirst ri hd ln = some (nI a, hd', ln') ∧ QI ri hd' ln' q := by
  obtain ⟨h1, ⟨i, hi, hh, hr⟩, h3⟩ := h
  have hl : q.length + 1 ≤ 40 := h1
  have hl0 : 0 < (a :: q).length := Nat.succ_pos _
  refine ⟨nI ((i + 1) % 40), nI q.length, ?_, ⟨by omega, ⟨(i + 1) % 40, by omega, rfl, fun k hk => ?_⟩, rfl⟩⟩
  · unfold d_X3_takeFirst
    rw [show (0 : Int32) = nI 0 from rfl, e_at hh h3 hi h1 hl0, ob1_some, hr 0 hl0, h3, if_neg, hh]
    · show some (nI a, nI i + nI 1 - (nI i + nI 1) / 40 * 40, nI (q.length + 1) - nI 1) = _
      rw [nJ_add, nI_mod (by omega), nI_sub (by omega)]
      rfl
    · exact nI_ge (show 0 < q.length + 1 by omega) (by omega)
  · have := hr (k + 1) (Nat.succ_lt_succ hk)
    rw [show ((i + 1) % 40 + k) % 40 = (i + (k + 1)) % 40 by omega, this]
    rfl
/-- what one answer that waits is, in numbers -/
theorem JC.ans {fT fR fA fS fE : F_} {nR nA a : Nat} {q : List Nat} {lo hi nf : Int} {B : Nat} (h : JC fT fR fA fS fE nR nA q lo hi nf B) (ha : a < nA) : ∃ r w t g, AO fR fA a r w t g ∧ r < nR ∧ 1 ≤ w ∧ w ≤ 99 ∧ t ≠ g ∧
    (0 ≤ (tl (nI w + fS 0)).toInt ∧ (tl (nI w + fS 0)).toInt ≤ 108) ∧ (0 ≤ (tl (nI w + fS 2)).toInt ∧ (tl (nI w + fS 2)).toInt ≤ 108) ∧ (0 < (pm (fR (4 * r + 1)) (tl (nI w + fS 0)) (tl (nI w + fS 2))).toInt ∧ (pm (fR (4 * r + 1)) (tl (nI w + fS 0)) (tl (nI w + fS 2))).toInt ≤ 200) := by
  obtain ⟨hR, hA, jR, jA, jP, jW, jM, jS, jC, jF, jV, jE, jD⟩ := h
  have ha40 : a < 40 := Nat.lt_of_lt_of_le ha hA
  obtain ⟨g, r, w, hg, hr, hw1, hw2, e0, e1, e3, hne, -⟩ := jA a ha
  obtain ⟨t, p, ht, hp1, hp2, u0, u1, -⟩ := jR r hr
  have hr20 : r < 20 := Nat.lt_of_lt_of_le hr hR
  obtain ⟨⟨k1, k2⟩, k3, k4⟩ := jD
  have hwi : (nI w).toInt = w := nI_toInt (by omega)
  have w0 : (nI w + fS 0).toInt = w + (fS 0).toInt := by rw [add_toInt (by rw [hwi]; omega) (by rw [hwi]; omega), hwi]
  have w2 : (nI w + fS 2).toInt = w + (fS 2).toInt := by rw [add_toInt (by rw [hwi]; omega) (by rw [hwi]; omega), hwi]
  have t0 := tl_bd (x := nI w + fS 0) (k := 108) (by omega) (by omega)
  have t2 := tl_bd (x := nI w + fS 2) (k := 108) (by omega) (by omega)
  have hpb := pm_bd u1 hp2 t0 t2
  refine ⟨r, w, t, g, ⟨ha40, hr20, ht, hg, e0, e1, e3, u0⟩, hr, hw1, hw2, fun e => hne (by rw [u0, e]), t0, t2, ?_, hpb.2⟩
  have hx : (tl (nI w + fS 0) + tl (nI w + fS 2)).toInt = (tl (nI w + fS 0)).toInt + (tl (nI w + fS 2)).toInt := add_toInt (by omega) (by omega)
  have hdv : ((tl (nI w + fS 0) + tl (nI w + fS 2)) / 10).toInt = (tl (nI w + fS 0) + tl (nI w + fS 2)).toInt.tdiv (10 : Int32).toInt := Int32.toInt_div_of_ne_right _ _ (by decide)
  rw [hx, show (10 : Int32).toInt = 10 from rfl, Int.tdiv_eq_ediv_of_nonneg (by omega)] at hdv
  have hpi : (nI p).toInt = p := nI_toInt (by omega)
  unfold pm
  rw [u1, add_toInt (by rw [hpi]; omega) (by rw [hpi]; omega), hpi]
  omega
theorem as_wait {st rs db py : Int32} (h : AS st rs db py) (h0 : st = 0) : rs = 0 ∧ (∃ d, d < 3 ∧ db = nI d) ∧ py = 0 := by
  rcases h with h | h | h | h
  · exact ⟨h.2.1, h.2.2.1, h.2.2.2⟩
  · rw [h0] at h; exact absurd h.1 n01
  · rw [h0] at h; exact absurd h.1.symm n20
  · rw [h0] at h; exact absurd h.1.symm n20
theorem JC.refuse {fT fR fA fS fE : F_} {nR nA a : Nat} {q : List Nat} {lo hi nf : Int} {B : Nat} {v : Int32} (hv : v = 1 ∨ v = 2) (h : JC fT fR fA fS fE nR nA (a :: q) lo hi nf B) :
    JC fT fR (upd (upd fA (8 * a + 4) 2) (8 * a + 5) v) fS fE nR nA q lo hi nf B := by
  obtain ⟨hR, hA, jR, jA, jP, jW, jM, jS, jC, jF, jV, jE, jD⟩ := h
  obtain ⟨ha, h4⟩ := (jW.2 a).mp List.mem_cons_self
  obtain ⟨g, r, w, hg, hr, hw1, hw2, e0, e1, e3, hne, hAS⟩ := jA a ha
  obtain ⟨s1, s2, s3⟩ := as_wait hAS h4
  have e4 : ∀ b, b ≠ a → upd (upd fA (8 * a + 4) 2) (8 * a + 5) v (8 * b + 4) = fA (8 * b + 4) := fun b hb => by rw [upd_ne (by omega), upd_ne (by omega)]
  have e4a : upd (upd fA (8 * a + 4) 2) (8 * a + 5) v (8 * a + 4) = 2 := by rw [upd_ne (by omega), upd_self]
  have hq4 : ∀ b, b < nA → (upd (upd fA (8 * a + 4) 2) (8 * a + 5) v (8 * b + 4) = 1 ↔ fA (8 * b + 4) = 1) := fun b hb => by
    by_cases e : b = a
    · subst e; rw [e4a, h4]; exact ⟨fun x => absurd x n21, fun x => absurd x n01⟩
    · rw [e4 b e]
  refine ⟨hR, hA, jR, jA.chg (a := a) (fun j hj => ?_) (fun _ => rfl) (fun _ => ?_), jP.chg (fun b => ?_) hq4, jW.out e4 (by rw [e4a]; exact n20), jM.same (fun b => ?_) (fun b => ?_) (fun b => ?_) (fun _ => rfl), jS, jC, jF, jV.keep (smI_congr fun b _ => ?_) (Nat.le_of_eq (st1_congr hq4)), jE, jD⟩
  · rw [upd_ne (by omega), upd_ne (by omega)]
  · rw [e4a, upd_self, upd_ne (by omega), upd_ne (by omega), upd_ne (by omega), upd_ne (by omega)]
    exact Or.inr (Or.inr (Or.inl ⟨rfl, hv, s2, s3⟩))
  · rw [upd_ne (by omega), upd_ne (by omega)]
  · rw [upd_ne (by omega), upd_ne (by omega)]
  · rw [upd_ne (by omega), upd_ne (by omega)]
  · rw [upd_ne (by omega), upd_ne (by omega)]
  · rw [upd_ne (by omega), upd_ne (by omega)]
theorem JC.requeue {fT fR fA fS fE : F_} {nR nA a : Nat} {q : List Nat} {lo hi nf : Int} {B : Nat} (h : JC fT fR fA fS fE nR nA (a :: q) lo hi nf B) : JC fT fR fA (wgS fS fE) fE nR nA (q ++ [a]) lo hi nf (B + 1) := by
  obtain ⟨hR, hA, jR, jA, jP, jW, jM, jS, jC, jF, jV, jE, jD⟩ := h
  exact ⟨hR, hA, jR, jA, jP, jW.back (fun _ => rfl), jM, jS, jC, jF, jV.weigh 0 (Nat.zero_le 1) (by rw [show nI 0 = (0 : Int32) from rfl, Int32.add_zero]) (by omega), jE, jD.weigh jE⟩
theorem JC.doubt {fT fR fA fS fE : F_} {nR nA a d : Nat} {q : List Nat} {lo hi nf : Int} {B : Nat} (hd : fA (8 * a + 6) = nI d) (hd2 : d + 1 < 3) (h : JC fT fR fA fS fE nR nA (a :: q) lo hi nf B) :
    JC fT fR (upd fA (8 * a + 6) (nI (d + 1))) (wgS fS fE) fE nR nA (q ++ [a]) lo hi nf (B + 1) := by
  obtain ⟨hR, hA, jR, jA, jP, jW, jM, jS, jC, jF, jV, jE, jD⟩ := h
  obtain ⟨ha, h4⟩ := (jW.2 a).mp List.mem_cons_self
  obtain ⟨g, r, w, hg, hr, hw1, hw2, e0, e1, e3, hne, hAS⟩ := jA a ha
  obtain ⟨s1, s2, s3⟩ := as_wait hAS h4
  refine ⟨hR, hA, jR, jA.chg (a := a) (fun j hj => ?_) (fun _ => rfl) (fun _ => ?_), jP.chg (fun b => ?_) (fun b _ => ?_), jW.back (fun b => ?_), jM.same (fun b => ?_) (fun b => ?_) (fun b => ?_) (fun _ => rfl), jS, jC, jF, jV.weigh 1 (Nat.le_refl 1) ?_ (by rw [st1_congr (f := upd fA (8 * a + 6) (nI (d + 1))) (g := fA) fun b _ => by rw [upd_ne (by omega)]]; omega), jE, jD.weigh jE⟩
  · rw [upd_ne (by omega)]
  · rw [upd_self, upd_ne (by omega), upd_ne (by omega), upd_ne (by omega)]
    exact Or.inl ⟨h4, s1, ⟨d + 1, hd2, rfl⟩, s3⟩
  · rw [upd_ne (by omega)]
  · rw [upd_ne (by omega)]
  · rw [upd_ne (by omega)]
  · rw [upd_ne (by omega)]
  · rw [upd_ne (by omega)]
  · rw [upd_ne (by omega)]
  · refine smI_one (nd_range nA) (mem_r0.mpr ha) ?_ (fun b _ hb => ?_)
    · rw [upd_self, hd, nJ_add]
    · rw [upd_ne (by omega)]
theorem JC.doubt3 {fT fR fA fS fE : F_} {nR nA a : Nat} {q : List Nat} {lo hi nf : Int} {B : Nat} (hd : fA (8 * a + 6) = nI 2) (h : JC fT fR fA fS fE nR nA (a :: q) lo hi nf B) :
    JC fT fR (upd (upd (upd fA (8 * a + 6) (nI 3)) (8 * a + 4) 2) (8 * a + 5) 3) (wgS fS fE) fE nR nA q lo hi nf (B + 1) := by
  obtain ⟨hR, hA, jR, jA, jP, jW, jM, jS, jC, jF, jV, jE, jD⟩ := h
  obtain ⟨ha, h4⟩ := (jW.2 a).mp List.mem_cons_self
  obtain ⟨g, r, w, hg, hr, hw1, hw2, e0, e1, e3, hne, hAS⟩ := jA a ha
  obtain ⟨s1, s2, s3⟩ := as_wait hAS h4
  obtain ⟨fA', hf⟩ : ∃ f, f = upd (upd (upd fA (8 * a + 6) (nI 3)) (8 * a + 4) 2) (8 * a + 5) 3 := ⟨_, rfl⟩
  have v4 : fA' (8 * a + 4) = 2 := by rw [hf, upd_ne (by omega), upd_self]
  have v5 : fA' (8 * a + 5) = 3 := by rw [hf, upd_self]
  have v6 : fA' (8 * a + 6) = 3 := by rw [hf, upd_ne (by omega), upd_ne (by omega), upd_self]; rfl
  have vn : ∀ j, j ≠ 8 * a + 4 → j ≠ 8 * a + 5 → j ≠ 8 * a + 6 → fA' j = fA j := fun j h1 h2 h3 => by rw [hf, upd_ne h2, upd_ne h1, upd_ne h3]
  rw [← hf]
  have hq4 : ∀ b, b < nA → (fA' (8 * b + 4) = 1 ↔ fA (8 * b + 4) = 1) := fun b hb => by
    by_cases e : b = a
    · subst e; rw [v4, h4]; exact ⟨fun x => absurd x n21, fun x => absurd x n01⟩
    · rw [vn _ (by omega) (by omega) (by omega)]
  refine ⟨hR, hA, jR, jA.chg (a := a) (fun j hj => vn j (by omega) (by omega) (by omega)) (fun _ => rfl) (fun _ => ?_), jP.chg (fun b => vn _ (by omega) (by omega) (by omega)) hq4, jW.out (fun b hb => vn _ (by omega) (by omega) (by omega)) (by rw [v4]; exact n20), jM.same (fun b => vn _ (by omega) (by omega) (by omega)) (fun b => vn _ (by omega) (by omega) (by omega)) (fun b => vn _ (by omega) (by omega) (by omega)) (fun _ => rfl), jS, jC, jF, jV.weigh 1 (Nat.le_refl 1) ?_ (by rw [st1_congr hq4]; omega), jE, jD.weigh jE⟩
  · rw [v4, v5, v6, vn _ (by omega) (by omega) (by omega)]
    exact Or.inr (Or.inr (Or.inr ⟨rfl, rfl, rfl, s3⟩))
  · refine smI_one (nd_range nA) (mem_r0.mpr ha) ?_ (fun b _ hb => vn _ (by omega) (by omega) (by omega))
    rw [v6, hd]; rfl
