/-! part 23: fees, a round, rounds -/
theorem fees_all : ∀ (d t kc : Nat) (fT : F_), t + d = 8 → d < kc → (∀ j, j < 8 → t ≤ j → -2000000000 ≤ (fT (2 * j)).toInt) →
    ∃ fT' : F_, lp_X0_chargeFees_2 kc (nI t) fT = some fT' ∧ (∀ j, j < 8 → t ≤ j → ∃ f : Int32, fT' (2 * j) = fT (2 * j) + -f ∧ fT' (2 * j + 1) = fT (2 * j + 1) + f ∧ 0 ≤ f.toInt ∧ f.toInt ≤ 5) ∧ (∀ j, j < 2 * t → fT' j = fT j) := by
  intro d
  induction d with
  | zero =>
    intro t kc fT ht hkc _
    obtain ⟨kc, rfl⟩ : ∃ k', kc = k' + 1 := ⟨kc - 1, by omega⟩
    have : t = 8 := by omega
    subst this
    exact ⟨fT, rfl, fun j h1 h2 => absurd h2 (by omega), fun j _ => rfl⟩
  | succ d ih =>
    intro t kc fT ht hkc hb
    obtain ⟨kc, rfl⟩ : ∃ k', kc = k' + 1 := ⟨kc - 1, by omega⟩
    have ht8 : t < 8 := by omega
    have hbt := hb t ht8 (Nat.le_refl t)
    have fb := fee_bd (c := fT (2 * t)) (by omega)
    have v0 : feT fT t (2 * t) = fT (2 * t) + -(fee (fT (2 * t))) := by unfold feT; rw [upd_ne (by omega), upd_self]
    have v1 : feT fT t (2 * t + 1) = fT (2 * t + 1) + fee (fT (2 * t)) := by unfold feT; rw [upd_self]
    have vn : ∀ j, j ≠ 2 * t → j ≠ 2 * t + 1 → feT fT t j = fT j := fun j h1 h2 => by unfold feT; rw [upd_ne h2, upd_ne h1]
    obtain ⟨fT', g1, g2, g3⟩ := ih (t + 1) kc (feT fT t) (by omega) (by omega) (fun j h1 h2 => by rw [vn _ (by omega) (by omega)]; exact hb j h1 (by omega))
    refine ⟨fT', by rw [e_feeT ht8 (by omega)]; exact g1, fun j h1 h2 => ?_, fun j h1 => by rw [g3 j (by omega), vn j (by omega) (by omega)]⟩
    by_cases e : j = t
    · subst e
      exact ⟨fee (fT (2 * j)), by rw [g3 _ (by omega), v0], by rw [g3 _ (by omega), v1], fb.1, fb.2⟩
    · obtain ⟨f, u1, u2, u3⟩ := g2 j h1 (by omega)
      rw [vn _ (by omega) (by omega)] at u1
      rw [vn _ (by omega) (by omega)] at u2
      exact ⟨f, u1, u2, u3⟩
theorem JC.fees {fT fT' fR fA fS fE : F_} {nR nA : Nat} {q : List Nat} {lo hi nf : Int} {B : Nat} (h : JC fT fR fA fS fE nR nA q lo hi nf B) (b1 : -1000000000 ≤ lo) (b3 : hi ≤ 1000000000) (b4 : nf ≤ 1000000000)
    (hf : ∀ j, j < 8 → ∃ f : Int32, fT' (2 * j) = fT (2 * j) + -f ∧ fT' (2 * j + 1) = fT (2 * j + 1) + f ∧ 0 ≤ f.toInt ∧ f.toInt ≤ 5) : JC fT' fR fA fS fE nR nA q (lo - 5) hi (nf + 5) B := by
  obtain ⟨hR, hA, jR, jA, jP, jW, jM, jS, jC, jF, jV, jE, jD⟩ := h
  refine ⟨hR, hA, jR, jA, jP, jW, fun t ht => ?_, ?_, fun t ht => ?_, fun t ht => ?_, jV, jE, jD⟩
  · obtain ⟨f, u1, u2, u3, u4⟩ := hf t ht
    rw [u1, u2, jM t ht, Int32.sub_eq_add_neg, Int32.sub_eq_add_neg, Int32.neg_add, Int32.sub_eq_add_neg]
    ac_rfl
  · have jS' : smI (fun k => fT (2 * k) + fT (2 * k + 1)) (List.range' 0 8) = 800 := jS
    show smI (fun k => fT' (2 * k) + fT' (2 * k + 1)) (List.range' 0 8) = 800
    rw [← jS']
    refine smI_congr fun k hk => ?_
    obtain ⟨f, u1, u2, u3, u4⟩ := hf k (mem_r0.mp hk)
    rw [u1, u2, show fT (2 * k) + -f + (fT (2 * k + 1) + f) = fT (2 * k) + fT (2 * k + 1) + (f + -f) by ac_rfl, ← Int32.sub_eq_add_neg, Int32.sub_self, Int32.add_zero]
  · obtain ⟨f, u1, u2, u3, u4⟩ := hf t ht
    have hx := jC t ht
    have hn : (-f).toInt = -f.toInt := neg_toInt (by omega)
    have : (fT (2 * t) + -f).toInt = (fT (2 * t)).toInt + (-f).toInt := add_toInt (by omega) (by omega)
    rw [u1]; omega
  · obtain ⟨f, u1, u2, u3, u4⟩ := hf t ht
    have hx := jF t ht
    have : (fT (2 * t + 1) + f).toInt = (fT (2 * t + 1)).toInt + f.toInt := add_toInt (by omega) (by omega)
    rw [u2]; omega
theorem round_loop {fE : F_} {nR nA T : Nat} {lo nf : Int} (b1 : -1000000000 ≤ lo) (b2 : lo ≤ -500) : ∀ (d i x2 kc : Nat) (fT fR fA fS ri : F_) (hd ln rnd : Int32) (q : List Nat) (hi : Int) (B : Nat), i + d = T → T < 2 ^ 31 → d < kc → d ≤ q.length → JC fT fR fA fS fE nR nA q lo hi nf B → QI ri hd ln q → hi + 200 * d ≤ 1000000000 →
    ∃ (p : Nat) (fT' fR' fA' fS' ri' : F_) (hd' ln' : Int32) (q' : List Nat), lp_X0_playRound_24 fE kc (nI T) (nI x2) (nI i) fT fR fA fS ri hd ln rnd = (ob1 (d_X0_chargeFees fT') fun f => some (nI (x2 + p), f, fR', fA', fS', ri', hd', ln', rnd + 1)) ∧
      JC fT' fR' fA' fS' fE nR nA q' lo (hi + 200 * d) nf (B + d) ∧ QI ri' hd' ln' q' ∧ q'.length + p ≤ q.length ∧ op fR' nR + p = op fR nR := by
  intro d
  induction d with
  | zero =>
    intro i x2 kc fT fR fA fS ri hd ln rnd q hi B hi' hT hkc hq h hr hb
    obtain ⟨kc, rfl⟩ : ∃ k', kc = k' + 1 := ⟨kc - 1, by omega⟩
    have : i = T := by omega
    subst this
    refine ⟨0, fT, fR, fA, fS, ri, hd, ln, q, ?_, by simpa using h, hr, Nat.le_refl _, rfl⟩
    show (if nI i ≤ nI i then _ else _) = _
    rw [if_pos (Int32.le_refl _)]
    rfl
  | succ d ih =>
    intro i x2 kc fT fR fA fS ri hd ln rnd q hi B hi' hT hkc hq h hr hb
    obtain ⟨kc, rfl⟩ : ∃ k', kc = k' + 1 := ⟨kc - 1, by omega⟩
    obtain ⟨a, q, rfl⟩ : ∃ a q0, q = a :: q0 := by
      cases q with
      | nil => simp at hq
      | cons a q => exact ⟨a, q, rfl⟩
    have hl40 : q.length + 1 ≤ 40 := hr.1
    have hlen : (a :: q).length = q.length + 1 := rfl
    obtain ⟨hd1, ln1, t1, hr1⟩ := hr.take
    obtain ⟨p, fT1, fR1, fA1, fS1, ri1, ln2, w1, hp1, v1, v3, v4, v5, v6, v7⟩ := take_one h hr1 (by omega) b1 b2 (by omega)
    obtain ⟨p', fT', fR', fA', fS', ri', hd', ln', q', g1, g3, g4, g5, g6⟩ := ih (i + 1) (x2 + p) kc fT1 fR1 fA1 fS1 ri1 hd1 ln2 rnd w1 (hi + 200) (B + 1) (by omega) hT (by omega) (by omega) v3 v4 (by omega)
    refine ⟨p + p', fT', fR', fA', fS', ri', hd', ln', q', ?_, ?_, g4, by omega, by omega⟩
    · show (if nI T ≤ nI i then _ else _) = _
      rw [if_neg (nI_ge (show i < T by omega) hT), t1, ob3_some, v1, ob7_some, ← Nat.add_assoc, ← g1]
      by_cases e : p = 0
      · subst e
        rw [if_pos (show nI 0 = (0 : Int32) from rfl), show nI i + 1 = nI (i + 1) from nJ_add i 1]
        rfl
      · have e1 : p = 1 := by omega
        subst e1
        rw [if_neg (by decide), show nI i + 1 = nI (i + 1) from nJ_add i 1, show nI x2 + 1 = nI (x2 + 1) from nJ_add x2 1]
    · exact g3.mono (Int.le_refl _) (by omega) (Int.le_refl _) (by omega)
/-- the whole state, with the number of the round -/
def JX (fT fR fA fS fE ri : F_) (hd ln rnd : Int32) (nR nA n : Nat) (q : List Nat) : Prop :=
  rnd = nI n ∧ n ≤ 12000 ∧ JC fT fR fA fS fE nR nA q (-500 - 5 * n) (100 + 1800 * n) (5 * n) (9 * n) ∧ QI ri hd ln q
theorem round_one {fT fR fA fS fE ri : F_} {hd ln rnd : Int32} {nR nA n : Nat} {q : List Nat} (h : JX fT fR fA fS fE ri hd ln rnd nR nA n q) (hn : n < 12000) :
    ∃ (p : Nat) (fT' fR' fA' fS' ri' : F_) (hd' ln' : Int32) (q' : List Nat), d_X0_playRound fT fR fA fS fE ri hd ln rnd = some (nI p, fT', fR', fA', fS', ri', hd', ln', nI (n + 1)) ∧ JX fT' fR' fA' fS' fE ri' hd' ln' (nI (n + 1)) nR nA (n + 1) q' ∧ q'.length + p ≤ q.length ∧ op fR' nR + p = op fR nR := by
  obtain ⟨hrnd, -, hM, hQ⟩ := h
  obtain ⟨e, he1, he2, he⟩ := hM.2.2.2.2.2.2.2.2.2.2.2.1.2.2.1
  have hl : q.length ≤ 40 := hQ.1
  obtain ⟨T, hT⟩ : ∃ T, T = if q.length < e then q.length else e := ⟨_, rfl⟩
  have hTle : T ≤ 9 ∧ T ≤ q.length := by
    rw [hT]
    by_cases c : q.length < e
    · rw [if_pos c]; omega
    · rw [if_neg c]; omega
  obtain ⟨p, fT1, fR1, fA1, fS1, ri1, hd1, ln1, q1, g1, g3, g4, g5, g6⟩ := round_loop (T := T) (lo := -500 - 5 * n) (nf := 5 * n) (by omega) (by omega) T 0 0 fuel fT fR fA fS ri hd ln rnd q (100 + 1800 * n) (9 * n) (by omega) (by omega) (by show T < 2147483648; omega) hTle.2 hM hQ (by omega)
  have hC := g3.2.2.2.2.2.2.2.2.1
  obtain ⟨fT2, f1, f2, f3⟩ := fees_all 8 0 fuel fT1 (by omega) (by decide) (fun j hj _ => by have := (hC j hj).1; omega)
  have hc : (if nI q.length < nI e then nI q.length else nI e) = nI T := by
    rw [hT]
    by_cases c : q.length < e
    · rw [if_pos c, if_pos (nI_lt c (by omega))]
    · rw [if_neg c, if_neg (nI_nlt (by omega) (by omega))]
  refine ⟨p, fT2, fR1, fA1, fS1, ri1, hd1, ln1, q1, ?_, ⟨rfl, by omega, (g3.fees (fT' := fT2) (by omega) (by omega) (by omega) (fun j hj => f2 j hj (Nat.zero_le j))).mono (by omega) (by omega) (by omega) (by omega), g4⟩, g5, g6⟩
  unfold d_X0_playRound
  rw [getE_20, ob1_some, he]
  show lp_X0_playRound_24 fE fuel (if ln < nI e then ln else nI e) (nI 0) (nI 0) fT fR fA fS ri hd ln rnd = _
  rw [hQ.2.2, hc, ← hQ.2.2, g1]
  show ob1 (lp_X0_chargeFees_2 fuel (nI 0) fT1) _ = _
  rw [f1, ob1_some, hrnd, Nat.zero_add]
  show some (nI p, fT2, fR1, fA1, fS1, ri1, hd1, ln1, nI n + nI 1) = _
  rw [nJ_add]
theorem rounds_loop {fE : F_} {nR nA R : Nat} (hR : R < 2 ^ 31) : ∀ (d i x2 kc n : Nat) (fT fR fA fS ri : F_) (hd ln rnd : Int32) (q : List Nat), i + d = R → d < kc → n + d ≤ 12000 → JX fT fR fA fS fE ri hd ln rnd nR nA n q →
    ∃ (p : Nat) (fT' fR' fA' fS' ri' : F_) (hd' ln' : Int32) (q' : List Nat), lp_X0_playRounds_33 fE (nI R) kc (nI x2) (nI i) fT fR fA fS ri hd ln rnd = some (nI (x2 + p), fT', fR', fA', fS', ri', hd', ln', nI (n + d)) ∧
      JX fT' fR' fA' fS' fE ri' hd' ln' (nI (n + d)) nR nA (n + d) q' ∧ q'.length + p ≤ q.length ∧ op fR' nR + p = op fR nR := by
  intro d
  induction d with
  | zero =>
    intro i x2 kc n fT fR fA fS ri hd ln rnd q hi hkc hn h
    obtain ⟨kc, rfl⟩ : ∃ k', kc = k' + 1 := ⟨kc - 1, by omega⟩
    have e : i = R := by omega
    subst e
    have hr := h.1
    refine ⟨0, fT, fR, fA, fS, ri, hd, ln, q, ?_, by rw [hr] at h; exact h, Nat.le_refl _, rfl⟩
    simp only [lp_X0_playRounds_33]
    rw [if_pos (Int32.le_refl _), hr]
    rfl
  | succ d ih =>
    intro i x2 kc n fT fR fA fS ri hd ln rnd q hi hkc hn h
    obtain ⟨kc, rfl⟩ : ∃ k', kc = k' + 1 := ⟨kc - 1, by omega⟩
    obtain ⟨p, fT1, fR1, fA1, fS1, ri1, hd1, ln1, q1, g1, g3, g4, g5⟩ := round_one h (by omega)
    obtain ⟨p', fT', fR', fA', fS', ri', hd', ln', q', u1, u3, u4, u5⟩ := ih (i + 1) (x2 + p) kc (n + 1) fT1 fR1 fA1 fS1 ri1 hd1 ln1 _ q1 (by omega) (by omega) (by omega) g3
    rw [show n + 1 + d = n + (d + 1) by omega] at u1 u3
    refine ⟨p + p', fT', fR', fA', fS', ri', hd', ln', q', ?_, u3, by omega, by omega⟩
    simp only [lp_X0_playRounds_33]
    rw [if_neg (nI_ge (show i < R by omega) hR), g1, ob9_some, nI_s, nJ_add, u1, Nat.add_assoc]
