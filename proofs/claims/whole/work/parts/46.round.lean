/-! part 46: a round, on both sides -/
theorem e_shift {LP : Int32 → Int32 → F_ → Option F_} {x1 x2 x3 : Int32} {m : Nat} (hm : m < 40) : ∀ (d j k : Nat) (s : F_), j + d = m → d < k → s 476 = nI m →
    ∃ s' : F_, lp_X6_round_70 LP k x1 x2 x3 (nI j) s = (ob1 (d_X6_takes x3 s') fun s'' => LP x1 (x2 + 1) s'') ∧ (∀ i, i < j → s' (436 + i) = s (436 + i)) ∧ (∀ i, j ≤ i → i < m → s' (436 + i) = s (436 + (i + 1))) ∧ (∀ i, i < 436 ∨ 476 ≤ i → s' i = s i) := by
  intro d
  induction d with
  | zero =>
    intro j k s hj hk h
    obtain ⟨k, rfl⟩ := Nat.exists_eq_add_of_lt hk
    refine ⟨s, ?_, fun i _ => rfl, fun i h1 h2 => by omega, fun i _ => rfl⟩
    rw [show 0 + k + 1 = k + 1 by omega]
    simp only [lp_X6_round_70]
    rw [rd476, ob1_some, h, if_pos (nI_le (show m ≤ j by omega) (by omega))]
  | succ d ih =>
    intro j k s hj hk h
    obtain ⟨k, rfl⟩ : ∃ k', k = k' + 1 := ⟨k - 1, by omega⟩
    obtain ⟨s', g1, g2, g3, g4⟩ := ih (j + 1) k (upd s (436 + j) (s (436 + (j + 1)))) (by omega) (by omega) (by rw [upd_ne (by omega)]; exact h)
    refine ⟨s', ?_, fun i hi => ?_, fun i h1 h2 => ?_, fun i hi => ?_⟩
    · rw [← g1]
      simp only [lp_X6_round_70]
      rw [rd476, ob1_some, h, if_neg (nI_ge (show j < m by omega) (by omega)), rdp436s (by omega), ob1_some, wrp436 (by omega), ob1_some, show nI j + 1 = nI (j + 1) from nJ_add j 1]
    · rw [g2 i (by omega), upd_ne (by omega)]
    · by_cases e : i = j
      · subst e; rw [g2 i (by omega), upd_self]
      · rw [g3 i (by omega) h2, upd_ne (by omega)]
    · rw [g4 i hi, upd_ne (by omega)]
/-! fees -/
def fee (c : Int32) : Int32 := if 0 ≤ c then 0 else if 5 < (-c) / 20 then 5 else (-c) / 20
theorem fee_bd {c : Int32} (h : -2147483648 < c.toInt) : 0 ≤ (fee c).toInt ∧ (fee c).toInt ≤ 5 := by
  have i5 : (5 : Int32).toInt = 5 := rfl
  have i20 : (20 : Int32).toInt = 20 := rfl
  unfold fee
  by_cases p : 0 ≤ c
  · rw [if_pos p, i0]; omega
  · rw [if_neg p]
    rw [Int32.le_iff_toInt_le, i0] at p
    have hn := neg_toInt h
    have hd : ((-c) / 20).toInt = (-c).toInt.tdiv (20 : Int32).toInt := Int32.toInt_div_of_ne_right _ _ (by decide)
    rw [hn, i20, Int.tdiv_eq_ediv_of_nonneg (by omega)] at hd
    by_cases q : 5 < (-c) / 20
    · rw [if_pos q, i5]; omega
    · rw [if_neg q]
      rw [Int32.lt_iff_toInt_lt, i5] at q
      omega
def feT (fT : F_) (t : Nat) : F_ := upd (upd fT (2 * t) (fT (2 * t) + -(fee (fT (2 * t))))) (2 * t + 1) (fT (2 * t + 1) + fee (fT (2 * t)))
def feM (s : F_) (t : Nat) (f : Int32) : F_ := upd (upd (upd s t (s t - f)) (8 + t) (s (8 + t) + f)) 486 (s 486 + f)
theorem upd_id {f : F_} {k : Nat} {x : Int32} (h : x = f k) : upd f k x = f := by
  funext j
  by_cases e : j = k
  · subst e; rw [upd_self, h]
  · rw [upd_ne e]
theorem nlt8 {n : Nat} (h : n < 8) : ¬ (8 : Int32) ≤ nI n := nI_ge (b := 8) h (by decide)
theorem e_feeT {fT : F_} {t k : Nat} (ht : t < 8) (h : -2147483648 < (fT (2 * t)).toInt) : lp_X0_chargeFees_2 (k + 1) (nI t) fT = lp_X0_chargeFees_2 k (nI (t + 1)) (feT fT t) := by
  show (if 8 ≤ nI t then _ else _) = _
  rw [if_neg (nlt8 ht), getT0 ht, ob1_some, show nI t + 1 = nI (t + 1) from nJ_add t 1]
  have hn := neg_toInt h
  by_cases p : 0 ≤ fT (2 * t)
  · have p' : -(fT (2 * t)) ≤ 0 := by
      rw [Int32.le_iff_toInt_le] at p ⊢
      rw [i0] at p ⊢
      omega
    rw [if_pos p']
    unfold feT fee
    rw [if_pos p, Int32.neg_zero, Int32.add_zero, Int32.add_zero, upd_id (f := fT) rfl, upd_id rfl]
  · have p' : ¬ -(fT (2 * t)) ≤ 0 := by
      rw [Int32.le_iff_toInt_le] at p ⊢
      rw [i0] at p ⊢
      omega
    rw [if_neg p', incT0 ht, ob1_some, incT1 ht, ob1_some, upd_ne (show 2 * t + 1 ≠ 2 * t by omega)]
    unfold feT fee
    rw [if_neg p]
theorem e_j171 {LP : Int32 → F_ → Option F_} {t : Nat} {f : Int32} {s : F_} (ht : t < 8) : j_X6_round_171 LP (nI t) f s = LP (nI (t + 1)) (feM s t f) := by
  unfold j_X6_round_171
  rw [rdp0 ht, ob1_some, wrp0 ht, ob1_some, rdp8 ht, ob1_some, wrp8 ht, ob1_some, rd486, ob1_some, wr486, ob1_some, upd_ne (show 8 + t ≠ t by omega), upd_ne (show (486 : Nat) ≠ 8 + t by omega), upd_ne (show (486 : Nat) ≠ t by omega), show nI t + 1 = nI (t + 1) from nJ_add t 1]
  rfl
theorem e_feeM {s : F_} {t k : Nat} (ht : t < 8) : lp_X6_round_126 (k + 1) (nI t) s = lp_X6_round_126 k (nI (t + 1)) (feM s t (fee (s t))) := by
  show (if 8 ≤ nI t then _ else _) = _
  rw [if_neg (nlt8 ht), rdp0 ht, ob1_some, ob1_some]
  unfold j_X6_round_160
  rw [e_j171 ht, e_j171 ht, e_j171 ht]
  unfold fee
  by_cases p : 0 ≤ s t
  · rw [if_pos p, if_pos p, if_pos (by decide)]
  · rw [if_neg p, if_neg p]
    by_cases q : 5 < (-(s t)) / 20
    · rw [if_pos q, if_neg (Int32.not_le.mpr q)]
    · rw [if_neg q, if_pos (Int32.not_lt.mp q)]
theorem feM_ne {s : F_} {t j : Nat} {f : Int32} (h : j ≠ t ∧ j ≠ 8 + t ∧ j ≠ 486) : feM s t f j = s j := by
  unfold feM
  rw [upd_ne h.2.2, upd_ne h.2.1, upd_ne h.1]
theorem RT.fee {fT s : F_} {t : Nat} (ht : t < 8) (h : RT fT s) : RT (feT fT t) (feM s t (fee (s t))) := by
  obtain ⟨h1, h2, h3⟩ := h
  have e := h1 t ht
  rw [e]
  unfold feT feM
  refine ⟨fun j hj => ?_, fun j hj => ?_, ?_⟩
  · rw [upd_ne (show j ≠ 486 by omega), upd_ne (show j ≠ 8 + t by omega), upd_ne (show 2 * j ≠ 2 * t + 1 by omega)]
    by_cases z : j = t
    · subst z; rw [upd_self, upd_self, e, Int32.sub_eq_add_neg]
    · rw [upd_ne z, upd_ne (by omega)]; exact h1 j hj
  · rw [upd_ne (show 8 + j ≠ 486 by omega)]
    by_cases z : j = t
    · subst z; rw [upd_self, upd_self, h2 j hj]
    · rw [upd_ne (by omega), upd_ne (by omega), upd_ne (by omega), upd_ne (by omega)]; exact h2 j hj
  · rw [upd_self, h3]
    exact (smI_one (nd_range 8) (mem_r0.mpr ht) (by rw [upd_self]) (fun b _ hb => by rw [upd_ne (by omega), upd_ne (by omega)])).symm
theorem fees_both {lo hi : Int} (b1 : -1000000000 ≤ lo) (b3 : hi ≤ 1000000000) : ∀ (d t kc km : Nat) (fT s : F_), t + d = 8 → d < kc → d < km → RT fT s → (∀ j, j < 8 → lo - 5 ≤ (fT (2 * j)).toInt ∧ (fT (2 * j)).toInt ≤ hi) → (∀ j, j < 8 → t ≤ j → lo ≤ (fT (2 * j)).toInt) →
    ∃ fT' s' : F_, lp_X0_chargeFees_2 kc (nI t) fT = some fT' ∧ lp_X6_round_126 km (nI t) s = some (upd s' 485 (s' 485 + 1)) ∧ RT fT' s' ∧ IC fT' (lo - 5) hi ∧ (∀ j, 16 ≤ j → j ≠ 486 → s' j = s j) := by
  intro d
  induction d with
  | zero =>
    intro t kc km fT s ht hkc hkm hT hb _
    obtain ⟨kc, rfl⟩ : ∃ k', kc = k' + 1 := ⟨kc - 1, by omega⟩
    obtain ⟨km, rfl⟩ : ∃ k', km = k' + 1 := ⟨km - 1, by omega⟩
    have : t = 8 := by omega
    subst this
    refine ⟨fT, s, rfl, ?_, hT, hb, fun j _ _ => rfl⟩
    simp only [lp_X6_round_126]
    rw [if_pos (by decide), rd485, ob1_some, wr485, ob1_some]
  | succ d ih =>
    intro t kc km fT s ht hkc hkm hT hb hb2
    obtain ⟨kc, rfl⟩ : ∃ k', kc = k' + 1 := ⟨kc - 1, by omega⟩
    obtain ⟨km, rfl⟩ : ∃ k', km = k' + 1 := ⟨km - 1, by omega⟩
    have ht8 : t < 8 := by omega
    have hbt := hb t ht8
    have hbt2 := hb2 t ht8 (Nat.le_refl t)
    have fb := fee_bd (c := fT (2 * t)) (by omega)
    have v : feT fT t (2 * t) = fT (2 * t) + -(fee (fT (2 * t))) := by unfold feT; rw [upd_ne (by omega), upd_self]
    have vn : ∀ j, j ≠ t → feT fT t (2 * j) = fT (2 * j) := fun j hj => by unfold feT; rw [upd_ne (by omega), upd_ne (by omega)]
    have hnf : (-(fee (fT (2 * t)))).toInt = -(fee (fT (2 * t))).toInt := neg_toInt (by omega)
    have vi : (feT fT t (2 * t)).toInt = (fT (2 * t)).toInt - (fee (fT (2 * t))).toInt := by rw [v, add_toInt (by omega) (by omega), hnf]; omega
    obtain ⟨fT', s', g1, g2, g3, g4, g5⟩ := ih (t + 1) kc km (feT fT t) (feM s t (fee (s t))) (by omega) (by omega) (by omega) (hT.fee ht8) (fun j hj => by
      by_cases e : j = t
      · subst e; omega
      · rw [vn j e]; exact hb j hj) (fun j hj hk => by rw [vn j (by omega)]; exact hb2 j hj (by omega))
    refine ⟨fT', s', by rw [e_feeT ht8 (by omega)]; exact g1, by rw [e_feeM ht8]; exact g2, g3, g4, fun j h1 h2 => ?_⟩
    rw [g5 j h1 h2, feM_ne (by omega)]
theorem round_loop {fE : F_} {nR nA T : Nat} {lo : Int} (b1 : -1000000000 ≤ lo) (b2 : lo ≤ -500) : ∀ (d i x2 kc km : Nat) (fT fR fA fS ri : F_) (hd ln rnd : Int32) (q : List Nat) (hi : Int) (s : F_), i + d = T → T < 2 ^ 31 → d < kc → d < km → d ≤ q.length → RM fT fR fA fS fE nR nA q lo hi s → RQ ri hd ln q s → hi + 200 * d ≤ 1000000000 →
    ∃ (p : Nat) (fT' fR' fA' fS' ri' : F_) (hd' ln' : Int32) (q' : List Nat) (s' : F_), lp_X0_playRound_24 fE kc (nI T) (nI x2) (nI i) fT fR fA fS ri hd ln rnd = (ob1 (d_X0_chargeFees fT') fun f => some (nI (x2 + p), f, fR', fA', fS', ri', hd', ln', rnd + 1)) ∧
      lp_X6_round_41 km (nI T) (nI i) s = lp_X6_round_126 fuel 0 s' ∧ RM fT' fR' fA' fS' fE nR nA q' lo (hi + 200 * d) s' ∧ RQ ri' hd' ln' q' s' ∧ s' 485 = s 485 ∧ st1 fA' nA = st1 fA nA + p ∧ p ≤ d := by
  intro d
  induction d with
  | zero =>
    intro i x2 kc km fT fR fA fS ri hd ln rnd q hi s hi' hT hkc hkm hq h hr hb
    obtain ⟨kc, rfl⟩ : ∃ k', kc = k' + 1 := ⟨kc - 1, by omega⟩
    obtain ⟨km, rfl⟩ : ∃ k', km = k' + 1 := ⟨km - 1, by omega⟩
    have : i = T := by omega
    subst this
    refine ⟨0, fT, fR, fA, fS, ri, hd, ln, q, s, ?_, ?_, by simpa using h, hr, rfl, rfl, Nat.le_refl 0⟩
    · show (if nI i ≤ nI i then _ else _) = _
      rw [if_pos (Int32.le_refl _)]
      rfl
    · show (if nI i ≤ nI i then _ else _) = _
      rw [if_pos (Int32.le_refl _)]
  | succ d ih =>
    intro i x2 kc km fT fR fA fS ri hd ln rnd q hi s hi' hT hkc hkm hq h hr hb
    obtain ⟨kc, rfl⟩ : ∃ k', kc = k' + 1 := ⟨kc - 1, by omega⟩
    obtain ⟨km, rfl⟩ : ∃ k', km = k' + 1 := ⟨km - 1, by omega⟩
    obtain ⟨a, q, rfl⟩ : ∃ a q0, q = a :: q0 := by
      cases q with
      | nil => simp at hq
      | cons a q => exact ⟨a, q, rfl⟩
    have hl40 : q.length + 1 ≤ 40 := hr.1
    have hlen : (a :: q).length = q.length + 1 := rfl
    obtain ⟨hd1, ln1, t1, t2, t3⟩ := hr.take
    have h476 : s 476 = nI (q.length + 1) := hr.2.2.2.1
    obtain ⟨s1, u1, u2, u3, u4⟩ := e_shift (LP := lp_X6_round_41 km) (x1 := nI T) (x2 := nI i) (x3 := nI a) (m := q.length) (by omega) q.length 0 fuel (upd s 476 (nI q.length)) (by omega) (by show q.length < 2147483648; omega) upd_self
    have hr1 := t3 s1 (by rw [u4 476 (by omega), upd_self]) (fun k hk => by rw [u3 k (by omega) hk, upd_ne (by omega)])
    have h1 : RM fT fR fA fS fE nR nA (a :: q) lo hi s1 := h.fr fun j hj hj2 => by rw [u4 j (by omega), upd_ne (by omega)]
    have h485 : s1 485 = s 485 := by rw [u4 485 (by omega), upd_ne (by omega)]
    obtain ⟨p, fT1, fR1, fA1, fS1, ri1, ln2, s2, w1, hp1, v1, v2, v3, v4, v5, v6, v7⟩ := take_both h1 hr1 (by omega) b1 b2 (by omega)
    have hw : q.length ≤ w1.length := by
      rcases v7 with e | e
      · rw [e]; exact Nat.le_refl _
      · rw [e, List.length_append]; omega
    obtain ⟨p', fT', fR', fA', fS', ri', hd', ln', q', s', g1, g2, g3, g4, g5, g6, g7⟩ := ih (i + 1) (x2 + p) kc km fT1 fR1 fA1 fS1 ri1 hd1 ln2 rnd w1 (hi + 200) s2 (by omega) hT (by omega) (by omega) (by omega) v3 v4 (by omega)
    refine ⟨p + p', fT', fR', fA', fS', ri', hd', ln', q', s', ?_, ?_, ?_, g4, by rw [g5, v5, h485], by rw [g6, v6]; omega, by omega⟩
    · show (if nI T ≤ nI i then _ else _) = _
      rw [if_neg (nI_ge (show i < T by omega) hT), t1, ob3_some, v1, ob7_some, ← Nat.add_assoc, ← g1]
      by_cases e : p = 0
      · subst e
        rw [if_pos (show nI 0 = (0 : Int32) from rfl), show nI i + 1 = nI (i + 1) from nJ_add i 1]
        rfl
      · have e1 : p = 1 := by omega
        subst e1
        rw [if_neg (by decide), show nI i + 1 = nI (i + 1) from nJ_add i 1, show nI x2 + 1 = nI (x2 + 1) from nJ_add x2 1]
    · rw [← g2]
      show (if nI T ≤ nI i then _ else _) = _
      rw [if_neg (nI_ge (show i < T by omega) hT), rd436, ob1_some, rd476, ob1_some, wr476, ob1_some, t2, h476, nI_pred]
      show lp_X6_round_70 (lp_X6_round_41 km) fuel (nI T) (nI i) (nI a) (nI 0) _ = _
      rw [u1, v2, ob1_some, show nI i + 1 = nI (i + 1) from nJ_add i 1]
    · have : hi + 200 * ((d + 1 : Nat) : Int) = hi + 200 + 200 * (d : Int) := by omega
      rw [this]; exact g3
/-- the whole state, with the number of the round; its coins stay small -/
def RX (fT fR fA fS fE ri : F_) (hd ln rnd : Int32) (nR nA n : Nat) (s : F_) : Prop :=
  n ≤ 12000 ∧ rnd = nI n ∧ s 485 = nI n ∧ ∃ q, RM fT fR fA fS fE nR nA q (-1000 - 5 * n) (1000 + 2000 * n) s ∧ RQ ri hd ln q s
theorem round_both {fT fR fA fS fE ri : F_} {hd ln rnd : Int32} {nR nA n : Nat} {s : F_} (h : RX fT fR fA fS fE ri hd ln rnd nR nA n s) (hn : n < 12000) :
    ∃ (p : Nat) (fT' fR' fA' fS' ri' : F_) (hd' ln' : Int32) (s' : F_), d_X0_playRound fT fR fA fS fE ri hd ln rnd = some (nI p, fT', fR', fA', fS', ri', hd', ln', nI (n + 1)) ∧ d_X6_round s = some s' ∧ RX fT' fR' fA' fS' fE ri' hd' ln' (nI (n + 1)) nR nA (n + 1) s' ∧ st1 fA' nA = st1 fA nA + p := by
  obtain ⟨-, hrnd, h485, q, hM, hQ⟩ := h
  obtain ⟨e, he1, he2, he⟩ := hM.2.2.2.2.2.2.2.2.2.1.2.2.1
  have hE := hM.2.2.2.2.2.1
  have hl : q.length ≤ 40 := hQ.1
  obtain ⟨T, hT⟩ : ∃ T, T = if q.length < e then q.length else e := ⟨_, rfl⟩
  have hTle : T ≤ 9 ∧ T ≤ q.length := by
    rw [hT]
    by_cases c : q.length < e
    · rw [if_pos c]; omega
    · rw [if_neg c]; omega
  obtain ⟨p, fT1, fR1, fA1, fS1, ri1, hd1, ln1, q1, s1, g1, g2, g3, g4, g5, g6, g7⟩ := round_loop (T := T) (lo := -1000 - 5 * n) (by omega) (by omega) T 0 0 fuel fuel fT fR fA fS ri hd ln rnd q (1000 + 2000 * n) s (by omega) (by omega) (by show T < 2147483648; omega) (by show T < 2147483648; omega) hTle.2 hM hQ (by omega)
  have hC := g3.2.2.2.2.2.2.2.2.2.2.2
  obtain ⟨fT2, s2, f1, f2, f3, f4, f5⟩ := fees_both (lo := -1000 - 5 * n) (hi := 1000 + 2000 * n + 200 * T) (by omega) (by omega) 8 0 fuel fuel fT1 s1 (by omega) (by decide) (by decide) g3.1 (fun j hj => ⟨by have := (hC j hj).1; omega, (hC j hj).2⟩) (fun j hj _ => (hC j hj).1)
  have hc : (if nI q.length < nI e then nI q.length else nI e) = nI T := by
    rw [hT]
    by_cases c : q.length < e
    · rw [if_pos c, if_pos (nI_lt c (by omega))]
    · rw [if_neg c, if_neg (nI_nlt (by omega) (by omega))]
  have hc' : (if nI e ≤ nI q.length then nI e else nI q.length) = nI T := by
    rw [hT]
    by_cases c : q.length < e
    · rw [if_pos c, if_neg (nI_ge c (by omega))]
    · rw [if_neg c, if_pos (nI_le (by omega) (by omega))]
  refine ⟨p, fT2, fR1, fA1, fS1, ri1, hd1, ln1, upd s2 485 (s2 485 + 1), ?_, ?_, ⟨by omega, rfl, ?_, q1, ?_, ?_⟩, g6⟩
  · unfold d_X0_playRound
    rw [getE_20, ob1_some, he]
    show lp_X0_playRound_24 fE fuel (if ln < nI e then ln else nI e) (nI 0) (nI 0) fT fR fA fS ri hd ln rnd = _
    rw [hQ.2.2.1, hc, ← hQ.2.2.1, g1]
    show ob1 (lp_X0_chargeFees_2 fuel (nI 0) fT1) _ = _
    rw [f1, ob1_some, hrnd, Nat.zero_add]
    show some (nI p, fT2, fR1, fA1, fS1, ri1, hd1, ln1, nI n + nI 1) = _
    rw [nJ_add]
  · unfold d_X6_round
    rw [rd476, ob1_some, rd481, ob1_some, ob1_some, ob1_some, hE.2.2.1, he, hQ.2.2.2.1]
    have key : (if nI e ≤ nI q.length then lp_X6_round_41 fuel (nI e) 0 s else lp_X6_round_41 fuel (nI q.length) 0 s) = lp_X6_round_41 fuel (nI T) (nI 0) s := by
      rw [← hc']
      by_cases c : nI e ≤ nI q.length
      · rw [if_pos c, if_pos c]; rfl
      · rw [if_neg c, if_neg c]; rfl
    rw [key, g2]
    exact f2
  · rw [upd_self, f5 485 (by omega) (by omega), g5, h485]
    exact nJ_add n 1
  · obtain ⟨hT, hR, hA, hP, hS, hE, jA, jR, jW, jE, jD, jC⟩ := g3
    have fr : ∀ j, 16 ≤ j → j ≠ 485 → j ≠ 486 → upd s2 485 (s2 485 + 1) j = s1 j := fun j a b c => by rw [upd_ne b, f5 j a c]
    refine ⟨f3.fr fun j hj => upd_ne (by omega), hR.fr fun j hj => fr j (by omega) (by omega) (by omega), hA.fr fun j hj => fr j (by omega) (by omega) (by omega), hP.fr hR.1 fun j hj => fr j (by omega) (by omega) (by omega), hS.fr fun j hj => fr j (by omega) (by omega) (by omega), hE.fr fun j hj => fr j (by omega) (by omega) (by omega), jA, jR, jW, jE, jD, f4.mono (by omega) (by omega)⟩
  · exact g4.fr fun j hj => by rw [upd_ne (by omega), f5 j (by omega) (by omega)]
