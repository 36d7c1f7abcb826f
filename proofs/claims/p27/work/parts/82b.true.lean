/-! part 82b: what the law computes -/
theorem fT0_t {t : Nat} (h : t < 8) : fT0 (2 * t) = 100 ∧ fT0 (2 * t + 1) = 0 := by
  rcases (show t = 0 ∨ t = 1 ∨ t = 2 ∨ t = 3 ∨ t = 4 ∨ t = 5 ∨ t = 6 ∨ t = 7 by omega) with rfl | rfl | rfl | rfl | rfl | rfl | rfl | rfl <;> decide +kernel
theorem IE0 : IE fE0 := by
  refine ⟨⟨2, by decide, by decide +kernel⟩, ⟨4, by decide, by decide +kernel⟩, ⟨3, by decide, by decide, by decide +kernel⟩, ⟨50, by decide, by decide +kernel⟩, by decide +kernel, by decide +kernel, by decide +kernel, by decide +kernel, by decide +kernel, by decide +kernel, by decide +kernel, by decide +kernel⟩
theorem IV0 : IV 0 E0 := by
  refine ⟨0, 0, 0, [], rfl, rfl, Nat.le_refl _, rfl, by decide, ⟨by decide, by decide, fun r hr => absurd hr (Nat.not_lt_zero r), fun r hr => absurd hr (Nat.not_lt_zero r), fun r hr => absurd hr (Nat.not_lt_zero r), ⟨List.nodup_nil, fun a => ⟨fun h => absurd h (List.not_mem_nil), fun h => absurd h.1 (Nat.not_lt_zero a)⟩⟩, fun t ht => ?_, ?_, fun t ht => ?_, fun t ht => ?_, ⟨0, 0, rfl, rfl, rfl, Nat.le_refl _, Nat.zero_le _⟩, IE0, ⟨by decide, by decide⟩⟩, ⟨by decide, ⟨0, by decide, rfl, fun k hk => absurd hk (Nat.not_lt_zero k)⟩, rfl⟩⟩
  · show fT0 (2 * t) = 100 - fT0 (2 * t + 1) + 0
    rw [(fT0_t ht).1, (fT0_t ht).2]; rfl
  · show smI (fun t => fT0 (2 * t) + fT0 (2 * t + 1)) (List.range' 0 8) = 800
    decide +kernel
  · show _ ≤ (fT0 (2 * t)).toInt ∧ (fT0 (2 * t)).toInt ≤ _
    rw [(fT0_t ht).1, show (100 : Int32).toInt = 100 from rfl]
    omega
  · show _ ≤ (fT0 (2 * t + 1)).toInt ∧ (fT0 (2 * t + 1)).toInt ≤ _
    rw [(fT0_t ht).2, i0]
    omega
theorem TV0 : TV 0 Td0 := ⟨IV0, IV0, fun _ => IV0, ⟨0, by decide, rfl⟩, ⟨0, by decide, rfl⟩⟩
theorem LO0 : LO Td0 := ⟨0, by decide, rfl⟩
theorem x_perf0 {t : Td} (h : LN t = 0) : q_perform t = some (-100, (t.1, t.2.1, t.2.2.1, t.2.2.2.1, t.2.2.2.2.1, t.2.2.2.2.2.1, t.2.2.2.2.2.2.1, t.2.2.2.2.2.2.2.1, 1, t.2.2.2.2.2.2.2.2.2.1, 0, 1, t.2.2.2.2.2.2.2.2.2.2.2.2.1, t.2.2.2.2.2.2.2.2.2.2.2.2.2.1, t.2.2.2.2.2.2.2.2.2.2.2.2.2.2)) := by
  have hp : ∀ (ft fG : F_) (rG pos bad : Int32), d_X2_read ft fG rG 0 pos bad = some (0, fG, 1, 0, 1) := fun ft fG rG pos bad => by
    have h1 : d_X2_here ft (nI 0) (nI 0) 0 = some (-1) := e_here_out (Nat.le_refl 0) (by decide)
    have h2 := e_rd1 (fuel - 1) (m := 0) (i := 0) (by decide) (e_readThing_no (p := nI 0) (fG := fG) h1 (by decide) (by decide) (by decide))
    have h3 : fuel = fuel - 1 + 1 := by
      have := k_fuel (d := 0) (by decide)
      omega
    unfold d_X2_read d_X4_dropRows
    rw [tb1_mk, h3]
    refine Eq.trans h2 ?_
    rw [if_neg n10]
    rfl
  have h' : t.2.2.2.2.2.2.2.2.2.1 = 0 := h
  unfold q_perform d_X5_perform
  rw [h', hp, ob5_some, if_neg (by decide)]
  rfl
section LAWTRUE
variable {t u : Td} {R L : Nat} {xs : Nat → Int32}
theorem cel_ok (hL : L < 2 ^ 31) {k : Nat} (hk : k < 2 ^ 31) : ∃ C, C < 2 ^ 31 ∧ celI L xs (nI k) = some (nI C) := by
  unfold celI
  by_cases c : nI L ≤ nI k
  · rw [if_pos c]
    obtain ⟨j, hj, e⟩ := pk_andE (52817 * (nI k + 53) + 89) (m := 2147483647) 31 (by decide)
    exact ⟨j, hj, by rw [e]⟩
  · have c' : k < L := by
      rcases Nat.lt_or_ge k L with z | z
      · exact z
      · exact absurd (nI_le z hk) c
    rw [if_neg c, rd_i c' hL, ob1_some]
    obtain ⟨j, hj, e⟩ := pk_andE (xs k) (m := 2147483647) 31 (by decide)
    exact ⟨j, hj, by rw [e]⟩
theorem hg_ok (hT : TV R t) (hl : LO t) (hR : R + 7 ≤ 12000) : ∃ t', zb2 (d_L_hangs t) = some (1, t') ∧ SR t t' ∧ LO t' := by
  obtain ⟨T, h⟩ := hangs_ok hT.1 hR hT.2.2.2.2
  exact ⟨_, zb2_1 h, ⟨rfl, rfl, rfl, rfl, rfl, rfl, rfl, rfl⟩, hl⟩
theorem pass_gen {R' : Nat} (hR : R ≤ R') (hT : TV R t) {P : Int32} {p : Nat} {fT fR fA fS ri : F_} {hd ln rnd : Int32} (h : d_X0_playRounds P t.1.1 t.1.2.1 t.1.2.2.2.1 t.1.2.2.2.2.2.1 t.1.2.2.2.2.2.2.1 t.1.2.2.2.2.2.2.2.1 t.1.2.2.2.2.2.2.2.2.1 t.1.2.2.2.2.2.2.2.2.2.1 t.1.2.2.2.2.2.2.2.2.2.2 = some (nI p, fT, fR, fA, fS, ri, hd, ln, rnd)) (hp : p < 2 ^ 31) (hI : IV R' (fT, fR, t.1.2.2.1, fA, t.1.2.2.2.2.1, fS, t.1.2.2.2.2.2.2.1, ri, hd, ln, rnd)) :
    ∃ t', q_pass P t = some (nI p, t') ∧ t'.1 = (fT, fR, t.1.2.2.1, fA, t.1.2.2.2.2.1, fS, t.1.2.2.2.2.2.2.1, ri, hd, ln, rnd) ∧ TV R' t' := by
  obtain ⟨k1, k2, k3, k4, k5⟩ := hT.mono hR
  obtain ⟨N', Hs', old', sze', f, g1, g2, g3, g4, -, g6⟩ := fin_ok (T := (fT, fR, t.1.2.2.1, fA, t.1.2.2.2.2.1, fS, t.1.2.2.2.2.2.2.1, ri, hd, ln, rnd)) (r := nI p) k1 k3 k4 k5 (Or.inr ⟨p, hp, rfl, hI⟩)
  unfold q_pass d_X5_pass
  rw [h, ob9_some, f]
  exact ⟨_, rfl, g6 (nI_pos hp), g1, k2, g2, g3, g4⟩
/-- one round of one trade -/
theorem pass_one (hT : TV R t) (hR : R + 1 ≤ 9999) : ∃ (p : Nat) (fT fR fA fS ri : F_) (hd ln rnd : Int32) (t' : Td), d_X0_playRound t.1.1 t.1.2.1 t.1.2.2.2.1 t.1.2.2.2.2.2.1 t.1.2.2.2.2.2.2.1 t.1.2.2.2.2.2.2.2.1 t.1.2.2.2.2.2.2.2.2.1 t.1.2.2.2.2.2.2.2.2.2.1 t.1.2.2.2.2.2.2.2.2.2.2 = some (nI p, fT, fR, fA, fS, ri, hd, ln, rnd) ∧ q_pass 1 t = some (nI p, t') ∧ t'.1 = (fT, fR, t.1.2.2.1, fA, t.1.2.2.2.2.1, fS, t.1.2.2.2.2.2.2.1, ri, hd, ln, rnd) ∧ TV (R + 1) t' := by
  obtain ⟨nR, nA, n, q, hr, ha, hn, hX⟩ := hT.1
  have hq : q.length ≤ 40 := hX.2.2.2.1
  obtain ⟨p, fT, fR, fA, fS, ri, hd, ln, q', g1, g2, g3, -⟩ := round_one hX (by omega)
  have hrnd := hX.1
  have h3 : fuel = fuel - 2 + 1 + 1 := by
    have := k_fuel (d := 1) (by decide)
    omega
  have hp : d_X0_playRounds 1 t.1.1 t.1.2.1 t.1.2.2.2.1 t.1.2.2.2.2.2.1 t.1.2.2.2.2.2.2.1 t.1.2.2.2.2.2.2.2.1 t.1.2.2.2.2.2.2.2.2.1 t.1.2.2.2.2.2.2.2.2.2.1 t.1.2.2.2.2.2.2.2.2.2.2 = some (nI p, fT, fR, fA, fS, ri, hd, ln, nI (n + 1)) := by
    unfold d_X0_playRounds
    rw [if_neg (by decide), if_pos (by decide), if_pos (show t.1.2.2.2.2.2.2.2.2.2.2 + 1 ≤ 9999 by rw [hrnd, nI_s]; exact nI_le (b := 9999) (by omega) (by decide)), h3]
    simp only [lp_X0_playRounds_33]
    rw [if_neg (by decide), g1, ob9_some, if_pos (by decide), Int32.zero_add]
  obtain ⟨t', e1, e2, e3⟩ := pass_gen (R' := R + 1) (by omega) hT hp (by omega) ⟨nR, nA, n + 1, q', hr, ha, by omega, g2⟩
  exact ⟨p, fT, fR, fA, fS, ri, hd, ln, _, t', g1, e1, e2, e3⟩
/-- rounds one by one, and together -/
theorem ones_loop {M : Nat} {rR rA : Int32} {fE : F_} (hM : M < 100) : ∀ (d i x2 kc k : Nat) (R : Nat) (t : Td), i + d = M → d < kc → d < k → R + d ≤ 9999 → TV R t → t.1.2.2.1 = rR → t.1.2.2.2.2.1 = rA → t.1.2.2.2.2.2.2.1 = fE →
    ∃ (p : Nat) (t' : Td), lp_X0_playRounds_33 fE (nI M) kc (nI x2) (nI i) t.1.1 t.1.2.1 t.1.2.2.2.1 t.1.2.2.2.2.2.1 t.1.2.2.2.2.2.2.2.1 t.1.2.2.2.2.2.2.2.2.1 t.1.2.2.2.2.2.2.2.2.2.1 t.1.2.2.2.2.2.2.2.2.2.2 = some (nI (x2 + p), t'.1.1, t'.1.2.1, t'.1.2.2.2.1, t'.1.2.2.2.2.2.1, t'.1.2.2.2.2.2.2.2.1, t'.1.2.2.2.2.2.2.2.2.1, t'.1.2.2.2.2.2.2.2.2.2.1, t'.1.2.2.2.2.2.2.2.2.2.2) ∧
      t'.1.2.2.1 = rR ∧ t'.1.2.2.2.2.1 = rA ∧ t'.1.2.2.2.2.2.2.1 = fE ∧ TV (R + d) t' ∧ lp_L_law_200 L xs k 1 (nI M) (nI x2) (nI i) t u = j_L_law_227 L xs 1 (nI M) (nI (x2 + p)) t' u := by
  intro d
  induction d with
  | zero =>
    intro i x2 kc k R t hi hkc hk hR hT h1 h2 h3
    obtain ⟨kc, rfl⟩ : ∃ k', kc = k' + 1 := ⟨kc - 1, by omega⟩
    obtain ⟨k, rfl⟩ : ∃ k', k = k' + 1 := ⟨k - 1, by omega⟩
    have e : i = M := by omega
    subst e
    refine ⟨0, t, ?_, h1, h2, h3, hT, ?_⟩
    · simp only [lp_X0_playRounds_33]
      rw [if_pos (Int32.le_refl _)]
      rfl
    · simp only [lp_L_law_200]
      rw [if_pos (Int32.le_refl _)]
      rfl
  | succ d ih =>
    intro i x2 kc k R t hi hkc hk hR hT h1 h2 h3
    obtain ⟨kc, rfl⟩ : ∃ k', kc = k' + 1 := ⟨kc - 1, by omega⟩
    obtain ⟨k, rfl⟩ : ∃ k', k = k' + 1 := ⟨k - 1, by omega⟩
    obtain ⟨p, fT, fR, fA, fS, ri, hd, ln, rnd, t1, g1, g2, g3, g4⟩ := pass_one hT (by omega)
    have hMi : ¬ nI M ≤ nI i := nI_ge (by omega) (by omega)
    obtain ⟨p', t', u1, u2, u3, u4, u5, u6⟩ := ih (i + 1) (x2 + p) kc k (R + 1) t1 (by omega) (by omega) (by omega) (by omega) g4 (by rw [g3]; exact h1) (by rw [g3]; exact h2) (by rw [g3]; exact h3)
    refine ⟨p + p', t', ?_, u2, u3, u4, by rw [show R + (d + 1) = R + 1 + d by omega]; exact u5, ?_⟩
    · simp only [lp_X0_playRounds_33]
      rw [g3] at u1
      rw [if_neg hMi, ← h3, g1, ob9_some, nI_s, nJ_add, h3]
      rw [← Nat.add_assoc]
      exact u1
    · simp only [lp_L_law_200]
      rw [if_neg hMi, if_neg n10, g2, ob2_some, nI_s, nJ_add, u6, Nat.add_assoc]
/-- the accounts at the end -/
theorem acc_loop {fT fR fA fS fE ri : F_} {hd ln rnd : Int32} {nR nA n : Nat} {q : List Nat} (ht : NX t fT fR fA fS fE ri hd ln rnd nR nA n q) (hu : NX u fT fR fA fS fE ri hd ln rnd nR nA n q) : ∀ (d i k : Nat), i + d = 8 → d < k → lp_L_law_251 L xs k 1 (nI i) t u = j_L_law_289 L xs 1 t u := by
  intro d
  induction d with
  | zero =>
    intro i k hi hk
    obtain ⟨k, rfl⟩ : ∃ k', k = k' + 1 := ⟨k - 1, by omega⟩
    have e : i = 8 := by omega
    subst e
    simp only [lp_L_law_251]
    rw [if_pos (show (8 : Int32) ≤ nI 8 by decide)]
  | succ d ih =>
    intro i k hi hk
    obtain ⟨k, rfl⟩ : ∃ k', k = k' + 1 := ⟨k - 1, by omega⟩
    simp only [lp_L_law_251]
    rw [if_neg (show ¬ (8 : Int32) ≤ nI i from nI_ge (b := 8) (by omega) (by decide)), if_neg n10, v_acc ht (show i < 8 by omega), v_acc hu (show i < 8 by omega), ob1_some, ob1_some, if_pos rfl, nI_s]
    exact ih (i + 1) k (by omega) (by omega)
theorem end_ok (hT : TV R t) (hU : TV R u) (he : t.1 = u.1) (hR : R + 7 ≤ 12000) : ∃ t' u', lp_L_law_251 L xs fuel 1 0 t u = some (1, t', u') := by
  obtain ⟨fT, fR, fA, fS, fE, ri, hd, ln, rnd, nR, nA, n, q, -, nx⟩ := IV.nx hT.1
  have nu : NX u fT fR fA fS fE ri hd ln rnd nR nA n q := ⟨he ▸ nx.1, nx.2⟩
  have e := acc_loop (L := L) (xs := xs) nx nu 8 0 fuel (by decide) (k_fuel (by decide))
  obtain ⟨T1, f1⟩ := hangs_ok hT.1 hR hT.2.2.2.2
  obtain ⟨T2, f2⟩ := hangs_ok hU.1 hR hU.2.2.2.2
  refine ⟨(t.1, T1, t.2.2), (u.1, T2, u.2.2), Eq.trans e ?_⟩
  unfold j_L_law_289
  rw [if_neg n10, v_c0 nx, v_c0 nu, ob1_some, ob1_some, if_pos rfl, v_c4 nx, v_c4 nu, ob1_some, ob1_some, if_pos rfl, v_c9 nx, v_c9 nu, ob1_some, ob1_some, if_pos rfl, zb2_1 f1, ob2_some, if_neg n10, zb2_1 f2, ob2_some, if_neg n10]
theorem law_end (hL : L < 2 ^ 31) (hT : TV R t) (hS : SR t u) (hR : R + 30 ≤ 9999) : ∃ t' u', j_L_law_181 L xs 1 t u = some (1, t', u') := by
  obtain ⟨C, hC, e⟩ := cel_ok (xs := xs) hL (k := 44) (by decide)
  have e' : celI L xs 44 = some (nI C) := e
  unfold j_L_law_181
  rw [e', ob1_some, rm_l (k := 20) (K := 20) rfl hC (by decide), show (2 : Int32) + nI (C % 20) = nI (2 + C % 20) from nJ_add 2 _]
  have hm := Nat.mod_lt C (show 0 < 20 by decide)
  obtain ⟨M, hM⟩ : ∃ M, M = 2 + C % 20 := ⟨_, rfl⟩
  rw [← hM]
  have hU := hT.of hS
  obtain ⟨p, t', g1, g2, g3, g4, g5, g6⟩ := ones_loop (L := L) (xs := xs) (u := u) (M := M) (by omega) M 0 0 fuel fuel R t (by omega) (k_fuel (by omega)) (k_fuel (by omega)) (by omega) hT rfl rfl rfl
  have g6' : lp_L_law_200 L xs fuel 1 (nI M) 0 0 t u = _ := g6
  rw [g6']
  obtain ⟨p', fT, fR, fA, fS, ri, hd, ln, rnd, k1, k2, k3, k4⟩ := a_pass hU.1 M (by omega) (by omega) (by omega)
  obtain ⟨u', f1, f2, f3⟩ := pass_gen (R' := R + M) (by omega) hU k1 (by omega) k4
  have g1' : lp_X0_playRounds_33 t.1.2.2.2.2.2.2.1 (nI M) fuel 0 0 t.1.1 t.1.2.1 t.1.2.2.2.1 t.1.2.2.2.2.2.1 t.1.2.2.2.2.2.2.2.1 t.1.2.2.2.2.2.2.2.2.1 t.1.2.2.2.2.2.2.2.2.2.1 t.1.2.2.2.2.2.2.2.2.2.2 = some (nI (0 + p), t'.1.1, t'.1.2.1, t'.1.2.2.2.1, t'.1.2.2.2.2.2.1, t'.1.2.2.2.2.2.2.2.1, t'.1.2.2.2.2.2.2.2.2.1, t'.1.2.2.2.2.2.2.2.2.2.1, t'.1.2.2.2.2.2.2.2.2.2.2) := g1
  rw [hS.1] at g1'
  have eq := k2.symm.trans g1'
  injection eq with eq
  injection eq with q0 eq
  injection eq with q1 eq
  injection eq with q2 eq
  injection eq with q3 eq
  injection eq with q4 eq
  injection eq with q5 eq
  injection eq with q6 eq
  injection eq with q7 q8
  have he : t'.1 = u'.1 := by
    rw [f2, q1, q2, q3, q4, q5, q6, q7, q8, ← hS.1, ← g2, ← g3, ← g4]
  unfold j_L_law_227
  rw [if_neg n10, f1, ob2_some, if_pos q0]
  exact end_ok g5 f3 he (by omega)
theorem law_loop (hL : L < 2 ^ 31) : ∀ (d i k : Nat) (t u : Td), i + d = 44 → d < k → TV (36 * i) t → SR t u → LO t → LO u → ∃ t' u', lp_L_law_78 L xs k 1 (nI i) t u = some (1, t', u') := by
  intro d
  induction d with
  | zero =>
    intro i k t u hi hk hT hS hl hl'
    obtain ⟨k, rfl⟩ : ∃ k', k = k' + 1 := ⟨k - 1, by omega⟩
    have e : i = 44 := by omega
    subst e
    simp only [lp_L_law_78]
    rw [if_pos (show (44 : Int32) ≤ nI 44 by decide)]
    exact law_end hL hT hS (by omega)
  | succ d ih =>
    intro i k t u hi hk hT hS hl hl'
    obtain ⟨k, rfl⟩ : ∃ k', k = k' + 1 := ⟨k - 1, by omega⟩
    obtain ⟨C, hC, eC⟩ := cel_ok (xs := xs) hL (k := i) (by omega)
    have nxt : ∀ t' u', TV (36 * i + 36) t' → SR t' u' → LO t' → LO u' → ∃ t0 u0, lp_L_law_78 L xs k 1 (nI i + 1) t' u' = some (1, t0, u0) := fun t' u' h1 h2 h3 h4 => by
      rw [nI_s]
      exact ih (i + 1) k t' u' (by omega) (by omega) (by rw [show 36 * (i + 1) = 36 * i + 36 by omega]; exact h1) h2 h3 h4
    have rest : ∀ v : Td, SR u v → LO v → ∃ t0 u0 r t1, d_L_acts (nI C) t = some (r, t1) ∧ j_L_law_124 (lp_L_law_78 L xs k) L xs (nI i) (nI C) r t1 v = some (1, t0, u0) := fun v sv lv => by
      obtain ⟨r, t1, v1, e1, e2, h1, h2, h3, h4⟩ := acts_ok hT (hS.trans sv) hl lv hC
      have hV := h1.of h2
      suffices hh : ∃ t0 u0, j_L_law_124 (lp_L_law_78 L xs k) L xs (nI i) (nI C) r t1 v = some (1, t0, u0) by
        obtain ⟨t0, u0, hh⟩ := hh
        exact ⟨t0, u0, r, t1, e1, hh⟩
      unfold j_L_law_124
      rw [e2, ob2_some, if_pos rfl, zb1_1 (same_ok h1.1 h2.1 h2.2.2.2.2.1), ob1_some, if_neg n10]
      by_cases c1 : 0 < nI i - nI i / 4 * 4
      · rw [if_pos c1]
        exact nxt _ _ h1 h2 h3 h4
      · rw [if_neg c1]
        by_cases c2 : nI i - nI i / 8 * 8 = 0
        · rw [if_pos c2]
          obtain ⟨t2, f1, f2, f3⟩ := hg_ok h1 h3 (by omega)
          rw [f1, ob2_some, if_neg n10]
          exact nxt _ _ (h1.of f2) (f2.symm.trans h2) f3 h4
        · rw [if_neg c2]
          obtain ⟨v2, f1, f2, f3⟩ := hg_ok hV h4 (by omega)
          rw [f1, ob2_some, if_neg n10]
          exact nxt _ _ h1 (h2.trans f2) h3 f3
    simp only [lp_L_law_78]
    rw [if_neg (show ¬ (44 : Int32) ≤ nI i from nI_ge (b := 44) (by omega) (by decide)), if_neg n10, eC, ob1_some]
    by_cases c : 0 < nI i - nI i / 3 * 3
    · obtain ⟨t0, u0, r, t1, e1, e2⟩ := rest u (SR.refl u) hl'
      rw [e1, ob2_some, if_pos c]
      exact ⟨t0, u0, e2⟩
    · obtain ⟨v, f1, f2, f3⟩ := refuses_ok (hT.of hS) hl' (Y := C % 100000) (Nat.mod_lt C (by decide))
      obtain ⟨t0, u0, r, t1, e1, e2⟩ := rest v f2 f3
      rw [e1, ob2_some, if_neg c, rm_l (k := 100000) (K := 100000) rfl hC (by decide), zb2_1 f1, ob2_some, if_neg n10]
      exact ⟨t0, u0, e2⟩
end LAWTRUE
theorem law_true {L : Nat} {xs : Nat → Int32} (hL : L < 2 ^ 31) : ∃ t0 u0, d_L_law L xs Td0 Td0 = some (1, t0, u0) := by
  have e1 : q_undo Td0 = some (-5, Td0) := rfl
  have e2 : q_restore Td0 = some (-5, Td0) := rfl
  have e3 := x_perf0 (t := Td0) rfl
  obtain ⟨t1, h1⟩ : ∃ t1 : Td, t1 = (Td0.1, Td0.2.1, Td0.2.2.1, Td0.2.2.2.1, Td0.2.2.2.2.1, Td0.2.2.2.2.2.1, Td0.2.2.2.2.2.2.1, Td0.2.2.2.2.2.2.2.1, 1, Td0.2.2.2.2.2.2.2.2.2.1, 0, 1, Td0.2.2.2.2.2.2.2.2.2.2.2.2.1, Td0.2.2.2.2.2.2.2.2.2.2.2.2.2.1, Td0.2.2.2.2.2.2.2.2.2.2.2.2.2.2) := ⟨_, rfl⟩
  rw [← h1] at e3
  have s1 : SR Td0 t1 := by subst h1; exact ⟨rfl, rfl, rfl, rfl, rfl, rfl, rfl, rfl⟩
  have l1 : LO t1 := by subst h1; exact LO0
  have e4 : q_stopped 0 t1 = some (-5) := by subst h1; rfl
  obtain ⟨t2, e5, s2, l2⟩ := x_adjust (t := t1) (e := -5) (by decide) ⟨_, by
    rw [e_scales, ← s1.1]
    show some (if ab 0 + ab 0 = 0 then _ else _, _) = _
    rw [if_pos (by decide)]⟩
  have hT2 : TV 0 t2 := TV0.of (s1.trans s2)
  obtain ⟨t3, e6, s3, l3⟩ := hg_ok hT2 (l1.of6 l2) (by decide)
  obtain ⟨t0, u0, h⟩ := law_loop (xs := xs) hL 44 0 fuel t3 Td0 (by decide) (k_fuel (by decide)) (hT2.of s3) ((s1.trans s2).trans s3).symm l3 LO0
  refine ⟨t0, u0, ?_⟩
  unfold d_L_law
  rw [e1, ob2_some, if_pos rfl, e2, ob2_some, if_pos rfl, e3, ob2_some, if_pos rfl, e4, ob1_some, if_pos rfl, e5, ob2_some, if_pos rfl, e6, ob2_some, if_neg n10]
  exact h
theorem whole_start {p : Program} {e : Env} {s : State} {m : MethodId} {below : List Frame} {meth : Method} {c : Code} (l : Launch) (hflags : l.flags = flags0) {b L : Nat} {xs : Nat → Int32} (hL : L ≤ 260) (C0 : lw_At p s m meth c b L xs) : W p l e room_1 s m #[Value.ref b] below meth c s.heap [] 0 0 (lw_Z below #[Value.ref b] s) (entryFrame m ([Value.ref b] : List Value).toArray 7) := by
  obtain ⟨t0, u0, h⟩ := law_true (L := L) (xs := xs) (by omega)
  exact entry_walk l hL h C0
