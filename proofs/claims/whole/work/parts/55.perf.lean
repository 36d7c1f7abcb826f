/-! part 55: perform, on both sides -/
def ZX (stN stE hasStop stopAt stopWhy : Int32) : Prop := (hasStop = 0 ∧ stN = -5 ∧ stE = -5) ∨ (hasStop = 1 ∧ stN = stopAt ∧ stE = stopWhy)
theorem thing_both {T : Ex} {s fG : F_} {p : Nat} {k f1 f2 f3 f4 : Int32} (h : GX T s) (hp : p < 30) (hr : RowG p fG k f1 f2 f3 f4) :
    (∃ (e : Int32) (T' : Ex), e < 0 ∧ d_X5_doThing (nI p) T fG = some (e, T') ∧ d_X6_does s k f1 f2 f3 f4 = some (e, s)) ∨
    (∃ (c : Nat) (T' : Ex) (s' : F_), c < 2 ^ 31 ∧ d_X5_doThing (nI p) T fG = some (nI c, T') ∧ d_X6_does s k f1 f2 f3 f4 = some (0, s') ∧ GX T' s') := by
  obtain ⟨n, hn, nR, nA, hR, hA, hX⟩ := h
  have g0 : d_X2_numberOf (nI p) 0 fG = some (fG (5 * p)) := by unfold d_X2_numberOf; rw [getG0 hp]; rfl
  have g1 : d_X2_numberOf (nI p) 1 fG = some (fG (5 * p + 1)) := by unfold d_X2_numberOf; rw [getG1 hp]; rfl
  have g2 : d_X2_numberOf (nI p) 2 fG = some (fG (5 * p + 2)) := by unfold d_X2_numberOf; rw [getG2 hp]; rfl
  have g3 : d_X2_numberOf (nI p) 3 fG = some (fG (5 * p + 3)) := by unfold d_X2_numberOf; rw [getG3 hp]; rfl
  have g4 : d_X2_numberOf (nI p) 4 fG = some (fG (5 * p + 4)) := by unfold d_X2_numberOf; rw [getG4 hp]; rfl
  have nz : ∀ {e : Int32}, e < 0 → ¬ e = 0 := fun {e} h x => by subst x; exact absurd h (by decide)
  unfold d_X5_doThing d_X6_does j_X6_does_69
  rw [g1, ob1_some, g2, ob1_some, g3, ob1_some, g0, ob1_some]
  rcases hr with ⟨rfl, e0, e1, e2, e3⟩ | ⟨rfl, e0, e1, e2, e3, e4⟩ | ⟨rfl, e0, e1⟩
  · rw [e0, e1, e2, e3, if_pos rfl, if_pos rfl, hR]
    rcases hX.ask f1 f2 f3 with ⟨e, he, u1, u2⟩ | ⟨fR', s', u1, u2, u3, u4, u5⟩
    · rw [u1, u2, ob3_some, ob1_some, if_neg (nz he)]
      exact Or.inl ⟨e, _, he, rfl, rfl⟩
    · rw [u1, u2, ob3_some, ob1_some, if_pos rfl, if_pos rfl, u3, ob2_some]
      exact Or.inr ⟨nR, _, s', u5, rfl, rfl, n, hn, nR + 1, nA, rfl, hA, u4⟩
  · rw [e0, e1, e2, e3, g4, if_neg n10, if_pos rfl, ob1_some, e4, if_neg (show ¬ (97 : Int32) = 114 by decide), if_pos rfl, hR, hA]
    rcases hX.deliver f1 f2 f3 f4 with ⟨e, he, u1, u2⟩ | ⟨fA', ri', s', ln', u1, u2, u3, u4, u5⟩
    · rw [u1, u2, ob5_some, ob1_some, if_neg (nz he)]
      exact Or.inl ⟨e, _, he, rfl, rfl⟩
    · rw [u1, u2, ob5_some, ob1_some, if_pos rfl, if_neg (show ¬ (97 : Int32) = 114 by decide), if_pos rfl, u3, ob2_some]
      exact Or.inr ⟨nA, _, s', u5, rfl, rfl, n, hn, nR, nA + 1, rfl, rfl, u4⟩
  · rw [e0, e1, if_neg n20, if_neg n21, if_neg (show ¬ (46 : Int32) = 114 by decide), if_neg (show ¬ (46 : Int32) = 97 by decide)]
    rcases hX.pass hn f1 with ⟨e, he, u1, u2⟩ | ⟨c, n', fT', fR', fA', fS', ri', hd', ln', s', u0, un, u1, u2, u3, u4⟩
    · rw [u1, u2, ob9_some, ob1_some, if_neg (nz he)]
      exact Or.inl ⟨e, _, he, rfl, rfl⟩
    · rw [u1, u2, ob9_some, ob1_some, if_pos rfl, if_neg (show ¬ (46 : Int32) = 114 by decide), if_neg (show ¬ (46 : Int32) = 97 by decide), u3, ob2_some]
      exact Or.inr ⟨c, _, s', u0, rfl, rfl, n', un, nR, nA, hR, hA, u4⟩
theorem e_swap {mt past : F_} {ml x1 pasts hs sa sw sp w kd a1 a2 a3 a4 : Int32} : ∀ (d i k : Nat) (s a : F_), i + d = 490 → d < k → ∃ s' a' : F_,
    lp_X6_perform_102 mt ml k x1 (nI i) s a past pasts hs sa sw sp w kd a1 a2 a3 a4 = (ob2 (d_X6_records s' past pasts) fun pa ps => ob1 (d_X6_putBack s' a') fun s2 => some (x1, s2, a', pa, ps, hs, sa, sw, sp, w, kd, a1, a2, a3, a4)) ∧
    (∀ j, i ≤ j → j < 490 → s' j = a j ∧ a' j = s j) ∧ (∀ j, j < i → s' j = s j ∧ a' j = a j) := by
  intro d
  induction d with
  | zero =>
    intro i k s a hi hk
    obtain ⟨k, rfl⟩ : ∃ k', k = k' + 1 := ⟨k - 1, by omega⟩
    have e : i = 490 := by omega
    subst e
    refine ⟨s, a, ?_, fun j x y => by omega, fun j _ => ⟨rfl, rfl⟩⟩
    simp only [lp_X6_perform_102]
    rw [if_pos le490]
  | succ d ih =>
    intro i k s a hi hk
    obtain ⟨k, rfl⟩ : ∃ k', k = k' + 1 := ⟨k - 1, by omega⟩
    obtain ⟨s', a', g1, g2, g3⟩ := ih (i + 1) k (upd s i (a i)) (upd a i (s i)) (by omega) (by omega)
    refine ⟨s', a', ?_, fun j x y => ?_, fun j x => ?_⟩
    · rw [← g1]
      have hi490 : i < 490 := by omega
      simp only [lp_X6_perform_102]
      rw [if_neg (nle490 hi490), rd_i hi490 (by decide), ob1_some, rd_i hi490 (by decide), ob1_some, wr_i hi490 (by decide), ob1_some, wr_i hi490 (by decide), ob1_some, nI_s]
    · by_cases e : j = i
      · subst e
        rw [(g3 j (by omega)).1, (g3 j (by omega)).2, upd_self, upd_self]
        exact ⟨rfl, rfl⟩
      · rw [(g2 j (by omega) y).1, (g2 j (by omega) y).2, upd_ne e, upd_ne e]
        exact ⟨rfl, rfl⟩
    · rw [(g3 j (by omega)).1, (g3 j (by omega)).2, upd_ne (by omega), upd_ne (by omega)]
      exact ⟨rfl, rfl⟩
theorem pf_end {mt past s aside : F_} {ml x1 x3 pasts hs sa sw sp w kd a1 a2 a3 a4 : Int32} (k : Nat) (h : x1 ≤ x3) : lp_X6_perform_30 mt ml (k + 1) x1 0 x3 s aside past pasts hs sa sw sp w kd a1 a2 a3 a4 = lp_X6_perform_102 mt ml fuel x1 (nI 0) s aside past pasts hs sa sw sp w kd a1 a2 a3 a4 := by
  simp only [lp_X6_perform_30]
  rw [if_pos trivial, if_pos h]
  unfold j_X6_perform_73
  rw [if_pos (Int32.le_refl _), nI_0]
theorem pf_stop {mt past s aside : F_} {ml x1 x2 x3 pasts hs sa sw sp w kd a1 a2 a3 a4 : Int32} (k : Nat) (h : x2 < 0) : lp_X6_perform_30 mt ml (k + 1) x1 x2 x3 s aside past pasts hs sa sw sp w kd a1 a2 a3 a4 = ob1 (d_X6_putBack s aside) fun z => some (-4, z, aside, past, pasts, 1, x3, x2, sp, w, kd, a1, a2, a3, a4) := by
  have nz : ¬ x2 = 0 := fun x => by subst x; exact absurd h (by decide)
  simp only [lp_X6_perform_30]
  rw [if_neg nz]
  unfold j_X6_perform_73
  rw [if_neg (Int32.not_le.mpr h)]
theorem pf_step {mt past s aside : F_} {ml x1 x3 pasts hs sa sw sp w kd a1 a2 a3 a4 sp' w' kd' y1 y2 y3 y4 : Int32} (k : Nat) (h : ¬ x1 ≤ x3) (ht : d_X6_thing mt ml sp w kd a1 a2 a3 a4 = some (sp', w', kd', y1, y2, y3, y4)) : lp_X6_perform_30 mt ml (k + 1) x1 0 x3 s aside past pasts hs sa sw sp w kd a1 a2 a3 a4 =
    ob2 (d_X6_does s kd' y1 y2 y3 y4) fun r36 s37 => if r36 = 0 then lp_X6_perform_30 mt ml k x1 r36 (x3 + 1) s37 aside past pasts hs sa sw (sp' + 1) w' kd' y1 y2 y3 y4 else lp_X6_perform_30 mt ml k x1 r36 (x3 + 0) s37 aside past pasts hs sa sw (sp' + 1) w' kd' y1 y2 y3 y4 := by
  simp only [lp_X6_perform_30]
  rw [if_pos trivial, if_neg h, ht, ob7_some]
theorem pc_end {N T : Ex} {Hs Hs' : Nat → Ex} {old sze old' sze' len rG pos bad stN stE : Int32} {ft fG : F_} {cnt : Nat} (k : Nat) (hc : cnt < 2 ^ 31) (h : d_X1_record N Hs old sze = (Hs', old', sze')) : lp_X5_perform_38 ft len (k + 1) (nI cnt) (nI cnt) N T Hs old sze fG rG pos bad stN stE = some (nI cnt, T, T, Hs', old', sze', fG, rG, pos, bad, stN, stE) := by
  simp only [lp_X5_perform_38]
  rw [if_pos (Int32.le_refl _), e_finish hc h, tb5_mk]
theorem pc_step {N T : Ex} {Hs : Nat → Ex} {old sze len rG pos bad stN stE x2 x3 : Int32} {ft fG : F_} (k : Nat) (h : ¬ x2 ≤ x3) : lp_X5_perform_38 ft len (k + 1) x2 x3 N T Hs old sze fG rG pos bad stN stE = ob2 (d_X5_doThing x3 T fG) fun r15 T16 => if 0 ≤ r15 then lp_X5_perform_38 ft len k x2 (x3 + 1) N T16 Hs old sze fG rG pos bad stN stE else some (-4, N, T16, Hs, old, sze, fG, rG, pos, bad, x3, r15) := by
  simp only [lp_X5_perform_38]
  rw [if_neg h]
theorem perf_loop {N : Ex} {Hs : Nat → Ex} {old sze len rG pos bad stN stE ml pasts hs sa sw : Int32} {ft fG mt past aside : F_} {cnt : Nat} {ps : Nat → Nat} (hc : cnt ≤ 30) (hN : GX N aside) (hH : HX Hs old sze past pasts) (hZ : ZX stN stE hs sa sw) (hT : Tr mt ml ps cnt fG) :
    ∀ (d p kc km : Nat) (T : Ex) (s : F_) (kd a1 a2 a3 a4 : Int32), p + d = cnt → d < kc → d + 1 < km → GX T s →
    ∃ (r : Int32) (N' T' : Ex) (Hs' : Nat → Ex) (old' sze' stN' stE' : Int32) (s' as' past' : F_) (pasts' hs' sa' sw' sp' w' y0 y1 y2 y3 y4 : Int32),
      lp_X5_perform_38 ft len kc (nI cnt) (nI p) N T Hs old sze fG rG pos bad stN stE = some (r, N', T', Hs', old', sze', fG, rG, pos, bad, stN', stE') ∧
      lp_X6_perform_30 mt ml km (nI cnt) 0 (nI p) s aside past pasts hs sa sw (nI (ps p)) 0 kd a1 a2 a3 a4 = some (r, s', as', past', pasts', hs', sa', sw', sp', w', y0, y1, y2, y3, y4) ∧
      GX N' s' ∧ HX Hs' old' sze' past' pasts' ∧ ZX stN' stE' hs' sa' sw' := by
  intro d
  induction d with
  | zero =>
    intro p kc km T s kd a1 a2 a3 a4 hp hkc hkm h
    obtain ⟨kc, rfl⟩ : ∃ k', kc = k' + 1 := ⟨kc - 1, by omega⟩
    obtain ⟨km, rfl⟩ : ∃ k', km = k' + 1 := ⟨km - 1, by omega⟩
    have e : p = cnt := by omega
    subst e
    obtain ⟨s1, b1, g1, g2, -⟩ := e_swap (mt := mt) (past := past) (ml := ml) (x1 := nI p) (pasts := pasts) (hs := hs) (sa := sa) (sw := sw) (sp := nI (ps p)) (w := 0) (kd := kd) (a1 := a1) (a2 := a2) (a3 := a3) (a4 := a4) 490 0 fuel s aside (by omega) (k_fuel (by decide))
    obtain ⟨Hs', old', sze', past', pasts', u1, u2, u3⟩ := hH.record (hN.fr (s' := s1) fun j hj => (g2 j (Nat.zero_le j) hj).1)
    obtain ⟨s2, v1, v2⟩ := e_putBack (s := s1) (aside := b1)
    have kM : lp_X6_perform_30 mt ml (km + 1) (nI p) 0 (nI p) s aside past pasts hs sa sw (nI (ps p)) 0 kd a1 a2 a3 a4 = some (nI p, s2, b1, past', pasts', hs, sa, sw, nI (ps p), 0, kd, a1, a2, a3, a4) := by
      rw [pf_end km (Int32.le_refl _), g1, u2, ob2_some, v1, ob1_some]
    have kC := pc_end (T := T) (ft := ft) (len := len) (fG := fG) (rG := rG) (pos := pos) (bad := bad) (stN := stN) (stE := stE) (cnt := p) kc (by omega) u1
    exact ⟨_, _, _, _, _, _, _, _, _, _, _, _, _, _, _, _, _, _, _, _, _, _, kC, kM, h.fr fun j hj => by rw [v2 j hj]; exact (g2 j (Nat.zero_le j) hj).2, u3, hZ⟩
  | succ d ih =>
    intro p kc km T s kd a1 a2 a3 a4 hp hkc hkm h
    obtain ⟨kc, rfl⟩ : ∃ k', kc = k' + 1 := ⟨kc - 1, by omega⟩
    obtain ⟨km, rfl⟩ : ∃ k', km = k' + 1 + 1 := ⟨km - 2, by omega⟩
    have hlt : p < cnt := by omega
    obtain ⟨e, he, ht⟩ := hT.2 p hlt
    obtain ⟨k, f1, f2, f3, f4, v1, v2⟩ := ht kd a1 a2 a3 a4
    have nle : ¬ nI cnt ≤ nI p := nI_ge hlt (by omega)
    rw [pf_step (km + 1) nle v1, pc_step kc nle, nI_s, nI_s, he, Int32.add_zero]
    rcases thing_both h (by omega) v2 with ⟨er, T', h0, w1, w2⟩ | ⟨c, T', s', h0, w1, w2, w3⟩
    · have nz : ¬ er = 0 := fun x => by subst x; exact absurd h0 (by decide)
      obtain ⟨s2, q1, q2⟩ := e_putBack (s := s) (aside := aside)
      rw [w1, w2, ob2_some, ob2_some, if_neg nz, pf_stop km h0, q1, ob1_some, if_neg (Int32.not_le.mpr h0)]
      exact ⟨_, _, _, _, _, _, _, _, _, _, _, _, _, _, _, _, _, _, _, _, _, _, rfl, rfl, hN.fr q2, hH, Or.inr ⟨rfl, rfl, rfl⟩⟩
    · rw [w1, w2, ob2_some, ob2_some, if_pos rfl, if_pos (nI_pos' h0)]
      exact ih (p + 1) kc (km + 1) T' s' k f1 f2 f3 f4 (by omega) (by omega) (by omega) w3
theorem perform_both {N T : Ex} {Hs : Nat → Ex} {old sze len rG pos bad stN stE ml pasts hs sa sw sp w kd a1 a2 a3 a4 : Int32} {ft fG mt past s aside : F_} {L : Nat} (hN : GX N s) (hH : HX Hs old sze past pasts) (hZ : ZX stN stE hs sa sw) (hT : TX ft len mt ml L) :
    ∃ (r : Int32) (N' T' : Ex) (Hs' : Nat → Ex) (old' sze' : Int32) (fG' : F_) (rG' pos' bad' stN' stE' : Int32) (s' as' past' : F_) (pasts' hs' sa' sw' sp' w' y0 y1 y2 y3 y4 : Int32),
      d_X5_perform N T Hs old sze ft fG rG len pos bad stN stE = some (r, N', T', Hs', old', sze', fG', rG', pos', bad', stN', stE') ∧
      d_X6_perform s aside past pasts mt ml hs sa sw sp w kd a1 a2 a3 a4 = some (r, s', as', past', pasts', hs', sa', sw', sp', w', y0, y1, y2, y3, y4) ∧
      GX N' s' ∧ HX Hs' old' sze' past' pasts' ∧ ZX stN' stE' hs' sa' sw' := by
  have hL := hT.1
  unfold d_X5_perform d_X6_perform
  have eC : d_X2_read ft fG rG len pos bad = lp_X2_read_19 ft len fuel (nI 0) fG (nI 0) (nI 0) 0 := by
    unfold d_X2_read d_X4_dropRows
    rw [tb1_mk, nI_0]
  have eM : d_X6_things mt ml sp w kd a1 a2 a3 a4 = lp_X6_things_14 mt ml fuel (nI 0) 1 (nI 0) 0 kd a1 a2 a3 a4 := by
    unfold d_X6_things
    rw [nI_0]
  rw [eC, eM]
  rcases sync_read hT 60 0 0 fuel fuel fG (fun _ => 0) kd a1 a2 a3 a4 (by omega) (Nat.zero_le L) (Nat.le_refl 0) (k_fuel (by decide)) (k_fuel (by decide)) ⟨rfl, fun p hp => absurd hp (Nat.not_lt_zero p)⟩ rfl with ⟨n, fG', ps, y0, y1, y2, y3, y4, hn, u1, u2, u3⟩ | ⟨i', fG', rG', pos', bad', y0, y1, y2, y3, y4, hi, u1, u2⟩
  · obtain ⟨a', g1, g2⟩ := e_putAside (s := s) (aside := aside)
    rw [u1, u2, ob5_some, ob8_some, if_pos (show (-1 : Int32) < 0 by decide), if_pos (nI_pos' (show n < 2 ^ 31 by omega)), g1, ob1_some]
    obtain ⟨r, N', T', Hs', old', sze', stN', stE', s', as', past', pasts', hs', sa', sw', sp', w', z0, z1, z2, z3, z4, k1, k2, k3, k4, k5⟩ := perf_loop (ft := ft) (len := len) (rG := nI n) (pos := nI L) (bad := 0) hn (hN.fr g2) hH hZ u3 n 0 fuel fuel N s y0 y1 y2 y3 y4 (by omega) (k_fuel (by omega)) (k_fuel (by omega)) hN
    rw [u3.1] at k2
    exact ⟨r, N', T', Hs', old', sze', fG', nI n, nI L, 0, stN', stE', s', as', past', pasts', hs', sa', sw', sp', w', z0, z1, z2, z3, z4, k1, k2, k3, k4, k5⟩
  · rw [u1, u2, ob5_some, ob8_some, if_neg (nI_pos (show i' < 2 ^ 31 by omega)), if_neg (show ¬ (0 : Int32) ≤ -5 by decide)]
    exact ⟨_, _, _, _, _, _, _, _, _, _, _, _, _, _, _, _, _, _, _, _, _, _, _, _, _, _, rfl, rfl, hN, hH, hZ⟩
