/-! part 56: every call, on both sides -/
theorem w_ask {N T : Ex} {Hs : Nat → Ex} {old sze pasts : Int32} {s past : F_} (hN : GX N s) (hH : HX Hs old sze past pasts) (p1 p2 p3 : Int32) :
    ∃ (r : Int32) (N' T' : Ex) (Hs' : Nat → Ex) (old' sze' : Int32) (s' past' : F_) (pasts' : Int32), d_X5_ask p1 p2 p3 N T Hs old sze = some (r, N', T', Hs', old', sze') ∧ d_X6_ask p1 p2 p3 s past pasts = some (r, s', past', pasts') ∧ GX N' s' ∧ HX Hs' old' sze' past' pasts' := by
  obtain ⟨n, hn, nR, nA, hR, hA, hX⟩ := id hN
  unfold d_X5_ask d_X6_ask
  rcases hX.ask p1 p2 p3 with ⟨e, he, u1, u2⟩ | ⟨fR', s', u1, u2, u3, u4, u5⟩
  · rw [← hR] at u1
    rw [u1, u2, ob3_some, ob1_some, e_finish_neg he, tb5_mk, if_neg (Int32.not_le.mpr he)]
    exact ⟨_, _, _, _, _, _, _, _, _, rfl, rfl, hN, hH⟩
  · obtain ⟨Hs', old', sze', past', pasts', g1, g2, g3⟩ := hH.record hN
    rw [← hR] at u1
    rw [u1, u2, ob3_some, ob1_some, if_pos (Int32.le_refl _), g2, ob2_some, u3, ob2_some, hR, e_finish u5 g1, tb5_mk]
    exact ⟨_, _, _, _, _, _, _, _, _, rfl, rfl, ⟨n, hn, nR + 1, nA, rfl, hA, u4⟩, g3⟩
theorem w_withdraw {N T : Ex} {Hs : Nat → Ex} {old sze pasts : Int32} {s past : F_} (hN : GX N s) (hH : HX Hs old sze past pasts) (p1 : Int32) :
    ∃ (r : Int32) (N' T' : Ex) (Hs' : Nat → Ex) (old' sze' : Int32) (s' past' : F_) (pasts' : Int32), d_X5_withdraw p1 N T Hs old sze = some (r, N', T', Hs', old', sze') ∧ d_X6_withdraw p1 s past pasts = some (r, s', past', pasts') ∧ GX N' s' ∧ HX Hs' old' sze' past' pasts' := by
  obtain ⟨n, hn, nR, nA, hR, hA, hX⟩ := id hN
  unfold d_X5_withdraw
  rcases hX.withdraw p1 past pasts with ⟨e, he, u1, u2⟩ | ⟨c, fR', s', u0, u1, u2, u3⟩
  · rw [← hR, ← hA] at u1
    rw [u1, u2, ob2_some, e_finish_neg he, tb5_mk]
    exact ⟨_, _, _, _, _, _, _, _, _, rfl, rfl, hN, hH⟩
  · obtain ⟨Hs', old', sze', past', pasts', g1, g2, g3⟩ := hH.record hN
    rw [← hR, ← hA] at u1
    rw [u1, u2, ob2_some, g2, ob2_some, e_finish u0 g1, tb5_mk]
    exact ⟨_, _, _, _, _, _, _, _, _, rfl, rfl, ⟨n, hn, nR, nA, hR, hA, u3⟩, g3⟩
theorem w_deliver {N T : Ex} {Hs : Nat → Ex} {old sze pasts : Int32} {s past : F_} (hN : GX N s) (hH : HX Hs old sze past pasts) (p1 p2 p3 p4 : Int32) :
    ∃ (r : Int32) (N' T' : Ex) (Hs' : Nat → Ex) (old' sze' : Int32) (s' past' : F_) (pasts' : Int32), d_X5_deliver p1 p2 p3 p4 N T Hs old sze = some (r, N', T', Hs', old', sze') ∧ d_X6_deliver p1 p2 p3 p4 s past pasts = some (r, s', past', pasts') ∧ GX N' s' ∧ HX Hs' old' sze' past' pasts' := by
  obtain ⟨n, hn, nR, nA, hR, hA, hX⟩ := id hN
  unfold d_X5_deliver d_X6_deliver
  rcases hX.deliver p1 p2 p3 p4 with ⟨e, he, u1, u2⟩ | ⟨fA', ri', s', ln', u1, u2, u3, u4, u5⟩
  · rw [← hR, ← hA] at u1
    rw [u1, u2, ob5_some, ob1_some, e_finish_neg he, tb5_mk, if_neg (Int32.not_le.mpr he)]
    exact ⟨_, _, _, _, _, _, _, _, _, rfl, rfl, hN, hH⟩
  · obtain ⟨Hs', old', sze', past', pasts', g1, g2, g3⟩ := hH.record hN
    rw [← hR, ← hA] at u1
    rw [u1, u2, ob5_some, ob1_some, if_pos (Int32.le_refl _), g2, ob2_some, u3, ob2_some, hA, e_finish u5 g1, tb5_mk]
    exact ⟨_, _, _, _, _, _, _, _, _, rfl, rfl, ⟨n, hn, nR, nA + 1, hR, rfl, u4⟩, g3⟩
theorem w_adjust {N T : Ex} {Hs : Nat → Ex} {old sze pasts : Int32} {s past : F_} (hN : GX N s) (hH : HX Hs old sze past pasts) :
    ∃ (r : Int32) (N' T' : Ex) (Hs' : Nat → Ex) (old' sze' : Int32) (s' past' : F_) (pasts' : Int32), d_X5_adjust N T Hs old sze = some (r, N', T', Hs', old', sze') ∧ d_X6_adjust s past pasts = some (r, s', past', pasts') ∧ GX N' s' ∧ HX Hs' old' sze' past' pasts' := by
  obtain ⟨n, hn, nR, nA, hR, hA, hX⟩ := id hN
  unfold d_X5_adjust
  rcases hX.adjust past pasts with ⟨u1, u2⟩ | ⟨c, u0, u1, u2⟩
  · rw [u1, u2, ob2_some, e_finish_neg (by decide), tb5_mk]
    exact ⟨_, _, _, _, _, _, _, _, _, rfl, rfl, hN, hH⟩
  · obtain ⟨Hs', old', sze', past', pasts', g1, g2, g3⟩ := hH.record hN
    rw [u1, u2, ob2_some, g2, ob2_some, e_finish u0 g1, tb5_mk]
    exact ⟨_, _, _, _, _, _, _, _, _, rfl, rfl, ⟨n, hn, nR, nA, hR, hA, hX.zero⟩, g3⟩
theorem w_set {N T : Ex} {Hs : Nat → Ex} {old sze pasts : Int32} {s past : F_} (hN : GX N s) (hH : HX Hs old sze past pasts) (p1 p2 : Int32) :
    ∃ (r : Int32) (N' T' : Ex) (Hs' : Nat → Ex) (old' sze' : Int32) (s' past' : F_) (pasts' : Int32), d_X5_set p1 p2 N T Hs old sze = some (r, N', T', Hs', old', sze') ∧ d_X6_set p1 p2 s past pasts = some (r, s', past', pasts') ∧ GX N' s' ∧ HX Hs' old' sze' past' pasts' := by
  obtain ⟨n, hn, nR, nA, hR, hA, hX⟩ := id hN
  unfold d_X5_set
  rcases hX.set p1 p2 past pasts with ⟨e, he, u1, u2⟩ | ⟨c, fE', s', u0, u1, u2, u3⟩
  · rw [u1, u2, ob2_some, e_finish_neg he, tb5_mk]
    exact ⟨_, _, _, _, _, _, _, _, _, rfl, rfl, hN, hH⟩
  · obtain ⟨Hs', old', sze', past', pasts', g1, g2, g3⟩ := hH.record hN
    rw [u1, u2, ob2_some, g2, ob2_some, e_finish u0 g1, tb5_mk]
    exact ⟨_, _, _, _, _, _, _, _, _, rfl, rfl, ⟨n, hn, nR, nA, hR, hA, u3⟩, g3⟩
theorem w_pass {N T : Ex} {Hs : Nat → Ex} {old sze pasts : Int32} {s past : F_} (hN : GX N s) (hH : HX Hs old sze past pasts) (p1 : Int32) :
    ∃ (r : Int32) (N' T' : Ex) (Hs' : Nat → Ex) (old' sze' : Int32) (s' past' : F_) (pasts' : Int32), d_X5_pass p1 N T Hs old sze = some (r, N', T', Hs', old', sze') ∧ d_X6_pass p1 s past pasts = some (r, s', past', pasts') ∧ GX N' s' ∧ HX Hs' old' sze' past' pasts' := by
  obtain ⟨n, hn, nR, nA, hR, hA, hX⟩ := id hN
  unfold d_X5_pass d_X6_pass
  rcases hX.pass hn p1 with ⟨e, he, u1, u2⟩ | ⟨c, n', fT', fR', fA', fS', ri', hd', ln', s', u0, un, u1, u2, u3, u4⟩
  · rw [u1, u2, ob9_some, ob1_some, e_finish_neg he, tb5_mk, if_neg (Int32.not_le.mpr he)]
    exact ⟨_, _, _, _, _, _, _, _, _, rfl, rfl, hN, hH⟩
  · obtain ⟨Hs', old', sze', past', pasts', g1, g2, g3⟩ := hH.record hN
    rw [u1, u2, ob9_some, ob1_some, if_pos (Int32.le_refl _), g2, ob2_some, u3, ob2_some, e_finish u0 g1, tb5_mk]
    exact ⟨_, _, _, _, _, _, _, _, _, rfl, rfl, ⟨n', un, nR, nA, hR, hA, u4⟩, g3⟩
theorem w_type {ft mt : F_} {len ml : Int32} (h : ∃ L, TX ft len mt ml L) (p1 : Int32) :
    ∃ (r : Int32) (ft' mt' : F_) (len' ml' : Int32), d_X5_type p1 ft len = some (r, ft', len') ∧ d_X6_type p1 mt ml = some (r, mt', ml') ∧ ∃ L, TX ft' len' mt' ml' L := by
  obtain ⟨L, hL, rfl, rfl, ht⟩ := h
  unfold d_X5_type d_X6_type d_X2_addCharacter
  rw [if_neg (nI_pos (by omega))]
  by_cases c : L < 60
  · have n60 : ¬ nI L = 60 := fun x => by
      have := (nI_inj (b := 60) (by omega) (by decide)).mp x
      omega
    rw [if_pos (show nI L < (60 : Int32) from nI_lt (b := 60) c (by decide)), if_neg n60, wr_i c (by decide), wr_i c (by decide), ob1_some, ob1_some, ob3_some, nI_s]
    refine ⟨_, _, _, _, _, rfl, rfl, L + 1, by omega, rfl, rfl, fun j hj => ?_⟩
    by_cases e : j = L
    · subst e; rw [upd_self, upd_self]
    · rw [upd_ne e, upd_ne e]; exact ht j (by omega)
  · have e : L = 60 := by omega
    subst e
    rw [if_neg (show ¬ nI 60 < (60 : Int32) by decide), if_pos (show nI 60 = (60 : Int32) from rfl), ob3_some]
    exact ⟨_, _, _, _, _, rfl, rfl, 60, hL, rfl, rfl, ht⟩
theorem w_clear {ft mt : F_} {len ml : Int32} (h : ∃ L, TX ft len mt ml L) : ∃ r, d_X5_clearText len = (r, 0) ∧ d_X6_clearText ml = (r, 0) ∧ ∃ L, TX ft 0 mt 0 L := by
  obtain ⟨L, hL, rfl, rfl, ht⟩ := h
  exact ⟨nI L, rfl, rfl, 0, Nat.zero_le _, rfl, rfl, fun j hj => absurd hj (Nat.not_lt_zero j)⟩
theorem w_stopped {stN stE hs sa sw : Int32} (h : ZX stN stE hs sa sw) (p1 : Int32) : d_X5_stopped p1 stN stE = d_X6_stopped p1 hs sa sw := by
  unfold d_X5_stopped d_X6_stopped
  by_cases c0 : p1 = 0
  · subst c0
    rw [if_pos rfl, if_neg (show ¬ d_X6_in 0 0 1 = 0 by decide), if_pos rfl]
    rcases h with ⟨rfl, rfl, rfl⟩ | ⟨rfl, rfl, rfl⟩
    · rw [if_pos rfl]
    · rw [if_neg n10]
  · rw [if_neg c0]
    by_cases c1 : p1 = 1
    · subst c1
      rw [if_pos rfl, if_neg (show ¬ d_X6_in 1 0 1 = 0 by decide), if_neg n10]
      rcases h with ⟨rfl, rfl, rfl⟩ | ⟨rfl, rfl, rfl⟩
      · rw [if_pos rfl]
      · rw [if_neg n10]
    · rw [if_neg c1, if_pos]
      unfold d_X6_in
      by_cases a : p1 < 0
      · rw [if_pos a]
      · rw [if_neg a, if_pos]
        rw [Int32.lt_iff_toInt_lt, i0] at a
        obtain ⟨m, hm, rfl, ei⟩ := ex_nI (x := p1) (by omega)
        have h0 : m ≠ 0 := fun x => by subst x; exact c0 rfl
        have h1 : m ≠ 1 := fun x => by subst x; exact c1 rfl
        exact nI_lt (a := 1) (by omega) hm
theorem w_undo {N : Ex} {Hs : Nat → Ex} {old sze pasts : Int32} {s past : F_} (hN : GX N s) (hH : HX Hs old sze past pasts) :
    ∃ (r : Int32) (N' : Ex) (sze' : Int32) (s' : F_) (pasts' : Int32), d_X5_undo N Hs old sze = (r, N', sze') ∧ d_X6_undo s past pasts = some (r, s', pasts') ∧ GX N' s' ∧ HX Hs old sze' past pasts' := by
  obtain ⟨r, N', sze', s', pasts', g1, g2, g3, g4⟩ := hH.undo hN
  refine ⟨r, N', sze', s', pasts', ?_, g2, g3, g4⟩
  unfold d_X5_undo
  rw [g1]
  rfl
theorem w_keep {N S : Ex} {s snap : F_} {hasS kept : Int32} (hN : GX N s) : ∃ (r : Int32) (snap' : F_), d_X5_keep N S hasS = (r, N, 1) ∧ d_X6_keep s snap kept = some (r, snap', 1) ∧ KX N 1 snap' 1 := by
  obtain ⟨snap', g1, g2⟩ := e_keep (snap := snap) (kept := kept) hN
  exact ⟨_, snap', rfl, g1, Or.inr ⟨rfl, rfl, g2⟩⟩
theorem w_trader {N : Ex} {s : F_} (hN : GX N s) (p1 p2 : Int32) : ∃ r, d_X5_trader p1 p2 N = some r ∧ d_X6_trader p1 p2 s = some r := by
  obtain ⟨n, hn, nR, nA, hR, hA, hX⟩ := hN
  obtain ⟨r, g1, g2⟩ := tell_trader hX p1 p2
  refine ⟨r, ?_, g2⟩
  unfold d_X5_trader
  rw [hR, hA, g1, ob1_some]
theorem w_riddle {N : Ex} {s : F_} (hN : GX N s) (p1 p2 : Int32) : ∃ r, d_X5_riddle p1 p2 N = some r ∧ d_X6_riddle p1 p2 s = some r := by
  obtain ⟨n, hn, nR, nA, hR, hA, hX⟩ := hN
  obtain ⟨r, g1, g2⟩ := tell_riddle hX p1 p2
  refine ⟨r, ?_, g2⟩
  unfold d_X5_riddle
  rw [hR, hA, g1, ob1_some]
theorem w_answer {N : Ex} {s : F_} (hN : GX N s) (p1 p2 : Int32) : ∃ r, d_X5_answer p1 p2 N = some r ∧ d_X6_answer p1 p2 s = some r := by
  obtain ⟨n, hn, nR, nA, hR, hA, hX⟩ := hN
  obtain ⟨r, g1, g2⟩ := tell_answer hX p1 p2
  refine ⟨r, ?_, g2⟩
  unfold d_X5_answer
  rw [hA, g1, ob1_some]
theorem w_waits {N : Ex} {s : F_} (hN : GX N s) (p1 : Int32) : ∃ r, d_X5_waits p1 N = some r ∧ d_X6_waits p1 s = some r := by
  obtain ⟨n, hn, nR, nA, hR, hA, hX⟩ := hN
  exact tell_waits hX p1
theorem w_weigh {N : Ex} {s : F_} (hN : GX N s) (p1 p2 : Int32) : ∃ r, d_X5_weigh p1 p2 N = some r ∧ d_X6_weigh p1 p2 s = some r := by
  obtain ⟨n, hn, nR, nA, hR, hA, hX⟩ := hN
  exact tell_weigh hX p1 p2
theorem w_reason {N : Ex} {s : F_} (hN : GX N s) (p1 : Int32) : ∃ r, d_X5_reason p1 N = some r ∧ d_X6_reason p1 s = some r := by
  obtain ⟨n, hn, nR, nA, hR, hA, hX⟩ := hN
  obtain ⟨r, g1, g2⟩ := tell_reason hX p1
  refine ⟨r, ?_, g2⟩
  unfold d_X5_reason
  rw [hA]
  exact g1
theorem w_settledIn {N T : Ex} {s aside : F_} (hN : GX N s) (p1 : Int32) : ∃ (r : Int32) (T' : Ex) (s' a' : F_), d_X5_settledIn p1 N T = some (r, T') ∧ d_X6_settledIn p1 s aside = some (r, s', a') ∧ GX N s' := by
  obtain ⟨n, hn, hX⟩ := id hN
  obtain ⟨r, T', s', a', g1, g2, g3⟩ := tell_settledIn (T := T) (aside := aside) hX hn p1
  exact ⟨r, T', s', a', g1, g2, hN.fr g3⟩
theorem w_ifRounds {N T : Ex} {s aside : F_} (hN : GX N s) (p1 p2 : Int32) : ∃ (r : Int32) (T' : Ex) (s' a' : F_), d_X5_ifRounds p1 p2 N T = some (r, T') ∧ d_X6_ifRounds p1 p2 s aside = some (r, s', a') ∧ GX N s' := by
  obtain ⟨n, hn, hX⟩ := id hN
  obtain ⟨r, T', s', a', g1, g2, g3⟩ := tell_ifRounds (T := T) (aside := aside) hX hn p1 p2
  exact ⟨r, T', s', a', g1, g2, hN.fr g3⟩
theorem w_richest {N : Ex} {s : F_} (hN : GX N s) : ∃ r, d_X5_richest N = some r ∧ d_X6_richest s = some r := by
  obtain ⟨n, hn, nR, nA, hR, hA, hX⟩ := hN
  obtain ⟨r, g1, g2⟩ := tell_richest hX
  refine ⟨r, ?_, g2⟩
  unfold d_X5_richest
  rw [g1, ob1_some]
theorem w_account {N : Ex} {s : F_} (hN : GX N s) (p1 : Int32) : ∃ r, d_X5_account p1 N = some r ∧ d_X6_account p1 s = some r := by
  obtain ⟨n, hn, nR, nA, hR, hA, hX⟩ := hN
  obtain ⟨r, g1, g2⟩ := tell_account hX p1
  refine ⟨r, ?_, g2⟩
  unfold d_X5_account
  rw [hA, g1, ob1_some]
theorem w_count {N : Ex} {Hs : Nat → Ex} {old sze pasts len ml : Int32} {s past ft mt : F_} (hN : GX N s) (hH : HX Hs old sze past pasts) (hT : ∃ L, TX ft len mt ml L) (p1 : Int32) : ∃ r, d_X5_count p1 N sze len = some r ∧ d_X6_count p1 s pasts ml = some r := by
  obtain ⟨n, hn, nR, nA, hR, hA, hX⟩ := hN
  obtain ⟨o, c, -, -, -, e1, e2, -⟩ := hH
  obtain ⟨L, -, e3, e4, -⟩ := hT
  have := tell_count hX p1 sze len
  unfold d_X5_count
  rw [hR, hA, e2, e4, ← e1, ← e3]
  exact this
