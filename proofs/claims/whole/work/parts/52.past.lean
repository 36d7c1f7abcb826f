/-! part 52: the history and the snapshot, on both sides -/
def GX (E : Ex) (s : F_) : Prop := ∃ n, n ≤ 9999 ∧ SX E n s
theorem GX.fr {E : Ex} {s s' : F_} (g : ∀ j, j < 490 → s' j = s j) (h : GX E s) : GX E s' := by
  obtain ⟨n, h1, h2⟩ := h
  exact ⟨n, h1, h2.fr g⟩
def HX (Hs : Nat → Ex) (old sze : Int32) (past : F_) (pasts : Int32) : Prop :=
  ∃ o c : Nat, o < 4 ∧ c ≤ 4 ∧ old = nI o ∧ sze = nI c ∧ pasts = nI c ∧ ∀ k, k < c → GX (Hs ((o + k) % 4)) (fun j => past (490 * k + j))
def KX (S : Ex) (hasS : Int32) (snap : F_) (kept : Int32) : Prop := (hasS = 0 ∧ kept = 0) ∨ (hasS = 1 ∧ kept = 1 ∧ GX S snap)
theorem updE_self {f : Nat → Ex} {k : Nat} {e : Ex} : updE f k e k = e := if_pos rfl
theorem updE_ne {f : Nat → Ex} {k j : Nat} {e : Ex} (h : j ≠ k) : updE f k e j = f j := if_neg h
theorem n4cases {m : Nat} (h : m < 4) : m = 0 ∨ m = 1 ∨ m = 2 ∨ m = 3 := by omega
theorem e_j30 (N : Ex) (Hs : Nat → Ex) {o c : Nat} (ho : o < 4) (hc : c ≤ 4) : j_X1_record_30 N Hs (nI o) (nI c) = (updE Hs ((o + c) % 4) N, nI o, nI (c + 1)) := by
  unfold j_X1_record_30
  rw [nJ_add, nI_mod4 (by omega), nI_s]
  have hm : (o + c) % 4 < 4 := Nat.mod_lt _ (by decide)
  generalize (o + c) % 4 = m at hm ⊢
  rcases n4cases hm with rfl | rfl | rfl | rfl
  · rw [if_neg (show ¬ nI 0 < 0 by decide), if_pos (show nI 0 = (0 : Int32) by decide)]
  · rw [if_neg (show ¬ nI 1 < 0 by decide), if_neg (show ¬ nI 1 = (0 : Int32) by decide), if_pos (show nI 1 = (1 : Int32) by decide)]
  · rw [if_neg (show ¬ nI 2 < 0 by decide), if_neg (show ¬ nI 2 = (0 : Int32) by decide), if_neg (show ¬ nI 2 = (1 : Int32) by decide), if_pos (show nI 2 = (2 : Int32) by decide)]
  · rw [if_neg (show ¬ nI 3 < 0 by decide), if_neg (show ¬ nI 3 = (0 : Int32) by decide), if_neg (show ¬ nI 3 = (1 : Int32) by decide), if_neg (show ¬ nI 3 = (2 : Int32) by decide), if_pos (show nI 3 = (3 : Int32) by decide)]
theorem e_rec51 {s past : F_} {c : Nat} (hc : c < 4) : ∃ past' : F_, lp_X6_records_51 s fuel 0 past (nI c) = some (past', nI (c + 1)) ∧ (∀ j, j < 490 → past' (490 * c + j) = s j) ∧ (∀ j, j < 490 * c ∨ 490 * c + 490 ≤ j → past' j = past j) := by
  obtain ⟨f', g1, g2, g3⟩ := cp_loop (fun k x f => lp_X6_records_51 s k x f (nI c)) (fun f => some (f, nI (c + 1))) s 490 (490 * c) (fun k f => by
    simp only [lp_X6_records_51]
    rw [if_pos le490, nI_s]) (fun k i f hi => by
    have e : (490 : Int32) * nI c + nI i = nI (490 * c + i) := by rw [show (490 : Int32) = nI 490 from rfl, nI_mul, nJ_add]
    simp only [lp_X6_records_51]
    rw [if_neg (nle490 hi), rd_i hi (by decide), ob1_some, e, wr_i (by omega) (by decide), ob1_some, nI_s]) 490 0 fuel past (by omega) (k_fuel (by decide))
  exact ⟨f', g1, fun j hj => g2 j (Nat.zero_le j) hj, fun j hj => g3 j (by omega)⟩
theorem e_rec10 {s : F_} {m : Int32} : ∀ (d i k : Nat) (past : F_), i + d = 1470 → d < k → ∃ past' : F_, lp_X6_records_10 s k (nI i) past m = lp_X6_records_51 s fuel 0 past' (m - 1) ∧ (∀ j, i ≤ j → j < 1470 → past' j = past (490 + j)) ∧ (∀ j, j < i → past' j = past j) := by
  intro d
  induction d with
  | zero =>
    intro i k past hi hk
    obtain ⟨k, rfl⟩ : ∃ k', k = k' + 1 := ⟨k - 1, by omega⟩
    refine ⟨past, ?_, fun j a b => by omega, fun j _ => rfl⟩
    simp only [lp_X6_records_10]
    rw [if_pos (show (1470 : Int32) ≤ nI i from nI_le (a := 1470) (by omega) (by omega))]
  | succ d ih =>
    intro i k past hi hk
    obtain ⟨k, rfl⟩ : ∃ k', k = k' + 1 := ⟨k - 1, by omega⟩
    obtain ⟨past', g1, g2, g3⟩ := ih (i + 1) k (upd past i (past (490 + i))) (by omega) (by omega)
    refine ⟨past', ?_, fun j a b => ?_, fun j a => ?_⟩
    · rw [← g1]
      have e : (490 : Int32) + nI i = nI (490 + i) := nJ_add 490 i
      simp only [lp_X6_records_10]
      rw [if_neg (show ¬ (1470 : Int32) ≤ nI i from nI_ge (b := 1470) (by omega) (by decide)), e, rd_i (by omega) (by decide), ob1_some, wr_i (by omega) (by decide), ob1_some, nI_s]
    · by_cases e : j = i
      · subst e; rw [g3 j (by omega), upd_self]
      · rw [g2 j (by omega) b, upd_ne (by omega)]
    · rw [g3 j (by omega), upd_ne (by omega)]
theorem HX.record {N : Ex} {Hs : Nat → Ex} {old sze pasts : Int32} {past s : F_} (h : HX Hs old sze past pasts) (hN : GX N s) :
    ∃ (Hs' : Nat → Ex) (old' sze' : Int32) (past' : F_) (pasts' : Int32), d_X1_record N Hs old sze = (Hs', old', sze') ∧ d_X6_records s past pasts = some (past', pasts') ∧ HX Hs' old' sze' past' pasts' := by
  obtain ⟨o, c, ho, hc, rfl, rfl, rfl, hk⟩ := h
  unfold d_X1_record d_X6_records
  by_cases e : c < 4
  · rw [if_pos (show nI c < (4 : Int32) from nI_lt (b := 4) e (by decide)), e_j30 N Hs ho hc]
    have n4 : ¬ nI c = (4 : Int32) := fun x => by
      have := (nI_inj (b := 4) (by omega) (by decide)).mp x
      omega
    rw [if_neg n4]
    obtain ⟨past', g1, g2, g3⟩ := e_rec51 (s := s) (past := past) e
    refine ⟨_, _, _, past', _, rfl, g1, o, c + 1, ho, by omega, rfl, rfl, rfl, fun k hk' => ?_⟩
    by_cases z : k = c
    · subst z
      rw [updE_self]
      exact hN.fr fun j hj => g2 j hj
    · rw [updE_ne (by omega)]
      exact (hk k (by omega)).fr fun j hj => g3 (490 * k + j) (by omega)
  · have e4 : c = 4 := by omega
    subst e4
    rw [if_neg (show ¬ nI 4 < (4 : Int32) by decide), if_pos (show nI 4 = (4 : Int32) from rfl), nI_s, nI_mod4 (by omega), show nI 4 - 1 = nI 3 from nI_pred 3, e_j30 N Hs (Nat.mod_lt _ (by decide)) (by decide)]
    obtain ⟨p1, u1, u2, -⟩ := e_rec10 (s := s) (m := nI 4) 1470 0 fuel past (by omega) (k_fuel (by decide))
    obtain ⟨past', g1, g2, g3⟩ := e_rec51 (s := s) (past := p1) (c := 3) (by decide)
    refine ⟨_, _, _, past', nI 4, rfl, ?_, (o + 1) % 4, 4, Nat.mod_lt _ (by decide), by decide, rfl, rfl, rfl, fun k hk' => ?_⟩
    · show lp_X6_records_10 s fuel (nI 0) past (nI 4) = _
      rw [u1, show nI 4 - 1 = nI 3 from nI_pred 3]
      exact g1
    · by_cases z : k = 3
      · subst z
        rw [updE_self]
        exact hN.fr fun j hj => g2 j hj
      · rw [updE_ne (by omega), show ((o + 1) % 4 + k) % 4 = (o + (k + 1)) % 4 by omega]
        exact (hk (k + 1) (by omega)).fr fun j hj => by
          show past' (490 * k + j) = past (490 * (k + 1) + j)
          rw [g3 (490 * k + j) (by omega), u2 (490 * k + j) (by omega) (by omega)]
          exact congrArg past (show 490 + (490 * k + j) = 490 * (k + 1) + j by omega)
theorem e_takeBack (N : Ex) (Hs : Nat → Ex) {o c : Nat} (ho : o < 4) (hc : c < 4) : d_X1_takeBackInto N Hs (nI o) (nI (c + 1)) = (nI c, Hs ((o + c) % 4), nI c) := by
  unfold d_X1_takeBackInto
  rw [nI_pred, nJ_add, nI_mod4 (by omega)]
  have hm : (o + c) % 4 < 4 := Nat.mod_lt _ (by decide)
  have h0 : ¬ nI (c + 1) ≤ 0 := nI_nle (Nat.succ_pos c) (by omega)
  generalize (o + c) % 4 = m at hm ⊢
  rcases n4cases hm with rfl | rfl | rfl | rfl
  · rw [if_neg (show ¬ nI 0 < 0 by decide), if_pos (show nI 0 = (0 : Int32) by decide), if_neg h0]
  · rw [if_neg (show ¬ nI 1 < 0 by decide), if_neg (show ¬ nI 1 = (0 : Int32) by decide), if_pos (show nI 1 = (1 : Int32) by decide), if_neg h0]
  · rw [if_neg (show ¬ nI 2 < 0 by decide), if_neg (show ¬ nI 2 = (0 : Int32) by decide), if_neg (show ¬ nI 2 = (1 : Int32) by decide), if_pos (show nI 2 = (2 : Int32) by decide), if_neg h0]
  · rw [if_neg (show ¬ nI 3 < 0 by decide), if_neg (show ¬ nI 3 = (0 : Int32) by decide), if_neg (show ¬ nI 3 = (1 : Int32) by decide), if_neg (show ¬ nI 3 = (2 : Int32) by decide), if_pos (show nI 3 = (3 : Int32) by decide), if_neg h0]
theorem e_takeBack0 (N : Ex) (Hs : Nat → Ex) (old : Int32) : d_X1_takeBackInto N Hs old (nI 0) = (-5, N, nI 0) := by
  unfold d_X1_takeBackInto
  simp only [if_pos (show nI 0 ≤ 0 by decide), ite_self]
theorem HX.undo {N : Ex} {Hs : Nat → Ex} {old sze pasts : Int32} {past s : F_} (h : HX Hs old sze past pasts) (hN : GX N s) :
    ∃ (r : Int32) (N' : Ex) (sze' : Int32) (s' : F_) (pasts' : Int32), d_X1_takeBackInto N Hs old sze = (r, N', sze') ∧ d_X6_undo s past pasts = some (r, s', pasts') ∧ GX N' s' ∧ HX Hs old sze' past pasts' := by
  obtain ⟨o, c, ho, hc, rfl, rfl, rfl, hk⟩ := h
  unfold d_X6_undo
  cases c with
  | zero =>
    rw [e_takeBack0, if_pos (show nI 0 = (0 : Int32) from rfl)]
    exact ⟨_, _, _, _, _, rfl, rfl, hN, o, 0, ho, hc, rfl, rfl, rfl, fun k hk' => by omega⟩
  | succ c =>
    rw [e_takeBack N Hs ho (by omega), if_neg (nI_ne0 (Nat.succ_pos c) (by omega)), nI_pred]
    obtain ⟨f', g1, g2, g3⟩ := cp_loop (fun k x f => lp_X6_undo_22 past k x f (nI c)) (fun f => some (nI c, f, nI c)) (fun j => past (490 * c + j)) 490 0 (fun k f => by
      simp only [lp_X6_undo_22]
      rw [if_pos le490]) (fun k i f hi => by
      have e : (490 : Int32) * nI c + nI i = nI (490 * c + i) := by rw [show (490 : Int32) = nI 490 from rfl, nI_mul, nJ_add]
      simp only [lp_X6_undo_22]
      rw [if_neg (nle490 hi), e, rd_i (by omega) (by decide), ob1_some, wr_i hi (by decide), ob1_some, nI_s, Nat.zero_add]) 490 0 fuel s (by omega) (k_fuel (by decide))
    exact ⟨_, _, _, f', _, rfl, g1, (hk c (Nat.lt_succ_self c)).fr fun j hj => by have := g2 j (Nat.zero_le j) hj; rwa [Nat.zero_add] at this, o, c, ho, by omega, rfl, rfl, rfl, fun k hk' => hk k (by omega)⟩
theorem GX.wait {E : Ex} {s : F_} (h : GX E s) : ∃ c : Nat, c ≤ 40 ∧ E.2.2.2.2.2.2.2.2.2.1 = nI c ∧ s 476 = nI c := by
  obtain ⟨n, hn, nR, nA, -, -, -, -, -, q, -, hQ⟩ := h
  exact ⟨q.length, hQ.1, hQ.2.2.1, hQ.2.2.2.1⟩
theorem e_keep {N : Ex} {s snap : F_} {kept : Int32} (h : GX N s) : ∃ (snap' : F_), d_X6_keep s snap kept = some (N.2.2.2.2.2.2.2.2.2.1, snap', 1) ∧ GX N snap' := by
  obtain ⟨c, hc, e1, e2⟩ := h.wait
  obtain ⟨f', g1, g2, g3⟩ := cp_loop (fun k x f => lp_X6_keep_2 s k x f kept) (fun f => some (nI c, f, 1)) s 490 0 (fun k f => by
    simp only [lp_X6_keep_2]
    rw [if_pos le490, rd476, ob1_some, e2]) (fun k i f hi => by
    simp only [lp_X6_keep_2]
    rw [if_neg (nle490 hi), rd_i hi (by decide), ob1_some, wr_i hi (by decide), ob1_some, nI_s, Nat.zero_add]) 490 0 fuel snap (by omega) (k_fuel (by decide))
  exact ⟨f', by rw [e1]; exact g1, h.fr fun j hj => by have := g2 j (Nat.zero_le j) hj; rwa [Nat.zero_add] at this⟩
theorem e_finish_neg {e : Int32} (he : e < 0) (N T : Ex) (Hs : Nat → Ex) (old sze : Int32) : d_X5_finishAct e N T Hs old sze = (e, N, Hs, old, sze) := by
  unfold d_X5_finishAct
  rw [if_pos he]
theorem e_finish {c : Nat} (hc : c < 2 ^ 31) {N T : Ex} {Hs Hs' : Nat → Ex} {old sze old' sze' : Int32} (h : d_X1_record N Hs old sze = (Hs', old', sze')) : d_X5_finishAct (nI c) N T Hs old sze = (nI c, T, Hs', old', sze') := by
  unfold d_X5_finishAct
  rw [if_neg (nI_pos hc), h]
  rfl
theorem e_restore {N T S : Ex} {Hs : Nat → Ex} {old sze pasts hasS kept : Int32} {past s snap : F_} (h : HX Hs old sze past pasts) (hN : GX N s) (hK : KX S hasS snap kept) :
    ∃ (r : Int32) (N' T' : Ex) (Hs' : Nat → Ex) (old' sze' : Int32) (s' past' : F_) (pasts' : Int32), d_X5_restore N T S Hs old sze hasS = (r, N', T', Hs', old', sze') ∧ d_X6_restore s past pasts snap kept = some (r, s', past', pasts') ∧ GX N' s' ∧ HX Hs' old' sze' past' pasts' := by
  unfold d_X5_restore d_X6_restore
  rcases hK with ⟨rfl, rfl⟩ | ⟨rfl, rfl, hS⟩
  · rw [if_pos rfl, if_pos rfl]
    exact ⟨_, _, _, _, _, _, _, _, _, rfl, rfl, hN, h⟩
  · rw [if_neg n10, if_neg n10]
    obtain ⟨Hs', old', sze', past', pasts', g1, g2, g3⟩ := h.record hN
    obtain ⟨c, hc, e1, e2⟩ := hS.wait
    have ef : d_X5_finishAct (d_X0_waiting S.2.2.2.2.2.2.2.2.2.1) N S Hs old sze = (nI c, S, Hs', old', sze') := by
      rw [show d_X0_waiting S.2.2.2.2.2.2.2.2.2.1 = nI c from e1]
      exact e_finish (by omega) g1
    rw [ef, g2, tb5_mk, ob2_some]
    obtain ⟨f', u1, u2, u3⟩ := cp_loop (fun k x f => lp_X6_restore_16 snap 1 k x f past' pasts') (fun f => ob1 (rd 490 f 476) fun v6 => some (v6, f, past', pasts')) snap 490 0 (fun k f => by
      simp only [lp_X6_restore_16]
      rw [if_pos le490]) (fun k i f hi => by
      simp only [lp_X6_restore_16]
      rw [if_neg (nle490 hi), rd_i hi (by decide), ob1_some, wr_i hi (by decide), ob1_some, nI_s, Nat.zero_add]) 490 0 fuel s (by omega) (k_fuel (by decide))
    have u2' : ∀ j, j < 490 → f' j = snap j := fun j hj => by have := u2 j (Nat.zero_le j) hj; rwa [Nat.zero_add] at this
    rw [rd476, ob1_some, u2' 476 (by decide), e2] at u1
    exact ⟨_, _, _, _, _, _, f', _, _, rfl, u1, hS.fr u2', g3⟩
