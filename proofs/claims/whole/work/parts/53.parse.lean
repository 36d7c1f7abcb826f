/-! part 53: one thing of the text, on both sides -/
def TX (ft : F_) (len : Int32) (mt : F_) (ml : Int32) (L : Nat) : Prop := L ≤ 60 ∧ len = nI L ∧ ml = nI L ∧ ∀ j, j < L → mt j = ft j
theorem e_here36 {ft : F_} {len pos bad : Int32} : j_X2_here_36 ft len pos bad 0 = some (-1) := by
  unfold j_X2_here_36; rw [if_pos rfl]
theorem e_here_in {ft : F_} {L i : Nat} (hL : L ≤ 60) (hi : i < L) : d_X2_here ft (nI L) (nI i) 0 = some (ft i) := by
  unfold d_X2_here
  rw [if_neg (nI_pos (by omega)), if_neg (nI_ge hi (by omega)), if_neg (show ¬ (60 : Int32) ≤ nI i from nI_ge (b := 60) (by omega) (by decide))]
  unfold j_X2_here_36
  rw [if_neg n10, if_pos rfl, rd_i (by omega) (by decide), ob1_some]
theorem e_here_out {ft : F_} {L i : Nat} {b : Int32} (hi : L ≤ i) (h2 : i < 2 ^ 31) : d_X2_here ft (nI L) (nI i) b = some (-1) := by
  unfold d_X2_here
  rw [if_neg (nI_pos h2), if_pos (nI_le hi h2)]
  exact e_here36
theorem e_here_bad {ft : F_} {len pos : Int32} : d_X2_here ft len pos 1 = some (-1) := by
  unfold d_X2_here j_X2_here_34
  rw [e_here36]
  unfold j_X2_here_36
  rw [if_neg n10, if_neg n10]
  simp only [ite_self]
theorem e_next_in {mt : F_} {L i : Nat} (hL : L ≤ 60) (hi : i < L) : d_X6_next mt (nI L) (nI i) = some (mt i) := by
  unfold d_X6_next
  rw [if_neg (nI_ge hi (by omega)), rd_i (by omega) (by decide), ob1_some]
theorem e_next_out {mt : F_} {L i : Nat} (hi : L ≤ i) (h2 : i < 2 ^ 31) : d_X6_next mt (nI L) (nI i) = some 0 := by
  unfold d_X6_next
  rw [if_pos (nI_le hi h2)]
theorem sync_expect {ft mt : F_} {len ml b : Int32} {L i : Nat} (c : Int32) (hc : c ≠ -1) (T : TX ft len mt ml L) (hi : i ≤ L) (hb : b = 0 ∨ b = 1) :
    ∃ (i' : Nat) (b' : Int32), d_X2_expect c ft len (nI i) b = some (nI i', b') ∧ d_X6_sign c mt ml (nI i) b = some (nI i', b') ∧ (b' = 0 ∨ b' = 1) ∧ i ≤ i' ∧ i' ≤ L ∧ (b' = 0 → b = 0 ∧ i' = i + 1) := by
  obtain ⟨hL, rfl, rfl, ht⟩ := T
  unfold d_X2_expect d_X6_sign j_X6_sign_35
  simp only [if_pos (show (0 : Int32) = 0 from rfl), if_neg n10]
  rcases hb with rfl | rfl
  · rw [if_pos rfl]
    by_cases e : i < L
    · have ne : ¬ nI i = nI L := fun x => by
        have := (nI_inj (by omega) (by omega)).mp x
        omega
      rw [e_here_in hL e, ob1_some, if_neg ne, e_next_in hL e, ob1_some, ht i e]
      by_cases z : ft i = c
      · rw [if_pos z, if_pos z, nI_s]
        exact ⟨_, _, rfl, rfl, Or.inl rfl, by omega, e, fun _ => ⟨rfl, rfl⟩⟩
      · rw [if_neg z, if_neg z, Int32.add_zero]
        exact ⟨_, _, rfl, rfl, Or.inr rfl, Nat.le_refl i, hi, fun x => absurd x n10⟩
    · have e' : i = L := by omega
      subst e'
      rw [e_here_out (Nat.le_refl _) (by omega), ob1_some, if_neg (fun x => hc x.symm), if_pos rfl, Int32.add_zero]
      exact ⟨_, _, rfl, rfl, Or.inr rfl, Nat.le_refl i, hi, fun x => absurd x n10⟩
  · rw [e_here_bad, ob1_some, if_neg (fun x => hc x.symm), if_neg n10, Int32.add_zero]
    exact ⟨_, _, rfl, rfl, Or.inr rfl, Nat.le_refl i, hi, fun x => absurd x n10⟩
/-! numbers -/
def dg (x : Int32) : Int32 := if x < 48 then -1 else if 57 < x then -1 else x - 48
theorem dg_cases (x : Int32) : (∃ d : Nat, d ≤ 9 ∧ x = nI (48 + d) ∧ dg x = nI d ∧ x - 48 = nI d) ∨ (dg x = -1 ∧ ¬ (0 ≤ (x - 48).toInt ∧ (x - 48).toInt ≤ 9) ∧ (x < 48 ∨ 57 < x)) := by
  have i48 : (48 : Int32).toInt = 48 := rfl
  have i57 : (57 : Int32).toInt = 57 := rfl
  have far : (x < 48 ∨ 57 < x) → ¬ (0 ≤ (x - 48).toInt ∧ (x - 48).toInt ≤ 9) := fun h g => by
    have e : x = x - 48 + 48 := (Int32.sub_add_cancel x 48).symm
    have e2 : (x - 48 + 48).toInt = (x - 48).toInt + 48 := add_toInt (by rw [i48]; omega) (by rw [i48]; omega)
    rw [← e] at e2
    rw [Int32.lt_iff_toInt_lt, Int32.lt_iff_toInt_lt, i48, i57] at h
    omega
  by_cases c : x < 48
  · exact Or.inr ⟨by unfold dg; rw [if_pos c], far (Or.inl c), Or.inl c⟩
  · by_cases d : 57 < x
    · exact Or.inr ⟨by unfold dg; rw [if_neg c, if_pos d], far (Or.inr d), Or.inr d⟩
    · have c' := c
      have d' := d
      rw [Int32.lt_iff_toInt_lt, i48] at c'
      rw [Int32.lt_iff_toInt_lt, i57] at d'
      obtain ⟨m, hm, e, ei⟩ := ex_nI (x := x) (by omega)
      have e2 : x - 48 = nI (m - 48) := by rw [e]; exact nI_sub (b := 48) (by omega)
      refine Or.inl ⟨m - 48, by omega, by rw [e]; congr 1; omega, ?_, e2⟩
      unfold dg; rw [if_neg c, if_neg d, e2]
theorem e_digit_in {ft : F_} {L i : Nat} (hL : L ≤ 60) (hi : i < L) : d_X2_digitHere ft (nI L) (nI i) 0 = some (dg (ft i)) := by
  unfold d_X2_digitHere dg
  rw [e_here_in hL hi, ob1_some]
  by_cases c : ft i < 48
  · rw [if_pos c, if_pos c]
  · rw [if_neg c, if_neg c]
    by_cases d : 57 < ft i
    · rw [if_pos d, if_pos d]
    · rw [if_neg d, if_neg d]
theorem e_digit_m1 {ft : F_} {len pos b : Int32} (h : d_X2_here ft len pos b = some (-1)) : d_X2_digitHere ft len pos b = some (-1) := by
  unfold d_X2_digitHere
  rw [h, ob1_some, if_pos (by decide)]
theorem in_nI {d lo hi : Nat} (h1 : d < 2 ^ 31) (h2 : lo < 2 ^ 31) (h3 : hi < 2 ^ 31) : d_X6_in (nI d) (nI lo) (nI hi) = if lo ≤ d ∧ d ≤ hi then 1 else 0 := by
  unfold d_X6_in
  by_cases c : d < lo
  · rw [if_pos (nI_lt c h2), if_neg (by omega)]
  · rw [if_neg (nI_nlt (by omega) h1)]
    by_cases e : hi < d
    · rw [if_pos (nI_lt e h1), if_neg (by omega)]
    · rw [if_neg (nI_nlt (by omega) h3), if_pos (by omega)]
theorem in_far {x : Int32} {lo hi : Nat} (h3 : hi ≤ 9) (h : ¬ (0 ≤ x.toInt ∧ x.toInt ≤ 9)) : d_X6_in x (nI lo) (nI hi) = 0 ∨ lo = lo ∧ d_X6_in x (nI lo) (nI hi) = 0 ∨ lo ≥ 2 ^ 31 := by
  by_cases hl : lo < 2 ^ 31
  · refine Or.inl ?_
    unfold d_X6_in
    by_cases c : x < nI lo
    · rw [if_pos c]
    · rw [if_neg c]
      by_cases e : nI hi < x
      · rw [if_pos e]
      · rw [Int32.lt_iff_toInt_lt, nI_toInt hl] at c
        rw [Int32.lt_iff_toInt_lt, nI_toInt (by omega)] at e
        exact absurd ⟨by omega, by omega⟩ h
  · exact Or.inr (Or.inr (by omega))
theorem e_j23 {mt : F_} {ml least most x3 spot : Int32} {l m : Nat} (hl : least = nI l) (hm : most = nI m) (hl1 : l ≤ 1) (hm99 : m ≤ 99) :
    j_X6_number_23 mt ml least most x3 spot 0 = if d_X6_in x3 (nI l) (nI (if 9 ≤ m then 9 else m)) = 0 then j_X6_number_67 mt ml least most x3 spot 1 else j_X6_number_67 mt ml least most x3 spot 0 := by
  subst hl; subst hm
  unfold j_X6_number_23
  rw [if_pos rfl]
  have h9 : (9 : Int32) = nI 9 := rfl
  by_cases c : l = 0
  · subst c
    rw [if_pos (show nI 0 ≤ (0 : Int32) by decide)]
    by_cases d : 9 ≤ m
    · rw [if_pos (show (9 : Int32) ≤ nI m from nI_le (a := 9) d (by omega)), if_pos d]; rfl
    · rw [if_neg (show ¬ (9 : Int32) ≤ nI m from nI_ge (b := 9) (by omega) (by decide)), if_neg d]; rfl
  · have e : l = 1 := by omega
    subst e
    rw [if_neg (show ¬ nI 1 ≤ (0 : Int32) by decide)]
    by_cases d : 9 ≤ m
    · rw [if_pos (show (9 : Int32) ≤ nI m from nI_le (a := 9) d (by omega)), if_pos d]; rfl
    · rw [if_neg (show ¬ (9 : Int32) ≤ nI m from nI_ge (b := 9) (by omega) (by decide)), if_neg d]; rfl
theorem e_lp0 {mt : F_} {ml p1 p2 x3 spot w : Int32} (k : Nat) : lp_X6_number_97 mt ml p1 p2 (k + 1) x3 0 spot w = some (x3, spot, w) := by
  simp only [lp_X6_number_97]
  rw [if_pos trivial]
theorem e_lp1 {mt : F_} {ml p1 p2 x3 spot w : Int32} (k : Nat) : lp_X6_number_97 mt ml p1 p2 (k + 1) x3 1 spot w = ob1 (d_X6_next mt ml spot) fun r6 =>
    if d_X6_in r6 48 57 = 0 then j_X6_number_136 (lp_X6_number_97 mt ml p1 p2 k) mt ml p1 p2 x3 spot w
    else ob1 (d_X6_next mt ml spot) fun r13 => if p2 < 10 * x3 + r13 - 48 then j_X6_number_136 (lp_X6_number_97 mt ml p1 p2 k) mt ml p1 p2 x3 spot w
    else j_X6_number_139 (lp_X6_number_97 mt ml p1 p2 k) mt ml p1 p2 x3 1 spot w := by
  simp only [lp_X6_number_97]
  rw [if_neg n10]
theorem e_j136 {LP : Int32 → Int32 → Int32 → Int32 → Option (Int32 × Int32 × Int32)} {mt : F_} {ml p1 p2 x3 spot w : Int32} : j_X6_number_136 LP mt ml p1 p2 x3 spot w = LP x3 0 spot w := by
  unfold j_X6_number_136 j_X6_number_139 j_X6_number_161
  rw [if_pos rfl, if_pos rfl, Int32.add_zero]
/-- what stands at a place, told as a digit or not -/
theorem e_lpstop {mt : F_} {p1 most : Int32} {L i m x : Nat} (hL : L ≤ 60) (hi : i ≤ L) (hm : most = nI m) (hm99 : m ≤ 99) (hx : x ≤ 99) (k : Nat) (h : i = L ∨ (i < L ∧ ((mt i < 48 ∨ 57 < mt i) ∨ ∃ d, d ≤ 9 ∧ mt i = nI (48 + d) ∧ m < 10 * x + d))) :
    lp_X6_number_97 mt (nI L) p1 most (k + 1 + 1) (nI x) 1 (nI i) 0 = some (nI x, nI i, 0) := by
  subst hm
  have st : lp_X6_number_97 mt (nI L) p1 (nI m) (k + 1) (nI x) 0 (nI i) 0 = some (nI x, nI i, 0) := e_lp0 k
  rw [e_lp1, e_j136, st]
  rcases h with rfl | ⟨h1, h2⟩
  · rw [e_next_out (Nat.le_refl _) (by omega), ob1_some, if_pos (by decide)]
  · rw [e_next_in hL h1, ob1_some]
    rcases h2 with h2 | ⟨d, hd, e, h2⟩
    · rw [if_pos]
      unfold d_X6_in
      by_cases c : mt i < 48
      · rw [if_pos c]
      · rw [if_neg c, if_pos (h2.resolve_left c)]
    · have e1 : (10 : Int32) * nI x + nI (48 + d) - 48 = nI (10 * x + d) := by
        rw [show (10 : Int32) = nI 10 from rfl, nI_mul, nJ_add, show (48 : Int32) = nI 48 from rfl, nI_sub (by omega)]
        congr 1; omega
      rw [e, show d_X6_in (nI (48 + d)) 48 57 = d_X6_in (nI (48 + d)) (nI 48) (nI 57) from rfl, in_nI (by omega) (by decide) (by decide), if_pos (show 48 ≤ 48 + d ∧ 48 + d ≤ 57 by omega), if_neg n10, ob1_some, e1, if_pos (nI_lt h2 (by omega))]
theorem e_lpgo {mt : F_} {p1 most : Int32} {L i m x d : Nat} (hL : L ≤ 60) (hi : i < L) (hm : most = nI m) (hm99 : m ≤ 99) (hd : d ≤ 9) (e : mt i = nI (48 + d)) (h2 : 10 * x + d ≤ m) (k : Nat) :
    lp_X6_number_97 mt (nI L) p1 most (k + 1) (nI x) 1 (nI i) 0 = lp_X6_number_97 mt (nI L) p1 most k (nI (10 * x + d)) 1 (nI (i + 1)) 0 := by
  subst hm
  have e1 : (10 : Int32) * nI x + nI (48 + d) - 48 = nI (10 * x + d) := by
    rw [show (10 : Int32) = nI 10 from rfl, nI_mul, nJ_add, show (48 : Int32) = nI 48 from rfl, nI_sub (by omega)]
    congr 1; omega
  rw [e_lp1, e_next_in hL hi, ob1_some, e, show d_X6_in (nI (48 + d)) 48 57 = d_X6_in (nI (48 + d)) (nI 48) (nI 57) from rfl, in_nI (by omega) (by decide) (by decide), if_pos (show 48 ≤ 48 + d ∧ 48 + d ≤ 57 by omega), if_neg n10, ob1_some, e1, if_neg (nI_nlt h2 (by omega))]
  unfold j_X6_number_139 j_X6_number_161
  rw [if_neg n10, e_next_in hL hi, ob1_some, e, e1, if_neg n10, nI_s]
theorem e_number_bad {mt : F_} {ml least most : Int32} {spot : Int32} : ∀ x3, j_X6_number_23 mt ml least most x3 spot 1 = some (0, spot, 1) := by
  intro x3
  unfold j_X6_number_23 j_X6_number_67
  rw [if_neg n10, if_neg n10]
theorem e_numberM_bad {mt : F_} {least most : Int32} {L i : Nat} (hL : L ≤ 60) (hi : i ≤ L) : d_X6_number least most mt (nI L) (nI i) 1 = some (0, nI i, 1) := by
  unfold d_X6_number
  by_cases e : i < L
  · rw [if_neg (nI_ge e (by omega)), e_next_in hL e, ob1_some, e_number_bad]
  · rw [if_pos (nI_le (by omega) (by omega)), e_number_bad]
theorem e_stopM {mt : F_} {p1 most : Int32} {L i m x : Nat} (hL : L ≤ 60) (hi : i ≤ L) (hm : most = nI m) (hm99 : m ≤ 99) (hx : x ≤ 99) (h10 : 10 ≤ x) (k : Nat) :
    lp_X6_number_97 mt (nI L) p1 most (k + 1 + 1) (nI x) 1 (nI i) 0 = some (nI x, nI i, 0) := by
  refine e_lpstop hL hi hm hm99 hx k ?_
  by_cases e : i < L
  · refine Or.inr ⟨e, ?_⟩
    rcases dg_cases (mt i) with ⟨d, hd, ed, -⟩ | ⟨-, -, h⟩
    · exact Or.inr ⟨d, hd, ed, by omega⟩
    · exact Or.inl h
  · exact Or.inl (by omega)
theorem sync_number {ft mt fG : F_} {len ml b least most pI cI : Int32} {L i l m k : Nat} (T : TX ft len mt ml L) (hi : i ≤ L) (hb : b = 0 ∨ b = 1) (hl : least = nI l) (hm : most = nI m) (hl1 : l ≤ 1) (hm1 : 1 ≤ m) (hm99 : m ≤ 99)
    (hput : ∀ v, d_X4_put 150 pI cI v fG 5 = some (upd fG k v)) :
    ∃ (v : Int32) (fG' : F_) (i' : Nat) (b' : Int32), d_X2_readNumber pI cI least most ft fG len (nI i) b = some (fG', nI i', b') ∧ d_X6_number least most mt ml (nI i) b = some (v, nI i', b') ∧ (b' = 0 ∨ b' = 1) ∧ i ≤ i' ∧ i' ≤ L ∧ (b' = 0 → b = 0 ∧ i < i' ∧ fG' = upd fG k v) ∧ (∀ j, j ≠ k → fG' j = fG j) := by
  obtain ⟨hL, rfl, rfl, ht⟩ := T
  have m1lt : (-1 : Int32) < nI l := by
    rw [Int32.lt_iff_toInt_lt, im1, nI_toInt (by omega)]; omega
  have badC : ∀ {bb : Int32}, d_X2_digitHere ft (nI L) (nI i) bb = some (-1) → d_X2_readNumber pI cI least most ft fG (nI L) (nI i) bb = some (fG, nI i, 1) := fun {bb} h => by
    unfold d_X2_readNumber
    rw [h, ob1_some, hl, if_pos m1lt]
  rcases hb with rfl | rfl
  · by_cases e : i < L
    · have hM : d_X6_number least most mt (nI L) (nI i) 0 = j_X6_number_23 mt (nI L) least most (ft i - 48) (nI i) 0 := by
        unfold d_X6_number
        rw [if_neg (nI_ge e (by omega)), e_next_in hL e, ob1_some, ht i e]
      rw [hM, e_j23 hl hm hl1 hm99]
      rcases dg_cases (ft i) with ⟨d, hd, ed, e1, e2⟩ | ⟨e1, e2, e3⟩
      · rw [e2, in_nI (by omega) (by omega) (by split <;> omega)]
        have hCd : d_X2_digitHere ft (nI L) (nI i) 0 = some (nI d) := by rw [e_digit_in hL e, e1]
        by_cases c : l ≤ d ∧ d ≤ m
        · have c' : l ≤ d ∧ d ≤ (if 9 ≤ m then 9 else m) := ⟨c.1, by split <;> omega⟩
          rw [if_pos c', if_neg n10]
          have hC : d_X2_readNumber pI cI least most ft fG (nI L) (nI i) 0 = ob1 (d_X2_digitHere ft (nI L) (nI (i + 1)) 0) fun r5 => if nI d ≤ 0 then some (upd fG k (nI d), nI (i + 1), 0) else if r5 = -1 then some (upd fG k (nI d), nI (i + 1), 0) else if nI m < nI d * 10 + r5 then some (upd fG k (nI d), nI (i + 1), 0) else some (upd fG k (nI d * 10 + r5), nI (i + 1 + 1), 0) := by
            unfold d_X2_readNumber j_X2_readNumber_85
            simp only [hCd, ob1_some, hput, hl, hm, nI_s]
            rw [if_neg (nI_nlt c.1 (by omega)), if_pos (nI_le c.2 (by omega))]
          have hM2 : j_X6_number_67 mt (nI L) least most (nI d) (nI i) 0 = if nI d ≤ 0 then lp_X6_number_97 mt (nI L) least most fuel (nI d) 0 (nI (i + 1)) 0 else lp_X6_number_97 mt (nI L) least most fuel (nI d) 1 (nI (i + 1)) 0 := by
            unfold j_X6_number_67
            rw [if_pos rfl, nI_s]
          rw [hC, hM2]
          have hf : fuel = 2147483645 + 1 + 1 + 1 := rfl
          by_cases c0 : nI d ≤ 0
          · rw [if_pos c0, hf, e_lp0]
            have : ∃ r5, d_X2_digitHere ft (nI L) (nI (i + 1)) 0 = some r5 := by
              by_cases e' : i + 1 < L
              · exact ⟨_, e_digit_in hL e'⟩
              · exact ⟨_, e_digit_m1 (e_here_out (by omega) (by omega))⟩
            obtain ⟨r5, h5⟩ := this
            rw [h5, ob1_some, if_pos c0]
            exact ⟨_, _, _, _, rfl, rfl, Or.inl rfl, by omega, by omega, fun _ => ⟨rfl, by omega, rfl⟩, fun j hj => upd_ne hj⟩
          · rw [if_neg c0, hf]
            have hd1 : 1 ≤ d := Nat.pos_of_ne_zero fun z => by subst z; exact c0 (by decide)
            by_cases e' : i + 1 < L
            · rw [e_digit_in hL e', ob1_some, if_neg c0]
              rcases dg_cases (ft (i + 1)) with ⟨d2, hd2, ed2, f1, f2⟩ | ⟨f1, f2, f3⟩
              · have nm1 : ¬ nI d2 = -1 := fun x => by
                  have h1 : (nI d2).toInt = d2 := nI_toInt (by omega)
                  rw [x, im1] at h1; omega
                have e10 : nI d * 10 + nI d2 = nI (10 * d + d2) := by
                  rw [show (10 : Int32) = nI 10 from rfl, nI_mul, nJ_add]; congr 1; omega
                rw [f1, if_neg nm1, e10]
                by_cases g : 10 * d + d2 ≤ m
                · rw [if_neg (nI_nlt g (by omega)), e_lpgo hL e' hm hm99 hd2 (by rw [ht _ e', ed2]) g, e_stopM hL (by omega) hm hm99 (by omega) (by omega)]
                  exact ⟨_, _, _, _, rfl, rfl, Or.inl rfl, by omega, by omega, fun _ => ⟨rfl, by omega, rfl⟩, fun j hj => upd_ne hj⟩
                · rw [if_pos (nI_lt (by omega) (by omega)), e_lpstop hL (by omega) hm hm99 (by omega) _ (Or.inr ⟨e', Or.inr ⟨d2, hd2, by rw [ht _ e', ed2], by omega⟩⟩)]
                  exact ⟨_, _, _, _, rfl, rfl, Or.inl rfl, by omega, by omega, fun _ => ⟨rfl, by omega, rfl⟩, fun j hj => upd_ne hj⟩
              · rw [f1, if_pos rfl, e_lpstop hL (by omega) hm hm99 (by omega) _ (Or.inr ⟨e', Or.inl (by rw [ht _ e']; exact f3)⟩)]
                exact ⟨_, _, _, _, rfl, rfl, Or.inl rfl, by omega, by omega, fun _ => ⟨rfl, by omega, rfl⟩, fun j hj => upd_ne hj⟩
            · rw [e_digit_m1 (e_here_out (by omega) (by omega)), ob1_some, if_neg c0, if_pos rfl, e_lpstop hL (by omega) hm hm99 (by omega) _ (Or.inl (by omega))]
              exact ⟨_, _, _, _, rfl, rfl, Or.inl rfl, by omega, by omega, fun _ => ⟨rfl, by omega, rfl⟩, fun j hj => upd_ne hj⟩
        · have c' : ¬ (l ≤ d ∧ d ≤ (if 9 ≤ m then 9 else m)) := fun x => c ⟨x.1, by have := x.2; split at this <;> omega⟩
          rw [if_neg c', if_pos rfl]
          have hC : d_X2_readNumber pI cI least most ft fG (nI L) (nI i) 0 = some (fG, nI i, 1) := by
            unfold d_X2_readNumber
            rw [hCd, ob1_some, hl, hm]
            by_cases g : d < l
            · rw [if_pos (nI_lt g (by omega))]
            · rw [if_neg (nI_nlt (by omega) (by omega)), if_neg (nI_ge (by omega) (by omega))]
          rw [hC]
          unfold j_X6_number_67
          rw [if_neg n10]
          exact ⟨_, _, _, _, rfl, rfl, Or.inr rfl, Nat.le_refl i, hi, fun x => absurd x n10, fun _ _ => rfl⟩
      · have hin : d_X6_in (ft i - 48) (nI l) (nI (if 9 ≤ m then 9 else m)) = 0 := by
          rcases in_far (lo := l) (hi := if 9 ≤ m then 9 else m) (by split <;> omega) e2 with h | ⟨-, h⟩ | h
          · exact h
          · exact h
          · omega
        rw [hin, if_pos rfl, badC (by rw [e_digit_in hL e, e1])]
        unfold j_X6_number_67
        rw [if_neg n10]
        exact ⟨_, _, _, _, rfl, rfl, Or.inr rfl, Nat.le_refl i, hi, fun x => absurd x n10, fun _ _ => rfl⟩
    · have e' : i = L := by omega
      subst e'
      rw [badC (e_digit_m1 (e_here_out (Nat.le_refl _) (by omega)))]
      have hM : d_X6_number least most mt (nI i) (nI i) 0 = j_X6_number_23 mt (nI i) least most (-1) (nI i) 0 := by
        unfold d_X6_number
        rw [if_pos (Int32.le_refl _)]
      have hin : d_X6_in (-1) (nI l) (nI (if 9 ≤ m then 9 else m)) = 0 := by
        unfold d_X6_in
        rw [if_pos m1lt]
      rw [hM, e_j23 hl hm hl1 hm99, hin, if_pos rfl]
      unfold j_X6_number_67
      rw [if_neg n10]
      exact ⟨_, _, _, _, rfl, rfl, Or.inr rfl, Nat.le_refl i, hi, fun x => absurd x n10, fun _ _ => rfl⟩
  · rw [badC (e_digit_m1 e_here_bad), e_numberM_bad hL hi]
    exact ⟨_, _, _, _, rfl, rfl, Or.inr rfl, Nat.le_refl i, hi, fun x => absurd x n10, fun _ _ => rfl⟩
