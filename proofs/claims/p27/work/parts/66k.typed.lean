/-! part 66k: a text typed sign by sign -/
theorem rm_l {m K : Nat} {k : Int32} (e : k = nI K) (hm : m < 2 ^ 31) (hK : K < 2 ^ 31) : nI m - nI m / k * k = nI (m % K) := by
  subst e
  have h1 : nI m / nI K = nI (m / K) := (Int32.ofNat_div hm hK).symm
  have h2 : m / K * K ≤ m := Nat.div_mul_le_self m K
  rw [h1, nI_mul, nI_sub h2]
  congr 1
  have := Nat.div_add_mod m K
  rw [Nat.mul_comm] at this
  omega
theorem dv_l {m K : Nat} {k : Int32} (e : k = nI K) (hm : m < 2 ^ 31) (hK : K < 2 ^ 31) : nI m / k = nI (m / K) := by
  subst e; exact (Int32.ofNat_div hm hK).symm
theorem dr_l {m A K : Nat} {a k : Int32} (ea : a = nI A) (ek : k = nI K) (hm : m < 2 ^ 31) (hA : A < 2 ^ 31) (hK : K < 2 ^ 31) : nI m / a - nI m / a / k * k = nI (m / A % K) := by
  rw [dv_l ea hm hA]
  exact rm_l ek (Nat.lt_of_le_of_lt (Nat.div_le_self m A) hm) hK
theorem chr_all : ∀ e, e < 128 → ((nI e).toUInt32 % 65536).toInt32 = nI e := by decide +kernel
theorem nch_all : ∀ e, e < 128 → nch (nI e) = nI e := by decide +kernel
theorem dg_l {m A K B : Nat} {a k b : Int32} (ea : a = nI A) (ek : k = nI K) (eb : b = nI B) (hm : m < 2 ^ 31) (hA : A < 2 ^ 31) (hK : 0 < K) (h : B + K ≤ 128) : ((b + (nI m / a - nI m / a / k * k)).toUInt32 % 65536).toInt32 = nI (B + m / A % K) := by
  have := Nat.mod_lt (m / A) hK
  rw [dr_l ea ek hm hA (by omega), eb, nJ_add]
  exact chr_all _ (by omega)
/-- closed: behind a point and one more sign stands a semicolon -/
def CT (ft : F_) (L : Nat) : Prop := ∀ i, i < L → ft i = 46 → i + 2 < L ∧ ft (i + 2) = 59
theorem CT.gt {ft : F_} {L : Nat} (h : CT ft L) : GT ft L := fun i hi e => ⟨by have := h i hi e; omega, fun _ => (h i hi e).2⟩
theorem GT.semi {ft : F_} {L : Nat} (h : GT ft L) : CT (upd ft L 59) (L + 1) := by
  intro i hi e
  by_cases c : i = L
  · subst c; rw [upd_self] at e; exact absurd e (by decide)
  · rw [upd_ne c] at e
    obtain ⟨h1, h2⟩ := h i (by omega) e
    by_cases d : i + 2 = L
    · refine ⟨by omega, ?_⟩
      rw [d]; exact upd_self
    · refine ⟨by omega, ?_⟩
      rw [upd_ne d]; exact h2 (by omega)
theorem CT.type {ft : F_} {L : Nat} {c : Int32} (h : CT ft L) (hc : c ≠ 46) : CT (upd ft L c) (L + 1) := by
  intro i hi e
  by_cases z : i = L
  · subst z; rw [upd_self] at e; exact absurd e hc
  · rw [upd_ne z] at e
    obtain ⟨h1, h2⟩ := h i (by omega) e
    exact ⟨by omega, by rw [upd_ne (by omega)]; exact h2⟩
theorem CT.point {ft : F_} {L : Nat} {c : Int32} (h : CT ft L) (hc : c ≠ 46) : GT (upd (upd ft L 46) (L + 1) c) (L + 2) := by
  intro i hi e
  by_cases z : i = L + 1
  · subst z; rw [upd_self] at e; exact absurd e hc
  · by_cases y : i = L
    · subst y; exact ⟨Nat.le_refl _, fun x => absurd x (by omega)⟩
    · rw [upd_ne z, upd_ne y] at e
      obtain ⟨h1, h2⟩ := h i (by omega) e
      exact ⟨by omega, fun _ => by rw [upd_ne (by omega), upd_ne (by omega)]; exact h2⟩
theorem sc_cong {f g : F_} {i : Nat} (h : ∀ j, j < i → f j = g j) : sc f i = sc g i := by
  induction i with
  | zero => rfl
  | succ i ih => rw [sc_succ, sc_succ, ih (fun j hj => h j (by omega)), h i (by omega)]
theorem sc_upd (ft : F_) (L : Nat) (c : Int32) : sc (upd ft L c) (L + 1) = sc ft L + if c = 59 then 1 else 0 := by
  rw [sc_succ, upd_self, sc_cong (g := ft) (fun j hj => upd_ne (by omega))]
def TXT (t : Td) : F_ := t.2.2.2.2.2.2.1
def PT (R L : Nat) (t u : Td) : Prop := TV R t ∧ SR t u ∧ LN t = nI L ∧ LN u = nI L
theorem PT.tv {R L : Nat} {t u : Td} (h : PT R L t u) : TV R t := h.1
theorem PT.sr {R L : Nat} {t u : Td} (h : PT R L t u) : SR t u := h.2.1
theorem PT.lt {R L : Nat} {t u : Td} (h : PT R L t u) : LN t = nI L := h.2.2.1
theorem PT.lu {R L : Nat} {t u : Td} (h : PT R L t u) : LN u = nI L := h.2.2.2
def RES (R : Nat) (a b : Option (Int32 × Td)) : Prop := ∃ r t' u', a = some (r, t') ∧ b = some (r, u') ∧ TV R t' ∧ SR t' u' ∧ LO t' ∧ LO u'
section TYPED
variable {R R' L : Nat} {t u : Td}
theorem PT.type (h : PT R L t u) (c : Int32) : PT R (L + 1) (tyT c L t) (tyT c L u) := ⟨tyT_TV h.tv, tyT_SR h.sr, rfl, rfl⟩
theorem tx_type {e : Nat} (he : e < 128) (L : Nat) (t : Td) : TXT (tyT (nI e) L t) = upd (TXT t) L (nI e) := by
  show upd (TXT t) L (nch (nI e)) = _
  rw [nch_all e he]
theorem ty_one (h : PT R L t u) (hL : L < 60) {c : Int32} (f : Int32 → Td → Option (Int32 × Td)) (nxt : RES R' (f (nI (L + 1)) (tyT c L t)) (f (nI (L + 1)) (tyT c L u))) : RES R' (ob2 (q_type c t) f) (ob2 (q_type c u) f) := by
  rw [tk_type h.lt hL, tk_type h.lu hL, ob2_some, ob2_some]
  exact nxt
/-- a sign that is neither point nor semicolon -/
theorem ty_c {k e : Nat} (h : PT R L t u) (hL : L < 60) (hC : CT (TXT t) L) (hs : sc (TXT t) L ≤ k) (he : e < 128) (h46 : e ≠ 46) (h59 : e ≠ 59) {c : Int32} (hc : c = nI e) (f : Int32 → Td → Option (Int32 × Td)) (nxt : ∀ t' u', PT R (L + 1) t' u' → CT (TXT t') (L + 1) → sc (TXT t') (L + 1) ≤ k → RES R' (f (nI (L + 1)) t') (f (nI (L + 1)) u')) : RES R' (ob2 (q_type c t) f) (ob2 (q_type c u) f) := by
  subst hc
  have n46 : nI e ≠ 46 := fun x => h46 ((nI_inj (b := 46) (by omega) (by decide)).mp x)
  have n59 : nI e ≠ 59 := fun x => h59 ((nI_inj (b := 59) (by omega) (by decide)).mp x)
  refine ty_one h hL f (nxt _ _ (h.type _) ?_ ?_)
  · rw [tx_type he]; exact hC.type n46
  · rw [tx_type he, sc_upd, if_neg n59]; exact hs
theorem ty_semi {k : Nat} (h : PT R L t u) (hL : L < 60) (hG : GT (TXT t) L) (hs : sc (TXT t) L ≤ k) (f : Int32 → Td → Option (Int32 × Td)) (nxt : ∀ t' u', PT R (L + 1) t' u' → CT (TXT t') (L + 1) → sc (TXT t') (L + 1) ≤ k + 1 → RES R' (f (nI (L + 1)) t') (f (nI (L + 1)) u')) : RES R' (ob2 (q_type 59 t) f) (ob2 (q_type 59 u) f) := by
  have e : TXT (tyT 59 L t) = upd (TXT t) L 59 := tx_type (e := 59) (by decide) L t
  refine ty_one h hL f (nxt _ _ (h.type _) ?_ ?_)
  · rw [e]; exact hG.semi
  · rw [e, sc_upd, if_pos rfl]; omega
theorem ty_point {k e : Nat} (h : PT R L t u) (hL : L + 1 < 60) (hC : CT (TXT t) L) (hs : sc (TXT t) L ≤ k) (he : e < 128) (h46 : e ≠ 46) (h59 : e ≠ 59) {c : Int32} (hc : c = nI e) (f : Int32 → Td → Option (Int32 × Td)) (nxt : ∀ t' u', PT R (L + 2) t' u' → GT (TXT t') (L + 2) → sc (TXT t') (L + 2) ≤ k → RES R' (f (nI (L + 2)) t') (f (nI (L + 2)) u')) : RES R' (ob2 (q_type 46 t) fun _ a => ob2 (q_type c a) f) (ob2 (q_type 46 u) fun _ a => ob2 (q_type c a) f) := by
  subst hc
  have n46 : nI e ≠ 46 := fun x => h46 ((nI_inj (b := 46) (by omega) (by decide)).mp x)
  have n59 : nI e ≠ 59 := fun x => h59 ((nI_inj (b := 59) (by omega) (by decide)).mp x)
  have e1 : TXT (tyT 46 L t) = upd (TXT t) L 46 := tx_type (e := 46) (by decide) L t
  have p1 := h.type 46
  refine ty_one h (by omega) _ (ty_one p1 (by omega) _ (nxt _ _ (p1.type _) ?_ ?_))
  · rw [tx_type he, e1]; exact hC.point n46
  · rw [tx_type he, sc_upd, if_neg n59, e1, sc_upd, if_neg (by decide)]; exact hs
theorem nd {b m A K B : Nat} (hK : 0 < K) (h : B + K ≤ b) (h1 : b ≤ 58) (h2 : 47 ≤ B) : B + m / A % K < 128 ∧ B + m / A % K ≠ 46 ∧ B + m / A % K ≠ 59 := by
  have := Nat.mod_lt (m / A) hK
  omega
/-- what the loop is asked to do with one sign group more -/
def CN (R R' i : Nat) (x2 x6 : Int32) (f : Int32 → Int32 → Int32 → Td → Option (Int32 × Td)) : Prop := ∀ (x : Int32) (L : Nat) (t u : Td), PT R L t u → L ≤ 9 * (i + 1) → GT (TXT t) L → sc (TXT t) L ≤ i → RES R' (f x2 x (x6 + 1) t) (f x2 x (x6 + 1) u)
variable {f : Int32 → Int32 → Int32 → Td → Option (Int32 × Td)} {p1 x2 x6 : Int32} {i Z : Nat}
theorem s_417 (hf : CN R R' i x2 x6 f) (hZ : Z < 2 ^ 31) (hi : i < 4) (x5 : Int32) (h : PT R L t u) (hL : L + 1 ≤ 9 * (i + 1)) (hC : CT (TXT t) L) (hs : sc (TXT t) L ≤ i) : RES R' (j_L_acts_417 f p1 x2 x5 x6 (nI Z) t) (j_L_acts_417 f p1 x2 x5 x6 (nI Z) u) := by
  unfold j_L_acts_417
  by_cases c : nI Z - nI Z / 4 * 4 = 1
  · rw [if_pos c, if_pos c]
    exact hf _ _ _ _ h (by omega) hC.gt hs
  · rw [if_neg c, if_neg c]
    obtain ⟨d1, d2, d3⟩ := nd (b := 58) (m := Z) (A := 64) (K := 9) (B := 49) (by decide) (by decide) (by decide) (by decide)
    exact ty_c h (by omega) hC hs d1 d2 d3 (dg_l (A := 64) (K := 9) (B := 49) rfl rfl rfl hZ (by decide) (by decide) (by decide)) _ fun t' u' h' hC' hs' => hf _ _ _ _ h' (by omega) hC'.gt hs'
theorem s_328 (hf : CN R R' i x2 x6 f) (hZ : Z < 2 ^ 31) (hi : i < 4) (h : PT R L t u) (hL : L + 7 ≤ 9 * (i + 1)) (hC : CT (TXT t) L) (hs : sc (TXT t) L ≤ i) : RES R' (j_L_acts_328 f p1 x2 x6 (nI Z) t) (j_L_acts_328 f p1 x2 x6 (nI Z) u) := by
  unfold j_L_acts_328
  obtain ⟨a1, a2, a3⟩ := nd (b := 58) (m := Z) (A := 4) (K := 8) (B := 48) (by decide) (by decide) (by decide) (by decide)
  obtain ⟨b1, b2, b3⟩ := nd (b := 58) (m := Z) (A := 32) (K := 9) (B := 49) (by decide) (by decide) (by decide) (by decide)
  obtain ⟨c1, c2, c3⟩ := nd (b := 58) (m := Z) (A := 16) (K := 3) (B := 48) (by decide) (by decide) (by decide) (by decide)
  refine ty_c h (by omega) hC hs a1 a2 a3 (dg_l (A := 4) (K := 8) (B := 48) rfl rfl rfl hZ (by decide) (by decide) (by decide)) _ fun t u h hC hs => ?_
  refine ty_c (e := 58) h (by omega) hC hs (by decide) (by decide) (by decide) rfl _ fun t u h hC hs => ?_
  refine ty_c h (by omega) hC hs b1 b2 b3 (dg_l (A := 32) (K := 9) (B := 49) rfl rfl rfl hZ (by decide) (by decide) (by decide)) _ fun t u h hC hs => ?_
  refine ty_c (e := 61) h (by omega) hC hs (by decide) (by decide) (by decide) rfl _ fun t u h hC hs => ?_
  refine ty_c h (by omega) hC hs c1 c2 c3 (dg_l (A := 16) (K := 3) (B := 48) rfl rfl rfl hZ (by decide) (by decide) (by decide)) _ fun t u h hC hs => ?_
  show RES R' (if _ then _ else _) (if _ then _ else _)
  by_cases c : nI Z - nI Z / 4 * 4 = 1
  · rw [if_pos c, if_pos c]
    exact s_417 hf hZ hi _ h (by omega) hC hs
  · rw [if_neg c, if_neg c]
    exact ty_c (e := 42) h (by omega) hC hs (by decide) (by decide) (by decide) rfl _ fun t u h hC hs => s_417 hf hZ hi _ h (by omega) hC hs
theorem s_273 (hf : CN R R' i x2 x6 f) (hZ : Z < 2 ^ 31) (hi : i < 4) (h : PT R L t u) (hL : L + 8 ≤ 9 * (i + 1)) (hC : CT (TXT t) L) (hs : sc (TXT t) L ≤ i) : RES R' (j_L_acts_273 f p1 x2 x6 (nI Z) t) (j_L_acts_273 f p1 x2 x6 (nI Z) u) := by
  unfold j_L_acts_273
  by_cases c : nI Z - nI Z / 4 * 4 = 0
  · rw [if_pos c, if_pos c]
    obtain ⟨a1, a2, a3⟩ := nd (b := 58) (m := Z) (A := 4) (K := 4) (B := 49) (by decide) (by decide) (by decide) (by decide)
    exact ty_point h (by omega) hC hs a1 a2 a3 (dg_l (A := 4) (K := 4) (B := 49) rfl rfl rfl hZ (by decide) (by decide) (by decide)) _ fun t' u' h' hG' hs' => hf _ _ _ _ h' (by omega) hG' hs'
  · rw [if_neg c, if_neg c]
    by_cases c : nI Z - nI Z / 4 * 4 = 1
    · rw [if_pos c, if_pos c]
      exact ty_c (e := 114) h (by omega) hC hs (by decide) (by decide) (by decide) rfl _ fun t u h hC hs => s_328 hf hZ hi h (by omega) hC hs
    · rw [if_neg c, if_neg c]
      exact ty_c (e := 97) h (by omega) hC hs (by decide) (by decide) (by decide) rfl _ fun t u h hC hs => s_328 hf hZ hi h (by omega) hC hs
end TYPED
theorem sh_l {Y : Nat} (hY : Y < 2 ^ 31) : ∀ i, i < 4 → ∃ Z, Z < 2 ^ 31 ∧ (nI Y / 4) >>> ((5 * nI i) &&& 31) = nI Z := by
  have hd : Y / 4 < 2 ^ 31 := by omega
  have go : ∀ (s : Int32) (k : Nat), (s.toBitVec.smod 32).toNat = k → ∃ Z, Z < 2 ^ 31 ∧ (nI Y / 4) >>> s = nI Z := fun s k hs => by
    rw [dv_l (k := 4) (K := 4) rfl hY (by decide)]
    exact ⟨_, Nat.lt_of_le_of_lt (Nat.div_le_self _ _) hd, pk_shrN hd s k hs⟩
  intro i hi
  rcases n4cases hi with rfl | rfl | rfl | rfl
  · exact go _ 0 rfl
  · exact go _ 5 rfl
  · exact go _ 10 rfl
  · exact go _ 15 rfl
theorem ty_loop {R Y : Nat} {p1 : Int32} (hY : Y < 2 ^ 31) : ∀ (d i k : Nat) (x y : Int32) (L : Nat) (t u : Td), i + d = 1 + Y % 4 → d < k → PT R L t u → L ≤ 9 * i → GT (TXT t) L → sc (TXT t) L ≤ i - 1 → (x = y ∨ i = 0) →
    RES (R + 36) (lp_L_acts_236 p1 k (nI Y) x (nI i) t) (lp_L_acts_236 p1 k (nI Y) y (nI i) u) := by
  intro d
  induction d with
  | zero =>
    intro i k x y L t u hi hk h hL hG hs hx
    obtain ⟨k, rfl⟩ : ∃ k', k = k' + 1 := ⟨k - 1, by omega⟩
    have h4 := Nat.mod_lt Y (show 0 < 4 by decide)
    have hx' : x = y := hx.resolve_right (by omega)
    subst hx'
    simp only [lp_L_acts_236]
    have c : (1 + (nI Y - nI Y / 4 * 4) : Int32) ≤ nI i := by
      rw [nI_mod4 hY, show (1 : Int32) = nI 1 from rfl, nJ_add]
      exact nI_le (by omega) (by omega)
    rw [if_pos c, if_pos c]
    by_cases c1 : (1 : Int32) ≤ x
    · rw [if_pos c1, if_pos c1]
      obtain ⟨r, t', u', e1, e2, g1, g2, g3, g4⟩ := tk_perform h.tv h.sr (show L ≤ 60 by omega) h.lt h.lu hG (Nat.le_trans hs (by omega))
      rw [e1, e2]
      exact ⟨r, t', u', rfl, rfl, g1, g2, ⟨L, by omega, g3⟩, ⟨L, by omega, g4⟩⟩
    · rw [if_neg c1, if_neg c1]
      exact ⟨-9, t, u, rfl, rfl, h.tv.mono (by omega), h.sr, ⟨L, by omega, h.lt⟩, ⟨L, by omega, h.lu⟩⟩
  | succ d ih =>
    intro i k x y L t u hi hk h hL hG hs hx
    obtain ⟨k, rfl⟩ : ∃ k', k = k' + 1 := ⟨k - 1, by omega⟩
    have h4 := Nat.mod_lt Y (show 0 < 4 by decide)
    simp only [lp_L_acts_236]
    have c : ¬ (1 + (nI Y - nI Y / 4 * 4) : Int32) ≤ nI i := by
      rw [nI_mod4 hY, show (1 : Int32) = nI 1 from rfl, nJ_add]
      exact nI_ge (by omega) (by omega)
    rw [if_neg c, if_neg c]
    obtain ⟨Z, hZ, eZ⟩ := sh_l hY i (by omega)
    rw [eZ]
    have cn : CN R (R + 36) i (nI Y) (nI i) (lp_L_acts_236 p1 k) := fun x L t u h hL hG hs => by
      rw [nI_s]
      exact ih (i + 1) k x x L t u (by omega) (by omega) h (by omega) hG (by omega) (Or.inl rfl)
    by_cases z : i = 0
    · subst z
      rw [if_pos (show nI 0 ≤ 0 by decide), if_pos (show nI 0 ≤ 0 by decide)]
      have : L = 0 := by omega
      subst this
      exact s_273 cn hZ (by omega) h (by omega) (fun i hi => absurd hi (by omega)) hs
    · have c1 : ¬ nI i ≤ 0 := nI_ge (a := 0) (by omega) (by omega)
      rw [if_neg c1, if_neg c1]
      exact ty_semi h (by omega) hG hs _ fun t' u' h' hC' hs' => s_273 cn hZ (by omega) h' (by omega) hC' (by omega)
