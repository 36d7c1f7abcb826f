/-! part 82: the law from its entry -/
def Td0 : Td := (E0, E0, E0, fun _ => E0, 0, 0, fun _ => 0, fun _ => 0, 0, 0, 0, 0, 0, -5, -5)
def adr (h0 hh hr oo o1 o2 o3 : Nat) (aN aT aS : Nat → Nat) (aH : Nat → Nat → Nat) (n : Nat) : Nat := if n < 10 then (if n = 0 then h0 else if n = 1 then hh else if n = 2 then hr else if n = 3 then oo else if n = 4 then o1 else if n = 5 then o2 else o3) else if n < 30 then aN (n - 10) else if n < 50 then aT (n - 30) else if n < 100 then aS (n - 50) else aH ((n - 100) / 20) ((n - 100) % 20)
theorem adr_N {h0 hh hr oo o1 o2 o3 : Nat} {aN aT aS : Nat → Nat} {aH : Nat → Nat → Nat} {i : Nat} (h : i ≤ 12) : a_N (adr h0 hh hr oo o1 o2 o3 aN aT aS aH) i = aN i := by
  show adr h0 hh hr oo o1 o2 o3 aN aT aS aH (10 + i) = _
  unfold adr
  rw [if_neg (by omega), if_pos (by omega), show 10 + i - 10 = i by omega]
theorem adr_T {h0 hh hr oo o1 o2 o3 : Nat} {aN aT aS : Nat → Nat} {aH : Nat → Nat → Nat} {i : Nat} (h : i ≤ 12) : a_T (adr h0 hh hr oo o1 o2 o3 aN aT aS aH) i = aT i := by
  show adr h0 hh hr oo o1 o2 o3 aN aT aS aH (30 + i) = _
  unfold adr
  rw [if_neg (by omega), if_neg (by omega), if_pos (by omega), show 30 + i - 30 = i by omega]
theorem adr_S {h0 hh hr oo o1 o2 o3 : Nat} {aN aT aS : Nat → Nat} {aH : Nat → Nat → Nat} {i : Nat} (h : i ≤ 12) : a_S (adr h0 hh hr oo o1 o2 o3 aN aT aS aH) i = aS i := by
  show adr h0 hh hr oo o1 o2 o3 aN aT aS aH (50 + i) = _
  unfold adr
  rw [if_neg (by omega), if_neg (by omega), if_neg (by omega), if_pos (by omega), show 50 + i - 50 = i by omega]
theorem adr_H {h0 hh hr oo o1 o2 o3 : Nat} {aN aT aS : Nat → Nat} {aH : Nat → Nat → Nat} {k i : Nat} (h : i ≤ 12) : a_H (adr h0 hh hr oo o1 o2 o3 aN aT aS aH) k i = aH k i := by
  show adr h0 hh hr oo o1 o2 o3 aN aT aS aH (100 + 20 * k + i) = _
  unfold adr
  rw [if_neg (by omega), if_neg (by omega), if_neg (by omega), if_neg (by omega), show (100 + 20 * k + i - 100) / 20 = k by omega, show (100 + 20 * k + i - 100) % 20 = i by omega]
theorem exW_c {cI : ClassId} {a a' : Nat → Nat} {E : Ex} (h : ∀ i, i ≤ 12 → a i = a' i) : exW cI a E = exW cI a' E := by
  unfold exW
  rw [h 0 (by decide), h 1 (by decide), h 2 (by decide), h 3 (by decide), h 4 (by decide), h 5 (by decide), h 6 (by decide), h 7 (by decide), h 8 (by decide), h 9 (by decide), h 10 (by decide), h 11 (by decide), h 12 (by decide)]
theorem stW_c {cI cC cE : ClassId} {hh hr : Nat} {a a' : Nat → Nat → Nat} {o z : Int32} (h : ∀ k i, i ≤ 12 → a k i = a' k i) : w_X1_stateAt cI cC cE hh hr a o z = w_X1_stateAt cI cC cE hh hr a' o z := by
  unfold w_X1_stateAt
  have g : (fun j => some (a j 0)) = fun j => some (a' j 0) := funext fun j => by rw [h j 0 (by decide)]
  rw [g]
theorem trW_c {h0 hh oo : Nat} {a a' b b' c c' : Nat → Nat} {x y z : Int32} (h1 : a 0 = a' 0) (h2 : b 0 = b' 0) (h3 : c 0 = c' 0) : trW h0 hh oo a b c x y z = trW h0 hh oo a' b' c' x y z := by
  unfold trW
  rw [h1, h2, h3]
theorem fl_in (a b c d e f g h i j : va_W) : fl [a, b, c, d, fl [e, f, g, h, i], j] = fl [a, b, c, d, e, f, g, h, i, j] := by
  simp only [fl, List.append_assoc]
theorem td_world {cI cC cE : ClassId} {h0 hh hr oo o1 o2 o3 : Nat} {aN aT aS : Nat → Nat} {aH : Nat → Nat → Nat} : tdW cI cC cE (adr h0 hh hr oo o1 o2 o3 aN aT aS aH) Td0 = fl [trW h0 hh oo aN aT aS 0 (-5) (-5), exW cI aN E0, exW cI aT E0, exW cI aS E0, fl [w_X1_stateAt cI cC cE hh hr aH 0 0, exW cI (aH 0) E0, exW cI (aH 1) E0, exW cI (aH 2) E0, exW cI (aH 3) E0], ofW cI cC oo o1 o2 o3 (fun _ => 0) (fun _ => 0) 0 0 0 0] := by
  rw [fl_in]
  unfold tdW tdB
  rw [trW_c (adr_N (by decide)) (adr_T (by decide)) (adr_S (by decide)), exW_c (a := a_N _) (fun i hi => adr_N hi), exW_c (a := a_T _) (fun i hi => adr_T hi), exW_c (a := a_S _) (fun i hi => adr_S hi), stW_c (fun k i hi => adr_H hi), exW_c (a := a_H _ 0) (fun i hi => adr_H hi), exW_c (a := a_H _ 1) (fun i hi => adr_H hi), exW_c (a := a_H _ 2) (fun i hi => adr_H hi), exW_c (a := a_H _ 3) (fun i hi => adr_H hi)]
  rfl
theorem fl_two (a b : va_W) : fl [a] ++ b = fl [a, b] := by simp [fl]
set_option maxHeartbeats 4000000 in
set_option maxRecDepth 100000 in
theorem entry_walk {p : Program} {e : Env} {s : State} {m : MethodId} {below : List Frame} {meth : Method} {c : Code} (l : Launch) {b L : Nat} {xs : Nat → Int32} (hL : L ≤ 260) {t0 u0 : Td} (hlaw : d_L_law L xs Td0 Td0 = some (1, t0, u0)) (C0 : lw_At p s m meth c b L xs) : W p l e room_1 s m #[Value.ref b] below meth c s.heap [] 0 0 (lw_Z below #[Value.ref b] s) (entryFrame m ([Value.ref b] : List Value).toArray 7) := by
  obtain ⟨hx, hb, hr, hml, hown, htsT, hX, hbl, hlocks, hgv⟩ := id C0
  have hts : ∀ w ∈ wsL_law, w.before #[Value.ref b] s = true := fun w hw => htsT w (wsL_law_in w hw)
  have hA : ∀ q : Nat, s.heap.size ≤ q → lwA s q := fun _ h => h
  have hown : s.vm.findClass RL = some m.cls := hown
  obtain ⟨c0, iS0, hKn0⟩ := u_known (C := RX0) (T := TX0) (N := 7) (n := 7) hts inlX0 (hts (.instantiable RX0 7) (List.mem_of_getElem? (i := 11) rfl))
  obtain ⟨c1, iS1, hKn1⟩ := u_known (C := RX1) (T := TX1) (N := 3) (n := 3) hts inlX1 (hts (.instantiable RX1 3) (List.mem_of_getElem? (i := 17) rfl))
  obtain ⟨c2, iS2, hKn2⟩ := u_known (C := RX2) (T := TX2) (N := 5) (n := 5) hts inlX2 (hts (.instantiable RX2 5) (List.mem_of_getElem? (i := 21) rfl))
  obtain ⟨c3, iS3, hKn3⟩ := u_known (C := RX3) (T := TX3) (N := 3) (n := 3) hts inlX3 (hts (.instantiable RX3 3) (List.mem_of_getElem? (i := 40) rfl))
  obtain ⟨c4, iS4, hKn4⟩ := u_known (C := RX4) (T := TX4) (N := 3) (n := 3) hts inlX4 (hts (.instantiable RX4 3) (List.mem_of_getElem? (i := 31) rfl))
  obtain ⟨c5, iS5, hKn5⟩ := u_known (C := RX5) (T := TX5) (N := 8) (n := 8) hts inlX5 (hts (.instantiable RX5 8) (List.mem_of_getElem? (i := 1) rfl))
  obtain ⟨dC, dI, hKc⟩ : ∃ (dC : Nat → ClassId) (dI : Nat → Nat → Nat), ∀ (k : Nat) (q : vw_C), vwCl[k]? = some q → u_Kn s q.1 q.2.1 q.2.2 (dC k) (dI k) := by
    refine ⟨fun k => if k = 0 then c0 else if k = 1 then c1 else if k = 2 then c2 else if k = 3 then c3 else if k = 4 then c4 else c5, fun k => if k = 0 then iS0 else if k = 1 then iS1 else if k = 2 then iS2 else if k = 3 then iS3 else if k = 4 then iS4 else iS5, ?_⟩
    intro k q hq
    match k, hq with
    | 0, hq => cases hq; exact hKn0
    | 1, hq => cases hq; exact hKn1
    | 2, hq => cases hq; exact hKn2
    | 3, hq => cases hq; exact hKn3
    | 4, hq => cases hq; exact hKn4
    | 5, hq => cases hq; exact hKn5
    | k + 6, hq => simp [vwCl] at hq
  have hN : kNM s := ⟨va_AO.of (A := #[Value.ref b]) (htsT (.arrayOver (.object "RiddleTrade$Exchange")) (by decide +kernel)), va_Nw.of (A := #[Value.ref b]) rfl (htsT (.methodLinkNest RX0 34 yX3_init RX5) (by decide +kernel)), va_Nw.of (A := #[Value.ref b]) rfl (htsT (.methodLinkNest RX5 31 yX2_init RX5) (by decide +kernel))⟩
  obtain ⟨cI, kI, pI, a1, a2, a3⟩ := Cond.arrayClass_spec (hts (.arrayClass .int) (List.mem_of_getElem? (i := 33) rfl))
  obtain ⟨cC, kC, pC, b1, b2, b3⟩ := Cond.arrayClass_spec (hts (.arrayClass .char) (List.mem_of_getElem? (i := 76) rfl))
  obtain ⟨pE, cE, kE, e1, e2, e3, e4, e5⟩ := Cond.arrayOver_spec hN.1
  have hK : va_K (dC, dI) vwCl (kT cI cC cE) s := by
    refine ⟨hKc, fun k q h => ?_⟩
    match k, h with
    | 0, h => cases h; exact ⟨fun n z => ⟨fun k h => (by cases h), kI, a2, pI, a3⟩, a1⟩
    | 1, h => cases h; exact ⟨fun n z => ⟨fun k h => (by cases h), kC, b2, pC, b3⟩, b1⟩
    | 2, h => cases h; exact ⟨fun n z => ⟨fun k h => (by cases h), kE, e3, pE, e4⟩, kE, pE, e3, e4, e1, e5⟩
    | k + 3, h => simp at h
  have hS : va_S (lwA s) s.heap s.heap [] := va_S.rf
  have hP : va_P (dC, dI) vwCl [] s.heap := fun k q h => by simp at h
  have hD : va_D (lwA s) [] := ⟨fun i j p q h => by simp at h, fun k q h => by simp at h⟩
  have hl := lv_entry ([.ref b]) (n := 7) (Nat.le_of_ble_eq_true rfl)
  rw [lg_entry_eq]
  generalize (lg_sl ([.ref b]) ++ List.replicate (7 - (lg_sl ([.ref b])).length) Slot.unset).toArray = ls at hl ⊢
  have hl : lv_has ls 7 [(0, .ref b)] := hl
  refine va_new (ci := 5) (fs := [.null, .null, .null, .null, .null, .int 0, .int 0, .int 0]) (C := RX5) (T := TX5) (N := 8) hx hb hts inlX5 tyX5 tyX5_ok hown (hts (.classLink RL 10 RX5) (List.mem_of_getElem? (i := 0) rfl)) (hts (.instantiable RX5 8) (List.mem_of_getElem? (i := 1) rfl)) (hts (.initialized RX5) (List.mem_of_getElem? (i := 2) rfl)) hK hP hD hS hA rfl (fun j hj => by rcases (show j = 0 ∨ j = 1 ∨ j = 2 ∨ j = 3 ∨ j = 4 ∨ j = 5 ∨ j = 6 ∨ j = 7 by omega) with rfl | rfl | rfl | rfl | rfl | rfl | rfl | rfl <;> rfl) (Nat.le_of_ble_eq_true rfl) (Nat.le_of_ble_eq_true rfl) dL_law_0 (fun q5 H hP hD hS => ?_)
  refine lv_dup hx hb dL_law_3 rfl ?_
  refine kcInit (wr := []) (x := (q5, .inr (5, [.null, .null, .null, .null, .null, .int 0, .int 0, .int 0]))) ⟨hx, hb, hml, hown, hts⟩ (c_X5_init l (dC, dI) cI cC cE q5 _) (cwI 0 hts gL_law_X5_init rfl rfl rfl (hts (.initialized RX5) (List.mem_of_getElem? (i := 2) rfl)) (hts (.methodLink RL 91 yX5_init) (List.mem_of_getElem? (i := 4) rfl)) (hts (.instanceMethod yX5_init) (List.mem_of_getElem? (i := 5) rfl)) rfl (by decide +kernel) ⟨Nat.le_of_ble_eq_true rfl, Nat.le_of_ble_eq_true rfl⟩) hN hK hP hD hS hA rfl hl.1 rfl (Nat.le_of_ble_eq_true rfl) dL_law_4 ⟨Nat.le_of_ble_eq_true rfl, Nat.le_of_ble_eq_true rfl⟩ (fun u H locs _ hP hD hS => ?_)
  obtain ⟨aN, aT, aS, hh, ⟨hr9, aH⟩, oo, o1, o2, o3⟩ := u
  obtain ⟨A, hA0, wA⟩ : ∃ A : Nat → Nat, A 0 = q5 ∧ tdW cI cC cE A Td0 = fl [trW q5 hh oo aN aT aS 0 (-5) (-5), exW cI aN E0, exW cI aT E0, exW cI aS E0, fl [w_X1_stateAt cI cC cE hh hr9 aH 0 0, exW cI (aH 0) E0, exW cI (aH 1) E0, exW cI (aH 2) E0, exW cI (aH 3) E0], ofW cI cC oo o1 o2 o3 (fun _ => 0) (fun _ => 0) 0 0 0 0] := ⟨_, rfl, td_world⟩
  have hPa : va_P (dC, dI) vwCl (fl [tdW cI cC cE A Td0]) H := by rw [fl1, wA]; exact hP
  have hDa : va_D (lwA s) (fl [tdW cI cC cE A Td0]) := by rw [fl1, wA]; exact hD
  clear hP hD wA
  subst hA0
  refine lv_astore_n (lv' := [(1, .ref (A 0)), (0, .ref b)]) hx hb dL_law_7 rfl hl (by decide) rfl (fun ls hl => ?_)
  refine va_new (ci := 5) (fs := [.null, .null, .null, .null, .null, .int 0, .int 0, .int 0]) (C := RX5) (T := TX5) (N := 8) hx hb hts inlX5 tyX5 tyX5_ok hown (hts (.classLink RL 10 RX5) (List.mem_of_getElem? (i := 0) rfl)) (hts (.instantiable RX5 8) (List.mem_of_getElem? (i := 1) rfl)) (hts (.initialized RX5) (List.mem_of_getElem? (i := 2) rfl)) hK hPa hDa hS hA rfl (fun j hj => by rcases (show j = 0 ∨ j = 1 ∨ j = 2 ∨ j = 3 ∨ j = 4 ∨ j = 5 ∨ j = 6 ∨ j = 7 by omega) with rfl | rfl | rfl | rfl | rfl | rfl | rfl | rfl <;> rfl) (Nat.le_of_ble_eq_true rfl) (Nat.le_of_ble_eq_true rfl) dL_law_8 (fun q6 H hP hD hS => ?_)
  refine lv_dup hx hb dL_law_11 rfl ?_
  refine kcInit (wr := fl [tdW cI cC cE A Td0]) (x := (q6, .inr (5, [.null, .null, .null, .null, .null, .int 0, .int 0, .int 0]))) ⟨hx, hb, hml, hown, hts⟩ (c_X5_init l (dC, dI) cI cC cE q6 _) (cwI 0 hts gL_law_X5_init rfl rfl rfl (hts (.initialized RX5) (List.mem_of_getElem? (i := 2) rfl)) (hts (.methodLink RL 91 yX5_init) (List.mem_of_getElem? (i := 4) rfl)) (hts (.instanceMethod yX5_init) (List.mem_of_getElem? (i := 5) rfl)) rfl (by decide +kernel) ⟨Nat.le_of_ble_eq_true rfl, Nat.le_of_ble_eq_true rfl⟩) hN hK hP hD hS hA rfl hl.1 rfl (Nat.le_of_ble_eq_true rfl) dL_law_12 ⟨Nat.le_of_ble_eq_true rfl, Nat.le_of_ble_eq_true rfl⟩ (fun u H locs _ hP hD hS => ?_)
  obtain ⟨aN, aT, aS, hh, ⟨hr9, aH⟩, oo, o1, o2, o3⟩ := u
  obtain ⟨B, hB0, wB⟩ : ∃ B : Nat → Nat, B 0 = q6 ∧ tdW cI cC cE B Td0 = fl [trW q6 hh oo aN aT aS 0 (-5) (-5), exW cI aN E0, exW cI aT E0, exW cI aS E0, fl [w_X1_stateAt cI cC cE hh hr9 aH 0 0, exW cI (aH 0) E0, exW cI (aH 1) E0, exW cI (aH 2) E0, exW cI (aH 3) E0], ofW cI cC oo o1 o2 o3 (fun _ => 0) (fun _ => 0) 0 0 0 0] := ⟨_, rfl, td_world⟩
  have hPb : va_P (dC, dI) vwCl (fl [tdW cI cC cE A Td0, tdW cI cC cE B Td0]) H := by rw [← fl_two, wB]; exact hP
  have hDb : va_D (lwA s) (fl [tdW cI cC cE A Td0, tdW cI cC cE B Td0]) := by rw [← fl_two, wB]; exact hD
  clear hP hD wB
  subst hB0
  refine lv_astore_n (lv' := [(2, .ref (B 0)), (1, .ref (A 0)), (0, .ref b)]) hx hb dL_law_15 rfl hl (by decide) rfl (fun ls hl => ?_)
  refine W.widen (k := 600000) (n := 7302250) (Nat.le_of_ble_eq_true rfl) (Nat.le_of_ble_eq_true rfl) ?_
  exact law_body hr hlocks ⟨hx, hb, hml, hown, hts, hX, hbl, hK⟩ hL A B Td0 Td0 t0 u0 hlaw H locs ls hPb hDb hS (lv_sub hl [2, 1, 0] rfl)
