/-! part 66g: all hangs together, the end -/
theorem smI_add {f g : Nat → Int32} : ∀ {l : List Nat}, smI f l + smI g l = smI (fun a => f a + g a) l
  | [] => by show (0 : Int32) + 0 = 0; decide
  | a :: l => by
    show f a + smI f l + (g a + smI g l) = f a + g a + smI (fun a => f a + g a) l
    rw [← smI_add (f := f) (g := g) (l := l)]
    ac_rfl
theorem cp_full {p : Nat → Bool} {m : Nat} (h : ∀ a, a < m → p a = true) : (List.range' 0 m).countP p = m := by
  rw [List.countP_eq_length.mpr (fun a ha => h a (mem_r0.mp ha)), List.length_range']
theorem sN_ind {P : Nat → Prop} [d : ∀ k, Decidable (P k)] : ∀ (m : Nat), sN (fun k => if P k then 1 else 0) m = (List.range' 0 m).countP (fun k => decide (P k))
  | 0 => rfl
  | m + 1 => by
    rw [cp_succ]
    show sN (fun k => if P k then 1 else 0) m + (if P m then 1 else 0) = _
    rw [sN_ind m]
    by_cases c : P m
    · rw [if_pos c, decide_eq_true c, if_pos rfl]
    · rw [if_neg c, decide_eq_false c, if_neg (by decide)]
theorem dec_nI {g k : Nat} (hg : g < 2 ^ 31) (hk : k < 2 ^ 31) {x : Int32} (e : x = nI g) : decide (x = nI k) = decide (x.toNatClampNeg = k) := by
  subst e
  rw [nI_clamp hg]
  exact decide_eq_decide.mpr (nI_inj hg hk)
section HANGS2
variable {t : Td} {fT fR fA fS fE ri : F_} {hd ln rnd : Int32} {nR nA n : Nat} {q : List Nat}
theorem n_ask {fR : F_} {nR : Nat} (j : JR fR nR) (hR : nR ≤ 20) : sN (cAsk fR nR) 8 = nR := by
  have h := sN_part (p := fun k r => decide (fR (4 * r) = nI k)) (c := fun _ => true) (f := fun r => (fR (4 * r)).toNatClampNeg) (l := List.range' 0 nR) 8 (fun k hk r hr => by
    obtain ⟨g, p, h1, h2, h3, h4, h5⟩ := j r (mem_r0.mp hr)
    rw [dec_nI (by omega) (by omega) h4]; rfl)
  show sN (fun k => (List.range' 0 nR).countP (fun r => decide (fR (4 * r) = nI k))) 8 = nR
  rw [h]
  refine cp_full fun r hr => ?_
  obtain ⟨g, p, h1, h2, h3, h4, h5⟩ := j r hr
  rw [h4, nI_clamp (by omega), decide_eq_true h1]; rfl
theorem n_giv {fR fA : F_} {nR nA : Nat} (j : JA fR fA nR nA) (hR : nR ≤ 20) : sN (cGiv fA nA) 8 = nA := by
  have h := sN_part (p := fun k a => decide (fA (8 * a) = nI k)) (c := fun _ => true) (f := fun a => (fA (8 * a)).toNatClampNeg) (l := List.range' 0 nA) 8 (fun k hk a ha => by
    obtain ⟨g, r, w, h1, h2, h3, h4, h5, h6⟩ := j a (mem_r0.mp ha)
    rw [dec_nI (by omega) (by omega) h5]; rfl)
  show sN (fun k => (List.range' 0 nA).countP (fun a => decide (fA (8 * a) = nI k))) 8 = nA
  rw [h]
  refine cp_full fun a ha => ?_
  obtain ⟨g, r, w, h1, h2, h3, h4, h5, h6⟩ := j a ha
  rw [h5, nI_clamp (by omega), decide_eq_true h1]; rfl
theorem n_to {fR fA : F_} {nR nA : Nat} (j : JA fR fA nR nA) (hR : nR ≤ 20) : sN (cTo fA nA) nR = nA := by
  have h := sN_part (p := fun k a => decide (fA (8 * a + 1) = nI k)) (c := fun _ => true) (f := fun a => (fA (8 * a + 1)).toNatClampNeg) (l := List.range' 0 nA) nR (fun k hk a ha => by
    obtain ⟨g, r, w, h1, h2, h3, h4, h5, h6, h7⟩ := j a (mem_r0.mp ha)
    rw [dec_nI (by omega) (by omega) h6]; rfl)
  show sN (fun k => (List.range' 0 nA).countP (fun a => decide (fA (8 * a + 1) = nI k))) nR = nA
  rw [h]
  refine cp_full fun a ha => ?_
  obtain ⟨g, r, w, h1, h2, h3, h4, h5, h6, h7⟩ := j a ha
  rw [h6, nI_clamp (by omega), decide_eq_true h2]; rfl
/-- those of one state, by their riddles -/
theorem n_by {fR fA : F_} {nR nA : Nat} (j : JA fR fA nR nA) (hR : nR ≤ 20) (v : Int32) : sN (fun k => (List.range' 0 nA).countP (fun a => decide (fA (8 * a + 1) = nI k) && decide (fA (8 * a + 4) = v))) nR = (List.range' 0 nA).countP (fun a => decide (fA (8 * a + 4) = v)) := by
  have h := sN_part (p := fun k a => decide (fA (8 * a + 1) = nI k) && decide (fA (8 * a + 4) = v)) (c := fun a => decide (fA (8 * a + 4) = v)) (f := fun a => (fA (8 * a + 1)).toNatClampNeg) (l := List.range' 0 nA) nR (fun k hk a ha => by
    obtain ⟨g, r, w, h1, h2, h3, h4, h5, h6, h7⟩ := j a (mem_r0.mp ha)
    rw [dec_nI (by omega) (by omega) h6, Bool.and_comm])
  rw [h]
  refine cp_congr fun a ha => ?_
  obtain ⟨g, r, w, h1, h2, h3, h4, h5, h6, h7⟩ := j a (mem_r0.mp ha)
  rw [h6, nI_clamp (by omega), decide_eq_true h2, Bool.and_true]
theorem n_sol {fR fA : F_} {nR nA : Nat} (j : JA fR fA nR nA) (p : JP fR fA nR nA) (hR : nR ≤ 20) : cSol fR nR = st1 fA nA := by
  rw [show st1 fA nA = _ from (n_by j hR 1).symm]
  show (List.range' 0 nR).countP (fun r => decide (fR (4 * r + 3) = 1)) = _
  rw [← sN_ind]
  exact sN_congr fun k hk => (p k hk).symm
theorem n_wait {fA : F_} {nA : Nat} {q : List Nat} (j : IW fA nA q) : (List.range' 0 nA).countP (fun a => decide (fA (8 * a + 4) = 0)) = q.length := by
  rw [(wait_perm j).length_eq, List.countP_eq_length_filter]
theorem n_parts {fR fA : F_} {nR nA : Nat} {q : List Nat} (j : JA fR fA nR nA) (w : IW fA nA q) : q.length + st1 fA nA + st2 fA nA = nA := by
  have key : ∀ a, a < nA → ∃ s, s < 3 ∧ fA (8 * a + 4) = nI s := fun a ha => by
    obtain ⟨g, r, w, h1, h2, h3, h4, h5, h6, h7, h8, h9⟩ := j a ha
    rcases h9 with z | z | z | z
    · exact ⟨0, by decide, z.1⟩
    · exact ⟨1, by decide, z.1⟩
    · exact ⟨2, by decide, z.1⟩
    · exact ⟨2, by decide, z.1⟩
  have h := sN_part (p := fun k a => decide (fA (8 * a + 4) = nI k)) (c := fun _ => true) (f := fun a => (fA (8 * a + 4)).toNatClampNeg) (l := List.range' 0 nA) 3 (fun k hk a ha => by
    obtain ⟨s, h1, h2⟩ := key a (mem_r0.mp ha)
    rw [dec_nI (by omega) (by omega) h2]; rfl)
  rw [cp_full (m := nA) (fun a ha => by
    obtain ⟨s, h1, h2⟩ := key a ha
    rw [h2, nI_clamp (by omega), decide_eq_true h1]; rfl)] at h
  have h' : 0 + (List.range' 0 nA).countP (fun a => decide (fA (8 * a + 4) = 0)) + st1 fA nA + st2 fA nA = nA := h
  rw [n_wait w, Nat.zero_add] at h'
  exact h'
theorem v_if (h : NX t fT fR fA fS fE ri hd ln rnd nR nA n q) (hn : n + 7 ≤ 12000) : ∃ (p : Nat) (T : Ex), q_ifRounds 7 0 t = some (nI p, (t.1, T, t.2.2)) ∧ p ≤ q.length ∧ p ≤ op fR nR := by
  obtain ⟨p, fT', fR', fA', fS', ri', hd', ln', q', g1, g2, g3, g4⟩ := rounds_loop (R := 7) (by decide) 7 0 0 fuel n fT fR fA fS ri hd ln rnd q rfl (by decide) hn h.2
  refine ⟨p, (fT', fR', nI nR, fA', nI nA, fS', fE, ri', hd', ln', nI (n + 7)), ?_, by omega, by omega⟩
  unfold q_ifRounds d_X5_ifRounds
  rw [if_neg (by decide), if_pos (by decide), if_pos rfl, e_if42, h.1]
  show ob2 (ob9 (lp_X0_playRounds_33 fE (nI 7) fuel (nI 0) (nI 0) fT fR fA fS ri hd ln rnd) _) _ = _
  rw [g1, ob9_some, ob2_some, Nat.zero_add]
theorem hangs_ok {R : Nat} (h0 : IV R t.1) (hR : R + 7 ≤ 12000) (hz : ∃ z, z ≤ 4 ∧ t.2.2.2.2.2.1 = nI z) : ∃ T : Ex, d_L_hangs t = some (1, (t.1, T, t.2.2)) := by
  obtain ⟨fT, fR, fA, fS, fE, ri, hd, ln, rnd, nR, nA, n, q, hnR, h⟩ := h0.nx
  obtain ⟨z, hz4, ez⟩ := hz
  obtain ⟨b, hb, eb, m1, m2⟩ := v_rich h
  obtain ⟨hrnd, hn12, hM, hQ⟩ := id h.2
  obtain ⟨hR20, hA40, jR, jA, jP, jW, jM, jS, jC, jF, jV, jE, jD⟩ := id hM
  obtain ⟨p, T, e1, e2, e3⟩ := v_if h (by omega)
  have h' : NX (t.1, T, t.2.2) fT fR fA fS fE ri hd ln rnd nR nA n q := h
  obtain ⟨w, ds, w1, w2, w3, w4, w5⟩ := jV
  have hln : ln = nI q.length := hQ.2.2
  have hq40 : q.length ≤ 40 := hQ.1
  refine ⟨T, ?_⟩
  unfold d_L_hangs
  rw [eb, ob1_some]
  show lp_L_hangs_24 fuel (smI (fun k => fT (2 * k)) (List.range' 0 0)) (smI (fun k => fT (2 * k + 1)) (List.range' 0 0)) (nI (sN (cAsk fR nR) 0)) (nI (sN (cGiv fA nA) 0)) (nI (cDeb fT 0)) 1 (nI b) (nI 0) t = _
  rw [hg1 h hb m1 m2 8 0 fuel rfl (by decide)]
  unfold j_L_hangs_269
  rw [v_c1 h, ob1_some]
  show lp_L_hangs_291 fuel _ _ _ _ _ 1 (nI nR) (nI (cOpn fR 0)) (nI (cSol fR 0)) (nI (sN (cWt fA nA) 0)) (nI (sN (cTo fA nA) 0)) (nI 0) t = _
  rw [hg2 h nR 0 fuel (by omega) (k_fuel (by omega))]
  unfold j_L_hangs_501
  rw [v_c3 h, ob1_some]
  show lp_L_hangs_523 fuel _ _ _ _ _ 1 _ _ _ _ _ (nI (st1 fA 0)) (nI (st2 fA 0)) (smI (fun a => fA (8 * a + 7)) (List.range' 0 0)) (smI (fun a => fA (8 * a + 6)) (List.range' 0 0)) (nI nA) (nI 0) t = _
  rw [hg3 h nA 0 fuel (by omega) (k_fuel (by omega))]
  unfold j_L_hangs_860
  have c800 : smI (fun k => fT (2 * k)) (List.range' 0 8) + smI (fun k => fT (2 * k + 1)) (List.range' 0 8) = 800 := by rw [smI_add]; exact jS
  have cwt : nI (sN (cWt fA nA) nR) = ln := by
    rw [hln, ← n_wait jW, ← n_by jA hR20 0]; rfl
  have cw2 : fS 1 + fS 3 = nI (2 * w) := by rw [w1, w2, nJ_add]; congr 1; omega
  have hst : st1 fA nA ≤ nA := cp_le
  have d0 := jD.1
  have d2 := jD.2
  have i9 : (9 : Int32).toInt = 9 := rfl
  have i19 : (19 : Int32).toInt = 19 := rfl
  have f0 : (fS 0 + 9).toInt = (fS 0).toInt + 9 := by rw [add_toInt (by rw [i9]; omega) (by rw [i9]; omega), i9]
  have f2 : (fS 2 + 9).toInt = (fS 2).toInt + 9 := by rw [add_toInt (by rw [i9]; omega) (by rw [i9]; omega), i9]
  have x1 : ¬ fS 1 + fS 3 < 2 * (smI (fun a => fA (8 * a + 6)) (List.range' 0 nA) + nI (st1 fA nA)) := by
    rw [cw2, w3, nJ_add, show (2 : Int32) = nI 2 from rfl, nI_mul]
    exact nI_nlt (by omega) (by omega)
  have x2 : (fS 1 + fS 3) - (fS 1 + fS 3) / 2 * 2 = 0 := by
    rw [cw2]
    have e : nI (2 * w) / 2 = nI (2 * w / 2) := (Int32.ofNat_div (by omega) (by decide : 2 < 2 ^ 31)).symm
    rw [e, show (2 : Int32) = nI 2 from rfl, nI_mul, show 2 * w / 2 * 2 = 2 * w by omega, Int32.sub_self]
  have x3 : ln + nI (st1 fA nA) + nI (st2 fA nA) = nI nA := by rw [hln, nJ_add, nJ_add, n_parts jA jW]
  have x4 : ¬ nI (cOpn fR nR) < nI p := by
    have hle : cOpn fR nR ≤ nR := cp_le
    have e3' : p ≤ cOpn fR nR := e3
    exact nI_nlt e3' (by omega)
  have lt0 : ∀ y : Int32, 0 ≤ y.toInt → ¬ y < 0 := fun y hy => by rw [Int32.lt_iff_toInt_lt, i0]; omega
  have lt19 : ∀ y : Int32, y.toInt < 19 → ¬ 19 ≤ y := fun y hy => by rw [Int32.le_iff_toInt_le, i19]; omega
  rw [e1, ob2_some, if_neg n10, v_c9 h', ob1_some, if_pos c800, ob1_some, if_pos rfl, n_ask jR hR20, if_pos rfl, n_giv jA hR20, if_pos rfl, v_c10 h', ob1_some, if_pos (show nI (cDeb fT 8) = nI ((List.range' 0 8).countP (fun k => decide (¬ 0 ≤ fT (2 * k)))) from rfl), v_c2 h', ob1_some, if_pos (show nI (cOpn fR nR) = nI (op fR nR) from rfl), n_sol jA jP hR20, if_pos rfl, v_c5 h', ob1_some, if_pos rfl, v_c6 h', ob1_some, if_pos rfl, v_c11 h', ob1_some, if_pos rfl, v_c7 h', ob1_some, if_pos rfl, v_c8 h', ob1_some, if_neg x1, ob1_some, if_pos x2, v_c4 h', ob1_some, if_pos cwt, n_to jA hR20, if_pos rfl, ob1_some, if_pos x3, ob1_some, v_waits h', ob1_some, if_pos rfl, v_c12 h', ob1_some, if_neg (lt0 _ (by omega)), ob1_some, if_neg (lt19 _ (by omega)), v_c13 h', ob1_some, if_neg (lt0 _ (by omega)), ob1_some, if_neg (lt19 _ (by omega)), if_neg (nI_pos (by omega)), ob1_some, hln, if_neg (nI_nlt e2 (by omega)), if_neg x4, qv_count18]
  show ob1 (some t.2.2.2.2.2.1) _ = _
  rw [ob1_some, ez, if_neg (nI_pos (by omega)), ob1_some, if_neg (show ¬ (5 : Int32) ≤ nI z from nI_ge (b := 5) (by omega) (by decide))]
end HANGS2
