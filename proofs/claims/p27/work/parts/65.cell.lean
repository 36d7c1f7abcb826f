/-! part 65: the law reads its script; what its calls are given -/
def celI (L : Nat) (xs : Nat → Int32) (k : Int32) : Option Int32 := if nI L ≤ k then some ((52817 * (k + 53) + 89) &&& 2147483647) else ob1 (rd L xs k) fun v => some (v &&& 2147483647)
def zb1 (o : Option Int32) : Option Int32 := match o with | none => none | some r => if r = 0 ∨ r = 1 then some r else none
def zb2 (o : Option (Int32 × Td)) : Option (Int32 × Td) := match o with | none => none | some (r, t) => if r = 0 ∨ r = 1 then some (r, t) else none
theorem nar01 {r : Int32} (h : r = 0 ∨ r = 1) : narrow .boolean (.int r) = .int r := by
  rcases h with rfl | rfl <;> rfl
theorem zb1_el {o : Option Int32} {r : Int32} (h : zb1 o = some r) : o = some r ∧ narrow .boolean (.int r) = .int r := by
  cases o with
  | none => cases h
  | some x =>
    simp only [zb1] at h
    by_cases c : x = 0 ∨ x = 1
    · rw [if_pos c] at h; cases h; exact ⟨rfl, nar01 c⟩
    · rw [if_neg c] at h; cases h
theorem zb2_el {o : Option (Int32 × Td)} {r : Int32} {t : Td} (h : zb2 o = some (r, t)) : o = some (r, t) ∧ narrow .boolean (.int r) = .int r := by
  cases o with
  | none => cases h
  | some x =>
    obtain ⟨x, y⟩ := x
    simp only [zb2] at h
    by_cases c : x = 0 ∨ x = 1
    · rw [if_pos c] at h; cases h; exact ⟨rfl, nar01 c⟩
    · rw [if_neg c] at h; cases h
theorem zb1_1 {o : Option Int32} (h : o = some 1) : zb1 o = some 1 := by rw [h]; rfl
theorem zb2_1 {o : Option (Int32 × Td)} {t : Td} (h : o = some (1, t)) : zb2 o = some (1, t) := by rw [h]; rfl
def kPx (D : va_G) (tys : List (ClassId × FieldType)) (av : List Value) (sz b L : Nat) (xs : Nat → Int32) : Array Value → State → Prop := va_Pc av (fun U => U.heap.size = sz ∧ va_X b L xs U U.heap ∧ va_K D vwCl tys U)
theorem kPx_blind {D : va_G} {tys : List (ClassId × FieldType)} {av : List Value} {sz b L : Nat} {xs : Nat → Int32} : FrameBlind (kPx D tys av sz b L xs) := by
  intro a U g mk q
  obtain ⟨q0, q1, qX, qK⟩ := q
  exact ⟨q0, q1, va_X.moved (u := U) (U := U.calling g mk a) (Vm.Alike.refl U.vm) qX, va_K.moved (u := U) (U := U.calling g mk a) (Vm.Alike.refl U.vm) qK⟩
theorem va_P_nil {D : va_G} {cl : List vw_C} {H : Heap} : va_P D cl [] H := fun k q h => by simp at h
theorem va_D_nil {A : Nat → Prop} : va_D A [] := ⟨fun i j p q h => by simp at h, fun k q h => by simp at h⟩
set_option maxHeartbeats 4000000 in
set_option maxRecDepth 100000 in
theorem c_L_cell (l : Launch) (D : va_G) (cI cC cE : ClassId) (b L sz : Nat) (xs : Nat → Int32) (hbs : b < sz) (hL : L < 2 ^ 31) (p1 r0 : Int32) (h : celI L xs p1 = some r0) : Met l yL_cell wsL_cell ({ frames := 0, cells := 0, slots := 0, locals := 0 } : Room) (kPx D (kT cI cC cE) [.ref b, .int p1] sz b L xs) (kQi D (kT cI cC cE) [] [] sz r0) 0 0 (va_A [] sz) := by
  refine Met.ofW (cc := cL_cell) (maxL := 2) (ret := (some .int)) (by decide) rfl ?_
  intro p e s m args below meth c s₁ B hml hv
  obtain ⟨rfl, hsz, hX, hK⟩ := hv
  have hr := B.returns
  have hlocks := B.notSynchronized
  have hown : s.vm.findClass RL = some m.cls := findClass_of_methodNamed B.named
  have hts : ∀ w ∈ wsL_cell, w.before ([.ref b, .int p1] : List Value).toArray s = true := atoms_spec (ws := wsL_cell) B.pre
  have hx := B.exec
  have hb := B.bytes
  subst hsz
  rw [lg_entry_eq]
  have hl := lv_entry ([.ref b, .int p1] : List Value) (n := 2) (Nat.le_of_ble_eq_true rfl)
  generalize (lg_sl ([.ref b, .int p1] : List Value) ++ List.replicate (2 - (lg_sl ([.ref b, .int p1] : List Value)).length) Slot.unset).toArray = ls at hl ⊢
  have hl : lv_has ls 2 [(0, .ref b), (1, .int p1)] := hl
  have hbA : ¬ va_A [] s.heap.size b := fun q => by
    rcases q with ⟨k, e, q⟩ | q
    · simp at q
    · omega
  have hS : va_S (va_A [] s.heap.size) s.heap s.heap [] := va_S.rf
  unfold celI at h
  refine lv_iload_n hx hb dL_cell_0 rfl (lv_at hl 1 rfl) ?_
  refine lv_aload_n hx hb dL_cell_1 rfl (lv_at hl 0 rfl) ?_
  refine va_slen hx hb hX hbs hbA hS dL_cell_2 ?_
  refine lv_icmp_ge (tgt := 12) hx hb dL_cell_3 (by decide) (fun c1 => ?_) (fun c1 => ?_)
  · have c1 : nI L ≤ p1 := c1
    rw [if_pos c1] at h
    obtain rfl := Option.some.inj h
    refine lv_ldc (v := 52817) hx hb hown (hts (.constant RL 7 (52817)) (List.mem_of_getElem? (i := 1) rfl)) dL_cell_12 ?_
    refine lv_iload_n hx hb dL_cell_14 rfl (lv_at hl 1 rfl) ?_
    refine lv_bipush (v := 53) hx hb dL_cell_15 (by decide) ?_
    refine lv_iadd hx hb dL_cell_17 ?_
    refine lv_imul hx hb dL_cell_18 ?_
    refine lv_bipush (v := 89) hx hb dL_cell_19 (by decide) ?_
    refine lv_iadd hx hb dL_cell_21 ?_
    refine lv_ldc (v := 2147483647) hx hb hown (hts (.constant RL 8 (2147483647)) (List.mem_of_getElem? (i := 2) rfl)) dL_cell_22 ?_
    refine lv_iand hx hb dL_cell_24 ?_
    exact W.iret hx hb hr (fun t ht hW => ⟨⟨_, (), rfl, rfl, va_P_nil, va_K.moved hW.alike hK, va_D_nil⟩, hS.F ht⟩) hS.2.2 dL_cell_25 hlocks
  · have c1 : ¬ nI L ≤ p1 := c1
    rw [if_neg c1] at h
    obtain ⟨v, h1, h2⟩ := ob1_el h
    obtain ⟨h3, rfl⟩ := rd_el h1
    obtain rfl := Option.some.inj h2
    refine lv_aload_n hx hb dL_cell_6 rfl (lv_at hl 0 rfl) ?_
    refine lv_iload_n hx hb dL_cell_7 rfl (lv_at hl 1 rfl) ?_
    refine va_sld hx hb hX hbs hbA hS h3 dL_cell_8 ?_
    refine lv_goto (tgt := 22) hx hb dL_cell_9 (by decide) ?_
    refine lv_ldc (v := 2147483647) hx hb hown (hts (.constant RL 8 (2147483647)) (List.mem_of_getElem? (i := 2) rfl)) dL_cell_22 ?_
    refine lv_iand hx hb dL_cell_24 ?_
    exact W.iret hx hb hr (fun t ht hW => ⟨⟨_, (), rfl, rfl, va_P_nil, va_K.moved hW.alike hK, va_D_nil⟩, hS.F ht⟩) hS.2.2 dL_cell_25 hlocks
section KCALLX
variable {p : Program} {l : Launch} {e : Env} {R : Room} {s : State} {m : MethodId} {args : Array Value} {below : List Frame} {meth : Method} {c : Code} {H : Heap} {locs : List Loc} {cells slots : Nat} {Q : State → Prop}
variable {cc bytes : ByteArray} {pc nL maxL n index : Nat} {ls : Array Slot} {st0 rest As : List Value} {D : va_G} {tys : List (ClassId × FieldType)} {A0 : Nat → Prop} {H0 : Heap} {Ts wsy : List Cond} {own : String} {y : MethodName} {ret : Option FieldType} {rm : Room} {bs : List va_W}
theorem kCell {r0 : Int32} {b L : Nat} {xs : Nat → Int32} (S : CallFix p m c cc nL s args Ts own) (hM : Met l y wsy rm (kPx D tys As H.size b L xs) (kQi D tys [] [] H.size r0) 0 0 (va_A [] H.size)) (cw : CallB R s args own index y bytes maxL ret wsy rm 0 0 n ∧ (Cond.static y).before args s = true)
    (hK : va_K D vwCl tys s) (hX : va_X b L xs s H0) (hbl : b < H0.size) (hbA : ¬ A0 b) (hP : va_P D vwCl (fl bs) H) (hD : va_D A0 (fl bs)) (hS : va_S A0 H0 H locs) (hA : ∀ q, H0.size ≤ q → A0 q) (hdis : ((List.range bs.length).map (fun i => bs[i]?) = (List.range bs.length).map (fun i => bs[i]?))) (hcov : ((List.range bs.length).all fun k => ([] : List Nat).contains k || (List.range bs.length).contains k) = true) (hn2 : ((List.range bs.length).all fun i => !([] : List Nat).contains i) = true)
    (hlen : As.length = n) (hsz : ls.size = nL) (hst : st0 = As.reverse ++ rest) (hroom : (rest.map fun v => v.category).sum ≤ 8) (hdg : decode cc pc = .ok (.invokestatic index, 3)) (hcell : cells + 0 ≤ R.cells ∧ slots + 0 ≤ R.slots)
    (kk : ∀ (H1 : Heap) (locs1 : List Loc), va_P D vwCl (fl bs) H1 → va_D A0 (fl bs) → va_S A0 H0 H1 locs1 → W p l e R s m args below meth c H1 locs1 cells slots Q (F0 m (pc + 3) ls (.int r0 :: rest))) : W p l e R s m args below meth c H locs cells slots Q (F0 m pc ls st0) := by
  have hXH : va_X b L xs s H := hX.kept (hS.2.1 b hbl hbA)
  have hFc : ∀ q, va_A [] H.size q → A0 q := kb_free (cs := []) (isC := []) hD hS hA rfl
  refine va_calli (va_runS S hM cw ⟨kPx_blind, fun U hU hW => ⟨rfl, by rw [hU], by rw [hU]; exact va_X.moved hW.alike hXH, va_K.moved hW.alike hK⟩⟩ rfl hlen hsz hst (lv_room hroom) hdg hcell) hS (fun q _ h => hFc q h) hFc ?_
  intro r u t H1 locs1 ht hvm hw1 hB hz1 hk1 hS1
  obtain ⟨hP1, hK1, hD1⟩ := hB
  rw [ht] at hP1
  obtain ⟨hP2, hD2⟩ := kb_back (cs := []) (cs' := []) (bs1 := bs) (isC := []) (isR := List.range bs.length) hP hD rfl rfl hdis hn2 hcov hk1 hFc hP1 hD1
  subst hw1
  exact kk H1 locs1 hP2 hD2 hS1
end KCALLX
/-! the law's own state -/
def LCtx (p : Program) (s : State) (m : MethodId) (c : Code) (b L : Nat) (xs : Nat → Int32) (D : va_G) (cI cC cE : ClassId) : Prop :=
  p.tables.exec = Jvm.exec ∧ c.code = code ∧ c.maxLocals = 7 ∧ s.vm.findClass RL = some m.cls ∧ (∀ w ∈ wsL_law, w.before #[Value.ref b] s = true) ∧ va_X b L xs s s.heap ∧ b < s.heap.size ∧ va_K D vwCl (kT cI cC cE) s
def lwA (s : State) : Nat → Prop := fun q => s.heap.size ≤ q
