/-! part 60: constructors: what they are given, what they leave, their calls -/
def kNM (U : State) : Prop := va_AO "RiddleTrade$Exchange" U ∧ va_Nw (.methodLinkNest RX0 34 yX3_init RX5) U ∧ va_Nw (.methodLinkNest RX5 31 yX2_init RX5) U
theorem kNM.warm {s U : State} (hW : s.WarmedH U.vm) (h : kNM s) : kNM U := ⟨va_AO.moved hW.alike h.1, va_Nw.warmM hW h.2.1, va_Nw.warmM hW h.2.2⟩
theorem kNM.same {u U : State} (hv : u.vm = U.vm) (h : kNM u) : kNM U := ⟨va_AO.moved (by rw [hv]; exact Vm.Alike.refl _) h.1, va_Nw.same rfl hv h.2.1, va_Nw.same rfl hv h.2.2⟩
def kPo (D : va_G) (tys : List (ClassId × FieldType)) (av : List Value) (wc : va_W) (sz : Nat) : Array Value → State → Prop := va_Pc av (fun U => U.heap.size = sz ∧ va_P D vwCl wc U.heap ∧ va_K D vwCl tys U ∧ va_D (fun _ => True) wc ∧ kNM U)
def kQn {α : Type} (D : va_G) (tys : List (ClassId × FieldType)) (wc : va_W) (pst : α → Prop) (W' : α → va_W) (sz : Nat) : Array Value → State → Outcome → State → Prop := va_Qv (S := α) pst (fun u t => va_P D vwCl (W' u) t.heap ∧ va_K D vwCl tys t ∧ va_D (va_A wc sz) (W' u)) (va_A wc sz)
theorem kPo_blind {D : va_G} {tys : List (ClassId × FieldType)} {av : List Value} {wc : va_W} {sz : Nat} : FrameBlind (kPo D tys av wc sz) := by
  intro a U g mk q
  obtain ⟨q0, q1, qP, qK, qD, qN⟩ := q
  exact ⟨q0, q1, qP, va_K.moved (u := U) (U := U.calling g mk a) (Vm.Alike.refl U.vm) qK, qD, kNM.same (u := U) (U := U.calling g mk a) rfl qN⟩
theorem kMetN {α : Type} {l : Launch} {y : MethodName} {ws0 ws0' : List Cond} {rm : Room} {D : va_G} {tys : List (ClassId × FieldType)} {av : List Value} {wc : va_W} {pst : α → Prop} {W' : α → va_W} {sz mc ms : Nat} {cc : ByteArray} {maxL : Nat} {own : String} (hy : plainName y.cls = true) (hw : ws0 = Cond.code y cc maxL none :: ws0') (hlen : (lg_sl av).length ≤ maxL) (hcl : y.cls = own)
    (body : ∀ (p : Program) (e : Env) (s : State) (m : MethodId) (below : List Frame) (meth : Method) (c : Code) (A : Nat → Prop) (Q : State → Prop), p.tables.exec = Jvm.exec → c.code = cc → c.maxLocals = maxL → s.vm.findClass own = some m.cls → (∀ w ∈ ws0, w.before av.toArray s = true) → va_P D vwCl wc s.heap → va_K D vwCl tys s → va_D A wc → (∀ q, s.heap.size ≤ q → A q) → va_S A s.heap s.heap [] → meth.name = y.name → kNM s →
      (∀ (u : α) (pc : Nat) (ls : Array Slot) (H : Heap) (locs : List Loc), pst u → decode cc pc = .ok (.return_, 1) → va_P D vwCl (W' u) H → va_D A (W' u) → va_S A s.heap H locs → W p l e rm s m av.toArray below meth c H locs mc ms Q (F0 m pc ls [])) →
      ∀ (ls : Array Slot), lv_has ls maxL (lv_args 0 av) → W p l e rm s m av.toArray below meth c s.heap [] 0 0 Q (F0 m 0 ls [])) : Met l y ws0 rm (kPo D tys av wc sz) (kQn D tys wc pst W' sz) mc ms (va_A wc sz) := by
  refine Met.ofW (cc := cc) (maxL := maxL) (ret := none) hy hw ?_
  intro p e s m args below meth c s₁ B hml hv
  obtain ⟨rfl, hsz, hP, hK, hD0, hN⟩ := hv
  have hr := B.returns
  have hlocks := B.notSynchronized
  have hown : s.vm.findClass own = some m.cls := hcl ▸ findClass_of_methodNamed B.named
  subst hsz
  rw [lg_entry_eq]
  refine body p e s m below meth c (va_A wc s.heap.size) _ B.exec B.bytes hml hown (atoms_spec (ws := ws0) B.pre) hP hK hD0.self (fun q h => Or.inr h) va_S.rf (name_of_methodNamed B.named B.method).1 hN ?_ _ (lv_entry av hlen)
  intro u pc ls H locs hu hdg hP1 hD1 hS1
  exact W.vret B.exec B.bytes hr (fun t ht hW => ⟨⟨u, rfl, hu, by rw [ht]; exact hP1, va_K.moved hW.alike hK, hD1⟩, hS1.F ht⟩) hS1.2.2 hdg hlocks
section KCTOR
variable {p : Program} {l : Launch} {e : Env} {R : Room} {s : State} {m : MethodId} {args : Array Value} {below : List Frame} {meth : Method} {c : Code} {H : Heap} {locs : List Loc} {cells slots : Nat} {Q : State → Prop}
variable {cc bytes : ByteArray} {pc nL maxL n index mc ms : Nat} {ls : Array Slot} {st0 rest As : List Value} {D : va_G} {tys : List (ClassId × FieldType)} {A0 : Nat → Prop} {H0 : Heap} {Ts wsy : List Cond} {own host : String} {y : MethodName} {rm : Room} {ws wc wc' ws1 wr : va_W} {b : Nat} {x : Nat × va_E}
theorem kcIv (S : CallFix p m c cc nL s args Ts own) (isC isR : List Nat) (hM : Met l y wsy rm (kP D tys (.ref b :: As) wc H.size) (kQv D tys wc wc' H.size) 0 0 (va_A wc H.size)) (cw : CallB R s args own index y bytes maxL none wsy rm 0 0 n ∧ y.name = "<init>" ∧ (Cond.instanceMethod y).before args s = true)
    (hK : va_K D vwCl tys s) (hP : va_P D vwCl ws H) (hD : va_D A0 ws) (hS : va_S A0 H0 H locs) (hA : ∀ q, H0.size ≤ q → A0 q) (hC : isC.map (fun i => ws[i]?) = wc.map some) (hC' : isC.map (fun i => ws1[i]?) = wc'.map some) (hR : isR.map (fun i => ws[i]?) = isR.map (fun i => ws1[i]?)) (hdis : (isR.all fun i => !isC.contains i) = true) (hcov : ((List.range ws1.length).all fun k => isC.contains k || isR.contains k) = true) (hn2 : va_nd isC = true)
    (hlen : As.length = n) (hsz : ls.size = nL) (hst : st0 = As.reverse ++ .ref b :: rest) (hroom : (rest.map fun v => v.category).sum ≤ 8) (hdg : decode cc pc = .ok (.invokespecial index, 3)) (hcell : cells + 0 ≤ R.cells ∧ slots + 0 ≤ R.slots)
    (kk : ∀ (H1 : Heap) (locs1 : List Loc), va_P D vwCl ws1 H1 → va_D A0 ws1 → va_S A0 H0 H1 locs1 → W p l e R s m args below meth c H1 locs1 cells slots Q (F0 m (pc + 3) ls rest)) : W p l e R s m args below meth c H locs cells slots Q (F0 m pc ls st0) := by
  have hPc : va_P D vwCl wc H := k_sub hP hC
  have hDc := hD.sub isC hn2 hC
  have hFc := va_free hD hS hA isC hC
  refine va_callv (va_runI S hM cw ⟨kP_blind, fun U hU hW => ⟨rfl, by rw [hU], by rw [hU]; exact hPc, va_K.moved hW.alike hK, hDc.weaken (fun _ _ _ _ => trivial)⟩⟩ rfl hlen hsz hst (lv_room hroom) hdg hcell) hS (fun q _ h => hFc q h) hFc ?_
  intro u t H1 locs1 ht hvm hw1 hB hz1 hk1 hS1
  obtain ⟨hP1, hK1, hD1⟩ := hB
  rw [ht] at hP1
  obtain ⟨hP2, hD2⟩ := k_back hP hD hC hC' hR hdis hcov hk1 hFc hP1 hD1
  exact kk H1 locs1 hP2 hD2 hS1
/-- a constructor of the object that was made last, which makes more -/
theorem kcInit {α : Type} {pst : α → Prop} {W' : α → va_W} (S : CallFix p m c cc nL s args Ts own) (hM : Met l y wsy rm (kPo D tys (.ref b :: As) [x] H.size) (kQn D tys [x] pst W' H.size) mc ms (va_A [x] H.size)) (cw : CallB R s args own index y bytes maxL none wsy rm mc ms n ∧ y.name = "<init>" ∧ (Cond.instanceMethod y).before args s = true) (hN : kNM s)
    (hK : va_K D vwCl tys s) (hP : va_P D vwCl (wr ++ [x]) H) (hD : va_D A0 (wr ++ [x])) (hS : va_S A0 H0 H locs) (hA : ∀ q, H0.size ≤ q → A0 q)
    (hlen : As.length = n) (hsz : ls.size = nL) (hst : st0 = As.reverse ++ .ref b :: rest) (hroom : (rest.map fun v => v.category).sum ≤ 8) (hdg : decode cc pc = .ok (.invokespecial index, 3)) (hcell : cells + mc ≤ R.cells ∧ slots + ms ≤ R.slots)
    (kk : ∀ (u : α) (H1 : Heap) (locs1 : List Loc), pst u → va_P D vwCl (wr ++ W' u) H1 → va_D A0 (wr ++ W' u) → va_S A0 H0 H1 locs1 → W p l e R s m args below meth c H1 locs1 (cells + mc) (slots + ms) Q (F0 m (pc + 3) ls rest)) : W p l e R s m args below meth c H locs cells slots Q (F0 m pc ls st0) := by
  have hP' : va_P D vwCl (fl [wr, [x]]) H := hP
  have hD' : va_D A0 (fl [wr, [x]]) := hD
  have hC : [1].map (fun i => [wr, [x]][i]?) = [[x]].map some := rfl
  have hPc : va_P D vwCl [x] H := va_P_iff.mpr (fun q hq => va_P_iff.mp hP q (List.mem_append_right _ hq))
  have hDc : va_D A0 [x] := kb_D (cs := [[x]]) hC rfl hD'
  have hFc : ∀ q, va_A [x] H.size q → A0 q := kb_free (cs := [[x]]) hD' hS hA hC
  refine va_callv (va_runI S hM cw ⟨kPo_blind, fun U hU hW => ⟨rfl, by rw [hU], by rw [hU]; exact hPc, va_K.moved hW.alike hK, hDc.weaken (fun _ _ _ _ => trivial), hN.warm hW⟩⟩ rfl hlen hsz hst (lv_room hroom) hdg hcell) hS (fun q _ h => hFc q h) hFc ?_
  intro u t H1 locs1 ht hvm hw1 hB hz1 hk1 hS1
  obtain ⟨hP1, hK1, hD1⟩ := hB
  rw [ht] at hP1
  obtain ⟨hP2, hD2⟩ := kb_back (cs := [[x]]) (cs' := [W' u]) (bs1 := [wr, W' u]) (isC := [1]) (isR := [0]) hP' hD' hC rfl rfl rfl rfl hk1 hFc hP1 hD1
  exact kk u H1 locs1 hw1 hP2 hD2 hS1
/-- the same, where the constructor is a nest mate's own -/
theorem kcInitN {α : Type} {pst : α → Prop} {W' : α → va_W} (S : CallFix p m c cc nL s args Ts own) (hM : Met l y wsy rm (kPo D tys (.ref b :: As) [x] H.size) (kQn D tys [x] pst W' H.size) mc ms (va_A [x] H.size)) (cw : va_CN R s args own index y host bytes maxL none wsy rm mc ms n ∧ y.name = "<init>" ∧ (Cond.instanceMethod y).before args s = true) (hN : kNM s)
    (hK : va_K D vwCl tys s) (hP : va_P D vwCl (wr ++ [x]) H) (hD : va_D A0 (wr ++ [x])) (hS : va_S A0 H0 H locs) (hA : ∀ q, H0.size ≤ q → A0 q)
    (hlen : As.length = n) (hsz : ls.size = nL) (hst : st0 = As.reverse ++ .ref b :: rest) (hroom : (rest.map fun v => v.category).sum ≤ 8) (hdg : decode cc pc = .ok (.invokespecial index, 3)) (hcell : cells + mc ≤ R.cells ∧ slots + ms ≤ R.slots)
    (kk : ∀ (u : α) (H1 : Heap) (locs1 : List Loc), pst u → va_P D vwCl (wr ++ W' u) H1 → va_D A0 (wr ++ W' u) → va_S A0 H0 H1 locs1 → W p l e R s m args below meth c H1 locs1 (cells + mc) (slots + ms) Q (F0 m (pc + 3) ls rest)) : W p l e R s m args below meth c H locs cells slots Q (F0 m pc ls st0) := by
  have hP' : va_P D vwCl (fl [wr, [x]]) H := hP
  have hD' : va_D A0 (fl [wr, [x]]) := hD
  have hC : [1].map (fun i => [wr, [x]][i]?) = [[x]].map some := rfl
  have hPc : va_P D vwCl [x] H := va_P_iff.mpr (fun q hq => va_P_iff.mp hP q (List.mem_append_right _ hq))
  have hDc : va_D A0 [x] := kb_D (cs := [[x]]) hC rfl hD'
  have hFc : ∀ q, va_A [x] H.size q → A0 q := kb_free (cs := [[x]]) hD' hS hA hC
  refine va_callv (va_runIN S hM cw ⟨kPo_blind, fun U hU hW => ⟨rfl, by rw [hU], by rw [hU]; exact hPc, va_K.moved hW.alike hK, hDc.weaken (fun _ _ _ _ => trivial), hN.warm hW⟩⟩ rfl hlen hsz hst (lv_room hroom) hdg hcell) hS (fun q _ h => hFc q h) hFc ?_
  intro u t H1 locs1 ht hvm hw1 hB hz1 hk1 hS1
  obtain ⟨hP1, hK1, hD1⟩ := hB
  rw [ht] at hP1
  obtain ⟨hP2, hD2⟩ := kb_back (cs := [[x]]) (cs' := [W' u]) (bs1 := [wr, W' u]) (isC := [1]) (isR := [0]) hP' hD' hC rfl rfl rfl rfl hk1 hFc hP1 hD1
  exact kk u H1 locs1 hw1 hP2 hD2 hS1
theorem k_sameC {cA cB : ClassId} {nm : String} (h1 : s.vm.findClass nm = some cA) (h2 : s.vm.findClass nm = some cB) : cA = cB := Option.some.inj (h1.symm.trans h2)
theorem kNewI {cI cC cE : ClassId} (hexec : p.tables.exec = Jvm.exec) (hb : c.code = cc) (harr : (Cond.arrayClass .int).before args s = true) (hK : va_K D vwCl (kT cI cC cE) s) (hP : va_P D vwCl ws H) (hD : va_D A0 ws) (hS : va_S A0 H0 H locs) (hA : ∀ q, H0.size ≤ q → A0 q)
    {n : Int32} {N' : Nat} (hn : ¬ n < 0) (hN : n.toNatClampNeg = N') (hbytes : N' * componentBytes .int ≤ 536870912) (hcells : cells + 1 ≤ R.cells) (hslots : slots + N' ≤ R.slots) (hdg : decode cc pc = .ok (.newarray .int, 2))
    (kk : ∀ (q : Nat) (H1 : Heap), va_P D vwCl (ws ++ [(q, .inl (cI, N', .inl (fun _ => 0)))]) H1 → va_D A0 (ws ++ [(q, .inl (cI, N', .inl (fun _ => 0)))]) → va_S A0 H0 H1 locs →
      W p l e R s m args below meth c H1 locs (cells + 1) (slots + N') Q (F0 m (pc + 2) ls (.ref q :: rest))) : W p l e R s m args below meth c H locs cells slots Q (F0 m pc ls (.int n :: rest)) := by
  refine va_newa (atype := .int) hexec hb harr rfl hK hP hD hS hA (a0 := (N', .inl (fun _ => 0))) (fun cA => rfl) hn hN hbytes hcells hslots hdg fun q cA H1 hK' hP hD hS => ?_
  have e1 : s.vm.findClass ("[" ++ FieldType.int.toString) = some cA := (hK'.2 3 (cA, .int) rfl).2
  have e2 : s.vm.findClass ("[" ++ FieldType.int.toString) = some cI := (hK.2 0 (cI, .int) rfl).2
  obtain rfl := k_sameC e1 e2
  exact kk q H1 hP hD hS
theorem kNewC {cI cC cE : ClassId} (hexec : p.tables.exec = Jvm.exec) (hb : c.code = cc) (harr : (Cond.arrayClass .char).before args s = true) (hK : va_K D vwCl (kT cI cC cE) s) (hP : va_P D vwCl ws H) (hD : va_D A0 ws) (hS : va_S A0 H0 H locs) (hA : ∀ q, H0.size ≤ q → A0 q)
    {n : Int32} {N' : Nat} (hn : ¬ n < 0) (hN : n.toNatClampNeg = N') (hbytes : N' * componentBytes .char ≤ 536870912) (hcells : cells + 1 ≤ R.cells) (hslots : slots + N' ≤ R.slots) (hdg : decode cc pc = .ok (.newarray .char, 2))
    (kk : ∀ (q : Nat) (H1 : Heap), va_P D vwCl (ws ++ [(q, .inl (cC, N', .inl (fun _ => 0)))]) H1 → va_D A0 (ws ++ [(q, .inl (cC, N', .inl (fun _ => 0)))]) → va_S A0 H0 H1 locs →
      W p l e R s m args below meth c H1 locs (cells + 1) (slots + N') Q (F0 m (pc + 2) ls (.ref q :: rest))) : W p l e R s m args below meth c H locs cells slots Q (F0 m pc ls (.int n :: rest)) := by
  refine va_newa (atype := .char) hexec hb harr rfl hK hP hD hS hA (a0 := (N', .inl (fun _ => 0))) (fun cA => rfl) hn hN hbytes hcells hslots hdg fun q cA H1 hK' hP hD hS => ?_
  have e1 : s.vm.findClass ("[" ++ FieldType.char.toString) = some cA := (hK'.2 3 (cA, .char) rfl).2
  have e2 : s.vm.findClass ("[" ++ FieldType.char.toString) = some cC := (hK.2 1 (cC, .char) rfl).2
  obtain rfl := k_sameC e1 e2
  exact kk q H1 hP hD hS
theorem kNewQ {cI cC cE : ClassId} (hexec : p.tables.exec = Jvm.exec) (hb : c.code = cc) (hown : s.vm.findClass own = some m.cls) (hclink : (Cond.classLink own index "RiddleTrade$Exchange").before args s = true) (hover : va_AO "RiddleTrade$Exchange" s) (hK : va_K D vwCl (kT cI cC cE) s) (hP : va_P D vwCl ws H) (hD : va_D A0 ws) (hS : va_S A0 H0 H locs) (hA : ∀ q, H0.size ≤ q → A0 q)
    {n : Int32} {N' : Nat} (hn : ¬ n < 0) (hN : n.toNatClampNeg = N') (hbytes : N' * 4 ≤ 536870912) (hcells : cells + 1 ≤ R.cells) (hslots : slots + N' ≤ R.slots) (hdg : decode cc pc = .ok (.anewarray index, 3))
    (kk : ∀ (q : Nat) (H1 : Heap), va_P D vwCl (ws ++ [(q, .inl (cE, N', .inr (.inr (.inr (.inr (fun _ => none))))))]) H1 → va_D A0 (ws ++ [(q, .inl (cE, N', .inr (.inr (.inr (.inr (fun _ => none))))))]) → va_S A0 H0 H1 locs →
      W p l e R s m args below meth c H1 locs (cells + 1) (slots + N') Q (F0 m (pc + 3) ls (.ref q :: rest))) : W p l e R s m args below meth c H locs cells slots Q (F0 m pc ls (.int n :: rest)) := by
  refine va_newq hexec hb hown hclink hover hK hP hD hS hA hn hN hbytes hcells hslots hdg fun q cA H1 hK' hP hD hS => ?_
  obtain ⟨_, _, _, _, _, e1⟩ := (hK'.2 3 (cA, .object "RiddleTrade$Exchange") rfl).2
  obtain ⟨_, _, _, _, _, e2⟩ := (hK.2 2 (cE, .object "RiddleTrade$Exchange") rfl).2
  obtain rfl := k_sameC e1 e2
  exact kk q H1 hP hD hS
end KCTOR
theorem k_cellEqQ {cA : ClassId} {n : Nat} {f g : Nat → Option Nat} (h : ∀ j, j < n → f j = g j) : vp_cell cA (n, .inr (.inr (.inr (.inr f)))) = vp_cell cA (n, .inr (.inr (.inr (.inr g)))) := by
  show arrV cA n (fun j => va_rf (f j)) = arrV cA n (fun j => va_rf (g j))
  unfold arrV
  congr 1
  apply Array.ext
  · simp
  · intro i h1 h2
    simp at h1
    simp [h i h1]
theorem k_recellQ {D : va_G} {cl : List vw_C} {wr : va_W} {x : Nat × va_E} {H : Heap} {a : Nat} {cA : ClassId} {n : Nat} {f g : Nat → Option Nat} (hP : va_P D cl (x :: (a, .inl (cA, n, .inr (.inr (.inr (.inr f))))) :: wr) H) (h : ∀ j, j < n → f j = g j) : va_P D cl (x :: (a, .inl (cA, n, .inr (.inr (.inr (.inr g))))) :: wr) H := by
  rw [va_P_iff] at hP ⊢
  intro q hq
  rcases List.mem_cons.mp hq with rfl | hq
  · exact hP _ List.mem_cons_self
  · rcases List.mem_cons.mp hq with rfl | hq
    · have h0 := hP _ (List.mem_cons_of_mem _ List.mem_cons_self)
      show H[a]? = some (vp_cell cA (n, .inr (.inr (.inr (.inr g)))))
      rw [← k_cellEqQ h]
      exact h0
    · exact hP _ (List.mem_cons_of_mem _ (List.mem_cons_of_mem _ hq))
theorem k_recellQD {A : Nat → Prop} {wr : va_W} {x : Nat × va_E} {a : Nat} {e e' : va_E} (hD : va_D A (x :: (a, e) :: wr)) : va_D A (x :: (a, e') :: wr) := by
  have h := hD.set (p := 1) (a := a) (e0 := e) (e := e') rfl
  exact h
theorem fl_snoc (bs : List va_W) (w : va_W) : fl bs ++ w = fl (bs ++ [w]) := by
  induction bs with
  | nil => rfl
  | cons b r ih => rw [fl_cons, List.append_assoc, ih, List.cons_append, fl_cons]
