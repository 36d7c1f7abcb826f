/-! part 07: copies of whole rows; the value of an exchange; calls that answer a reference -/
abbrev Ex : Type := (Nat → Int32) × (Nat → Int32) × Int32 × (Nat → Int32) × Int32 × (Nat → Int32) × (Nat → Int32) × (Nat → Int32) × Int32 × Int32 × Int32
def updE (f : Nat → Ex) (k : Nat) (e : Ex) : Nat → Ex := fun j => if j = k then e else f j
theorem k_cellEq {cA : ClassId} {n : Nat} {f g : Nat → Int32} (h : ∀ j, j < n → f j = g j) : vp_cell cA (n, .inl f) = vp_cell cA (n, .inl g) := by
  show arrV cA n (fun j => .int (f j)) = arrV cA n (fun j => .int (g j))
  unfold arrV
  congr 1
  apply Array.ext
  · simp
  · intro i h1 h2
    simp at h1
    simp [h i h1]
theorem k_recell {D : va_G} {cl : List vw_C} {ws : va_W} {H : Heap} {q a : Nat} {cA : ClassId} {n : Nat} {f g : Nat → Int32} (hP : va_P D cl (ws.set q (a, .inl (cA, n, .inl f))) H) (h : ∀ j, j < n → f j = g j) : va_P D cl (ws.set q (a, .inl (cA, n, .inl g))) H := by
  intro k x hx
  rw [List.getElem?_set] at hx
  by_cases hk : q = k
  · rw [if_pos hk] at hx
    by_cases hl : q < ws.length
    · rw [if_pos hl] at hx
      cases hx
      have h0 := hP k (a, .inl (cA, n, .inl f)) (by rw [List.getElem?_set, if_pos hk, if_pos hl])
      show H[a]? = some (vp_cell cA (n, .inl g))
      rw [← k_cellEq h]
      exact h0
    · rw [if_neg hl] at hx; cases hx
  · rw [if_neg hk] at hx
    exact hP k x (by rw [List.getElem?_set, if_neg hk]; exact hx)
section KCALL2
variable {p : Program} {l : Launch} {e : Env} {R : Room} {s : State} {m : MethodId} {args : Array Value} {below : List Frame} {meth : Method} {c : Code} {H : Heap} {locs : List Loc} {cells slots : Nat} {Q : State → Prop}
variable {cc bytes : ByteArray} {pc nL maxL n index : Nat} {ls : Array Slot} {st0 rest As : List Value} {D : va_G} {tys : List (ClassId × FieldType)} {A0 : Nat → Prop} {H0 : Heap} {Ts wsy : List Cond} {own C : String} {y : MethodName} {ret : Option FieldType} {rm : Room} {ws wc wc' ws1 : va_W} {b ci : Nat} {fs : List Value} {q : vw_C}
theorem k_copyall {a a0 : Nat} (S : CallFix p m c cc nL s args Ts own) (hsz : ls.size = nL) (hlink : (Cond.methodLink own index arraycopyName).before args s = true) (hnat : (Cond.native arraycopyName).before args s = true) (hstat : (Cond.static arraycopyName).before args s = true) (hini : (Cond.initialized "java/lang/System").before args s = true)
    (hK : va_K D vwCl tys s) (hP : va_P D vwCl ws H) (hD : va_D A0 ws) (hS : va_S A0 H0 H locs) (q0 q1 t0 : Nat) {cA : ClassId} {n0 : Nat} {f g : Nat → Int32} (ha0 : ws[q0]? = some (a0, .inl (cA, n0, .inl f))) (ha1 : ws[q1]? = some (a, .inl (cA, n0, .inl g))) (ht0 : tys[t0]? = some (cA, .int)) {n : Int32} (hn0 : ¬ n < 0) (hn1 : n.toNatClampNeg = n0) (hframes : 1 ≤ R.frames) (hlocals : (rest.map fun v => v.category).sum + (nativeFrameWords "java/lang/System" "arraycopy" 5 + 11) ≤ R.locals) (hdg : decode cc pc = .ok (.invokestatic index, 3))
    (kk : ∀ (H1 : Heap) (locs1 : List Loc), va_P D vwCl (ws.set q1 (a, .inl (cA, n0, .inl f))) H1 → va_D A0 (ws.set q1 (a, .inl (cA, n0, .inl f))) → va_S A0 H0 H1 locs1 → W p l e R s m args below meth c H1 locs1 cells slots Q (F0 m (pc + 3) ls rest)) : W p l e R s m args below meth c H locs cells slots Q (F0 m pc ls (.int n :: .int 0 :: .ref a :: .int 0 :: .ref a0 :: rest)) := by
  obtain ⟨hx, hb, hml, hown, -⟩ := S
  have z0 : (0 : Int32).toNatClampNeg = 0 := rfl
  refine va_copyi hx hb (hml.trans hsz.symm) hown hlink hnat hstat hini hK hP hD hS q0 q1 t0 t0 ha0 ha1 ht0 ht0 rfl (by decide) (by decide) hn0 (by rw [z0, hn1]; omega) (by rw [z0, hn1]; omega) (fun _ _ => rfl) hframes hlocals hdg ?_
  intro H1 locs1 k1 k2 k3
  refine kk H1 locs1 (k_recell k1 ?_) (hD.set ha1) k3
  intro j hj
  rw [z0, hn1]
  show (if 0 ≤ j ∧ j < 0 + n0 then f (0 + (j - 0)) else g j) = f j
  rw [if_pos ⟨Nat.zero_le _, by omega⟩]
  congr 1
  omega
def kQr (D : va_G) (tys : List (ClassId × FieldType)) (wc wc' : va_W) (sz : Nat) (r0 : Option Nat) : Array Value → State → Outcome → State → Prop := va_Qq (S := Unit) (fun r _ => r = r0) (fun _ t => va_P D vwCl wc' t.heap ∧ va_K D vwCl tys t ∧ va_D (va_A wc sz) wc') (va_A wc sz)
theorem kcVr {r0 : Option Nat} (S : CallFix p m c cc nL s args Ts own) (isC isR : List Nat) (hM : Met l y wsy rm (kP D tys (.ref b :: As) wc H.size) (kQr D tys wc wc' H.size r0) 0 0 (va_A wc H.size)) (cw : CallW R s args own C index y bytes maxL ret wsy rm 0 0 n)
    (hK : va_K D vwCl tys s) (hP : va_P D vwCl ws H) (hD : va_D A0 ws) (hS : va_S A0 H0 H locs) (hA : ∀ q, H0.size ≤ q → A0 q) (hC : isC.map (fun i => ws[i]?) = wc.map some) (hC' : isC.map (fun i => ws1[i]?) = wc'.map some) (hR : isR.map (fun i => ws[i]?) = isR.map (fun i => ws1[i]?)) (hdis : (isR.all fun i => !isC.contains i) = true) (hcov : ((List.range ws1.length).all fun k => isC.contains k || isR.contains k) = true) (hn2 : va_nd isC = true)
    (hq : vwCl[ci]? = some (C, q.2)) (hb0 : wc[0]? = some (b, .inr (ci, fs))) (hlen : As.length = n) (hsz : ls.size = nL) (hst : st0 = As.reverse ++ .ref b :: rest) (hroom : (rest.map fun v => v.category).sum ≤ 8) (hdg : decode cc pc = .ok (.invokevirtual index, 3)) (hcell : cells + 0 ≤ R.cells ∧ slots + 0 ≤ R.slots)
    (kk : ∀ (H1 : Heap) (locs1 : List Loc), va_P D vwCl ws1 H1 → va_D A0 ws1 → va_S A0 H0 H1 locs1 → W p l e R s m args below meth c H1 locs1 cells slots Q (F0 m (pc + 3) ls (va_rf r0 :: rest))) : W p l e R s m args below meth c H locs cells slots Q (F0 m pc ls st0) := by
  have hPc : va_P D vwCl wc H := k_sub hP hC
  have hDc := hD.sub isC hn2 hC
  have hFc := va_free hD hS hA isC hC
  refine va_callq (va_runV S hM cw ⟨kP_blind, va_recv hK hPc hq hb0, fun U hU hW => ⟨rfl, by rw [hU], by rw [hU]; exact hPc, va_K.moved hW.alike hK, hDc.weaken (fun _ _ _ _ => trivial)⟩⟩ rfl hlen hsz hst (lv_room hroom) hdg hcell) hS (fun q _ h => hFc q h) hFc ?_
  intro r u t H1 locs1 ht hvm hw1 hB hz1 hk1 hS1
  obtain ⟨hP1, hK1, hD1⟩ := hB
  rw [ht] at hP1
  obtain ⟨hP2, hD2⟩ := k_back hP hD hC hC' hR hdis hcov hk1 hFc hP1 hD1
  subst hw1
  exact kk H1 locs1 hP2 hD2 hS1
end KCALL2
theorem kMetR {l : Launch} {y : MethodName} {ws0 ws0' : List Cond} {rm : Room} {D : va_G} {tys : List (ClassId × FieldType)} {av : List Value} {wc wc' : va_W} {sz : Nat} {r0 : Option Nat} {cc : ByteArray} {maxL : Nat} {own : String} {rt : FieldType} (hrt : ∃ n, rt = .object n) (hy : plainName y.cls = true) (hw : ws0 = Cond.code y cc maxL (some rt) :: ws0') (hlen : (lg_sl av).length ≤ maxL) (hcl : y.cls = own)
    (body : ∀ (p : Program) (e : Env) (s : State) (m : MethodId) (below : List Frame) (meth : Method) (c : Code) (A : Nat → Prop) (Q : State → Prop), p.tables.exec = Jvm.exec → c.code = cc → c.maxLocals = maxL → s.vm.findClass own = some m.cls → (∀ w ∈ ws0, w.before av.toArray s = true) → va_P D vwCl wc s.heap → va_K D vwCl tys s → va_D A wc → (∀ q, s.heap.size ≤ q → A q) → va_S A s.heap s.heap [] → meth.name = y.name →
      (∀ (pc : Nat) (ls : Array Slot) (H : Heap) (locs : List Loc), decode cc pc = .ok (.areturn, 1) → va_P D vwCl wc' H → va_D A wc' → va_S A s.heap H locs → W p l e rm s m av.toArray below meth c H locs 0 0 Q (F0 m pc ls [va_rf r0])) →
      ∀ (ls : Array Slot), lv_has ls maxL (lv_args 0 av) → W p l e rm s m av.toArray below meth c s.heap [] 0 0 Q (F0 m 0 ls [])) : Met l y ws0 rm (kP D tys av wc sz) (kQr D tys wc wc' sz r0) 0 0 (va_A wc sz) := by
  refine Met.ofW (cc := cc) (maxL := maxL) (ret := some rt) hy hw ?_
  intro p e s m args below meth c s₁ B hml hv
  obtain ⟨rfl, hsz, hP, hK, hD0⟩ := hv
  have hr := B.returns
  have hlocks := B.notSynchronized
  have hown : s.vm.findClass own = some m.cls := hcl ▸ findClass_of_methodNamed B.named
  subst hsz
  rw [lg_entry_eq]
  refine body p e s m below meth c (va_A wc s.heap.size) _ B.exec B.bytes hml hown (atoms_spec (ws := ws0) B.pre) hP hK hD0.self (fun q h => Or.inr h) va_S.rf (name_of_methodNamed B.named B.method).1 ?_ _ (lv_entry av hlen)
  intro pc ls H locs hdg hP1 hD1 hS1
  exact W.aret B.exec B.bytes hr (Or.inl hrt) (va_rf_or r0) (fun t ht hW => ⟨⟨r0, (), rfl, rfl, by rw [ht]; exact hP1, va_K.moved hW.alike hK, hD1⟩, hS1.F ht⟩) hS1.2.2 hdg hlocks
