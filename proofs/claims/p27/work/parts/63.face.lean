/-! part 63: a whole trade as one block; each call of the face over it -/
theorem fl1 (w : va_W) : fl [w] = w := by simp [fl]
theorem kbFrameI {l : Launch} {y : MethodName} {ws : List Cond} {rm : Room} {D : va_G} {tys : List (ClassId × FieldType)} {av : List Value} {wb wb' : va_W} {bs bs' cs cs' : List va_W} {sz : Nat} {r0 : Int32} (isC isR : List Nat) (hb : fl bs = wb) (hb' : fl bs' = wb') (hM : Met l y ws rm (kP D tys av (fl cs) sz) (kQi D tys (fl cs) (fl cs') sz r0) 0 0 (va_A (fl cs) sz)) (hC : isC.map (fun i => bs[i]?) = cs.map some) (hC' : isC.map (fun i => bs'[i]?) = cs'.map some) (hR : isR.map (fun i => bs[i]?) = isR.map (fun i => bs'[i]?)) (hdis : (isR.all fun i => !isC.contains i) = true) (hcov : ((List.range bs'.length).all fun k => isC.contains k || isR.contains k) = true) (hn2 : va_nd isC = true) : Met l y ws rm (kP D tys av wb sz) (kQi D tys wb wb' sz r0) 0 0 (va_A wb sz) := by
  subst hb; subst hb'
  have hfree : ∀ q, va_A (fl cs) sz q → va_A (fl bs) sz q := by
    intro q hq
    rcases hq with ⟨k, e, h⟩ | h
    · obtain ⟨i, hi⟩ := List.getElem?_of_mem (kb_sub hC (List.mem_of_getElem? h))
      exact Or.inl ⟨i, e, hi⟩
    · exact Or.inr h
  refine Met.mono hM ?_ ?_ hfree
  · rintro a s ⟨h1, h2, h3, h4, h5⟩
    exact ⟨h1, h2, va_P_iff.mpr (fun q hq => va_P_iff.mp h3 q (kb_sub hC hq)), h4, kb_D hC hn2 h5⟩
  · rintro a s o t ⟨h1, h2, h3, h4, h5⟩ ⟨⟨r, u, ho, hr, hP1, hK1, hD1⟩, hF⟩
    subst h2
    obtain ⟨g1, g2⟩ := kb_back h3 h5.self hC hC' hR hdis hcov hF.2 hfree hP1 hD1
    exact ⟨⟨r, u, ho, hr, g1, hK1, g2⟩, hF.1, fun q h6 h7 => hF.2 q h6 (fun h8 => h7 (hfree q h8))⟩
theorem nz_ge1 {x : Int32} (h : 1 ≤ x) : ¬ x = 0 := by
  intro e
  rw [e] at h
  exact absurd h (by decide)
section KCALLS
variable {p : Program} {l : Launch} {e : Env} {R : Room} {s : State} {m : MethodId} {args : Array Value} {below : List Frame} {meth : Method} {c : Code} {H : Heap} {locs : List Loc} {cells slots : Nat} {Q : State → Prop}
variable {cc bytes : ByteArray} {pc nL maxL n index : Nat} {ls : Array Slot} {st0 rest As : List Value} {D : va_G} {tys : List (ClassId × FieldType)} {A0 : Nat → Prop} {H0 : Heap} {Ts wsy : List Cond} {own : String} {y : MethodName} {ret : Option FieldType} {rm : Room} {bs cs cs' bs1 : List va_W}
theorem kbSi {r0 : Int32} (S : CallFix p m c cc nL s args Ts own) (isC isR : List Nat) (hM : Met l y wsy rm (kP D tys As (fl cs) H.size) (kQi D tys (fl cs) (fl cs') H.size r0) 0 0 (va_A (fl cs) H.size)) (cw : CallB R s args own index y bytes maxL ret wsy rm 0 0 n ∧ (Cond.static y).before args s = true)
    (hK : va_K D vwCl tys s) (hP : va_P D vwCl (fl bs) H) (hD : va_D A0 (fl bs)) (hS : va_S A0 H0 H locs) (hA : ∀ q, H0.size ≤ q → A0 q) (hC : isC.map (fun i => bs[i]?) = cs.map some) (hC' : isC.map (fun i => bs1[i]?) = cs'.map some) (hR : isR.map (fun i => bs[i]?) = isR.map (fun i => bs1[i]?)) (hdis : (isR.all fun i => !isC.contains i) = true) (hcov : ((List.range bs1.length).all fun k => isC.contains k || isR.contains k) = true) (hn2 : va_nd isC = true)
    (hlen : As.length = n) (hsz : ls.size = nL) (hst : st0 = As.reverse ++ rest) (hroom : (rest.map fun v => v.category).sum ≤ 8) (hdg : decode cc pc = .ok (.invokestatic index, 3)) (hcell : cells + 0 ≤ R.cells ∧ slots + 0 ≤ R.slots)
    (kk : ∀ (H1 : Heap) (locs1 : List Loc), va_P D vwCl (fl bs1) H1 → va_D A0 (fl bs1) → va_S A0 H0 H1 locs1 → W p l e R s m args below meth c H1 locs1 cells slots Q (F0 m (pc + 3) ls (.int r0 :: rest))) : W p l e R s m args below meth c H locs cells slots Q (F0 m pc ls st0) := by
  have hPc : va_P D vwCl (fl cs) H := va_P_iff.mpr (fun q hq => va_P_iff.mp hP q (kb_sub hC hq))
  have hDc := kb_D hC hn2 hD
  have hFc := kb_free hD hS hA hC
  refine va_calli (va_runS S hM cw ⟨kP_blind, fun U hU hW => ⟨rfl, by rw [hU], by rw [hU]; exact hPc, va_K.moved hW.alike hK, hDc.weaken (fun _ _ _ _ => trivial)⟩⟩ rfl hlen hsz hst (lv_room hroom) hdg hcell) hS (fun q _ h => hFc q h) hFc ?_
  intro r u t H1 locs1 ht hvm hw1 hB hz1 hk1 hS1
  obtain ⟨hP1, hK1, hD1⟩ := hB
  rw [ht] at hP1
  obtain ⟨hP2, hD2⟩ := kb_back hP hD hC hC' hR hdis hcov hk1 hFc hP1 hD1
  subst hw1
  exact kk H1 locs1 hP2 hD2 hS1
end KCALLS
abbrev Td : Type := Ex × Ex × Ex × (Nat → Ex) × Int32 × Int32 × (Nat → Int32) × (Nat → Int32) × Int32 × Int32 × Int32 × Int32 × Int32 × Int32 × Int32
def a_N (A : Nat → Nat) : Nat → Nat := fun i => A (10 + i)
def a_T (A : Nat → Nat) : Nat → Nat := fun i => A (30 + i)
def a_S (A : Nat → Nat) : Nat → Nat := fun i => A (50 + i)
def a_H (A : Nat → Nat) : Nat → Nat → Nat := fun k i => A (100 + 20 * k + i)
def tdB (cI cC cE : ClassId) (A : Nat → Nat) (t : Td) : List va_W := [trW (A 0) (A 1) (A 3) (a_N A) (a_T A) (a_S A) t.2.2.2.2.2.2.2.2.2.2.2.2.1 t.2.2.2.2.2.2.2.2.2.2.2.2.2.1 t.2.2.2.2.2.2.2.2.2.2.2.2.2.2, exW cI (a_N A) t.1, exW cI (a_T A) t.2.1, exW cI (a_S A) t.2.2.1, w_X1_stateAt cI cC cE (A 1) (A 2) (a_H A) t.2.2.2.2.1 t.2.2.2.2.2.1, exW cI (a_H A 0) (t.2.2.2.1 0), exW cI (a_H A 1) (t.2.2.2.1 1), exW cI (a_H A 2) (t.2.2.2.1 2), exW cI (a_H A 3) (t.2.2.2.1 3), ofW cI cC (A 3) (A 4) (A 5) (A 6) t.2.2.2.2.2.2.1 t.2.2.2.2.2.2.2.1 t.2.2.2.2.2.2.2.2.1 t.2.2.2.2.2.2.2.2.2.1 t.2.2.2.2.2.2.2.2.2.2.1 t.2.2.2.2.2.2.2.2.2.2.2.1]
def tdW (cI cC cE : ClassId) (A : Nat → Nat) (t : Td) : va_W := fl (tdB cI cC cE A t)
def q_ask (p1 : Int32) (p2 : Int32) (p3 : Int32) (t : Td) : Option (Int32 × Td) := ob6 (d_X5_ask p1 p2 p3 t.1 t.2.1 t.2.2.2.1 t.2.2.2.2.1 t.2.2.2.2.2.1) fun r0 o_N o_T o_Hs o_old o_sze => some (r0, (o_N, o_T, t.2.2.1, o_Hs, o_old, o_sze, t.2.2.2.2.2.2.1, t.2.2.2.2.2.2.2.1, t.2.2.2.2.2.2.2.2.1, t.2.2.2.2.2.2.2.2.2.1, t.2.2.2.2.2.2.2.2.2.2.1, t.2.2.2.2.2.2.2.2.2.2.2.1, t.2.2.2.2.2.2.2.2.2.2.2.2.1, t.2.2.2.2.2.2.2.2.2.2.2.2.2.1, t.2.2.2.2.2.2.2.2.2.2.2.2.2.2))
set_option maxHeartbeats 4000000 in
set_option maxRecDepth 100000 in
theorem cq_ask (l : Launch) (D : va_G) (cI cC cE : ClassId) (A : Nat → Nat) (sz : Nat) (t : Td) (p1 : Int32) (p2 : Int32) (p3 : Int32) (r0 : Int32) (t' : Td) (h : q_ask p1 p2 p3 t = some (r0, t')) : Met l yX5_ask wsX5_ask ({ frames := 5, cells := 0, slots := 0, locals := 111 } : Room) (kP D (kT cI cC cE) [.ref (A 0), .int p1, .int p2, .int p3] (fl [tdW cI cC cE A t]) sz) (kQi D (kT cI cC cE) (fl [tdW cI cC cE A t]) (fl [tdW cI cC cE A t']) sz r0) 0 0 (va_A (fl [tdW cI cC cE A t]) sz) := by
  obtain ⟨r1, o_N, o_T, o_Hs, o_old, o_sze, h1, h2⟩ := ob6_el h
  obtain ⟨rfl, rfl⟩ := inj2 (Option.some.inj h2)
  exact kbFrameI [0, 1, 2, 4, 5, 6, 7, 8] [3, 9] (fl1 (tdW cI cC cE A t)).symm (fl1 (tdW cI cC cE A _)).symm (c_X5_ask l D cI cC cE (A 0) (A 1) (A 3) (A 2) (a_N A) (a_T A) (a_S A) (a_H A) sz t.1 t.2.1 t.2.2.2.1 t.2.2.2.2.1 t.2.2.2.2.2.1 t.2.2.2.2.2.2.2.2.2.2.2.2.1 t.2.2.2.2.2.2.2.2.2.2.2.2.2.1 t.2.2.2.2.2.2.2.2.2.2.2.2.2.2 p1 p2 p3 r1 o_N o_T o_Hs o_old o_sze h1) rfl rfl rfl rfl rfl rfl
def q_withdraw (p1 : Int32) (t : Td) : Option (Int32 × Td) := ob6 (d_X5_withdraw p1 t.1 t.2.1 t.2.2.2.1 t.2.2.2.2.1 t.2.2.2.2.2.1) fun r0 o_N o_T o_Hs o_old o_sze => some (r0, (o_N, o_T, t.2.2.1, o_Hs, o_old, o_sze, t.2.2.2.2.2.2.1, t.2.2.2.2.2.2.2.1, t.2.2.2.2.2.2.2.2.1, t.2.2.2.2.2.2.2.2.2.1, t.2.2.2.2.2.2.2.2.2.2.1, t.2.2.2.2.2.2.2.2.2.2.2.1, t.2.2.2.2.2.2.2.2.2.2.2.2.1, t.2.2.2.2.2.2.2.2.2.2.2.2.2.1, t.2.2.2.2.2.2.2.2.2.2.2.2.2.2))
set_option maxHeartbeats 4000000 in
set_option maxRecDepth 100000 in
theorem cq_withdraw (l : Launch) (D : va_G) (cI cC cE : ClassId) (A : Nat → Nat) (sz : Nat) (t : Td) (p1 : Int32) (r0 : Int32) (t' : Td) (h : q_withdraw p1 t = some (r0, t')) : Met l yX5_withdraw wsX5_withdraw ({ frames := 5, cells := 0, slots := 0, locals := 111 } : Room) (kP D (kT cI cC cE) [.ref (A 0), .int p1] (fl [tdW cI cC cE A t]) sz) (kQi D (kT cI cC cE) (fl [tdW cI cC cE A t]) (fl [tdW cI cC cE A t']) sz r0) 0 0 (va_A (fl [tdW cI cC cE A t]) sz) := by
  obtain ⟨r1, o_N, o_T, o_Hs, o_old, o_sze, h1, h2⟩ := ob6_el h
  obtain ⟨rfl, rfl⟩ := inj2 (Option.some.inj h2)
  exact kbFrameI [0, 1, 2, 4, 5, 6, 7, 8] [3, 9] (fl1 (tdW cI cC cE A t)).symm (fl1 (tdW cI cC cE A _)).symm (c_X5_withdraw l D cI cC cE (A 0) (A 1) (A 3) (A 2) (a_N A) (a_T A) (a_S A) (a_H A) sz t.1 t.2.1 t.2.2.2.1 t.2.2.2.2.1 t.2.2.2.2.2.1 t.2.2.2.2.2.2.2.2.2.2.2.2.1 t.2.2.2.2.2.2.2.2.2.2.2.2.2.1 t.2.2.2.2.2.2.2.2.2.2.2.2.2.2 p1 r1 o_N o_T o_Hs o_old o_sze h1) rfl rfl rfl rfl rfl rfl
def q_deliver (p1 : Int32) (p2 : Int32) (p3 : Int32) (p4 : Int32) (t : Td) : Option (Int32 × Td) := ob6 (d_X5_deliver p1 p2 p3 p4 t.1 t.2.1 t.2.2.2.1 t.2.2.2.2.1 t.2.2.2.2.2.1) fun r0 o_N o_T o_Hs o_old o_sze => some (r0, (o_N, o_T, t.2.2.1, o_Hs, o_old, o_sze, t.2.2.2.2.2.2.1, t.2.2.2.2.2.2.2.1, t.2.2.2.2.2.2.2.2.1, t.2.2.2.2.2.2.2.2.2.1, t.2.2.2.2.2.2.2.2.2.2.1, t.2.2.2.2.2.2.2.2.2.2.2.1, t.2.2.2.2.2.2.2.2.2.2.2.2.1, t.2.2.2.2.2.2.2.2.2.2.2.2.2.1, t.2.2.2.2.2.2.2.2.2.2.2.2.2.2))
set_option maxHeartbeats 4000000 in
set_option maxRecDepth 100000 in
theorem cq_deliver (l : Launch) (D : va_G) (cI cC cE : ClassId) (A : Nat → Nat) (sz : Nat) (t : Td) (p1 : Int32) (p2 : Int32) (p3 : Int32) (p4 : Int32) (r0 : Int32) (t' : Td) (h : q_deliver p1 p2 p3 p4 t = some (r0, t')) : Met l yX5_deliver wsX5_deliver ({ frames := 5, cells := 0, slots := 0, locals := 111 } : Room) (kP D (kT cI cC cE) [.ref (A 0), .int p1, .int p2, .int p3, .int p4] (fl [tdW cI cC cE A t]) sz) (kQi D (kT cI cC cE) (fl [tdW cI cC cE A t]) (fl [tdW cI cC cE A t']) sz r0) 0 0 (va_A (fl [tdW cI cC cE A t]) sz) := by
  obtain ⟨r1, o_N, o_T, o_Hs, o_old, o_sze, h1, h2⟩ := ob6_el h
  obtain ⟨rfl, rfl⟩ := inj2 (Option.some.inj h2)
  exact kbFrameI [0, 1, 2, 4, 5, 6, 7, 8] [3, 9] (fl1 (tdW cI cC cE A t)).symm (fl1 (tdW cI cC cE A _)).symm (c_X5_deliver l D cI cC cE (A 0) (A 1) (A 3) (A 2) (a_N A) (a_T A) (a_S A) (a_H A) sz t.1 t.2.1 t.2.2.2.1 t.2.2.2.2.1 t.2.2.2.2.2.1 t.2.2.2.2.2.2.2.2.2.2.2.2.1 t.2.2.2.2.2.2.2.2.2.2.2.2.2.1 t.2.2.2.2.2.2.2.2.2.2.2.2.2.2 p1 p2 p3 p4 r1 o_N o_T o_Hs o_old o_sze h1) rfl rfl rfl rfl rfl rfl
def q_adjust (t : Td) : Option (Int32 × Td) := ob6 (d_X5_adjust t.1 t.2.1 t.2.2.2.1 t.2.2.2.2.1 t.2.2.2.2.2.1) fun r0 o_N o_T o_Hs o_old o_sze => some (r0, (o_N, o_T, t.2.2.1, o_Hs, o_old, o_sze, t.2.2.2.2.2.2.1, t.2.2.2.2.2.2.2.1, t.2.2.2.2.2.2.2.2.1, t.2.2.2.2.2.2.2.2.2.1, t.2.2.2.2.2.2.2.2.2.2.1, t.2.2.2.2.2.2.2.2.2.2.2.1, t.2.2.2.2.2.2.2.2.2.2.2.2.1, t.2.2.2.2.2.2.2.2.2.2.2.2.2.1, t.2.2.2.2.2.2.2.2.2.2.2.2.2.2))
set_option maxHeartbeats 4000000 in
set_option maxRecDepth 100000 in
theorem cq_adjust (l : Launch) (D : va_G) (cI cC cE : ClassId) (A : Nat → Nat) (sz : Nat) (t : Td) (r0 : Int32) (t' : Td) (h : q_adjust  t = some (r0, t')) : Met l yX5_adjust wsX5_adjust ({ frames := 5, cells := 0, slots := 0, locals := 111 } : Room) (kP D (kT cI cC cE) [.ref (A 0)] (fl [tdW cI cC cE A t]) sz) (kQi D (kT cI cC cE) (fl [tdW cI cC cE A t]) (fl [tdW cI cC cE A t']) sz r0) 0 0 (va_A (fl [tdW cI cC cE A t]) sz) := by
  obtain ⟨r1, o_N, o_T, o_Hs, o_old, o_sze, h1, h2⟩ := ob6_el h
  obtain ⟨rfl, rfl⟩ := inj2 (Option.some.inj h2)
  exact kbFrameI [0, 1, 2, 4, 5, 6, 7, 8] [3, 9] (fl1 (tdW cI cC cE A t)).symm (fl1 (tdW cI cC cE A _)).symm (c_X5_adjust l D cI cC cE (A 0) (A 1) (A 3) (A 2) (a_N A) (a_T A) (a_S A) (a_H A) sz t.1 t.2.1 t.2.2.2.1 t.2.2.2.2.1 t.2.2.2.2.2.1 t.2.2.2.2.2.2.2.2.2.2.2.2.1 t.2.2.2.2.2.2.2.2.2.2.2.2.2.1 t.2.2.2.2.2.2.2.2.2.2.2.2.2.2  r1 o_N o_T o_Hs o_old o_sze h1) rfl rfl rfl rfl rfl rfl
def q_set (p1 : Int32) (p2 : Int32) (t : Td) : Option (Int32 × Td) := ob6 (d_X5_set p1 p2 t.1 t.2.1 t.2.2.2.1 t.2.2.2.2.1 t.2.2.2.2.2.1) fun r0 o_N o_T o_Hs o_old o_sze => some (r0, (o_N, o_T, t.2.2.1, o_Hs, o_old, o_sze, t.2.2.2.2.2.2.1, t.2.2.2.2.2.2.2.1, t.2.2.2.2.2.2.2.2.1, t.2.2.2.2.2.2.2.2.2.1, t.2.2.2.2.2.2.2.2.2.2.1, t.2.2.2.2.2.2.2.2.2.2.2.1, t.2.2.2.2.2.2.2.2.2.2.2.2.1, t.2.2.2.2.2.2.2.2.2.2.2.2.2.1, t.2.2.2.2.2.2.2.2.2.2.2.2.2.2))
set_option maxHeartbeats 4000000 in
set_option maxRecDepth 100000 in
theorem cq_set (l : Launch) (D : va_G) (cI cC cE : ClassId) (A : Nat → Nat) (sz : Nat) (t : Td) (p1 : Int32) (p2 : Int32) (r0 : Int32) (t' : Td) (h : q_set p1 p2 t = some (r0, t')) : Met l yX5_set wsX5_set ({ frames := 5, cells := 0, slots := 0, locals := 111 } : Room) (kP D (kT cI cC cE) [.ref (A 0), .int p1, .int p2] (fl [tdW cI cC cE A t]) sz) (kQi D (kT cI cC cE) (fl [tdW cI cC cE A t]) (fl [tdW cI cC cE A t']) sz r0) 0 0 (va_A (fl [tdW cI cC cE A t]) sz) := by
  obtain ⟨r1, o_N, o_T, o_Hs, o_old, o_sze, h1, h2⟩ := ob6_el h
  obtain ⟨rfl, rfl⟩ := inj2 (Option.some.inj h2)
  exact kbFrameI [0, 1, 2, 4, 5, 6, 7, 8] [3, 9] (fl1 (tdW cI cC cE A t)).symm (fl1 (tdW cI cC cE A _)).symm (c_X5_set l D cI cC cE (A 0) (A 1) (A 3) (A 2) (a_N A) (a_T A) (a_S A) (a_H A) sz t.1 t.2.1 t.2.2.2.1 t.2.2.2.2.1 t.2.2.2.2.2.1 t.2.2.2.2.2.2.2.2.2.2.2.2.1 t.2.2.2.2.2.2.2.2.2.2.2.2.2.1 t.2.2.2.2.2.2.2.2.2.2.2.2.2.2 p1 p2 r1 o_N o_T o_Hs o_old o_sze h1) rfl rfl rfl rfl rfl rfl
def q_pass (p1 : Int32) (t : Td) : Option (Int32 × Td) := ob6 (d_X5_pass p1 t.1 t.2.1 t.2.2.2.1 t.2.2.2.2.1 t.2.2.2.2.2.1) fun r0 o_N o_T o_Hs o_old o_sze => some (r0, (o_N, o_T, t.2.2.1, o_Hs, o_old, o_sze, t.2.2.2.2.2.2.1, t.2.2.2.2.2.2.2.1, t.2.2.2.2.2.2.2.2.1, t.2.2.2.2.2.2.2.2.2.1, t.2.2.2.2.2.2.2.2.2.2.1, t.2.2.2.2.2.2.2.2.2.2.2.1, t.2.2.2.2.2.2.2.2.2.2.2.2.1, t.2.2.2.2.2.2.2.2.2.2.2.2.2.1, t.2.2.2.2.2.2.2.2.2.2.2.2.2.2))
set_option maxHeartbeats 4000000 in
set_option maxRecDepth 100000 in
theorem cq_pass (l : Launch) (D : va_G) (cI cC cE : ClassId) (A : Nat → Nat) (sz : Nat) (t : Td) (p1 : Int32) (r0 : Int32) (t' : Td) (h : q_pass p1 t = some (r0, t')) : Met l yX5_pass wsX5_pass ({ frames := 6, cells := 0, slots := 0, locals := 139 } : Room) (kP D (kT cI cC cE) [.ref (A 0), .int p1] (fl [tdW cI cC cE A t]) sz) (kQi D (kT cI cC cE) (fl [tdW cI cC cE A t]) (fl [tdW cI cC cE A t']) sz r0) 0 0 (va_A (fl [tdW cI cC cE A t]) sz) := by
  obtain ⟨r1, o_N, o_T, o_Hs, o_old, o_sze, h1, h2⟩ := ob6_el h
  obtain ⟨rfl, rfl⟩ := inj2 (Option.some.inj h2)
  exact kbFrameI [0, 1, 2, 4, 5, 6, 7, 8] [3, 9] (fl1 (tdW cI cC cE A t)).symm (fl1 (tdW cI cC cE A _)).symm (c_X5_pass l D cI cC cE (A 0) (A 1) (A 3) (A 2) (a_N A) (a_T A) (a_S A) (a_H A) sz t.1 t.2.1 t.2.2.2.1 t.2.2.2.2.1 t.2.2.2.2.2.1 t.2.2.2.2.2.2.2.2.2.2.2.2.1 t.2.2.2.2.2.2.2.2.2.2.2.2.2.1 t.2.2.2.2.2.2.2.2.2.2.2.2.2.2 p1 r1 o_N o_T o_Hs o_old o_sze h1) rfl rfl rfl rfl rfl rfl
def q_type (p1 : Int32) (t : Td) : Option (Int32 × Td) := ob3 (d_X5_type p1 t.2.2.2.2.2.2.1 t.2.2.2.2.2.2.2.2.2.1) fun r0 o_ft o_len => some (r0, (t.1, t.2.1, t.2.2.1, t.2.2.2.1, t.2.2.2.2.1, t.2.2.2.2.2.1, o_ft, t.2.2.2.2.2.2.2.1, t.2.2.2.2.2.2.2.2.1, o_len, t.2.2.2.2.2.2.2.2.2.2.1, t.2.2.2.2.2.2.2.2.2.2.2.1, t.2.2.2.2.2.2.2.2.2.2.2.2.1, t.2.2.2.2.2.2.2.2.2.2.2.2.2.1, t.2.2.2.2.2.2.2.2.2.2.2.2.2.2))
set_option maxHeartbeats 4000000 in
set_option maxRecDepth 100000 in
theorem cq_type (l : Launch) (D : va_G) (cI cC cE : ClassId) (A : Nat → Nat) (sz : Nat) (t : Td) (p1 : Int32) (r0 : Int32) (t' : Td) (h : q_type p1 t = some (r0, t')) : Met l yX5_type wsX5_type ({ frames := 1, cells := 0, slots := 0, locals := 21 } : Room) (kP D (kT cI cC cE) [.ref (A 0), .int p1] (fl [tdW cI cC cE A t]) sz) (kQi D (kT cI cC cE) (fl [tdW cI cC cE A t]) (fl [tdW cI cC cE A t']) sz r0) 0 0 (va_A (fl [tdW cI cC cE A t]) sz) := by
  obtain ⟨r1, o_ft, o_len, h1, h2⟩ := ob3_el h
  obtain ⟨rfl, rfl⟩ := inj2 (Option.some.inj h2)
  exact kbFrameI [0, 9] [1, 2, 3, 4, 5, 6, 7, 8] (fl1 (tdW cI cC cE A t)).symm (fl1 (tdW cI cC cE A _)).symm (c_X5_type l D cI cC cE (A 0) (A 1) (A 3) (A 4) (A 5) (A 6) (a_N A) (a_T A) (a_S A) sz t.2.2.2.2.2.2.1 t.2.2.2.2.2.2.2.1 t.2.2.2.2.2.2.2.2.1 t.2.2.2.2.2.2.2.2.2.1 t.2.2.2.2.2.2.2.2.2.2.1 t.2.2.2.2.2.2.2.2.2.2.2.1 t.2.2.2.2.2.2.2.2.2.2.2.2.1 t.2.2.2.2.2.2.2.2.2.2.2.2.2.1 t.2.2.2.2.2.2.2.2.2.2.2.2.2.2 p1 r1 o_ft o_len h1) rfl rfl rfl rfl rfl rfl
def q_clearText (t : Td) : Option (Int32 × Td) := ob2 (some (d_X5_clearText t.2.2.2.2.2.2.2.2.2.1)) fun r0 o_len => some (r0, (t.1, t.2.1, t.2.2.1, t.2.2.2.1, t.2.2.2.2.1, t.2.2.2.2.2.1, t.2.2.2.2.2.2.1, t.2.2.2.2.2.2.2.1, t.2.2.2.2.2.2.2.2.1, o_len, t.2.2.2.2.2.2.2.2.2.2.1, t.2.2.2.2.2.2.2.2.2.2.2.1, t.2.2.2.2.2.2.2.2.2.2.2.2.1, t.2.2.2.2.2.2.2.2.2.2.2.2.2.1, t.2.2.2.2.2.2.2.2.2.2.2.2.2.2))
set_option maxHeartbeats 4000000 in
set_option maxRecDepth 100000 in
theorem cq_clearText (l : Launch) (D : va_G) (cI cC cE : ClassId) (A : Nat → Nat) (sz : Nat) (t : Td) (r0 : Int32) (t' : Td) (h : q_clearText  t = some (r0, t')) : Met l yX5_clearText wsX5_clearText ({ frames := 1, cells := 0, slots := 0, locals := 21 } : Room) (kP D (kT cI cC cE) [.ref (A 0)] (fl [tdW cI cC cE A t]) sz) (kQi D (kT cI cC cE) (fl [tdW cI cC cE A t]) (fl [tdW cI cC cE A t']) sz r0) 0 0 (va_A (fl [tdW cI cC cE A t]) sz) := by
  obtain ⟨r1, o_len, h1, h2⟩ := ob2_el h
  obtain ⟨rfl, rfl⟩ := inj2 (Option.some.inj h2)
  exact kbFrameI [0, 9] [1, 2, 3, 4, 5, 6, 7, 8] (fl1 (tdW cI cC cE A t)).symm (fl1 (tdW cI cC cE A _)).symm (c_X5_clearText l D cI cC cE (A 0) (A 1) (A 3) (A 4) (A 5) (A 6) (a_N A) (a_T A) (a_S A) sz t.2.2.2.2.2.2.1 t.2.2.2.2.2.2.2.1 t.2.2.2.2.2.2.2.2.1 t.2.2.2.2.2.2.2.2.2.1 t.2.2.2.2.2.2.2.2.2.2.1 t.2.2.2.2.2.2.2.2.2.2.2.1 t.2.2.2.2.2.2.2.2.2.2.2.2.1 t.2.2.2.2.2.2.2.2.2.2.2.2.2.1 t.2.2.2.2.2.2.2.2.2.2.2.2.2.2  r1 o_len (Option.some.inj h1)) rfl rfl rfl rfl rfl rfl
def q_perform (t : Td) : Option (Int32 × Td) := ob12 (d_X5_perform t.1 t.2.1 t.2.2.2.1 t.2.2.2.2.1 t.2.2.2.2.2.1 t.2.2.2.2.2.2.1 t.2.2.2.2.2.2.2.1 t.2.2.2.2.2.2.2.2.1 t.2.2.2.2.2.2.2.2.2.1 t.2.2.2.2.2.2.2.2.2.2.1 t.2.2.2.2.2.2.2.2.2.2.2.1 t.2.2.2.2.2.2.2.2.2.2.2.2.2.1 t.2.2.2.2.2.2.2.2.2.2.2.2.2.2) fun r0 o_N o_T o_Hs o_old o_sze o_fG o_rG o_pos o_bad o_stN o_stE => some (r0, (o_N, o_T, t.2.2.1, o_Hs, o_old, o_sze, t.2.2.2.2.2.2.1, o_fG, o_rG, t.2.2.2.2.2.2.2.2.2.1, o_pos, o_bad, t.2.2.2.2.2.2.2.2.2.2.2.2.1, o_stN, o_stE))
set_option maxHeartbeats 4000000 in
set_option maxRecDepth 100000 in
theorem cq_perform (l : Launch) (D : va_G) (cI cC cE : ClassId) (A : Nat → Nat) (sz : Nat) (t : Td) (r0 : Int32) (t' : Td) (h : q_perform  t = some (r0, t')) : Met l yX5_perform wsX5_perform ({ frames := 7, cells := 0, slots := 0, locals := 163 } : Room) (kP D (kT cI cC cE) [.ref (A 0)] (fl [tdW cI cC cE A t]) sz) (kQi D (kT cI cC cE) (fl [tdW cI cC cE A t]) (fl [tdW cI cC cE A t']) sz r0) 0 0 (va_A (fl [tdW cI cC cE A t]) sz) := by
  obtain ⟨r1, o_N, o_T, o_Hs, o_old, o_sze, o_fG, o_rG, o_pos, o_bad, o_stN, o_stE, h1, h2⟩ := ob12_el h
  obtain ⟨rfl, rfl⟩ := inj2 (Option.some.inj h2)
  exact kbFrameI [0, 1, 2, 4, 5, 6, 7, 8, 9] [3] (fl1 (tdW cI cC cE A t)).symm (fl1 (tdW cI cC cE A _)).symm (c_X5_perform l D cI cC cE (A 0) (A 1) (A 3) (A 2) (A 4) (A 5) (A 6) (a_N A) (a_T A) (a_S A) (a_H A) sz t.1 t.2.1 t.2.2.2.1 t.2.2.2.2.1 t.2.2.2.2.2.1 t.2.2.2.2.2.2.1 t.2.2.2.2.2.2.2.1 t.2.2.2.2.2.2.2.2.1 t.2.2.2.2.2.2.2.2.2.1 t.2.2.2.2.2.2.2.2.2.2.1 t.2.2.2.2.2.2.2.2.2.2.2.1 t.2.2.2.2.2.2.2.2.2.2.2.2.1 t.2.2.2.2.2.2.2.2.2.2.2.2.2.1 t.2.2.2.2.2.2.2.2.2.2.2.2.2.2  r1 o_N o_T o_Hs o_old o_sze o_fG o_rG o_pos o_bad o_stN o_stE h1) rfl rfl rfl rfl rfl rfl
def q_stopped (p1 : Int32) (t : Td) : Option Int32 := some (d_X5_stopped p1 t.2.2.2.2.2.2.2.2.2.2.2.2.2.1 t.2.2.2.2.2.2.2.2.2.2.2.2.2.2)
set_option maxHeartbeats 4000000 in
set_option maxRecDepth 100000 in
theorem cq_stopped (l : Launch) (D : va_G) (cI cC cE : ClassId) (A : Nat → Nat) (sz : Nat) (t : Td) (p1 : Int32) (r0 : Int32) (h : q_stopped p1 t = some r0) : Met l yX5_stopped wsX5_stopped ({ frames := 0, cells := 0, slots := 0, locals := 0 } : Room) (kP D (kT cI cC cE) [.ref (A 0), .int p1] (fl [tdW cI cC cE A t]) sz) (kQi D (kT cI cC cE) (fl [tdW cI cC cE A t]) (fl [tdW cI cC cE A t]) sz r0) 0 0 (va_A (fl [tdW cI cC cE A t]) sz) := by
  exact kbFrameI [0] [1, 2, 3, 4, 5, 6, 7, 8, 9] (fl1 (tdW cI cC cE A t)).symm (fl1 (tdW cI cC cE A t)).symm (c_X5_stopped l D cI cC cE (A 0) (A 1) (A 3) (a_N A) (a_T A) (a_S A) sz t.2.2.2.2.2.2.2.2.2.2.2.2.1 t.2.2.2.2.2.2.2.2.2.2.2.2.2.1 t.2.2.2.2.2.2.2.2.2.2.2.2.2.2 p1 r0 (Option.some.inj h)) rfl rfl rfl rfl rfl rfl
def q_undo (t : Td) : Option (Int32 × Td) := ob3 (some (d_X5_undo t.1 t.2.2.2.1 t.2.2.2.2.1 t.2.2.2.2.2.1)) fun r0 o_N o_sze => some (r0, (o_N, t.2.1, t.2.2.1, t.2.2.2.1, t.2.2.2.2.1, o_sze, t.2.2.2.2.2.2.1, t.2.2.2.2.2.2.2.1, t.2.2.2.2.2.2.2.2.1, t.2.2.2.2.2.2.2.2.2.1, t.2.2.2.2.2.2.2.2.2.2.1, t.2.2.2.2.2.2.2.2.2.2.2.1, t.2.2.2.2.2.2.2.2.2.2.2.2.1, t.2.2.2.2.2.2.2.2.2.2.2.2.2.1, t.2.2.2.2.2.2.2.2.2.2.2.2.2.2))
set_option maxHeartbeats 4000000 in
set_option maxRecDepth 100000 in
theorem cq_undo (l : Launch) (D : va_G) (cI cC cE : ClassId) (A : Nat → Nat) (sz : Nat) (t : Td) (r0 : Int32) (t' : Td) (h : q_undo  t = some (r0, t')) : Met l yX5_undo wsX5_undo ({ frames := 4, cells := 0, slots := 0, locals := 90 } : Room) (kP D (kT cI cC cE) [.ref (A 0)] (fl [tdW cI cC cE A t]) sz) (kQi D (kT cI cC cE) (fl [tdW cI cC cE A t]) (fl [tdW cI cC cE A t']) sz r0) 0 0 (va_A (fl [tdW cI cC cE A t]) sz) := by
  obtain ⟨r1, o_N, o_sze, h1, h2⟩ := ob3_el h
  obtain ⟨rfl, rfl⟩ := inj2 (Option.some.inj h2)
  exact kbFrameI [0, 1, 4, 5, 6, 7, 8] [2, 3, 9] (fl1 (tdW cI cC cE A t)).symm (fl1 (tdW cI cC cE A _)).symm (c_X5_undo l D cI cC cE (A 0) (A 1) (A 3) (A 2) (a_N A) (a_T A) (a_S A) (a_H A) sz t.1 t.2.2.2.1 t.2.2.2.2.1 t.2.2.2.2.2.1 t.2.2.2.2.2.2.2.2.2.2.2.2.1 t.2.2.2.2.2.2.2.2.2.2.2.2.2.1 t.2.2.2.2.2.2.2.2.2.2.2.2.2.2  r1 o_N o_sze (Option.some.inj h1)) rfl rfl rfl rfl rfl rfl
def q_keep (t : Td) : Option (Int32 × Td) := ob3 (some (d_X5_keep t.1 t.2.2.1 t.2.2.2.2.2.2.2.2.2.2.2.2.1)) fun r0 o_S o_hasS => some (r0, (t.1, t.2.1, o_S, t.2.2.2.1, t.2.2.2.2.1, t.2.2.2.2.2.1, t.2.2.2.2.2.2.1, t.2.2.2.2.2.2.2.1, t.2.2.2.2.2.2.2.2.1, t.2.2.2.2.2.2.2.2.2.1, t.2.2.2.2.2.2.2.2.2.2.1, t.2.2.2.2.2.2.2.2.2.2.2.1, o_hasS, t.2.2.2.2.2.2.2.2.2.2.2.2.2.1, t.2.2.2.2.2.2.2.2.2.2.2.2.2.2))
set_option maxHeartbeats 4000000 in
set_option maxRecDepth 100000 in
theorem cq_keep (l : Launch) (D : va_G) (cI cC cE : ClassId) (A : Nat → Nat) (sz : Nat) (t : Td) (r0 : Int32) (t' : Td) (h : q_keep  t = some (r0, t')) : Met l yX5_keep wsX5_keep ({ frames := 3, cells := 0, slots := 0, locals := 68 } : Room) (kP D (kT cI cC cE) [.ref (A 0)] (fl [tdW cI cC cE A t]) sz) (kQi D (kT cI cC cE) (fl [tdW cI cC cE A t]) (fl [tdW cI cC cE A t']) sz r0) 0 0 (va_A (fl [tdW cI cC cE A t]) sz) := by
  obtain ⟨r1, o_S, o_hasS, h1, h2⟩ := ob3_el h
  obtain ⟨rfl, rfl⟩ := inj2 (Option.some.inj h2)
  exact kbFrameI [0, 1, 3] [2, 4, 5, 6, 7, 8, 9] (fl1 (tdW cI cC cE A t)).symm (fl1 (tdW cI cC cE A _)).symm (c_X5_keep l D cI cC cE (A 0) (A 1) (A 3) (a_N A) (a_T A) (a_S A) sz t.1 t.2.2.1 t.2.2.2.2.2.2.2.2.2.2.2.2.1 t.2.2.2.2.2.2.2.2.2.2.2.2.2.1 t.2.2.2.2.2.2.2.2.2.2.2.2.2.2  r1 o_S o_hasS (Option.some.inj h1)) rfl rfl rfl rfl rfl rfl
def q_restore (t : Td) : Option (Int32 × Td) := ob6 (some (d_X5_restore t.1 t.2.1 t.2.2.1 t.2.2.2.1 t.2.2.2.2.1 t.2.2.2.2.2.1 t.2.2.2.2.2.2.2.2.2.2.2.2.1)) fun r0 o_N o_T o_Hs o_old o_sze => some (r0, (o_N, o_T, t.2.2.1, o_Hs, o_old, o_sze, t.2.2.2.2.2.2.1, t.2.2.2.2.2.2.2.1, t.2.2.2.2.2.2.2.2.1, t.2.2.2.2.2.2.2.2.2.1, t.2.2.2.2.2.2.2.2.2.2.1, t.2.2.2.2.2.2.2.2.2.2.2.1, t.2.2.2.2.2.2.2.2.2.2.2.2.1, t.2.2.2.2.2.2.2.2.2.2.2.2.2.1, t.2.2.2.2.2.2.2.2.2.2.2.2.2.2))
set_option maxHeartbeats 4000000 in
set_option maxRecDepth 100000 in
theorem cq_restore (l : Launch) (D : va_G) (cI cC cE : ClassId) (A : Nat → Nat) (sz : Nat) (t : Td) (r0 : Int32) (t' : Td) (h : q_restore  t = some (r0, t')) : Met l yX5_restore wsX5_restore ({ frames := 5, cells := 0, slots := 0, locals := 111 } : Room) (kP D (kT cI cC cE) [.ref (A 0)] (fl [tdW cI cC cE A t]) sz) (kQi D (kT cI cC cE) (fl [tdW cI cC cE A t]) (fl [tdW cI cC cE A t']) sz r0) 0 0 (va_A (fl [tdW cI cC cE A t]) sz) := by
  obtain ⟨r1, o_N, o_T, o_Hs, o_old, o_sze, h1, h2⟩ := ob6_el h
  obtain ⟨rfl, rfl⟩ := inj2 (Option.some.inj h2)
  exact kbFrameI [0, 1, 2, 3, 4, 5, 6, 7, 8] [9] (fl1 (tdW cI cC cE A t)).symm (fl1 (tdW cI cC cE A _)).symm (c_X5_restore l D cI cC cE (A 0) (A 1) (A 3) (A 2) (a_N A) (a_T A) (a_S A) (a_H A) sz t.1 t.2.1 t.2.2.1 t.2.2.2.1 t.2.2.2.2.1 t.2.2.2.2.2.1 t.2.2.2.2.2.2.2.2.2.2.2.2.1 t.2.2.2.2.2.2.2.2.2.2.2.2.2.1 t.2.2.2.2.2.2.2.2.2.2.2.2.2.2  r1 o_N o_T o_Hs o_old o_sze (Option.some.inj h1)) rfl rfl rfl rfl rfl rfl
def q_trader (p1 : Int32) (p2 : Int32) (t : Td) : Option Int32 := d_X5_trader p1 p2 t.1
set_option maxHeartbeats 4000000 in
set_option maxRecDepth 100000 in
theorem cq_trader (l : Launch) (D : va_G) (cI cC cE : ClassId) (A : Nat → Nat) (sz : Nat) (t : Td) (p1 : Int32) (p2 : Int32) (r0 : Int32) (h : q_trader p1 p2 t = some r0) : Met l yX5_trader wsX5_trader ({ frames := 3, cells := 0, slots := 0, locals := 71 } : Room) (kP D (kT cI cC cE) [.ref (A 0), .int p1, .int p2] (fl [tdW cI cC cE A t]) sz) (kQi D (kT cI cC cE) (fl [tdW cI cC cE A t]) (fl [tdW cI cC cE A t]) sz r0) 0 0 (va_A (fl [tdW cI cC cE A t]) sz) := by
  exact kbFrameI [0, 1] [2, 3, 4, 5, 6, 7, 8, 9] (fl1 (tdW cI cC cE A t)).symm (fl1 (tdW cI cC cE A t)).symm (c_X5_trader l D cI cC cE (A 0) (A 1) (A 3) (a_N A) (a_T A) (a_S A) sz t.1 t.2.2.2.2.2.2.2.2.2.2.2.2.1 t.2.2.2.2.2.2.2.2.2.2.2.2.2.1 t.2.2.2.2.2.2.2.2.2.2.2.2.2.2 p1 p2 r0 h) rfl rfl rfl rfl rfl rfl
def q_riddle (p1 : Int32) (p2 : Int32) (t : Td) : Option Int32 := d_X5_riddle p1 p2 t.1
set_option maxHeartbeats 4000000 in
set_option maxRecDepth 100000 in
theorem cq_riddle (l : Launch) (D : va_G) (cI cC cE : ClassId) (A : Nat → Nat) (sz : Nat) (t : Td) (p1 : Int32) (p2 : Int32) (r0 : Int32) (h : q_riddle p1 p2 t = some r0) : Met l yX5_riddle wsX5_riddle ({ frames := 3, cells := 0, slots := 0, locals := 71 } : Room) (kP D (kT cI cC cE) [.ref (A 0), .int p1, .int p2] (fl [tdW cI cC cE A t]) sz) (kQi D (kT cI cC cE) (fl [tdW cI cC cE A t]) (fl [tdW cI cC cE A t]) sz r0) 0 0 (va_A (fl [tdW cI cC cE A t]) sz) := by
  exact kbFrameI [0, 1] [2, 3, 4, 5, 6, 7, 8, 9] (fl1 (tdW cI cC cE A t)).symm (fl1 (tdW cI cC cE A t)).symm (c_X5_riddle l D cI cC cE (A 0) (A 1) (A 3) (a_N A) (a_T A) (a_S A) sz t.1 t.2.2.2.2.2.2.2.2.2.2.2.2.1 t.2.2.2.2.2.2.2.2.2.2.2.2.2.1 t.2.2.2.2.2.2.2.2.2.2.2.2.2.2 p1 p2 r0 h) rfl rfl rfl rfl rfl rfl
def q_answer (p1 : Int32) (p2 : Int32) (t : Td) : Option Int32 := d_X5_answer p1 p2 t.1
set_option maxHeartbeats 4000000 in
set_option maxRecDepth 100000 in
theorem cq_answer (l : Launch) (D : va_G) (cI cC cE : ClassId) (A : Nat → Nat) (sz : Nat) (t : Td) (p1 : Int32) (p2 : Int32) (r0 : Int32) (h : q_answer p1 p2 t = some r0) : Met l yX5_answer wsX5_answer ({ frames := 3, cells := 0, slots := 0, locals := 66 } : Room) (kP D (kT cI cC cE) [.ref (A 0), .int p1, .int p2] (fl [tdW cI cC cE A t]) sz) (kQi D (kT cI cC cE) (fl [tdW cI cC cE A t]) (fl [tdW cI cC cE A t]) sz r0) 0 0 (va_A (fl [tdW cI cC cE A t]) sz) := by
  exact kbFrameI [0, 1] [2, 3, 4, 5, 6, 7, 8, 9] (fl1 (tdW cI cC cE A t)).symm (fl1 (tdW cI cC cE A t)).symm (c_X5_answer l D cI cC cE (A 0) (A 1) (A 3) (a_N A) (a_T A) (a_S A) sz t.1 t.2.2.2.2.2.2.2.2.2.2.2.2.1 t.2.2.2.2.2.2.2.2.2.2.2.2.2.1 t.2.2.2.2.2.2.2.2.2.2.2.2.2.2 p1 p2 r0 h) rfl rfl rfl rfl rfl rfl
def q_waits (p1 : Int32) (t : Td) : Option Int32 := d_X5_waits p1 t.1
set_option maxHeartbeats 4000000 in
set_option maxRecDepth 100000 in
theorem cq_waits (l : Launch) (D : va_G) (cI cC cE : ClassId) (A : Nat → Nat) (sz : Nat) (t : Td) (p1 : Int32) (r0 : Int32) (h : q_waits p1 t = some r0) : Met l yX5_waits wsX5_waits ({ frames := 2, cells := 0, slots := 0, locals := 43 } : Room) (kP D (kT cI cC cE) [.ref (A 0), .int p1] (fl [tdW cI cC cE A t]) sz) (kQi D (kT cI cC cE) (fl [tdW cI cC cE A t]) (fl [tdW cI cC cE A t]) sz r0) 0 0 (va_A (fl [tdW cI cC cE A t]) sz) := by
  exact kbFrameI [0, 1] [2, 3, 4, 5, 6, 7, 8, 9] (fl1 (tdW cI cC cE A t)).symm (fl1 (tdW cI cC cE A t)).symm (c_X5_waits l D cI cC cE (A 0) (A 1) (A 3) (a_N A) (a_T A) (a_S A) sz t.1 t.2.2.2.2.2.2.2.2.2.2.2.2.1 t.2.2.2.2.2.2.2.2.2.2.2.2.2.1 t.2.2.2.2.2.2.2.2.2.2.2.2.2.2 p1 r0 h) rfl rfl rfl rfl rfl rfl
def q_weigh (p1 : Int32) (p2 : Int32) (t : Td) : Option Int32 := d_X5_weigh p1 p2 t.1
set_option maxHeartbeats 4000000 in
set_option maxRecDepth 100000 in
theorem cq_weigh (l : Launch) (D : va_G) (cI cC cE : ClassId) (A : Nat → Nat) (sz : Nat) (t : Td) (p1 : Int32) (p2 : Int32) (r0 : Int32) (h : q_weigh p1 p2 t = some r0) : Met l yX5_weigh wsX5_weigh ({ frames := 2, cells := 0, slots := 0, locals := 45 } : Room) (kP D (kT cI cC cE) [.ref (A 0), .int p1, .int p2] (fl [tdW cI cC cE A t]) sz) (kQi D (kT cI cC cE) (fl [tdW cI cC cE A t]) (fl [tdW cI cC cE A t]) sz r0) 0 0 (va_A (fl [tdW cI cC cE A t]) sz) := by
  exact kbFrameI [0, 1] [2, 3, 4, 5, 6, 7, 8, 9] (fl1 (tdW cI cC cE A t)).symm (fl1 (tdW cI cC cE A t)).symm (c_X5_weigh l D cI cC cE (A 0) (A 1) (A 3) (a_N A) (a_T A) (a_S A) sz t.1 t.2.2.2.2.2.2.2.2.2.2.2.2.1 t.2.2.2.2.2.2.2.2.2.2.2.2.2.1 t.2.2.2.2.2.2.2.2.2.2.2.2.2.2 p1 p2 r0 h) rfl rfl rfl rfl rfl rfl
def q_reason (p1 : Int32) (t : Td) : Option Int32 := d_X5_reason p1 t.1
set_option maxHeartbeats 4000000 in
set_option maxRecDepth 100000 in
theorem cq_reason (l : Launch) (D : va_G) (cI cC cE : ClassId) (A : Nat → Nat) (sz : Nat) (t : Td) (p1 : Int32) (r0 : Int32) (h : q_reason p1 t = some r0) : Met l yX5_reason wsX5_reason ({ frames := 3, cells := 0, slots := 0, locals := 70 } : Room) (kP D (kT cI cC cE) [.ref (A 0), .int p1] (fl [tdW cI cC cE A t]) sz) (kQi D (kT cI cC cE) (fl [tdW cI cC cE A t]) (fl [tdW cI cC cE A t]) sz r0) 0 0 (va_A (fl [tdW cI cC cE A t]) sz) := by
  exact kbFrameI [0, 1] [2, 3, 4, 5, 6, 7, 8, 9] (fl1 (tdW cI cC cE A t)).symm (fl1 (tdW cI cC cE A t)).symm (c_X5_reason l D cI cC cE (A 0) (A 1) (A 3) (a_N A) (a_T A) (a_S A) sz t.1 t.2.2.2.2.2.2.2.2.2.2.2.2.1 t.2.2.2.2.2.2.2.2.2.2.2.2.2.1 t.2.2.2.2.2.2.2.2.2.2.2.2.2.2 p1 r0 h) rfl rfl rfl rfl rfl rfl
def q_settledIn (p1 : Int32) (t : Td) : Option (Int32 × Td) := ob2 (d_X5_settledIn p1 t.1 t.2.1) fun r0 o_T => some (r0, (t.1, o_T, t.2.2.1, t.2.2.2.1, t.2.2.2.2.1, t.2.2.2.2.2.1, t.2.2.2.2.2.2.1, t.2.2.2.2.2.2.2.1, t.2.2.2.2.2.2.2.2.1, t.2.2.2.2.2.2.2.2.2.1, t.2.2.2.2.2.2.2.2.2.2.1, t.2.2.2.2.2.2.2.2.2.2.2.1, t.2.2.2.2.2.2.2.2.2.2.2.2.1, t.2.2.2.2.2.2.2.2.2.2.2.2.2.1, t.2.2.2.2.2.2.2.2.2.2.2.2.2.2))
set_option maxHeartbeats 4000000 in
set_option maxRecDepth 100000 in
theorem cq_settledIn (l : Launch) (D : va_G) (cI cC cE : ClassId) (A : Nat → Nat) (sz : Nat) (t : Td) (p1 : Int32) (r0 : Int32) (t' : Td) (h : q_settledIn p1 t = some (r0, t')) : Met l yX5_settledIn wsX5_settledIn ({ frames := 5, cells := 0, slots := 0, locals := 116 } : Room) (kP D (kT cI cC cE) [.ref (A 0), .int p1] (fl [tdW cI cC cE A t]) sz) (kQi D (kT cI cC cE) (fl [tdW cI cC cE A t]) (fl [tdW cI cC cE A t']) sz r0) 0 0 (va_A (fl [tdW cI cC cE A t]) sz) := by
  obtain ⟨r1, o_T, h1, h2⟩ := ob2_el h
  obtain ⟨rfl, rfl⟩ := inj2 (Option.some.inj h2)
  exact kbFrameI [0, 1, 2] [3, 4, 5, 6, 7, 8, 9] (fl1 (tdW cI cC cE A t)).symm (fl1 (tdW cI cC cE A _)).symm (c_X5_settledIn l D cI cC cE (A 0) (A 1) (A 3) (a_N A) (a_T A) (a_S A) sz t.1 t.2.1 t.2.2.2.2.2.2.2.2.2.2.2.2.1 t.2.2.2.2.2.2.2.2.2.2.2.2.2.1 t.2.2.2.2.2.2.2.2.2.2.2.2.2.2 p1 r1 o_T h1) rfl rfl rfl rfl rfl rfl
def q_ifRounds (p1 : Int32) (p2 : Int32) (t : Td) : Option (Int32 × Td) := ob2 (d_X5_ifRounds p1 p2 t.1 t.2.1) fun r0 o_T => some (r0, (t.1, o_T, t.2.2.1, t.2.2.2.1, t.2.2.2.2.1, t.2.2.2.2.2.1, t.2.2.2.2.2.2.1, t.2.2.2.2.2.2.2.1, t.2.2.2.2.2.2.2.2.1, t.2.2.2.2.2.2.2.2.2.1, t.2.2.2.2.2.2.2.2.2.2.1, t.2.2.2.2.2.2.2.2.2.2.2.1, t.2.2.2.2.2.2.2.2.2.2.2.2.1, t.2.2.2.2.2.2.2.2.2.2.2.2.2.1, t.2.2.2.2.2.2.2.2.2.2.2.2.2.2))
set_option maxHeartbeats 4000000 in
set_option maxRecDepth 100000 in
theorem cq_ifRounds (l : Launch) (D : va_G) (cI cC cE : ClassId) (A : Nat → Nat) (sz : Nat) (t : Td) (p1 : Int32) (p2 : Int32) (r0 : Int32) (t' : Td) (h : q_ifRounds p1 p2 t = some (r0, t')) : Met l yX5_ifRounds wsX5_ifRounds ({ frames := 5, cells := 0, slots := 0, locals := 116 } : Room) (kP D (kT cI cC cE) [.ref (A 0), .int p1, .int p2] (fl [tdW cI cC cE A t]) sz) (kQi D (kT cI cC cE) (fl [tdW cI cC cE A t]) (fl [tdW cI cC cE A t']) sz r0) 0 0 (va_A (fl [tdW cI cC cE A t]) sz) := by
  obtain ⟨r1, o_T, h1, h2⟩ := ob2_el h
  obtain ⟨rfl, rfl⟩ := inj2 (Option.some.inj h2)
  exact kbFrameI [0, 1, 2] [3, 4, 5, 6, 7, 8, 9] (fl1 (tdW cI cC cE A t)).symm (fl1 (tdW cI cC cE A _)).symm (c_X5_ifRounds l D cI cC cE (A 0) (A 1) (A 3) (a_N A) (a_T A) (a_S A) sz t.1 t.2.1 t.2.2.2.2.2.2.2.2.2.2.2.2.1 t.2.2.2.2.2.2.2.2.2.2.2.2.2.1 t.2.2.2.2.2.2.2.2.2.2.2.2.2.2 p1 p2 r1 o_T h1) rfl rfl rfl rfl rfl rfl
def q_richest (t : Td) : Option Int32 := d_X5_richest t.1
set_option maxHeartbeats 4000000 in
set_option maxRecDepth 100000 in
theorem cq_richest (l : Launch) (D : va_G) (cI cC cE : ClassId) (A : Nat → Nat) (sz : Nat) (t : Td) (r0 : Int32) (h : q_richest  t = some r0) : Met l yX5_richest wsX5_richest ({ frames := 2, cells := 0, slots := 0, locals := 45 } : Room) (kP D (kT cI cC cE) [.ref (A 0)] (fl [tdW cI cC cE A t]) sz) (kQi D (kT cI cC cE) (fl [tdW cI cC cE A t]) (fl [tdW cI cC cE A t]) sz r0) 0 0 (va_A (fl [tdW cI cC cE A t]) sz) := by
  exact kbFrameI [0, 1] [2, 3, 4, 5, 6, 7, 8, 9] (fl1 (tdW cI cC cE A t)).symm (fl1 (tdW cI cC cE A t)).symm (c_X5_richest l D cI cC cE (A 0) (A 1) (A 3) (a_N A) (a_T A) (a_S A) sz t.1 t.2.2.2.2.2.2.2.2.2.2.2.2.1 t.2.2.2.2.2.2.2.2.2.2.2.2.2.1 t.2.2.2.2.2.2.2.2.2.2.2.2.2.2  r0 h) rfl rfl rfl rfl rfl rfl
def q_account (p1 : Int32) (t : Td) : Option Int32 := d_X5_account p1 t.1
set_option maxHeartbeats 4000000 in
set_option maxRecDepth 100000 in
theorem cq_account (l : Launch) (D : va_G) (cI cC cE : ClassId) (A : Nat → Nat) (sz : Nat) (t : Td) (p1 : Int32) (r0 : Int32) (h : q_account p1 t = some r0) : Met l yX5_account wsX5_account ({ frames := 2, cells := 0, slots := 0, locals := 47 } : Room) (kP D (kT cI cC cE) [.ref (A 0), .int p1] (fl [tdW cI cC cE A t]) sz) (kQi D (kT cI cC cE) (fl [tdW cI cC cE A t]) (fl [tdW cI cC cE A t]) sz r0) 0 0 (va_A (fl [tdW cI cC cE A t]) sz) := by
  exact kbFrameI [0, 1] [2, 3, 4, 5, 6, 7, 8, 9] (fl1 (tdW cI cC cE A t)).symm (fl1 (tdW cI cC cE A t)).symm (c_X5_account l D cI cC cE (A 0) (A 1) (A 3) (a_N A) (a_T A) (a_S A) sz t.1 t.2.2.2.2.2.2.2.2.2.2.2.2.1 t.2.2.2.2.2.2.2.2.2.2.2.2.2.1 t.2.2.2.2.2.2.2.2.2.2.2.2.2.2 p1 r0 h) rfl rfl rfl rfl rfl rfl
def q_count (p1 : Int32) (t : Td) : Option Int32 := d_X5_count p1 t.1 t.2.2.2.2.2.1 t.2.2.2.2.2.2.2.2.2.1
set_option maxHeartbeats 4000000 in
set_option maxRecDepth 100000 in
theorem cq_count (l : Launch) (D : va_G) (cI cC cE : ClassId) (A : Nat → Nat) (sz : Nat) (t : Td) (p1 : Int32) (r0 : Int32) (h : q_count p1 t = some r0) : Met l yX5_count wsX5_count ({ frames := 3, cells := 0, slots := 0, locals := 68 } : Room) (kP D (kT cI cC cE) [.ref (A 0), .int p1] (fl [tdW cI cC cE A t]) sz) (kQi D (kT cI cC cE) (fl [tdW cI cC cE A t]) (fl [tdW cI cC cE A t]) sz r0) 0 0 (va_A (fl [tdW cI cC cE A t]) sz) := by
  exact kbFrameI [0, 1, 4, 9] [2, 3, 5, 6, 7, 8] (fl1 (tdW cI cC cE A t)).symm (fl1 (tdW cI cC cE A t)).symm (c_X5_count l D cI cC cE (A 0) (A 1) (A 3) (A 2) (A 4) (A 5) (A 6) (a_N A) (a_T A) (a_S A) (a_H A) sz t.1 t.2.2.2.2.1 t.2.2.2.2.2.1 t.2.2.2.2.2.2.1 t.2.2.2.2.2.2.2.1 t.2.2.2.2.2.2.2.2.1 t.2.2.2.2.2.2.2.2.2.1 t.2.2.2.2.2.2.2.2.2.2.1 t.2.2.2.2.2.2.2.2.2.2.2.1 t.2.2.2.2.2.2.2.2.2.2.2.2.1 t.2.2.2.2.2.2.2.2.2.2.2.2.2.1 t.2.2.2.2.2.2.2.2.2.2.2.2.2.2 p1 r0 h) rfl rfl rfl rfl rfl rfl
