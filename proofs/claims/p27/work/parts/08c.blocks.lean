/-! worlds out of blocks -/
def fl : List va_W → va_W
  | [] => []
  | [b] => b
  | b :: c :: r => b ++ fl (c :: r)
theorem fl_cons (b : va_W) (r : List va_W) : fl (b :: r) = b ++ fl r := by
  cases r with
  | nil => show b = b ++ []; rw [List.append_nil]
  | cons c r => rfl
theorem fl_mem {q : Nat × va_E} : ∀ (bs : List va_W), q ∈ fl bs ↔ ∃ b ∈ bs, q ∈ b
  | [] => by simp [fl]
  | b :: r => by
    rw [fl_cons, List.mem_append, fl_mem r]
    simp
theorem va_P_iff {D : va_G} {cl : List vw_C} {ws : va_W} {H : Heap} : va_P D cl ws H ↔ ∀ q ∈ ws, va_at D cl q H := by
  constructor
  · intro h q hq
    obtain ⟨k, hk⟩ := List.getElem?_of_mem hq
    exact h k q hk
  · intro h k q hk
    exact h q (List.mem_of_getElem? hk)
def nd_ (ws : va_W) : Prop := ws.Pairwise (fun p q => p.1 ≠ q.1)
theorem va_D_iff {A : Nat → Prop} {ws : va_W} : va_D A ws ↔ nd_ ws ∧ ∀ q ∈ ws, A q.1 := by
  constructor
  · intro h
    refine ⟨List.pairwise_iff_getElem.mpr (fun i j hi hj hij e => ?_), fun q hq => ?_⟩
    · have := h.1 i j _ _ (List.getElem?_eq_getElem hi) (List.getElem?_eq_getElem hj) e
      omega
    · obtain ⟨k, hk⟩ := List.getElem?_of_mem hq
      exact h.2 k q hk
  · intro ⟨h1, h2⟩
    refine ⟨fun i j p q hp hq e => ?_, fun k q hk => h2 q (List.mem_of_getElem? hk)⟩
    obtain ⟨hi, hp⟩ := List.getElem?_eq_some_iff.mp hp
    obtain ⟨hj, hq⟩ := List.getElem?_eq_some_iff.mp hq
    rcases Nat.lt_trichotomy i j with h | h | h
    · exact absurd (by rw [hp, hq]; exact e) (List.pairwise_iff_getElem.mp h1 i j hi hj h)
    · exact h
    · exact absurd (by rw [hp, hq]; exact e.symm) (List.pairwise_iff_getElem.mp h1 j i hj hi h)
theorem nd_fl : ∀ (bs : List va_W), nd_ (fl bs) ↔ (∀ b ∈ bs, nd_ b) ∧ bs.Pairwise (fun b c => ∀ x ∈ b, ∀ y ∈ c, x.1 ≠ y.1)
  | [] => by simp [fl, nd_]
  | b :: r => by
    have ih := nd_fl r
    unfold nd_ at ih ⊢
    rw [fl_cons, List.pairwise_append, ih, List.pairwise_cons]
    constructor
    · rintro ⟨h1, ⟨h2, h3⟩, h4⟩
      refine ⟨fun c hc => ?_, fun c hc x hx y hy => h4 x hx y ((fl_mem r).mpr ⟨c, hc, hy⟩), h3⟩
      rcases List.mem_cons.mp hc with h | h
      · rw [h]; exact h1
      · exact h2 c h
    · rintro ⟨h1, h2, h3⟩
      refine ⟨h1 b List.mem_cons_self, ⟨fun c hc => h1 c (List.mem_cons_of_mem _ hc), h3⟩, fun x hx y hy => ?_⟩
      obtain ⟨c, hc, hy⟩ := (fl_mem r).mp hy
      exact h2 c hc x hx y hy
theorem bD_apart {A : Nat → Prop} {bs : List va_W} (h : va_D A (fl bs)) {i j : Nat} {b c : va_W} (hi : bs[i]? = some b) (hj : bs[j]? = some c) {x y : Nat × va_E} (hx : x ∈ b) (hy : y ∈ c) (e : x.1 = y.1) : i = j := by
  have h2 := ((nd_fl bs).mp (va_D_iff.mp h).1).2
  obtain ⟨hi2, rfl⟩ := List.getElem?_eq_some_iff.mp hi
  obtain ⟨hj2, rfl⟩ := List.getElem?_eq_some_iff.mp hj
  rcases Nat.lt_trichotomy i j with g | g | g
  · exact absurd e (List.pairwise_iff_getElem.mp h2 i j hi2 hj2 g x hx y hy)
  · exact g
  · exact absurd e.symm (List.pairwise_iff_getElem.mp h2 j i hj2 hi2 g y hy x hx)
theorem kb_ix {α : Type} {bs cs : List α} {isC : List Nat} (hC : isC.map (fun i => bs[i]?) = cs.map some) {i : Nat} (hi : i ∈ isC) : ∃ k : Nat, isC[k]? = some i ∧ bs[i]? = cs[k]? := by
  obtain ⟨k, hk⟩ := List.getElem?_of_mem hi
  refine ⟨k, hk, ?_⟩
  have h1 : (isC.map (fun i => bs[i]?))[k]? = some (bs[i]?) := by rw [List.getElem?_map, hk]; rfl
  rw [hC, List.getElem?_map] at h1
  cases hw : cs[k]? with
  | none => rw [hw] at h1; cases h1
  | some x => rw [hw] at h1; exact (Option.some.inj h1).symm
theorem kb_at {α : Type} {bs cs : List α} {isC : List Nat} (hC : isC.map (fun i => bs[i]?) = cs.map some) {k : Nat} {b : α} (hb : cs[k]? = some b) : ∃ i : Nat, isC[k]? = some i ∧ bs[i]? = some b := by
  have h1 : (isC.map (fun i => bs[i]?))[k]? = some (some b) := by rw [hC, List.getElem?_map, hb]; rfl
  rw [List.getElem?_map] at h1
  cases hi : isC[k]? with
  | none => rw [hi] at h1; cases h1
  | some i => rw [hi] at h1; exact ⟨i, rfl, Option.some.inj h1⟩
theorem kb_sub {bs cs : List va_W} {isC : List Nat} (hC : isC.map (fun i => bs[i]?) = cs.map some) {q : Nat × va_E} (hq : q ∈ fl cs) : q ∈ fl bs := by
  obtain ⟨b, hb, hq⟩ := (fl_mem cs).mp hq
  obtain ⟨k, hk⟩ := List.getElem?_of_mem hb
  obtain ⟨i, -, hi⟩ := kb_at hC hk
  exact (fl_mem bs).mpr ⟨b, List.mem_of_getElem? hi, hq⟩
theorem kb_D {A : Nat → Prop} {bs cs : List va_W} {isC : List Nat} (hC : isC.map (fun i => bs[i]?) = cs.map some) (hn : va_nd isC = true) (hD : va_D A (fl bs)) : va_D A (fl cs) := by
  have h0 := va_D_iff.mp hD
  refine va_D_iff.mpr ⟨(nd_fl cs).mpr ⟨fun b hb => ?_, List.pairwise_iff_getElem.mpr (fun i j hi hj hij x hx y hy e => ?_)⟩, fun q hq => h0.2 q (kb_sub hC hq)⟩
  · obtain ⟨k, hk⟩ := List.getElem?_of_mem hb
    obtain ⟨i, -, hi⟩ := kb_at hC hk
    exact ((nd_fl bs).mp h0.1).1 b (List.mem_of_getElem? hi)
  · obtain ⟨i', g1, g2⟩ := kb_at hC (List.getElem?_eq_getElem hi)
    obtain ⟨j', g3, g4⟩ := kb_at hC (List.getElem?_eq_getElem hj)
    have := bD_apart hD g2 g4 hx hy e
    subst this
    have := va_nd_inj isC hn i j i' g1 g3
    omega
theorem kb_free {A0 : Nat → Prop} {bs cs : List va_W} {H0 H : Heap} {locs : List Loc} {isC : List Nat} (hD : va_D A0 (fl bs)) (hS : va_S A0 H0 H locs) (hA : ∀ q, H0.size ≤ q → A0 q) (hC : isC.map (fun i => bs[i]?) = cs.map some) : ∀ q, va_A (fl cs) H.size q → A0 q := by
  intro q hq
  rcases hq with ⟨k, e, h⟩ | h
  · exact (va_D_iff.mp hD).2 (q, e) (kb_sub hC (List.mem_of_getElem? h))
  · exact hA q (Nat.le_trans hS.1 h)
theorem kb_back {A0 : Nat → Prop} {D : va_G} {cl : List vw_C} {bs cs cs' bs1 : List va_W} {H H1 : Heap} {isC isR : List Nat} (hP : va_P D cl (fl bs) H) (hD : va_D A0 (fl bs)) (hC : isC.map (fun i => bs[i]?) = cs.map some) (hC' : isC.map (fun i => bs1[i]?) = cs'.map some) (hR : isR.map (fun i => bs[i]?) = isR.map (fun i => bs1[i]?)) (hdis : (isR.all fun i => !isC.contains i) = true) (hcov : ((List.range bs1.length).all fun k => isC.contains k || isR.contains k) = true)
    (hk : ∀ q : Nat, q < H.size → ¬ va_A (fl cs) H.size q → H1[q]? = H[q]?) (hF : ∀ q, va_A (fl cs) H.size q → A0 q) (hP1 : va_P D cl (fl cs') H1) (hD1 : va_D (va_A (fl cs) H.size) (fl cs')) : va_P D cl (fl bs1) H1 ∧ va_D A0 (fl bs1) := by
  have hR' : ∀ i ∈ isR, bs1[i]? = bs[i]? := by
    intro i hi
    obtain ⟨k, hk⟩ := List.getElem?_of_mem hi
    have h1 : (isR.map (fun i => bs[i]?))[k]? = some (bs[i]?) := by rw [List.getElem?_map, hk]; rfl
    rw [hR, List.getElem?_map, hk] at h1
    exact Option.some.inj h1
  have nin : ∀ i ∈ isR, i ∉ isC := by
    intro i hi hc
    have := List.all_eq_true.mp hdis i hi
    simp [hc] at this
  have cov : ∀ (k : Nat) (b : va_W), bs1[k]? = some b → k ∈ isC ∨ k ∈ isR := by
    intro k q hq
    have hlt : k < bs1.length := (List.getElem?_eq_some_iff.mp hq).1
    have := List.all_eq_true.mp hcov k (List.mem_range.mpr hlt)
    simpa using this
  have hP' := va_P_iff.mp hP
  have hP1' := va_P_iff.mp hP1
  have hD' := va_D_iff.mp hD
  have hD1' := va_D_iff.mp hD1
  have n0 := (nd_fl bs).mp hD'.1
  have n1 := (nd_fl cs').mp hD1'.1
  have inb : ∀ {i : Nat} {b : va_W} {x : Nat × va_E}, bs[i]? = some b → x ∈ b → x ∈ fl bs := fun hi hx => (fl_mem bs).mpr ⟨_, List.mem_of_getElem? hi, hx⟩
  have apart : ∀ (i : Nat) (b : va_W) (x : Nat × va_E), i ∈ isR → bs1[i]? = some b → x ∈ b → x.1 < H.size ∧ ¬ va_A (fl cs) H.size x.1 := by
    intro i b x hi hb hx
    have h2 : bs[i]? = some b := by rw [← hR' i hi]; exact hb
    have hl := (hP' x (inb h2 hx)).lt
    refine ⟨hl, fun h => ?_⟩
    rcases h with ⟨k2, e, h⟩ | h
    · obtain ⟨c, hc, hq⟩ := (fl_mem cs).mp (List.mem_of_getElem? h)
      obtain ⟨k, hk⟩ := List.getElem?_of_mem hc
      obtain ⟨j, g1, g2⟩ := kb_at hC hk
      have := bD_apart hD h2 g2 hx hq rfl
      subst this
      exact nin i hi (List.mem_of_getElem? g1)
    · omega
  have inC : ∀ (i : Nat) (b : va_W), i ∈ isC → bs1[i]? = some b → ∃ k : Nat, isC[k]? = some i ∧ cs'[k]? = some b := by
    intro i q hi hq
    obtain ⟨k, h1, h2⟩ := kb_ix hC' hi
    exact ⟨k, h1, by rw [← h2]; exact hq⟩
  refine ⟨va_P_iff.mpr (fun x hx => ?_), va_D_iff.mpr ⟨(nd_fl bs1).mpr ⟨fun b hb => ?_, List.pairwise_iff_getElem.mpr (fun i j hi hj hij x hx z hz e => ?_)⟩, fun x hx => ?_⟩⟩
  · obtain ⟨b, hb, hx⟩ := (fl_mem bs1).mp hx
    obtain ⟨k, hk1⟩ := List.getElem?_of_mem hb
    rcases cov k b hk1 with h | h
    · obtain ⟨j, -, h2⟩ := inC k b h hk1
      exact hP1' x ((fl_mem cs').mpr ⟨b, List.mem_of_getElem? h2, hx⟩)
    · obtain ⟨g1, g2⟩ := apart k b x h hk1 hx
      have h2 : bs[k]? = some b := by rw [← hR' k h]; exact hk1
      exact (hP' x (inb h2 hx)).kept (hk x.1 g1 g2)
  · obtain ⟨k, hk1⟩ := List.getElem?_of_mem hb
    rcases cov k b hk1 with h | h
    · obtain ⟨j, -, h2⟩ := inC k b h hk1
      exact n1.1 b (List.mem_of_getElem? h2)
    · exact n0.1 b (List.mem_of_getElem? (by rw [← hR' k h]; exact hk1))
  · have hib := List.getElem?_eq_getElem hi
    have hjb := List.getElem?_eq_getElem hj
    rcases cov i _ hib with h | h
    · obtain ⟨k1, h1, h2⟩ := inC i _ h hib
      rcases cov j _ hjb with g | g
      · obtain ⟨k2, g1, g2⟩ := inC j _ g hjb
        have := bD_apart hD1 h2 g2 hx hz e
        subst this
        rw [h1] at g1
        cases g1
        omega
      · exact (apart j _ z g hjb hz).2 (by rw [← e]; exact hD1'.2 x ((fl_mem cs').mpr ⟨_, List.mem_of_getElem? h2, hx⟩))
    · rcases cov j _ hjb with g | g
      · obtain ⟨k2, g1, g2⟩ := inC j _ g hjb
        exact (apart i _ x h hib hx).2 (by rw [e]; exact hD1'.2 z ((fl_mem cs').mpr ⟨_, List.mem_of_getElem? g2, hz⟩))
      · have := bD_apart hD (by rw [← hR' i h]; exact hib) (by rw [← hR' j g]; exact hjb) hx hz e
        omega
  · obtain ⟨b, hb, hx⟩ := (fl_mem bs1).mp hx
    obtain ⟨k, hk1⟩ := List.getElem?_of_mem hb
    rcases cov k b hk1 with h | h
    · obtain ⟨j, -, h2⟩ := inC k b h hk1
      exact hF _ (hD1'.2 x ((fl_mem cs').mpr ⟨b, List.mem_of_getElem? h2, hx⟩))
    · exact hD'.2 x (inb (by rw [← hR' k h]; exact hk1) hx)
section KCALLB
variable {p : Program} {l : Launch} {e : Env} {R : Room} {s : State} {m : MethodId} {args : Array Value} {below : List Frame} {meth : Method} {c : Code} {H : Heap} {locs : List Loc} {cells slots : Nat} {Q : State → Prop}
variable {cc bytes : ByteArray} {pc nL maxL n index : Nat} {ls : Array Slot} {st0 rest As : List Value} {D : va_G} {tys : List (ClassId × FieldType)} {A0 : Nat → Prop} {H0 : Heap} {Ts wsy : List Cond} {own C : String} {y : MethodName} {ret : Option FieldType} {rm : Room} {bs cs cs' bs1 : List va_W} {b ci : Nat} {fs : List Value} {q : vw_C}
theorem kbi {r0 : Int32} (S : CallFix p m c cc nL s args Ts own) (isC isR : List Nat) (hM : Met l y wsy rm (kP D tys (.ref b :: As) (fl cs) H.size) (kQi D tys (fl cs) (fl cs') H.size r0) 0 0 (va_A (fl cs) H.size)) (cw : CallW R s args own C index y bytes maxL ret wsy rm 0 0 n)
    (hK : va_K D vwCl tys s) (hP : va_P D vwCl (fl bs) H) (hD : va_D A0 (fl bs)) (hS : va_S A0 H0 H locs) (hA : ∀ q, H0.size ≤ q → A0 q) (hC : isC.map (fun i => bs[i]?) = cs.map some) (hC' : isC.map (fun i => bs1[i]?) = cs'.map some) (hR : isR.map (fun i => bs[i]?) = isR.map (fun i => bs1[i]?)) (hdis : (isR.all fun i => !isC.contains i) = true) (hcov : ((List.range bs1.length).all fun k => isC.contains k || isR.contains k) = true) (hn2 : va_nd isC = true)
    (hq : vwCl[ci]? = some (C, q.2)) (hb0 : (fl cs)[0]? = some (b, .inr (ci, fs))) (hlen : As.length = n) (hsz : ls.size = nL) (hst : st0 = As.reverse ++ .ref b :: rest) (hroom : (rest.map fun v => v.category).sum ≤ 8) (hdg : decode cc pc = .ok (.invokevirtual index, 3)) (hcell : cells + 0 ≤ R.cells ∧ slots + 0 ≤ R.slots)
    (kk : ∀ (H1 : Heap) (locs1 : List Loc), va_P D vwCl (fl bs1) H1 → va_D A0 (fl bs1) → va_S A0 H0 H1 locs1 → W p l e R s m args below meth c H1 locs1 cells slots Q (F0 m (pc + 3) ls (.int r0 :: rest))) : W p l e R s m args below meth c H locs cells slots Q (F0 m pc ls st0) := by
  have hPc : va_P D vwCl (fl cs) H := va_P_iff.mpr (fun q hq => va_P_iff.mp hP q (kb_sub hC hq))
  have hDc := kb_D hC hn2 hD
  have hFc := kb_free hD hS hA hC
  refine va_calli (va_runV S hM cw ⟨kP_blind, va_recv hK hPc hq hb0, fun U hU hW => ⟨rfl, by rw [hU], by rw [hU]; exact hPc, va_K.moved hW.alike hK, hDc.weaken (fun _ _ _ _ => trivial)⟩⟩ rfl hlen hsz hst (lv_room hroom) hdg hcell) hS (fun q _ h => hFc q h) hFc ?_
  intro r u t H1 locs1 ht hvm hw1 hB hz1 hk1 hS1
  obtain ⟨hP1, hK1, hD1⟩ := hB
  rw [ht] at hP1
  obtain ⟨hP2, hD2⟩ := kb_back hP hD hC hC' hR hdis hcov hk1 hFc hP1 hD1
  subst hw1
  exact kk H1 locs1 hP2 hD2 hS1
theorem kbv (S : CallFix p m c cc nL s args Ts own) (isC isR : List Nat) (hM : Met l y wsy rm (kP D tys (.ref b :: As) (fl cs) H.size) (kQv D tys (fl cs) (fl cs') H.size) 0 0 (va_A (fl cs) H.size)) (cw : CallW R s args own C index y bytes maxL ret wsy rm 0 0 n)
    (hK : va_K D vwCl tys s) (hP : va_P D vwCl (fl bs) H) (hD : va_D A0 (fl bs)) (hS : va_S A0 H0 H locs) (hA : ∀ q, H0.size ≤ q → A0 q) (hC : isC.map (fun i => bs[i]?) = cs.map some) (hC' : isC.map (fun i => bs1[i]?) = cs'.map some) (hR : isR.map (fun i => bs[i]?) = isR.map (fun i => bs1[i]?)) (hdis : (isR.all fun i => !isC.contains i) = true) (hcov : ((List.range bs1.length).all fun k => isC.contains k || isR.contains k) = true) (hn2 : va_nd isC = true)
    (hq : vwCl[ci]? = some (C, q.2)) (hb0 : (fl cs)[0]? = some (b, .inr (ci, fs))) (hlen : As.length = n) (hsz : ls.size = nL) (hst : st0 = As.reverse ++ .ref b :: rest) (hroom : (rest.map fun v => v.category).sum ≤ 8) (hdg : decode cc pc = .ok (.invokevirtual index, 3)) (hcell : cells + 0 ≤ R.cells ∧ slots + 0 ≤ R.slots)
    (kk : ∀ (H1 : Heap) (locs1 : List Loc), va_P D vwCl (fl bs1) H1 → va_D A0 (fl bs1) → va_S A0 H0 H1 locs1 → W p l e R s m args below meth c H1 locs1 cells slots Q (F0 m (pc + 3) ls (rest))) : W p l e R s m args below meth c H locs cells slots Q (F0 m pc ls st0) := by
  have hPc : va_P D vwCl (fl cs) H := va_P_iff.mpr (fun q hq => va_P_iff.mp hP q (kb_sub hC hq))
  have hDc := kb_D hC hn2 hD
  have hFc := kb_free hD hS hA hC
  refine va_callv (va_runV S hM cw ⟨kP_blind, va_recv hK hPc hq hb0, fun U hU hW => ⟨rfl, by rw [hU], by rw [hU]; exact hPc, va_K.moved hW.alike hK, hDc.weaken (fun _ _ _ _ => trivial)⟩⟩ rfl hlen hsz hst (lv_room hroom) hdg hcell) hS (fun q _ h => hFc q h) hFc ?_
  intro u t H1 locs1 ht hvm hw1 hB hz1 hk1 hS1
  obtain ⟨hP1, hK1, hD1⟩ := hB
  rw [ht] at hP1
  obtain ⟨hP2, hD2⟩ := kb_back hP hD hC hC' hR hdis hcov hk1 hFc hP1 hD1
  
  exact kk H1 locs1 hP2 hD2 hS1
theorem kbr {r0 : Option Nat} (S : CallFix p m c cc nL s args Ts own) (isC isR : List Nat) (hM : Met l y wsy rm (kP D tys (.ref b :: As) (fl cs) H.size) (kQr D tys (fl cs) (fl cs') H.size r0) 0 0 (va_A (fl cs) H.size)) (cw : CallW R s args own C index y bytes maxL ret wsy rm 0 0 n)
    (hK : va_K D vwCl tys s) (hP : va_P D vwCl (fl bs) H) (hD : va_D A0 (fl bs)) (hS : va_S A0 H0 H locs) (hA : ∀ q, H0.size ≤ q → A0 q) (hC : isC.map (fun i => bs[i]?) = cs.map some) (hC' : isC.map (fun i => bs1[i]?) = cs'.map some) (hR : isR.map (fun i => bs[i]?) = isR.map (fun i => bs1[i]?)) (hdis : (isR.all fun i => !isC.contains i) = true) (hcov : ((List.range bs1.length).all fun k => isC.contains k || isR.contains k) = true) (hn2 : va_nd isC = true)
    (hq : vwCl[ci]? = some (C, q.2)) (hb0 : (fl cs)[0]? = some (b, .inr (ci, fs))) (hlen : As.length = n) (hsz : ls.size = nL) (hst : st0 = As.reverse ++ .ref b :: rest) (hroom : (rest.map fun v => v.category).sum ≤ 8) (hdg : decode cc pc = .ok (.invokevirtual index, 3)) (hcell : cells + 0 ≤ R.cells ∧ slots + 0 ≤ R.slots)
    (kk : ∀ (H1 : Heap) (locs1 : List Loc), va_P D vwCl (fl bs1) H1 → va_D A0 (fl bs1) → va_S A0 H0 H1 locs1 → W p l e R s m args below meth c H1 locs1 cells slots Q (F0 m (pc + 3) ls (va_rf r0 :: rest))) : W p l e R s m args below meth c H locs cells slots Q (F0 m pc ls st0) := by
  have hPc : va_P D vwCl (fl cs) H := va_P_iff.mpr (fun q hq => va_P_iff.mp hP q (kb_sub hC hq))
  have hDc := kb_D hC hn2 hD
  have hFc := kb_free hD hS hA hC
  refine va_callq (va_runV S hM cw ⟨kP_blind, va_recv hK hPc hq hb0, fun U hU hW => ⟨rfl, by rw [hU], by rw [hU]; exact hPc, va_K.moved hW.alike hK, hDc.weaken (fun _ _ _ _ => trivial)⟩⟩ rfl hlen hsz hst (lv_room hroom) hdg hcell) hS (fun q _ h => hFc q h) hFc ?_
  intro r u t H1 locs1 ht hvm hw1 hB hz1 hk1 hS1
  obtain ⟨hP1, hK1, hD1⟩ := hB
  rw [ht] at hP1
  obtain ⟨hP2, hD2⟩ := kb_back hP hD hC hC' hR hdis hcov hk1 hFc hP1 hD1
  subst hw1
  exact kk H1 locs1 hP2 hD2 hS1
end KCALLB
theorem Met.mono {l : Launch} {y : MethodName} {ws : List Cond} {rm : Room} {Pc Pc' : Array Value → State → Prop} {Qc Qc' : Array Value → State → Outcome → State → Prop} {mc ms : Nat} {free free' : Addr → Prop} (hM : Met l y ws rm Pc Qc mc ms free) (hP : ∀ a s, Pc' a s → Pc a s) (hQ : ∀ a s o t, Pc' a s → Qc a s o t → Qc' a s o t) (hf : ∀ q, free q → free' q) : Met l y ws rm Pc' Qc' mc ms free' := by
  intro p e ha hc hk s m args below hf' happ hp hk'
  obtain ⟨n, o, h1, h2, h3, h4, L, h5, h6⟩ := hM p e ha hc hk s m args below hf' happ (hP _ _ hp) trivial
  exact ⟨n, o, h1, h2, h3, hQ _ _ _ _ hp h4, L, h5, fun q hq => hf _ (h6 q hq)⟩
theorem kFrameI {l : Launch} {y : MethodName} {ws : List Cond} {rm : Room} {D : va_G} {tys : List (ClassId × FieldType)} {av : List Value} {wc wc' wb wb' : va_W} {sz : Nat} {r0 : Int32} (isC isR : List Nat) (hM : Met l y ws rm (kP D tys av wc sz) (kQi D tys wc wc' sz r0) 0 0 (va_A wc sz)) (hC : isC.map (fun i => wb[i]?) = wc.map some) (hC' : isC.map (fun i => wb'[i]?) = wc'.map some) (hR : isR.map (fun i => wb[i]?) = isR.map (fun i => wb'[i]?)) (hdis : (isR.all fun i => !isC.contains i) = true) (hcov : ((List.range wb'.length).all fun k => isC.contains k || isR.contains k) = true) (hn2 : va_nd isC = true) : Met l y ws rm (kP D tys av wb sz) (kQi D tys wb wb' sz r0) 0 0 (va_A wb sz) := by
  have hfree : ∀ q, va_A wc sz q → va_A wb sz q := by
    intro q hq
    rcases hq with ⟨k, e, h⟩ | h
    · obtain ⟨i, hi⟩ := k_at hC k (q, e) h
      exact Or.inl ⟨i, e, hi⟩
    · exact Or.inr h
  refine Met.mono hM ?_ ?_ hfree
  · rintro a s ⟨h1, h2, h3, h4, h5⟩
    exact ⟨h1, h2, k_sub h3 hC, h4, h5.sub isC hn2 hC⟩
  · rintro a s o t ⟨h1, h2, h3, h4, h5⟩ ⟨⟨r, u, ho, hr, hP1, hK1, hD1⟩, hF⟩
    subst h2
    obtain ⟨g1, g2⟩ := k_back h3 h5.self hC hC' hR hdis hcov hF.2 hfree hP1 hD1
    refine ⟨⟨r, u, ho, hr, g1, hK1, g2⟩, ?_⟩
    exact ⟨hF.1, fun q h6 h7 => hF.2 q h6 (fun h8 => h7 (hfree q h8))⟩
theorem kFrameV {l : Launch} {y : MethodName} {ws : List Cond} {rm : Room} {D : va_G} {tys : List (ClassId × FieldType)} {av : List Value} {wc wc' wb wb' : va_W} {sz : Nat} (isC isR : List Nat) (hM : Met l y ws rm (kP D tys av wc sz) (kQv D tys wc wc' sz) 0 0 (va_A wc sz)) (hC : isC.map (fun i => wb[i]?) = wc.map some) (hC' : isC.map (fun i => wb'[i]?) = wc'.map some) (hR : isR.map (fun i => wb[i]?) = isR.map (fun i => wb'[i]?)) (hdis : (isR.all fun i => !isC.contains i) = true) (hcov : ((List.range wb'.length).all fun k => isC.contains k || isR.contains k) = true) (hn2 : va_nd isC = true) : Met l y ws rm (kP D tys av wb sz) (kQv D tys wb wb' sz) 0 0 (va_A wb sz) := by
  have hfree : ∀ q, va_A wc sz q → va_A wb sz q := by
    intro q hq
    rcases hq with ⟨k, e, h⟩ | h
    · obtain ⟨i, hi⟩ := k_at hC k (q, e) h
      exact Or.inl ⟨i, e, hi⟩
    · exact Or.inr h
  refine Met.mono hM ?_ ?_ hfree
  · rintro a s ⟨h1, h2, h3, h4, h5⟩
    exact ⟨h1, h2, k_sub h3 hC, h4, h5.sub isC hn2 hC⟩
  · rintro a s o t ⟨h1, h2, h3, h4, h5⟩ ⟨⟨u, ho, hr, hP1, hK1, hD1⟩, hF⟩
    subst h2
    obtain ⟨g1, g2⟩ := k_back h3 h5.self hC hC' hR hdis hcov hF.2 hfree hP1 hD1
    refine ⟨⟨u, ho, hr, g1, hK1, g2⟩, ?_⟩
    exact ⟨hF.1, fun q h6 h7 => hF.2 q h6 (fun h8 => h7 (hfree q h8))⟩
