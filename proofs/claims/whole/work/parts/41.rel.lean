/-! part 41: what the class's state and the model's row of numbers have in common -/
abbrev F_ : Type := Nat → Int32
def RT (fT s : F_) : Prop := (∀ t, t < 8 → s t = fT (2 * t)) ∧ (∀ t, t < 8 → s (8 + t) = fT (2 * t + 1)) ∧ s 486 = smI (fun t => fT (2 * t + 1)) (List.range' 0 8)
def RR (fR : F_) (nR : Nat) (s : F_) : Prop := nR ≤ 20 ∧ s 483 = nI nR ∧ ∀ r, r < 20 → s (16 + 5 * r) = fR (4 * r) ∧ s (16 + (5 * r + 1)) = fR (4 * r + 1) ∧ s (16 + (5 * r + 2)) = fR (4 * r + 2) ∧ s (16 + (5 * r + 3)) = fR (4 * r + 3)
def RA (fA : F_) (nA : Nat) (s : F_) : Prop := nA ≤ 40 ∧ s 484 = nI nA ∧ (∀ k, k < 320 → s (116 + k) = fA k) ∧ s 487 = smI (fun a => fA (8 * a + 6)) (List.range' 0 nA) ∧ s 489 = smI (fun a => fA (8 * a + 7)) (List.range' 0 nA)
def RP (fR fA : F_) (nR nA : Nat) (s : F_) : Prop := ∀ r, r < nR → (s (16 + (5 * r + 4)) = 0 ∧ ∀ a, a < nA → fA (8 * a + 1) = nI r → fA (8 * a + 4) ≠ 1) ∨ (fR (4 * r + 3) = 1 ∧ ∃ a, a < nA ∧ s (16 + (5 * r + 4)) = nI (a + 1) ∧ fA (8 * a + 1) = nI r ∧ fA (8 * a + 4) = 1 ∧ ∀ b, b < nA → fA (8 * b + 1) = nI r → fA (8 * b + 4) = 1 → b = a)
def RS (fS s : F_) : Prop := s 477 = fS 0 ∧ s 478 = fS 2 ∧ s 488 = fS 1 + fS 3
def RE (fE s : F_) : Prop := s 479 = fE 0 ∧ s 480 = fE 3 ∧ s 481 = fE 6 ∧ s 482 = fE 9
def RQ (ri : F_) (hd ln : Int32) (q : List Nat) (s : F_) : Prop := q.length ≤ 40 ∧ (∃ h, h < 40 ∧ hd = nI h ∧ ∀ k, k < q.length → ri ((h + k) % 40) = nI (q.getD k 0)) ∧ ln = nI q.length ∧ s 476 = nI q.length ∧ ∀ k, k < q.length → s (436 + k) = nI (q.getD k 0)
def IA (fA : F_) (nR nA : Nat) : Prop := ∀ a, a < nA → (∃ g, g < 8 ∧ fA (8 * a) = nI g) ∧ (∃ r, r < nR ∧ fA (8 * a + 1) = nI r) ∧ (∃ w, 1 ≤ w ∧ w ≤ 99 ∧ fA (8 * a + 3) = nI w) ∧ (fA (8 * a + 4) = 0 → (∃ d, d < 3 ∧ fA (8 * a + 6) = nI d) ∧ fA (8 * a + 7) = 0)
def IR (fR : F_) (nR : Nat) : Prop := ∀ r, r < nR → (∃ t, t < 8 ∧ fR (4 * r) = nI t) ∧ (∃ p, 1 ≤ p ∧ p ≤ 50 ∧ fR (4 * r + 1) = nI p)
def IW (fA : F_) (nA : Nat) (w : List Nat) : Prop := w.Nodup ∧ ∀ a, a ∈ w ↔ a < nA ∧ fA (8 * a + 4) = 0
def IE (fE : F_) : Prop := (∃ e, e ≤ 9 ∧ fE 0 = nI e) ∧ (∃ e, e ≤ 9 ∧ fE 3 = nI e) ∧ (∃ e, 1 ≤ e ∧ e ≤ 9 ∧ fE 6 = nI e) ∧ (∃ e, e ≤ 500 ∧ fE 9 = nI e) ∧ fE 1 = 0 ∧ fE 2 = 9 ∧ fE 4 = 0 ∧ fE 5 = 9 ∧ fE 7 = 1 ∧ fE 8 = 9 ∧ fE 10 = 0 ∧ fE 11 = 500
def ID (fS : F_) : Prop := (-9 ≤ (fS 0).toInt ∧ (fS 0).toInt ≤ 9) ∧ (-9 ≤ (fS 2).toInt ∧ (fS 2).toInt ≤ 9)
def IC (fT : F_) (lo hi : Int) : Prop := ∀ t, t < 8 → lo ≤ (fT (2 * t)).toInt ∧ (fT (2 * t)).toInt ≤ hi
def RM (fT fR fA fS fE : F_) (nR nA : Nat) (w : List Nat) (lo hi : Int) (s : F_) : Prop :=
  RT fT s ∧ RR fR nR s ∧ RA fA nA s ∧ RP fR fA nR nA s ∧ RS fS s ∧ RE fE s ∧ IA fA nR nA ∧ IR fR nR ∧ IW fA nA w ∧ IE fE ∧ ID fS ∧ IC fT lo hi
/-- the same but at the row that waits and the round -/
def Ag (s s' : F_) : Prop := ∀ j, j < 436 ∨ 476 < j → j ≠ 485 → s' j = s j
theorem RT.fr {fT s s' : F_} (g : ∀ j, j < 16 ∨ j = 486 → s' j = s j) (h : RT fT s) : RT fT s' :=
  ⟨fun t ht => by rw [g t (by omega)]; exact h.1 t ht, fun t ht => by rw [g (8 + t) (by omega)]; exact h.2.1 t ht, by rw [g 486 (by omega)]; exact h.2.2⟩
theorem RR.fr {fR : F_} {nR : Nat} {s s' : F_} (g : ∀ j, 16 ≤ j ∧ j < 116 ∨ j = 483 → s' j = s j) (h : RR fR nR s) : RR fR nR s' :=
  ⟨h.1, by rw [g 483 (by omega)]; exact h.2.1, fun r hr => by rw [g (16 + 5 * r) (by omega), g (16 + (5 * r + 1)) (by omega), g (16 + (5 * r + 2)) (by omega), g (16 + (5 * r + 3)) (by omega)]; exact h.2.2 r hr⟩
theorem RA.fr {fA : F_} {nA : Nat} {s s' : F_} (g : ∀ j, 116 ≤ j ∧ j < 436 ∨ j = 484 ∨ j = 487 ∨ j = 489 → s' j = s j) (h : RA fA nA s) : RA fA nA s' :=
  ⟨h.1, by rw [g 484 (by omega)]; exact h.2.1, fun k hk => by rw [g (116 + k) (by omega)]; exact h.2.2.1 k hk, by rw [g 487 (by omega)]; exact h.2.2.2.1, by rw [g 489 (by omega)]; exact h.2.2.2.2⟩
theorem RP.fr {fR fA : F_} {nR nA : Nat} {s s' : F_} (hn : nR ≤ 20) (g : ∀ j, 16 ≤ j ∧ j < 116 → s' j = s j) (h : RP fR fA nR nA s) : RP fR fA nR nA s' := by
  intro r hr
  rw [g (16 + (5 * r + 4)) (by omega)]
  exact h r hr
theorem RS.fr {fS s s' : F_} (g : ∀ j, j = 477 ∨ j = 478 ∨ j = 488 → s' j = s j) (h : RS fS s) : RS fS s' :=
  ⟨by rw [g 477 (by omega)]; exact h.1, by rw [g 478 (by omega)]; exact h.2.1, by rw [g 488 (by omega)]; exact h.2.2⟩
theorem RE.fr {fE s s' : F_} (g : ∀ j, 479 ≤ j ∧ j ≤ 482 → s' j = s j) (h : RE fE s) : RE fE s' :=
  ⟨by rw [g 479 (by omega)]; exact h.1, by rw [g 480 (by omega)]; exact h.2.1, by rw [g 481 (by omega)]; exact h.2.2.1, by rw [g 482 (by omega)]; exact h.2.2.2⟩
theorem RQ.fr {ri : F_} {hd ln : Int32} {q : List Nat} {s s' : F_} (g : ∀ j, 436 ≤ j ∧ j ≤ 476 → s' j = s j) (h : RQ ri hd ln q s) : RQ ri hd ln q s' := by
  obtain ⟨h1, h2, h3, h4, h5⟩ := h
  exact ⟨h1, h2, h3, by rw [g 476 (by omega)]; exact h4, fun k hk => by rw [g (436 + k) (by omega)]; exact h5 k hk⟩
theorem RM.fr {fT fR fA fS fE : F_} {nR nA : Nat} {w : List Nat} {lo hi : Int} {s s' : F_} (g : Ag s s') (h : RM fT fR fA fS fE nR nA w lo hi s) : RM fT fR fA fS fE nR nA w lo hi s' := by
  obtain ⟨hT, hR, hA, hP, hS, hE, h7⟩ := h
  exact ⟨hT.fr fun j hj => g j (by omega) (by omega), hR.fr fun j hj => g j (by omega) (by omega), hA.fr fun j hj => g j (by omega) (by omega), hP.fr hR.1 fun j hj => g j (by omega) (by omega), hS.fr fun j hj => g j (by omega) (by omega), hE.fr fun j hj => g j (by omega) (by omega), h7⟩
theorem IC.mono {fT : F_} {lo hi lo' hi' : Int} (h : IC fT lo hi) (h1 : lo' ≤ lo) (h2 : hi ≤ hi') : IC fT lo' hi' := fun t ht => ⟨Int.le_trans h1 (h t ht).1, Int.le_trans (h t ht).2 h2⟩
/-- the row: taking its head, adding at its end -/
theorem nlt40 {n : Nat} (h : n < 40) : ¬ (40 : Int32) ≤ nI n := nI_ge (b := 40) h (by decide)
theorem e_addLast {ri : F_} {hd ln p : Int32} {h n : Nat} (hh : hd = nI h) (hn : ln = nI n) (h1 : h < 40) (h2 : n < 40) : d_X3_addLast p ri hd ln = some (upd ri ((h + n) % 40) p, nI (n + 1)) := by
  subst hh; subst hn
  unfold d_X3_addLast
  rw [if_neg (nlt40 h2), nJ_add, nI_mod (by omega), if_neg (nI_pos (by omega)), if_neg (nlt40 (show (h + n) % 40 < 40 by omega)), g_wr ri p rfl (by omega) (by omega)]
  show some (_, nI n + nI 1) = _
  rw [nJ_add]
theorem e_queues {s : F_} {p : Int32} {n : Nat} (h : s 476 = nI n) (h2 : n < 40) : d_X6_queues p s = some (upd (upd s (436 + n) p) 476 (nI (n + 1))) := by
  unfold d_X6_queues
  rw [rd476, ob1_some, h, wrp436 h2, ob1_some, rd476, ob1_some, upd_ne (by omega), h, wr476]
  show some (upd _ _ (nI n + nI 1)) = _
  rw [nJ_add]
theorem getD_app_lt {q : List Nat} {a k : Nat} (h : k < q.length) : (q ++ [a]).getD k 0 = q.getD k 0 := by
  simp [List.getD, List.getElem?_append, h]
theorem getD_app_eq {q : List Nat} {a : Nat} : (q ++ [a]).getD q.length 0 = a := by
  simp [List.getD]
theorem RQ.add {ri : F_} {hd ln : Int32} {q : List Nat} {s : F_} {a : Nat} (h : RQ ri hd ln q s) (hl : q.length < 40) :
    ∃ (ri' : F_) (ln' : Int32) (s' : F_), d_X3_addLast (nI a) ri hd ln = some (ri', ln') ∧ d_X6_queues (nI a) s = some s' ∧ RQ ri' hd ln' (q ++ [a]) s' ∧ (∀ j, j < 436 ∨ 476 < j → s' j = s j) := by
  obtain ⟨h1, ⟨i, hi, hh, hr⟩, h3, h4, h5⟩ := h
  refine ⟨_, _, _, e_addLast hh h3 hi hl, e_queues h4 hl, ⟨by simp; omega, ⟨i, hi, hh, fun k hk => ?_⟩, by simp, by rw [upd_self]; simp, fun k hk => ?_⟩, fun j hj => ?_⟩
  · have hk' : k < q.length + 1 := by simpa using hk
    by_cases e : k = q.length
    · subst e; rw [upd_self, getD_app_eq]
    · rw [upd_ne (by omega), hr k (by omega), getD_app_lt (by omega)]
  · have hk' : k < q.length + 1 := by simpa using hk
    rw [upd_ne (by omega)]
    by_cases e : k = q.length
    · subst e; rw [upd_self, getD_app_eq]
    · rw [upd_ne (by omega), h5 k (by omega), getD_app_lt (by omega)]
  · rw [upd_ne (by omega), upd_ne (by omega)]
theorem e_at {ri : F_} {hd ln : Int32} {h n k : Nat} (hh : hd = nI h) (hn : ln = nI n) (h1 : h < 40) (h2 : n ≤ 40) (hk : k < n) : d_X3_at (nI k) ri hd ln = some (ri ((h + k) % 40)) := by
  subst hh; subst hn
  unfold d_X3_at
  rw [if_neg (nI_pos (by omega)), if_pos (nI_lt hk (by omega)), nJ_add, nI_mod (by omega), if_neg (nI_pos (by omega)), if_neg (nlt40 (show (h + k) % 40 < 40 by omega)), g_rd ri rfl (by omega) (by omega)]
  rfl
/-- the class's head of the row -/
theorem RQ.take {ri : F_} {hd ln : Int32} {q : List Nat} {s : F_} {a : Nat} (h : RQ ri hd ln (a :: q) s) :
    ∃ (hd' ln' : Int32), d_X3_takeFirst ri hd ln = some (nI a, hd', ln') ∧ s 436 = nI a ∧ ∀ s' : F_, s' 476 = nI q.length → (∀ k, k < q.length → s' (436 + k) = s (436 + (k + 1))) → RQ ri hd' ln' q s' := by
  obtain ⟨h1, ⟨i, hi, hh, hr⟩, h3, h4, h5⟩ := h
  have hl : q.length + 1 ≤ 40 := h1
  have hl0 : 0 < (a :: q).length := Nat.succ_pos _
  refine ⟨nI ((i + 1) % 40), nI q.length, ?_, ?_, fun s' g1 g2 => ⟨by omega, ⟨(i + 1) % 40, by omega, rfl, fun k hk => ?_⟩, rfl, g1, fun k hk => ?_⟩⟩
  · unfold d_X3_takeFirst
    rw [show (0 : Int32) = nI 0 from rfl, e_at hh h3 hi h1 hl0, ob1_some, hr 0 hl0, h3, if_neg, hh]
    · show some (nI a, nI i + nI 1 - (nI i + nI 1) / 40 * 40, nI (q.length + 1) - nI 1) = _
      rw [nJ_add, nI_mod (by omega), nI_sub (by omega)]
      rfl
    · exact nI_ge (show 0 < q.length + 1 by omega) (by omega)
  · exact h5 0 hl0
  · have := hr (k + 1) (Nat.succ_lt_succ hk)
    rw [show ((i + 1) % 40 + k) % 40 = (i + (k + 1)) % 40 by omega, this]
    rfl
  · rw [g2 k hk, h5 (k + 1) (Nat.succ_lt_succ hk)]
    rfl
