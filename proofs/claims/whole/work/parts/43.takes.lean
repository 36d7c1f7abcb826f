/-! part 43: the model takes one answer -/
def dbM (s : F_) (a d : Nat) : F_ := upd (upd (wgM s) (116 + (8 * a + 6)) (nI (d + 1))) 487 (s 487 + 1)
def pyA (s : F_) (a r t g : Nat) (P : Int32) : F_ := upd (upd (upd (upd (upd (pyM (wgM s) t g P) 489 (s 489 + P)) (116 + (8 * a + 4)) 1) (116 + (8 * a + 7)) P) (16 + (5 * r + 3)) 1) (16 + (5 * r + 4)) (nI (a + 1))
theorem e_takes {s : F_} {a r w t g d : Nat} (h : MO s a r w t g) (hd : s (116 + (8 * a + 6)) = nI d) (h3 : d < 3) (P : Int32) (hP : P = pm (s (16 + (5 * r + 1))) (tl (nI w + s 477)) (tl (nI w + s 478))) :
    d_X6_takes (nI a) s =
    if s (16 + (5 * r + 3)) = 0 then if s (16 + (5 * r + 2)) = s (116 + (8 * a + 2)) then if ab (tl (nI w + s 477) - tl (nI w + s 478)) ≤ s 479 then if s t - P < -(s 482)
      then d_X6_queues (nI a) (wgM s)
      else some (pyA s a r t g P)
      else if d = 2 then some (upd (upd (dbM s a d) (116 + (8 * a + 4)) 2) (116 + (8 * a + 5)) 3)
        else d_X6_queues (nI a) (dbM s a d)
      else some (upd (upd s (116 + (8 * a + 4)) 2) (116 + (8 * a + 5)) 2)
      else some (upd (upd s (116 + (8 * a + 4)) 2) (116 + (8 * a + 5)) 1) := by
  have h0 := h
  obtain ⟨ha, hr, ht, hg, h1, h2, h3', h4⟩ := h
  unfold d_X6_takes
  rw [rdA1 ha, ob1_some, h2, rdR3 hr, ob1_some]
  by_cases c1 : s (16 + (5 * r + 3)) = 0
  · rw [if_pos c1, if_pos c1, rdR2 hr, ob1_some, rdA2 ha, ob1_some]
    by_cases c2 : s (16 + (5 * r + 2)) = s (116 + (8 * a + 2))
    · rw [if_pos c2, if_pos c2, rdA3 ha, ob1_some, h3', e_tells0, ob1_some, e_drifts0, ob1_some, rdA3 ha, ob1_some, upd_ne (by omega), h3', e_tells1, ob1_some, e_drifts1, ob1_some, rd488, ob1_some, wr488, ob1_some, rd479, ob1_some]
      simp only [upd_ne (show (478 : Nat) ≠ 477 by decide), upd_ne (show (480 : Nat) ≠ 477 by decide), upd_ne (show (488 : Nat) ≠ 478 by decide), upd_ne (show (488 : Nat) ≠ 477 by decide), upd_ne (show (479 : Nat) ≠ 488 by decide), upd_ne (show (479 : Nat) ≠ 478 by decide), upd_ne (show (479 : Nat) ≠ 477 by decide), size_ab]
      obtain ⟨W, hW⟩ : ∃ W, W = wgM s := ⟨_, rfl⟩
      have hW' : upd (upd (upd s 477 (dr (s 477 + 1) (s 480))) 478 (dr (s 478 + (-1)) (s 480))) 488 (s 488 + 2) = W := hW.symm
      rw [hW']
      have hn : ∀ j, j ≠ 477 ∧ j ≠ 478 ∧ j ≠ 488 → W j = s j := fun j hj => by rw [hW]; exact wgM_ne hj
      have hM : MO W a r w t g := ⟨ha, hr, ht, hg, by rw [hn _ (by omega)]; exact h1, by rw [hn _ (by omega)]; exact h2, by rw [hn _ (by omega)]; exact h3', by rw [hn _ (by omega)]; exact h4⟩
      by_cases c3 : ab (tl (nI w + s 477) - tl (nI w + s 478)) ≤ s 479
      · rw [if_pos c3, if_pos c3, e_payment hM, ob1_some, hn (16 + (5 * r + 1)) (by omega), ← hP, e_canPay hM, ob1_some, hn t (by omega), hn 482 (by omega)]
        by_cases c4 : s t - P < -(s 482)
        · rw [if_pos c4, if_pos rfl, if_pos c4, hW]
          cases d_X6_queues (nI a) (wgM s) <;> rfl
        · rw [if_neg c4, if_neg (by decide), if_neg c4, rdR0 hr, ob1_some, hM.2.2.2.2.2.2.2, rdp0 ht, ob1_some, wrp0 ht, ob1_some, rdA0 ha, ob1_some, upd_ne (show 116 + 8 * a ≠ t by omega), hM.2.2.2.2.1, rdp0 hg, ob1_some, wrp0 hg, ob1_some, rd489, ob1_some, wr489, ob1_some, wrA4 ha, ob1_some, wrA7 ha, ob1_some, wrR3 hr, ob1_some, wrR4 hr, ob1_some]
          rw [show nI a + 1 = nI (a + 1) from nJ_add a 1, upd_ne (show (489 : Nat) ≠ g by omega), upd_ne (show (489 : Nat) ≠ t by omega), hn 489 (by decide), hW]
          rfl
      · rw [if_neg c3, if_neg c3, rdA6 ha, ob1_some, hn _ (by omega), hd, wrA6 ha, ob1_some, rd487, ob1_some, wr487, ob1_some, rdA6 ha, ob1_some, upd_ne (show 116 + (8 * a + 6) ≠ 487 by omega), upd_self, upd_ne (show (487 : Nat) ≠ 116 + (8 * a + 6) by omega), hn 487 (by decide), show nI d + 1 = nI (d + 1) from nJ_add d 1, hW]
        by_cases c5 : d = 2
        · subst c5
          rw [if_pos (show nI (2 + 1) = (3 : Int32) from rfl), if_pos rfl, e_refuses ha, ob1_some]
          rfl
        · rw [if_neg c5, if_neg]
          · show ob1 (d_X6_queues (nI a) (dbM s a d)) _ = _
            cases d_X6_queues (nI a) (dbM s a d) <;> rfl
          · intro q
            have q' : nI (d + 1) = nI 3 := q
            rw [nI_inj (by omega) (by decide)] at q'
            omega
    · rw [if_neg c2, if_neg c2, e_refuses ha, ob1_some]
  · rw [if_neg c1, if_neg c1, e_refuses ha, ob1_some]
