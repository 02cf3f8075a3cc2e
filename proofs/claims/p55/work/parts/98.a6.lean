section
variable {x x' : Xs} {m m' : Ms} {m9 : Mz} {n n' nr nb k b r : Nat}
theorem xL_s {w j : Nat} {o : Option Nat} : (xL x w j o).2.2.1 w j = o := up2_s (f := x.2.2.1) (p := w) (k := j) (v := o)
theorem xL_k {w j w' j' : Nat} {o : Option Nat} (h : ¬ (w' = w ∧ j' = j)) : (xL x w j o).2.2.1 w' j' = x.2.2.1 w' j' := by
  by_cases z : w' = w
  · subst z; exact up2_k (f := x.2.2.1) (p := w') (k := j) (v := o) (fun e => h ⟨rfl, e⟩)
  · exact congrFun (up2_p (f := x.2.2.1) (p := w) (k := j) (v := o) z) j'
theorem TieB_l0 (B : TieB x m nb) {o : Option Nat} (ho : ∀ j, o = some j → j < nb) : TieB (xL x 0 b o) (mI m 18 b (lkI o)) nb := by
  refine ⟨B.1, fun c hc => ?_⟩
  obtain ⟨e1, e2, e3, e4, f, e5, e6, e7⟩ := B.2 c hc
  rw [mI_p (q := 14) (by decide), mI_p (q := 15) (by decide), mI_p (q := 16) (by decide), mI_p (q := 17) (by decide), mI_p (q := 19) (by decide), xL_k (w' := 1) (by omega)]
  refine ⟨e1, e2, e3, e4, f, ?_, e6, fun w j h => ?_⟩
  · by_cases z : c = b
    · subst z; rw [xL_s, mI_s]
    · rw [xL_k (by omega), mI_k z]; exact e5
  · by_cases z : w = 0 ∧ c = b
    · obtain ⟨rfl, rfl⟩ := z
      rw [xL_s] at h; exact ho j h
    · rw [xL_k z] at h; exact e7 w j h
theorem TieB_l1 (B : TieB x m nb) {o : Option Nat} (ho : ∀ j, o = some j → j < nb) : TieB (xL x 1 b o) (mI m 19 b (lkI o)) nb := by
  refine ⟨B.1, fun c hc => ?_⟩
  obtain ⟨e1, e2, e3, e4, f, e5, e6, e7⟩ := B.2 c hc
  rw [mI_p (q := 14) (by decide), mI_p (q := 15) (by decide), mI_p (q := 16) (by decide), mI_p (q := 17) (by decide), mI_p (q := 18) (by decide), xL_k (w' := 0) (by omega)]
  refine ⟨e1, e2, e3, e4, f, e5, ?_, fun w j h => ?_⟩
  · by_cases z : c = b
    · subst z; rw [xL_s, mI_s]
    · rw [xL_k (by omega), mI_k z]; exact e6
  · by_cases z : w = 1 ∧ c = b
    · obtain ⟨rfl, rfl⟩ := z
      rw [xL_s] at h; exact ho j h
    · rw [xL_k z] at h; exact e7 w j h
theorem TieB_couple (B : TieB x m nb) {la fb : Nat} (h1 : la < nb) (h2 : fb < nb) : TieB (coupleX x la fb) (mI (mI (mI m 19 la (nI fb)) 18 fb (nI la)) 0 0 0) nb :=
  (TieB_l0 (TieB_l1 B (b := la) (o := some fb) (fun j h => by cases h; exact h2)) (b := fb) (o := some la) (fun j h => by cases h; exact h1)).meq (fun p hp j => mI_p (by omega))
theorem TieB_uncouple (B : TieB x m nb) {d k : Nat} : TieB (uncoupleX x d k) (mI (mI (mI m 19 d (-1)) 18 k (-1)) 0 0 0) nb :=
  (TieB_l0 (TieB_l1 B (b := d) (o := none) (fun j h => by cases h)) (b := k) (o := none) (fun j h => by cases h)).meq (fun p hp j => mI_p (by omega))
theorem TieB_add (B : TieB x m nb) (h8 : nb < 8) {L D T : Int32} (h1 : 5 ≤ L.toInt ∧ L.toInt ≤ 80) (h2 : 2 ≤ D.toInt ∧ D.toInt ≤ 20) (h3 : 1 ≤ T.toInt ∧ T.toInt ≤ 20) (h17 : m.1 17 nb = 0) (hw2 : ∀ w c, 2 ≤ w → x.2.2.1 w c = none) : TieB (nbX x nb L D T (nI k)) (addBargeM m k nb L D T) (nb + 1) := by
  refine ⟨by omega, fun c hc => ?_⟩
  have m14 : ∀ j, (addBargeM m k nb L D T).1 14 j = if j = nb then L else m.1 14 j := fun j => by simp only [addBargeM, up2]; simp
  have m15 : ∀ j, (addBargeM m k nb L D T).1 15 j = if j = nb then D else m.1 15 j := fun j => by simp only [addBargeM, up2]; simp
  have m16 : ∀ j, (addBargeM m k nb L D T).1 16 j = if j = nb then T else m.1 16 j := fun j => by simp only [addBargeM, up2]; simp
  have m17 : ∀ j, (addBargeM m k nb L D T).1 17 j = m.1 17 j := fun j => by simp only [addBargeM, up2]; simp
  have m18 : ∀ j, (addBargeM m k nb L D T).1 18 j = if j = nb then -1 else m.1 18 j := fun j => by simp only [addBargeM, up2]; simp
  have m19 : ∀ j, (addBargeM m k nb L D T).1 19 j = if j = nb then -1 else m.1 19 j := fun j => by simp only [addBargeM, up2]; simp
  rw [m14, m15, m16, m17, m18, m19]
  by_cases z : c = nb
  · subst z
    rw [if_pos rfl, if_pos rfl, if_pos rfl, if_pos rfl, if_pos rfl, h17]
    have er : (nbX x c L D T (nI k)).2.1 c = nbF L D T (nI k) := up1_s (f := x.2.1) (p := c) (v := nbF L D T (nI k))
    have e0 : ∀ w, w < 2 → (nbX x c L D T (nI k)).2.2.1 w c = none := fun w hw => by
      show up2 (up2 x.2.2.1 0 c none) 1 c none w c = none
      rcases (show w = 0 ∨ w = 1 by omega) with q | q <;> subst q <;> simp [up2]
    rw [er, e0 0 (by omega), e0 1 (by omega)]
    refine ⟨rfl, rfl, rfl, rfl, ⟨h1.1, h1.2, h2.1, h2.2, h3.1, h3.2, by rw [i_0]; omega, by rw [i_0]; omega⟩, rfl, rfl, fun w j h => ?_⟩
    by_cases hw : w < 2
    · rw [e0 w hw] at h; cases h
    · have e2 : (nbX x c L D T (nI k)).2.2.1 w c = x.2.2.1 w c := by
        show up2 (up2 x.2.2.1 0 c none) 1 c none w c = _
        rw [up2_p (by omega), up2_p (by omega)]
      rw [e2, hw2 w c (by omega)] at h
      cases h
  · have hb : c < nb := by omega
    obtain ⟨e1, e2, e3, e4, f, e5, e6, e7⟩ := B.2 c hb
    rw [if_neg z, if_neg z, if_neg z, if_neg z, if_neg z]
    have er : (nbX x nb L D T (nI k)).2.1 c = x.2.1 c := up1_n (f := x.2.1) (p := nb) (v := nbF L D T (nI k)) z
    have e0 : ∀ w, (nbX x nb L D T (nI k)).2.2.1 w c = x.2.2.1 w c := fun w => by
      show up2 (up2 x.2.2.1 0 nb none) 1 nb none w c = _
      by_cases w1 : w = 1
      · subst w1; rw [up2_k z, up2_p (by decide)]
      · rw [up2_p w1]
        by_cases w0 : w = 0
        · subst w0; rw [up2_k z]
        · rw [up2_p w0]
    rw [er, e0 0, e0 1]
    exact ⟨e1, e2, e3, e4, f, e5, e6, fun w j h => by rw [e0 w] at h; have := e7 w j h; omega⟩
end
