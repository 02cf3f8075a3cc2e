section
variable {x x' : Xs} {m m' : Ms} {n nr : Nat}
theorem vn_0 : vp_nar .boolean 0 = 0 := by decide +kernel
theorem vn_1 : vp_nar .boolean 1 = 1 := by decide +kernel
theorem TieW_empty {k : Nat} (T : TieW x n m nr) (hk : k + 1 < nr) (hn : n + 10 < 2 ^ 30) (hf : ¬ m.1 11 k = 0) : TieW (emptyX x n nr k).1 (emptyX x n nr k).2 (emptiesM m nr k) nr := by
  obtain ⟨⟨t1, t2, t3, t4, t5, t6, t7, t8, t9⟩, tA⟩ := T
  obtain ⟨f, hf9⟩ : ∃ f, nr = (k + 1) + (f + 1) := ⟨nr - k - 2, by omega⟩
  obtain ⟨l1, l2, l3, l4, l5, l6, l7⟩ := t9 k (by omega)
  have l6 := l6 hk
  unfold emptyX emptiesM
  rw [show nr - (k + 1) = f + 1 by omega, show nr + 1 - (k + 1) = f + 2 by omega, vn_0, xI_p (by decide), l1, l4]
  have e11 : ∀ j, (mI (mI m 11 k 0) 10 k (m.1 10 k + m.1 7 k)).1 11 j = if j = k then 0 else m.1 11 j := fun j => by
    rw [mI_p (by decide)]
    by_cases z : j = k
    · subst z; rw [if_pos rfl, mI_s]
    · rw [if_neg z, mI_k z]
  have e10 : ∀ j, (mI (mI m 11 k 0) 10 k (m.1 10 k + m.1 7 k)).1 10 j = if j = k then m.1 10 k + m.1 7 k else m.1 10 j := fun j => by
    by_cases z : j = k
    · subst z; rw [if_pos rfl, mI_s]
    · rw [if_neg z, mI_k z, mI_p (by decide)]
  have e5 : ∀ j, (xI x 5 k (m.1 10 k + m.1 7 k)).1 5 j = if j = k then m.1 10 k + m.1 7 k else x.1 5 j := fun j => by
    by_cases z : j = k
    · subst z; rw [if_pos rfl, xI_s]
    · rw [if_neg z, xI_k z]
  have eo : ∀ p j, p ≠ 11 → p ≠ 10 → (mI (mI m 11 k 0) 10 k (m.1 10 k + m.1 7 k)).1 p j = m.1 p j := fun p j h1 h2 => by rw [mI_p h2, mI_p h1]
  have xo : ∀ p j, p ≠ 5 → (xI x 5 k (m.1 10 k + m.1 7 k)).1 p j = x.1 p j := fun p j h => xI_p h
  refine TieW_send (a := k + 13) ⟨(xo _ _ (by decide)).trans t1, (eo _ _ (by decide) (by decide)).trans t2, t3, t4, fun j hj => ?_, t6.eq (fun _ _ => eo _ _ (by decide) (by decide)) (fun _ _ => eo _ _ (by decide) (by decide)), fun j a b => (eo _ _ (by decide) (by decide)).trans (t7 j a b), ⟨(xo _ _ (by decide)).trans t8.1, (eo _ _ (by decide) (by decide)).trans t8.2.1, t8.2.2.1, fun j hj => ?_⟩, fun j hj => ?_⟩ hf9.symm (by omega) (by omega) (by omega) (by omega) (fun z => ?_) (fun _ p hp => ?_)
  · rw [xo _ _ (by decide), eo _ _ (by decide) (by decide)]; exact t5 j hj
  · rw [xo _ _ (by decide), xo _ _ (by decide), xo _ _ (by decide), eo _ _ (by decide) (by decide), eo _ _ (by decide) (by decide), eo _ _ (by decide) (by decide)]; exact t8.2.2.2 j hj
  · rw [xo _ _ (by decide), xo _ _ (by decide), xo _ _ (by decide), e5, eo _ _ (by decide) (by decide), eo _ _ (by decide) (by decide), eo _ _ (by decide) (by decide), e10, e11]
    obtain ⟨u1, u2, u3, u4, u5, u6, u7⟩ := t9 j hj
    by_cases z : j = k
    · subst z
      rw [if_pos rfl, if_pos rfl, if_pos rfl]
      exact ⟨u1, u2, u3, rfl, Or.inl rfl, u6, fun z => absurd hk (by omega)⟩
    · rw [if_neg z, if_neg z, if_neg z]
      exact ⟨u1, u2, u3, u4, u5, u6, u7⟩
  · rw [i_le, i_0] at z; omega
  · rw [xo _ _ (by decide), tA p hp, amt_o (by decide) (fun z => by cases z), amt_full hp (by omega)]
    by_cases z : p = k + 13
    · subst z; rw [if_pos rfl, if_pos rfl, if_pos rfl, amt_ch, if_neg hf]; simp
    · rw [if_neg z, if_neg z]; simp
theorem TieW_fill {k : Nat} (T : TieW x n m nr) (hk : k + 1 < nr) (hn : n + 10 < 2 ^ 30) (hf : m.1 11 k = 0) (hv : (m.1 7 k).toInt ≤ (m.1 4 k).toInt) : TieW (fillX x n k).1 (fillX x n k).2 (fillsM m k) nr ∧ (fillX x n k).2 = n + 1 := by
  obtain ⟨⟨t1, t2, t3, t4, t5, t6, t7, t8, t9⟩, tA⟩ := T
  obtain ⟨l1, l2, l3, l4, l5, l6, l7⟩ := t9 k (by omega)
  have l6 := l6 hk
  have hL : ¬ m.1 7 k ≤ 0 := by rw [i_le, i_0]; omega
  have eX : fillX x n k = (sdX x n (nI k) (k + 3) (10 + nI k) (k + 13) (m.1 7 k), n + 1) := by
    unfold fillX sendO
    rw [l1, if_neg hL]
  rw [eX]
  have e4 : ∀ j, (fillsM m k).1 4 j = if j = k then m.1 4 k - m.1 7 k else m.1 4 j := fun j => by
    unfold fillsM
    rw [mI_p (by decide)]
    by_cases z : j = k
    · subst z; rw [if_pos rfl, mI_s, recM_4, recM_p (by decide) (by decide) (by decide) (by decide)]
    · rw [if_neg z, mI_k z, recM_4]
  have e11 : ∀ j, (fillsM m k).1 11 j = if j = k then 1 else m.1 11 j := fun j => by
    unfold fillsM
    by_cases z : j = k
    · subst z; rw [if_pos rfl, mI_s, vn_1]
    · rw [if_neg z, mI_k z, mI_p (by decide), recM_p (by decide) (by decide) (by decide) (by decide)]
  have eo : ∀ p j, p ≠ 0 ∧ p ≠ 4 ∧ p ≠ 11 ∧ p ≠ 25 ∧ p ≠ 26 ∧ p ≠ 27 → (fillsM m k).1 p j = m.1 p j := fun p j h => by
    unfold fillsM
    rw [mI_p h.2.2.1, mI_p h.2.1, recM_p h.1 h.2.2.2.1 h.2.2.2.2.1 h.2.2.2.2.2]
  have xo : ∀ p j, p ≠ 4 ∧ p ≠ 8 ∧ p ≠ 20 ∧ p ≠ 21 ∧ p ≠ 22 → (sdX x n (nI k) (k + 3) (10 + nI k) (k + 13) (m.1 7 k)).1 p j = x.1 p j := fun p j h => congrFun (sdX_p h) j
  have hR := (RwT_sd (a := k + 3) (b := k + 13) (u := nI k) (v := 10 + nI k) t8 hL (by omega))
  refine ⟨⟨⟨(xo _ _ (by decide)).trans t1, ?_, t3, t4, fun j hj => ?_, fun j hj => ?_, fun j a b => ?_, ?_, fun j hj => ?_⟩, ?_⟩, rfl⟩
  · unfold fillsM
    rw [mI_p (by decide), mI_p (by decide)]
    exact Eq.trans (recM_0 (by decide)) t2
  · rw [xo _ _ (by decide), eo _ _ (by decide)]; exact t5 j hj
  · rw [eo _ _ (by decide), e4]
    obtain ⟨a1, a2, a3, a4⟩ := t6 j hj
    by_cases z : j = k
    · subst z
      rw [if_pos rfl, i_sub (by omega) (by omega)]
      exact ⟨a1, a2, by omega, by omega⟩
    · rw [if_neg z]; exact ⟨a1, a2, a3, a4⟩
  · rw [e4, if_neg (by omega)]; exact t7 j a b
  · exact ((hR.mI (by decide) (by decide) (by decide) (fun z => by cases z.1)).mI (by decide) (by decide) (by decide) (fun z => by cases z.1))
  · rw [xo _ _ (by decide), xo _ _ (by decide), xo _ _ (by decide), xo _ _ (by decide), eo _ _ (by decide), eo _ _ (by decide), eo _ _ (by decide), eo _ _ (by decide), e11]
    obtain ⟨u1, u2, u3, u4, u5, u6, u7⟩ := t9 j hj
    by_cases z : j = k
    · subst z
      rw [if_pos rfl]
      exact ⟨u1, u2, u3, u4, Or.inr rfl, u6, fun z => absurd hk (by omega)⟩
    · rw [if_neg z]
      exact ⟨u1, u2, u3, u4, u5, u6, u7⟩
  · refine AmT_sd (m := mI m 4 k (m.1 4 k - m.1 7 k)) (a := k + 3) (fun p hp => ?_) (by omega) (by omega) (by omega) (fun p hp => ?_)
    · rw [tA p hp, amt_4 (by omega)]
      by_cases z : p = k + 3
      · subst z; rw [if_pos rfl, if_pos rfl, amt_k (by omega)]; grind
      · rw [if_neg z, if_neg z]; simp
    · unfold fillsM
      rw [amt_full hp (by omega), amt_4 (by omega), amt_4 (by omega), amt_rec, recM_4, mI_p (by decide), recM_p (by decide) (by decide) (by decide) (by decide), vn_1]
      by_cases z : p = k + 13
      · subst z
        rw [if_pos rfl, if_neg (by decide), if_neg (by omega), if_pos rfl, amt_ch, if_pos hf]
        simp
      · rw [if_neg z, if_neg z]; simp
end
