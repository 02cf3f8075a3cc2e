section
variable {x x' : Xs} {m m' : Ms} {n nr : Nat}
theorem amt_0 : amt m 0 = m.1 0 23 := rfl
theorem ewU_eq {k : Nat} (T : TieW x n m nr) (hk : k < nr) : ewU x k = (if m.1 3 k ≤ m.1 4 k then m.1 3 k else m.1 4 k) ∧ 0 ≤ (ewU x k).toInt ∧ (ewU x k).toInt ≤ (m.1 4 k).toInt := by
  have h6 := T.1.2.2.2.1
  have e4 : x.1 4 (k + 3) = m.1 4 k := by rw [T.2 (k + 3) (by omega), amt_k (by omega)]; simp
  have e2 := T.1.2.2.2.2.1 k (by omega)
  obtain ⟨a1, a2, v1, v2⟩ := T.1.2.2.2.2.2.1 k hk
  unfold ewU
  rw [e4, e2]
  by_cases h : m.1 4 k < m.1 3 k
  · rw [if_pos h, if_neg (Int32.not_le.mpr h)]
    exact ⟨rfl, v1, Int.le_refl _⟩
  · rw [if_neg h, if_pos (Int32.not_lt.mp h)]
    rw [i_lt] at h
    exact ⟨rfl, by omega, by omega⟩
theorem TieW_ew1 {k : Nat} (T : TieW x n m nr) (hk : k < nr) (hn : n + 1 < 2 ^ 30) : TieW (sendO x n (nI k) (k + 3) (-3) 0 (ewU x k)).1 (sendO x n (nI k) (k + 3) (-3) 0 (ewU x k)).2 (Mew1Fm m k) nr := by
  obtain ⟨eu, u0, u1⟩ := ewU_eq T hk
  have eM : Mew1Fm m k = mI (mI (recM m (nI k) (-3) (ewU x k)) 4 k (m.1 4 k - ewU x k)) 0 23 (m.1 0 23 + ewU x k) := by
    unfold Mew1Fm
    rw [← eu, recM_4, recM_0 (by decide)]
  obtain ⟨⟨t1, t2, t3, t4, t5, t6, t7, t8, t9⟩, tA⟩ := T
  rw [eM]
  generalize hU : ewU x k = w at *
  clear hU eu eM
  have e4 : ∀ j, (mI (mI (recM m (nI k) (-3) w) 4 k (m.1 4 k - w)) 0 23 (m.1 0 23 + w)).1 4 j = if j = k then m.1 4 k - w else m.1 4 j := fun j => by
    rw [mI_p (by decide)]
    by_cases z : j = k
    · subst z; rw [if_pos rfl, mI_s]
    · rw [if_neg z, mI_k z, recM_4]
  have eo : ∀ p j, p ≠ 0 ∧ p ≠ 4 ∧ p ≠ 25 ∧ p ≠ 26 ∧ p ≠ 27 → (mI (mI (recM m (nI k) (-3) w) 4 k (m.1 4 k - w)) 0 23 (m.1 0 23 + w)).1 p j = m.1 p j := fun p j h => by
    rw [mI_p h.1, mI_p h.2.1, recM_p h.1 h.2.2.1 h.2.2.2.1 h.2.2.2.2]
  have hV : VB (mI (mI (recM m (nI k) (-3) w) 4 k (m.1 4 k - w)) 0 23 (m.1 0 23 + w)) nr := fun j hj => by
    rw [eo _ _ (by decide), e4]
    obtain ⟨a1, a2, a3, a4⟩ := t6 j hj
    by_cases z : j = k
    · subst z
      rw [if_pos rfl, i_sub (by omega) (by omega)]
      exact ⟨a1, a2, by omega, by omega⟩
    · rw [if_neg z]; exact ⟨a1, a2, a3, a4⟩
  have hZ : VZ (mI (mI (recM m (nI k) (-3) w) 4 k (m.1 4 k - w)) 0 23 (m.1 0 23 + w)) nr := fun j a b => by
    rw [e4, if_neg (by omega)]; exact t7 j a b
  have h1 : (mI (mI (recM m (nI k) (-3) w) 4 k (m.1 4 k - w)) 0 23 (m.1 0 23 + w)).1 0 1 = nI nr := by
    rw [mI_k (by decide), mI_p (by decide), recM_0 (by decide)]; exact t2
  have hm : ∀ p, p < 18 → amt (mI (mI (recM m (nI k) (-3) w) 4 k (m.1 4 k - w)) 0 23 (m.1 0 23 + w)) p = amt (mI m 4 k (m.1 4 k - w)) p + if p = 0 then w else 0 := fun p hp => by
    rw [amt_air, amt_4 (by omega), amt_rec, amt_4 (by omega)]
    by_cases z : p = 0
    · subst z; rw [if_pos rfl, if_pos rfl, if_neg (by omega), amt_0]
    · rw [if_neg z, if_neg z]; simp
  have hA : AmT x (mI m 4 k (m.1 4 k - w)) (k + 3) w := fun p hp => by
    rw [tA p hp, amt_4 (by omega)]
    by_cases z : p = k + 3
    · subst z; rw [if_pos rfl, if_pos rfl, amt_k (by omega)]; grind
    · rw [if_neg z, if_neg z]; simp
  by_cases hw : w ≤ 0
  · have w0 : w = 0 := by rw [i_eq, i_0]; rw [i_le, i_0] at hw; omega
    have eS : sendO x n (nI k) (k + 3) (-3) 0 w = (x, n) := if_pos hw
    have hw1 : w < 1 := by rw [w0]; decide
    rw [eS]
    refine ⟨⟨t1, h1, t3, t4, fun j hj => by rw [eo _ _ (by decide)]; exact t5 j hj, hV, hZ, ?_, fun j hj => ?_⟩, fun p hp => ?_⟩
    · have er : recM m (nI k) (-3) w = m := if_pos hw1
      rw [er]
      exact (t8.mI (by decide) (by decide) (by decide) (fun z => by cases z.1)).mI (by decide) (by decide) (by decide) (fun z => by cases z.2)
    · rw [eo _ _ (by decide), eo _ _ (by decide), eo _ _ (by decide), eo _ _ (by decide), eo _ _ (by decide)]; exact t9 j hj
    · rw [hm p hp, hA p hp, w0]; simp
  · have eS : sendO x n (nI k) (k + 3) (-3) 0 w = (sdX x n (nI k) (k + 3) (-3) 0 w, n + 1) := if_neg hw
    rw [eS]
    have xo : ∀ p j, p ≠ 4 ∧ p ≠ 8 ∧ p ≠ 20 ∧ p ≠ 21 ∧ p ≠ 22 → (sdX x n (nI k) (k + 3) (-3) 0 w).1 p j = x.1 p j := fun p j h => congrFun (sdX_p h) j
    refine ⟨⟨(xo _ _ (by decide)).trans t1, h1, t3, t4, fun j hj => by rw [xo _ _ (by decide), eo _ _ (by decide)]; exact t5 j hj, hV, hZ, ?_, fun j hj => ?_⟩, AmT_sd hA (by omega) (by omega) (by omega) hm⟩
    · exact ((RwT_sd t8 hw hn).mI (by decide) (by decide) (by decide) (fun z => by cases z.1)).mI (by decide) (by decide) (by decide) (fun z => by cases z.2)
    · rw [xo _ _ (by decide), xo _ _ (by decide), xo _ _ (by decide), xo _ _ (by decide), eo _ _ (by decide), eo _ _ (by decide), eo _ _ (by decide), eo _ _ (by decide), eo _ _ (by decide)]; exact t9 j hj
theorem TieW_ew : ∀ (f : Nat) (x : Xs) (n : Nat) (m : Ms) (k : Nat), TieW x n m nr → k + f = nr → n + f + 10 < 2 ^ 30 → TieW (ewS f x n k).1 (ewS f x n k).2 (Mew1F f m k) nr
  | 0, x, n, m, k, T, _, _ => T
  | f + 1, x, n, m, k, T, hk, hn => by
    have h1 := TieW_ew1 T (show k < nr by omega) (by omega)
    have h2 : (sendO x n (nI k) (k + 3) (-3) 0 (ewU x k)).2 ≤ n + 1 := by unfold sendO; split <;> simp
    exact TieW_ew f _ _ _ (k + 1) h1 (by omega) (by omega)
end
