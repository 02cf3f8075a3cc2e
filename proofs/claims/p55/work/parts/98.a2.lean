section
variable {x x' : Xs} {m m' : Ms} {m9 : Mz} {n nr : Nat}
theorem x4_eq (T : TieW x n m nr) {k : Nat} (hk : k < nr) : x.1 4 (k + 3) = m.1 4 k := by
  have h6 := T.1.2.2.2.1
  rw [T.2 (k + 3) (by omega), amt_k (by omega)]; simp
theorem x13_eq (T : TieW x n m nr) {k : Nat} (hk : k < 5) : x.1 4 (k + 13) = if m.1 11 k = 0 then 0 else m.1 7 k := by
  rw [T.2 (k + 13) (by omega), amt_ch]; simp
theorem x210_eq (T : TieW x n m nr) : x.1 4 2 = - m.1 0 21 ∧ x.1 4 1 = m.1 0 22 ∧ x.1 4 0 = m.1 0 23 := by
  refine ⟨?_, ?_, ?_⟩
  · rw [T.2 2 (by omega)]; show - m.1 0 21 + _ = _; simp
  · rw [T.2 1 (by omega)]; show m.1 0 22 + _ = _; simp
  · rw [T.2 0 (by omega)]; show m.1 0 23 + _ = _; simp
theorem held1_eq (T : TieW x n m nr) : ∀ (f : Nat) (a : Int32) (k : Nat), k + f ≤ nr → Xheld1F f m9 x a k = Mheld1F f m a k
  | 0, _, _, _ => rfl
  | f + 1, a, k, h => by
    show Xheld1F f m9 x (a + x.1 4 (k + 3)) (k + 1) = Mheld1F f m (a + m.1 4 k) (k + 1)
    rw [x4_eq T (show k < nr by omega)]
    exact held1_eq T f _ _ (by omega)
theorem held2_0 (T : TieW x n m nr) : ∀ (g : Nat) (a : Int32) (k : Nat), nr ≤ k + 1 → k + g = 5 → Mheld2F g m a k = a
  | 0, _, _, _, _ => rfl
  | g + 1, a, k, h, hg => by
    show Mheld2F g m (a + (if m.1 11 k = 0 then 0 else m.1 7 k)) (k + 1) = a
    rw [if_pos ((T.1.2.2.2.2.2.2.2.2 k (by omega)).2.2.2.2.2.2 h).1, Int32.add_zero]
    exact held2_0 T g a (k + 1) (by omega) (by omega)
theorem held2_eq (T : TieW x n m nr) : ∀ (f g : Nat) (a : Int32) (k : Nat), k + f + 1 = nr → k + g = 5 → Xheld2F f m9 x a k = Mheld2F g m a k
  | 0, g, a, k, h, hg => (held2_0 T g a k (by omega) hg).symm
  | f + 1, 0, a, k, h, hg => by
    have h6 := T.1.2.2.2.1
    omega
  | f + 1, g + 1, a, k, h, hg => by
    show Xheld2F f m9 x (a + x.1 4 (k + 13)) (k + 1) = Mheld2F g m (a + (if m.1 11 k = 0 then 0 else m.1 7 k)) (k + 1)
    rw [x13_eq T (show k < 5 by omega)]
    exact held2_eq T f g _ _ (by omega) (by omega)
theorem held_eq (T : TieW x n m nr) : heldX x m9 nr = heldM m nr := by
  have h1 := T.1.2.2.1
  unfold heldX heldM
  rw [held1_eq T nr 0 0 (by omega)]
  exact held2_eq T (nr - 1) 5 _ 0 (by omega) rfl
theorem mean_eq (T : TieW x n m nr) : ∀ (f : Nat) (a : Int32) (k : Nat), k + f ≤ nr → Xmean_lF f m9 x a k = Mmean_lF f m a k
  | 0, _, _, _ => rfl
  | f + 1, a, k, h => by
    have h6 := T.1.2.2.2.1
    show Xmean_lF f m9 x (a + x.1 4 (k + 3) / x.1 2 k) (k + 1) = Mmean_lF f m (a + levM m k) (k + 1)
    rw [lev_eq T (show k < 6 by omega)]
    exact mean_eq T f _ _ (by omega)
theorem bal_eq (T : TieW x n m nr) {v : Int32} : ∀ (f : Nat) (a : Int32) (k : Nat), k + f ≤ n → XbalF v f m9 x a k = MstepsF v f m a k
  | 0, _, _, _ => rfl
  | f + 1, a, k, h => by
    obtain ⟨e1, e2, e3⟩ := T.1.2.2.2.2.2.2.2.1.2.2.2 k (by omega)
    have e : XbalFa v m9 x a k = MstepsFa v m a k := by
      unfold XbalFa MstepsFa
      rw [e1, e2, e3]
      by_cases c1 : m.1 25 k = v <;> by_cases c2 : m.1 26 k = v <;> simp [c1, c2]
    show XbalF v f m9 x (XbalFa v m9 x a k) (k + 1) = MstepsF v f m (MstepsFa v m a k) (k + 1)
    rw [e]
    exact bal_eq T f _ _ (by omega)
theorem balX_eq (T : TieW x n m nr) {v : Int32} : balX x m9 n v = stepsM m n v := bal_eq T n 0 0 (by omega)
theorem Mbal_0 {mv : Nat} : ∀ (f k : Nat), Mbal_lF mv f m 0 k = 0
  | 0, _ => rfl
  | f + 1, k => by
    show Mbal_lF mv f m (if (0 : Int32) = 0 then 0 else _) (k + 1) = 0
    rw [if_pos rfl]; exact Mbal_0 f (k + 1)
theorem balOK_eq (T : TieW x n m nr) : ∀ (f k : Nat), k + f ≤ nr → balOK x m9 n f k = (if Mbal_lF n f m 1 k = 0 then 0 else 1)
  | 0, _, _ => by show (1 : Int32) = if (1 : Int32) = 0 then 0 else 1; decide
  | f + 1, k, h => by
    show (if x.1 4 (k + 3) = balX x m9 n (nI k) then balOK x m9 n f (k + 1) else 0) = (if Mbal_lF n f m (if (1 : Int32) = 0 then 0 else (if ¬ stepsM m n (nI k) = m.1 4 k then 0 else 1)) (k + 1) = 0 then 0 else 1)
    rw [x4_eq T (show k < nr by omega), balX_eq T, if_neg (show ¬ (1 : Int32) = 0 by decide)]
    by_cases c : stepsM m n (nI k) = m.1 4 k
    · have e : (if ¬ stepsM m n (nI k) = m.1 4 k then (0 : Int32) else 1) = 1 := if_neg (fun z => z c)
      rw [if_pos c.symm, e]
      exact balOK_eq T f (k + 1) (by omega)
    · have e : (if ¬ stepsM m n (nI k) = m.1 4 k then (0 : Int32) else 1) = 0 := if_pos c
      rw [if_neg (fun z => c z.symm), e, Mbal_0, if_pos rfl]
end
