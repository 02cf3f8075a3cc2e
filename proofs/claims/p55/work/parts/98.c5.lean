section
variable {x x' : Xs} {m m' : Ms} {m9 : Mz} {n n' nr nr' nb N k b r : Nat} {cs : List (List Nat)}
theorem sdO_p9 {n a b p : Nat} {u v w : Int32} (h : p ≠ 4 ∧ p ≠ 8 ∧ p ≠ 20 ∧ p ≠ 21 ∧ p ≠ 22) {j : Nat} : (sendO x n u a v b w).1.1 p j = x.1 p j := by
  unfold sendO
  split
  · rfl
  · exact congrFun (sdX_p h) j
theorem sdO_x9 {n a b : Nat} {u v w : Int32} : (sendO x n u a v b w).1.2 = x.2 := by unfold sendO; split <;> rfl
theorem ewS_p9 {p j : Nat} (h : p ≠ 4 ∧ p ≠ 8 ∧ p ≠ 20 ∧ p ≠ 21 ∧ p ≠ 22) : ∀ (f : Nat) (x : Xs) (n k : Nat), (ewS f x n k).1.1 p j = x.1 p j
  | 0, _, _, _ => rfl
  | f + 1, x, n, k => (ewS_p9 h f _ _ (k + 1)).trans (sdO_p9 h)
theorem ewS_x9 : ∀ (f : Nat) (x : Xs) (n k : Nat), (ewS f x n k).1.2 = x.2
  | 0, _, _, _ => rfl
  | f + 1, x, n, k => (ewS_x9 f _ _ (k + 1)).trans sdO_x9
theorem Xew2_p9 {p j : Nat} (h : p ≠ 11 ∧ p ≠ 12) : ∀ (f : Nat) (x : Xs) (a : Int32) (k : Nat), (Xew2F f m9 x a k).1.1 p j = x.1 p j
  | 0, _, _, _ => rfl
  | f + 1, x, a, k => (Xew2_p9 h f (Xew2Fx m9 x a k) (Xew2Fa m9 x a k) (k + 1)).trans (by unfold Xew2Fx; rw [xI_p h.2, xI_p h.1])
theorem Xew2_x9 : ∀ (f : Nat) (x : Xs) (a : Int32) (k : Nat), (Xew2F f m9 x a k).1.2 = x.2
  | 0, _, _, _ => rfl
  | f + 1, x, a, k => (Xew2_x9 f (Xew2Fx m9 x a k) (Xew2Fa m9 x a k) (k + 1)).trans rfl
theorem Mew1_p9 {p j : Nat} (h : p ≠ 0 ∧ p ≠ 4 ∧ p ≠ 25 ∧ p ≠ 26 ∧ p ≠ 27) : ∀ (f : Nat) (m : Ms) (k : Nat), (Mew1F f m k).1 p j = m.1 p j
  | 0, _, _ => rfl
  | f + 1, m, k => (Mew1_p9 h f (Mew1Fm m k) (k + 1)).trans (by unfold Mew1Fm; rw [mI_p h.1, mI_p h.2.1, recM_p h.1 h.2.2.1 h.2.2.2.1 h.2.2.2.2])
theorem Mew1_09 {j : Nat} (h : j ≠ 23 ∧ j ≠ 24) : ∀ (f : Nat) (m : Ms) (k : Nat), (Mew1F f m k).1 0 j = m.1 0 j
  | 0, _, _ => rfl
  | f + 1, m, k => (Mew1_09 h f (Mew1Fm m k) (k + 1)).trans (by unfold Mew1Fm; rw [mI_k h.1, mI_p (by decide), recM_0 h.2])
theorem Mew1_29 : ∀ (f : Nat) (m : Ms) (k : Nat), (Mew1F f m k).2 = m.2
  | 0, _, _ => rfl
  | f + 1, m, k => (Mew1_29 f (Mew1Fm m k) (k + 1)).trans rec_m2
theorem Mew2_p9 {p j : Nat} (h : p ≠ 5 ∧ p ≠ 6) : ∀ (f : Nat) (m : Ms) (a : Int32) (k : Nat), (Mew2F f m a k).1.1 p j = m.1 p j
  | 0, _, _, _ => rfl
  | f + 1, m, a, k => (Mew2_p9 h f (Mew2Fm m a k) (Mew2Fa m a k) (k + 1)).trans (by rw [Mew2_m, mI_p h.1, mI_p h.2])
theorem Mew2_29 : ∀ (f : Nat) (m : Ms) (a : Int32) (k : Nat), (Mew2F f m a k).1.2 = m.2
  | 0, _, _, _ => rfl
  | f + 1, m, a, k => (Mew2_29 f (Mew2Fm m a k) (Mew2Fa m a k) (k + 1)).trans (by rw [Mew2_m])
/-- the end of a week: class and reference -/
theorem Tie_week (h : Tie x n m nr nb N cs) (hn : n + 100 < 2 ^ 30) : Tie (endWeekX x m9 n nr) (ewS nr x n 0).2 (endWeekM m nr) nr nb N cs ∧ (ewX x m9 n nr).2 = (Mew2F nr (Mew1F nr m 0) 0 0).2 := by
  have T := h.1
  have R := h.2.1
  have F := h.2.2.2.2.2.1
  have h6 := T.1.2.2.2.1
  have T1 := TieW_ew nr x n m 0 T (by omega) (by omega)
  have R1 : TieR (ewS nr x n 0).1 (Mew1F nr m 0) nr := fun k hk => by
    rw [ewS_p9 (by decide), ewS_p9 (by decide), Mew1_p9 (by decide), Mew1_p9 (by decide)]
    exact R k hk
  obtain ⟨T2, R2, e⟩ := Tie_ew2 m9 nr (ewS nr x n 0).1 (Mew1F nr m 0) 0 0 T1 R1 (by omega)
  refine ⟨?_, e⟩
  have xo : ∀ p j, p ≠ 4 ∧ p ≠ 8 ∧ p ≠ 20 ∧ p ≠ 21 ∧ p ≠ 22 → p ≠ 11 ∧ p ≠ 12 → (ewX x m9 n nr).1.1 p j = x.1 p j := fun p j h1 h2 => (Xew2_p9 h2 nr _ 0 0).trans (ewS_p9 h1 nr x n 0)
  have mo : ∀ p j, p ≠ 0 ∧ p ≠ 4 ∧ p ≠ 25 ∧ p ≠ 26 ∧ p ≠ 27 → p ≠ 5 ∧ p ≠ 6 → (Mew2F nr (Mew1F nr m 0) 0 0).1.1 p j = m.1 p j := fun p j h1 h2 => (Mew2_p9 h2 nr _ 0 0).trans (Mew1_p9 h1 nr m 0)
  have m0 : ∀ j, j ≠ 23 ∧ j ≠ 24 → (Mew2F nr (Mew1F nr m 0) 0 0).1.1 0 j = m.1 0 j := fun j h1 => (Mew2_p9 (by decide) nr _ 0 0).trans (Mew1_09 h1 nr m 0)
  have w : (endWeekX x m9 n nr).1 0 8 = (endWeekM m nr).1 0 2 := by
    unfold endWeekX endWeekM
    rw [xI_s, mI_k (by decide), mI_s, xo 0 8 (by decide) (by decide), m0 2 (by decide), F.1]
  refine h.water (((T2.xeq (x' := endWeekX x m9 n nr) (xI_p (by decide)) (xI_p (by decide)) (fun p hp => xI_row (by unfold xW at hp; omega))).f0 (j := 2) (by decide)).f0 (j := 0) (by decide)) (fun k hk => ?_) (Nat.le_refl _) ((Xew2_x9 nr _ 0 0).trans (ewS_x9 nr x n 0)) (fun p j hp => ?_) ⟨?_, ?_, ?_⟩ w (fun p j hp => ?_) ⟨?_, ?_, ?_, ?_⟩ ((Mew2_29 nr _ 0 0).trans (Mew1_29 nr m 0))
  · unfold endWeekX endWeekM
    rw [xI_p (by decide), xI_p (by decide), mI_p (by decide), mI_p (by decide), mI_p (by decide), mI_p (by decide)]
    exact R2 k hk
  · unfold endWeekX
    rw [xI_p (by omega)]
    exact xo p j (by omega) (by omega)
  · unfold endWeekX; rw [xI_k (by decide)]; exact xo 0 7 (by decide) (by decide)
  · unfold endWeekX; rw [xI_k (by decide)]; exact xo 0 12 (by decide) (by decide)
  · unfold endWeekX; rw [xI_k (by decide)]; exact xo 0 13 (by decide) (by decide)
  · unfold endWeekM
    rw [mI_p (by omega), mI_p (by omega)]
    exact mo p j (by omega) (by omega)
  · unfold endWeekM; rw [mI_k (by decide), mI_k (by decide)]; exact m0 12 (by decide)
  · unfold endWeekM; rw [mI_k (by decide), mI_k (by decide)]; exact m0 30 (by decide)
  · unfold endWeekM; rw [mI_k (by decide), mI_k (by decide)]; exact m0 31 (by decide)
  · unfold endWeekM; rw [mI_k (by decide), mI_k (by decide)]; exact m0 39 (by decide)
end
