section
variable {x x' : Xs} {m m' : Ms} {m9 : Mz} {n n' nr nr' nb N k b r : Nat} {cs : List (List Nat)} {a1 a2 a3 a4 a5 : Int32}
theorem adX_o {p j : Nat} (hp : p = 0 ∨ p = 14 ∨ p = 23) : (addReachX x n nr a1 a2 a3 a4 a5).1.1 p j = x.1 p j := by
  unfold addReachX openX
  rw [xI_p (by omega), xI_p (by omega), sendR_1 (by omega) (by omega) (by omega) (by omega) (by omega)]
  unfold bedX
  rw [xI_p (by omega), xI_p (by omega), xI_p (by omega), xI_p (by omega), xI_p (by omega)]
theorem adX_12 {j : Nat} : (addReachX x n nr a1 a2 a3 a4 a5).1.1 12 j = (if j = nr then a2 else x.1 12 j) ∧ (addReachX x n nr a1 a2 a3 a4 a5).1.1 11 j = (if j = nr then 100 else x.1 11 j) := by
  unfold addReachX openX
  have e : ∀ p, p = 11 ∨ p = 12 → (sendR (nr + 1) (nr + 1 - nr) (bedX (xI (xI (xI x 3 (nr - 1) a3) 9 (nr - 1) a4) 10 (nr - 1) a5) nr a1) n (-1) 2 nr (a1 * a2)).1.1 p j = x.1 p j := fun p hp => by
    rw [sendR_1 (by omega) (by omega) (by omega) (by omega) (by omega)]
    unfold bedX
    rw [xI_p (by omega), xI_p (by omega), xI_p (by omega), xI_p (by omega), xI_p (by omega)]
  by_cases z : j = nr
  · subst z
    rw [if_pos rfl, if_pos rfl, xI_s, xI_p (by decide), xI_s]
    exact ⟨rfl, rfl⟩
  · rw [if_neg z, if_neg z, xI_k z, xI_p (by decide), e 12 (by omega), xI_p (by decide), xI_k z, e 11 (by omega)]
    exact ⟨rfl, rfl⟩
theorem adM_o {p j : Nat} (hp : p = 13 ∨ p = 14 ∨ p = 15 ∨ p = 16 ∨ p = 17 ∨ p = 18 ∨ p = 19 ∨ p = 38) : (addReachM m a1 a2 a3 a4 a5 nr).1 p j = m.1 p j := by
  unfold addReachM
  rw [mI_p (by omega), mI_p (by omega), recM_p (by omega) (by omega) (by omega) (by omega), mI_p (by omega), mI_p (by omega), mI_p (by omega), mI_p (by omega), mI_p (by omega), mI_p (by omega), mI_p (by omega), mI_p (by omega)]
theorem adM_0 {j : Nat} (hj : j ≠ 0 ∧ j ≠ 1 ∧ j ≠ 24 ∧ j ≠ 21) : (addReachM m a1 a2 a3 a4 a5 nr).1 0 j = m.1 0 j := by
  unfold addReachM
  rw [mI_k hj.1, mI_k hj.2.1, recM_0 hj.2.2.1, mI_k hj.2.2.2, mI_p (by decide), mI_p (by decide), mI_p (by decide), mI_p (by decide), mI_p (by decide), mI_p (by decide), mI_p (by decide)]
theorem adM_56 {j : Nat} : (addReachM m a1 a2 a3 a4 a5 nr).1 5 j = (if j = nr then a2 else m.1 5 j) ∧ (addReachM m a1 a2 a3 a4 a5 nr).1 6 j = (if j = nr then 100 else m.1 6 j) := by
  unfold addReachM
  rw [mI_p (q := 5) (by decide), mI_p (q := 5) (by decide), recM_p (by decide) (by decide) (by decide) (by decide), mI_p (q := 5) (by decide), mI_p (q := 5) (by decide), mI_p (q := 5) (by decide), mI_p (q := 6) (by decide), mI_p (q := 6) (by decide), recM_p (by decide) (by decide) (by decide) (by decide), mI_p (q := 6) (by decide), mI_p (q := 6) (by decide)]
  by_cases z : j = nr
  · subst z
    rw [if_pos rfl, if_pos rfl, mI_s, mI_s]
    exact ⟨rfl, rfl⟩
  · rw [if_neg z, if_neg z, mI_k z, mI_k z, mI_p (by decide), mI_p (by decide), mI_p (by decide), mI_p (by decide), mI_p (by decide), mI_p (by decide), mI_p (by decide), mI_p (by decide), mI_p (by decide)]
    exact ⟨rfl, rfl⟩
/-- a reach more: class and reference -/
theorem Tie_openT (h : Tie x n m nr nb N cs) (hn6 : nr < 6) (h1 : 1 ≤ a1.toInt ∧ a1.toInt ≤ 50) (h2 : 0 ≤ a2.toInt ∧ a2.toInt ≤ 60) (h3 : 1 ≤ a3.toInt ∧ a3.toInt ≤ 200) (h4 : 10 ≤ a4.toInt) (h5 : 5 ≤ a5.toInt) (hn : n + 10 < 2 ^ 30) : Tie (addReachX x n nr a1 a2 a3 a4 a5).1 (addReachX x n nr a1 a2 a3 a4 a5).2 (addReachM m a1 a2 a3 a4 a5 nr) (nr + 1) nb N cs := by
  refine h.water (TieW_open h.1 hn6 h1 h2 h3 h4 h5 hn) (fun k hk => ?_) (Nat.le_succ _) (by unfold addReachX openX; exact (sendR_x _ _ _ _ _ _ _).trans rfl) (fun p j hp => adX_o (by omega)) ⟨adX_o (by omega), adX_o (by omega), adX_o (by omega)⟩ ?_ (fun p j hp => adM_o hp) ⟨adM_0 (by decide), adM_0 (by decide), adM_0 (by decide), adM_0 (by decide)⟩ ?_
  · rw [adX_12.1, adX_12.2, adM_56.1, adM_56.2]
    by_cases z : k = nr
    · rw [if_pos z, if_pos z, if_pos z, if_pos z]
      exact ⟨rfl, by decide, by decide, rfl⟩
    · rw [if_neg z, if_neg z, if_neg z, if_neg z]
      exact h.2.1 k (by omega)
  · rw [adX_o (by omega), adM_0 (by decide)]; exact h.2.2.2.2.2.1.1
  · unfold addReachM; exact rec_m2.trans rfl
end
