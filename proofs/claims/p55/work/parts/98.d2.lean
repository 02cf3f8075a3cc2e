section
variable {x x' : Xs} {m m' : Ms} {m9 : Mz} {n n' nr nr' nb N k b r : Nat} {cs cs' : List (List Nat)}
theorem Tie_emptyT (h : Tie x n m nr nb N cs) (hk : k + 1 < nr) (hn : n + 10 < 2 ^ 30) (hf : ¬ m.1 11 k = 0) : Tie (emptyX x n nr k).1 (emptyX x n nr k).2 (emptiesM m nr k) nr nb N cs := by
  refine h.water (TieW_empty h.1 hk hn hf) (fun j hj => ?_) (Nat.le_refl _) em_x (fun p j hp => em_1 (by omega) (by omega) (by omega) (by omega) (by omega) (by omega)) ⟨em_1 (by decide) (by decide) (by decide) (by decide) (by decide) (by decide), em_1 (by decide) (by decide) (by decide) (by decide) (by decide) (by decide), em_1 (by decide) (by decide) (by decide) (by decide) (by decide) (by decide)⟩ ?_ (fun p j hp => emptiesM_p (by omega) (by omega) (by omega) (by omega) (by omega) (by omega) (by omega)) ⟨emptiesM_0 (by decide) (by decide), emptiesM_0 (by decide) (by decide), emptiesM_0 (by decide) (by decide), emptiesM_0 (by decide) (by decide)⟩ ((comes_m2 _ _ _ _ _ _).trans rfl)
  · rw [em_1 (by decide) (by decide) (by decide) (by decide) (by decide) (by decide), em_1 (by decide) (by decide) (by decide) (by decide) (by decide) (by decide), emptiesM_p (by decide) (by decide) (by decide) (by decide) (by decide) (by decide) (by decide), emptiesM_p (by decide) (by decide) (by decide) (by decide) (by decide) (by decide) (by decide)]
    exact h.2.1 j hj
  · rw [em_1 (by decide) (by decide) (by decide) (by decide) (by decide) (by decide), emptiesM_0 (by decide) (by decide)]
    exact h.2.2.2.2.2.1.1
theorem Tie_fillT (h : Tie x n m nr nb N cs) (hk : k + 1 < nr) (hn : n + 10 < 2 ^ 30) (hf : m.1 11 k = 0) (hv : (m.1 7 k).toInt ≤ (m.1 4 k).toInt) : Tie (fillX x n k).1 (fillX x n k).2 (fillsM m k) nr nb N cs := by
  refine h.water (TieW_fill h.1 hk hn hf hv).1 (fun j hj => ?_) (Nat.le_refl _) fi_x (fun p j hp => fi_1 (by omega) (by omega) (by omega) (by omega) (by omega)) ⟨fi_1 (by decide) (by decide) (by decide) (by decide) (by decide), fi_1 (by decide) (by decide) (by decide) (by decide) (by decide), fi_1 (by decide) (by decide) (by decide) (by decide) (by decide)⟩ ?_ (fun p j hp => fillsM_p (by omega) (by omega) (by omega) (by omega) (by omega) (by omega)) ⟨fillsM_0 (by decide), fillsM_0 (by decide), fillsM_0 (by decide), fillsM_0 (by decide)⟩ rec_m2
  · rw [fi_1 (by decide) (by decide) (by decide) (by decide) (by decide), fi_1 (by decide) (by decide) (by decide) (by decide) (by decide), fillsM_p (by decide) (by decide) (by decide) (by decide) (by decide) (by decide), fillsM_p (by decide) (by decide) (by decide) (by decide) (by decide) (by decide)]
    exact h.2.1 j hj
  · rw [fi_1 (by decide) (by decide) (by decide) (by decide) (by decide), fillsM_0 (by decide)]
    exact h.2.2.2.2.2.1.1
end
