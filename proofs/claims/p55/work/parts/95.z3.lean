section
variable {x x' : Xs} {m m' : Ms} {n n' nr nb lk : Nat} {dn : Bool}
theorem Tie_A (T : TieW x n m nr) (hk : lk + 1 < nr) (hn : n + 10 < 2 ^ 30) : TieW (tpA x n nr lk dn).1 (tpA x n nr lk dn).2 (lkA m nr lk dn) nr ∧ (tpA x n nr lk dn).2 ≤ n + nr := by
  unfold tpA lkA
  by_cases h : dn = false ∧ ¬ m.1 11 lk = 0
  · rw [if_pos h, if_pos ⟨h.1, fun z => h.2 ((ch_le T hk).mp z)⟩]
    exact ⟨TieW_empty T hk hn h.2, (em_ge (by omega)).2⟩
  · rw [if_neg h, if_neg (fun z => h ⟨z.1, fun y => z.2 ((ch_le T hk).mpr y)⟩)]
    exact ⟨T, Nat.le_add_right _ _⟩
theorem Tie_B (T : TieW x n m nr) (hk : lk + 1 < nr) (hn : n + 10 < 2 ^ 30) (hv : ¬ (m.1 11 lk = 0 ∧ m.1 4 lk < m.1 7 lk)) : TieW (tpB x n lk).1 (tpB x n lk).2 (lkB m lk) nr ∧ ¬ (lkB m lk).1 11 lk = 0 ∧ (tpB x n lk).2 ≤ n + 1 := by
  unfold tpB lkB
  by_cases h : m.1 11 lk = 0
  · rw [if_pos h, if_pos ((ch_le T hk).mpr h)]
    have h4 : ¬ m.1 4 lk < m.1 7 lk := fun z => hv ⟨h, z⟩
    rw [i_lt] at h4
    obtain ⟨t1, t2⟩ := TieW_fill T hk hn h (by omega)
    refine ⟨t1, ?_, by omega⟩
    unfold fillsM
    rw [mI_s]; decide +kernel
  · rw [if_neg h, if_neg (fun z => h ((ch_le T hk).mp z))]
    exact ⟨T, h, by omega⟩
theorem Tie_C (T : TieW x n m nr) (hk : lk + 1 < nr) (hn : n + 10 < 2 ^ 30) (hf : ¬ m.1 11 lk = 0) : TieW (tpC x n nr lk dn).1 (tpC x n nr lk dn).2 (lkC m nr lk dn) nr ∧ (tpC x n nr lk dn).2 ≤ n + nr := by
  unfold tpC lkC
  by_cases h : dn = true
  · rw [if_pos h, if_pos h]
    exact ⟨TieW_empty T hk hn hf, (em_ge (by omega)).2⟩
  · rw [if_neg h, if_neg h]
    exact ⟨T, Nat.le_add_right _ _⟩
theorem epM_eq (h8 : m'.1 8 lk = m.1 8 lk) (h14 : ∀ d, m'.1 14 d = m.1 14 d) : ∀ (q : List Nat) (u : Int32), epM m' lk q u = epM m lk q u
  | [], _ => rfl
  | b :: r, u => by
    unfold epM
    rw [h8, h14, epM_eq h8 h14 r]
theorem ptM_eq (h8 : m'.1 8 lk = m.1 8 lk) (h14 : ∀ d, m'.1 14 d = m.1 14 d) : ∀ (k : Nat) (q : List Nat), ptM m' lk k q = ptM m lk k q
  | 0, _ => rfl
  | _ + 1, [] => rfl
  | k + 1, b :: r => by
    show 1 + ptM m' lk k (epM m' lk (b :: r) 0) = 1 + ptM m lk k (epM m lk (b :: r) 0)
    rw [epM_eq h8 h14, ptM_eq h8 h14 k]
theorem TieW.moves (T : TieW x n m nr) {v : Int32} {q : List Nat} : TieW x n (movesM v m q) nr := T.meq (movesM_p (by decide) _ _) (movesM_p (by decide) _ _) ⟨movesM_p (by decide) _ _, movesM_p (by decide) _ _, movesM_p (by decide) _ _⟩ (fun p hp => funext fun j => movesM_p (by unfold mW at hp; omega) _ _)
theorem TieB.lock (T : TieB x m nb) {q : List Nat} : TieB x (lockM m nr lk dn q).1 nb := T.meq (fun p hp j => lockM_p (by omega) (by omega) (by omega) (by omega) (by omega) (by omega) (by omega) (by omega))
theorem rIn_lt (h6 : nr ≤ 6) (hk : lk + 1 < nr) : rIn dn lk < 6 ∧ rOut dn lk < 6 := by unfold rIn rOut; split <;> omega
end
