section
variable {x x' : Xs} {m m' : Ms} {m9 : Mz} {n n' nr nb k r : Nat}
theorem n64_s {i : Nat} (h : i + 1 < 2 ^ 31) : (nI (i + 1)).toInt64 = (nI i).toInt64 + 1 := by
  rw [← Int64.toInt_inj, Int32.toInt_toInt64, Int64.toInt_add, Int32.toInt_toInt64, i_nI h, i_nI (by omega), show (1 : Int64).toInt = 1 from rfl, Int.bmod_eq_of_le (by omega) (by omega)]
  omega
theorem std_17 : ∀ (i j : Nat), (stdM m k r i).1 17 j = if j = k then m.1 17 k - nI i else m.1 17 j
  | 0, j => by
    show m.1 17 j = _
    by_cases z : j = k
    · subst z; rw [if_pos rfl]; exact (Int32.sub_zero _).symm
    · rw [if_neg z]
  | i + 1, j => by
    show (mI (stdM m k r i) 17 k ((stdM m k r i).1 17 k - 1)).1 17 j = _
    by_cases z : j = k
    · have ih := std_17 i k
      rw [if_pos rfl] at ih
      rw [if_pos z, z, mI_s, ih, ← nI_1]
      grind
    · rw [mI_k z, std_17 i, if_neg z, if_neg z]
theorem std_2 : ∀ i : Nat, i < 2 ^ 30 → (stdM m k r i).2 = m.2 + (nI i).toInt64 * (m.1 6 r).toInt64
  | 0, _ => by
    show m.2 = m.2 + (0 : Int64) * (m.1 6 r).toInt64
    grind
  | i + 1, h => by
    show (stdM m k r i).2 + (1 : Int32).toInt64 * ((stdM m k r i).1 6 r).toInt64 = _
    rw [std_2 i (by omega), stdM_p (by decide), n64_s (by omega), show (1 : Int32).toInt64 = 1 from rfl]
    grind
theorem std_deep {u : Int32} (B : TieB x m nb) (hk : k < nb) (hu : (m.1 15 k).toInt ≤ u.toInt ∧ u.toInt ≤ 60) {i : Nat} (hi : (i : Int) ≤ (m.1 17 k).toInt) : deepM (stdM m k r i) k ≤ u ↔ (m.1 17 k).toInt - i ≤ (u.toInt - (m.1 15 k).toInt) * (m.1 16 k).toInt := by
  obtain ⟨e1, e2, e3, e4, ⟨f1, f2, f3, f4, f5, f6, f7, f8⟩, -⟩ := B.2 k hk
  unfold deepM
  rw [stdM_p (p := 15) (by decide), stdM_p (p := 16) (by decide), std_17, if_pos rfl]
  have a0 : (m.1 17 k - nI i).toInt = (m.1 17 k).toInt - i := by rw [i_sub (by rw [i_nI (by omega)]; omega) (by rw [i_nI (by omega)]; omega), i_nI (by omega)]
  have a1 : (m.1 17 k - nI i + m.1 16 k).toInt = (m.1 17 k).toInt - i + (m.1 16 k).toInt := by rw [i_add (by omega) (by omega), a0]
  have a2 : (m.1 17 k - nI i + m.1 16 k - 1).toInt = (m.1 17 k).toInt - i + (m.1 16 k).toInt - 1 := by rw [i_sub (by rw [i_1]; omega) (by rw [i_1]; omega), a1, i_1]
  have b0 : 0 ≤ ((m.1 17 k).toInt - i + (m.1 16 k).toInt - 1) / (m.1 16 k).toInt := Int.ediv_nonneg (by omega) (by omega)
  have b1 : ((m.1 17 k).toInt - i + (m.1 16 k).toInt - 1) / (m.1 16 k).toInt ≤ (m.1 17 k).toInt - i + (m.1 16 k).toInt - 1 := Int.ediv_le_self _ (by omega)
  have a5 : ((m.1 17 k - nI i + m.1 16 k - 1) / m.1 16 k).toInt = ((m.1 17 k).toInt - i + (m.1 16 k).toInt - 1) / (m.1 16 k).toInt := by
    rw [Int32.toInt_div, a2, Int.tdiv_eq_ediv_of_nonneg (by omega)]
    exact Int.bmod_eq_of_le (by omega) (by omega)
  rw [i_le, i_add (by rw [a5]; omega) (by rw [a5]; omega), a5]
  have c : ((m.1 17 k).toInt - i + (m.1 16 k).toInt - 1) / (m.1 16 k).toInt < (u.toInt - (m.1 15 k).toInt) + 1 ↔ (m.1 17 k).toInt - i + (m.1 16 k).toInt - 1 < ((u.toInt - (m.1 15 k).toInt) + 1) * (m.1 16 k).toInt := Int.ediv_lt_iff_lt_mul (by omega)
  have d : ((u.toInt - (m.1 15 k).toInt) + 1) * (m.1 16 k).toInt = (u.toInt - (m.1 15 k).toInt) * (m.1 16 k).toInt + (m.1 16 k).toInt := by rw [Int.add_mul, Int.one_mul]
  rw [d] at c
  constructor
  · intro h
    have := c.mp (by omega)
    omega
  · intro h
    have := c.mpr (by omega)
    omega
/-- selling down to a draught: class and reference -/
theorem Tie_std {u : Int32} (B : TieB x m nb) (R : TieR x m nr) (hm : x.2.2.2 = m.2) (hk : k < nb) (hr : r < nr) (hu : (m.1 15 k).toInt ≤ u.toInt ∧ u.toInt ≤ 60) : ∃ N : Nat, N < 2 ^ 30 ∧ (∀ i, i < N → ¬ deepM (stdM m k r i) k ≤ u) ∧ deepM (stdM m k r N) k ≤ u ∧ stdX x k u = nI N ∧ TieB (unloadX x k r (nI N)) (stdM m k r N) nb ∧ (unloadX x k r (nI N)).2.2.2 = (stdM m k r N).2 ∧ (unloadX x k r (nI N)).1 = x.1 ∧ (unloadX x k r (nI N)).2.2.1 = x.2.2.1 := by
  obtain ⟨e1, e2, e3, e4, ⟨f1, f2, f3, f4, f5, f6, f7, f8⟩, e5, e6, e7⟩ := B.2 k hk
  have q0 : 0 ≤ (u.toInt - (m.1 15 k).toInt) * (m.1 16 k).toInt := Int.mul_nonneg (by omega) (by omega)
  have q1 : (u.toInt - (m.1 15 k).toInt) * (m.1 16 k).toInt ≤ 60 * 20 := Int.mul_le_mul (by omega) f6 (by omega) (by omega)
  have g0 : (u - m.1 15 k).toInt = u.toInt - (m.1 15 k).toInt := i_sub (by omega) (by omega)
  have g1 : ((u - m.1 15 k) * m.1 16 k).toInt = (u.toInt - (m.1 15 k).toInt) * (m.1 16 k).toInt := by rw [i_mul (by rw [g0]; omega) (by rw [g0]; omega), g0]
  have g2 : (m.1 17 k - (u - m.1 15 k) * m.1 16 k).toInt = (m.1 17 k).toInt - (u.toInt - (m.1 15 k).toInt) * (m.1 16 k).toInt := by rw [i_sub (by rw [g1]; omega) (by rw [g1]; omega), g1]
  have sX : stdX x k u = if 0 < m.1 17 k - (u - m.1 15 k) * m.1 16 k then m.1 17 k - (u - m.1 15 k) * m.1 16 k else 0 := by
    unfold stdX
    rw [e2, e3, e4]
  generalize hq : (u.toInt - (m.1 15 k).toInt) * (m.1 16 k).toInt = q at *
  have main : ∀ N : Nat, (N : Int) ≤ (m.1 17 k).toInt → TieB (unloadX x k r (nI N)) (stdM m k r N) nb ∧ (unloadX x k r (nI N)).2.2.2 = (stdM m k r N).2 ∧ (unloadX x k r (nI N)).1 = x.1 ∧ (unloadX x k r (nI N)).2.2.1 = x.2.2.1 := by
    intro N hN
    refine ⟨?_, ?_, rfl, rfl⟩
    · have c1 : (m.1 17 k - nI N).toInt = (m.1 17 k).toInt - N := by rw [i_sub (by rw [i_nI (by omega)]; omega) (by rw [i_nI (by omega)]; omega), i_nI (by omega)]
      have h := TieB_cargo (b := k) B (v := m.1 17 k - nI N) (by omega) (by omega)
      have h2 := h.meq (m' := stdM m k r N) (fun p hp j => by
        by_cases z : p = 17
        · subst z
          rw [std_17]
          by_cases z2 : j = k
          · subst z2; rw [if_pos rfl, mI_s]
          · rw [if_neg z2, mI_k z2]
        · rw [stdM_p z, mI_p z])
      refine h2.xeq ?_ rfl
      show (xY x k 5 (x.2.1 k 5 - nI N)).2.1 = _
      rw [e4]
    · show x.2.2.2 + (nI N).toInt64 * (x.1 11 r).toInt64 = _
      rw [std_2 N (by omega), hm, (R r hr).1]
  by_cases c : q < (m.1 17 k).toInt
  · refine ⟨((m.1 17 k).toInt - q).toNat, by omega, fun i hi => ?_, ?_, ?_, main _ (by omega)⟩
    · rw [std_deep B hk hu (by omega), hq]; omega
    · rw [std_deep B hk hu (by omega), hq]; omega
    · rw [sX, if_pos (by rw [i_lt, i_0, g2]; omega), i_eq, g2, i_nI (by omega)]; omega
  · refine ⟨0, by omega, fun i hi => absurd hi (Nat.not_lt_zero i), ?_, ?_, main 0 (by omega)⟩
    · rw [std_deep B hk hu (by omega), hq]; omega
    · rw [sX, if_neg (by rw [i_lt, i_0, g2]; omega)]; rfl
end
