section
variable {x x' : Xs} {m m' : Ms} {n nr nb k b r : Nat} {u : Int32}
theorem buyC_17 {j : Nat} : (buyC m k u).1 17 j = if j = k then m.1 17 k + u else m.1 17 j := by
  unfold buyC
  by_cases z : j = k
  · subst z; rw [if_pos rfl, mI_s]
  · rw [if_neg z, mI_k z]
theorem buyC_p {p j : Nat} (h : p ≠ 17) : (buyC m k u).1 p j = m.1 p j := mI_p h
theorem buyB_17 {j : Nat} : (buyB m k u).1 17 j = m.1 17 j := by
  unfold buyB
  by_cases z : j = k
  · subst z; rw [mI_s, buyC_17, if_pos rfl]; grind
  · rw [mI_k z, buyC_17, if_neg z]
theorem buyB_p {p j : Nat} (h : p ≠ 17) : (buyB m k u).1 p j = m.1 p j := (mI_p h).trans (buyC_p h)
theorem buyF_17 {j : Nat} : (buyF m k r u).1 17 j = if j = k then m.1 17 k + u else m.1 17 j := by
  show (mI (buyB m k u) 17 k ((buyB m k u).1 17 k + u)).1 17 j = _
  by_cases z : j = k
  · subst z; rw [if_pos rfl, mI_s, buyB_17]
  · rw [if_neg z, mI_k z, buyB_17]
theorem buyF_p {p j : Nat} (h : p ≠ 17) : (buyF m k r u).1 p j = m.1 p j := (mI_p (m := buyB m k u) h).trans (buyB_p h)
theorem float_eq (T : TieW x n m nr) (B : TieB x m nb) (hk : k < nb) (hr : r < 6) : floatX x k r u = floatsI (buyC m k u) k r := by
  obtain ⟨e1, e2, e3, e4, -⟩ := B.2 k hk
  have el : levM (buyC m k u) r = levM m r := by
    unfold levM
    rw [buyC_p (by decide), buyC_p (by decide)]
  have ed : deepX x k (x.2.1 k 5 + u) = deepM (buyC m k u) k := by
    unfold deepX deepM
    rw [buyC_17, if_pos rfl, buyC_p (by decide), buyC_p (by decide), e2, e3, e4]
  unfold floatX floatsI
  rw [lev_eq T hr, el, ed]
/-- bought: class and reference -/
theorem Tie_buy (T : TieW x n m nr) (B : TieB x m nb) (R : TieR x m nr) (hm : x.2.2.2 = m.2) (hk : k < nb) (hr : r < nr) (hu : 1 ≤ u.toInt ∧ u.toInt ≤ 999) (hf : floatX x k r u = 1) : TieB (buyX x k r u) (buyF m k r u) nb ∧ TieW (buyX x k r u) n (buyF m k r u) nr ∧ TieR (buyX x k r u) (buyF m k r u) nr ∧ (buyX x k r u).2.2.2 = (buyF m k r u).2 := by
  have h6 := T.1.2.2.2.1
  obtain ⟨e1, e2, e3, e4, ⟨f1, f2, f3, f4, f5, f6, f7, f8⟩, e5, e6, e7⟩ := B.2 k hk
  have a : (m.1 17 k + u).toInt = (m.1 17 k).toInt + u.toInt := i_add (by omega) (by omega)
  have hf' : ¬ levM m r ≤ m.1 15 k + (((m.1 17 k + u) + m.1 16 k) - 1) / m.1 16 k := by
    intro z
    have : floatX x k r u = 0 := by
      unfold floatX deepX
      rw [lev_eq T (by omega), e2, e3, e4]
      exact if_pos z
    rw [this] at hf
    exact absurd hf (by decide)
  have hb := cargo_le ⟨f3, f4⟩ ⟨f5, f6⟩ (c := m.1 17 k + u) ⟨by omega, by omega⟩ (lev_i T hr).2 hf'
  have h := TieB_cargo (b := k) B (v := m.1 17 k + u) (by omega) hb
  refine ⟨?_, ?_, ?_, ?_⟩
  · have h2 := h.meq (m' := buyF m k r u) (fun p hp j => by
      by_cases z : p = 17
      · subst z
        rw [buyF_17]
        by_cases z2 : j = k
        · subst z2; rw [if_pos rfl, mI_s]
        · rw [if_neg z2, mI_k z2]
      · rw [buyF_p z, mI_p z])
    refine h2.xeq ?_ rfl
    show (xY x k 5 (x.2.1 k 5 + u)).2.1 = _
    rw [e4]
  · exact (T.xeq (x' := buyX x k r u) rfl rfl (fun _ _ => rfl)).meq (buyF_p (by decide)) (buyF_p (by decide)) ⟨buyF_p (by decide), buyF_p (by decide), buyF_p (by decide)⟩ (fun p hp => funext fun j => buyF_p (by unfold mW at hp; omega))
  · intro j hj
    rw [buyF_p (by decide), buyF_p (by decide)]
    exact R j hj
  · show x.2.2.2 - costX x r u = m.2 - costM m r u
    unfold costX costM
    rw [hm, (R r hr).1]
end
