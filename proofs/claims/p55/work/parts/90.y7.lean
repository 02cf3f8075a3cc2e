section
variable {x x' : Xs} {m m' : Ms} {n nr : Nat}
theorem a12 {a1 a2 : Int32} (h1 : 1 ≤ a1.toInt ∧ a1.toInt ≤ 50) (h2 : 0 ≤ a2.toInt ∧ a2.toInt ≤ 60) : (a1 * a2).toInt = a1.toInt * a2.toInt ∧ 0 ≤ (a1 * a2).toInt ∧ (a1 * a2).toInt ≤ 60 * a1.toInt := by
  have e1 : 0 ≤ a1.toInt * a2.toInt := Int.mul_nonneg (by omega) h2.1
  have e2 : a1.toInt * a2.toInt ≤ a1.toInt * 60 := Int.mul_le_mul_of_nonneg_left h2.2 (by omega)
  have e := i_mul (a := a1) (b := a2) (by omega) (by omega)
  exact ⟨e, by omega, by omega⟩
theorem opB_0 {a1 a3 a4 a5 w : Int32} {j : Nat} (h : j ≠ 1 ∧ j ≠ 21) : (opB m nr a1 a3 a4 a5 w).1 0 j = m.1 0 j := by
  unfold opB
  rw [mI_k h.1, mI_k h.2, mI_p (by decide), mI_p (by decide), mI_p (by decide), mI_p (by decide)]
theorem mvN_0 (h : m'.1 0 24 = m.1 0 24) : mvN m' = mvN m := by unfold mvN; rw [h]
theorem amt_7 {j p : Nat} {v : Int32} (h : m.1 11 j = 0) : amt (mI m 7 j v) p = amt m p := by
  unfold amt
  rw [mI_p (by decide), mI_p (by decide), mI_p (by decide), mI_p (by decide), mI_p (by decide)]
  by_cases z : p - 13 = j
  · rw [z, h]; simp
  · rw [mI_k z]
theorem amt_opB {a1 a3 a4 a5 w : Int32} {p : Nat} (h : m.1 11 (nr - 1) = 0) : amt (opB m nr a1 a3 a4 a5 w) p = if p = 2 then - (m.1 0 21 + w) else amt m p := by
  unfold opB
  rw [amt_o (by decide) (fun _ => by decide), amt_came, amt_o (by decide) (fun z => by cases z), amt_o (by decide) (fun z => by cases z), amt_o (by decide) (fun z => by cases z), amt_7 h]
theorem opX_4 {a1 a3 a4 a5 : Int32} {p : Nat} : (opX x nr a1 a3 a4 a5).1 4 p = x.1 4 p := by simp only [opX, bedX, up2]; simp
theorem TieW_open {a1 a2 a3 a4 a5 : Int32} (T : TieW x n m nr) (hn6 : nr < 6) (h1 : 1 ≤ a1.toInt ∧ a1.toInt ≤ 50) (h2 : 0 ≤ a2.toInt ∧ a2.toInt ≤ 60) (h3 : 1 ≤ a3.toInt ∧ a3.toInt ≤ 200) (h4 : 10 ≤ a4.toInt) (h5 : 5 ≤ a5.toInt) (hn : n + 10 < 2 ^ 30) : TieW (addReachX x n nr a1 a2 a3 a4 a5).1 (addReachX x n nr a1 a2 a3 a4 a5).2 (addReachM m a1 a2 a3 a4 a5 nr) (nr + 1) := by
  obtain ⟨e1, e2, e3⟩ := a12 h1 h2
  have hP := TieP_open (a2 := a2) (w := a1 * a2) T hn6 h1 h3 h4 h5
  have hz : m.1 4 nr = 0 := T.1.2.2.2.2.2.2.1 nr (by omega) (by omega)
  have h11 : m.1 11 (nr - 1) = 0 := ((T.1.2.2.2.2.2.2.2.2 (nr - 1) (by omega)).2.2.2.2.2.2 (by have := T.1.2.2.1; omega)).1
  have hC := TieW_send (f := 0) (k := nr) (a := 2) (u := -1) (w := a1 * a2) hP rfl (by omega) (by decide) (by omega) (by omega) (fun z p hp => ?_) (fun _ p hp => ?_)
  · have eX : (addReachX x n nr a1 a2 a3 a4 a5) = (xI (xI (sendR (nr + 1) (0 + 1) (opX x nr a1 a3 a4 a5) n (-1) 2 nr (a1 * a2)).1 11 nr 100) 12 nr a2, (sendR (nr + 1) (0 + 1) (opX x nr a1 a3 a4 a5) n (-1) 2 nr (a1 * a2)).2) := by
      unfold addReachX openX opX
      rw [show nr + 1 - nr = 0 + 1 by omega]
    rw [eX]
    have hC := hC.xeq (x' := xI (xI (sendR (nr + 1) (0 + 1) (opX x nr a1 a3 a4 a5) n (-1) 2 nr (a1 * a2)).1 11 nr 100) 12 nr a2) (by rw [xI_p (by decide), xI_p (by decide)]) (by rw [xI_p (by decide), xI_p (by decide)]) (fun p hp => by rw [xI_row (by unfold xW at hp; omega), xI_row (by unfold xW at hp; omega)])
    by_cases hw : a1 * a2 ≤ 0
    · have w0 : a1 * a2 = 0 := by rw [i_eq, i_0]; rw [i_le, i_0] at hw; omega
      have eC : comesM (0 + 2) (opB m nr a1 a3 a4 a5 (a1 * a2)) (nr + 1) (-1) nr (a1 * a2) = opB m nr a1 a3 a4 a5 (a1 * a2) := if_pos hw
      rw [eC] at hC
      have eR : addReachM m a1 a2 a3 a4 a5 nr = mI (mI (mI (mI (mI (mI (mI (mI (mI (mI m 7 (nr - 1) a3) 8 (nr - 1) a4) 9 (nr - 1) a5) 3 nr a1) 5 nr a2) 6 nr 100) 4 nr (a1 * a2)) 0 21 (m.1 0 21 + a1 * a2)) 0 1 (m.1 0 1 + 1)) 0 0 0 := by
        unfold addReachM
        have : (a1 * a2) < 1 := by rw [i_lt, i_1, w0, i_0]; decide
        unfold recM
        rw [if_pos this, mI_k (by decide), mI_p (by decide), mI_p (by decide), mI_p (by decide), mI_p (by decide), mI_p (by decide), mI_p (by decide), mI_p (by decide)]
      rw [eR]
      refine hC.meq ?_ ?_ ⟨?_, ?_, ?_⟩ (fun p hp => ?_)
      · rw [mI_k (by decide), mI_s]; unfold opB; rw [mI_s, T.1.2.1, nI_1]
      · rw [opB_0 (by decide), mI_k (by decide), mI_k (by decide), mI_k (by decide), mI_p (by decide), mI_p (by decide), mI_p (by decide), mI_p (by decide), mI_p (by decide), mI_p (by decide), mI_p (by decide)]
      · unfold opB; rw [mI_k (by decide), mI_k (by decide), mI_s, mI_k (by decide), mI_s]
      · rw [opB_0 (by decide), mI_k (by decide), mI_k (by decide), mI_k (by decide), mI_p (by decide), mI_p (by decide), mI_p (by decide), mI_p (by decide), mI_p (by decide), mI_p (by decide), mI_p (by decide)]
      · rw [opB_0 (by decide), mI_k (by decide), mI_k (by decide), mI_k (by decide), mI_p (by decide), mI_p (by decide), mI_p (by decide), mI_p (by decide), mI_p (by decide), mI_p (by decide), mI_p (by decide)]
      · funext j
        rw [w0]
        unfold opB
        unfold mW at hp
        rcases hp with rfl | rfl | rfl | rfl | rfl | rfl | rfl | rfl | rfl | rfl <;> simp only [up2] <;> simp
        intro z; rw [z, hz]
    · have hw9 := w_lt1 hw
      have eC : comesM (0 + 2) (opB m nr a1 a3 a4 a5 (a1 * a2)) (nr + 1) (-1) nr (a1 * a2) = cstep (opB m nr a1 a3 a4 a5 (a1 * a2)) (-1) nr (a1 * a2) := by
        have b4 : (opB m nr a1 a3 a4 a5 (a1 * a2)).1 4 nr = 0 := by
          unfold opB
          rw [mI_p (by decide), mI_p (by decide), mI_p (by decide), mI_p (by decide), mI_p (by decide), mI_p (by decide), hz]
        have b3 : (opB m nr a1 a3 a4 a5 (a1 * a2)).1 3 nr = a1 := by
          unfold opB
          rw [mI_p (by decide), mI_p (by decide), mI_s]
        have hc : cleft (opB m nr a1 a3 a4 a5 (a1 * a2)) (-1) nr (a1 * a2) ≤ 0 := by
          unfold cleft
          rw [cst_4, if_pos rfl, recM_p (by decide) (by decide) (by decide) (by decide), b4, b3, Int32.zero_add, i_le, i_0, i_sub (by rw [i_60 (by omega) (by omega)]; omega) (by rw [i_60 (by omega) (by omega)]; omega), i_60 (by omega) (by omega)]
          omega
        show (if a1 * a2 ≤ 0 then _ else if ¬ nI nr = nI (nr + 1) then (if cleft _ (-1) nr (a1 * a2) ≤ 0 then cnext _ (-1) nr (a1 * a2) else _) else _) = _
        rw [if_neg hw, if_pos (nI_ne (by omega) (by omega)), if_pos hc]
        exact if_pos hc
      rw [eC] at hC
      have eR : addReachM m a1 a2 a3 a4 a5 nr = mI (mI (recM (mI (mI (mI (mI (mI (mI (mI (mI m 7 (nr - 1) a3) 8 (nr - 1) a4) 9 (nr - 1) a5) 3 nr a1) 5 nr a2) 6 nr 100) 4 nr (a1 * a2)) 0 21 (m.1 0 21 + a1 * a2)) (-1) (nI nr) (a1 * a2)) 0 1 (m.1 0 1 + 1)) 0 0 0 := by
        unfold addReachM
        rw [recM_0 (by decide), mI_k (by decide), mI_p (by decide), mI_p (by decide), mI_p (by decide), mI_p (by decide), mI_p (by decide), mI_p (by decide), mI_p (by decide)]
      have v1 : mvN (mI (mI (mI (mI (mI (mI (mI (mI m 7 (nr - 1) a3) 8 (nr - 1) a4) 9 (nr - 1) a5) 3 nr a1) 5 nr a2) 6 nr 100) 4 nr (a1 * a2)) 0 21 (m.1 0 21 + a1 * a2)) = mvN m := mvN_0 (by rw [mI_k (by decide), mI_p (by decide), mI_p (by decide), mI_p (by decide), mI_p (by decide), mI_p (by decide), mI_p (by decide), mI_p (by decide)])
      have v2 : mvN (opB m nr a1 a3 a4 a5 (a1 * a2)) = mvN m := mvN_0 (opB_0 (by decide))
      rw [eR, recM_go hw9, v1]
      unfold cstep at hC
      rw [recM_4, recM_go hw9, v2] at hC
      refine hC.meq ?_ ?_ ⟨?_, ?_, ?_⟩ (fun p hp => ?_)
      · rw [mI_k (by decide), mI_s, mI_p (by decide), mI_k (by decide), mI_p (by decide), mI_p (by decide), mI_p (by decide)]; unfold opB; rw [mI_s, T.1.2.1, nI_1]
      · rw [mI_k (by decide), mI_k (by decide), mI_s, mI_p (by decide), mI_s]
      · simp only [opB, up2]; simp
      · simp only [opB, up2]; simp
      · simp only [opB, up2]; simp
      · funext j
        unfold opB
        unfold mW at hp
        rcases hp with rfl | rfl | rfl | rfl | rfl | rfl | rfl | rfl | rfl | rfl <;> simp only [up2] <;> simp
        rw [hz, Int32.zero_add]
  · have w0 : a1 * a2 = 0 := by rw [i_eq, i_0]; rw [i_le, i_0] at z; omega
    rw [opX_4, T.2 p hp, amt_opB h11, w0]
    by_cases z : p = 2
    · subst z; rw [if_pos rfl]; show - m.1 0 21 + _ = _; grind
    · rw [if_neg z]
  · rw [opX_4, T.2 p hp, amt_opB h11]
    by_cases z : p = 2
    · subst z; rw [if_pos rfl, if_pos rfl]; show - m.1 0 21 + _ = _; grind
    · rw [if_neg z, if_neg z]; simp
end
