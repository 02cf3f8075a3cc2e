section
variable {x x' : Xs} {m m' : Ms} {m9 : Mz} {n n' nr nb k b r : Nat}
theorem lev_i (T : TieW x n m nr) (hk : k < nr) : 0 ≤ (levM m k).toInt ∧ (levM m k).toInt ≤ 60 := by
  obtain ⟨a1, a2, v1, v2⟩ := T.1.2.2.2.2.2.1 k hk
  have h0 : 0 ≤ (m.1 4 k).toInt / (m.1 3 k).toInt := Int.ediv_nonneg v1 (by omega)
  have h1 : (m.1 4 k).toInt / (m.1 3 k).toInt ≤ 60 := by
    have : (m.1 4 k).toInt / (m.1 3 k).toInt < 61 := Int.ediv_lt_of_lt_mul (by omega) (by omega)
    omega
  unfold levM
  rw [Int32.toInt_div, Int.tdiv_eq_ediv_of_nonneg v1, Int.bmod_eq_of_le (by omega) (by omega)]
  exact ⟨h0, h1⟩
theorem xY_s {j i : Nat} {v : Int32} : (xY x j i v).2.1 j i = v := up2_s (f := x.2.1) (p := j) (k := i) (v := v)
theorem xY_k {j i j' i' : Nat} {v : Int32} (h : ¬ (j' = j ∧ i' = i)) : (xY x j i v).2.1 j' i' = x.2.1 j' i' := by
  by_cases z : j' = j
  · subst z; exact up2_k (f := x.2.1) (p := j') (k := i) (v := v) (fun e => h ⟨rfl, e⟩)
  · exact congrFun (up2_p (f := x.2.1) (p := j) (k := i) (v := v) z) i'
theorem TieB_cargo (B : TieB x m nb) {v : Int32} (h0 : 0 ≤ v.toInt) (h1 : v.toInt ≤ 1200) : TieB (xY x b 5 v) (mI m 17 b v) nb := by
  refine ⟨B.1, fun c hc => ?_⟩
  obtain ⟨e1, e2, e3, e4, ⟨f1, f2, f3, f4, f5, f6, f7, f8⟩, e5, e6, e7⟩ := B.2 c hc
  rw [xY_k (by omega), xY_k (by omega), xY_k (by omega), mI_p (q := 14) (by decide), mI_p (q := 15) (by decide), mI_p (q := 16) (by decide), mI_p (q := 18) (by decide), mI_p (q := 19) (by decide)]
  by_cases z : c = b
  · subst z
    rw [xY_s, mI_s]
    exact ⟨e1, e2, e3, rfl, ⟨f1, f2, f3, f4, f5, f6, h0, h1⟩, e5, e6, e7⟩
  · rw [xY_k (by omega), mI_k z]
    exact ⟨e1, e2, e3, e4, ⟨f1, f2, f3, f4, f5, f6, f7, f8⟩, e5, e6, e7⟩
/-- what is afloat carries less than 1200 -/
theorem cargo_le {c h t9 L : Int32} (hh : 2 ≤ h.toInt ∧ h.toInt ≤ 20) (ht : 1 ≤ t9.toInt ∧ t9.toInt ≤ 20) (hc : 0 ≤ c.toInt ∧ c.toInt ≤ 100000) (hL : L.toInt ≤ 60) (hf : ¬ L ≤ h + ((c + t9) - 1) / t9) : c.toInt ≤ 1200 := by
  have a1 : (c + t9).toInt = c.toInt + t9.toInt := i_add (by omega) (by omega)
  have a2 : (c + t9 - 1).toInt = c.toInt + t9.toInt - 1 := by rw [i_sub (by rw [i_1]; omega) (by rw [i_1]; omega), a1, i_1]
  have b0 : 0 ≤ (c.toInt + t9.toInt - 1) / t9.toInt := Int.ediv_nonneg (by omega) (by omega)
  have b1 : (c.toInt + t9.toInt - 1) / t9.toInt ≤ c.toInt + t9.toInt - 1 := Int.ediv_le_self _ (by omega)
  have a5 : ((c + t9 - 1) / t9).toInt = (c.toInt + t9.toInt - 1) / t9.toInt := by
    rw [Int32.toInt_div, a2, Int.tdiv_eq_ediv_of_nonneg (by omega)]
    exact Int.bmod_eq_of_le (by omega) (by omega)
  rw [i_le, i_add (by rw [a5]; omega) (by rw [a5]; omega), a5] at hf
  have c1 : (c.toInt + t9.toInt - 1) / t9.toInt < 58 := by omega
  have c2 := (Int.ediv_lt_iff_lt_mul (show 0 < t9.toInt by omega)).mp c1
  have c3 : 58 * t9.toInt ≤ 58 * 20 := by omega
  omega
end
