section
theorem x1X_2 : x1X.2 = 1 := by decide +kernel
theorem x1X_s : x1X.1.2 = x0X.2 := by
  show (sendR (0 + 1) (0 + 1 - 0) (bedX x0X 0 20) 0 (-1) 2 0 (20 * 30)).1.2 = _
  rw [sendR_x]; rfl
/-- at the start -/
theorem TieW_start : TieW x1X.1 1 m0X 1 := by
  have z : ∀ k, k < 6 → 1 ≤ k → m0X.1 4 k = 0 := by decide +kernel
  refine ⟨⟨by decide +kernel, by decide +kernel, by decide, by decide, by decide +kernel, ?_, fun k h1 h2 => z k h2 h1, ⟨by decide +kernel, by decide +kernel, by decide, by decide +kernel⟩, ?_⟩, ?_⟩
  · show ∀ k, k < 1 → 1 ≤ (m0X.1 3 k).toInt ∧ (m0X.1 3 k).toInt ≤ 50 ∧ 0 ≤ (m0X.1 4 k).toInt ∧ (m0X.1 4 k).toInt ≤ 60 * (m0X.1 3 k).toInt
    decide +kernel
  · show ∀ k, k < 5 → x1X.1.1 3 k = m0X.1 7 k ∧ x1X.1.1 9 k = m0X.1 8 k ∧ x1X.1.1 10 k = m0X.1 9 k ∧ x1X.1.1 5 k = m0X.1 10 k ∧ (m0X.1 11 k = 0 ∨ m0X.1 11 k = 1) ∧ (k + 1 < 1 → 1 ≤ (m0X.1 7 k).toInt ∧ (m0X.1 7 k).toInt ≤ 200 ∧ 10 ≤ (m0X.1 8 k).toInt ∧ 5 ≤ (m0X.1 9 k).toInt) ∧ (1 ≤ k + 1 → m0X.1 11 k = 0 ∧ m0X.1 10 k = 0)
    decide +kernel
  · show ∀ p, p < 18 → x1X.1.1 4 p = amt m0X p + (if p = 0 then 0 else 0)
    decide +kernel
theorem TieR_start : TieR x1X.1 m0X 1 := by
  show ∀ k, k < 1 → x1X.1.1 11 k = m0X.1 6 k ∧ 1 ≤ (m0X.1 6 k).toInt ∧ (m0X.1 6 k).toInt ≤ 9999 ∧ x1X.1.1 12 k = m0X.1 5 k
  decide +kernel
theorem TieB_start : TieB x1X.1 m0X 0 := ⟨by decide, fun b hb => absurd hb (Nat.not_lt_zero b)⟩
theorem AtT_start : AtT x1X.1 m0X 0 1 := fun b hb => absurd hb (Nat.not_lt_zero b)
theorem CsT_start : CsT x1X.1 0 [] := ⟨List.nodup_nil, fun b => ⟨fun h => absurd h (Nat.not_lt_zero b), fun h => by cases h⟩, fun L h => by cases h⟩
theorem FdT_start : FdT x1X.1 m0X 0 := by
  have z : ∀ c, c < 8 → m0X.1 17 c = 0 := by decide +kernel
  refine ⟨by decide +kernel, by decide +kernel, by decide +kernel, ?_, by decide +kernel, by decide +kernel, fun w c _ => ?_, fun c _ h => z c h⟩
  · rw [x1X_s]; rfl
  · rw [x1X_s]; rfl
theorem TxT_start : TxT x1X.1 m0X 0 := ⟨by decide +kernel, by decide, fun i hi => absurd hi (Nat.not_lt_zero i)⟩
end
