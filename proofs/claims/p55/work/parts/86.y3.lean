section
theorem i_add {a b : Int32} (h1 : -2147483648 ≤ a.toInt + b.toInt) (h2 : a.toInt + b.toInt < 2147483648) : (a + b).toInt = a.toInt + b.toInt := by
  rw [Int32.toInt_add]
  exact Int.bmod_eq_of_le (by omega) (by omega)
theorem i_sub {a b : Int32} (h1 : -2147483648 ≤ a.toInt - b.toInt) (h2 : a.toInt - b.toInt < 2147483648) : (a - b).toInt = a.toInt - b.toInt := by
  rw [Int32.toInt_sub]
  exact Int.bmod_eq_of_le (by omega) (by omega)
theorem i_mul {a b : Int32} (h1 : -2147483648 ≤ a.toInt * b.toInt) (h2 : a.toInt * b.toInt < 2147483648) : (a * b).toInt = a.toInt * b.toInt := by
  rw [Int32.toInt_mul]
  exact Int.bmod_eq_of_le (by omega) (by omega)
theorem i_60 {a : Int32} (h1 : 0 ≤ a.toInt) (h2 : a.toInt ≤ 1000) : (60 * a).toInt = 60 * a.toInt := by
  have e : (60 : Int32).toInt = 60 := rfl
  rw [i_mul (by rw [e]; omega) (by rw [e]; omega), e]
theorem i_le {a b : Int32} : a ≤ b ↔ a.toInt ≤ b.toInt := Int32.le_iff_toInt_le
theorem i_lt {a b : Int32} : a < b ↔ a.toInt < b.toInt := Int32.lt_iff_toInt_lt
theorem i_0 : (0 : Int32).toInt = 0 := rfl
theorem i_1 : (1 : Int32).toInt = 1 := rfl
theorem i_eq {a b : Int32} : a = b ↔ a.toInt = b.toInt := Int32.toInt_inj.symm
theorem i_nI {k : Nat} (h : k < 2 ^ 31) : (nI k).toInt = k := by
  exact Int32.toInt_ofNat_of_lt h
variable {x : Xs} {m : Ms}
theorem mI_s {p k : Nat} {v : Int32} : (mI m p k v).1 p k = v := up2_s (f := m.1) (p := p) (k := k) (v := v)
theorem mI_k {p k j : Nat} {v : Int32} (h : j ≠ k) : (mI m p k v).1 p j = m.1 p j := up2_k (f := m.1) (p := p) (k := k) (v := v) h
theorem mI_p {p k q j : Nat} {v : Int32} (h : q ≠ p) : (mI m p k v).1 q j = m.1 q j := congrFun (up2_p (f := m.1) (p := p) (k := k) (v := v) h) j
theorem xI_s {p k : Nat} {v : Int32} : (xI x p k v).1 p k = v := up2_s (f := x.1) (p := p) (k := k) (v := v)
theorem xI_k {p k j : Nat} {v : Int32} (h : j ≠ k) : (xI x p k v).1 p j = x.1 p j := up2_k (f := x.1) (p := p) (k := k) (v := v) h
theorem xI_p {p k q j : Nat} {v : Int32} (h : q ≠ p) : (xI x p k v).1 q j = x.1 q j := congrFun (up2_p (f := x.1) (p := p) (k := k) (v := v) h) j
def VB (m : Ms) (nr : Nat) : Prop := ∀ k, k < nr → 1 ≤ (m.1 3 k).toInt ∧ (m.1 3 k).toInt ≤ 50 ∧ 0 ≤ (m.1 4 k).toInt ∧ (m.1 4 k).toInt ≤ 60 * (m.1 3 k).toInt
def VZ (m : Ms) (nr : Nat) : Prop := ∀ k, nr ≤ k → k < 6 → m.1 4 k = 0
theorem VB.eq {m' : Ms} {nr : Nat} (h : VB m nr) (e3 : ∀ k, k < nr → m'.1 3 k = m.1 3 k) (e4 : ∀ k, k < nr → m'.1 4 k = m.1 4 k) : VB m' nr := fun k hk => by rw [e3 k hk, e4 k hk]; exact h k hk
theorem cst_4 {u w : Int32} {k j : Nat} : (cstep m u k w).1 4 j = if j = k then m.1 4 k + w else m.1 4 j := by
  unfold cstep
  rw [recM_4]
  by_cases z : j = k
  · subst z; rw [if_pos rfl, mI_s]
  · rw [if_neg z, mI_k z, recM_4]
theorem cst_3 {u w : Int32} {k j : Nat} : (cstep m u k w).1 3 j = m.1 3 j := by
  unfold cstep
  rw [mI_p (by decide)]
  exact recM_p (by decide) (by decide) (by decide) (by decide)
theorem comes_vb {nr : Nat} : ∀ (n : Nat) (m : Ms) (src : Int32) (k : Nat) (left : Int32), VB m nr → VZ m nr → k ≤ nr → nr ≤ 6 → left.toInt ≤ 10000 → VB (comesM n m nr src k left) nr ∧ VZ (comesM n m nr src k left) nr
  | 0, m, src, k, left, h, hz, _, _, _ => ⟨h, hz⟩
  | n + 1, m, src, k, left, h, hz, hk, h6, hl => by
    show VB (if left ≤ 0 then m else if ¬ nI k = nI nr then comesM n (cnext m src k left) nr (nI k) (k + 1) (cleft m src k left) else mI (recM m src (-2) left) 0 22 ((recM m src (-2) left).1 0 22 + left)) nr ∧ VZ (if left ≤ 0 then m else if ¬ nI k = nI nr then comesM n (cnext m src k left) nr (nI k) (k + 1) (cleft m src k left) else mI (recM m src (-2) left) 0 22 ((recM m src (-2) left).1 0 22 + left)) nr
    by_cases hw : left ≤ 0
    · rw [if_pos hw]; exact ⟨h, hz⟩
    · rw [if_neg hw]
      rw [i_le, i_0] at hw
      by_cases hkn : nI k = nI nr
      · rw [if_neg (fun z => z hkn)]
        refine ⟨h.eq (fun k _ => ?_) (fun k _ => ?_), fun k h1 h2 => ?_⟩
        · rw [mI_p (by decide)]; exact recM_p (by decide) (by decide) (by decide) (by decide)
        · rw [mI_p (by decide)]; exact recM_4
        · rw [mI_p (by decide)]; exact recM_4.trans (hz k h1 h2)
      · rw [if_pos hkn]
        have hk9 : k < nr := by
          by_cases z : k = nr
          · exact absurd (by rw [z]) hkn
          · omega
        obtain ⟨a1, a2, v1, v2⟩ := h k hk9
        have e1 : (m.1 4 k + left).toInt = (m.1 4 k).toInt + left.toInt := i_add (by omega) (by omega)
        have e3 : (recM m src (nI k) left).1 3 k = m.1 3 k := recM_p (by decide) (by decide) (by decide) (by decide)
        have e2 : (cleft m src k left).toInt = (m.1 4 k).toInt + left.toInt - 60 * (m.1 3 k).toInt := by
          unfold cleft
          rw [cst_4, if_pos rfl, e3, i_sub (by rw [e1, i_60 (by omega) (by omega)]; omega) (by rw [e1, i_60 (by omega) (by omega)]; omega), e1, i_60 (by omega) (by omega)]
        have f3 : ∀ j, (cnext m src k left).1 3 j = m.1 3 j := fun j => cnext_p (by decide) (by decide) (by decide) (by decide) (by decide)
        have f4 : ∀ j, j ≠ k → (cnext m src k left).1 4 j = m.1 4 j := fun j hj => by
          unfold cnext
          split
          · rw [cst_4, if_neg hj]
          · rw [mI_k hj, cst_4, if_neg hj]
        have f5 : 0 ≤ ((cnext m src k left).1 4 k).toInt ∧ ((cnext m src k left).1 4 k).toInt ≤ 60 * (m.1 3 k).toInt := by
          unfold cnext
          split
          · rename_i hc
            rw [i_le, i_0, e2] at hc
            rw [cst_4, if_pos rfl, e1]
            omega
          · rename_i hc
            rw [i_le, i_0, e2] at hc
            rw [mI_s, cst_4, if_pos rfl, i_sub (by rw [e1, e2]; omega) (by rw [e1, e2]; omega), e1, e2]
            omega
        refine comes_vb n _ _ _ _ (fun j hj => ?_) (fun j h1 h2 => ?_) (by omega) h6 (by omega)
        · rw [f3]
          by_cases z : j = k
          · subst z; exact ⟨a1, a2, f5⟩
          · rw [f4 j z]; exact h j hj
        · rw [f4 j (by omega)]; exact hz j h1 h2
end
