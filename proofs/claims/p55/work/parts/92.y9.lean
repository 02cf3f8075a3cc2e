section
variable {x x' : Xs} {m m' : Ms} {n nr : Nat}
def refP0 (u b v : Int32) : Int32 := if b ≤ v then (if v ≤ b then u else (u - ((u + 9) / 10))) else (u + ((u + 9) / 10))
def refP (u b v : Int32) : Int32 := if refP0 u b v ≤ 9999 then (if 1 ≤ refP0 u b v then refP0 u b v else 1) else 9999
theorem i_d10 {u : Int32} (h1 : 1 ≤ u.toInt) (h2 : u.toInt ≤ 9999) : 1 ≤ ((u + 9) / 10).toInt ∧ ((u + 9) / 10).toInt ≤ 1000 := by
  have e9 : (9 : Int32).toInt = 9 := rfl
  have e10 : (10 : Int32).toInt = 10 := rfl
  have e : (u + 9).toInt = u.toInt + 9 := by rw [i_add (by omega) (by omega), e9]
  rw [Int32.toInt_div, e, e10, Int.tdiv_eq_ediv_of_nonneg (by omega), Int.bmod_eq_of_le (by omega) (by omega)]
  omega
theorem cp_eq {u b v : Int32} (h1 : 1 ≤ u.toInt) (h2 : u.toInt ≤ 9999) : cpX u b v = refP u b v ∧ 1 ≤ (cpX u b v).toInt ∧ (cpX u b v).toInt ≤ 9999 := by
  obtain ⟨d1, d2⟩ := i_d10 h1 h2
  have e1 : (u - (u + 9) / 10).toInt = u.toInt - ((u + 9) / 10).toInt := i_sub (by omega) (by omega)
  have e2 : (u + (u + 9) / 10).toInt = u.toInt + ((u + 9) / 10).toInt := i_add (by omega) (by omega)
  have c9 : (9999 : Int32).toInt = 9999 := rfl
  unfold refP refP0 cpX
  by_cases hb : b ≤ v
  · rw [if_pos hb, if_pos hb]
    by_cases hv : v ≤ b
    · rw [if_pos hv, if_pos hv, if_pos (by rw [i_le, c9]; exact h2), if_pos (by rw [i_le, i_1]; exact h1)]
      exact ⟨rfl, h1, h2⟩
    · have hle : u - (u + 9) / 10 ≤ 9999 := by rw [i_le, c9, e1]; omega
      rw [if_neg hv, if_neg hv, if_pos hle]
      by_cases hc : u - (u + 9) / 10 < 1
      · rw [if_pos hc, if_neg (Int32.not_le.mpr hc)]
        exact ⟨rfl, by rw [i_1]; omega, by rw [i_1]; omega⟩
      · rw [if_neg hc, if_pos (Int32.not_lt.mp hc)]
        rw [i_lt, i_1] at hc
        exact ⟨rfl, by omega, by omega⟩
  · rw [if_neg hb, if_neg hb]
    by_cases hc : 9999 < u + (u + 9) / 10
    · rw [if_pos hc, if_neg (Int32.not_le.mpr hc)]
      exact ⟨rfl, by rw [c9]; omega, by rw [c9]; omega⟩
    · rw [if_neg hc, if_pos (Int32.not_lt.mp hc), if_pos (by rw [i_le, i_1, e2]; omega)]
      rw [i_lt, c9] at hc
      exact ⟨rfl, by omega, by omega⟩
def TieR (x : Xs) (m : Ms) (nr : Nat) : Prop := ∀ k, k < nr → x.1 11 k = m.1 6 k ∧ 1 ≤ (m.1 6 k).toInt ∧ (m.1 6 k).toInt ≤ 9999 ∧ x.1 12 k = m.1 5 k
theorem lev_eq {k : Nat} (T : TieW x n m nr) (hk : k < 6) : x.1 4 (k + 3) / x.1 2 k = levM m k := by
  unfold levM
  rw [T.2 (k + 3) (by omega), amt_k hk, T.1.2.2.2.2.1 k hk]; simp
theorem Mew2_m {a : Int32} {k : Nat} : Mew2Fm m a k = mI (mI m 6 k (refP (m.1 6 k) (m.1 5 k) (levM m k))) 5 k (levM m k) := by
  have e : levM (mI m 6 k (refP (m.1 6 k) (m.1 5 k) (levM m k))) k = levM m k := by
    unfold levM
    rw [mI_p (by decide), mI_p (by decide)]
  exact Eq.trans (show Mew2Fm m a k = mI (mI m 6 k (refP (m.1 6 k) (m.1 5 k) (levM m k))) 5 k (levM (mI m 6 k (refP (m.1 6 k) (m.1 5 k) (levM m k))) k) from rfl) (by rw [e])
theorem Mew2_a {a : Int32} {k : Nat} : Mew2Fa m a k = a + (if refP (m.1 6 k) (m.1 5 k) (levM m k) ≤ m.1 6 k then 0 else 1) := rfl
theorem Tie_ew2 (mx9 : Mz) : ∀ (f : Nat) (x : Xs) (m : Ms) (a : Int32) (k : Nat), TieW x n m nr → TieR x m nr → k + f = nr → TieW (Xew2F f mx9 x a k).1 n (Mew2F f m a k).1 nr ∧ TieR (Xew2F f mx9 x a k).1 (Mew2F f m a k).1 nr ∧ (Xew2F f mx9 x a k).2 = (Mew2F f m a k).2
  | 0, x, m, a, k, T, R, _ => ⟨T, R, rfl⟩
  | f + 1, x, m, a, k, T, R, hk => by
    have h6 := T.1.2.2.2.1
    obtain ⟨r1, r2, r3, r4⟩ := R k (by omega)
    obtain ⟨c1, c2, c3⟩ := cp_eq (b := m.1 5 k) (v := levM m k) r2 r3
    have el := lev_eq T (show k < 6 by omega)
    have eX : Xew2Fx mx9 x a k = xI (xI x 11 k (refP (m.1 6 k) (m.1 5 k) (levM m k))) 12 k (levM m k) := by
      unfold Xew2Fx
      rw [el, r1, r4, c1]
    have eA : Xew2Fa mx9 x a k = Mew2Fa m a k := by
      rw [Mew2_a]
      unfold Xew2Fa
      rw [el, r1, r4, c1, xI_s]
      by_cases z : refP (m.1 6 k) (m.1 5 k) (levM m k) ≤ m.1 6 k
      · rw [if_pos z, if_pos z]; simp
      · rw [if_neg z, if_neg z]
    have T' : TieW (Xew2Fx mx9 x a k) n (Mew2Fm m a k) nr := by
      rw [eX, Mew2_m]
      refine (T.xeq (by rw [xI_p (by decide), xI_p (by decide)]) (by rw [xI_p (by decide), xI_p (by decide)]) (fun p hp => by rw [xI_row (by unfold xW at hp; omega), xI_row (by unfold xW at hp; omega)])).meq (by rw [mI_p (by decide), mI_p (by decide)]) (by rw [mI_p (by decide), mI_p (by decide)]) ⟨by rw [mI_p (by decide), mI_p (by decide)], by rw [mI_p (by decide), mI_p (by decide)], by rw [mI_p (by decide), mI_p (by decide)]⟩ (fun p hp => by rw [mI_row (by unfold mW at hp; omega), mI_row (by unfold mW at hp; omega)])
    have R' : TieR (Xew2Fx mx9 x a k) (Mew2Fm m a k) nr := by
      rw [eX, Mew2_m]
      intro j hj
      rw [xI_p (by decide), mI_p (by decide)]
      by_cases z : j = k
      · subst z
        rw [xI_s, xI_s, mI_s, mI_s]
        rw [← c1]
        exact ⟨rfl, c2, c3, rfl⟩
      · rw [xI_k z, xI_k z, mI_k z, mI_k z, xI_p (by decide), mI_p (by decide)]
        exact R j hj
    have h := Tie_ew2 mx9 f (Xew2Fx mx9 x a k) (Mew2Fm m a k) (Xew2Fa mx9 x a k) (k + 1) T' R' (by omega)
    rw [eA] at h
    show TieW (Xew2F f mx9 (Xew2Fx mx9 x a k) (Xew2Fa mx9 x a k) (k + 1)).1 n (Mew2F f (Mew2Fm m a k) (Mew2Fa m a k) (k + 1)).1 nr ∧ TieR (Xew2F f mx9 (Xew2Fx mx9 x a k) (Xew2Fa mx9 x a k) (k + 1)).1 (Mew2F f (Mew2Fm m a k) (Mew2Fa m a k) (k + 1)).1 nr ∧ (Xew2F f mx9 (Xew2Fx mx9 x a k) (Xew2Fa mx9 x a k) (k + 1)).2 = (Mew2F f (Mew2Fm m a k) (Mew2Fa m a k) (k + 1)).2
    rw [eA]
    exact h
end
