section
variable {x x' : Xs} {m m' : Ms} {n nr : Nat}
def LkT (x : Xs) (m : Ms) (nr : Nat) : Prop := ∀ k, k < 5 → x.1 3 k = m.1 7 k ∧ x.1 9 k = m.1 8 k ∧ x.1 10 k = m.1 9 k ∧ x.1 5 k = m.1 10 k ∧ (m.1 11 k = 0 ∨ m.1 11 k = 1) ∧ (k + 1 < nr → 1 ≤ (m.1 7 k).toInt ∧ (m.1 7 k).toInt ≤ 200 ∧ 10 ≤ (m.1 8 k).toInt ∧ 5 ≤ (m.1 9 k).toInt) ∧ (nr ≤ k + 1 → m.1 11 k = 0 ∧ m.1 10 k = 0)
/-- the water of the class and of the reference, but for what is on its way -/
def TieP (x : Xs) (n : Nat) (m : Ms) (nr : Nat) : Prop := x.1 1 8 = nI nr ∧ m.1 0 1 = nI nr ∧ 1 ≤ nr ∧ nr ≤ 6 ∧ (∀ k, k < 6 → x.1 2 k = m.1 3 k) ∧ VB m nr ∧ VZ m nr ∧ RwT x n m ∧ LkT x m nr
def TieW (x : Xs) (n : Nat) (m : Ms) (nr : Nat) : Prop := TieP x n m nr ∧ AmT x m 0 0
/-- rows of the reference that the water's tie speaks of -/
def mW (p : Nat) : Prop := p = 3 ∨ p = 4 ∨ p = 7 ∨ p = 8 ∨ p = 9 ∨ p = 10 ∨ p = 11 ∨ p = 25 ∨ p = 26 ∨ p = 27
def xW (p : Nat) : Prop := p = 2 ∨ p = 3 ∨ p = 4 ∨ p = 5 ∨ p = 9 ∨ p = 10 ∨ p = 20 ∨ p = 21 ∨ p = 22
theorem amt_eq (h0 : m'.1 0 21 = m.1 0 21 ∧ m'.1 0 22 = m.1 0 22 ∧ m'.1 0 23 = m.1 0 23) (h : ∀ p, mW p → m'.1 p = m.1 p) {p : Nat} : amt m' p = amt m p := by
  unfold amt
  rw [h0.1, h0.2.1, h0.2.2, h 4 (by simp [mW]), h 7 (by simp [mW]), h 11 (by simp [mW])]
theorem TieP.meq (T : TieP x n m nr) (h1 : m'.1 0 1 = m.1 0 1) (h24 : m'.1 0 24 = m.1 0 24) (h : ∀ p, mW p → m'.1 p = m.1 p) : TieP x n m' nr := by
  obtain ⟨t1, t2, t3, t4, t5, t6, t7, t8, t9⟩ := T
  refine ⟨t1, h1.trans t2, t3, t4, fun k hk => ?_, t6.eq (fun k _ => ?_) (fun k _ => ?_), fun k a b => ?_, t8.eq h24 (h 25 (by simp [mW])) (h 26 (by simp [mW])) (h 27 (by simp [mW])), fun k hk => ?_⟩
  · rw [h 3 (by simp [mW])]; exact t5 k hk
  · rw [h 3 (by simp [mW])]
  · rw [h 4 (by simp [mW])]
  · rw [h 4 (by simp [mW])]; exact t7 k a b
  · rw [h 7 (by simp [mW]), h 8 (by simp [mW]), h 9 (by simp [mW]), h 10 (by simp [mW]), h 11 (by simp [mW])]; exact t9 k hk
theorem TieW.meq (T : TieW x n m nr) (h1 : m'.1 0 1 = m.1 0 1) (h24 : m'.1 0 24 = m.1 0 24) (h0 : m'.1 0 21 = m.1 0 21 ∧ m'.1 0 22 = m.1 0 22 ∧ m'.1 0 23 = m.1 0 23) (h : ∀ p, mW p → m'.1 p = m.1 p) : TieW x n m' nr := ⟨T.1.meq h1 h24 h, fun p hp => by rw [amt_eq h0 h]; exact T.2 p hp⟩
theorem TieP.xeq (T : TieP x n m nr) (h1 : x'.1 1 8 = x.1 1 8) (h8 : x'.1 8 3 = x.1 8 3) (h : ∀ p, xW p → x'.1 p = x.1 p) : TieP x' n m nr := by
  obtain ⟨t1, t2, t3, t4, t5, t6, t7, t8, t9⟩ := T
  refine ⟨h1.trans t1, t2, t3, t4, fun k hk => ?_, t6, t7, ⟨h8.trans t8.1, t8.2.1, t8.2.2.1, fun j hj => ?_⟩, fun k hk => ?_⟩
  · rw [h 2 (by simp [xW])]; exact t5 k hk
  · rw [h 20 (by simp [xW]), h 21 (by simp [xW]), h 22 (by simp [xW])]; exact t8.2.2.2 j hj
  · rw [h 3 (by simp [xW]), h 9 (by simp [xW]), h 10 (by simp [xW]), h 5 (by simp [xW])]; exact t9 k hk
theorem TieW.xeq (T : TieW x n m nr) (h1 : x'.1 1 8 = x.1 1 8) (h8 : x'.1 8 3 = x.1 8 3) (h : ∀ p, xW p → x'.1 p = x.1 p) : TieW x' n m nr := ⟨T.1.xeq h1 h8 h, fun p hp => by rw [h 4 (by simp [xW])]; exact T.2 p hp⟩
/-- a field of the reference that the water's tie does not speak of -/
theorem TieW.f0 (T : TieW x n m nr) {j : Nat} {v : Int32} (h : j ≠ 1 ∧ j ≠ 21 ∧ j ≠ 22 ∧ j ≠ 23 ∧ j ≠ 24) : TieW x n (mI m 0 j v) nr :=
  T.meq (mI_k h.1.symm) (mI_k h.2.2.2.2.symm) ⟨mI_k h.2.1.symm, mI_k h.2.2.1.symm, mI_k h.2.2.2.1.symm⟩ (fun p hp => funext fun k => mI_p (by unfold mW at hp; omega))
theorem comes_mW {nr : Nat} {f k : Nat} {src left : Int32} {p j : Nat} (h : p = 3 ∨ p = 7 ∨ p = 8 ∨ p = 9 ∨ p = 10 ∨ p = 11) : (comesM f m nr src k left).1 p j = m.1 p j := comesM_p (by omega) (by omega) (by omega) (by omega) (by omega) _ _ _ _ _ _
theorem TieW_send {f k a : Nat} {u w : Int32} (T : TieP x n m nr) (hk : k + (f + 1) = nr) (hn : n + f + 3 < 2 ^ 30) (ha : a < 18) (hak : a ≠ k + 3) (hw : w.toInt ≤ 10000) (h0 : w ≤ 0 → AmT x m 0 0) (h1 : ¬ w ≤ 0 → AmT x m a w) : TieW (sendR nr (f + 1) x n u a k w).1 (sendR nr (f + 1) x n u a k w).2 (comesM (f + 2) m nr u k w) nr := by
  obtain ⟨t1, t2, t3, t4, t5, t6, t7, t8, t9⟩ := T
  obtain ⟨hA, hR⟩ := send_tie t4 f x n m u a k w hk t5 t8 hn ha hak h0 h1
  obtain ⟨hV, hZ⟩ := comes_vb (f + 2) m u k w t6 t7 (by omega) t4 hw
  have e3 : ∀ k9, (comesM (f + 2) m nr u k w).1 3 k9 = m.1 3 k9 := fun k9 => comes_mW (by omega)
  refine ⟨⟨(sendR_1 (by decide) (by decide) (by decide) (by decide) (by decide) _ _ _ _ _ _ _).trans t1, (comesM_0 (by decide) (by decide) _ _ _ _ _ _).trans t2, t3, t4, fun k9 h9 => ?_, hV, hZ, hR, fun k9 h9 => ?_⟩, hA⟩
  · rw [sendR_1 (by decide) (by decide) (by decide) (by decide) (by decide), e3]; exact t5 k9 h9
  · rw [sendR_1 (by decide) (by decide) (by decide) (by decide) (by decide), sendR_1 (by decide) (by decide) (by decide) (by decide) (by decide), sendR_1 (by decide) (by decide) (by decide) (by decide) (by decide), sendR_1 (by decide) (by decide) (by decide) (by decide) (by decide), comes_mW (by omega), comes_mW (by omega), comes_mW (by omega), comes_mW (by omega), comes_mW (by omega)]
    exact t9 k9 h9
/-- rain -/
theorem TieW_rain {k : Nat} {u : Int32} (T : TieW x n m nr) (hk : k < nr) (hn : n + 10 < 2 ^ 30) (hu : 1 ≤ u ∧ u ≤ 5000) : TieW (rainX x n nr k u).1 (rainX x n nr k u).2 (comesM (nr + 1 - k) (mI m 0 21 (m.1 0 21 + u)) nr (-1) k u) nr := by
  obtain ⟨f, hf⟩ : ∃ f, nr = k + (f + 1) := ⟨nr - k - 1, by omega⟩
  have h6 := T.1.2.2.2.1
  have hu2 : u.toInt ≤ 5000 := by have := i_le.mp hu.2; have e : (5000 : Int32).toInt = 5000 := rfl; omega
  have hu1 : ¬ u ≤ 0 := by have := i_le.mp hu.1; rw [i_le, i_0]; rw [i_1] at this; omega
  unfold rainX
  rw [show nr - k = f + 1 by omega, show nr + 1 - k = f + 2 by omega]
  refine TieW_send (T.1.meq (mI_k (by decide)) (mI_k (by decide)) (fun p hp => funext fun k => mI_p (by unfold mW at hp; omega))) hf.symm (by omega) (by decide) (by omega) (by omega) (fun z => absurd z hu1) (fun _ p hp => ?_)
  rw [T.2 p hp, amt_came]
  by_cases z : p = 2
  · subst z; rw [if_pos rfl, if_pos rfl]; show - m.1 0 21 + _ = _; grind
  · rw [if_neg z, if_neg z]; simp
end
