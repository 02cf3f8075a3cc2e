section
variable {x x' : Xs} {m m' : Ms}
/-- what the class keeps at a place of its amounts, told from the reference -/
def amt (m : Ms) (p : Nat) : Int32 := if p = 0 then m.1 0 23 else if p = 1 then m.1 0 22 else if p = 2 then - m.1 0 21 else if p < 9 then m.1 4 (p - 3) else if p < 13 then 0 else if m.1 11 (p - 13) = 0 then 0 else m.1 7 (p - 13)
def RwT (x : Xs) (n : Nat) (m : Ms) : Prop := x.1 8 3 = nI n ∧ m.1 0 24 = nI n ∧ n < 2 ^ 30 ∧ ∀ j, j < n → x.1 20 j = m.1 25 j ∧ x.1 21 j = m.1 26 j ∧ x.1 22 j = m.1 27 j
def AmT (x : Xs) (m : Ms) (a : Nat) (w : Int32) : Prop := ∀ p, p < 18 → x.1 4 p = amt m p + (if p = a then w else 0)
theorem w_lt1 {w : Int32} (h : ¬ w ≤ 0) : ¬ w < 1 := by
  rw [Int32.le_iff_toInt_le] at h
  rw [Int32.lt_iff_toInt_lt]
  have e0 : (0 : Int32).toInt = 0 := rfl
  have e1 : (1 : Int32).toInt = 1 := rfl
  omega
theorem AmT_0 {a b : Nat} (h : AmT x m a 0) : AmT x m b 0 := fun p hp => by rw [h p hp]; simp
theorem RwT.eq {n : Nat} (h : RwT x n m) (e0 : m'.1 0 24 = m.1 0 24) (e1 : m'.1 25 = m.1 25) (e2 : m'.1 26 = m.1 26) (e3 : m'.1 27 = m.1 27) : RwT x n m' := ⟨h.1, e0.trans h.2.1, h.2.2.1, fun j hj => by rw [e1, e2, e3]; exact h.2.2.2 j hj⟩
theorem RwT.mI {n p j : Nat} {v : Int32} (h : RwT x n m) (h0 : p ≠ 25) (h1 : p ≠ 26) (h2 : p ≠ 27) (h3 : ¬ (p = 0 ∧ j = 24)) : RwT x n (mI m p j v) := h.eq (by
  show up2 m.1 p j v 0 24 = m.1 0 24
  by_cases z : p = 0
  · subst z; exact up2_k (fun e => h3 ⟨rfl, e.symm⟩)
  · rw [up2_p (fun e => z e.symm)]) (up2_p (fun e => h0 e.symm)) (up2_p (fun e => h1 e.symm)) (up2_p (fun e => h2 e.symm))
theorem mvN_n {n : Nat} (h : RwT x n m) : mvN m = n := by unfold mvN; rw [h.2.1, nI_clamp (by have := h.2.2.1; omega)]
theorem addX_p {n p : Nat} {u v w : Int32} (h : p ≠ 8 ∧ p ≠ 20 ∧ p ≠ 21 ∧ p ≠ 22) : (addX x n u v w).1 p = x.1 p := by
  show up2 (up2 (up2 (up2 x.1 20 n u) 21 n v) 22 n w) 8 3 (nI (n + 1)) p = _
  rw [up2_p h.1, up2_p h.2.2.2, up2_p h.2.2.1, up2_p h.2.1]
theorem recM_go {f t u : Int32} (h : ¬ u < 1) : recM m f t u = mI (mI (mI (mI m 25 (mvN m) f) 26 (mvN m) t) 27 (mvN m) u) 0 24 (nI (mvN m) + 1) := if_neg h
theorem RwT_add {n : Nat} {u v w : Int32} (h : RwT x n m) (e8 : x'.1 8 3 = x.1 8 3) (e0 : x'.1 20 = x.1 20) (e1 : x'.1 21 = x.1 21) (e2 : x'.1 22 = x.1 22) (hw : ¬ w < 1) (hn : n + 1 < 2 ^ 30) : RwT (addX x' n u v w) (n + 1) (recM m u v w) := by
  rw [recM_go hw, mvN_n h]
  refine ⟨?_, ?_, hn, fun j hj => ?_⟩
  · exact up2_s (f := up2 (up2 (up2 x'.1 20 n u) 21 n v) 22 n w) (p := 8) (k := 3) (v := nI (n + 1))
  · exact Eq.trans (up2_s (f := up2 (up2 (up2 m.1 25 n u) 26 n v) 27 n w) (p := 0) (k := 24) (v := nI n + 1)) (nI_1 n)
  · show up2 (up2 (up2 (up2 x'.1 20 n u) 21 n v) 22 n w) 8 3 (nI (n + 1)) 20 j = up2 (up2 (up2 (up2 m.1 25 n u) 26 n v) 27 n w) 0 24 (nI n + 1) 25 j ∧ up2 (up2 (up2 (up2 x'.1 20 n u) 21 n v) 22 n w) 8 3 (nI (n + 1)) 21 j = up2 (up2 (up2 (up2 m.1 25 n u) 26 n v) 27 n w) 0 24 (nI n + 1) 26 j ∧ up2 (up2 (up2 (up2 x'.1 20 n u) 21 n v) 22 n w) 8 3 (nI (n + 1)) 22 j = up2 (up2 (up2 (up2 m.1 25 n u) 26 n v) 27 n w) 0 24 (nI n + 1) 27 j
    have o := h.2.2.2 j
    by_cases z : j = n
    · subst z; simp [up2]
    · have o := o (by omega)
      simp [up2, z, e0, e1, e2, o]
theorem amt_rec {f t u : Int32} {p : Nat} : amt (recM m f t u) p = amt m p := by
  by_cases h : u < 1
  · unfold recM; rw [if_pos h]
  · rw [recM_go h]; simp [amt, up2]
theorem amt_4 {k p : Nat} {v : Int32} (hk : k < 6) : amt (mI m 4 k v) p = if p = k + 3 then v else amt m p := by
  simp only [amt, up2]; grind
theorem amt_sea {p : Nat} {v : Int32} : amt (mI m 0 22 v) p = if p = 1 then v else amt m p := by
  simp only [amt, up2]; grind
theorem amt_air {p : Nat} {v : Int32} : amt (mI m 0 23 v) p = if p = 0 then v else amt m p := by
  simp only [amt, up2]; grind
theorem amt_came {p : Nat} {v : Int32} : amt (mI m 0 21 v) p = if p = 2 then -v else amt m p := by
  simp only [amt, up2]; grind
theorem amt_full {k p : Nat} {v : Int32} (hp : p < 18) (hk : k < 5) : amt (mI m 11 k v) p = if p = k + 13 then (if v = 0 then 0 else m.1 7 k) else amt m p := by
  simp only [amt, up2]; grind
theorem amt_o {q j p : Nat} {v : Int32} (h : q ≠ 4 ∧ q ≠ 7 ∧ q ≠ 11) (h0 : q = 0 → j ≠ 21 ∧ j ≠ 22 ∧ j ≠ 23) : amt (mI m q j v) p = amt m p := by
  unfold amt
  have e4 : (mI m q j v).1 4 = m.1 4 := up2_p (fun e => h.1 e.symm)
  have e7 : (mI m q j v).1 7 = m.1 7 := up2_p (fun e => h.2.1 e.symm)
  have e11 : (mI m q j v).1 11 = m.1 11 := up2_p (fun e => h.2.2 e.symm)
  by_cases z : q = 0
  · subst z
    have hj := h0 rfl
    have e21 : (mI m 0 j v).1 0 21 = m.1 0 21 := up2_k (f := m.1) (p := 0) (k := j) (v := v) (fun e => hj.1 e.symm)
    have e22 : (mI m 0 j v).1 0 22 = m.1 0 22 := up2_k (f := m.1) (p := 0) (k := j) (v := v) (fun e => hj.2.1 e.symm)
    have e23 : (mI m 0 j v).1 0 23 = m.1 0 23 := up2_k (f := m.1) (p := 0) (k := j) (v := v) (fun e => hj.2.2 e.symm)
    rw [e4, e7, e11, e21, e22, e23]
  · have e0 : (mI m q j v).1 0 = m.1 0 := up2_p (fun e => z e.symm)
    rw [e0, e4, e7, e11]
theorem sdX_4 {n a b p : Nat} {u v w : Int32} (h : b ≠ a) : (sdX x n u a v b w).1 4 p = if p = b then x.1 4 b + w else if p = a then x.1 4 a - w else x.1 4 p := by
  unfold sdX
  rw [addX_p (by decide)]
  simp only [up2]; grind
theorem AmT_sd {n a b : Nat} {u v w : Int32} (h : AmT x m a w) (hab : b ≠ a) (hb : b < 18) (ha : a < 18) (hm : ∀ p, p < 18 → amt m' p = amt m p + if p = b then w else 0) : AmT (sdX x n u a v b w) m' 0 0 := by
  intro p hp
  rw [sdX_4 hab, hm p hp]
  have h1 := h p hp
  have h2 := h a ha
  have h3 := h b hb
  grind
end
