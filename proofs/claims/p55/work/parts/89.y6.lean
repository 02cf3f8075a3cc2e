section
variable {x x' : Xs} {m m' : Ms} {n nr : Nat}
theorem xI_row {p k q : Nat} {v : Int32} (h : q ≠ p) : (xI x p k v).1 q = x.1 q := up2_p (f := x.1) (p := p) (k := k) (v := v) h
theorem mI_row {p k q : Nat} {v : Int32} (h : q ≠ p) : (mI m p k v).1 q = m.1 q := up2_p (f := m.1) (p := p) (k := k) (v := v) h
def opB (m : Ms) (nr : Nat) (a1 a3 a4 a5 w : Int32) : Ms := mI (mI (mI (mI (mI (mI m 7 (nr - 1) a3) 8 (nr - 1) a4) 9 (nr - 1) a5) 3 nr a1) 0 21 (m.1 0 21 + w)) 0 1 (nI (nr + 1))
def opX (x : Xs) (nr : Nat) (a1 a3 a4 a5 : Int32) : Xs := bedX (xI (xI (xI x 3 (nr - 1) a3) 9 (nr - 1) a4) 10 (nr - 1) a5) nr a1
theorem up_j {α : Type} {f : Nat → Nat → α} {p k j : Nat} {v : α} : up2 f p k v p j = if j = k then v else f p j := by simp [up2]
theorem TieP_open {a1 a2 a3 a4 a5 w : Int32} (T : TieW x n m nr) (hn6 : nr < 6) (h1 : 1 ≤ a1.toInt ∧ a1.toInt ≤ 50) (h3 : 1 ≤ a3.toInt ∧ a3.toInt ≤ 200) (h4 : 10 ≤ a4.toInt) (h5 : 5 ≤ a5.toInt) : TieP (opX x nr a1 a3 a4 a5) n (opB m nr a1 a3 a4 a5 w) (nr + 1) := by
  obtain ⟨⟨t1, t2, t3, t4, t5, t6, t7, t8, t9⟩, tA⟩ := T
  have m3 : ∀ j, (opB m nr a1 a3 a4 a5 w).1 3 j = if j = nr then a1 else m.1 3 j := fun j => by simp only [opB, up2]; simp
  have m4 : ∀ j, (opB m nr a1 a3 a4 a5 w).1 4 j = m.1 4 j := fun j => by simp only [opB, up2]; simp
  have m7 : ∀ j, (opB m nr a1 a3 a4 a5 w).1 7 j = if j = nr - 1 then a3 else m.1 7 j := fun j => by simp only [opB, up2]; simp
  have m8 : ∀ j, (opB m nr a1 a3 a4 a5 w).1 8 j = if j = nr - 1 then a4 else m.1 8 j := fun j => by simp only [opB, up2]; simp
  have m9 : ∀ j, (opB m nr a1 a3 a4 a5 w).1 9 j = if j = nr - 1 then a5 else m.1 9 j := fun j => by simp only [opB, up2]; simp
  have mo : ∀ p j, p ≠ 7 ∧ p ≠ 8 ∧ p ≠ 9 ∧ p ≠ 3 ∧ p ≠ 0 → (opB m nr a1 a3 a4 a5 w).1 p j = m.1 p j := fun p j h => by simp only [opB, up2]; simp [h]
  have x2 : ∀ j, (opX x nr a1 a3 a4 a5).1 2 j = if j = nr then a1 else x.1 2 j := fun j => by simp only [opX, bedX, up2]; simp
  have x3 : ∀ j, (opX x nr a1 a3 a4 a5).1 3 j = if j = nr - 1 then a3 else x.1 3 j := fun j => by simp only [opX, bedX, up2]; simp
  have x9 : ∀ j, (opX x nr a1 a3 a4 a5).1 9 j = if j = nr - 1 then a4 else x.1 9 j := fun j => by simp only [opX, bedX, up2]; simp
  have x10 : ∀ j, (opX x nr a1 a3 a4 a5).1 10 j = if j = nr - 1 then a5 else x.1 10 j := fun j => by simp only [opX, bedX, up2]; simp
  have xo : ∀ p j, p ≠ 1 ∧ p ≠ 2 ∧ p ≠ 3 ∧ p ≠ 9 ∧ p ≠ 10 → (opX x nr a1 a3 a4 a5).1 p j = x.1 p j := fun p j h => by simp only [opX, bedX, up2]; simp [h]
  refine ⟨?_, ?_, by omega, by omega, fun k hk => ?_, fun k hk => ?_, fun k h9 h10 => ?_, ⟨?_, ?_, t8.2.2.1, fun j hj => ?_⟩, fun k hk => ?_⟩
  · exact xI_s
  · exact mI_s
  · rw [x2, m3, t5 k hk]
  · rw [m3, m4]
    by_cases z : k = nr
    · subst z
      rw [if_pos rfl, t7 k (by omega) (by omega), i_0]
      omega
    · rw [if_neg z]; exact t6 k (by omega)
  · rw [m4]; exact t7 k (by omega) h10
  · rw [xo _ _ (by decide)]; exact t8.1
  · show (mI (mI _ 0 21 _) 0 1 _).1 0 24 = _
    rw [mI_k (by decide), mI_k (by decide), mI_p (by decide), mI_p (by decide), mI_p (by decide), mI_p (by decide)]; exact t8.2.1
  · rw [xo _ _ (by decide), xo _ _ (by decide), xo _ _ (by decide), mo _ _ (by decide), mo _ _ (by decide), mo _ _ (by decide)]; exact t8.2.2.2 j hj
  · obtain ⟨u1, u2, u3, u4, u5, u6, u7⟩ := t9 k hk
    rw [x3, x9, x10, m7, m8, m9, xo _ _ (by decide), mo _ _ (by decide), mo _ _ (by decide)]
    by_cases z : k = nr - 1
    · rw [if_pos z, if_pos z, if_pos z, if_pos z, if_pos z, if_pos z]
      exact ⟨rfl, rfl, rfl, u4, u5, fun _ => ⟨h3.1, h3.2, h4, h5⟩, fun h => u7 (by omega)⟩
    · rw [if_neg z, if_neg z, if_neg z, if_neg z, if_neg z, if_neg z]
      exact ⟨u1, u2, u3, u4, u5, fun h => u6 (by omega), fun h => u7 (by omega)⟩
end
