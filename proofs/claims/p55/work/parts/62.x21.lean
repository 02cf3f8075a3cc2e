section
variable {l : Launch} {G : az_G} {ρ : Rp} {x : Xs} {m : Mz} {ou : Nat → Int64}
theorem sdX_1 {n p j : Nat} {u v w : Int32} {a b : Nat} (h4 : p ≠ 4) (h8 : p ≠ 8) (h0 : p ≠ 20) (h1 : p ≠ 21) (h2 : p ≠ 22) : (sdX x n u a v b w).1 p j = x.1 p j := by
  simp only [sdX, addX, xI]
  rw [up2_p h8, up2_p h2, up2_p h1, up2_p h0, up2_p h4, up2_p h4]
theorem sendR_1 {nr p j : Nat} (h4 : p ≠ 4) (h8 : p ≠ 8) (h0 : p ≠ 20) (h1 : p ≠ 21) (h2 : p ≠ 22) : ∀ (f : Nat) (x : Xs) (n : Nat) (u : Int32) (a k : Nat) (w : Int32), (sendR nr f x n u a k w).1.1 p j = x.1 p j
  | 0, _, _, _, _, _, _ => rfl
  | f + 1, x, n, u, a, k, w => by
    rw [sendR]
    split
    · rfl
    · split
      · exact (sendR_1 h4 h8 h0 h1 h2 f _ _ _ _ _ _).trans (sdX_1 h4 h8 h0 h1 h2)
      · split
        · exact sdX_1 h4 h8 h0 h1 h2
        · exact (sdX_1 h4 h8 h0 h1 h2).trans (sdX_1 h4 h8 h0 h1 h2)
theorem sendR_x {nr : Nat} : ∀ (f : Nat) (x : Xs) (n : Nat) (u : Int32) (a k : Nat) (w : Int32), (sendR nr f x n u a k w).1.2 = x.2
  | 0, _, _, _, _, _, _ => rfl
  | f + 1, x, n, u, a, k, w => by
    rw [sendR]
    split
    · rfl
    · split
      · exact sendR_x f _ _ _ _ _ _
      · split <;> rfl
theorem MvX_R {nr : Nat} : ∀ (f : Nat) {ρ : Rp} (x : Xs) (n t : Nat) (u : Int32) (a k : Nat) (w : Int32) (a9 : Nat → Nat), MvX ρ x n (f + 1 + t) → MvX (gR ρ a9 (capT ρ.2.2.2.1 (sendR nr f x n u a k w).2)) (sendR nr f x n u a k w).1 (sendR nr f x n u a k w).2 t
  | 0, ρ, x, n, t, u, a, k, w, a9, h => MvX_0 (MvX_le h (by omega))
  | f + 1, ρ, x, n, t, u, a, k, w, a9, h => by
    rw [sendR]
    split
    · exact MvX_0 (MvX_le h (by omega))
    · split
      · have h1 : MvX (gR ρ a9 (capT ρ.2.2.2.1 (n + 1))) (sdX x n u a (nI k) (k + 3) w) (n + 1) (f + 1 + t) := MvX_sd (MvX_le h (by omega))
        have h2 := MvX_R (nr := nr) f _ (n + 1) t (nI k) (k + 3) (k + 1) ((sdX x n u a (nI k) (k + 3) w).1 4 (k + 3) - 60 * (sdX x n u a (nI k) (k + 3) w).1 2 k) a9 h1
        have hge := sendR_ge (nr := nr) f (sdX x n u a (nI k) (k + 3) w) (n + 1) (nI k) (k + 3) (k + 1) ((sdX x n u a (nI k) (k + 3) w).1 4 (k + 3) - 60 * (sdX x n u a (nI k) (k + 3) w).1 2 k)
        have hle := sendR_le (nr := nr) f (sdX x n u a (nI k) (k + 3) w) (n + 1) (nI k) (k + 3) (k + 1) ((sdX x n u a (nI k) (k + 3) w).1 4 (k + 3) - 60 * (sdX x n u a (nI k) (k + 3) w).1 2 k)
        have h3 := capT_c (c := ρ.2.2.2.1) hge (by have := h.2.2.2.1; omega)
        have h4 : MvX (gR ρ a9 (capT (capT ρ.2.2.2.1 (n + 1)) (sendR nr f (sdX x n u a (nI k) (k + 3) w) (n + 1) (nI k) (k + 3) (k + 1) ((sdX x n u a (nI k) (k + 3) w).1 4 (k + 3) - 60 * (sdX x n u a (nI k) (k + 3) w).1 2 k)).2)) _ _ t := h2
        rw [h3] at h4
        exact h4
      · split
        · exact MvX_sd (MvX_le h (by omega))
        · have h1 : MvX (gR ρ a9 (capT ρ.2.2.2.1 (n + 1))) (sdX x n u a (nI k) (k + 3) w) (n + 1) (t + 1) := MvX_sd (MvX_le h (by omega))
          have h2 := MvX_sd (u := nI k) (v := -2) (w := (sdX x n u a (nI k) (k + 3) w).1 4 (k + 3) - 60 * (sdX x n u a (nI k) (k + 3) w).1 2 k) (a := k + 3) (b := 1) (a9 := a9) h1
          have h3 : capT (capT ρ.2.2.2.1 (n + 1)) (n + 1 + 1) = capT ρ.2.2.2.1 (n + 2) := capT_c (by omega) (by have := h.2.2.2.1; omega)
          have h4 : MvX (gR ρ a9 (capT (capT ρ.2.2.2.1 (n + 1)) (n + 1 + 1))) _ (n + 1 + 1) t := h2
          rw [h3] at h4
          exact h4
theorem MvX_em {n nr k t : Nat} {a9 : Nat → Nat} (hk : k + 1 ≤ nr) (h : MvX ρ x n (nr + t)) : MvX (gR ρ a9 (capT ρ.2.2.2.1 (emptyX x n nr k).2)) (emptyX x n nr k).1 (emptyX x n nr k).2 t := by
  have h0 : MvX ρ (xI x 5 k (x.1 5 k + x.1 3 k)) n (nr - (k + 1) + 1 + t) := MvX_le (t := nr + t) h (by omega)
  exact MvX_R _ _ n t _ _ _ _ a9 h0
theorem MvX_fi {n k t : Nat} {a9 : Nat → Nat} (h : MvX ρ x n (t + 1)) : MvX (gR ρ a9 (capT ρ.2.2.2.1 (fillX x n k).2)) (fillX x n k).1 (fillX x n k).2 t := MvX_O h
theorem em_ge {n nr k : Nat} (hk : k + 1 ≤ nr) : n ≤ (emptyX x n nr k).2 ∧ (emptyX x n nr k).2 ≤ n + nr := by
  have h1 := sendR_ge (nr := nr) (nr - (k + 1)) (xI x 5 k (x.1 5 k + x.1 3 k)) n (10 + nI k) (k + 13) (k + 1) ((xI x 5 k (x.1 5 k + x.1 3 k)).1 3 k)
  have h2 := sendR_le (nr := nr) (nr - (k + 1)) (xI x 5 k (x.1 5 k + x.1 3 k)) n (10 + nI k) (k + 13) (k + 1) ((xI x 5 k (x.1 5 k + x.1 3 k)).1 3 k)
  unfold emptyX
  omega
theorem em_1 {n nr k p j : Nat} (h4 : p ≠ 4) (h5 : p ≠ 5) (h8 : p ≠ 8) (h0 : p ≠ 20) (h1 : p ≠ 21) (h2 : p ≠ 22) : (emptyX x n nr k).1.1 p j = x.1 p j := by
  unfold emptyX
  rw [sendR_1 h4 h8 h0 h1 h2]
  simp only [xI]
  rw [up2_p h5]
theorem em_x {n nr k : Nat} : (emptyX x n nr k).1.2 = x.2 := (sendR_x _ _ _ _ _ _ _).trans rfl
theorem fi_1 {n k p j : Nat} (h4 : p ≠ 4) (h8 : p ≠ 8) (h0 : p ≠ 20) (h1 : p ≠ 21) (h2 : p ≠ 22) : (fillX x n k).1.1 p j = x.1 p j := sendO_1 h4 h8 h0 h1 h2
theorem fi_x {n k : Nat} : (fillX x n k).1.2 = x.2 := by
  unfold fillX sendO; split <;> rfl
/-- part after part: the state, how many movements, the reason -/
def tpX (nr lk : Nat) (dn : Bool) : Nat → Xs → Nat → List Nat → (Xs × Nat) × Int32
  | 0, x, n, _ => ((x, n), 0)
  | _ + 1, x, n, [] => ((x, n), 0)
  | f + 1, x, n, b :: r =>
    if levX9 x (rIn dn lk) ≤ mxD x (b :: paX x (x.1 9 lk) r (x.2.1 b 1)) 0 then ((x, n), 3)
    else if (tpA x n nr lk dn).1.1 4 (lk + 13) ≤ 0 ∧ (tpA x n nr lk dn).1.1 4 (lk + 3) < (tpA x n nr lk dn).1.1 3 lk then (tpA x n nr lk dn, 4)
    else if levX9 (tpC (tpB (tpA x n nr lk dn).1 (tpA x n nr lk dn).2 lk).1 (tpB (tpA x n nr lk dn).1 (tpA x n nr lk dn).2 lk).2 nr lk dn).1 (rOut dn lk) ≤ mxD x (b :: paX x (x.1 9 lk) r (x.2.1 b 1)) 0 then (tpC (tpB (tpA x n nr lk dn).1 (tpA x n nr lk dn).2 lk).1 (tpB (tpA x n nr lk dn).1 (tpA x n nr lk dn).2 lk).2 nr lk dn, 5)
    else tpX nr lk dn f (tpC (tpB (tpA x n nr lk dn).1 (tpA x n nr lk dn).2 lk).1 (tpB (tpA x n nr lk dn).1 (tpA x n nr lk dn).2 lk).2 nr lk dn).1 (tpC (tpB (tpA x n nr lk dn).1 (tpA x n nr lk dn).2 lk).1 (tpB (tpA x n nr lk dn).1 (tpA x n nr lk dn).2 lk).2 nr lk dn).2 (epX x (x.1 9 lk) r (x.2.1 b 1))
end
