section
variable {x x' : Xs} {m m' : Ms}
theorem amt_k {k : Nat} (hk : k < 6) : amt m (k + 3) = m.1 4 k := by
  unfold amt
  rw [if_neg (by omega), if_neg (by omega), if_neg (by omega), if_pos (by omega)]
  rfl
theorem amt_ch {k : Nat} : amt m (k + 13) = if m.1 11 k = 0 then 0 else m.1 7 k := by
  unfold amt
  rw [if_neg (by omega), if_neg (by omega), if_neg (by omega), if_neg (by omega), if_neg (by omega)]
  rfl
theorem amt_1 : amt m 1 = m.1 0 22 := rfl
theorem nI_ne {a b : Nat} (h : a < b) (hb : b < 2 ^ 30) : ¬ nI a = nI b := fun z => nlt_nle h hb (by rw [z]; exact Int32.le_refl _)
theorem sdX_p {n a b p : Nat} {u v w : Int32} (h : p ≠ 4 ∧ p ≠ 8 ∧ p ≠ 20 ∧ p ≠ 21 ∧ p ≠ 22) : (sdX x n u a v b w).1 p = x.1 p := by
  unfold sdX
  rw [addX_p ⟨h.2.1, h.2.2.1, h.2.2.2.1, h.2.2.2.2⟩]
  show up2 (up2 x.1 4 a _) 4 b _ p = _
  rw [up2_p h.1, up2_p h.1]
theorem RwT_sd {n a b : Nat} {u v w : Int32} (h : RwT x n m) (hw : ¬ w ≤ 0) (hn : n + 1 < 2 ^ 30) : RwT (sdX x n u a v b w) (n + 1) (recM m u v w) := by
  unfold sdX
  have e : ∀ p, p ≠ 4 → (xI (xI x 4 a (x.1 4 a - w)) 4 b ((xI x 4 a (x.1 4 a - w)).1 4 b + w)).1 p = x.1 p := fun p hp => by
    show up2 (up2 x.1 4 a _) 4 b _ p = _
    rw [up2_p hp, up2_p hp]
  exact RwT_add h (congrFun (e 8 (by decide)) 3) (e 20 (by decide)) (e 21 (by decide)) (e 22 (by decide)) (w_lt1 hw) hn
theorem recM_4 {f t u : Int32} {k : Nat} : (recM m f t u).1 4 k = m.1 4 k := recM_p (by decide) (by decide) (by decide) (by decide)
theorem cst_tie {n a k : Nat} {u w : Int32} (hk : k < 6) (hA : AmT x m a w) (hR : RwT x n m) (hw : ¬ w ≤ 0) (hn : n + 1 < 2 ^ 30) (ha : a < 18) (hak : a ≠ k + 3) : AmT (sdX x n u a (nI k) (k + 3) w) (cstep m u k w) 0 0 ∧ RwT (sdX x n u a (nI k) (k + 3) w) (n + 1) (cstep m u k w) := by
  refine ⟨AmT_sd hA (fun e => hak e.symm) (by omega) ha (fun p hp => ?_), (RwT_sd hR hw hn).mI (by decide) (by decide) (by decide) (fun z => by cases z.1)⟩
  unfold cstep
  rw [amt_4 hk, amt_rec, recM_4]
  by_cases z : p = k + 3
  · subst z; rw [if_pos rfl, if_pos rfl, amt_k hk]
  · rw [if_neg z, if_neg z]; exact (Int32.add_zero _).symm
theorem send_tie {nr : Nat} (h6 : nr ≤ 6) : ∀ (f : Nat) (x : Xs) (n : Nat) (m : Ms) (u : Int32) (a k : Nat) (w : Int32), k + (f + 1) = nr → (∀ j, j < 6 → x.1 2 j = m.1 3 j) → RwT x n m → n + f + 3 < 2 ^ 30 → a < 18 → a ≠ k + 3 → (w ≤ 0 → AmT x m 0 0) → (¬ w ≤ 0 → AmT x m a w) → AmT (sendR nr (f + 1) x n u a k w).1 (comesM (f + 2) m nr u k w) 0 0 ∧ RwT (sendR nr (f + 1) x n u a k w).1 (sendR nr (f + 1) x n u a k w).2 (comesM (f + 2) m nr u k w) := by
  intro f
  induction f with
  | zero =>
    intro x n m u a k w hk har hR hn ha hak h0 h1
    by_cases hw : w ≤ 0
    · have eS : sendR nr 1 x n u a k w = (x, n) := if_pos hw
      have eM : comesM 2 m nr u k w = m := if_pos hw
      rw [eS, eM]
      exact ⟨h0 hw, hR⟩
    · obtain ⟨hA1, hR1⟩ := cst_tie (u := u) (show k < 6 by omega) (h1 hw) hR hw (by omega) ha hak
      have ec : cleft m u k w = (sdX x n u a (nI k) (k + 3) w).1 4 (k + 3) - 60 * (sdX x n u a (nI k) (k + 3) w).1 2 k := by
        unfold cleft
        rw [hA1 (k + 3) (by omega), amt_k (by omega), sdX_p (by decide), har k (by omega), recM_p (by decide) (by decide) (by decide) (by decide)]
        simp
      have eM : comesM 2 m nr u k w = comesM 1 (cnext m u k w) nr (nI k) (k + 1) (cleft m u k w) := by
        show (if w ≤ 0 then m else if ¬ nI k = nI nr then _ else _) = _
        rw [if_neg hw, if_pos (nI_ne (by omega) (by omega))]
      have eS : sendR nr 1 x n u a k w = if cleft m u k w ≤ 0 then (sdX x n u a (nI k) (k + 3) w, n + 1) else (sdX (sdX x n u a (nI k) (k + 3) w) (n + 1) (nI k) (k + 3) (-2) 1 (cleft m u k w), n + 2) := by
        show (if w ≤ 0 then (x, n) else if k + 1 < nr then _ else _) = _
        rw [if_neg hw, if_neg (by omega), ec]
      rw [eS, eM]
      by_cases hc : cleft m u k w ≤ 0
      · have e2 : comesM 1 (cnext m u k w) nr (nI k) (k + 1) (cleft m u k w) = cstep m u k w := by
          show (if cleft m u k w ≤ 0 then cnext m u k w else _) = _
          rw [if_pos hc]; unfold cnext; rw [if_pos hc]
        rw [if_pos hc, e2]
        exact ⟨hA1, hR1⟩
      · have e2 : comesM 1 (cnext m u k w) nr (nI k) (k + 1) (cleft m u k w) = mI (recM (cnext m u k w) (nI k) (-2) (cleft m u k w)) 0 22 ((recM (cnext m u k w) (nI k) (-2) (cleft m u k w)).1 0 22 + cleft m u k w) := by
          show (if cleft m u k w ≤ 0 then cnext m u k w else if ¬ nI (k + 1) = nI nr then _ else _) = _
          rw [if_neg hc, if_neg (fun z => z (by rw [show k + 1 = nr by omega]))]
        rw [if_neg hc, e2]
        have e3 : cnext m u k w = mI (cstep m u k w) 4 k ((cstep m u k w).1 4 k - cleft m u k w) := if_neg hc
        have hA2 : AmT (sdX x n u a (nI k) (k + 3) w) (cnext m u k w) (k + 3) (cleft m u k w) := by
          intro p hp
          rw [hA1 p hp, e3, amt_4 (by omega)]
          by_cases z : p = k + 3
          · subst z; rw [if_pos rfl, if_pos rfl, amt_k (by omega)]; grind
          · rw [if_neg z, if_neg z]; simp
        have hR2 : RwT (sdX x n u a (nI k) (k + 3) w) (n + 1) (cnext m u k w) := by rw [e3]; exact hR1.mI (by decide) (by decide) (by decide) (fun z => by cases z.1)
        refine ⟨AmT_sd hA2 (by omega) (by omega) (by omega) (fun p hp => ?_), (RwT_sd hR2 hc (by omega)).mI (by decide) (by decide) (by decide) (fun z => by cases z.2)⟩
        rw [amt_sea, amt_rec, show (recM (cnext m u k w) (nI k) (-2) (cleft m u k w)).1 0 22 = amt (cnext m u k w) 1 from amt_rec (p := 1)]
        by_cases z : p = 1
        · subst z; rw [if_pos rfl, if_pos rfl]
        · rw [if_neg z, if_neg z]; exact (Int32.add_zero _).symm
  | succ f ih =>
    intro x n m u a k w hk har hR hn ha hak h0 h1
    by_cases hw : w ≤ 0
    · have eS : sendR nr (f + 1 + 1) x n u a k w = (x, n) := if_pos hw
      have eM : comesM (f + 1 + 2) m nr u k w = m := if_pos hw
      rw [eS, eM]
      exact ⟨h0 hw, hR⟩
    · obtain ⟨hA1, hR1⟩ := cst_tie (u := u) (show k < 6 by omega) (h1 hw) hR hw (by omega) ha hak
      have ec : cleft m u k w = (sdX x n u a (nI k) (k + 3) w).1 4 (k + 3) - 60 * (sdX x n u a (nI k) (k + 3) w).1 2 k := by
        unfold cleft
        rw [hA1 (k + 3) (by omega), amt_k (by omega), sdX_p (by decide), har k (by omega), recM_p (by decide) (by decide) (by decide) (by decide)]
        simp
      have eM : comesM (f + 1 + 2) m nr u k w = comesM (f + 2) (cnext m u k w) nr (nI k) (k + 1) (cleft m u k w) := by
        show (if w ≤ 0 then m else if ¬ nI k = nI nr then _ else _) = _
        rw [if_neg hw, if_pos (nI_ne (by omega) (by omega))]
      have eS : sendR nr (f + 1 + 1) x n u a k w = sendR nr (f + 1) (sdX x n u a (nI k) (k + 3) w) (n + 1) (nI k) (k + 3) (k + 1) (cleft m u k w) := by
        show (if w ≤ 0 then (x, n) else if k + 1 < nr then _ else _) = _
        rw [if_neg hw, if_pos (by omega), ec]
      rw [eS, eM]
      have ha3 : ∀ j, (cnext m u k w).1 3 j = m.1 3 j := fun j => cnext_p (by decide) (by decide) (by decide) (by decide) (by decide)
      refine ih (sdX x n u a (nI k) (k + 3) w) (n + 1) (cnext m u k w) (nI k) (k + 3) (k + 1) (cleft m u k w) (by omega) (fun j hj => by rw [sdX_p (by decide), ha3, har j hj]) ?_ (by omega) (by omega) (by omega) (fun hc => ?_) (fun hc => ?_)
      · unfold cnext
        split
        · exact hR1
        · exact hR1.mI (by decide) (by decide) (by decide) (fun z => by cases z.1)
      · have e3 : cnext m u k w = cstep m u k w := if_pos hc
        rw [e3]; exact hA1
      · have e3 : cnext m u k w = mI (cstep m u k w) 4 k ((cstep m u k w).1 4 k - cleft m u k w) := if_neg hc
        intro p hp
        rw [hA1 p hp, e3, amt_4 (by omega)]
        by_cases z : p = k + 3
        · subst z; rw [if_pos rfl, if_pos rfl, amt_k (by omega)]; grind
        · rw [if_neg z, if_neg z]; simp
end
