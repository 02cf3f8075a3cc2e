section
variable {x x' : Xs} {m m' : Ms} {n n' nr nb lk f r dst : Nat} {dn : Bool} {t : List Nat}
theorem TieW.mq (T : TieW x n m nr) (h1 : m'.1 0 1 = m.1 0 1) (h24 : m'.1 0 24 = m.1 0 24) (h0 : m'.1 0 21 = m.1 0 21 ∧ m'.1 0 22 = m.1 0 22 ∧ m'.1 0 23 = m.1 0 23) (h3 : ∀ k, k < 6 → m'.1 3 k = m.1 3 k) (h4 : ∀ k, k < 6 → m'.1 4 k = m.1 4 k) (hk : ∀ k, k < 5 → m'.1 7 k = m.1 7 k ∧ m'.1 8 k = m.1 8 k ∧ m'.1 9 k = m.1 9 k ∧ m'.1 10 k = m.1 10 k ∧ m'.1 11 k = m.1 11 k) (hr : ∀ j, j < n → m'.1 25 j = m.1 25 j ∧ m'.1 26 j = m.1 26 j ∧ m'.1 27 j = m.1 27 j) : TieW x n m' nr := by
  obtain ⟨⟨t1, t2, t3, t4, t5, t6, t7, t8, t9⟩, tA⟩ := T
  refine ⟨⟨t1, h1.trans t2, t3, t4, fun k h => (t5 k h).trans (h3 k h).symm, t6.eq (fun k h => h3 k (by omega)) (fun k h => h4 k (by omega)), fun k a b => (h4 k b).trans (t7 k a b), ⟨t8.1, h24.trans t8.2.1, t8.2.2.1, fun j hj => ?_⟩, fun k h => ?_⟩, fun p hp => ?_⟩
  · obtain ⟨a, b, c⟩ := hr j hj
    rw [a, b, c]; exact t8.2.2.2 j hj
  · obtain ⟨a, b, c, d, e⟩ := hk k h
    rw [a, b, c, d, e]; exact t9 k h
  · rw [tA p hp]
    have : amt m' p = amt m p := by
      unfold amt
      rw [h0.1, h0.2.1, h0.2.2]
      by_cases z : p < 9
      · by_cases z3 : p < 3
        · rcases (show p = 0 ∨ p = 1 ∨ p = 2 by omega) with q | q | q <;> subst q <;> rfl
        · rw [h4 (p - 3) (by omega)]; simp only [if_pos z]
      · by_cases z2 : p < 13
        · simp only [if_neg z, if_pos z2]
        · rw [(hk (p - 13) (by omega)).1, (hk (p - 13) (by omega)).2.2.2.2]; simp only [if_neg z, if_neg z2]
    rw [this]
theorem TieW.xq (T : TieW x n m nr) (h1 : x'.1 1 8 = x.1 1 8) (h8 : x'.1 8 3 = x.1 8 3) (h2 : ∀ k, k < 6 → x'.1 2 k = x.1 2 k) (h4 : ∀ p, p < 18 → x'.1 4 p = x.1 4 p) (hk : ∀ k, k < 5 → x'.1 3 k = x.1 3 k ∧ x'.1 9 k = x.1 9 k ∧ x'.1 10 k = x.1 10 k ∧ x'.1 5 k = x.1 5 k) (hr : ∀ j, j < n → x'.1 20 j = x.1 20 j ∧ x'.1 21 j = x.1 21 j ∧ x'.1 22 j = x.1 22 j) : TieW x' n m nr := by
  obtain ⟨⟨t1, t2, t3, t4, t5, t6, t7, t8, t9⟩, tA⟩ := T
  refine ⟨⟨h1.trans t1, t2, t3, t4, fun k h => (h2 k h).trans (t5 k h), t6, t7, ⟨h8.trans t8.1, t8.2.1, t8.2.2.1, fun j hj => ?_⟩, fun k h => ?_⟩, fun p hp => (h4 p hp).trans (tA p hp)⟩
  · obtain ⟨a, b, c⟩ := hr j hj
    rw [a, b, c]; exact t8.2.2.2 j hj
  · obtain ⟨a, b, c, d⟩ := hk k h
    rw [a, b, c, d]; exact t9 k h
theorem keeps_0 {j : Nat} (h : j ≠ 36 ∧ j ≠ 37) : (keepsM m).1 0 j = m.1 0 j := by
  simp only [keepsM, mI]
  rw [up2_k h.2, up2_k h.1]
  simp only [up2_p (show (0 : Nat) ≠ 32 by decide), up2_p (show (0 : Nat) ≠ 33 by decide), up2_p (show (0 : Nat) ≠ 34 by decide), up2_p (show (0 : Nat) ≠ 35 by decide)]
theorem TieW.keeps (T : TieW x n m nr) : TieW (saveX x) n (keepsM m) nr :=
  (T.meq (keeps_0 (by decide)) (keeps_0 (by decide)) ⟨keeps_0 (by decide), keeps_0 (by decide), keeps_0 (by decide)⟩ (fun p hp => funext fun j => keepsM_p (by unfold mW at hp; omega) (by unfold mW at hp; omega) (by unfold mW at hp; omega) (by unfold mW at hp; omega) (by unfold mW at hp; omega))).xq (by simp only [saveX, xI, xR]; rw [up2_k (by decide), up1_n (by decide), up1_n (by decide)]) (sav_p (by decide) (by decide) (by decide)) (fun _ _ => sav_p (by decide) (by decide) (by decide)) (fun _ _ => sav_p (by decide) (by decide) (by decide)) (fun _ _ => ⟨sav_p (by decide) (by decide) (by decide), sav_p (by decide) (by decide) (by decide), sav_p (by decide) (by decide) (by decide), sav_p (by decide) (by decide) (by decide)⟩) (fun _ _ => ⟨sav_p (by decide) (by decide) (by decide), sav_p (by decide) (by decide) (by decide), sav_p (by decide) (by decide) (by decide)⟩)
theorem TieB.keeps (B : TieB x m nb) : TieB (saveX x) (keepsM m) nb := (B.meq (m' := keepsM m) (fun p hp j => keepsM_p (by omega) (by omega) (by omega) (by omega) (by omega))).xeq rfl rfl
/-- the voyage from the kept state -/
theorem Tie_V (T : TieW x n m nr) (B : TieB x m nb) (hr : r < nr) (hd : dst < nr) (hne : ¬ r = dst) (ht : t.length < 20) (hq : ∀ d ∈ f :: t, d < nb) (hn : n < 2 ^ 28) : VoyT (tvX (saveX x) n nr f t r dst) (sailM nr f t dst 6 (keepsM m) r 0) nr (if r < dst then smD m f t (dst - r) r else smU m f t (r - dst) r) := by
  have h6 := T.1.2.2.2.1
  have e := fun k r' => sm_eq (f := f) (t := t) (m' := keepsM m) (m := m) (fun j => keepsM_p (by decide) (by decide) (by decide) (by decide) (by decide)) (fun j => keepsM_p (by decide) (by decide) (by decide) (by decide) (by decide)) k r'
  unfold tvX
  by_cases h : r < dst
  · rw [if_pos h, if_pos h]
    have h1 := Tie_D (f := f) (nb := nb) hd ht hq (dst - r) 6 (saveX x) n (keepsM m) r 0 (by omega) (by omega) T.keeps B.keeps (by omega)
    rw [Nat.zero_add, (e _ _).1] at h1
    exact h1
  · rw [if_neg h, if_neg h]
    have h1 := Tie_U (f := f) (nb := nb) (dst := dst) (fun _ z => z) ht hq (r - dst) 6 (saveX x) n (keepsM m) r 0 (by omega) hr (by omega) T.keeps B.keeps (by omega)
    rw [Nat.zero_add, (e _ _).2] at h1
    exact h1
theorem VoyT.tie {y : (Xs × Nat) × Int32} {M : Ms × Int32} {s : Nat} (V : VoyT y M nr s) : TieW y.1.1 y.1.2 M.1 nr := by
  by_cases h : y.2 = 1
  · exact (V.1 h).2
  · obtain ⟨-, -, m', e, T⟩ := V.2 h
    rw [e]; exact T.refM
/-- after a voyage that was only tried -/
theorem Tie_cr {s : Nat} (T : TieW x n m nr) (hr : r < nr) (hd : dst < nr) (V : VoyT (tvX (saveX x) n nr f t r dst) (sailM nr f t dst 6 (keepsM m) r 0) nr s) (hge : n ≤ (tvX (saveX x) n nr f t r dst).1.2) : TieW (crX x n nr f t r dst) n (canS m nr f t r dst) nr := by
  have TV := V.tie
  have hru := RU_V (x := saveX x) (n := n) (nr := nr) (f := f) (t := t) hr hd
  have hro := RU_cr (x := x) (n := n) (nr := nr) (f := f) (t := t) hr hd
  have hx : TieW (crX x n nr f t r dst) n m nr := T.xq (crX_1 (by decide)) crX_n (fun k hk => crX_p (by decide) (by decide) (by decide) (by decide) (by decide) (by decide) (by decide) (by decide) (by decide) (by decide)) (fun p hp => crX_4 hp) (fun k hk => ⟨crX_p (by decide) (by decide) (by decide) (by decide) (by decide) (by decide) (by decide) (by decide) (by decide) (by decide), crX_p (by decide) (by decide) (by decide) (by decide) (by decide) (by decide) (by decide) (by decide) (by decide) (by decide), crX_p (by decide) (by decide) (by decide) (by decide) (by decide) (by decide) (by decide) (by decide) (by decide) (by decide), crX_5 hk⟩) hro
  have v01 : ∀ v : Int32, (v = 0 ∨ v = 1) → vp_nar .boolean (vp_nar .boolean v) = v := by
    intro v h
    rcases h with h | h <;> subst h <;> decide +kernel
  refine hx.mq (canS_0 (by decide) (by decide) (by decide) (by decide) (by decide) (by decide)) canS_24 ⟨canS_0 (by decide) (by decide) (by decide) (by decide) (by decide) (by decide), canS_22, canS_0 (by decide) (by decide) (by decide) (by decide) (by decide) (by decide)⟩ (fun k hk => canS_p (by decide) (by decide) (by decide) (by decide) (by decide) (by decide) (by decide) (by decide) (by decide) (by decide) (by decide) (by decide)) (fun k hk => canS_4 hk) (fun k hk => ⟨canS_p (by decide) (by decide) (by decide) (by decide) (by decide) (by decide) (by decide) (by decide) (by decide) (by decide) (by decide) (by decide), canS_p (by decide) (by decide) (by decide) (by decide) (by decide) (by decide) (by decide) (by decide) (by decide) (by decide) (by decide) (by decide), canS_p (by decide) (by decide) (by decide) (by decide) (by decide) (by decide) (by decide) (by decide) (by decide) (by decide) (by decide) (by decide), canS_10 hk, (canS_11 hk).trans (v01 _ (T.1.2.2.2.2.2.2.2.2 k hk).2.2.2.2.1)⟩) (fun j hj => ?_)
  obtain ⟨a1, a2, a3⟩ := TV.1.2.2.2.2.2.2.2.1.2.2.2 j (by omega)
  obtain ⟨b1, b2, b3⟩ := hru j hj
  obtain ⟨c1, c2, c3⟩ := T.1.2.2.2.2.2.2.2.1.2.2.2 j hj
  have s20 : ∀ p, p = 20 ∨ p = 21 ∨ p = 22 → (saveX x).1 p j = x.1 p j := fun p hp => sav_p (by omega) (by omega) (by omega)
  unfold canS
  rw [backM_p (by decide) (by decide) (by decide) (by decide) (by decide), backM_p (by decide) (by decide) (by decide) (by decide) (by decide), backM_p (by decide) (by decide) (by decide) (by decide) (by decide), ← a1, ← a2, ← a3, b1, b2, b3, s20 20 (by omega), s20 21 (by omega), s20 22 (by omega)]
  exact ⟨c1, c2, c3⟩
end
