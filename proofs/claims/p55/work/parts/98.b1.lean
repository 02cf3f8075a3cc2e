section
variable {x x' : Xs} {m m' : Ms} {m9 : Mz} {n n' nr nb lk f r dst b : Nat} {dn : Bool} {t : List Nat}
theorem canR_p {p j : Nat} (hp : p = 5 ∨ p = 6 ∨ p = 14 ∨ p = 15 ∨ p = 16 ∨ p = 17 ∨ p = 18 ∨ p = 19 ∨ p = 38) : (canR m nr f t r dst).1.1 p j = m.1 p j := by
  unfold canR
  split
  · rfl
  · exact canS_p (by omega) (by omega) (by omega) (by omega) (by omega) (by omega) (by omega) (by omega) (by omega) (by omega) (by omega) (by omega)
theorem canR_13 {j : Nat} (hj : j < 8) : (canR m nr f t r dst).1.1 13 j = m.1 13 j := by
  unfold canR
  split
  · rfl
  · exact canS_13 hj
theorem canR_0 {j : Nat} (h : j ≠ 24 ∧ j ≠ 22 ∧ j ≠ 28 ∧ j ≠ 29 ∧ j ≠ 36 ∧ j ≠ 37) : (canR m nr f t r dst).1.1 0 j = m.1 0 j := by
  unfold canR
  split
  · rfl
  · exact canS_0 h.1 h.2.1 h.2.2.1 h.2.2.2.1 h.2.2.2.2.1 h.2.2.2.2.2
theorem TieB.can (B : TieB x m nb) : TieB (crX x n nr f t r dst) (canR m nr f t r dst).1 nb := (B.meq (fun p hp j => canR_p (by omega))).xeq (by rw [crX_x]) (by rw [crX_x])
theorem TieR.can (R : TieR x m nr) : TieR (crX x n nr f t r dst) (canR m nr f t r dst).1 nr := fun k hk => by
  rw [crX_p (by decide) (by decide) (by decide) (by decide) (by decide) (by decide) (by decide) (by decide) (by decide) (by decide), crX_p (by decide) (by decide) (by decide) (by decide) (by decide) (by decide) (by decide) (by decide) (by decide) (by decide), canR_p (by omega), canR_p (by omega)]
  exact R k hk
theorem wor_i (B : TieB x m nb) (R : TieR x m nr) (hb : b < nb) {k : Nat} (hk : k < nr) : x.2.1 b 5 * x.1 11 k = m.1 17 b * m.1 6 k ∧ 0 ≤ (m.1 17 b * m.1 6 k).toInt := by
  obtain ⟨e1, e2, e3, e4, ⟨f1, f2, f3, f4, f5, f6, f7, f8⟩, -⟩ := B.2 b hb
  obtain ⟨r1, r2, r3, -⟩ := R k hk
  have h0 : 0 ≤ (m.1 17 b).toInt * (m.1 6 k).toInt := Int.mul_nonneg f7 (by omega)
  have h1 : (m.1 17 b).toInt * (m.1 6 k).toInt ≤ 1200 * 9999 := Int.mul_le_mul f8 r3 (by omega) (by omega)
  rw [e4, r1, i_mul (by omega) (by omega)]
  exact ⟨rfl, h0⟩
def RelB (m : Ms) (b : Nat) (best most : Int32) (o : Option Nat) : Prop := (o = none ∧ most = -1) ∨ ∃ j, o = some j ∧ best = nI j ∧ most = m.1 17 b * m.1 6 j
theorem Tie_best (hb : b < nb) (hr : r < nr) (ht : t.length < 20) (hq : ∀ d ∈ f :: t, d < nb) (hn : n < 2 ^ 28) : ∀ (q : Nat) (x : Xs) (m : Ms) (best most : Int32) (o : Option Nat) (i : Nat), TieW x n m nr → TieB x m nb → TieR x m nr → i + q = nr → RelB m b best most o → (o = none → i ≤ r) →
    (bestX nr f t r b n q x best most i).2 = bw (bestL nr f t r b q m o i).2 ∧ TieW (bestX nr f t r b n q x best most i).1.1 n (bestL nr f t r b q m o i).1 nr ∧ TieB (bestX nr f t r b n q x best most i).1.1 (bestL nr f t r b q m o i).1 nb ∧ TieR (bestX nr f t r b n q x best most i).1.1 (bestL nr f t r b q m o i).1 nr ∧ (bestX nr f t r b n q x best most i).1.1.2 = x.2 ∧ ∀ j, j < 8 → (bestL nr f t r b q m o i).1.1 13 j = m.1 13 j
  | 0, x, m, best, most, o, i, T, B, R, hi, hR, ho => by
    refine ⟨?_, T, B, R, rfl, fun _ _ => rfl⟩
    rcases hR with ⟨h, -⟩ | ⟨j, h, h1, -⟩
    · have := ho h; omega
    · subst h; exact h1
  | q + 1, x, m, best, most, o, i, T, B, R, hi, hR, ho => by
    obtain ⟨w1, w2⟩ := wor_i B R hb (k := i) (by omega)
    obtain ⟨c1, c2, c3⟩ := Tie_can (dst := i) T B hr (by omega) ht hq hn
    have TB := B.can (n := n) (nr := nr) (f := f) (t := t) (r := r) (dst := i)
    have TR := R.can (n := n) (f := f) (t := t) (r := r) (dst := i)
    have hx : (crX x n nr f t r i).2 = x.2 := crX_x
    have h13 : ∀ j, j < 8 → (canR m nr f t r i).1.1 13 j = m.1 13 j := fun j hj => canR_13 hj
    have hrel : ∀ bb mm oo, RelB m b bb mm oo → RelB (canR m nr f t r i).1 b bb mm oo := fun bb mm oo h => by
      rcases h with h | ⟨j, h1, h2, h3⟩
      · exact Or.inl h
      · exact Or.inr ⟨j, h1, h2, by rw [canR_p (by omega), canR_p (by omega)]; exact h3⟩
    have step : ∀ o', ¬ (x.2.1 b 5 * x.1 11 i ≤ most) → RelB m b best most o' → (o' = none → i ≤ r) →
        (bestX nr f t r b n (q + 1) x best most i).2 = bw (bestL nr f t r b q (canR m nr f t r i).1 (if (canR m nr f t r i).2 = 0 then o' else some i) (i + 1)).2 ∧ TieW (bestX nr f t r b n (q + 1) x best most i).1.1 n (bestL nr f t r b q (canR m nr f t r i).1 (if (canR m nr f t r i).2 = 0 then o' else some i) (i + 1)).1 nr ∧ TieB (bestX nr f t r b n (q + 1) x best most i).1.1 (bestL nr f t r b q (canR m nr f t r i).1 (if (canR m nr f t r i).2 = 0 then o' else some i) (i + 1)).1 nb ∧ TieR (bestX nr f t r b n (q + 1) x best most i).1.1 (bestL nr f t r b q (canR m nr f t r i).1 (if (canR m nr f t r i).2 = 0 then o' else some i) (i + 1)).1 nr ∧ (bestX nr f t r b n (q + 1) x best most i).1.1.2 = x.2 ∧ ∀ j, j < 8 → (bestL nr f t r b q (canR m nr f t r i).1 (if (canR m nr f t r i).2 = 0 then o' else some i) (i + 1)).1.1 13 j = m.1 13 j := by
      intro o' hw hR' ho'
      rw [c1]
      by_cases z : (tvX (saveX x) n nr f t r i).2 = 0
      · have ne : ¬ i = r := fun e => by
          subst e
          rw [tv_rr] at z
          exact absurd z (show ¬ (1 : Int32) = 0 by decide)
        have eX : bestX nr f t r b n (q + 1) x best most i = (((bestX nr f t r b n q (crX x n nr f t r i) best most (i + 1)).1.1, max (tvX (saveX x) n nr f t r i).1.2 (bestX nr f t r b n q (crX x n nr f t r i) best most (i + 1)).1.2), (bestX nr f t r b n q (crX x n nr f t r i) best most (i + 1)).2) := by
          show (if _ then _ else if _ then _ else _) = _
          rw [if_neg hw, if_pos z]
        rw [eX, if_pos z]
        obtain ⟨g1, g2, g3, g4, g5, g6⟩ := Tie_best hb hr ht hq hn q (crX x n nr f t r i) (canR m nr f t r i).1 best most o' (i + 1) c3 TB TR (by omega) (hrel _ _ _ hR') (fun e => by have := ho' e; omega)
        exact ⟨g1, g2, g3, g4, g5.trans hx, fun j hj => (g6 j hj).trans (h13 j hj)⟩
      · have eX : bestX nr f t r b n (q + 1) x best most i = (((bestX nr f t r b n q (crX x n nr f t r i) (nI i) (x.2.1 b 5 * x.1 11 i) (i + 1)).1.1, max (tvX (saveX x) n nr f t r i).1.2 (bestX nr f t r b n q (crX x n nr f t r i) (nI i) (x.2.1 b 5 * x.1 11 i) (i + 1)).1.2), (bestX nr f t r b n q (crX x n nr f t r i) (nI i) (x.2.1 b 5 * x.1 11 i) (i + 1)).2) := by
          show (if _ then _ else if _ then _ else _) = _
          rw [if_neg hw, if_neg z]
        rw [eX, if_neg z]
        obtain ⟨g1, g2, g3, g4, g5, g6⟩ := Tie_best hb hr ht hq hn q (crX x n nr f t r i) (canR m nr f t r i).1 (nI i) (x.2.1 b 5 * x.1 11 i) (some i) (i + 1) c3 TB TR (by omega) (hrel _ _ _ (Or.inr ⟨i, rfl, rfl, w1⟩)) (fun e => by cases e)
        exact ⟨g1, g2, g3, g4, g5.trans hx, fun j hj => (g6 j hj).trans (h13 j hj)⟩
    cases o with
    | none =>
      rcases hR with ⟨-, h⟩ | ⟨j, h, -⟩
      · have hw : ¬ (x.2.1 b 5 * x.1 11 i ≤ most) := by
          rw [w1, h, i_le]
          have e : (-1 : Int32).toInt = -1 := rfl
          omega
        exact step none hw (Or.inl ⟨rfl, h⟩) ho
      · cases h
    | some j =>
      rcases hR with ⟨h, -⟩ | ⟨j', h, h1, h2⟩
      · cases h
      · cases h
        by_cases c : m.1 17 b * m.1 6 i ≤ m.1 17 b * m.1 6 j
        · have eX : bestX nr f t r b n (q + 1) x best most i = bestX nr f t r b n q x best most (i + 1) := by
            show (if _ then _ else if _ then _ else _) = _
            rw [if_pos (by rw [w1, h2]; exact c)]
          have eM : bestL nr f t r b (q + 1) m (some j) i = bestL nr f t r b q m (some j) (i + 1) := if_pos c
          rw [eX, eM]
          exact Tie_best hb hr ht hq hn q x m best most (some j) (i + 1) T B R (by omega) (Or.inr ⟨j, rfl, h1, h2⟩) (fun e => by cases e)
        · have eM : bestL nr f t r b (q + 1) m (some j) i = bestL nr f t r b q (canR m nr f t r i).1 (if (canR m nr f t r i).2 = 0 then some j else some i) (i + 1) := if_neg c
          rw [eM]
          exact step (some j) (by rw [w1, h2]; exact c) (Or.inr ⟨j, rfl, h1, h2⟩) (fun e => by cases e)
end
