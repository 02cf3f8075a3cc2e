section
variable {l : Launch} {G : az_G} {ρ : Rp} {x x' : Xs} {m m' : Ms} {ou : Nat → Int64}
theorem MvX_best {nr f r b n : Nat} {t : List Nat} (h6 : nr ≤ 6) (hr : r < nr) (a : Nat → Nat) : ∀ (q : Nat) {ρ : Rp} (x : Xs) (best most : Int32) (i : Nat), i + q ≤ nr → MvX ρ x n (6 * ((t.length + 1) * (nr + 2)) + 0) → MvX (gR ρ a (capT ρ.2.2.2.1 (bestX nr f t r b n q x best most i).1.2)) (bestX nr f t r b n q x best most i).1.1 n 0
  | 0, ρ, x, best, most, i, hi, h => MvX_0 (MvX_le h (Nat.zero_le _))
  | q + 1, ρ, x, best, most, i, hi, h => by
    have two : ∀ (bb mm : Int32), MvX (gR ρ a (capT ρ.2.2.2.1 (max (tvX (saveX x) n nr f t r i).1.2 (bestX nr f t r b n q (crX x n nr f t r i) bb mm (i + 1)).1.2))) (bestX nr f t r b n q (crX x n nr f t r i) bb mm (i + 1)).1.1 n 0 := fun bb mm => by
      have g := MvX_best (f := f) (b := b) h6 hr a q (ρ := gR ρ a (capT ρ.2.2.2.1 (tvX (saveX x) n nr f t r i).1.2)) (crX x n nr f t r i) bb mm (i + 1) (by omega) (MvX_cr h6 hr (by omega) h)
      have g2 := (bestX_le (f := f) (t := t) (k := b) (n := n) h6 hr q (crX x n nr f t r i) bb mm (i + 1) (by omega)).2
      have e : capT (capT ρ.2.2.2.1 (tvX (saveX x) n nr f t r i).1.2) (bestX nr f t r b n q (crX x n nr f t r i) bb mm (i + 1)).1.2 = capT ρ.2.2.2.1 (max (tvX (saveX x) n nr f t r i).1.2 (bestX nr f t r b n q (crX x n nr f t r i) bb mm (i + 1)).1.2) := capT_mx (by have := h.2.2.2.1; omega)
      rw [← e]
      exact g
    rw [bestX]
    split
    · exact MvX_best h6 hr a q x best most (i + 1) (by omega) h
    · split
      · exact two best most
      · exact two (nI i) (x.2.1 b 5 * x.1 11 i)
theorem Tie_bestT {n nr nb N f r b : Nat} {t : List Nat} {cs : List (List Nat)} (hb : b < nb) (hr : r < nr) (ht : t.length < 20) (hq : ∀ d ∈ f :: t, d < nb) (hn : n < 2 ^ 28) : ∀ (q : Nat) (x : Xs) (m : Ms) (best most : Int32) (o : Option Nat) (i : Nat), Tie x n m nr nb N cs → i + q = nr → RelB m b best most o → (o = none → i ≤ r) →
    (bestX nr f t r b n q x best most i).2 = bw (bestL nr f t r b q m o i).2 ∧ Tie (bestX nr f t r b n q x best most i).1.1 n (bestL nr f t r b q m o i).1 nr nb N cs ∧ ∀ p j, (p = 14 ∨ p = 23) → (bestX nr f t r b n q x best most i).1.1.1 p j = x.1 p j
  | 0, x, m, best, most, o, i, T, hi, hR, ho => by
    refine ⟨?_, T, fun _ _ _ => rfl⟩
    rcases hR with ⟨h, -⟩ | ⟨j, h, h1, -⟩
    · have := ho h; omega
    · subst h; exact h1
  | q + 1, x, m, best, most, o, i, T, hi, hR, ho => by
    obtain ⟨w1, w2⟩ := wor_i T.2.2.1 T.2.1 hb (k := i) (by omega)
    obtain ⟨TT, c1⟩ := Tie_tried (r := r) (dst := i) T hr (by omega) ht hq hn
    have hrel : ∀ bb mm oo, RelB m b bb mm oo → RelB (canR m nr f t r i).1 b bb mm oo := fun bb mm oo h => by
      rcases h with h | ⟨j, h1, h2, h3⟩
      · exact Or.inl h
      · exact Or.inr ⟨j, h1, h2, by rw [canR_p (by omega), canR_p (by omega)]; exact h3⟩
    have step : ∀ o', ¬ (x.2.1 b 5 * x.1 11 i ≤ most) → RelB m b best most o' → (o' = none → i ≤ r) →
        (bestX nr f t r b n (q + 1) x best most i).2 = bw (bestL nr f t r b q (canR m nr f t r i).1 (if (canR m nr f t r i).2 = 0 then o' else some i) (i + 1)).2 ∧ Tie (bestX nr f t r b n (q + 1) x best most i).1.1 n (bestL nr f t r b q (canR m nr f t r i).1 (if (canR m nr f t r i).2 = 0 then o' else some i) (i + 1)).1 nr nb N cs ∧ ∀ p j, (p = 14 ∨ p = 23) → (bestX nr f t r b n (q + 1) x best most i).1.1.1 p j = x.1 p j := by
      intro o' hw hR' ho'
      rw [c1]
      by_cases z : (tvX (saveX x) n nr f t r i).2 = 0
      · have ne : ¬ i = r := fun e => by
          subst e
          rw [tv_rr] at z
          exact absurd z one_ne
        have eX : bestX nr f t r b n (q + 1) x best most i = (((bestX nr f t r b n q (crX x n nr f t r i) best most (i + 1)).1.1, max (tvX (saveX x) n nr f t r i).1.2 (bestX nr f t r b n q (crX x n nr f t r i) best most (i + 1)).1.2), (bestX nr f t r b n q (crX x n nr f t r i) best most (i + 1)).2) := by
          show (if _ then _ else if _ then _ else _) = _
          rw [if_neg hw, if_pos z]
        rw [eX, if_pos z]
        obtain ⟨g1, g2, g3⟩ := Tie_bestT hb hr ht hq hn q (crX x n nr f t r i) (canR m nr f t r i).1 best most o' (i + 1) TT (by omega) (hrel _ _ _ hR') (fun e => by have := ho' e; omega)
        exact ⟨g1, g2, fun p j hp => (g3 p j hp).trans (crX_o (by omega))⟩
      · have eX : bestX nr f t r b n (q + 1) x best most i = (((bestX nr f t r b n q (crX x n nr f t r i) (nI i) (x.2.1 b 5 * x.1 11 i) (i + 1)).1.1, max (tvX (saveX x) n nr f t r i).1.2 (bestX nr f t r b n q (crX x n nr f t r i) (nI i) (x.2.1 b 5 * x.1 11 i) (i + 1)).1.2), (bestX nr f t r b n q (crX x n nr f t r i) (nI i) (x.2.1 b 5 * x.1 11 i) (i + 1)).2) := by
          show (if _ then _ else if _ then _ else _) = _
          rw [if_neg hw, if_neg z]
        rw [eX, if_neg z]
        obtain ⟨g1, g2, g3⟩ := Tie_bestT hb hr ht hq hn q (crX x n nr f t r i) (canR m nr f t r i).1 (nI i) (x.2.1 b 5 * x.1 11 i) (some i) (i + 1) TT (by omega) (hrel _ _ _ (Or.inr ⟨i, rfl, rfl, w1⟩)) (fun e => by cases e)
        exact ⟨g1, g2, fun p j hp => (g3 p j hp).trans (crX_o (by omega))⟩
    cases o with
    | none =>
      rcases hR with ⟨-, h⟩ | ⟨j, h, -⟩
      · have hw : ¬ (x.2.1 b 5 * x.1 11 i ≤ most) := by
          rw [w1, h, i_le]
          have e : (-1 : Int32).toInt = -1 := rfl
          omega
        exact step none hw (Or.inl ⟨rfl, h⟩) ho
      · cases h
    | some j =>
      rcases hR with ⟨h, -⟩ | ⟨j', h, h1, h2⟩
      · cases h
      · cases h
        by_cases c : m.1 17 b * m.1 6 i ≤ m.1 17 b * m.1 6 j
        · have eX : bestX nr f t r b n (q + 1) x best most i = bestX nr f t r b n q x best most (i + 1) := by
            show (if _ then _ else if _ then _ else _) = _
            rw [if_pos (by rw [w1, h2]; exact c)]
          have eM : bestL nr f t r b (q + 1) m (some j) i = bestL nr f t r b q m (some j) (i + 1) := if_pos c
          rw [eX, eM]
          exact Tie_bestT hb hr ht hq hn q x m best most (some j) (i + 1) T (by omega) (Or.inr ⟨j, rfl, h1, h2⟩) (fun e => by cases e)
        · have eM : bestL nr f t r b (q + 1) m (some j) i = bestL nr f t r b q (canR m nr f t r i).1 (if (canR m nr f t r i).2 = 0 then some j else some i) (i + 1) := if_neg c
          rw [eM]
          exact step (some j) (by rw [w1, h2]; exact c) (Or.inr ⟨j, rfl, h1, h2⟩) (fun e => by cases e)
theorem O_bestReach (hG : az_okS l G) {c : Nat} (hc : c < 512) (h : Nx c ρ x m) (p0 : Int32) : XO l G ρ x m yX3_bestReach cX3_bestReach 8 (some FieldType.int) [.int p0] [("java/lang/IndexOutOfBoundsException", 1)] cvI (MO l G yX4_bestReach cX4_bestReach 4 (some FieldType.int) [.int p0] cvI (c + 1) m) := by
  obtain ⟨n, nr, nb, N, cs, h⟩ := h
  have h6 := h.n6
  have h1 := h.n1
  have hb8 := h.b8
  rcases oo_or nb (by omega) p0 with hv | ⟨k, hk, rfl⟩
  · exact xo_x (k := 1) (fun ou => XbestReach0 hG nb p0 h.xb h.eb h.b8 hv) (by decide) h.cap List.mem_cons_self (fun ou' => mo_r (k := 1) (w := (0 : Int64)) (MbestReach0 hG nb p0 h.mb h.b8 hv) (by decide) ⟨0, rfl, rfl⟩ mI_s (fun z => absurd z (by decide)) (h.n0))
  · obtain ⟨rl, f, t, r, a1, aS, aP, ef, ek, hr, h4, hnd, hcs, hq, hat, hs⟩ := h.voy hk
    have hn2 := h.2.1
    obtain ⟨e, TT, hrow⟩ := Tie_bestT hk hr (show t.length < 20 by omega) hq (show n < 2 ^ 28 by omega) nr x m (nI r) (-1) none 0 h.1 (Nat.zero_add _) (Or.inl ⟨rfl, rfl⟩) (fun _ => Nat.zero_le _)
    have hle := (bestX_le (f := f) (t := t) (k := k) (n := n) h6 hr nr x (nI r) (-1) 0 (by omega)).2
    have C1 := h.c1 hc (n' := (bestX nr f t r k n nr x (nI r) (-1) 0).1.2) (by have := b_6 h4 h6; omega)
    refine xo_g (fun ou => XbestReach1 hG nb k h.xb h.eb h.b8 hk nr f r r t rl a1 hr ef ek aP n (h.mv hc (b_6 h4 h6))) (by decide) h.cap C1.1 C1.2 ⟨_, rfl, rfl⟩ (fun a ou' hw => mo_r (MbestReach1 hG nr r k rl f t aS (h.mok hc (b_7 h4 h6)) nb h.mb h.b8 hk) (by decide) ⟨_, rfl, rfl⟩ mI_s (fun _ => hw.trans ?_) ((h.gr TT (by omega) (MvX_best h6 hr a nr x (nI r) (-1) 0 (by omega) (h.mv hc (by have := b_6 h4 h6; omega))) (fun j => hrow 14 j (by omega)) (fun j => hrow 23 j (by omega))).f0.nx))
    rw [e]
end
