section
variable {x x' : Xs} {m m' : Ms} {m9 : Mz} {n n' nr nb lk f r dst : Nat} {dn : Bool} {t : List Nat}
def InvM (m : Ms) (nr : Nat) (q : List Nat) : Prop := m.1 0 1 = nI nr ∧ MAr m nr ∧ MSuf m q ∧ ∀ d ∈ q, ¬ m.1 16 d = 0
theorem InvM.pass (h : InvM m nr (f :: t)) : InvM (passM m nr lk dn f t).1 nr (f :: t) := by
  have e : ∀ p j, p = 3 ∨ p = 16 ∨ p = 19 → (passM m nr lk dn f t).1.1 p j = m.1 p j := fun p j hp => passM_p (by omega) (by omega) (by omega) (by omega) (by omega) (by omega) (by omega) (by omega)
  exact ⟨(passM_0 (by decide) (by decide) (by decide) (by decide)).trans h.1, fun k hk => by rw [e 3 k (by omega)]; exact h.2.1 k hk, MSuf_w (fun b => e 19 b (by omega)) h.2.2.1, fun d hd => by rw [e 16 d (by omega)]; exact h.2.2.2 d hd⟩
theorem InvM.ps (h : InvM m nr (f :: t)) (h6 : nr ≤ 6) (hk : lk + 2 ≤ nr) (hnd : (f :: t).Nodup) (hat : ∀ d ∈ f :: t, m.1 13 d = nI (rIn dn lk)) (htl : tlM m lk (f :: t) 0 = 0) : PsOK m nr lk dn (f :: t) :=
  ⟨h.1, h6, hk, h.2.1, h.2.2.1, hnd, fun d hd => ⟨hat d hd, h.2.2.2 d hd⟩, fun b hb => Int32.not_lt.mpr ((tl_iff _).mp htl b hb)⟩
/-- where the convoy lies after a voyage that was carried out -/
theorem sail_at (h6 : nr ≤ 6) (hd : dst < nr) (hnd : (f :: t).Nodup) : ∀ (fu : Nat) (m : Ms) (r : Nat) (acc : Int32), r < nr → (r - dst) + (dst - r) < fu → InvM m nr (f :: t) → (∀ d ∈ f :: t, m.1 13 d = nI r) → ¬ (sailM nr f t dst fu m r acc).2 = 0 → ∀ d ∈ f :: t, (sailM nr f t dst fu m r acc).1.1 13 d = nI dst
  | 0, m, r, acc, _, hf, _, _, _ => absurd hf (Nat.not_lt_zero _)
  | fu + 1, m, r, acc, hr, hf, hI, hat, hz => by
    by_cases e : r = dst
    · have e1 : sailM nr f t dst (fu + 1) m r acc = (m, acc) := if_pos e
      rw [e1, ← e]
      exact hat
    · by_cases e2 : r < dst
      · have e1 : sailM nr f t dst (fu + 1) m r acc = (if (passM m nr r true f t).2 = 0 then ((passM m nr r true f t).1, 0) else sailM nr f t dst fu (passM m nr r true f t).1 (r + 1) (acc + (passM m nr r true f t).2)) := by
          show (if r = dst then _ else if r < dst then _ else _) = _
          rw [if_neg e, if_pos e2]
        rw [e1] at hz ⊢
        by_cases c : (passM m nr r true f t).2 = 0
        · rw [if_pos c] at hz; exact absurd rfl hz
        · rw [if_neg c] at hz ⊢
          exact sail_at h6 hd hnd fu _ (r + 1) _ (by omega) (by omega) hI.pass (passM_at (fun z => hI.ps (dn := true) h6 (by omega) hnd hat z) c) hz
      · have e1 : sailM nr f t dst (fu + 1) m r acc = (if (passM m nr (r - 1) false f t).2 = 0 then ((passM m nr (r - 1) false f t).1, 0) else sailM nr f t dst fu (passM m nr (r - 1) false f t).1 (r - 1) (acc + (passM m nr (r - 1) false f t).2)) := by
          show (if r = dst then _ else if r < dst then _ else _) = _
          rw [if_neg e, if_neg e2]
        rw [e1] at hz ⊢
        by_cases c : (passM m nr (r - 1) false f t).2 = 0
        · rw [if_pos c] at hz; exact absurd rfl hz
        · rw [if_neg c] at hz ⊢
          exact sail_at h6 hd hnd fu _ (r - 1) _ (by omega) (by omega) hI.pass (passM_at (fun z => hI.ps (dn := false) h6 (by omega) hnd (fun d hd => by rw [hat d hd]; show nI r = nI (r - 1 + 1); rw [show r - 1 + 1 = r by omega]) z) c) hz
theorem sail_13 {j : Nat} (hj : j ∉ f :: t) : ∀ (fu : Nat) (m : Ms) (r : Nat) (acc : Int32), (sailM nr f t dst fu m r acc).1.1 13 j = m.1 13 j
  | 0, _, _, _ => rfl
  | fu + 1, m, r, acc => by
    by_cases e : r = dst
    · have e1 : sailM nr f t dst (fu + 1) m r acc = (m, acc) := if_pos e
      rw [e1]
    · by_cases e2 : r < dst
      · have e1 : sailM nr f t dst (fu + 1) m r acc = (if (passM m nr r true f t).2 = 0 then ((passM m nr r true f t).1, 0) else sailM nr f t dst fu (passM m nr r true f t).1 (r + 1) (acc + (passM m nr r true f t).2)) := by
          show (if r = dst then _ else if r < dst then _ else _) = _
          rw [if_neg e, if_pos e2]
        rw [e1]
        by_cases c : (passM m nr r true f t).2 = 0
        · rw [if_pos c]; exact passM_13 hj
        · rw [if_neg c]; exact (sail_13 hj fu _ _ _).trans (passM_13 hj)
      · have e1 : sailM nr f t dst (fu + 1) m r acc = (if (passM m nr (r - 1) false f t).2 = 0 then ((passM m nr (r - 1) false f t).1, 0) else sailM nr f t dst fu (passM m nr (r - 1) false f t).1 (r - 1) (acc + (passM m nr (r - 1) false f t).2)) := by
          show (if r = dst then _ else if r < dst then _ else _) = _
          rw [if_neg e, if_neg e2]
        rw [e1]
        by_cases c : (passM m nr (r - 1) false f t).2 = 0
        · rw [if_pos c]; exact passM_13 hj
        · rw [if_neg c]; exact (sail_13 hj fu _ _ _).trans (passM_13 hj)
theorem atX_4 {v : Int32} : ∀ (q : List Nat) (x : Xs) (b j : Nat), (atX v x q).2.1 b j = if j = 4 ∧ b ∈ q then v else x.2.1 b j
  | [], x, b, j => by simp [atX]
  | d :: q, x, b, j => by
    show (atX v (xY x d 4 v) q).2.1 b j = _
    rw [atX_4 q]
    simp only [up2, List.mem_cons]
    by_cases h1 : j = 4 <;> by_cases h2 : b ∈ q <;> by_cases h3 : b = d <;> simp [h1, h2, h3]
theorem atX_1 {v : Int32} : ∀ (q : List Nat) (x : Xs), (atX v x q).1 = x.1 ∧ (atX v x q).2.2 = x.2.2
  | [], _ => ⟨rfl, rfl⟩
  | d :: q, x => atX_1 q (xY x d 4 v)
end
