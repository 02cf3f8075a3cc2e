section
variable {x x' : Xs} {m m' : Ms} {m9 : Mz} {n n' nr nb lk f r dst : Nat} {dn : Bool} {t : List Nat}
theorem tryP_len (h : (tryP x n nr lk dn f t).2 = 0) : mxL x (f :: t) 0 ≤ x.1 9 lk := by
  unfold tryP at h
  by_cases c : mxL x (f :: t) 0 ≤ x.1 9 lk
  · exact c
  · rw [if_neg c] at h
    exact absurd h (show ¬ (1 : Int32) = 0 by decide)
theorem mxL_x (h : x'.2 = x.2) : ∀ (q : List Nat) (acc : Int32), mxL x' q acc = mxL x q acc
  | [], _ => rfl
  | b :: q, acc => by
    show mxL x' q (mx acc (x'.2.1 b 1)) = mxL x q (mx acc (x.2.1 b 1))
    rw [h]; exact mxL_x h q _
theorem tvD_len : ∀ (k : Nat) (x : Xs) (n r : Nat), (tvD nr f t k x n r).2 = 1 → ∀ i, i < k → mxL x (f :: t) 0 ≤ x.1 9 (r + i)
  | 0, _, _, _, _, i, hi => absurd hi (Nat.not_lt_zero i)
  | k + 1, x, n, r, h, i, hi => by
    have e2 : tvD nr f t (k + 1) x n r = (if (tryP x n nr r true f t).2 = 0 then tvD nr f t k (tryP x n nr r true f t).1.1 (tryP x n nr r true f t).1.2 (r + 1) else ((xI (xI (tryP x n nr r true f t).1.1 0 10 (tryP x n nr r true f t).2) 0 11 (nI r), (tryP x n nr r true f t).1.2), 0)) := rfl
    rw [e2] at h
    by_cases c : (tryP x n nr r true f t).2 = 0
    · rw [if_pos c] at h
      cases i with
      | zero => exact tryP_len c
      | succ i =>
        have ih := tvD_len k _ _ _ h i (by omega)
        rw [mxL_x tryP_x, tryP_1 (by decide) (by decide) (by decide) (by decide) (by decide) (by decide), show r + 1 + i = r + (i + 1) by omega] at ih
        exact ih
    · rw [if_neg c] at h
      exact absurd h (show ¬ (0 : Int32) = 1 by decide)
theorem tvU_len : ∀ (k : Nat) (x : Xs) (n r : Nat), (tvU nr f t k x n r).2 = 1 → k ≤ r → ∀ i, i < k → mxL x (f :: t) 0 ≤ x.1 9 (r - k + i)
  | 0, _, _, _, _, _, i, hi => absurd hi (Nat.not_lt_zero i)
  | k + 1, x, n, r, h, hk, i, hi => by
    have e2 : tvU nr f t (k + 1) x n r = (if (tryP x n nr (r - 1) false f t).2 = 0 then tvU nr f t k (tryP x n nr (r - 1) false f t).1.1 (tryP x n nr (r - 1) false f t).1.2 (r - 1) else ((xI (xI (tryP x n nr (r - 1) false f t).1.1 0 10 (tryP x n nr (r - 1) false f t).2) 0 11 (nI (r - 1)), (tryP x n nr (r - 1) false f t).1.2), 0)) := rfl
    rw [e2] at h
    by_cases c : (tryP x n nr (r - 1) false f t).2 = 0
    · rw [if_pos c] at h
      by_cases z : i = k
      · subst z
        rw [show r - (i + 1) + i = r - 1 by omega]
        exact tryP_len c
      · have ih := tvU_len k _ _ _ h (by omega) i (by omega)
        rw [mxL_x tryP_x, tryP_1 (by decide) (by decide) (by decide) (by decide) (by decide) (by decide), show r - 1 - k + i = r - (k + 1) + i by omega] at ih
        exact ih
    · rw [if_neg c] at h
      exact absurd h (show ¬ (0 : Int32) = 1 by decide)
theorem smD_snoc : ∀ k r, smD m f t (k + 1) r = smD m f t k r + ptM m (r + k) (t.length + 1) (f :: t)
  | 0, r => by
    show ptM m r (t.length + 1) (f :: t) + 0 = 0 + ptM m (r + 0) (t.length + 1) (f :: t)
    rw [Nat.add_zero, Nat.zero_add]
    rfl
  | k + 1, r => by
    show ptM m r (t.length + 1) (f :: t) + smD m f t (k + 1) (r + 1) = (ptM m r (t.length + 1) (f :: t) + smD m f t k (r + 1)) + ptM m (r + (k + 1)) (t.length + 1) (f :: t)
    rw [smD_snoc k (r + 1), show r + 1 + k = r + (k + 1) by omega]
    omega
theorem smU_D : ∀ k r, k ≤ r → smU m f t k r = smD m f t k (r - k)
  | 0, _, _ => rfl
  | k + 1, r, h => by
    show ptM m (r - 1) (t.length + 1) (f :: t) + smU m f t k (r - 1) = _
    rw [smU_D k (r - 1) (by omega), smD_snoc, show r - 1 - k = r - (k + 1) by omega, show r - (k + 1) + k = r - 1 by omega]
    omega
theorem pt_eq (B : TieB x m nb) {L : Int32} (hL : L = m.1 8 lk) : ∀ (k : Nat) (q : List Nat), (∀ d ∈ q, d < nb) → (∀ d ∈ q, m.1 14 d ≤ m.1 8 lk) → ptX x L k q = ptM m lk k q
  | 0, _, _, _ => rfl
  | _ + 1, [], _, _ => rfl
  | k + 1, b :: q, h, hl => by
    obtain ⟨p1, p2⟩ := pa_eq1 (lk := lk) B h (hl b List.mem_cons_self)
    show 1 + ptX x L k (epX x L q (x.2.1 b 1)) = 1 + ptM m lk k (epM m lk (b :: q) 0)
    rw [hL, ← p2, pt_eq B rfl k _ (fun d hd => h d (ep_mem _ _ d hd)) (fun d hd => hl d (ep_mem _ _ d hd))]
/-- the parts that a voyage was sent in -/
theorem car_eq (B : TieB x m nb) (hq : ∀ d ∈ f :: t, d < nb) : ∀ (k a lo : Nat), (∀ i, i < k → x.1 9 (lo + i) = m.1 8 (lo + i) ∧ mxL x (f :: t) 0 ≤ x.1 9 (lo + i)) → Xcar1F f t k m9 x (nI a) lo = nI (a + smD m f t k lo)
  | 0, a, lo, _ => rfl
  | k + 1, a, lo, h => by
    obtain ⟨h1, h2⟩ := h 0 (by omega)
    rw [Nat.add_zero] at h1 h2
    show Xcar1F f t k m9 x (nI a + nI (ptX x (x.1 9 lo) (t.length + 1) (f :: t))) (lo + 1) = _
    rw [pt_eq (lk := lo) B h1 _ _ hq (fun d hd => by rw [← h1]; exact ((mxL_le B _ _ hq).mp h2).2 d hd), nI_ad9, car_eq B hq k _ (lo + 1) (fun i hi => by rw [show lo + 1 + i = lo + (i + 1) by omega]; exact h (i + 1) (by omega)), Nat.add_assoc]
    rfl
end
