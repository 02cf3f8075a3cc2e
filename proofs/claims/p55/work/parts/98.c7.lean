section
variable {x x' : Xs} {m m' : Ms} {m9 : Mz} {n n' nr nr' nb N k b r : Nat} {cs : List (List Nat)} {u : Int32}
theorem Tie_stdT (h : Tie x n m nr nb N cs) (hk : k < nb) (hr : r < nr) (hu : (m.1 15 k).toInt ≤ u.toInt ∧ u.toInt ≤ 60) : ∃ M : Nat, M < 2 ^ 30 ∧ (∀ i, i < M → ¬ deepM (stdM m k r i) k ≤ u) ∧ deepM (stdM m k r M) k ≤ u ∧ stdX x k u = nI M ∧ Tie (unloadX x k r (nI M)) n (stdM m k r M) nr nb N cs := by
  obtain ⟨M, a1, a2, a3, a4, B', e, hx, hl⟩ := Tie_std h.2.2.1 h.2.1 h.2.2.2.2.2.1.2.2.2.1 hk hr hu
  refine ⟨M, a1, a2, a3, a4, h.trade hk ?_ ?_ B' e hx hl (fun d => xY_k (by omega)) (fun p j hp => stdM_p hp M) (fun j hj => by rw [std_17, if_neg hj])⟩
  · exact (h.1.xeq (x' := unloadX x k r (nI M)) rfl rfl (fun _ _ => rfl)).meq (stdM_p (by decide) M) (stdM_p (by decide) M) ⟨stdM_p (by decide) M, stdM_p (by decide) M, stdM_p (by decide) M⟩ (fun p hp => funext fun j => stdM_p (by unfold mW at hp; omega) M)
  · intro j hj
    rw [stdM_p (by decide), stdM_p (by decide)]
    exact h.2.1 j hj
/-- a refused purchase changes nothing -/
theorem Tie_buyB (h : Tie x n m nr nb N cs) (hk : k < nb) : Tie x n (buyB m k u) nr nb N cs := by
  refine h.trade hk (h.1.meq (buyB_p (by decide)) (buyB_p (by decide)) ⟨buyB_p (by decide), buyB_p (by decide), buyB_p (by decide)⟩ (fun p hp => funext fun j => buyB_p (by unfold mW at hp; omega))) (fun j hj => ?_) (h.2.2.1.meq (fun p hp j => ?_)) h.2.2.2.2.2.1.2.2.2.1 rfl rfl (fun _ => rfl) (fun p j hp => buyB_p hp) (fun j _ => buyB_17)
  · rw [buyB_p (by decide), buyB_p (by decide)]; exact h.2.1 j hj
  · by_cases z : p = 17
    · subst z; exact buyB_17
    · exact buyB_p z
/-- links: class and reference -/
theorem Tie.links {cs' : List (List Nat)} (h : Tie x n m nr nb N cs) (B' : TieB x' m' nb) (C' : CsT x' nb cs') (hx : x'.1 = x.1) (h2 : x'.2.1 = x.2.1) (h3 : x'.2.2.2 = x.2.2.2) (hw2 : ∀ w c, 2 ≤ w → x'.2.2.1 w c = none) (hmo : ∀ p j, p ≠ 0 → p ≠ 18 → p ≠ 19 → m'.1 p j = m.1 p j) (hm0 : ∀ j, j ≠ 0 → m'.1 0 j = m.1 0 j) (hm2 : m'.2 = m.2) : Tie x' n m' nr nb N cs' := by
  obtain ⟨T, R, B, A, C, F, X, h8, h9, h10⟩ := h
  obtain ⟨f1, f2, f3, f4, f5, f6, f7, f8⟩ := F
  refine ⟨(T.xeq (x' := x') (by rw [hx]) (by rw [hx]) (fun _ _ => by rw [hx])).meq (hm0 1 (by decide)) (hm0 24 (by decide)) ⟨hm0 21 (by decide), hm0 22 (by decide), hm0 23 (by decide)⟩ (fun p hp => funext fun j => hmo p j (by unfold mW at hp; omega) (by unfold mW at hp; omega) (by unfold mW at hp; omega)), fun j hj => ?_, B', fun b hb => ?_, C', ⟨?_, by rw [hx]; exact f2, ?_, ?_, ?_, ?_, hw2, fun c z1 z2 => (hmo 17 c (by decide) (by decide) (by decide)).trans (f8 c z1 z2)⟩, ⟨(hm0 39 (by decide)).trans X.1, X.2.1, fun i hi => ?_⟩, fun j => by rw [hx]; exact h8 j, by rw [hx]; exact h9, by rw [hx]; exact h10⟩
  · rw [hx, hmo 6 j (by decide) (by decide) (by decide), hmo 5 j (by decide) (by decide) (by decide)]; exact R j hj
  · rw [h2, hmo 13 b (by decide) (by decide) (by decide)]; exact A b hb
  · rw [hx, hm0 2 (by decide)]; exact f1
  · rw [hm0 12 (by decide)]; exact f3
  · rw [h3, hm2]; exact f4
  · rw [hx, hm0 30 (by decide)]; exact f5
  · rw [hx, hm0 31 (by decide)]; exact f6
  · rw [hx, hmo 38 i (by decide) (by decide) (by decide)]; exact X.2.2 i hi
end
