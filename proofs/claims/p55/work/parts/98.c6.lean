section
variable {x x' : Xs} {m m' : Ms} {m9 : Mz} {n n' nr nr' nb N k b r : Nat} {cs : List (List Nat)} {u : Int32}
/-- an operation that changes a barge's cargo and the money -/
theorem Tie.trade (h : Tie x n m nr nb N cs) (hk : k < nb) (T' : TieW x' n m' nr) (R' : TieR x' m' nr) (B' : TieB x' m' nb) (hm : x'.2.2.2 = m'.2) (hx : x'.1 = x.1) (hl : x'.2.2.1 = x.2.2.1) (h4 : ∀ d, x'.2.1 d 4 = x.2.1 d 4) (hmo : ∀ p j, p ≠ 17 → m'.1 p j = m.1 p j) (h17 : ∀ j, j ≠ k → m'.1 17 j = m.1 17 j) : Tie x' n m' nr nb N cs := by
  obtain ⟨T, R, B, A, C, F, X, h8, h9, h10⟩ := h
  obtain ⟨f1, f2, f3, f4, f5, f6, f7, f8⟩ := F
  refine ⟨T', R', B', fun b hb => ?_, C.xeq (fun d _ => h4 d) hl, ⟨?_, ?_, ?_, hm, ?_, ?_, fun w c hw => by rw [hl]; exact f7 w c hw, fun c h1 h2 => (h17 c (by omega)).trans (f8 c h1 h2)⟩, ⟨(hmo 0 39 (by decide)).trans X.1, X.2.1, fun i hi => ?_⟩, fun j => by rw [hx]; exact h8 j, by rw [hx]; exact h9, by rw [hx]; exact h10⟩
  · rw [h4 b, hmo 13 b (by decide)]; exact A b hb
  · rw [hx, hmo 0 2 (by decide)]; exact f1
  · rw [hx]; exact f2
  · rw [hmo 0 12 (by decide)]; exact f3
  · rw [hx, hmo 0 30 (by decide)]; exact f5
  · rw [hx, hmo 0 31 (by decide)]; exact f6
  · rw [hx, hmo 38 i (by decide)]; exact X.2.2 i hi
theorem Tie_buyT (h : Tie x n m nr nb N cs) (hk : k < nb) (hr : r < nr) (hu : 1 ≤ u.toInt ∧ u.toInt ≤ 999) (hf : floatX x k r u = 1) : Tie (buyX x k r u) n (buyF m k r u) nr nb N cs := by
  obtain ⟨B', T', R', e⟩ := Tie_buy h.1 h.2.2.1 h.2.1 h.2.2.2.2.2.1.2.2.2.1 hk hr hu hf
  exact h.trade hk T' R' B' e rfl rfl (fun d => xY_k (by omega)) (fun p j hp => buyF_p hp) (fun j hj => by rw [buyF_17, if_neg hj])
theorem Tie_sellT (h : Tie x n m nr nb N cs) (hk : k < nb) (hr : r < nr) (hu : 1 ≤ u.toInt) (hc : u ≤ m.1 17 k) : Tie (unloadX x k r u) n (sellsM m k r u) nr nb N cs := by
  obtain ⟨B', T', R', e⟩ := Tie_sell h.1 h.2.2.1 h.2.1 h.2.2.2.2.2.1.2.2.2.1 hk hr hu hc
  exact h.trade hk T' R' B' e rfl rfl (fun d => xY_k (by omega)) (fun p j hp => sellsM_9 hp) (fun j hj => mI_k (m := m) (p := 17) (k := k) (v := m.1 17 k - u) hj)
end
