section
variable {x x' : Xs} {m m' : Ms} {n nr nb k b r : Nat} {u : Int32}
theorem CsT.xeq {cs : List (List Nat)} (C : CsT x nb cs) (h1 : ∀ d, d < nb → x'.2.1 d 4 = x.2.1 d 4) (h2 : x'.2.2.1 = x.2.2.1) : CsT x' nb cs := by
  obtain ⟨c1, c2, c3⟩ := C
  refine ⟨c1, c2, fun M hM => ?_⟩
  obtain ⟨d1, d2, d3, d4, v, d5⟩ := c3 M hM
  exact ⟨d1, d2, XSuf_m M (fun d _ => by rw [h2]) d3, XAh_m trivial M none (fun d _ => by rw [h2]) d4, v, fun d hd => (h1 d (Suf_lt M d3 d hd)).trans (d5 d hd)⟩
theorem sellsM_9 {p j : Nat} (h : p ≠ 17) : (sellsM m k r u).1 p j = m.1 p j := mI_p (m := m) (p := 17) (k := k) (v := m.1 17 k - u) h
/-- sold: class and reference -/
theorem Tie_sell (T : TieW x n m nr) (B : TieB x m nb) (R : TieR x m nr) (hm : x.2.2.2 = m.2) (hk : k < nb) (hr : r < nr) (hu : 1 ≤ u.toInt) (hc : u ≤ m.1 17 k) : TieB (unloadX x k r u) (sellsM m k r u) nb ∧ TieW (unloadX x k r u) n (sellsM m k r u) nr ∧ TieR (unloadX x k r u) (sellsM m k r u) nr ∧ (unloadX x k r u).2.2.2 = (sellsM m k r u).2 := by
  obtain ⟨e1, e2, e3, e4, ⟨f1, f2, f3, f4, f5, f6, f7, f8⟩, e5, e6, e7⟩ := B.2 k hk
  rw [i_le] at hc
  have a : (m.1 17 k - u).toInt = (m.1 17 k).toInt - u.toInt := i_sub (by omega) (by omega)
  have h := TieB_cargo (b := k) B (v := m.1 17 k - u) (by omega) (by omega)
  refine ⟨?_, ?_, ?_, ?_⟩
  · refine (h.meq (m' := sellsM m k r u) (fun p hp j => rfl)).xeq ?_ rfl
    show (xY x k 5 (x.2.1 k 5 - u)).2.1 = _
    rw [e4]
  · exact (T.xeq (x' := unloadX x k r u) rfl rfl (fun _ _ => rfl)).meq (sellsM_9 (by decide)) (sellsM_9 (by decide)) ⟨sellsM_9 (by decide), sellsM_9 (by decide), sellsM_9 (by decide)⟩ (fun p hp => funext fun j => sellsM_9 (by unfold mW at hp; omega))
  · intro j hj
    rw [sellsM_9 (by decide), sellsM_9 (by decide)]
    exact R j hj
  · show x.2.2.2 + u.toInt64 * (x.1 11 r).toInt64 = m.2 + u.toInt64 * (m.1 6 r).toInt64
    rw [hm, (R r hr).1]
/-- one step of a voyage is a passage -/
theorem sail_1 {f : Nat} {t : List Nat} : sailM nr f t (r + 1) 6 m r 0 = if (passM m nr r true f t).2 = 0 then ((passM m nr r true f t).1, 0) else ((passM m nr r true f t).1, 0 + (passM m nr r true f t).2) := by
  show (if r = r + 1 then _ else if r < r + 1 then _ else _) = _
  rw [if_neg (by omega), if_pos (by omega)]
  by_cases c : (passM m nr r true f t).2 = 0
  · rw [if_pos c, if_pos c]
  · rw [if_neg c, if_neg c]
    exact if_pos rfl
theorem sail_0 {f : Nat} {t : List Nat} (h : 1 ≤ r) : sailM nr f t (r - 1) 6 m r 0 = if (passM m nr (r - 1) false f t).2 = 0 then ((passM m nr (r - 1) false f t).1, 0) else ((passM m nr (r - 1) false f t).1, 0 + (passM m nr (r - 1) false f t).2) := by
  show (if r = r - 1 then _ else if r < r - 1 then _ else _) = _
  rw [if_neg (by omega), if_neg (by omega)]
  by_cases c : (passM m nr (r - 1) false f t).2 = 0
  · rw [if_pos c, if_pos c]
  · rw [if_neg c, if_neg c]
    exact if_pos rfl
end
