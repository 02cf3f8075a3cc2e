section
variable {x x' : Xs} {m m' : Ms} {n n' nr nr' nb N k b r f dst : Nat} {t : List Nat} {dn : Bool} {cs : List (List Nat)}
/-- an operation that leaves the barges, the line and the money -/
theorem Tie.water (h : Tie x n m nr nb N cs) (T' : TieW x' n' m' nr') (R' : TieR x' m' nr') (hle : nr ≤ nr') (hx : x'.2 = x.2) (hxo : ∀ p j, p = 14 ∨ p = 23 → x'.1 p j = x.1 p j) (hx0 : x'.1 0 7 = x.1 0 7 ∧ x'.1 0 12 = x.1 0 12 ∧ x'.1 0 13 = x.1 0 13) (h08 : x'.1 0 8 = m'.1 0 2) (hmo : ∀ p j, p = 13 ∨ p = 14 ∨ p = 15 ∨ p = 16 ∨ p = 17 ∨ p = 18 ∨ p = 19 ∨ p = 38 → m'.1 p j = m.1 p j) (hm0 : m'.1 0 12 = m.1 0 12 ∧ m'.1 0 30 = m.1 0 30 ∧ m'.1 0 31 = m.1 0 31 ∧ m'.1 0 39 = m.1 0 39) (hm2 : m'.2 = m.2) : Tie x' n' m' nr' nb N cs := by
  obtain ⟨T, R, B, A, C, F, X, h8, h9, h10⟩ := h
  obtain ⟨f1, f2, f3, f4, f5, f6, f7, f8⟩ := F
  refine ⟨T', R', (B.meq (fun p hp j => hmo p j (by omega))).xeq (by rw [hx]) (by rw [hx]), fun b hb => ?_, C.xeq (fun _ _ => by rw [hx]) (by rw [hx]), ⟨h08, hx0.1.trans f2, hm0.1.trans f3, ?_, ?_, ?_, fun w c hw => by rw [hx]; exact f7 w c hw, fun c h1 h2 => (hmo 17 c (by omega)).trans (f8 c h1 h2)⟩, ⟨hm0.2.2.2.trans X.1, X.2.1, fun i hi => ?_⟩, fun j => ?_, (hxo 14 1 (by omega)).trans h9, (hxo 14 3 (by omega)).trans h10⟩
  · obtain ⟨a1, r, a2, a3⟩ := A b hb
    rw [hx, hmo 13 b (by omega)]
    exact ⟨a1, r, by omega, a3⟩
  · rw [hx, hm2]; exact f4
  · rw [hx0.2.1, hm0.2.1]; exact f5
  · rw [hx0.2.2, hm0.2.2.1]; exact f6
  · rw [hxo 23 i (by omega), hmo 38 i (by omega)]; exact X.2.2 i hi
  · rw [hxo 23 j (by omega)]; exact h8 j
/-- rain -/
theorem Tie_rainT {u : Int32} (h : Tie x n m nr nb N cs) (hk : k < nr) (hn : n + 10 < 2 ^ 30) (hu : 1 ≤ u ∧ u ≤ 5000) : Tie (rainX x n nr k u).1 (rainX x n nr k u).2 (comesM (nr + 1 - k) (mI m 0 21 (m.1 0 21 + u)) nr (-1) k u) nr nb N cs := by
  have T := h.1
  have R := h.2.1
  have F := h.2.2.2.2.2.1
  have xo : ∀ p j, p ≠ 4 → p ≠ 8 → p ≠ 20 → p ≠ 21 → p ≠ 22 → (rainX x n nr k u).1.1 p j = x.1 p j := fun p j a b c d e => sendR_1 a b c d e _ _ _ _ _ _ _
  have mo : ∀ p j, p ≠ 0 → p ≠ 4 → p ≠ 25 → p ≠ 26 → p ≠ 27 → (comesM (nr + 1 - k) (mI m 0 21 (m.1 0 21 + u)) nr (-1) k u).1 p j = m.1 p j := fun p j a b c d e => (comesM_p a b c d e _ _ _ _ _ _).trans (mI_p a)
  have m0 : ∀ j, j ≠ 24 → j ≠ 22 → j ≠ 21 → (comesM (nr + 1 - k) (mI m 0 21 (m.1 0 21 + u)) nr (-1) k u).1 0 j = m.1 0 j := fun j a b c => (comesM_0 a b _ _ _ _ _ _).trans (mI_k c)
  refine h.water (TieW_rain T hk hn hu) (fun j hj => ?_) (Nat.le_refl _) (sendR_x _ _ _ _ _ _ _) (fun p j hp => xo p j (by omega) (by omega) (by omega) (by omega) (by omega)) ⟨xo 0 7 (by decide) (by decide) (by decide) (by decide) (by decide), xo 0 12 (by decide) (by decide) (by decide) (by decide) (by decide), xo 0 13 (by decide) (by decide) (by decide) (by decide) (by decide)⟩ ?_ (fun p j hp => mo p j (by omega) (by omega) (by omega) (by omega) (by omega)) ⟨m0 12 (by decide) (by decide) (by decide), m0 30 (by decide) (by decide) (by decide), m0 31 (by decide) (by decide) (by decide), m0 39 (by decide) (by decide) (by decide)⟩ (comes_m2 _ _ _ _ _ _)
  · rw [xo 11 j (by decide) (by decide) (by decide) (by decide) (by decide), xo 12 j (by decide) (by decide) (by decide) (by decide) (by decide), mo 6 j (by decide) (by decide) (by decide) (by decide) (by decide), mo 5 j (by decide) (by decide) (by decide) (by decide) (by decide)]
    exact R j hj
  · rw [xo 0 8 (by decide) (by decide) (by decide) (by decide) (by decide), m0 2 (by decide) (by decide) (by decide)]
    exact F.1
end
