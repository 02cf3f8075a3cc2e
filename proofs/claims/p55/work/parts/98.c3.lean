section
variable {x x' : Xs} {m m' : Ms} {n nr nb N k b r f dst : Nat} {t : List Nat} {dn : Bool} {cs : List (List Nat)}
/-- a voyage that is refused: class and reference -/
theorem Tie_refused (h : Tie x n m nr nb N cs) (hr : r < nr) (hd : dst < nr) (hne : ¬ r = dst) (ht : t.length < 20) (hq : ∀ d ∈ f :: t, d < nb) (hn : n < 2 ^ 28) (h0 : ¬ (tvX (saveX x) n nr f t r dst).2 = 1) : Tie (carR (tvX (saveX x) n nr f t r dst).1.1) n (endsM (sailM nr f t dst 6 (keepsM m) r 0).1 3) nr nb N cs ∧ (sailM nr f t dst 6 (keepsM m) r 0).2 = 0 := by
  obtain ⟨T, R, B, A, C, F, X, h8, h9, h10⟩ := h
  have h6 := T.1.2.2.2.1
  have V := Tie_V T B hr hd hne ht hq hn
  have hge := (tvS_le (x := x) (n := n) (f := f) (t := t) h6 hr hd).1
  obtain ⟨w1, w2, w3⟩ := Tie_refuse T hr hd V hge h0
  obtain ⟨f1, f2, f3, f4, f5, f6, f7, f8⟩ := F
  have hb := B.1
  have ec : canR m nr f t r dst = (canS m nr f t r dst, canV m nr f t r dst) := if_neg hne
  have mo : ∀ p j, p ≠ 0 → (endsM (sailM nr f t dst 6 (keepsM m) r 0).1 3).1 p j = (canR m nr f t r dst).1.1 p j := fun p j hp => by
    rw [ec]
    unfold endsM
    rw [mI_p hp, mI_p hp, mI_p hp]
    rfl
  have m0 : ∀ j, j ≠ 0 → j ≠ 30 → j ≠ 31 → (endsM (sailM nr f t dst 6 (keepsM m) r 0).1 3).1 0 j = (canR m nr f t r dst).1.1 0 j := fun j a b c => by
    rw [ec]
    unfold endsM
    rw [mI_k a, mI_k c, mI_k b]
    rfl
  have m2 : (endsM (sailM nr f t dst 6 (keepsM m) r 0).1 3).2 = m.2 := (sail_m2 (m := keepsM m)).trans rfl
  have xo : ∀ p j, p ≠ 0 → (carR (tvX (saveX x) n nr f t r dst).1.1).1 p j = (crX x n nr f t r dst).1 p j := fun p j hp => by
    unfold carR
    rw [xI_p hp, xI_p hp]
    rfl
  have x0 : ∀ j, j ≠ 12 → j ≠ 13 → (carR (tvX (saveX x) n nr f t r dst).1.1).1 0 j = (crX x n nr f t r dst).1 0 j := fun j a b => by
    unfold carR
    rw [xI_k b, xI_k a]
    rfl
  have hx : (carR (tvX (saveX x) n nr f t r dst).1.1).2 = x.2 := (crX_x (x := x) (n := n) (nr := nr) (f := f) (t := t) (r := r) (dst := dst))
  refine ⟨⟨w1, fun k hk => ?_, (B.meq (fun p hp j => (mo p j (by omega)).trans (canR_p (by omega)))).xeq (by rw [hx]) (by rw [hx]), A.xeq (fun _ _ => by rw [hx]) (fun b hb' => (mo 13 b (by decide)).trans (canR_13 (by omega))), C.xeq (fun _ _ => by rw [hx]) (by rw [hx]), ⟨?_, ?_, ?_, ?_, w2, w3, fun w c hw => by rw [hx]; exact f7 w c hw, fun c z1 z2 => (mo 17 c (by decide)).trans ((canR_p (by omega)).trans (f8 c z1 z2))⟩, ⟨(m0 39 (by decide) (by decide) (by decide)).trans ((canR_0 (by decide)).trans X.1), X.2.1, fun i hi => ?_⟩, fun j => ?_, (xo 14 1 (by decide)).trans ((crX_o (by omega)).trans h9), (xo 14 3 (by decide)).trans ((crX_o (by omega)).trans h10)⟩, (V.2 h0).2.1⟩
  · rw [xo 11 k (by decide), xo 12 k (by decide), crX_o (by omega), crX_o (by omega), mo 6 k (by decide), mo 5 k (by decide), canR_p (by omega), canR_p (by omega)]; exact R k hk
  · rw [x0 8 (by decide) (by decide), crX_0 (by decide) (by decide), m0 2 (by decide) (by decide) (by decide), canR_0 (by decide)]; exact f1
  · rw [x0 7 (by decide) (by decide), crX_0 (by decide) (by decide)]; exact f2
  · rw [m0 12 (by decide) (by decide) (by decide), canR_0 (by decide)]; exact f3
  · rw [hx, m2]; exact f4
  · rw [xo 23 i (by decide), crX_o (by omega), mo 38 i (by decide), canR_p (by omega)]; exact X.2.2 i hi
  · rw [xo 23 j (by decide), crX_o (by omega)]; exact h8 j
end
