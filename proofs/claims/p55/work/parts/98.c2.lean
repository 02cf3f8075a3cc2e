section
variable {x x' : Xs} {m m' : Ms} {n nr nb N k b r f dst : Nat} {t : List Nat} {dn : Bool} {cs : List (List Nat)}
theorem canR_m2 : (canR m nr f t r dst).1.2 = m.2 := by
  unfold canR
  split
  · rfl
  · exact (sail_m2 (m := keepsM m)).trans rfl
theorem crX_o {p j : Nat} (h : p = 3 ∨ p = 9 ∨ p = 10 ∨ p = 11 ∨ p = 12 ∨ p = 14 ∨ p = 23) : (crX x n nr f t r dst).1 p j = x.1 p j := crX_p (by omega) (by omega) (by omega) (by omega) (by omega) (by omega) (by omega) (by omega) (by omega) (by omega)
/-- a voyage that is only tried: class and reference -/
theorem Tie_tried (h : Tie x n m nr nb N cs) (hr : r < nr) (hd : dst < nr) (ht : t.length < 20) (hq : ∀ d ∈ f :: t, d < nb) (hn : n < 2 ^ 28) : Tie (crX x n nr f t r dst) n (canR m nr f t r dst).1 nr nb N cs ∧ (canR m nr f t r dst).2 = (tvX (saveX x) n nr f t r dst).2 := by
  obtain ⟨T, R, B, A, C, F, X, h8, h9, h10⟩ := h
  obtain ⟨c1, c2, c3⟩ := Tie_can T B hr hd ht hq hn
  obtain ⟨f1, f2, f3, f4, f5, f6, f7, f8⟩ := F
  have hx : (crX x n nr f t r dst).2 = x.2 := crX_x
  have hb := B.1
  refine ⟨⟨c3, R.can, B.can, A.xeq (fun _ _ => by rw [hx]) (fun b hb' => canR_13 (by omega)), C.xeq (fun _ _ => by rw [hx]) (by rw [hx]), ⟨?_, ?_, ?_, ?_, ?_, ?_, fun w c hw => by rw [hx]; exact f7 w c hw, fun c h1 h2 => (canR_p (by omega)).trans (f8 c h1 h2)⟩, ⟨(canR_0 (by decide)).trans X.1, X.2.1, fun i hi => ?_⟩, fun j => ?_, (crX_o (by omega)).trans h9, (crX_o (by omega)).trans h10⟩, c1⟩
  · rw [crX_0 (by decide) (by decide), canR_0 (by decide)]; exact f1
  · rw [crX_0 (by decide) (by decide)]; exact f2
  · rw [canR_0 (by decide)]; exact f3
  · rw [hx, canR_m2]; exact f4
  · rw [crX_0 (by decide) (by decide), canR_0 (by decide)]; exact f5
  · rw [crX_0 (by decide) (by decide), canR_0 (by decide)]; exact f6
  · rw [crX_o (by omega), canR_p (by omega)]; exact X.2.2 i hi
  · rw [crX_o (by omega)]; exact h8 j
/-- a voyage that is carried out: class and reference -/
theorem Tie_done (h : Tie x n m nr nb N cs) (hr : r < nr) (hd : dst < nr) (hne : ¬ r = dst) (ht : t.length < 20) (hs : XSuf nb x (f :: t)) (hnd : (f :: t).Nodup) (hcs : (f :: t) ∈ cs) (hat : ∀ d ∈ f :: t, m.1 13 d = nI r) (hn : n < 2 ^ 28) (h1 : (tvX (saveX x) n nr f t r dst).2 = 1) : Tie (atX (nI dst) (tvX (saveX x) n nr f t r dst).1.1 (f :: t)) (tvX (saveX x) n nr f t r dst).1.2 (sailM nr f t dst 6 (keepsM m) r 0).1 nr nb N cs ∧ (sailM nr f t dst 6 (keepsM m) r 0).2 = nI (smV m f t r dst) := by
  obtain ⟨T, R, B, A, C, F, X, h8, h9, h10⟩ := h
  have h6 := T.1.2.2.2.1
  have hq := Suf_lt _ hs
  have V := Tie_V T B hr hd hne ht hq hn
  have hs9 := smV_bd (m := m) (f := f) h6 hr hd hne ht
  obtain ⟨v1, v2⟩ := V.1 h1
  obtain ⟨f1, f2, f3, f4, f5, f6, f7, f8⟩ := F
  have hx : (tvX (saveX x) n nr f t r dst).1.1.2 = x.2 := tvX_x.trans rfl
  have a1 := atX_1 (v := nI dst) (f :: t) (tvX (saveX x) n nr f t r dst).1.1
  have a4 := atX_4 (v := nI dst) (f :: t) (tvX (saveX x) n nr f t r dst).1.1
  have xo : ∀ p j, p = 11 ∨ p = 12 ∨ p = 14 ∨ p = 23 → (atX (nI dst) (tvX (saveX x) n nr f t r dst).1.1 (f :: t)).1 p j = x.1 p j := fun p j hp => by
    rw [a1.1, tvX_1 (by omega) (by omega) (by omega) (by omega) (by omega) (by omega) (by omega)]
    exact sav_p (by omega) (by omega) (by omega)
  have x0 : ∀ j, j ≠ 10 → j ≠ 11 → (atX (nI dst) (tvX (saveX x) n nr f t r dst).1.1 (f :: t)).1 0 j = x.1 0 j := fun j hj hj2 => by
    rw [a1.1, tvX_0 hj hj2]
    exact sav_p (by decide) (by decide) (by decide)
  have mo : ∀ p j, p = 5 ∨ p = 6 ∨ p = 14 ∨ p = 15 ∨ p = 16 ∨ p = 17 ∨ p = 18 ∨ p = 19 ∨ p = 38 → (sailM nr f t dst 6 (keepsM m) r 0).1.1 p j = m.1 p j := fun p j hp => by
    rw [sailM_p (by omega) (by omega) (by omega) (by omega) (by omega) (by omega) (by omega) (by omega)]
    exact keepsM_p (by omega) (by omega) (by omega) (by omega) (by omega)
  have m0 : ∀ j, j ≠ 24 ∧ j ≠ 22 ∧ j ≠ 28 ∧ j ≠ 29 ∧ j ≠ 36 ∧ j ≠ 37 → (sailM nr f t dst 6 (keepsM m) r 0).1.1 0 j = m.1 0 j := fun j hj => by
    rw [sailM_0 hj.1 hj.2.1 hj.2.2.1 hj.2.2.2.1]
    exact keeps_0 hj.2.2.2.2
  have B1 : TieB x (sailM nr f t dst 6 (keepsM m) r 0).1 nb := B.meq (fun p hp j => mo p j (by omega))
  have C1 : CsT (tvX (saveX x) n nr f t r dst).1.1 nb cs := C.xeq (fun _ _ => by rw [hx]) (by rw [hx])
  refine ⟨⟨v2.xeq (by rw [a1.1]) (by rw [a1.1]) (fun p _ => by rw [a1.1]), fun k hk => ?_, ⟨B1.1, fun b hb => ?_⟩, AtT_sail T B A hr hd hne hs hnd hat V ⟨hs9.1, by have := hs9.2; show smV m f t r dst < 2 ^ 30; omega⟩ h1, CsT_at C1 hcs, ⟨?_, ?_, ?_, ?_, ?_, ?_, fun w c hw => by rw [a1.2, hx]; exact f7 w c hw, fun c z1 z2 => (mo 17 c (by omega)).trans (f8 c z1 z2)⟩, ⟨(m0 39 (by decide)).trans X.1, X.2.1, fun i hi => ?_⟩, fun j => ?_, (xo 14 1 (by omega)).trans h9, (xo 14 3 (by omega)).trans h10⟩, v1⟩
  · rw [xo 11 k (by omega), xo 12 k (by omega), mo 6 k (by omega), mo 5 k (by omega)]; exact R k hk
  · have hb' := B1.2 b hb
    rw [a4 b 1, a4 b 2, a4 b 3, a4 b 5, if_neg (by omega), if_neg (by omega), if_neg (by omega), if_neg (by omega), a1.2, hx]
    exact hb'
  · rw [x0 8 (by decide) (by decide), m0 2 (by decide)]; exact f1
  · rw [x0 7 (by decide) (by decide)]; exact f2
  · rw [m0 12 (by decide)]; exact f3
  · rw [a1.2, hx, sail_m2]; exact f4
  · rw [x0 12 (by decide) (by decide), m0 30 (by decide)]; exact f5
  · rw [x0 13 (by decide) (by decide), m0 31 (by decide)]; exact f6
  · rw [xo 23 i (by omega), mo 38 i (by omega)]; exact X.2.2 i hi
  · rw [xo 23 j (by omega)]; exact h8 j
end
