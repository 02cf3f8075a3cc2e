section
variable {x x' : Xs} {m m' : Ms} {m9 : Mz} {n n' nr nb lk f r dst : Nat} {dn : Bool} {t : List Nat}
theorem allX_eq (T : TieW x n m nr) : allX x = allM m := by
  have e : ∀ k, k < 5 → x.1 5 k = m.1 10 k := fun k hk => (T.1.2.2.2.2.2.2.2.2 k hk).2.2.2.1
  unfold allX allM
  rw [e 0 (by omega), e 1 (by omega), e 2 (by omega), e 3 (by omega), e 4 (by omega)]
theorem backM_0 {j : Nat} (h : j ≠ 24) (h22 : j ≠ 22) : (backM m).1 0 j = m.1 0 j := by
  simp only [backM, mI]
  rw [up2_k h, up2_k h22]
  simp only [up2_p (show (0 : Nat) ≠ 13 by decide), up2_p (show (0 : Nat) ≠ 11 by decide), up2_p (show (0 : Nat) ≠ 10 by decide), up2_p (show (0 : Nat) ≠ 4 by decide)]
/-- a voyage that is refused: the water, and why -/
theorem Tie_refuse {s : Nat} (T : TieW x n m nr) (hr : r < nr) (hd : dst < nr) (V : VoyT (tvX (saveX x) n nr f t r dst) (sailM nr f t dst 6 (keepsM m) r 0) nr s) (hge : n ≤ (tvX (saveX x) n nr f t r dst).1.2) (h0 : ¬ (tvX (saveX x) n nr f t r dst).2 = 1) : TieW (carR (tvX (saveX x) n nr f t r dst).1.1) n (endsM (sailM nr f t dst 6 (keepsM m) r 0).1 3) nr ∧ (carR (tvX (saveX x) n nr f t r dst).1.1).1 0 12 = (endsM (sailM nr f t dst 6 (keepsM m) r 0).1 3).1 0 30 ∧ (carR (tvX (saveX x) n nr f t r dst).1.1).1 0 13 = (endsM (sailM nr f t dst 6 (keepsM m) r 0).1 3).1 0 31 := by
  have C := Tie_cr T hr hd V hge
  obtain ⟨-, -, m', e, -⟩ := V.2 h0
  refine ⟨?_, ?_, ?_⟩
  · exact (((C.xeq (x' := carR (tvX (saveX x) n nr f t r dst).1.1) (by unfold carR; rw [xI_p (by decide), xI_p (by decide)]; rfl) (by unfold carR; rw [xI_p (by decide), xI_p (by decide)]; rfl) (fun p hp => by unfold carR; rw [xI_row (by unfold xW at hp; omega), xI_row (by unfold xW at hp; omega)]; rfl)).f0 (j := 30) (by decide)).f0 (j := 31) (by decide)).f0 (j := 0) (by decide)
  · unfold carR endsM
    rw [xI_k (by decide), xI_s, mI_k (by decide), mI_k (by decide), mI_s, backM_0 (by decide) (by decide), e, res_p (by decide) (by decide) (by decide)]
    unfold refM
    rw [mI_k (by decide), mI_s]
  · unfold carR endsM
    rw [xI_s, mI_k (by decide), mI_s, backM_0 (by decide) (by decide), e, res_p (by decide) (by decide) (by decide)]
    unfold refM
    rw [mI_s]
/-- where barges lie -/
def AtT (x : Xs) (m : Ms) (nb nr : Nat) : Prop := ∀ b, b < nb → x.2.1 b 4 = m.1 13 b ∧ ∃ r, r < nr ∧ m.1 13 b = nI r
theorem AtT.xeq (A : AtT x m nb nr) (h : ∀ b, b < nb → x'.2.1 b 4 = x.2.1 b 4) (h2 : ∀ b, b < nb → m'.1 13 b = m.1 13 b) : AtT x' m' nb nr := fun b hb => by rw [h b hb, h2 b hb]; exact A b hb
/-- after a voyage that was carried out -/
theorem AtT_sail {s : Nat} (T : TieW x n m nr) (B : TieB x m nb) (A : AtT x m nb nr) (hr : r < nr) (hd : dst < nr) (hne : ¬ r = dst) (hs : XSuf nb x (f :: t)) (hnd : (f :: t).Nodup) (hat : ∀ d ∈ f :: t, m.1 13 d = nI r) (V : VoyT (tvX (saveX x) n nr f t r dst) (sailM nr f t dst 6 (keepsM m) r 0) nr s) (hs0 : 0 < s ∧ s < 2 ^ 30) (h1 : (tvX (saveX x) n nr f t r dst).2 = 1) : AtT (atX (nI dst) (tvX (saveX x) n nr f t r dst).1.1 (f :: t)) (sailM nr f t dst 6 (keepsM m) r 0).1 nb nr := by
  have h6 := T.1.2.2.2.1
  have eM := (V.1 h1).1
  have hz : ¬ (sailM nr f t dst 6 (keepsM m) r 0).2 = 0 := by rw [eM]; exact nI_nz9 hs0.1 hs0.2
  have k13 : ∀ b, b < 8 → (keepsM m).1 13 b = m.1 13 b := fun b _ => keepsM_p (by decide) (by decide) (by decide) (by decide) (by decide)
  have hI : InvM (keepsM m) nr (f :: t) := by
    refine ⟨(keeps_0 (by decide)).trans T.1.2.1, fun k hk z => ?_, MSuf_w (fun b => keepsM_p (by decide) (by decide) (by decide) (by decide) (by decide)) (Suf_M B _ hs), fun d hdd z => ?_⟩
    · rw [keepsM_p (by decide) (by decide) (by decide) (by decide) (by decide)] at z
      have := (T.1.2.2.2.2.2.1 k hk).1
      rw [z, i_0] at this; omega
    · rw [keepsM_p (by decide) (by decide) (by decide) (by decide) (by decide)] at z
      have := (B.2 d (Suf_lt _ hs d hdd)).2.2.2.2.1.2.2.2.2.1
      rw [z, i_0] at this; omega
  have hat9 : ∀ d ∈ f :: t, (keepsM m).1 13 d = nI r := fun d hdd => by rw [keepsM_p (by decide) (by decide) (by decide) (by decide) (by decide)]; exact hat d hdd
  have hA := sail_at h6 hd hnd 6 (keepsM m) r 0 hr (by omega) hI hat9 hz
  intro b hb
  rw [atX_4]
  by_cases z : b ∈ f :: t
  · rw [if_pos ⟨rfl, z⟩, hA b z]
    exact ⟨rfl, dst, hd, rfl⟩
  · rw [if_neg (fun y => z y.2), sail_13 z, keepsM_p (by decide) (by decide) (by decide) (by decide) (by decide), show (tvX (saveX x) n nr f t r dst).1.1.2.1 = x.2.1 by rw [tvX_x]; rfl]
    exact A b hb
end
