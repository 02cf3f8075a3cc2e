section
variable {x x' : Xs} {m m' : Ms} {m9 : Mz} {n n' nr nb lk f r dst : Nat} {dn : Bool} {t : List Nat}
theorem sm_bd : ∀ k r, smD m f t k r ≤ k * (t.length + 1) ∧ smU m f t k r ≤ k * (t.length + 1)
  | 0, _ => ⟨by simp [smD], by simp [smU]⟩
  | k + 1, r => by
    obtain ⟨h1, -⟩ := sm_bd k (r + 1)
    obtain ⟨-, h2⟩ := sm_bd k (r - 1)
    have p1 := ptM_le (m := m) (lk := r) (t.length + 1) (f :: t)
    have p2 := ptM_le (m := m) (lk := r - 1) (t.length + 1) (f :: t)
    have e : (k + 1) * (t.length + 1) = k * (t.length + 1) + (t.length + 1) := Nat.succ_mul _ _
    show ptM m r (t.length + 1) (f :: t) + smD m f t k (r + 1) ≤ _ ∧ ptM m (r - 1) (t.length + 1) (f :: t) + smU m f t k (r - 1) ≤ _
    omega
theorem sm_pos {k : Nat} : 0 < smD m f t (k + 1) r ∧ 0 < smU m f t (k + 1) r := by
  have p1 := ptM_pos (m := m) (lk := r) (k := t.length) (b := f) (r := t)
  have p2 := ptM_pos (m := m) (lk := r - 1) (k := t.length) (b := f) (r := t)
  show 0 < ptM m r (t.length + 1) (f :: t) + smD m f t k (r + 1) ∧ 0 < ptM m (r - 1) (t.length + 1) (f :: t) + smU m f t k (r - 1)
  omega
def smV (m : Ms) (f : Nat) (t : List Nat) (r dst : Nat) : Nat := if r < dst then smD m f t (dst - r) r else smU m f t (r - dst) r
theorem smV_bd (h6 : nr ≤ 6) (hr : r < nr) (hd : dst < nr) (hne : ¬ r = dst) (ht : t.length < 20) : 0 < smV m f t r dst ∧ smV m f t r dst < 200 := by
  unfold smV
  by_cases h : r < dst
  · rw [if_pos h]
    obtain ⟨k, hk⟩ : ∃ k, dst - r = k + 1 := ⟨dst - r - 1, by omega⟩
    rw [hk]
    have b := (sm_bd (m := m) (f := f) (t := t) (k + 1) r).1
    have c : (k + 1) * (t.length + 1) ≤ 6 * 20 := Nat.mul_le_mul (by omega) (by omega)
    exact ⟨sm_pos.1, by omega⟩
  · rw [if_neg h]
    obtain ⟨k, hk⟩ : ∃ k, r - dst = k + 1 := ⟨r - dst - 1, by omega⟩
    rw [hk]
    have b := (sm_bd (m := m) (f := f) (t := t) (k + 1) r).2
    have c : (k + 1) * (t.length + 1) ≤ 6 * 20 := Nat.mul_le_mul (by omega) (by omega)
    exact ⟨sm_pos.2, by omega⟩
theorem tv_rr : tvX x n nr f t r r = ((x, n), 1) := by
  unfold tvX
  rw [if_neg (Nat.lt_irrefl r), Nat.sub_self]
  rfl
/-- can a convoy get there: class and reference -/
theorem Tie_can (T : TieW x n m nr) (B : TieB x m nb) (hr : r < nr) (hd : dst < nr) (ht : t.length < 20) (hq : ∀ d ∈ f :: t, d < nb) (hn : n < 2 ^ 28) : (canR m nr f t r dst).2 = (tvX (saveX x) n nr f t r dst).2 ∧ ((tvX (saveX x) n nr f t r dst).2 = 0 ∨ (tvX (saveX x) n nr f t r dst).2 = 1) ∧ TieW (crX x n nr f t r dst) n (canR m nr f t r dst).1 nr := by
  have h6 := T.1.2.2.2.1
  unfold canR
  by_cases h : r = dst
  · subst h
    rw [if_pos rfl, tv_rr]
    refine ⟨rfl, Or.inr rfl, ?_⟩
    have hro := RU_cr (x := x) (n := n) (nr := nr) (f := f) (t := t) hr hr
    exact T.xq (crX_1 (by decide)) crX_n (fun k hk => crX_p (by decide) (by decide) (by decide) (by decide) (by decide) (by decide) (by decide) (by decide) (by decide) (by decide)) (fun p hp => crX_4 hp) (fun k hk => ⟨crX_p (by decide) (by decide) (by decide) (by decide) (by decide) (by decide) (by decide) (by decide) (by decide) (by decide), crX_p (by decide) (by decide) (by decide) (by decide) (by decide) (by decide) (by decide) (by decide) (by decide) (by decide), crX_p (by decide) (by decide) (by decide) (by decide) (by decide) (by decide) (by decide) (by decide) (by decide) (by decide), crX_5 hk⟩) hro
  · rw [if_neg h]
    have V := Tie_V T B hr hd h ht hq hn
    have hs := smV_bd (m := m) (f := f) h6 hr hd h ht
    have hge := (tvS_le (x := x) (n := n) (f := f) (t := t) h6 hr hd).1
    refine ⟨?_, ?_, Tie_cr T hr hd V hge⟩
    · unfold canV
      by_cases c : (tvX (saveX x) n nr f t r dst).2 = 1
      · obtain ⟨e, -⟩ := V.1 c
        rw [c, e, if_neg]
        rw [i_le, i_0, show (if r < dst then smD m f t (dst - r) r else smU m f t (r - dst) r) = smV m f t r dst from rfl, i_nI (by omega)]
        omega
      · obtain ⟨e0, e, -⟩ := V.2 c
        rw [e0, e, if_pos (Int32.le_refl _)]
    · by_cases c : (tvX (saveX x) n nr f t r dst).2 = 1
      · exact Or.inr c
      · exact Or.inl (V.2 c).1
end
