/-! PASSES, all cases; the water that a voyage lets through. -/
section
variable {l : Launch} {G : az_G} {ρ : Rp} {x x' : Xs} {m : Mz} {M M' : Ms} {ou : Nat → Int64} {n nr nb c c' f r dst k lk N q : Nat} {t : List Nat} {cs : List (List Nat)}
theorem ST.le (S : ST c ρ x M n nr nb cs) (h : c ≤ c') : ST c' ρ x M n nr nb cs := ⟨S.1.le h, S.2⟩
theorem passes_ok (hG : az_okS l G) (hc : c ≤ 60) (S : ST c ρ x M n nr nb cs) (hk : k < nb) (dn : Int32) (hdn : dn = 0 ∨ dn = 1) : az_M l G yL_passes (az_ws yL_passes cL_passes 8 (Option.some FieldType.boolean)) 12 [.ref (ρ.1 0), .int (nI k), .int dn] (AD ρ) (KK G ρ x m ou) 16500 99500 (OkW G ρ ou (c + 1) nr nb) := by
  obtain ⟨rl, f, t, r, a1, a2, a3, a4, a5, hr, h4, hnd, hcs, hq, hat, hs⟩ := S.1.voy hk
  have hin : k ∈ f :: t := a2.2.2.2.2.2.2.2
  have hat' := hat k hin
  have S' := S.le (Nat.le_succ c)
  rcases hdn with e | e
  · subst e
    by_cases he : r = 0
    · exact XpasA0 hG (by omega) S' hk hcs hin hr hat' he
    · by_cases hz : (canR M nr f t r (r - 1)).2 = 0
      · by_cases hL : ∀ d ∈ f :: t, M.1 14 d ≤ M.1 8 (r - 1)
        · exact XpasR0b hG (by omega) S' hk hcs hin hr hat' (by omega) hz hL
        · exact XpasR0a hG (by omega) S' hk hcs hin hr hat' (by omega) hz hL
      · exact XpasD0 hG (by omega) S hk hcs hin hr hat' (by omega) hz
  · subst e
    by_cases he : r + 1 = nr
    · exact XpasA1 hG (by omega) S' hk hcs hin hr hat' he
    · by_cases hz : (canR M nr f t r (r + 1)).2 = 0
      · by_cases hL : ∀ d ∈ f :: t, M.1 14 d ≤ M.1 8 r
        · exact XpasR1b hG (by omega) S' hk hcs hin hr hat' (by omega) hz hL
        · exact XpasR1a hG (by omega) S' hk hcs hin hr hat' (by omega) hz hL
      · exact XpasD1 hG (by omega) S hk hcs hin hr hat' (by omega) hz
theorem canR_01 : (canR M nr f t r dst).2 = 0 ∨ (canR M nr f t r dst).2 = 1 := by
  unfold canR
  split
  · exact Or.inr rfl
  · show canV M nr f t r dst = 0 ∨ canV M nr f t r dst = 1
    unfold canV
    split
    · exact Or.inl rfl
    · exact Or.inr rfl
theorem canR_rr : (canR M nr f t r r).2 = 1 := by
  rw [show canR M nr f t r r = (M, 1) from if_pos rfl]
theorem all_keeps : allM (keepsM M) = allM M := by
  unfold allM
  rw [keepsM_p (by decide) (by decide) (by decide) (by decide) (by decide), keepsM_p (by decide) (by decide) (by decide) (by decide) (by decide), keepsM_p (by decide) (by decide) (by decide) (by decide) (by decide), keepsM_p (by decide) (by decide) (by decide) (by decide) (by decide), keepsM_p (by decide) (by decide) (by decide) (by decide) (by decide)]
theorem wat_rr : watM M nr f t r r = 0 := by
  unfold watM
  rw [show sailM nr f t r 6 (keepsM M) r 0 = (keepsM M, 0) from if_pos rfl, all_keeps]
  grind
/-- at most q times the water of a lock went through -/
def Thr (m m' : Ms) (q : Nat) : Prop := (∀ j, m'.1 7 j = m.1 7 j) ∧ ∃ D, D ≤ 200 * q ∧ allM m' = allM m + nI D
theorem Thr.le {q' : Nat} (h : Thr M M' q) (hq : q ≤ q') : Thr M M' q' := ⟨h.1, by obtain ⟨D, h1, h2⟩ := h.2; exact ⟨D, by omega, h2⟩⟩
theorem all_10 {M M' : Ms} (h : ∀ j, M'.1 10 j = M.1 10 j) : allM M' = allM M := by
  unfold allM
  rw [h, h, h, h, h]
theorem Thr.eq {M2 : Ms} (h : Thr M M' q) (h7 : ∀ j, M2.1 7 j = M'.1 7 j) (h10 : ∀ j, M2.1 10 j = M'.1 10 j) : Thr M M2 q := by
  obtain ⟨h1, D, h2, h3⟩ := h
  exact ⟨fun j => (h7 j).trans (h1 j), D, h2, (all_10 h10).trans h3⟩
theorem nI_plus {a b : Nat} : nI a + nI b = nI (a + b) := (Int32.ofNat_add a b).symm
theorem emp_10 {j : Nat} : (emptiesM M nr k).1 10 j = if j = k then M.1 10 k + M.1 7 k else M.1 10 j := by
  unfold emptiesM
  rw [comesM_p (by decide) (by decide) (by decide) (by decide) (by decide)]
  by_cases z : j = k
  · rw [if_pos z, z, mI_s]
  · rw [if_neg z, mI_k z, mI_p (by decide)]
theorem all_emp (hk : k < 5) : allM (emptiesM M nr k) = allM M + M.1 7 k := by
  unfold allM
  rw [emp_10, emp_10, emp_10, emp_10, emp_10]
  have : k = 0 ∨ k = 1 ∨ k = 2 ∨ k = 3 ∨ k = 4 := by omega
  rcases this with e | e | e | e | e <;> subst e <;> simp <;> grind
theorem Thr_e (h : Thr M M' q) (hk : k < 5) (h7 : 1 ≤ (M.1 7 k).toInt ∧ (M.1 7 k).toInt ≤ 200) : Thr M (emptiesM M' nr k) (q + 1) := by
  obtain ⟨h1, D, h2, h3⟩ := h
  obtain ⟨v, hv, ev⟩ : ∃ v : Nat, v ≤ 200 ∧ M.1 7 k = nI v := ⟨(M.1 7 k).toInt.toNat, by omega, by
    rw [i_eq, i_nI (by omega)]
    omega⟩
  refine ⟨fun j => (emptiesM_p (by decide) (by decide) (by decide) (by decide) (by decide) (by decide) (by decide)).trans (h1 j), D + v, by omega, ?_⟩
  rw [all_emp hk, h3, h1 k, ev, ← nI_plus]
  grind
theorem Thr_lock {dn : Bool} {s9 : List Nat} (h : Thr M M' q) (hk : k < 5) (h7 : 1 ≤ (M.1 7 k).toInt ∧ (M.1 7 k).toInt ≤ 200) : Thr M (lockM M' nr k dn s9).1 (q + 1) := by
  have hF : ∀ {m q}, Thr M m q → Thr M (fillsM m k) q := fun h => h.eq (fun j => fillsM_p (by decide) (by decide) (by decide) (by decide) (by decide) (by decide)) (fun j => fillsM_p (by decide) (by decide) (by decide) (by decide) (by decide) (by decide))
  have hA : Thr M (lkA M' nr k dn) (q + (if dn = false then 1 else 0)) := by
    unfold lkA
    by_cases z : dn = false ∧ ¬ M'.1 11 k = 0
    · rw [if_pos z, if_pos z.1]; exact Thr_e h hk h7
    · rw [if_neg z]; exact h.le (Nat.le_add_right _ _)
  have hB : Thr M (lkB (lkA M' nr k dn) k) (q + (if dn = false then 1 else 0)) := by
    unfold lkB
    split
    · exact hF hA
    · exact hA
  have hD : Thr M (lkD M' nr k dn s9) (q + 1) := by
    unfold lkD
    refine Thr.eq (M' := lkC (lkB (lkA M' nr k dn) k) nr k dn) ?_ (fun j => movesM_p (by decide) _ _) (fun j => movesM_p (by decide) _ _)
    unfold lkC
    cases dn
    · exact hB
    · exact Thr_e hB hk h7
  unfold lockM
  split
  · exact h.le (Nat.le_succ q)
  · split
    · exact hA.le (by split <;> omega)
    · exact hD
theorem Thr_L {dn : Bool} (hk : lk < 5) (h7 : 1 ≤ (M.1 7 lk).toInt ∧ (M.1 7 lk).toInt ≤ 200) : ∀ (fu : Nat) (M' : Ms) (s9 : List Nat) (n9 q : Nat), Thr M M' q → Thr M (passL nr lk dn fu M' s9 n9).1 (q + fu)
  | 0, _, _, _, _, h => h
  | fu + 1, _, [], _, _, h => h.le (Nat.le_add_right _ _)
  | fu + 1, M', b :: s, n9, q, h => by
    rw [passL]
    have g := Thr_lock (nr := nr) (dn := dn) (s9 := paM M' lk (b :: s) 0) h hk h7
    split
    · exact (Thr_L hk h7 fu _ _ _ _ g).le (by omega)
    · exact (g.eq (fun j => refM_p (by decide)) (fun j => refM_p (by decide))).le (by omega)
theorem Thr_P {dn : Bool} (h : Thr M M' q) (hk : lk < 5) (h7 : 1 ≤ (M.1 7 lk).toInt ∧ (M.1 7 lk).toInt ≤ 200) : Thr M (passM M' nr lk dn f t).1 (q + (t.length + 1)) := by
  unfold passM
  split
  · split
    · exact (h.eq (fun j => refM_p (by decide)) (fun j => refM_p (by decide))).le (by omega)
    · exact Thr_L hk h7 _ _ _ _ _ h
  · exact (h.eq (fun j => refM_p (by decide)) (fun j => refM_p (by decide))).le (by omega)
theorem Thr_S (h6 : nr ≤ 6) (h7 : ∀ k, k + 1 < nr → 1 ≤ (M.1 7 k).toInt ∧ (M.1 7 k).toInt ≤ 200) (hd : dst < nr) : ∀ (fu : Nat) (M' : Ms) (r : Nat) (acc : Int32) (q : Nat), r < nr → Thr M M' q → Thr M (sailM nr f t dst fu M' r acc).1 (q + fu * (t.length + 1))
  | 0, _, _, _, _, _, h => by rw [Nat.zero_mul]; exact h
  | fu + 1, M', r, acc, q, hr, h => by
    have e : q + (fu + 1) * (t.length + 1) = q + (t.length + 1) + fu * (t.length + 1) := by rw [Nat.succ_mul]; omega
    rw [sailM, e]
    split
    · exact h.le (by omega)
    · rename_i hne
      split
      · rename_i hlt
        have g := Thr_P (nr := nr) (dn := true) (f := f) (t := t) h (show r < 5 by omega) (h7 r (by omega))
        split
        · exact g.le (by omega)
        · exact Thr_S h6 h7 hd fu _ (r + 1) _ _ (by omega) g
      · have g := Thr_P (nr := nr) (dn := false) (f := f) (t := t) h (show r - 1 < 5 by omega) (h7 (r - 1) (by omega))
        split
        · exact g.le (by omega)
        · exact Thr_S h6 h7 hd fu _ (r - 1) _ _ (by omega) g
/-- no voyage takes less than no water -/
theorem wat_ge (S : ST c ρ x M n nr nb cs) (hr : r < nr) (hd : dst < nr) (h4 : t.length < 4) : 0 ≤ watM M nr f t r dst := by
  obtain ⟨-, D, h1, h2⟩ := Thr_S (M := M) (f := f) (t := t) S.1.n6 (fun k hk => by
    have L := (S.1.1.1.1.2.2.2.2.2.2.2.2 k (by have := S.1.n6; omega)).2.2.2.2.2.1 hk
    exact ⟨L.1, L.2.1⟩) hd 6 (keepsM M) r 0 0 hr ⟨fun j => keepsM_p (by decide) (by decide) (by decide) (by decide) (by decide), 0, Nat.le_refl 0, by rw [all_keeps]; show _ = allM M + 0; rw [Int32.add_zero]⟩
  unfold watM
  rw [h2, show allM M + nI D - allM M = nI D by grind]
  exact nI_pos' (by omega)
/-- each barge of a convoy that can go fits into each lock on its way -/
theorem can_len (S : ST c ρ x M n nr nb cs) (hc : c ≤ 64) (hr : r < nr) (hd : dst < nr) (h4 : t.length < 4) (hq : ∀ d ∈ f :: t, d < nb) (hz : ¬ (canR M nr f t r dst).2 = 0) {i : Nat} (h1 : min r dst ≤ i) (h2 : i < max r dst) : ∀ d ∈ f :: t, M.1 14 d ≤ M.1 8 i := by
  have h6 := S.1.n6
  have e1 : (tvX (saveX x) n nr f t r dst).2 = 1 := tvX_01.resolve_left (fun z => hz ((can_eq S hc hr hd h4 hq).symm.trans z))
  have e9 : (saveX x).1 9 i = M.1 8 i := (sav_p (by decide) (by decide) (by decide)).trans (S.lks (k := i) (by omega)).2.1
  have key : mxL (saveX x) (f :: t) 0 ≤ (saveX x).1 9 i := by
    unfold tvX at e1
    by_cases z : r < dst
    · rw [if_pos z] at e1
      have g := tvD_len (dst - r) (saveX x) n r e1 (i - r) (by omega)
      rw [show r + (i - r) = i by omega] at g
      exact g
    · rw [if_neg z] at e1
      have g := tvU_len (r - dst) (saveX x) n r e1 (by omega) (i - dst) (by omega)
      rw [show r - (r - dst) + (i - dst) = i by omega] at g
      exact g
  rw [e9, mxL_x (x := x) (x' := saveX x) rfl] at key
  exact ((mxL_le S.1.1.2.2.1 (f :: t) 0 hq).mp key).2
/-- the parts at a lock, as the law has them: none if a barge is too long -/
def pvM (M : Ms) (f : Nat) (t : List Nat) (i : Nat) : Int32 := if ∀ d ∈ f :: t, M.1 14 d ≤ M.1 8 i then nI (ptM M i (t.length + 1) (f :: t)) else -1002
def spM (M : Ms) (f : Nat) (t : List Nat) : Nat → Int32 → Nat → Int32
  | 0, a, _ => a
  | q + 1, a, i => spM M f t q (a + pvM M f t i) (i + 1)
theorem sp_eq : ∀ (q a i : Nat), (∀ j, j < q → ∀ d ∈ f :: t, M.1 14 d ≤ M.1 8 (i + j)) → spM M f t q (nI a) i = nI (a + smD M f t q i)
  | 0, _, _, _ => rfl
  | q + 1, a, i, h => by
    have e : pvM M f t i = nI (ptM M i (t.length + 1) (f :: t)) := if_pos (h 0 (by omega))
    rw [spM, e, nI_plus, sp_eq q _ (i + 1) (fun j hj => by rw [show i + 1 + j = i + (j + 1) by omega]; exact h (j + 1) (by omega))]
    show nI _ = nI (a + (ptM M i (t.length + 1) (f :: t) + smD M f t q (i + 1)))
    rw [Nat.add_assoc]
theorem sp_V (S : ST c ρ x M n nr nb cs) (hc : c ≤ 64) (hr : r < nr) (hd : dst < nr) (h4 : t.length < 4) (hq : ∀ d ∈ f :: t, d < nb) (hz : ¬ (canR M nr f t r dst).2 = 0) : spM M f t (max r dst - min r dst) 0 (min r dst) = nI (smV M f t r dst) := by
  have g := sp_eq (M := M) (f := f) (t := t) (max r dst - min r dst) 0 (min r dst) (fun j hj => can_len S hc hr hd h4 hq hz (by omega) (by omega))
  rw [show (0 : Int32) = nI 0 from rfl, g, Nat.zero_add]
  unfold smV
  by_cases z : r < dst
  · rw [if_pos z, show max r dst - min r dst = dst - r by omega, show min r dst = r by omega]
  · rw [if_neg z, smU_D (r - dst) r (by omega), show max r dst - min r dst = r - dst by omega, show min r dst = r - (r - dst) by omega]
end
