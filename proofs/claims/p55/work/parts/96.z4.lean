section
variable {x x' : Xs} {m m' : Ms} {n n' nr nb lk : Nat} {dn : Bool}
/-- one part through a lock -/
def tpS (x : Xs) (n nr lk : Nat) (dn : Bool) (q : List Nat) : (Xs × Nat) × Int32 :=
  if levX9 x (rIn dn lk) ≤ mxD x q 0 then ((x, n), 3)
  else if (tpA x n nr lk dn).1.1 4 (lk + 13) ≤ 0 ∧ (tpA x n nr lk dn).1.1 4 (lk + 3) < (tpA x n nr lk dn).1.1 3 lk then (tpA x n nr lk dn, 4)
  else if levX9 (tpC (tpB (tpA x n nr lk dn).1 (tpA x n nr lk dn).2 lk).1 (tpB (tpA x n nr lk dn).1 (tpA x n nr lk dn).2 lk).2 nr lk dn).1 (rOut dn lk) ≤ mxD x q 0 then (tpC (tpB (tpA x n nr lk dn).1 (tpA x n nr lk dn).2 lk).1 (tpB (tpA x n nr lk dn).1 (tpA x n nr lk dn).2 lk).2 nr lk dn, 5)
  else (tpC (tpB (tpA x n nr lk dn).1 (tpA x n nr lk dn).2 lk).1 (tpB (tpA x n nr lk dn).1 (tpA x n nr lk dn).2 lk).2 nr lk dn, 0)
theorem tpX_S {k b : Nat} {r : List Nat} : tpX nr lk dn (k + 1) x n (b :: r) = if (tpS x n nr lk dn (b :: paX x (x.1 9 lk) r (x.2.1 b 1))).2 = 0 then tpX nr lk dn k (tpS x n nr lk dn (b :: paX x (x.1 9 lk) r (x.2.1 b 1))).1.1 (tpS x n nr lk dn (b :: paX x (x.1 9 lk) r (x.2.1 b 1))).1.2 (epX x (x.1 9 lk) r (x.2.1 b 1)) else tpS x n nr lk dn (b :: paX x (x.1 9 lk) r (x.2.1 b 1)) := by
  conv => lhs; unfold tpX
  unfold tpS
  by_cases h1 : levX9 x (rIn dn lk) ≤ mxD x (b :: paX x (x.1 9 lk) r (x.2.1 b 1)) 0
  · rw [if_pos h1, if_pos h1, if_neg (show ¬ (3 : Int32) = 0 by decide)]
  · rw [if_neg h1, if_neg h1]
    by_cases h2 : (tpA x n nr lk dn).1.1 4 (lk + 13) ≤ 0 ∧ (tpA x n nr lk dn).1.1 4 (lk + 3) < (tpA x n nr lk dn).1.1 3 lk
    · rw [if_pos h2, if_pos h2, if_neg (show ¬ (4 : Int32) = 0 by decide)]
    · rw [if_neg h2, if_neg h2]
      by_cases h3 : levX9 (tpC (tpB (tpA x n nr lk dn).1 (tpA x n nr lk dn).2 lk).1 (tpB (tpA x n nr lk dn).1 (tpA x n nr lk dn).2 lk).2 nr lk dn).1 (rOut dn lk) ≤ mxD x (b :: paX x (x.1 9 lk) r (x.2.1 b 1)) 0
      · rw [if_pos h3, if_pos h3, if_neg (show ¬ (5 : Int32) = 0 by decide)]
      · rw [if_neg h3, if_neg h3, if_pos rfl]
theorem tpS_x {q : List Nat} : (tpS x n nr lk dn q).1.1.2 = x.2 := by
  have hA : (tpA x n nr lk dn).1.2 = x.2 := by unfold tpA; split; exact em_x; rfl
  have hB : ∀ (y : Xs) (k : Nat), (tpB y k lk).1.2 = y.2 := fun y k => by unfold tpB; split; exact fi_x; rfl
  have hC : ∀ (y : Xs) (k : Nat), (tpC y k nr lk dn).1.2 = y.2 := fun y k => by unfold tpC; split; exact em_x; rfl
  unfold tpS
  split
  · rfl
  · split
    · exact hA
    · split
      · exact (hC _ _).trans ((hB _ _).trans hA)
      · exact (hC _ _).trans ((hB _ _).trans hA)
/-- one part through a lock: class and reference -/
theorem Tie_S (T : TieW x n m nr) (B : TieB x m nb) (hk : lk + 1 < nr) (hn : n + 40 < 2 ^ 30) {b : Nat} {q : List Nat} (h : ∀ d ∈ b :: q, d < nb) : (tpS x n nr lk dn (b :: q)).2 = (lockM m nr lk dn (b :: q)).2 ∧ TieW (tpS x n nr lk dn (b :: q)).1.1 (tpS x n nr lk dn (b :: q)).1.2 (lockM m nr lk dn (b :: q)).1 nr ∧ (tpS x n nr lk dn (b :: q)).1.2 ≤ n + 2 * nr + 1 := by
  have h6 := T.1.2.2.2.1
  obtain ⟨ri, ro⟩ := rIn_lt (dn := dn) h6 hk
  have hin := afl_eq2 T B ri h
  unfold tpS lockM
  by_cases h1 : aflI m (rIn dn lk) (b :: q) = 0
  · rw [if_pos h1, if_pos (hin.mpr h1)]
    exact ⟨rfl, T, by show n ≤ n + 2 * nr + 1; omega⟩
  · rw [if_neg h1, if_neg (fun z => h1 (hin.mp z))]
    obtain ⟨TA, nA⟩ := Tie_A (dn := dn) T hk (by omega)
    have e4 : (tpA x n nr lk dn).1.1 4 (lk + 3) = (lkA m nr lk dn).1 4 lk := by rw [TA.2 (lk + 3) (by omega), amt_k (by omega)]; simp
    have e3 := (TA.1.2.2.2.2.2.2.2.2 lk (by omega)).1
    by_cases h2 : (lkA m nr lk dn).1 11 lk = 0 ∧ (lkA m nr lk dn).1 4 lk < (lkA m nr lk dn).1 7 lk
    · rw [if_pos h2, if_pos ⟨(ch_le TA hk).mpr h2.1, by rw [e4, e3]; exact h2.2⟩]
      exact ⟨rfl, TA, Nat.le_trans nA (by omega)⟩
    · rw [if_neg h2, if_neg (fun z => h2 ⟨(ch_le TA hk).mp z.1, by rw [← e4, ← e3]; exact z.2⟩)]
      obtain ⟨TB, fB, nB⟩ := Tie_B TA hk (by omega) h2
      obtain ⟨TC, nC⟩ := Tie_C (dn := dn) TB hk (by omega) fB
      have TD : TieW (tpC (tpB (tpA x n nr lk dn).1 (tpA x n nr lk dn).2 lk).1 (tpB (tpA x n nr lk dn).1 (tpA x n nr lk dn).2 lk).2 nr lk dn).1 (tpC (tpB (tpA x n nr lk dn).1 (tpA x n nr lk dn).2 lk).1 (tpB (tpA x n nr lk dn).1 (tpA x n nr lk dn).2 lk).2 nr lk dn).2 (lkD m nr lk dn (b :: q)) nr := TC.moves
      have BD : TieB x (lkD m nr lk dn (b :: q)) nb := by
        refine B.meq (fun p hp j => ?_)
        unfold lkD
        rw [movesM_p (by omega)]
        have eA : (lkA m nr lk dn).1 p j = m.1 p j := by unfold lkA; split; exact emptiesM_p (by omega) (by omega) (by omega) (by omega) (by omega) (by omega) (by omega); rfl
        have eB : ∀ y : Ms, (lkB y lk).1 p j = y.1 p j := fun y => by unfold lkB; split; exact fillsM_p (by omega) (by omega) (by omega) (by omega) (by omega) (by omega); rfl
        have eC : ∀ y : Ms, (lkC y nr lk dn).1 p j = y.1 p j := fun y => by unfold lkC; split; exact emptiesM_p (by omega) (by omega) (by omega) (by omega) (by omega) (by omega) (by omega); rfl
        rw [eC, eB, eA]
      have hout := afl_eq2 TD BD ro h
      by_cases h3 : aflI (lkD m nr lk dn (b :: q)) (rOut dn lk) (b :: q) = 0
      · rw [if_pos h3, if_pos (hout.mpr h3)]
        exact ⟨rfl, TD, Nat.le_trans nC (by omega)⟩
      · rw [if_neg h3, if_neg (fun z => h3 (hout.mp z))]
        exact ⟨rfl, TD, Nat.le_trans nC (by omega)⟩
theorem Tie_tp (hk : lk + 1 < nr) : ∀ (k : Nat) (x : Xs) (n : Nat) (m : Ms) (q : List Nat) (n9 : Nat), TieW x n m nr → TieB x m nb → (∀ d ∈ q, d < nb) → (∀ d ∈ q, m.1 14 d ≤ m.1 8 lk) → n + k * 20 + 40 < 2 ^ 30 →
    ((tpX nr lk dn k x n q).2 = 0 → (passL nr lk dn k m q n9).2 = nI (n9 + ptM m lk k q) ∧ TieW (tpX nr lk dn k x n q).1.1 (tpX nr lk dn k x n q).1.2 (passL nr lk dn k m q n9).1 nr) ∧
    (¬ (tpX nr lk dn k x n q).2 = 0 → (passL nr lk dn k m q n9).2 = 0 ∧ ∃ m' : Ms, (passL nr lk dn k m q n9).1 = refM m' (tpX nr lk dn k x n q).2 (nI lk) ∧ TieW (tpX nr lk dn k x n q).1.1 (tpX nr lk dn k x n q).1.2 m' nr)
  | 0, x, n, m, q, n9, T, _, _, _, _ => ⟨fun _ => ⟨rfl, T⟩, fun z => absurd rfl z⟩
  | _ + 1, x, n, m, [], n9, T, _, _, _, _ => ⟨fun _ => ⟨rfl, T⟩, fun z => absurd rfl z⟩
  | k + 1, x, n, m, b :: r, n9, T, B, hq, hl, hn => by
    have h6 := T.1.2.2.2.1
    have e9 := (T.1.2.2.2.2.2.2.2.2 lk (by omega)).2.1
    obtain ⟨p1, p2⟩ := pa_eq1 (lk := lk) B hq (hl b List.mem_cons_self)
    rw [tpX_S, e9, ← p2]
    have hS := Tie_S (dn := dn) T B hk (by omega) (b := b) (q := paX x (m.1 8 lk) r (x.2.1 b 1)) (by
      intro d hd
      rw [← p1] at hd
      exact hq d (pa_mem _ _ d hd))
    have eP : passL nr lk dn (k + 1) m (b :: r) n9 = if (lockM m nr lk dn (b :: paX x (m.1 8 lk) r (x.2.1 b 1))).2 = 0 then passL nr lk dn k (lockM m nr lk dn (b :: paX x (m.1 8 lk) r (x.2.1 b 1))).1 (epM m lk (b :: r) 0) (n9 + 1) else (refM (lockM m nr lk dn (b :: paX x (m.1 8 lk) r (x.2.1 b 1))).1 (lockM m nr lk dn (b :: paX x (m.1 8 lk) r (x.2.1 b 1))).2 (nI lk), 0) := by
      rw [← p1]; rfl
    rw [eP]
    have hx := tpS_x (x := x) (n := n) (nr := nr) (lk := lk) (dn := dn) (q := b :: paX x (m.1 8 lk) r (x.2.1 b 1))
    have hB' : TieB x (lockM m nr lk dn (b :: paX x (m.1 8 lk) r (x.2.1 b 1))).1 nb := B.lock
    have f8 : (lockM m nr lk dn (b :: paX x (m.1 8 lk) r (x.2.1 b 1))).1.1 8 lk = m.1 8 lk := lockM_p (by decide) (by decide) (by decide) (by decide) (by decide) (by decide) (by decide) (by decide)
    have f14 : ∀ d, (lockM m nr lk dn (b :: paX x (m.1 8 lk) r (x.2.1 b 1))).1.1 14 d = m.1 14 d := fun d => lockM_p (by decide) (by decide) (by decide) (by decide) (by decide) (by decide) (by decide) (by decide)
    generalize tpS x n nr lk dn (b :: paX x (m.1 8 lk) r (x.2.1 b 1)) = S at *
    generalize lockM m nr lk dn (b :: paX x (m.1 8 lk) r (x.2.1 b 1)) = L at *
    obtain ⟨s1, s2, s3⟩ := hS
    by_cases hc : S.2 = 0
    · rw [if_pos hc, if_pos (s1.symm.trans hc)]
      have ih := Tie_tp hk k S.1.1 S.1.2 L.1 (epM m lk (b :: r) 0) (n9 + 1) s2 (hB'.xeq (by rw [hx]) (by rw [hx])) (fun d hd => hq d (ep_mem _ _ d hd)) (fun d hd => by rw [f14, f8]; exact hl d (ep_mem _ _ d hd)) (by omega)
      rw [ptM_eq f8 f14] at ih
      rw [show n9 + ptM m lk (k + 1) (b :: r) = n9 + 1 + ptM m lk k (epM m lk (b :: r) 0) by show n9 + (1 + ptM m lk k (epM m lk (b :: r) 0)) = _; omega]
      exact ih
    · rw [if_neg hc, if_neg (fun z => hc (s1.trans z))]
      refine ⟨fun z => absurd z hc, fun _ => ⟨rfl, L.1, ?_, s2⟩⟩
      rw [s1]
end
