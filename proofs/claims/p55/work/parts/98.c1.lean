section
variable {x x' : Xs} {m m' : Ms} {n nr nb k b r f dst : Nat} {t : List Nat} {dn : Bool}
theorem rec_m2 {u v w : Int32} : (recM m u v w).2 = m.2 := by unfold recM; split <;> rfl
theorem cnext_m2 {u w : Int32} : (cnext m u k w).2 = m.2 := by
  unfold cnext
  split
  · exact rec_m2
  · exact rec_m2
theorem comes_m2 : ∀ (q : Nat) (m : Ms) (nr : Nat) (u : Int32) (k : Nat) (w : Int32), (comesM q m nr u k w).2 = m.2
  | 0, _, _, _, _, _ => rfl
  | q + 1, m, nr, u, k, w => by
    show (if w ≤ 0 then m else if ¬ nI k = nI nr then comesM q (cnext m u k w) nr (nI k) (k + 1) (cleft m u k w) else mI (recM m u (-2) w) 0 22 ((recM m u (-2) w).1 0 22 + w)).2 = m.2
    split
    · rfl
    · split
      · exact (comes_m2 q _ _ _ _ _).trans cnext_m2
      · exact rec_m2
theorem sail_m2 {q : Nat} {acc : Int32} : (sailM nr f t dst q m r acc).1.2 = m.2 :=
  sailM_ind (fun m' => m'.2 = m.2) (fun m' k h => (comes_m2 _ _ _ _ _ _).trans h) (fun m' k h => (show (fillsM m' k).2 = m'.2 from rec_m2).trans h) (fun v m' q h => (movesM_2 _ _).trans h) (fun m' u v h => h) q m r acc rfl
theorem sail_1p : sailM nr f t (r + 1) 6 m r 0 = passM m nr r true f t := by
  have e : sailM nr f t (r + 1) 6 m r 0 = if (passM m nr r true f t).2 = 0 then ((passM m nr r true f t).1, 0) else ((passM m nr r true f t).1, 0 + (passM m nr r true f t).2) := sail_1 (nr := nr) (f := f) (t := t) (m := m) (r := r)
  rw [e]
  by_cases c : (passM m nr r true f t).2 = 0
  · rw [if_pos c, ← c]
  · rw [if_neg c, Int32.zero_add]
theorem sail_0p (h : 1 ≤ r) : sailM nr f t (r - 1) 6 m r 0 = passM m nr (r - 1) false f t := by
  rw [sail_0 h]
  by_cases c : (passM m nr (r - 1) false f t).2 = 0
  · rw [if_pos c, ← c]
  · rw [if_neg c, Int32.zero_add]
/-- all that ties the class's state to the reference's -/
def Tie (x : Xs) (n : Nat) (m : Ms) (nr nb N : Nat) (cs : List (List Nat)) : Prop := TieW x n m nr ∧ TieR x m nr ∧ TieB x m nb ∧ AtT x m nb nr ∧ CsT x nb cs ∧ FdT x m nb ∧ TxT x m N ∧ TxB x ∧ x.1 14 1 = 0 ∧ x.1 14 3 = nI N
/-- a field that the tie does not speak of -/
theorem Tie.f0 {N : Nat} {cs : List (List Nat)} (h : Tie x n m nr nb N cs) {v : Int32} : Tie x n (mI m 0 0 v) nr nb N cs := by
  obtain ⟨T, R, B, A, C, F, X, h8, h9, h10⟩ := h
  obtain ⟨f1, f2, f3, f4, f5, f6, f7, f8⟩ := F
  refine ⟨T.f0 (by decide), fun k hk => ?_, B.meq (fun p hp j => mI_p (by omega)), A.xeq (fun _ _ => rfl) (fun _ _ => mI_p (by decide)), C, ⟨?_, f2, ?_, f4, ?_, ?_, f7, fun c h1 h2 => (mI_p (by decide)).trans (f8 c h1 h2)⟩, ⟨(mI_k (by decide)).trans X.1, X.2.1, fun i hi => ?_⟩, h8, h9, h10⟩
  · rw [mI_p (by decide), mI_p (by decide)]; exact R k hk
  · rw [mI_k (by decide)]; exact f1
  · rw [mI_k (by decide)]; exact f3
  · rw [mI_k (by decide)]; exact f5
  · rw [mI_k (by decide)]; exact f6
  · rw [mI_p (by decide)]; exact X.2.2 i hi
theorem Tie_start : Tie x1X.1 1 m0X 1 0 0 [] := ⟨TieW_start, TieR_start, TieB_start, AtT_start, CsT_start, FdT_start, TxT_start, fun j => by
  have e : x1X.1.1 23 j = 0 := by
    show (xI (xI (sendR (0 + 1) (0 + 1 - 0) (bedX x0X 0 20) 0 (-1) 2 0 (20 * 30)).1 11 0 100) 12 0 30).1 23 j = 0
    rw [xI_p (by decide), xI_p (by decide), sendR_1 (by decide) (by decide) (by decide) (by decide) (by decide)]
    rfl
  show fits .byte (.int (x1X.1.1 23 j)) = true
  rw [e]
  decide +kernel, by decide +kernel, by decide +kernel⟩
end
