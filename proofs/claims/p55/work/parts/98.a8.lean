section
variable {x x' : Xs} {m m' : Ms} {m9 : Mz} {n n' nr nb k b r : Nat}
theorem c255 : ∀ v, v < 128 → ((nI v &&& 255).toUInt32 % 65536).toInt32 = nI v := by decide +kernel
theorem c48 : ∀ k, k < 80 → ((48 + nI k).toUInt32 % 65536).toInt32 = nI (48 + k) := by decide +kernel
theorem cnar : ∀ v, v < 128 → vp_nar .char (nI v) = nI v := by decide +kernel
theorem dig_eq : ∀ L, L < 100 → (if nI L ≤ 9 then [((48 + (nI L - nI L / 10 * 10)).toUInt32 % 65536).toInt32, 100, 109] else [((48 + nI L / 10).toUInt32 % 65536).toInt32, ((48 + (nI L - nI L / 10 * 10)).toUInt32 % 65536).toInt32, 100, 109]) = (digT L ++ [100, 109]).map nI := by decide +kernel
theorem ch_map : ∀ t : List Nat, (∀ d ∈ t, d < 80) → chC t = (chT t).map nI
  | [], _ => rfl
  | d :: t, h => by
    show 43 :: (((48 + nI d).toUInt32 % 65536).toInt32) :: chC t = nI 43 :: nI (48 + d) :: (chT t).map nI
    rw [ch_map t (fun e he => h e (List.mem_cons_of_mem _ he)), c48 d (h d List.mem_cons_self)]
    rfl
theorem row_map (B : TieB x m nb) (A : AtT x m nb nr) {v : Int32} {ch : Nat → List Nat} (hk : k < nb) (hd : ∀ d ∈ ch k, d < 80) : rowC m v ch k = (rowT x v ch k).map nI := by
  have h8 := B.1
  unfold rowC rowT
  rw [(A k hk).1]
  by_cases c : m.1 13 k = v
  · rw [if_pos c, if_pos c, (B.2 k hk).2.2.2.2.2.1]
    cases hl : x.2.2.1 0 k with
    | none =>
      rw [if_pos (show lkI none = -1 from rfl), if_pos rfl, ch_map _ hd, c48 k (by omega)]
      rfl
    | some j =>
      have hj := (B.2 k hk).2.2.2.2.2.2.2 0 j hl
      have hne : ¬ lkI (some j) = -1 := fun z => by
        have z := congrArg Int32.toInt z
        rw [show (lkI (some j)).toInt = j from i_nI (by omega)] at z
        have e : (-1 : Int32).toInt = -1 := rfl
        omega
      rw [if_neg hne, if_neg (fun z => by cases z)]
      rfl
  · rw [if_neg c, if_neg c]; rfl
theorem rows_map (B : TieB x m nb) (A : AtT x m nb nr) {v : Int32} {ch : Nat → List Nat} (hd : ∀ k, k < nb → ∀ d ∈ ch k, d < 80) : ∀ j i, i + j ≤ nb → rowsC m v ch j i = (rowsT x v ch j i).map nI
  | 0, _, _ => rfl
  | j + 1, i, h => by
    show rowC m v ch i ++ rowsC m v ch j (i + 1) = (rowT x v ch i ++ rowsT x v ch j (i + 1)).map nI
    rw [row_map B A (show i < nb by omega) (hd i (by omega)), rows_map B A hd j (i + 1) (by omega), List.map_append]
/-- the line, in the class's numbers -/
def lineL (x : Xs) (r L nb : Nat) (ch : Nat → List Nat) : List Nat := [48 + r] ++ [58, 32] ++ digT L ++ [100, 109] ++ rowsT x (nI r) ch nb 0
theorem line_map (B : TieB x m nb) (A : AtT x m nb nr) {L : Nat} {ch : Nat → List Nat} (hr : r < 80) (hL : L < 100) (hl : levM m r = nI L) (hd : ∀ k, k < nb → ∀ d ∈ ch k, d < 80) : lineM m r nb ch = (lineL x r L nb ch).map nI := by
  unfold lineM lineL headC
  rw [hl, dig_eq L hL, rows_map B A hd nb 0 (by omega), c48 r hr]
  simp only [List.map_append, List.map_cons, List.map_nil, List.append_assoc, List.cons_append, List.nil_append]
  rfl
theorem wrL_38 : ∀ (cs : List Int32) (m : Ms) (n j : Nat), (wrL m n cs).1 38 j = if n ≤ j ∧ j < n + cs.length then vp_nar .char (cs.getD (j - n) 0) else m.1 38 j
  | [], m, n, j => by
    rw [if_neg (by simp)]; rfl
  | c :: cs, m, n, j => by
    show (wrL (wrC m n c) (n + 1) cs).1 38 j = _
    rw [wrL_38 cs]
    have e : ∀ i, (wrC m n c).1 38 i = if i = n then vp_nar .char c else m.1 38 i := fun i => by
      unfold wrC
      rw [mI_p (by decide)]
      by_cases z : i = n
      · subst z; rw [if_pos rfl, mI_s]
      · rw [if_neg z, mI_k z]
    rw [e]
    by_cases z : j = n
    · subst z
      rw [if_neg (by omega), if_pos rfl, if_pos (by simp), Nat.sub_self]
      rfl
    · rw [if_neg z]
      by_cases h : n + 1 ≤ j ∧ j < n + 1 + cs.length
      · rw [if_pos h, if_pos (by simp; omega)]
        rw [show j - n = (j - (n + 1)) + 1 by omega]
        rfl
      · rw [if_neg h, if_neg (by simp; omega)]
/-- the last line: the class's bytes and the reference's characters -/
def TxT (x : Xs) (m : Ms) (N : Nat) : Prop := m.1 0 39 = nI N ∧ N ≤ 34 ∧ ∀ i, i < N → ∃ v, v < 128 ∧ x.1 23 i = nI v ∧ m.1 38 i = nI v
theorem TxT_at (T : TxT x m n) {i : Nat} (hi : i < n) : ((x.1 23 i &&& 255).toUInt32 % 65536).toInt32 = m.1 38 i ∧ vp_nar .char (m.1 38 i) = m.1 38 i := by
  obtain ⟨v, hv, e1, e2⟩ := T.2.2 i hi
  rw [e1, e2]
  exact ⟨c255 v hv, cnar v hv⟩
end
