section
variable {x x' : Xs} {m m' : Ms} {m9 : Mz} {n n' nr nb k b r : Nat}
theorem map_getD : ∀ (cs : List Nat) (i : Nat), (cs.map nI).getD i 0 = nI (cs.getD i 0)
  | [], i => by simp; rfl
  | c :: cs, 0 => rfl
  | c :: cs, i + 1 => by
    show (cs.map nI).getD i 0 = nI (cs.getD i 0)
    exact map_getD cs i
theorem getD_lt : ∀ (cs : List Nat) (i : Nat), (∀ v ∈ cs, v < 128) → cs.getD i 0 < 128
  | [], i, _ => by simp
  | c :: cs, 0, h => h c List.mem_cons_self
  | c :: cs, i + 1, h => by
    show cs.getD i 0 < 128
    exact getD_lt cs i (fun v hv => h v (List.mem_cons_of_mem _ hv))
theorem TxT_write (B : TieB x m nb) (A : AtT x m nb nr) {L : Nat} {ch : Nat → List Nat} (hr : r < 80) (hL : L < 100) (hl : levM m r = nI L) (hd : ∀ k, k < nb → ∀ d ∈ ch k, d < 80) (hv : ∀ v ∈ lineL x r L nb ch, v < 128) (hlen : (lineL x r L nb ch).length ≤ 34) : TxT (txA (setX x n) 0 (lineL x r L nb ch)) (mI (writeM m r nb ch) 0 0 0) (lineL x r L nb ch).length ∧ (lineM m r nb ch).length = (lineL x r L nb ch).length := by
  have e := line_map B A hr hL hl hd
  refine ⟨⟨?_, hlen, fun i hi => ⟨(lineL x r L nb ch).getD i 0, getD_lt _ i hv, ?_, ?_⟩⟩, by rw [e, List.length_map]⟩
  · rw [mI_k (by decide)]
    unfold writeM
    rw [wrL_n _ _ _ (mI_s (m := m) (p := 0) (k := 39) (v := 0)), e, List.length_map, Nat.zero_add]
  · rw [txA_23, if_pos ⟨Nat.zero_le _, by omega⟩, Nat.sub_zero]
  · rw [mI_p (by decide)]
    unfold writeM
    rw [wrL_38, if_pos ⟨Nat.zero_le _, by rw [e, List.length_map]; omega⟩, Nat.sub_zero, e, map_getD, cnar _ (getD_lt _ i hv)]
/-- the class's own fields and the reference's -/
def FdT (x : Xs) (m : Ms) (nb : Nat) : Prop := x.1 0 8 = m.1 0 2 ∧ x.1 0 7 = nI nb ∧ m.1 0 12 = nI nb ∧ x.2.2.2 = m.2 ∧ x.1 0 12 = m.1 0 30 ∧ x.1 0 13 = m.1 0 31 ∧ (∀ w c, 2 ≤ w → x.2.2.1 w c = none) ∧ ∀ c, nb ≤ c → c < 8 → m.1 17 c = 0
end
