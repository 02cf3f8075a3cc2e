section
variable {x x' : Xs} {m m' : Ms} {n n' nr nb : Nat}
theorem afl_eq2 (TW : TieW x' n m nr) (T : TieB x m nb) {r : Nat} (hr : r < 6) {b : Nat} {q : List Nat} (h : ∀ d ∈ b :: q, d < nb) : (levX9 x' r ≤ mxD x (b :: q) 0) ↔ aflI m r (b :: q) = 0 := by
  rw [mxD_ge T _ _ h, afl_iff, show levX9 x' r = levM m r from lev_eq TW hr]
  constructor
  · rintro (z | z)
    · rw [i_le, i_0] at z
      exact ⟨b, List.mem_cons_self, i_le.mpr (by have := deep_i T (h b List.mem_cons_self); omega)⟩
    · exact z
  · exact Or.inr
theorem mxL_le (T : TieB x m nb) {L : Int32} : ∀ (q : List Nat) (acc : Int32), (∀ d ∈ q, d < nb) → (mxL x q acc ≤ L ↔ acc ≤ L ∧ ∀ d ∈ q, m.1 14 d ≤ L)
  | [], acc, _ => by
    show acc ≤ L ↔ _
    simp
  | b :: r, acc, h => by
    show mxL x r (mx acc (x.2.1 b 1)) ≤ L ↔ _
    rw [mxL_le T r _ (fun d hd => h d (List.mem_cons_of_mem _ hd)), (T.2 b (h b List.mem_cons_self)).1, i_le, mx_i]
    constructor
    · rintro ⟨h1, h2⟩
      refine ⟨i_le.mpr (by omega), fun d hd => ?_⟩
      rcases List.mem_cons.mp hd with z | z
      · subst z; exact i_le.mpr (by omega)
      · exact h2 d z
    · rintro ⟨h1, h2⟩
      have h3 := i_le.mp (h2 b List.mem_cons_self)
      rw [i_le] at h1
      exact ⟨by omega, fun d hd => h2 d (List.mem_cons_of_mem _ hd)⟩
theorem mxD_le (T : TieB x m nb) {L : Int32} : ∀ (q : List Nat) (acc : Int32), (∀ d ∈ q, d < nb) → (mxD x q acc ≤ L ↔ acc ≤ L ∧ ∀ d ∈ q, deepM m d ≤ L)
  | [], acc, _ => by
    show acc ≤ L ↔ _
    simp
  | b :: r, acc, h => by
    show mxD x r (mx acc (deepX x b (x.2.1 b 5))) ≤ L ↔ _
    rw [mxD_le T r _ (fun d hd => h d (List.mem_cons_of_mem _ hd)), deep_eq T (h b List.mem_cons_self), i_le, mx_i]
    constructor
    · rintro ⟨h1, h2⟩
      refine ⟨i_le.mpr (by omega), fun d hd => ?_⟩
      rcases List.mem_cons.mp hd with z | z
      · subst z; exact i_le.mpr (by omega)
      · exact h2 d z
    · rintro ⟨h1, h2⟩
      have h3 := i_le.mp (h2 b List.mem_cons_self)
      rw [i_le] at h1
      exact ⟨by omega, fun d hd => h2 d (List.mem_cons_of_mem _ hd)⟩
theorem tl_1 {lk : Nat} : ∀ q : List Nat, tlM m lk q 1 = 1
  | [] => rfl
  | b :: r => by
    show tlM m lk r (if ¬ (1 : Int32) = 0 then 1 else _) = 1
    rw [if_pos (by decide)]; exact tl_1 r
theorem tl_iff {lk : Nat} : ∀ q : List Nat, tlM m lk q 0 = 0 ↔ ∀ d ∈ q, m.1 14 d ≤ m.1 8 lk
  | [] => by
    show ((0 : Int32) = 0) ↔ _
    simp
  | b :: r => by
    show tlM m lk r (if ¬ (0 : Int32) = 0 then 1 else (if m.1 14 b ≤ m.1 8 lk then 0 else 1)) = 0 ↔ _
    rw [if_neg (fun z => z rfl)]
    by_cases h : m.1 14 b ≤ m.1 8 lk
    · rw [if_pos h, tl_iff r]
      constructor
      · intro h2 d hd
        rcases List.mem_cons.mp hd with z | z
        · subst z; exact h
        · exact h2 d z
      · exact fun h2 d hd => h2 d (List.mem_cons_of_mem _ hd)
    · rw [if_neg h, tl_1]
      constructor
      · intro z; exact absurd z (by decide)
      · exact fun h2 => absurd (h2 b List.mem_cons_self) h
theorem sill_iff {lk : Nat} : ∀ q : List Nat, sillI m lk q = 0 ↔ ¬ ∀ d ∈ q, deepM m d ≤ m.1 9 lk
  | [] => by
    show ((1 : Int32) = 0) ↔ _
    simp
  | b :: r => by
    show (if deepM m b ≤ m.1 9 lk then sillI m lk r else 0) = 0 ↔ _
    by_cases h : deepM m b ≤ m.1 9 lk
    · rw [if_pos h, sill_iff r]
      simp [h]
    · rw [if_neg h]
      simp [h]
theorem pa_eq (T : TieB x m nb) {lk : Nat} {L : Int32} (hL : L = m.1 8 lk) : ∀ (q : List Nat) (u : Int32), (∀ d ∈ q, d < nb) → paX x L q u = paM m lk q u ∧ epX x L q u = epM m lk q u
  | [], _, _ => ⟨rfl, rfl⟩
  | b :: r, u, h => by
    obtain ⟨h1, h2⟩ := pa_eq T hL r (u + m.1 14 b) (fun d hd => h d (List.mem_cons_of_mem _ hd))
    unfold paX paM epX epM
    rw [(T.2 b (h b List.mem_cons_self)).1, hL]
    rw [hL] at h1 h2
    split
    · exact ⟨rfl, rfl⟩
    · exact ⟨by rw [h1], h2⟩
theorem pa_eq1 (T : TieB x m nb) {lk : Nat} {b : Nat} {r : List Nat} (h : ∀ d ∈ b :: r, d < nb) (hb : m.1 14 b ≤ m.1 8 lk) : paM m lk (b :: r) 0 = b :: paX x (m.1 8 lk) r (x.2.1 b 1) ∧ epM m lk (b :: r) 0 = epX x (m.1 8 lk) r (x.2.1 b 1) := by
  obtain ⟨h1, h2⟩ := pa_eq T (lk := lk) rfl r (m.1 14 b) (fun d hd => h d (List.mem_cons_of_mem _ hd))
  rw [(T.2 b (h b List.mem_cons_self)).1, h1, h2]
  have e : ¬ m.1 8 lk < 0 + m.1 14 b := by rw [Int32.zero_add]; exact Int32.not_lt.mpr hb
  constructor
  · show (if m.1 8 lk < 0 + m.1 14 b then [] else b :: paM m lk r (0 + m.1 14 b)) = _
    rw [if_neg e, Int32.zero_add]
  · show (if m.1 8 lk < 0 + m.1 14 b then b :: r else epM m lk r (0 + m.1 14 b)) = _
    rw [if_neg e, Int32.zero_add]
theorem ep_mem {lk : Nat} : ∀ (q : List Nat) (u : Int32), ∀ d ∈ epM m lk q u, d ∈ q
  | [], _, d, h => h
  | b :: r, u, d, h => by
    unfold epM at h
    split at h
    · exact h
    · exact List.mem_cons_of_mem _ (ep_mem r _ d h)
theorem pa_mem {lk : Nat} : ∀ (q : List Nat) (u : Int32), ∀ d ∈ paM m lk q u, d ∈ q
  | [], _, d, h => h
  | b :: r, u, d, h => by
    unfold paM at h
    split at h
    · cases h
    · rcases List.mem_cons.mp h with z | z
      · rw [z]; exact List.mem_cons_self
      · exact List.mem_cons_of_mem _ (pa_mem r _ d z)
/-- a chamber of the class is empty when the reference says so -/
theorem ch_le (T : TieW x n m nr) {k : Nat} (hk : k + 1 < nr) : x.1 4 (k + 13) ≤ 0 ↔ m.1 11 k = 0 := by
  have h6 := T.1.2.2.2.1
  obtain ⟨u1, u2, u3, u4, u5, u6, u7⟩ := T.1.2.2.2.2.2.2.2.2 k (by omega)
  rw [T.2 (k + 13) (by omega), amt_ch, i_le, i_0]
  by_cases h : m.1 11 k = 0
  · rw [if_pos h]
    exact ⟨fun _ => h, fun _ => by split <;> decide⟩
  · rw [if_neg h]
    have := u6 hk
    refine ⟨fun z => ?_, fun z => absurd z h⟩
    rw [show m.1 7 k + (if k + 13 = 0 then 0 else 0) = m.1 7 k by rw [if_neg (by omega)]; simp] at z
    omega
end
