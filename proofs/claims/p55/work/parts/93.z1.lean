section
variable {x x' : Xs} {m m' : Ms} {n nr nb : Nat}
def lkI : Option Nat → Int32
  | none => -1
  | some j => nI j
/-- the barges of the class and of the reference, but for the reaches where they lie -/
def TieB (x : Xs) (m : Ms) (nb : Nat) : Prop := nb ≤ 8 ∧ ∀ b, b < nb → x.2.1 b 1 = m.1 14 b ∧ x.2.1 b 2 = m.1 15 b ∧ x.2.1 b 3 = m.1 16 b ∧ x.2.1 b 5 = m.1 17 b ∧ (5 ≤ (m.1 14 b).toInt ∧ (m.1 14 b).toInt ≤ 80 ∧ 2 ≤ (m.1 15 b).toInt ∧ (m.1 15 b).toInt ≤ 20 ∧ 1 ≤ (m.1 16 b).toInt ∧ (m.1 16 b).toInt ≤ 20 ∧ 0 ≤ (m.1 17 b).toInt ∧ (m.1 17 b).toInt ≤ 1200) ∧ m.1 18 b = lkI (x.2.2.1 0 b) ∧ m.1 19 b = lkI (x.2.2.1 1 b) ∧ (∀ w j, x.2.2.1 w b = some j → j < nb)
theorem lkI_h {r : List Nat} : lkI r.head? = hdI r := by cases r <;> rfl
theorem TieB.meq (T : TieB x m nb) (h : ∀ p, p = 14 ∨ p = 15 ∨ p = 16 ∨ p = 17 ∨ p = 18 ∨ p = 19 → ∀ j, m'.1 p j = m.1 p j) : TieB x m' nb := ⟨T.1, fun b hb => by
  rw [h 14 (by simp), h 15 (by simp), h 16 (by simp), h 17 (by simp), h 18 (by simp), h 19 (by simp)]
  exact T.2 b hb⟩
theorem TieB.xeq (T : TieB x m nb) (h1 : x'.2.1 = x.2.1) (h2 : x'.2.2.1 = x.2.2.1) : TieB x' m nb := ⟨T.1, fun b hb => by rw [h1, h2]; exact T.2 b hb⟩
theorem Suf_M (T : TieB x m nb) : ∀ q : List Nat, XSuf nb x q → MSuf m q
  | [], _ => trivial
  | b :: r, h => ⟨by have := T.1; have := h.1; omega, by rw [(T.2 b h.1).2.2.2.2.2.2.1, h.2.1, lkI_h], Suf_M T r h.2.2⟩
theorem Pre_M (T : TieB x m nb) : ∀ q : List Nat, XPre nb x q → MPre m q
  | [], _ => trivial
  | b :: r, h => ⟨by have := T.1; have := h.1; omega, by rw [(T.2 b h.1).2.2.2.2.2.1, h.2.1, lkI_h], Pre_M T r h.2.2⟩
theorem Suf_lt : ∀ q : List Nat, XSuf nb x q → ∀ d ∈ q, d < nb
  | [], _, d, hd => by cases hd
  | b :: r, h, d, hd => by
    rcases List.mem_cons.mp hd with z | z
    · rw [z]; exact h.1
    · exact Suf_lt r h.2.2 d z
theorem deep_eq (T : TieB x m nb) {b : Nat} (hb : b < nb) : deepX x b (x.2.1 b 5) = deepM m b := by
  obtain ⟨e1, e2, e3, e4, -⟩ := T.2 b hb
  unfold deepX deepM
  rw [e2, e3, e4]
theorem deep_i (T : TieB x m nb) {b : Nat} (hb : b < nb) : 2 ≤ (deepM m b).toInt := by
  obtain ⟨e1, e2, e3, e4, ⟨f1, f2, f3, f4, f5, f6, f7, f8⟩, -⟩ := T.2 b hb
  unfold deepM
  have a1 : (m.1 17 b + m.1 16 b).toInt = (m.1 17 b).toInt + (m.1 16 b).toInt := i_add (by omega) (by omega)
  have a2 : (m.1 17 b + m.1 16 b - 1).toInt = (m.1 17 b).toInt + (m.1 16 b).toInt - 1 := by rw [i_sub (by rw [i_1]; omega) (by rw [i_1]; omega), a1, i_1]
  have a3 : 0 ≤ ((m.1 17 b).toInt + (m.1 16 b).toInt - 1).tdiv (m.1 16 b).toInt := Int.tdiv_nonneg (by omega) (by omega)
  have a4 : ((m.1 17 b).toInt + (m.1 16 b).toInt - 1).tdiv (m.1 16 b).toInt ≤ (m.1 17 b).toInt + (m.1 16 b).toInt - 1 := by
    rw [Int.tdiv_eq_ediv_of_nonneg (by omega)]
    exact Int.ediv_le_self _ (by omega)
  have a5 : ((m.1 17 b + m.1 16 b - 1) / m.1 16 b).toInt = ((m.1 17 b).toInt + (m.1 16 b).toInt - 1).tdiv (m.1 16 b).toInt := by
    rw [Int32.toInt_div, a2]
    exact Int.bmod_eq_of_le (by omega) (by omega)
  rw [i_add (by rw [a5]; omega) (by rw [a5]; omega), a5]
  omega
theorem mx_i {u v : Int32} : (mx u v).toInt = max u.toInt v.toInt := by
  unfold mx
  split
  · rename_i h; rw [i_lt] at h; omega
  · rename_i h; rw [i_lt] at h; omega
/-- the greatest draught against a level: as one barge after another -/
theorem mxD_ge (T : TieB x m nb) {v : Int32} : ∀ (q : List Nat) (acc : Int32), (∀ d ∈ q, d < nb) → (v ≤ mxD x q acc ↔ v ≤ acc ∨ ∃ d ∈ q, v ≤ deepM m d)
  | [], acc, _ => by
    show v ≤ acc ↔ _
    simp
  | b :: r, acc, h => by
    have hb := h b List.mem_cons_self
    show v ≤ mxD x r (mx acc (deepX x b (x.2.1 b 5))) ↔ _
    rw [mxD_ge T r _ (fun d hd => h d (List.mem_cons_of_mem _ hd)), deep_eq T hb, i_le, mx_i]
    constructor
    · rintro (z | ⟨d, h1, h2⟩)
      · rcases Int.le_total acc.toInt (deepM m b).toInt with q | q
        · exact Or.inr ⟨b, List.mem_cons_self, i_le.mpr (by omega)⟩
        · exact Or.inl (i_le.mpr (by omega))
      · exact Or.inr ⟨d, List.mem_cons_of_mem _ h1, h2⟩
    · rintro (z | ⟨d, h1, h2⟩)
      · rw [i_le] at z; exact Or.inl (by omega)
      · rcases List.mem_cons.mp h1 with q | q
        · subst q; rw [i_le] at h2; exact Or.inl (by omega)
        · exact Or.inr ⟨d, q, h2⟩
theorem afl_iff {r : Nat} : ∀ q : List Nat, aflI m r q = 0 ↔ ∃ d ∈ q, levM m r ≤ deepM m d
  | [] => by
    show ((1 : Int32) = 0) ↔ _
    simp
  | d :: q => by
    show (if floatsI m d r = 0 then 0 else aflI m r q) = 0 ↔ _
    by_cases h : levM m r ≤ deepM m d
    · have e : floatsI m d r = 0 := if_pos h
      rw [if_pos e]
      exact ⟨fun _ => ⟨d, List.mem_cons_self, h⟩, fun _ => rfl⟩
    · have e : floatsI m d r = 1 := if_neg h
      rw [e, if_neg (by decide), afl_iff q]
      constructor
      · rintro ⟨c, h1, h2⟩; exact ⟨c, List.mem_cons_of_mem _ h1, h2⟩
      · rintro ⟨c, h1, h2⟩
        rcases List.mem_cons.mp h1 with z | z
        · subst z; exact absurd h2 h
        · exact ⟨c, z, h2⟩
/-- a part of a convoy is afloat in a reach: class and reference -/
theorem afl_eq (TW : TieW x n m nr) (T : TieB x m nb) {r : Nat} (hr : r < 6) {b : Nat} {q : List Nat} (h : ∀ d ∈ b :: q, d < nb) : (levX9 x r ≤ mxD x (b :: q) 0) ↔ aflI m r (b :: q) = 0 := by
  rw [mxD_ge T _ _ h, afl_iff, show levX9 x r = levM m r from lev_eq TW hr]
  constructor
  · rintro (z | z)
    · rw [i_le, i_0] at z
      exact ⟨b, List.mem_cons_self, i_le.mpr (by have := deep_i T (h b List.mem_cons_self); omega)⟩
    · exact z
  · exact Or.inr
end
