/-! THE LAW'S convoys(o) holds wherever the class's state is tied. -/
section
theorem dp_i {e t v : Int32} (he : 0 ≤ e.toInt ∧ e.toInt ≤ 100) (ht : 1 ≤ t.toInt ∧ t.toInt ≤ 20) (hv : 0 ≤ v.toInt ∧ v.toInt ≤ 100000) : (e + ((v + t) - 1) / t).toInt = e.toInt + (v.toInt + t.toInt - 1) / t.toInt ∧ 0 ≤ (v.toInt + t.toInt - 1) / t.toInt := by
  have a1 : (v + t).toInt = v.toInt + t.toInt := i_add (by omega) (by omega)
  have a2 : (v + t - 1).toInt = v.toInt + t.toInt - 1 := by rw [i_sub (by rw [i_1]; omega) (by rw [i_1]; omega), a1, i_1]
  have b0 : 0 ≤ (v.toInt + t.toInt - 1) / t.toInt := Int.ediv_nonneg (by omega) (by omega)
  have b1 : (v.toInt + t.toInt - 1) / t.toInt ≤ v.toInt + t.toInt - 1 := Int.ediv_le_self _ (by omega)
  have a5 : ((v + t - 1) / t).toInt = (v.toInt + t.toInt - 1) / t.toInt := by
    rw [Int32.toInt_div, a2, Int.tdiv_eq_ediv_of_nonneg (by omega)]
    exact Int.bmod_eq_of_le (by omega) (by omega)
  exact ⟨by rw [i_add (by rw [a5]; omega) (by rw [a5]; omega), a5], b0⟩
theorem fit_i {e t v L : Int32} (he : 0 ≤ e.toInt ∧ e.toInt ≤ 100) (ht : 1 ≤ t.toInt ∧ t.toInt ≤ 20) (hv : 0 ≤ v.toInt ∧ v.toInt ≤ 100000) : ¬ L ≤ e + ((v + t) - 1) / t ↔ v.toInt ≤ (L.toInt - 1 - e.toInt) * t.toInt := by
  obtain ⟨a, b⟩ := dp_i he ht hv
  rw [i_le, a]
  have c : (v.toInt + t.toInt - 1) / t.toInt < (L.toInt - 1 - e.toInt) + 1 ↔ v.toInt + t.toInt - 1 < ((L.toInt - 1 - e.toInt) + 1) * t.toInt := Int.ediv_lt_iff_lt_mul (by omega)
  have d : ((L.toInt - 1 - e.toInt) + 1) * t.toInt = (L.toInt - 1 - e.toInt) * t.toInt + t.toInt := by rw [Int.add_mul, Int.one_mul]
  rw [d] at c
  constructor
  · intro h
    have := c.mp (by omega)
    omega
  · intro h
    have := c.mpr (by omega)
    omega
end
section
variable {l : Launch} {G : az_G} {ρ : Rp} {x : Xs} {m : Mz} {M : Ms} {ou : Nat → Int64} {n nr nb c N : Nat} {cs : List (List Nat)}
theorem NX.bg (h : NX c ρ x M n nr nb N cs) {k : Nat} (hk : k < nb) : (2 ≤ (x.2.1 k 2).toInt ∧ (x.2.1 k 2).toInt ≤ 20) ∧ (1 ≤ (x.2.1 k 3).toInt ∧ (x.2.1 k 3).toInt ≤ 20) ∧ (0 ≤ (x.2.1 k 5).toInt ∧ (x.2.1 k 5).toInt ≤ 1200) := by
  obtain ⟨e1, e2, e3, e4, ⟨f1, f2, f3, f4, f5, f6, f7, f8⟩, -⟩ := h.1.2.2.1.2 k hk
  rw [e2, e3, e4]
  exact ⟨⟨f3, f4⟩, ⟨f5, f6⟩, f7, f8⟩
theorem NX.lv (h : NX c ρ x M n nr nb N cs) {r : Nat} (hr : r < nr) : 0 ≤ (x.1 4 (r + 3) / x.1 2 r).toInt ∧ (x.1 4 (r + 3) / x.1 2 r).toInt ≤ 60 := by
  have h6 := h.n6
  rw [lev_eq h.1.1 (by omega)]
  exact lev_i h.1.1 hr
/-- afloat with u tons more -/
theorem NX.fl (h : NX c ρ x M n nr nb N cs) {k r : Nat} (hk : k < nb) (hr : r < nr) {u : Int32} (hu : 0 ≤ u.toInt ∧ u.toInt ≤ 999) : ¬ floatX x k r u = 0 ↔ (x.2.1 k 5).toInt + u.toInt ≤ ((x.1 4 (r + 3) / x.1 2 r).toInt - 1 - (x.2.1 k 2).toInt) * (x.2.1 k 3).toInt := by
  obtain ⟨he, ht, hc⟩ := h.bg hk
  have ea : (x.2.1 k 5 + u).toInt = (x.2.1 k 5).toInt + u.toInt := i_add (by omega) (by omega)
  have hf := fit_i (e := x.2.1 k 2) (t := x.2.1 k 3) (v := x.2.1 k 5 + u) (L := x.1 4 (r + 3) / x.1 2 r) (by omega) ht (by omega)
  rw [ea] at hf
  rw [← hf]
  unfold floatX deepX
  constructor
  · intro z q
    exact z (if_pos q)
  · intro z
    rw [if_neg z]
    decide
/-- the greatest load, where it is afloat -/
theorem NX.gl (h : NX c ρ x M n nr nb N cs) {k r : Nat} (hk : k < nb) (hr : r < nr) (hf : ¬ floatX x k r 0 = 0) : (glX x k r).toInt = ((x.1 4 (r + 3) / x.1 2 r).toInt - 1 - (x.2.1 k 2).toInt) * (x.2.1 k 3).toInt - (x.2.1 k 5).toInt ∧ 0 ≤ (glX x k r).toInt := by
  obtain ⟨he, ht, hc⟩ := h.bg hk
  have hL := h.lv hr
  have g := (h.fl hk hr (u := 0) (by decide)).mp hf
  rw [i_0] at g
  obtain ⟨L, hLe⟩ : ∃ L : Int, L = (x.1 4 (r + 3) / x.1 2 r).toInt - 1 - (x.2.1 k 2).toInt := ⟨_, rfl⟩
  rw [← hLe] at g ⊢
  have hL0 : 0 ≤ L := by
    rcases Int.lt_or_le L 0 with z | z
    · have : L * (x.2.1 k 3).toInt ≤ -1 * (x.2.1 k 3).toInt := Int.mul_le_mul_of_nonneg_right (by omega) (by omega)
      omega
    · exact z
  have hP : L * (x.2.1 k 3).toInt ≤ 60 * 20 := Int.mul_le_mul (by omega) (by omega) (by omega) (by omega)
  have hP0 : 0 ≤ L * (x.2.1 k 3).toInt := Int.mul_nonneg hL0 (by omega)
  have e1 : (x.1 4 (r + 3) / x.1 2 r - 1).toInt = (x.1 4 (r + 3) / x.1 2 r).toInt - 1 := by rw [i_sub (by rw [i_1]; omega) (by rw [i_1]; omega), i_1]
  have e2 : (x.1 4 (r + 3) / x.1 2 r - 1 - x.2.1 k 2).toInt = L := by rw [i_sub (by omega) (by omega), e1, hLe]
  have e3 : ((x.1 4 (r + 3) / x.1 2 r - 1 - x.2.1 k 2) * x.2.1 k 3).toInt = L * (x.2.1 k 3).toInt := by rw [i_mul (by rw [e2]; omega) (by rw [e2]; omega), e2]
  unfold glX
  rw [if_neg hf, i_sub (by rw [e3]; omega) (by rw [e3]; omega), e3]
  exact ⟨rfl, by omega⟩
theorem NX.gl0 (h : NX c ρ x M n nr nb N cs) {k r : Nat} (hk : k < nb) (hr : r < nr) : 0 ≤ (glX x k r).toInt := by
  by_cases hf : floatX x k r 0 = 0
  · unfold glX
    rw [if_pos hf]
    decide
  · exact (h.gl hk hr hf).2
/-- what may be bought by the water's depth -/
theorem NX.gli (h : NX c ρ x M n nr nb N cs) {k r : Nat} (hk : k < nb) (hr : r < nr) {u : Int32} (hu : 1 ≤ u.toInt ∧ u.toInt ≤ 999) : ¬ floatX x k r u = 0 ↔ u.toInt ≤ (glX x k r).toInt := by
  have g := h.fl hk hr (u := u) (by omega)
  by_cases hf : floatX x k r 0 = 0
  · have e : glX x k r = 0 := if_pos hf
    rw [e, i_0]
    refine ⟨fun z => ?_, fun z => by omega⟩
    have z1 := g.mp z
    have z2 := (h.fl hk hr (u := 0) (by decide)).mpr (by rw [i_0]; omega)
    exact absurd hf z2
  · rw [g, (h.gl hk hr hf).1]
    omega
/-- the convoys of all barges at once -/
theorem NX.cvs (h : NX c ρ x M n nr nb N cs) : ∃ (Fv : Nat → Nat) (Tl Rl : Nat → List Nat), ∀ k, k < nb → XCv ρ.2.2.2.2.2 x k (Rl k) (Fv k) (Tl k) ∧ (Tl k).length < 4 ∧ k ∈ Fv k :: Tl k ∧ (Fv k :: Tl k) ∈ cs ∧ (∀ d ∈ Fv k :: Tl k, d < nb) ∧ ∀ d ∈ Fv k :: Tl k, Fv d = Fv k ∧ Tl d = Tl k ∧ x.2.1 d 4 = x.2.1 k 4 := by
  have key : ∀ k : Nat, ∃ q : Nat × List Nat × List Nat, k < nb → XCv ρ.2.2.2.2.2 x k q.2.2 q.1 q.2.1 ∧ q.2.1.length < 4 ∧ k ∈ q.1 :: q.2.1 ∧ (q.1 :: q.2.1) ∈ cs ∧ (∀ d ∈ q.1 :: q.2.1, d < nb) ∧ ∀ d ∈ q.1 :: q.2.1, x.2.1 d 4 = x.2.1 q.1 4 := by
    intro k
    by_cases hk : k < nb
    · obtain ⟨rl, f, t, a1, a2, a3, a4, a5, a6, a7, a8⟩ := h.cv hk
      exact ⟨(f, t, rl), fun _ => ⟨a1, a4, a5, a6, a7, a8⟩⟩
    · exact ⟨(0, [], []), fun z => absurd z hk⟩
  obtain ⟨g, hg⟩ := Classical.axiomOfChoice key
  refine ⟨fun k => (g k).1, fun k => (g k).2.1, fun k => (g k).2.2, fun k hk => ?_⟩
  obtain ⟨b1, b2, b3, b4, b5, b6⟩ := hg k hk
  refine ⟨b1, b2, b3, b4, b5, fun d hd => ?_⟩
  obtain ⟨c1, c2, c3, c4, c5, c6⟩ := hg d (b5 d hd)
  have e := fl_dj cs h.1.2.2.2.2.1.1 _ c4 _ b4 d c3 hd
  injection e with e1 e2
  exact ⟨e1, e2, (b6 d hd).trans (b6 k b3).symm⟩
theorem getD_some {L : List Nat} {i : Nat} (h : i < L.length) : L[i]? = some (L.getD i 0) := by
  rw [List.getD_eq_getElem?_getD, List.getElem?_eq_getElem h]
  rfl
theorem lca_1 {lb : Nat → Nat} {b : Nat} : ∀ (f : Nat) (k : Nat), LcaF lb b f m 1 k = 1
  | 0, _ => rfl
  | f + 1, k => by
    show LcaF lb b f m (LcaFhh lb b m 1 k) (k + 1) = 1
    have e : LcaFhh lb b m 1 k = 1 := by
      unfold LcaFhh
      split <;> decide
    rw [e]
    exact lca_1 f (k + 1)
theorem lca_s {lb : Nat → Nat} {b : Nat} : ∀ (f : Nat) (k : Nat), (∃ i, k ≤ i ∧ i < k + f ∧ lb i = b) → LcaF lb b f m 0 k = 1
  | 0, k, ⟨i, h1, h2, _⟩ => by omega
  | f + 1, k, ⟨i, h1, h2, h3⟩ => by
    show LcaF lb b f m (LcaFhh lb b m 0 k) (k + 1) = 1
    by_cases z : nI (lb k) = nI b
    · have e : LcaFhh lb b m 0 k = 1 := by
        unfold LcaFhh
        rw [if_neg (fun q => q z)]
        decide
      rw [e]
      exact lca_1 f (k + 1)
    · have e : LcaFhh lb b m 0 k = 0 := by
        unfold LcaFhh
        rw [if_pos z]
        decide
      rw [e]
      refine lca_s f (k + 1) ⟨i, ?_, by omega, h3⟩
      rcases Nat.lt_or_ge k i with q | q
      · exact q
      · obtain rfl : k = i := by omega
        exact absurd (by rw [h3]) z
/-- convoys(o) answers true, and changes nothing -/
theorem convoys_ok (hG : az_okS l G) (hc : c ≤ 64) (S : ST c ρ x M n nr nb cs) : az_M l G yL_convoys (az_ws yL_convoys cL_convoys 6 (Option.some FieldType.boolean)) 11 [.ref (ρ.1 0)] (AD ρ) (KK G ρ x m ou) 8 48 (az_r (some (.int 1)) (AD ρ) (KK G ρ x m ou)) := by
  obtain ⟨h, -, -⟩ := S
  obtain ⟨b1, b2, b3⟩ := h.nlt (by omega)
  obtain ⟨Fv, Tl, Rl, hcv⟩ := h.cvs
  have hpl : ∀ k : Nat, ∃ r : Nat, k < nb → r < nr ∧ x.2.1 k 4 = nI r := fun k => by
    by_cases hk : k < nb
    · obtain ⟨r, hr, e, -⟩ := h.pl hk
      exact ⟨r, fun _ => ⟨hr, e⟩⟩
    · exact ⟨0, fun z => absurd z hk⟩
  obtain ⟨rr, hrr⟩ := Classical.axiomOfChoice hpl
  have hle : ∀ b, (Fv b :: Tl b).length = (Tl b).length + 1 := fun b => rfl
  refine Xconvoys hG nr h.n6 h.n1 h.xr (fun k hk => h.xa hk) n h.xn b1 b2 b3 nb h.xb h.eb h.b8 (fun d hd => h.xt hd) rr hrr Fv Tl Rl (fun d hd => (hcv d hd).1) (fun d hd => (hcv d hd).2.1) (fun b i => (Fv b :: Tl b).getD i 0) (fun b hb i hi => ?_) (fun m b hb => ?_) (fun d hd => ?_) (fun d hd => ?_) (fun d hd z => ?_)
  · have e := getD_some (L := Fv b :: Tl b) (i := i) (by rw [hle]; exact hi)
    have hm := List.mem_of_getElem? e
    obtain ⟨q1, q2, q3⟩ := (hcv b hb).2.2.2.2.2 _ hm
    exact ⟨(hcv b hb).2.2.2.2.1 _ hm, e, q1, q2, q3⟩
  · obtain ⟨i, hi, e⟩ := List.getElem_of_mem (hcv b hb).2.2.1
    refine lca_s _ 0 ⟨i, Nat.zero_le i, by rw [hle] at hi; omega, ?_⟩
    show (Fv b :: Tl b).getD i 0 = b
    rw [List.getD_eq_getElem?_getD, List.getElem?_eq_getElem hi, e]
    rfl
  · rw [i_le, i_0]
    exact (h.bg hd).2.2.1
  · rw [i_lt, i_0]
    have := h.gl0 hd (hrr d hd).1
    omega
  · refine if_pos ?_
    rw [flt_eq]
    exact z
end
