section
variable {l : Launch} {G : az_G} {ρ : Rp} {x : Xs} {m : Ms} {ou : Nat → Int64}
theorem Mlocks1 (hG : az_okS l G) (nr lk : Nat) (hr : m.1 0 1 = nI nr) (hn : nr ≤ 6) (hk : lk + 2 ≤ nr) (hm : mvok m (2 * nr + 1)) (har : MAr m nr) (d : Nat) (q rest : List Nat) (hs : MSuf m (d :: q ++ rest)) (hne : PtNe (d :: q) rest) (hpt : PtOK m lk (d :: q)) : az_M l G yX4_locks (az_ws yX4_locks cX4_locks 6 (Option.some FieldType.int)) 5 [.ref (ρ.1 100), .int (nI d), .int (hdI rest), .int (nI lk), .int 1] (AD ρ) (KK G ρ x m ou) 0 0 (az_r (some (.int (lockM m nr lk true (d :: q)).2)) (AD ρ) (KK G ρ x (lockM m nr lk true (d :: q)).1 ou)) := by
  rcases aflI_01 (m := m) (r := lk) (d :: q) with hA | hA
  · have e : lockM m nr lk true (d :: q) = (m, 3) := by unfold lockM; rw [if_pos]; exact hA
    rw [e]; exact Mlocks1_3 hG nr lk hr hn hk hm har d q rest hs hne hpt hA
  have hA2 : ¬ aflI m (rIn true lk) (d :: q) = 0 := fun z => by rw [show aflI m (rIn true lk) (d :: q) = 1 from hA] at z; exact absurd z (by decide)
  have eA : lkA m nr lk true = m := if_neg (fun z => by cases z.1)
  by_cases hf : m.1 11 lk = 0
  · by_cases hw : m.1 4 lk < m.1 7 lk
    · have e : lockM m nr lk true (d :: q) = (m, 4) := by unfold lockM; rw [if_neg hA2, eA, if_pos ⟨hf, hw⟩]
      rw [e]; exact Mlocks1_4 hG nr lk hr hn hk hm har d q rest hs hne hpt hA hf hw
    · have e : lockM m nr lk true (d :: q) = (movesM (nI (lk + 1)) (emptiesM (fillsM m lk) nr lk) (d :: q), if aflI (movesM (nI (lk + 1)) (emptiesM (fillsM m lk) nr lk) (d :: q)) (lk + 1) (d :: q) = 0 then 5 else 0) := by
        have eD : lkD m nr lk true (d :: q) = movesM (nI (lk + 1)) (emptiesM (fillsM m lk) nr lk) (d :: q) := by unfold lkD; rw [eA, lkB, if_pos hf]; rfl
        unfold lockM; rw [if_neg hA2, eA, if_neg (fun z => hw z.2), eD]; rfl
      rw [e]; exact Mlocks1_50 hG nr lk hr hn hk hm har d q rest hs hne hpt hA hf (Int32.not_lt.mp hw)
  · have e : lockM m nr lk true (d :: q) = (movesM (nI (lk + 1)) (emptiesM m nr lk) (d :: q), if aflI (movesM (nI (lk + 1)) (emptiesM m nr lk) (d :: q)) (lk + 1) (d :: q) = 0 then 5 else 0) := by
      have eD : lkD m nr lk true (d :: q) = movesM (nI (lk + 1)) (emptiesM m nr lk) (d :: q) := by unfold lkD; rw [eA, lkB, if_neg hf]; rfl
      unfold lockM; rw [if_neg hA2, eA, if_neg (fun z => hf z.1), eD]; rfl
    rw [e]; exact Mlocks1_51 hG nr lk hr hn hk hm har d q rest hs hne hpt hA hf

theorem Mlocks0 (hG : az_okS l G) (nr lk : Nat) (hr : m.1 0 1 = nI nr) (hn : nr ≤ 6) (hk : lk + 2 ≤ nr) (hm : mvok m (2 * nr + 1)) (har : MAr m nr) (d : Nat) (q rest : List Nat) (hs : MSuf m (d :: q ++ rest)) (hne : PtNe (d :: q) rest) (hpt : PtOK m (lk + 1) (d :: q)) : az_M l G yX4_locks (az_ws yX4_locks cX4_locks 6 (Option.some FieldType.int)) 5 [.ref (ρ.1 100), .int (nI d), .int (hdI rest), .int (nI lk), .int 0] (AD ρ) (KK G ρ x m ou) 0 0 (az_r (some (.int (lockM m nr lk false (d :: q)).2)) (AD ρ) (KK G ρ x (lockM m nr lk false (d :: q)).1 ou)) := by
  rcases aflI_01 (m := m) (r := (lk + 1)) (d :: q) with hA | hA
  · have e : lockM m nr lk false (d :: q) = (m, 3) := by unfold lockM; rw [if_pos]; exact hA
    rw [e]; exact Mlocks0_3 hG nr lk hr hn hk hm har d q rest hs hne hpt hA
  have hA2 : ¬ aflI m (rIn false lk) (d :: q) = 0 := fun z => by rw [show aflI m (rIn false lk) (d :: q) = 1 from hA] at z; exact absurd z (by decide)
  by_cases hf : m.1 11 lk = 0
  · have eA : lkA m nr lk false = m := if_neg (fun z => z.2 hf)
    by_cases hw : m.1 4 lk < m.1 7 lk
    · have e : lockM m nr lk false (d :: q) = (m, 4) := by unfold lockM; rw [if_neg hA2, eA, if_pos ⟨hf, hw⟩]
      rw [e]; exact Mlocks0_40 hG nr lk hr hn hk hm har d q rest hs hne hpt hA hf hw
    · have e : lockM m nr lk false (d :: q) = (movesM (nI lk) (fillsM m lk) (d :: q), if aflI (movesM (nI lk) (fillsM m lk) (d :: q)) lk (d :: q) = 0 then 5 else 0) := by
        have eD : lkD m nr lk false (d :: q) = movesM (nI lk) (fillsM m lk) (d :: q) := by unfold lkD; rw [eA, lkB, if_pos hf]; rfl
        unfold lockM; rw [if_neg hA2, eA, if_neg (fun z => hw z.2), eD]; rfl
      rw [e]; exact Mlocks0_50 hG nr lk hr hn hk hm har d q rest hs hne hpt hA hf (Int32.not_lt.mp hw)
  · have eA : lkA m nr lk false = (emptiesM m nr lk) := if_pos ⟨rfl, hf⟩
    by_cases hw : (emptiesM m nr lk).1 4 lk < (emptiesM m nr lk).1 7 lk
    · have e : lockM m nr lk false (d :: q) = ((emptiesM m nr lk), 4) := by unfold lockM; rw [if_neg hA2, eA, if_pos ⟨emptiesM_f, hw⟩]
      rw [e]; exact Mlocks0_41 hG nr lk hr hn hk hm har d q rest hs hne hpt hA hf hw
    · have e : lockM m nr lk false (d :: q) = (movesM (nI lk) (fillsM (emptiesM m nr lk) lk) (d :: q), if aflI (movesM (nI lk) (fillsM (emptiesM m nr lk) lk) (d :: q)) lk (d :: q) = 0 then 5 else 0) := by
        have eD : lkD m nr lk false (d :: q) = movesM (nI lk) (fillsM (emptiesM m nr lk) lk) (d :: q) := by unfold lkD; rw [eA, lkB, if_pos emptiesM_f]; rfl
        unfold lockM; rw [if_neg hA2, eA, if_neg (fun z => hw z.2), eD]; rfl
      rw [e]; exact Mlocks0_51 hG nr lk hr hn hk hm har d q rest hs hne hpt hA hf (Int32.not_lt.mp hw)

theorem lockM_ind (P : Ms → Prop) {nr lk : Nat} {dn : Bool} {q : List Nat} (hE : ∀ m, P m → P (emptiesM m nr lk)) (hF : ∀ m, P m → P (fillsM m lk)) (hM : ∀ v m, P m → P (movesM v m q)) {m : Ms} (h : P m) : P (lockM m nr lk dn q).1 := by
  have hA : P (lkA m nr lk dn) := by
    unfold lkA; split
    · exact hE _ h
    · exact h
  have hD : P (lkD m nr lk dn q) := by
    refine hM _ _ ?_
    have hB : P (lkB (lkA m nr lk dn) lk) := by
      unfold lkB; split
      · exact hF _ hA
      · exact hA
    unfold lkC; split
    · exact hE _ hB
    · exact hB
  unfold lockM; split
  · exact h
  · split
    · exact hA
    · exact hD
theorem lockM_p {m : Ms} {nr lk p j : Nat} {dn : Bool} {q : List Nat} (h0 : p ≠ 0) (h4 : p ≠ 4) (h10 : p ≠ 10) (h11 : p ≠ 11) (h13 : p ≠ 13) (h1 : p ≠ 25) (h2 : p ≠ 26) (h3 : p ≠ 27) : (lockM m nr lk dn q).1.1 p j = m.1 p j :=
  lockM_ind (fun m' => m'.1 p j = m.1 p j) (fun m' h => (emptiesM_p h0 h4 h10 h11 h1 h2 h3).trans h) (fun m' h => (fillsM_p h0 h4 h11 h1 h2 h3).trans h) (fun v m' h => (movesM_p h13 _ _).trans h) rfl
theorem lockM_13 {m : Ms} {nr lk j : Nat} {dn : Bool} {q : List Nat} (h : j ∉ q) : (lockM m nr lk dn q).1.1 13 j = m.1 13 j :=
  lockM_ind (fun m' => m'.1 13 j = m.1 13 j) (fun m' h => (emptiesM_p (by decide) (by decide) (by decide) (by decide) (by decide) (by decide) (by decide)).trans h) (fun m' h => (fillsM_p (by decide) (by decide) (by decide) (by decide) (by decide) (by decide)).trans h) (fun v m' z => (movesM_n _ _ h).trans z) rfl
theorem lockM_0 {m : Ms} {nr lk j : Nat} {dn : Bool} {q : List Nat} (h : j ≠ 24) (h22 : j ≠ 22) : (lockM m nr lk dn q).1.1 0 j = m.1 0 j :=
  lockM_ind (fun m' => m'.1 0 j = m.1 0 j) (fun m' z => (emptiesM_0 h h22).trans z) (fun m' z => (fillsM_0 h).trans z) (fun v m' z => (movesM_p (by decide) _ _).trans z) rfl
theorem movesM_2 {v : Int32} : ∀ (q : List Nat) (m : Ms), (movesM v m q).2 = m.2
  | [], _ => rfl
  | d :: q, m => movesM_2 q _
theorem lockM_ok {m : Ms} {nr lk z : Nat} {dn : Bool} {q : List Nat} (hk : lk + 1 ≤ nr) (h : mvok m (2 * nr + 1 + z)) : mvok (lockM m nr lk dn q).1 z := by
  have hA : mvok (lkA m nr lk dn) (nr + 1 + z) := by
    unfold lkA; split
    · exact emptiesM_ok hk (h.le (by omega))
    · exact h.le (by omega)
  have hD : mvok (lkD m nr lk dn q) z := by
    have hB : mvok (lkB (lkA m nr lk dn) lk) (nr + z) := by
      unfold lkB; split
      · exact fillsM_ok (hA.le (by omega))
      · exact hA.le (by omega)
    refine mvok.eq (m := lkC (lkB (lkA m nr lk dn) lk) nr lk dn) ?_ (movesM_p (by decide) _ _)
    unfold lkC; split
    · exact emptiesM_ok hk hB
    · exact hB.le (by omega)
  unfold lockM; split
  · exact h.le (by omega)
  · split
    · exact hA.le (by omega)
    · exact hD
/-- the part that begins a list of barges -/
def paM (m : Ms) (lk : Nat) : List Nat → Int32 → List Nat
  | [], _ => []
  | b :: r, sum => if m.1 8 lk < sum + m.1 14 b then [] else b :: paM m lk r (sum + m.1 14 b)
theorem pa_ep {m : Ms} {lk : Nat} : ∀ (s9 : List Nat) (sum : Int32), paM m lk s9 sum ++ epM m lk s9 sum = s9
  | [], _ => rfl
  | b :: r, sum => by
    unfold paM epM; split
    · rfl
    · exact congrArg (List.cons b) (pa_ep r _)
theorem epM_w {m m' : Ms} {lk : Nat} (h8 : ∀ b, m'.1 8 b = m.1 8 b) (h14 : ∀ b, m'.1 14 b = m.1 14 b) : ∀ (s9 : List Nat) (sum : Int32), epM m' lk s9 sum = epM m lk s9 sum
  | [], _ => rfl
  | b :: r, sum => by
    unfold epM; rw [h8, h14]; split
    · rfl
    · exact epM_w h8 h14 r _
theorem tlM_1 {m : Ms} {lk : Nat} : ∀ (s9 : List Nat), tlM m lk s9 1 = 1
  | [] => rfl
  | b :: r => by unfold tlM; rw [if_pos (by decide)]; exact tlM_1 r
theorem tlM_0 {m : Ms} {lk : Nat} : ∀ (s9 : List Nat), tlM m lk s9 0 = 0 → ∀ b ∈ s9, ¬ m.1 8 lk < m.1 14 b
  | [], _, _, h => absurd h (List.not_mem_nil)
  | d :: r, h, b, hb => by
    unfold tlM at h; rw [if_neg (by decide)] at h
    split at h
    · rename_i hd
      rcases List.mem_cons.mp hb with rfl | hb
      · exact Int32.not_lt.mpr hd
      · exact tlM_0 r h b hb
    · rw [tlM_1] at h; exact absurd h (by decide)
def sillI (m : Ms) (lk : Nat) : List Nat → Int32
  | [] => 1
  | d :: q => if deepM m d ≤ m.1 9 lk then sillI m lk q else 0
theorem sillI_01 {m : Ms} {lk : Nat} : ∀ q : List Nat, sillI m lk q = 0 ∨ sillI m lk q = 1
  | [] => Or.inr rfl
  | d :: q => by
    unfold sillI; split
    · exact sillI_01 q
    · exact Or.inl rfl
/-- part after part -/
def passL (nr lk : Nat) (dn : Bool) : Nat → Ms → List Nat → Nat → Ms × Int32
  | 0, m, _, n9 => (m, nI n9)
  | _ + 1, m, [], n9 => (m, nI n9)
  | k + 1, m, b :: r, n9 => if (lockM m nr lk dn (paM m lk (b :: r) 0)).2 = 0 then passL nr lk dn k (lockM m nr lk dn (paM m lk (b :: r) 0)).1 (epM m lk (b :: r) 0) (n9 + 1) else (refM (lockM m nr lk dn (paM m lk (b :: r) 0)).1 (lockM m nr lk dn (paM m lk (b :: r) 0)).2 (nI lk), 0)
def passM (m : Ms) (nr lk : Nat) (dn : Bool) (f : Nat) (t : List Nat) : Ms × Int32 :=
  if tlM m lk (f :: t) 0 = 0 then (if sillI m lk (f :: t) = 0 then (refM m 2 (nI lk), 0) else passL nr lk dn (t.length + 1) m (f :: t) 0) else (refM m 1 (nI lk), 0)
theorem PtNe_of {s9 : List Nat} {m : Ms} {q rest : List Nat} (e : q ++ rest = s9) (hs : MSuf m s9) (hd : s9.Nodup) : PtNe q rest := by
  subst e
  intro d hdq
  have hl : ∀ {z : List Nat}, MSuf m z → ∀ d ∈ z, d < 8 := by
    intro z
    induction z with
    | nil => intro _ d h; cases h
    | cons b z ih =>
      intro h d hd
      rcases List.mem_cons.mp hd with rfl | hd
      · exact h.1
      · exact ih h.2.2 d hd
  have h8 := hl hs d (List.mem_append_left _ hdq)
  cases rest with
  | nil => exact nI_m1 h8
  | cons b r =>
    intro z
    have hb := hl hs b (List.mem_append_right _ List.mem_cons_self)
    have e : d = b := by
      have z2 : nI d = nI b := z
      rw [nI_eq (by omega) (by omega)] at z2; exact z2
    exact (List.nodup_append.mp hd).2.2 d hdq b List.mem_cons_self e
end
