/-! 20.m2 -/
section
variable {l : Launch} {G : az_G} {ρ : Rp} {x : Xs} {m : Ms} {ou : Nat → Int64}
/-- out of the range 0 .. n-1 -/
def oo (n : Nat) (v : Int32) : Prop := v < 0 ∨ nI n ≤ v
theorem oo_or (n : Nat) (hn : n < 2 ^ 31) (v : Int32) : oo n v ∨ ∃ k, k < n ∧ v = nI k := by
  rcases pk_ix v hn with h | h | h
  · exact Or.inl (Or.inl h)
  · exact Or.inl (Or.inr h)
  · exact Or.inr h
theorem hi_in {k n c : Nat} (h : k + c ≤ n) (hn : n < 2 ^ 30) : nI k ≤ nI n - nI c := by
  rw [Int32.le_iff_toInt_le, pk_sub_toInt hn (by omega), nI_toInt (by omega)]
  omega
theorem hi_out {n c : Nat} {v : Int32} (hv : oo (n + 1 - c) v) (hn : n < 2 ^ 29) (hc : c ≤ n + 1) (h : 0 ≤ v) : ¬ v ≤ nI n - nI c := by
  rcases hv with h1 | h1
  · exact absurd h1 (Int32.not_lt.mpr h)
  · rw [Int32.le_iff_toInt_le, pk_sub_toInt (by omega) (by omega)]
    rw [Int32.le_iff_toInt_le, nI_toInt (by omega)] at h1
    omega
def deepM (m : Ms) (b : Nat) : Int32 := m.1 15 b + ((m.1 17 b + m.1 16 b) - 1) / m.1 16 b
def levM (m : Ms) (k : Nat) : Int32 := m.1 4 k / m.1 3 k
end

/-! 21.m3 -/
section
variable {l : Launch} {G : az_G} {ρ : Rp} {x : Xs} {m : Ms} {ou : Nat → Int64}
/-- how many movements the reference has recorded -/
def mvN (m : Ms) : Nat := (m.1 0 24).toNatClampNeg
def mvok (m : Ms) (t : Nat) : Prop := m.1 0 24 = nI (mvN m) ∧ mvN m + t < 100000
def recM (m : Ms) (f t u : Int32) : Ms := if u < 1 then m else mI (mI (mI (mI m 25 (mvN m) f) 26 (mvN m) t) 27 (mvN m) u) 0 24 (nI (mvN m) + 1)
theorem recM_p {m : Ms} {f t u : Int32} {p k : Nat} (h0 : p ≠ 0) (h1 : p ≠ 25) (h2 : p ≠ 26) (h3 : p ≠ 27) : (recM m f t u).1 p k = m.1 p k := by
  unfold recM; split
  · rfl
  · simp only [mI]
    rw [up2_p h0, up2_p h3, up2_p h2, up2_p h1]
theorem recM_0 {m : Ms} {f t u : Int32} {k : Nat} (h : k ≠ 24) : (recM m f t u).1 0 k = m.1 0 k := by
  unfold recM; split
  · rfl
  · simp only [mI]
    rw [up2_k h, up2_p (by decide), up2_p (by decide), up2_p (by decide)]
theorem recM_2 {m : Ms} {f t u : Int32} : (recM m f t u).2 = m.2 := by unfold recM; split <;> rfl
theorem recM_n {m : Ms} {f t u : Int32} (h : m.1 0 24 = nI (mvN m)) (hb : mvN m < 2 ^ 30) : mvN (recM m f t u) = if u < 1 then mvN m else mvN m + 1 := by
  unfold recM; split
  · rfl
  · simp only [mI, mvN]
    rw [up2_s, nI_1, nI_clamp (by unfold mvN at hb; omega)]
theorem recM_ok {m : Ms} {f t u : Int32} {z : Nat} (h : mvok m (z + 1)) : mvok (recM m f t u) z := by
  have h1 := recM_n (f := f) (t := t) (u := u) h.1 (by have := h.2; omega)
  have h2 := h.2
  constructor
  · rw [h1]
    unfold recM; split
    · exact h.1
    · simp only [mI]
      rw [up2_s, nI_1]
  · rw [h1]; split <;> omega
theorem mvok.le {m : Ms} {a b : Nat} (h : mvok m a) (hb : b ≤ a) : mvok m b := ⟨h.1, by have := h.2; omega⟩
theorem mvok.eq {m m' : Ms} {a : Nat} (h : mvok m a) (e : m'.1 0 24 = m.1 0 24) : mvok m' a := by
  unfold mvok mvN at *; rw [e]; exact h
/-- what a step of 'comes' makes of the water of reach k -/
def cstep (m : Ms) (src : Int32) (k : Nat) (left : Int32) : Ms := mI (recM m src (nI k) left) 4 k ((recM m src (nI k) left).1 4 k + left)
def cleft (m : Ms) (src : Int32) (k : Nat) (left : Int32) : Int32 := (cstep m src k left).1 4 k - 60 * (recM m src (nI k) left).1 3 k
def cnext (m : Ms) (src : Int32) (k : Nat) (left : Int32) : Ms := if cleft m src k left ≤ 0 then cstep m src k left else mI (cstep m src k left) 4 k ((cstep m src k left).1 4 k - cleft m src k left)
def comesM : Nat → Ms → Nat → Int32 → Nat → Int32 → Ms
  | 0, m, _, _, _, _ => m
  | n + 1, m, nr, src, k, left => if left ≤ 0 then m else if ¬ nI k = nI nr then comesM n (cnext m src k left) nr (nI k) (k + 1) (cleft m src k left) else mI (recM m src (-2) left) 0 22 ((recM m src (-2) left).1 0 22 + left)
theorem cnext_p {m : Ms} {src left : Int32} {k p j : Nat} (h0 : p ≠ 0) (h4 : p ≠ 4) (h1 : p ≠ 25) (h2 : p ≠ 26) (h3 : p ≠ 27) : (cnext m src k left).1 p j = m.1 p j := by
  have e : (cstep m src k left).1 p j = m.1 p j := by
    simp only [cstep, mI]
    rw [up2_p h4]; exact recM_p h0 h1 h2 h3
  unfold cnext; split
  · exact e
  · simp only [mI]
    rw [up2_p h4]; exact e
theorem cnext_0 {m : Ms} {src left : Int32} {k j : Nat} (h : j ≠ 24) : (cnext m src k left).1 0 j = m.1 0 j := by
  have e : (cstep m src k left).1 0 j = m.1 0 j := recM_0 h
  unfold cnext; split <;> exact e
theorem cnext_ok {m : Ms} {src left : Int32} {k z : Nat} (h : mvok m (z + 1)) : mvok (cnext m src k left) z := by
  have e : mvok (cstep m src k left) z := (recM_ok (f := src) (t := nI k) (u := left) h).eq rfl
  unfold cnext; split
  · exact e
  · exact e.eq rfl
end

/-! 22.m4 -/
section
variable {l : Launch} {G : az_G} {ρ : Rp} {x : Xs} {m : Ms} {ou : Nat → Int64}
def fillsM (m : Ms) (k : Nat) : Ms := (mI (mI (recM m (nI k) ((10 + nI k)) (m.1 7 k)) 4 k (((recM m (nI k) ((10 + nI k)) (m.1 7 k)).1 4 k - (recM m (nI k) ((10 + nI k)) (m.1 7 k)).1 7 k))) 11 k (vp_nar .boolean 1))
def emptiesM (m : Ms) (nr k : Nat) : Ms := (comesM (nr + 1 - (k + 1)) (mI (mI m 11 k (vp_nar .boolean 0)) 10 k ((m.1 10 k + m.1 7 k))) nr ((10 + nI k)) (k + 1) (m.1 7 k))
def refM (m : Ms) (u v : Int32) : Ms := (mI (mI m 0 28 u) 0 29 v)
def keepsM (m : Ms) : Ms := (mI (mI (mI (mI (mI (mI (mI (mI (mI (mI (mI (mI (mI (mI (mI (mI (mI (mI (mI (mI (mI (mI (mI (mI (mI (mI m 32 0 (m.1 4 0)) 32 1 (m.1 4 1)) 32 2 (m.1 4 2)) 32 3 (m.1 4 3)) 32 4 (m.1 4 4)) 32 5 (m.1 4 5)) 33 0 (m.1 10 0)) 35 0 (vp_nar .boolean (m.1 11 0))) 33 1 (m.1 10 1)) 35 1 (vp_nar .boolean (m.1 11 1))) 33 2 (m.1 10 2)) 35 2 (vp_nar .boolean (m.1 11 2))) 33 3 (m.1 10 3)) 35 3 (vp_nar .boolean (m.1 11 3))) 33 4 (m.1 10 4)) 35 4 (vp_nar .boolean (m.1 11 4))) 34 0 (m.1 13 0)) 34 1 (m.1 13 1)) 34 2 (m.1 13 2)) 34 3 (m.1 13 3)) 34 4 (m.1 13 4)) 34 5 (m.1 13 5)) 34 6 (m.1 13 6)) 34 7 (m.1 13 7)) 0 36 (m.1 0 22)) 0 37 (m.1 0 24))
def backM (m : Ms) : Ms := (mI (mI (mI (mI (mI (mI (mI (mI (mI (mI (mI (mI (mI (mI (mI (mI (mI (mI (mI (mI (mI (mI (mI (mI (mI (mI m 4 0 (m.1 32 0)) 4 1 (m.1 32 1)) 4 2 (m.1 32 2)) 4 3 (m.1 32 3)) 4 4 (m.1 32 4)) 4 5 (m.1 32 5)) 10 0 (m.1 33 0)) 11 0 (vp_nar .boolean (m.1 35 0))) 10 1 (m.1 33 1)) 11 1 (vp_nar .boolean (m.1 35 1))) 10 2 (m.1 33 2)) 11 2 (vp_nar .boolean (m.1 35 2))) 10 3 (m.1 33 3)) 11 3 (vp_nar .boolean (m.1 35 3))) 10 4 (m.1 33 4)) 11 4 (vp_nar .boolean (m.1 35 4))) 13 0 (m.1 34 0)) 13 1 (m.1 34 1)) 13 2 (m.1 34 2)) 13 3 (m.1 34 3)) 13 4 (m.1 34 4)) 13 5 (m.1 34 5)) 13 6 (m.1 34 6)) 13 7 (m.1 34 7)) 0 22 (m.1 0 36)) 0 24 (m.1 0 37))
/-- the word for the next of a chain: its first, or none -/
def hdI : List Nat → Int32
  | [] => -1
  | b :: _ => nI b
def lst : Nat → List Nat → Nat
  | b, [] => b
  | _, b :: r => lst b r
/-- the barges from one on, backwards -/
def MSuf (m : Ms) : List Nat → Prop
  | [] => True
  | b :: r => b < 8 ∧ m.1 19 b = hdI r ∧ MSuf m r
/-- the barges from one on, forwards -/
def MPre (m : Ms) : List Nat → Prop
  | [] => True
  | b :: r => b < 8 ∧ m.1 18 b = hdI r ∧ MPre m r
theorem nI_m1 {b : Nat} (h : b < 8) : ¬ nI b = (-1) := fun z => by
  have h1 := congrArg Int32.toInt z
  rw [nI_toInt (by omega)] at h1
  have h2 : (-1 : Int32).toInt = -1 := by decide
  omega
/-- barge b with the barges r ahead of it; the convoy is f :: t -/
def MCv (m : Ms) (b : Nat) (r : List Nat) (f : Nat) (t : List Nat) : Prop := MPre m (b :: r) ∧ lst b r = f ∧ MSuf m (f :: t)
end

/-! 23.m5 -/
section
variable {l : Launch} {G : az_G} {ρ : Rp} {x : Xs} {m : Ms} {ou : Nat → Int64}
/-- what is left behind the part that begins a list of barges -/
def epM (m : Ms) (lk : Nat) : List Nat → Int32 → List Nat
  | [], _ => []
  | b :: r, sum => if m.1 8 lk < sum + m.1 14 b then b :: r else epM m lk r (sum + m.1 14 b)
theorem epM_suf {m : Ms} {lk : Nat} : ∀ (s9 : List Nat) (sum : Int32), MSuf m s9 → MSuf m (epM m lk s9 sum)
  | [], _, _ => trivial
  | b :: r, sum, h => by
    unfold epM; split
    · exact h
    · exact epM_suf r _ h.2.2
theorem epM_len {m : Ms} {lk : Nat} : ∀ (s9 : List Nat) (sum : Int32), (epM m lk s9 sum).length ≤ s9.length
  | [], _ => Nat.le_refl _
  | b :: r, sum => by
    unfold epM; split
    · exact Nat.le_refl _
    · exact Nat.le_succ_of_le (epM_len r _)
def tlM (m : Ms) (lk : Nat) : List Nat → Int32 → Int32
  | [], acc => acc
  | b :: r, acc => tlM m lk r (if ¬ acc = 0 then 1 else (if m.1 14 b ≤ m.1 8 lk then 0 else 1))
theorem tlM_01 {m : Ms} {lk : Nat} : ∀ (s9 : List Nat) (acc : Int32), (acc = 0 ∨ acc = 1) → (tlM m lk s9 acc = 0 ∨ tlM m lk s9 acc = 1)
  | [], _, h => h
  | b :: r, acc, h => by
    unfold tlM
    refine tlM_01 r _ ?_
    split
    · exact Or.inr rfl
    · split
      · exact Or.inl rfl
      · exact Or.inr rfl
theorem nar_b {v : Int32} (h : v = 0 ∨ v = 1) : narrow .boolean (.int v) = .int v := by rcases h with rfl | rfl <;> rfl
/-- how many parts -/
def ptM (m : Ms) (lk : Nat) : Nat → List Nat → Nat
  | 0, _ => 0
  | _ + 1, [] => 0
  | n + 1, b :: r => 1 + ptM m lk n (epM m lk (b :: r) 0)
theorem epM_mem {m : Ms} {lk : Nat} : ∀ (s9 : List Nat) (sum : Int32) (d : Nat), d ∈ epM m lk s9 sum → d ∈ s9
  | [], _, _, h => h
  | b :: r, sum, d, h => by
    unfold epM at h; split at h
    · exact h
    · exact List.mem_cons_of_mem _ (epM_mem r _ d h)
end

/-! 24.m6 -/
section
variable {l : Launch} {G : az_G} {ρ : Rp} {x : Xs} {m : Ms} {ou : Nat → Int64}
/-- 1 if a value is from a to b, else 0 -/
def inI (v a b : Int32) : Int32 := if v < a then 0 else if b < v then 0 else 1
theorem inI_1 {v a b : Int32} (h1 : a ≤ v) (h2 : v ≤ b) : inI v a b = 1 := by unfold inI; rw [if_neg (Int32.not_lt.mpr h1), if_neg (Int32.not_lt.mpr h2)]
theorem inI_n {v a b : Int32} (h : ¬ inI v a b = 0) : a ≤ v ∧ v ≤ b := by
  unfold inI at h
  split at h
  · exact absurd rfl h
  · rename_i h1
    split at h
    · exact absurd rfl h
    · rename_i h2
      exact ⟨Int32.not_lt.mp h1, Int32.not_lt.mp h2⟩
theorem inI_0 {v a b : Int32} (h : inI v a b = 0) : ¬ (a ≤ v ∧ v ≤ b) := fun z => by
  rw [inI_1 z.1 z.2] at h
  exact absurd h (by decide)
def MLst (m : Ms) (l : List Nat) : Prop := ∀ b ∈ l, b < 8
theorem nar_01 (c : Prop) (d : Decidable c) : narrow .boolean (.int (@ite Int32 c d 0 1)) = .int (@ite Int32 c d 0 1) := by split <;> rfl
def addReachM (m : Ms) (a1 a2 a3 a4 a5 : Int32) (nr : Nat) : Ms := (mI (mI (recM (mI (mI (mI (mI (mI (mI (mI (mI m 7 ((nr - 1)) a3) 8 ((nr - 1)) a4) 9 ((nr - 1)) a5) 3 nr a1) 5 nr a2) 6 nr 100) 4 nr ((a1 * a2))) 0 21 ((m.1 0 21 + (a1 * a2)))) ((-1)) (nI nr) ((a1 * a2))) 0 1 (((recM (mI (mI (mI (mI (mI (mI (mI (mI m 7 ((nr - 1)) a3) 8 ((nr - 1)) a4) 9 ((nr - 1)) a5) 3 nr a1) 5 nr a2) 6 nr 100) 4 nr ((a1 * a2))) 0 21 ((m.1 0 21 + (a1 * a2)))) ((-1)) (nI nr) ((a1 * a2))).1 0 1 + 1))) 0 0 0)
def sellsM (m : Ms) (b r : Nat) (u : Int32) : Ms := (mM (mI m 17 b ((m.1 17 b - u))) ((m.2 + ((u.toInt64) * ((m.1 6 r).toInt64)))))
end

/-! 25.m7 -/
section
variable {l : Launch} {G : az_G} {ρ : Rp} {x : Xs} {m : Ms} {ou : Nat → Int64}
theorem nlt_nle {a b : Nat} (h : a < b) (hb : b < 2 ^ 30) : ¬ nI b ≤ nI a := fun z => by
  rw [Int32.le_iff_toInt_le, nI_toInt (by omega), nI_toInt (by omega)] at z
  omega
theorem b01 {c : Prop} {d : Decidable c} : (if (@ite Int32 c d 0 1) = 0 then (0 : Int32) else 1) = @ite Int32 c d 0 1 := by split <;> rfl
theorem b10 {c : Prop} {d : Decidable c} : (if (@ite Int32 c d 1 0) = 0 then (0 : Int32) else 1) = @ite Int32 c d 1 0 := by split <;> rfl
def Mheld1Fa (m : Ms) (a : Int32) (k : Nat) : Int32 := (a + m.1 4 k)
def Mheld1F : Nat → Ms → Int32 → Nat → Int32
  | 0, m, a, _ => a
  | n + 1, m, a, k => Mheld1F n m (Mheld1Fa m a k) (k + 1)
def Mheld2Fa (m : Ms) (a : Int32) (k : Nat) : Int32 := (a + (if m.1 11 k = 0 then 0 else m.1 7 k))
def Mheld2F : Nat → Ms → Int32 → Nat → Int32
  | 0, m, a, _ => a
  | n + 1, m, a, k => Mheld2F n m (Mheld2Fa m a k) (k + 1)
def heldM (m : Ms) (nr : Nat) : Int32 := Mheld2F 5 m (Mheld1F nr m 0 0) 0
def MstepsFa (v : Int32) (m : Ms) (a : Int32) (k : Nat) : Int32 := ((a + (if ¬ m.1 26 k = v then 0 else m.1 27 k)) - (if ¬ m.1 25 k = v then 0 else m.1 27 k))
def MstepsF (v : Int32) : Nat → Ms → Int32 → Nat → Int32
  | 0, m, a, _ => a
  | n + 1, m, a, k => MstepsF v n m (MstepsFa v m a k) (k + 1)
def stepsM (m : Ms) (mv : Nat) (v : Int32) : Int32 := MstepsF v mv m 0 0
/-- every reach of the river has an area -/
def MAr (m : Ms) (nr : Nat) : Prop := ∀ k, k < nr → ¬ m.1 3 k = 0
def Mmean_lFa (m : Ms) (a : Int32) (k : Nat) : Int32 := (a + levM m k)
def Mmean_lF : Nat → Ms → Int32 → Nat → Int32
  | 0, m, a, _ => a
  | n + 1, m, a, k => Mmean_lF n m (Mmean_lFa m a k) (k + 1)
def Mbal_lFa (mv : Nat) (m : Ms) (a : Int32) (k : Nat) : Int32 := (if a = 0 then 0 else (if ¬ stepsM m mv (nI k) = m.1 4 k then 0 else 1))
def Mbal_lF (mv : Nat) : Nat → Ms → Int32 → Nat → Int32
  | 0, m, a, _ => a
  | n + 1, m, a, k => Mbal_lF mv n m (Mbal_lFa mv m a k) (k + 1)
theorem recM_okE {m m' : Ms} {f t u : Int32} {z : Nat} (h : mvok m (z + 1)) (e : m'.1 0 24 = (recM m f t u).1 0 24 := by rfl) : mvok m' z := (recM_ok h).eq e
def Mew1Fm (m : Ms) (k : Nat) : Ms := (mI (mI (recM m (nI k) ((-3)) ((if m.1 3 k ≤ m.1 4 k then m.1 3 k else m.1 4 k))) 4 k (((recM m (nI k) ((-3)) ((if m.1 3 k ≤ m.1 4 k then m.1 3 k else m.1 4 k))).1 4 k - (if m.1 3 k ≤ m.1 4 k then m.1 3 k else m.1 4 k)))) 0 23 (((recM m (nI k) ((-3)) ((if m.1 3 k ≤ m.1 4 k then m.1 3 k else m.1 4 k))).1 0 23 + (if m.1 3 k ≤ m.1 4 k then m.1 3 k else m.1 4 k))))
def Mew1F : Nat → Ms → Nat → Ms
  | 0, m, _ => m
  | n + 1, m, k => Mew1F n (Mew1Fm m k) (k + 1)
def Mew2Fm (m : Ms) (a : Int32) (k : Nat) : Ms := (mI (mI m 6 k ((if (if m.1 5 k ≤ levM m k then (if levM m k ≤ m.1 5 k then m.1 6 k else (m.1 6 k - ((m.1 6 k + 9) / 10))) else (m.1 6 k + ((m.1 6 k + 9) / 10))) ≤ 9999 then (if 1 ≤ (if m.1 5 k ≤ levM m k then (if levM m k ≤ m.1 5 k then m.1 6 k else (m.1 6 k - ((m.1 6 k + 9) / 10))) else (m.1 6 k + ((m.1 6 k + 9) / 10))) then (if m.1 5 k ≤ levM m k then (if levM m k ≤ m.1 5 k then m.1 6 k else (m.1 6 k - ((m.1 6 k + 9) / 10))) else (m.1 6 k + ((m.1 6 k + 9) / 10))) else 1) else 9999))) 5 k (levM (mI m 6 k ((if (if m.1 5 k ≤ levM m k then (if levM m k ≤ m.1 5 k then m.1 6 k else (m.1 6 k - ((m.1 6 k + 9) / 10))) else (m.1 6 k + ((m.1 6 k + 9) / 10))) ≤ 9999 then (if 1 ≤ (if m.1 5 k ≤ levM m k then (if levM m k ≤ m.1 5 k then m.1 6 k else (m.1 6 k - ((m.1 6 k + 9) / 10))) else (m.1 6 k + ((m.1 6 k + 9) / 10))) then (if m.1 5 k ≤ levM m k then (if levM m k ≤ m.1 5 k then m.1 6 k else (m.1 6 k - ((m.1 6 k + 9) / 10))) else (m.1 6 k + ((m.1 6 k + 9) / 10))) else 1) else 9999))) k))
def Mew2Fa (m : Ms) (a : Int32) (k : Nat) : Int32 := (a + (if (if (if m.1 5 k ≤ levM m k then (if levM m k ≤ m.1 5 k then m.1 6 k else (m.1 6 k - ((m.1 6 k + 9) / 10))) else (m.1 6 k + ((m.1 6 k + 9) / 10))) ≤ 9999 then (if 1 ≤ (if m.1 5 k ≤ levM m k then (if levM m k ≤ m.1 5 k then m.1 6 k else (m.1 6 k - ((m.1 6 k + 9) / 10))) else (m.1 6 k + ((m.1 6 k + 9) / 10))) then (if m.1 5 k ≤ levM m k then (if levM m k ≤ m.1 5 k then m.1 6 k else (m.1 6 k - ((m.1 6 k + 9) / 10))) else (m.1 6 k + ((m.1 6 k + 9) / 10))) else 1) else 9999) ≤ m.1 6 k then 0 else 1))
def Mew2F : Nat → Ms → Int32 → Nat → Ms × Int32
  | 0, m, a, _ => (m, a)
  | n + 1, m, a, k => Mew2F n (Mew2Fm m a k) (Mew2Fa m a k) (k + 1)
theorem Mew1_p {nr : Nat} {p j : Nat} (h0 : p ≠ 0) (h4 : p ≠ 4) (h1 : p ≠ 25) (h2 : p ≠ 26) (h3 : p ≠ 27) : ∀ (n : Nat) (m : Ms) (k : Nat), (Mew1F n m k).1 p j = m.1 p j
  | 0, _, _ => rfl
  | n + 1, m, k => by
    rw [Mew1F, Mew1_p (nr := nr) h0 h4 h1 h2 h3 n]
    simp only [Mew1Fm, mI]
    rw [up2_p h0, up2_p h4]
    exact recM_p h0 h1 h2 h3
theorem Mew1_0 {j : Nat} (hj : j ≠ 24) (h23 : j ≠ 23) : ∀ (n : Nat) (m : Ms) (k : Nat), (Mew1F n m k).1 0 j = m.1 0 j
  | 0, _, _ => rfl
  | n + 1, m, k => by
    rw [Mew1F, Mew1_0 hj h23 n]
    simp only [Mew1Fm, mI]
    rw [up2_k h23, up2_p (by decide)]
    exact recM_0 hj
theorem Mew1_ok {nr : Nat} : ∀ (n : Nat) (m : Ms) (k z : Nat), mvok m (n + z) → mvok (Mew1F n m k) z
  | 0, _, _, _, h => h.le (by omega)
  | n + 1, m, k, z, h => by
    rw [Mew1F]
    exact Mew1_ok (nr := nr) n _ (k + 1) z (recM_okE (z := n + z) (h.le (by omega)))
def endWeekM (m : Ms) (nr : Nat) : Ms := (mI (mI (Mew2F nr (Mew1F nr m 0) 0 0).1 0 2 (((Mew2F nr (Mew1F nr m 0) 0 0).1.1 0 2 + 1))) 0 0 0)
def addBargeM (m : Ms) (k nb : Nat) (b1 b2 b3 : Int32) : Ms := (mI (mI (mI (mI (mI (mI (mI (mI m 13 nb (nI k)) 14 nb b1) 15 nb b2) 16 nb b3) 18 nb ((-1))) 19 nb ((-1))) 0 12 (nI (nb + 1))) 0 0 0)
def floatsI (m : Ms) (b r : Nat) : Int32 := if levM m r ≤ deepM m b then 0 else 1
def buyC (m : Ms) (k : Nat) (u : Int32) : Ms := mI m 17 k (m.1 17 k + u)
def buyB (m : Ms) (k : Nat) (u : Int32) : Ms := mI (buyC m k u) 17 k ((buyC m k u).1 17 k - u)
def costM (m : Ms) (r : Nat) (u : Int32) : Int64 := u.toInt64 * (m.1 6 r).toInt64
def buyF (m : Ms) (k r : Nat) (u : Int32) : Ms := mM (mI (buyB m k u) 17 k ((buyB m k u).1 17 k + u)) (m.2 - costM m r u)
end

/-! 26.m8 -/
section
variable {l : Launch} {G : az_G} {ρ : Rp} {x : Xs} {m : Ms} {ou : Nat → Int64}
/-- i tonnes sold one by one -/
def stdM (m : Ms) (k r : Nat) : Nat → Ms
  | 0 => m
  | i + 1 => sellsM (stdM m k r i) k r 1
theorem stdM_p {m : Ms} {k r : Nat} {p j : Nat} (h : p ≠ 17) : ∀ i, (stdM m k r i).1 p j = m.1 p j
  | 0 => rfl
  | i + 1 => by
    have z : (sellsM (stdM m k r i) k r 1).1 p j = (stdM m k r i).1 p j := by
      simp only [sellsM, mI, mM]
      rw [up2_p h]
    exact z.trans (stdM_p h i)
def loadM (m : Ms) (k r : Nat) : Int32 := (((levM m r - 1) - m.1 15 k) * m.1 16 k) - m.1 17 k
def wrC (m : Ms) (n : Nat) (c : Int32) : Ms := mI (mI m 38 n (vp_nar .char c)) 0 39 (nI (n + 1))
def wrL : Ms → Nat → List Int32 → Ms
  | m, _, [] => m
  | m, n, c :: cs => wrL (wrC m n c) (n + 1) cs
theorem wrC_p {m : Ms} {n : Nat} {c : Int32} {p j : Nat} (h : p ≠ 38) (h0 : p ≠ 0) : (wrC m n c).1 p j = m.1 p j := by
  simp only [wrC, mI]
  rw [up2_p h0, up2_p h]
theorem wrC_0 {m : Ms} {n : Nat} {c : Int32} {j : Nat} (h : j ≠ 39) : (wrC m n c).1 0 j = m.1 0 j := by
  simp only [wrC, mI]
  rw [up2_k h, up2_p (by decide)]
theorem wrL_p {p j : Nat} (h : p ≠ 38) (h0 : p ≠ 0) : ∀ (cs : List Int32) (m : Ms) (n : Nat), (wrL m n cs).1 p j = m.1 p j
  | [], _, _ => rfl
  | c :: cs, m, n => by rw [wrL, wrL_p h h0 cs]; exact wrC_p h h0
theorem wrL_0 {j : Nat} (h : j ≠ 39) : ∀ (cs : List Int32) (m : Ms) (n : Nat), (wrL m n cs).1 0 j = m.1 0 j
  | [], _, _ => rfl
  | c :: cs, m, n => by rw [wrL, wrL_0 h cs]; exact wrC_0 h
theorem wrL_a : ∀ (cs ds : List Int32) (m : Ms) (n : Nat), wrL (wrL m n cs) (n + cs.length) ds = wrL m n (cs ++ ds)
  | [], _, _, _ => rfl
  | c :: cs, ds, m, n => by
    rw [wrL, List.cons_append, wrL, List.length_cons, ← wrL_a cs ds, Nat.add_assoc, Nat.add_comm 1]
theorem wrL_n : ∀ (cs : List Int32) (m : Ms) (n : Nat), m.1 0 39 = nI n → (wrL m n cs).1 0 39 = nI (n + cs.length)
  | [], _, _, h => h
  | c :: cs, m, n, _ => by
    rw [wrL, wrL_n cs (wrC m n c) (n + 1) rfl, List.length_cons, Nat.add_assoc, Nat.add_comm 1]
theorem MSuf_w {m m' : Ms} (h : ∀ b, m'.1 19 b = m.1 19 b) : ∀ {s : List Nat}, MSuf m s → MSuf m' s
  | [], _ => trivial
  | _ :: _, hs => ⟨hs.1, (h _).trans hs.2.1, MSuf_w h hs.2.2⟩
/-- what a chain's rest writes -/
def chC : List Nat → List Int32
  | [] => []
  | d :: r => 43 :: (((48 + nI d).toUInt32 % 65536).toInt32) :: chC r
theorem chC_len : ∀ s : List Nat, (chC s).length = 2 * s.length
  | [] => rfl
  | _ :: r => by simp only [chC, List.length_cons, chC_len r]; omega
/-- what one barge at the head of a convoy writes -/
def rowC (m : Ms) (v : Int32) (ch : Nat → List Nat) (k : Nat) : List Int32 := if m.1 13 k = v then (if m.1 18 k = (-1) then 32 :: (((48 + nI k).toUInt32 % 65536).toInt32) :: chC (ch k) else []) else []
def rowsC (m : Ms) (v : Int32) (ch : Nat → List Nat) : Nat → Nat → List Int32
  | 0, _ => []
  | j + 1, k => rowC m v ch k ++ rowsC m v ch j (k + 1)
theorem rowC_w {m m' : Ms} {v : Int32} {ch : Nat → List Nat} {k : Nat} (h13 : ∀ b, m'.1 13 b = m.1 13 b) (h18 : ∀ b, m'.1 18 b = m.1 18 b) : rowC m' v ch k = rowC m v ch k := by unfold rowC; rw [h13, h18]
theorem rowsC_w {m m' : Ms} {v : Int32} {ch : Nat → List Nat} (h13 : ∀ b, m'.1 13 b = m.1 13 b) (h18 : ∀ b, m'.1 18 b = m.1 18 b) : ∀ (j k : Nat), rowsC m' v ch j k = rowsC m v ch j k
  | 0, _ => rfl
  | j + 1, k => by rw [rowsC, rowsC, rowC_w h13 h18, rowsC_w h13 h18 j]
/-- the chains behind the heads at a reach -/
def MCh (m : Ms) (v : Int32) (nb : Nat) (ch : Nat → List Nat) : Prop := ∀ k, k < nb → m.1 13 k = v → m.1 18 k = (-1) → MSuf m (k :: ch k) ∧ ∀ d ∈ ch k, d ≠ k
theorem MCh_w {m m' : Ms} {v : Int32} {nb : Nat} {ch : Nat → List Nat} (h13 : ∀ b, m'.1 13 b = m.1 13 b) (h18 : ∀ b, m'.1 18 b = m.1 18 b) (h19 : ∀ b, m'.1 19 b = m.1 19 b) (h : MCh m v nb ch) : MCh m' v nb ch := fun k hk h1 h2 => ⟨MSuf_w h19 (h k hk ((h13 k).symm.trans h1) ((h18 k).symm.trans h2)).1, (h k hk ((h13 k).symm.trans h1) ((h18 k).symm.trans h2)).2⟩
/-- what stands ahead of the barges: the reach and its level -/
def headC (k : Nat) (v : Int32) : List Int32 := (((48 + nI k).toUInt32 % 65536).toInt32) :: 58 :: 32 :: (if v ≤ 9 then [((48 + (v - v / 10 * 10)).toUInt32 % 65536).toInt32, 100, 109] else [((48 + v / 10).toUInt32 % 65536).toInt32, ((48 + (v - v / 10 * 10)).toUInt32 % 65536).toInt32, 100, 109])
def lineM (m : Ms) (k nb : Nat) (ch : Nat → List Nat) : List Int32 := headC k (levM m k) ++ rowsC m (nI k) ch nb 0
def writeM (m : Ms) (k nb : Nat) (ch : Nat → List Nat) : Ms := wrL (mI m 0 39 0) 0 (lineM m k nb ch)
theorem headC_w {m : Ms} {k : Nat} {v : Int32} {nb : Nat} {ch : Nat → List Nat} : writeM m k nb ch = wrL (wrL (mI m 0 39 0) 0 (headC k (levM m k))) (0 + (headC k (levM m k)).length) (rowsC (wrL (mI m 0 39 0) 0 (headC k (levM m k))) (nI k) ch nb 0) := by
  rw [writeM, lineM, ← wrL_a, rowsC_w (m := m) (m' := wrL (mI m 0 39 0) 0 (headC k (levM m k))) (fun b => wrL_p (by decide) (by decide) _ _ _) (fun b => wrL_p (by decide) (by decide) _ _ _)]
end

/-! 27.m9 -/
section
variable {l : Launch} {G : az_G} {ρ : Rp} {x : Xs} {m : Ms} {ou : Nat → Int64}
/-- 1 if every one of these floats at a reach, else 0 -/
def aflI (m : Ms) (r : Nat) : List Nat → Int32
  | [] => 1
  | d :: q => if floatsI m d r = 0 then 0 else aflI m r q
theorem aflI_01 {m : Ms} {r : Nat} : ∀ q : List Nat, aflI m r q = 0 ∨ aflI m r q = 1
  | [] => Or.inr rfl
  | d :: q => by
    unfold aflI; split
    · exact Or.inl rfl
    · exact aflI_01 q
/-- a part may be looked at: where its barges lie, and that they carry -/
def PtOK (m : Ms) (r : Nat) (q : List Nat) : Prop := ∀ d ∈ q, m.1 13 d = nI r ∧ ¬ m.1 16 d = 0
def movesM (v : Int32) : Ms → List Nat → Ms
  | m, [] => m
  | m, d :: q => movesM v (mI m 13 d v) q
theorem movesM_p {v : Int32} {p j : Nat} (h : p ≠ 13) : ∀ (q : List Nat) (m : Ms), (movesM v m q).1 p j = m.1 p j
  | [], _ => rfl
  | d :: q, m => by
    rw [movesM, movesM_p h q]
    simp only [mI]
    rw [up2_p h]
theorem movesM_n {v : Int32} {j : Nat} : ∀ (q : List Nat) (m : Ms), j ∉ q → (movesM v m q).1 13 j = m.1 13 j
  | [], _, _ => rfl
  | d :: q, m, h => by
    rw [movesM, movesM_n q _ (fun z => h (List.mem_cons_of_mem _ z))]
    simp only [mI]
    rw [up2_k (fun z : j = d => h (by rw [z]; exact List.mem_cons_self))]
theorem movesM_i {v : Int32} {j : Nat} : ∀ (q : List Nat) (m : Ms), j ∈ q → (movesM v m q).1 13 j = v
  | d :: q, m, h => by
    rw [movesM]
    by_cases hj : j ∈ q
    · exact movesM_i q _ hj
    · rw [movesM_n q _ hj]
      rcases List.mem_cons.mp h with rfl | h
      · simp only [mI]; rw [up2_s]
      · exact absurd h hj
/-- the part ends where its rest begins -/
def PtNe (q rest : List Nat) : Prop := ∀ d ∈ q, ¬ nI d = hdI rest
theorem hdI_app (d : Nat) (q rest : List Nat) : hdI (d :: q ++ rest) = nI d := rfl
theorem comesM_p {p j : Nat} (h0 : p ≠ 0) (h4 : p ≠ 4) (h1 : p ≠ 25) (h2 : p ≠ 26) (h3 : p ≠ 27) : ∀ (n : Nat) (m : Ms) (nr : Nat) (src : Int32) (k : Nat) (left : Int32), (comesM n m nr src k left).1 p j = m.1 p j
  | 0, _, _, _, _, _ => rfl
  | n + 1, m, nr, src, k, left => by
    unfold comesM; split
    · rfl
    · split
      · exact (comesM_p h0 h4 h1 h2 h3 n _ _ _ _ _).trans (cnext_p h0 h4 h1 h2 h3)
      · simp only [mI]
        rw [up2_p h0]; exact recM_p h0 h1 h2 h3
theorem comesM_0 {j : Nat} (h : j ≠ 24) (h22 : j ≠ 22) : ∀ (n : Nat) (m : Ms) (nr : Nat) (src : Int32) (k : Nat) (left : Int32), (comesM n m nr src k left).1 0 j = m.1 0 j
  | 0, _, _, _, _, _ => rfl
  | n + 1, m, nr, src, k, left => by
    unfold comesM; split
    · rfl
    · split
      · exact (comesM_0 h h22 n _ _ _ _ _).trans (cnext_0 h)
      · simp only [mI]
        rw [up2_k h22]; exact recM_0 h
theorem comesM_ok : ∀ (n : Nat) (m : Ms) (nr : Nat) (src : Int32) (k : Nat) (left : Int32) (z : Nat), mvok m (n + z) → mvok (comesM n m nr src k left) z
  | 0, _, _, _, _, _, z, h => h.le (by omega)
  | n + 1, m, nr, src, k, left, z, h => by
    unfold comesM; split
    · exact h.le (by omega)
    · split
      · exact comesM_ok n _ _ _ _ _ z (cnext_ok (z := n + z) (h.le (by omega)))
      · exact recM_okE (z := z) (h.le (by omega))
theorem emptiesM_p {m : Ms} {nr k p j : Nat} (h0 : p ≠ 0) (h4 : p ≠ 4) (h10 : p ≠ 10) (h11 : p ≠ 11) (h1 : p ≠ 25) (h2 : p ≠ 26) (h3 : p ≠ 27) : (emptiesM m nr k).1 p j = m.1 p j := by
  rw [emptiesM, comesM_p h0 h4 h1 h2 h3]
  simp only [mI]
  rw [up2_p h10, up2_p h11]
theorem emptiesM_f {m : Ms} {nr k : Nat} : (emptiesM m nr k).1 11 k = 0 := by
  rw [emptiesM, comesM_p (by decide) (by decide) (by decide) (by decide) (by decide)]
  simp only [mI]
  rw [up2_p (by decide), up2_s]
  rfl
theorem emptiesM_0 {m : Ms} {nr k j : Nat} (h : j ≠ 24) (h22 : j ≠ 22) : (emptiesM m nr k).1 0 j = m.1 0 j := by
  rw [emptiesM, comesM_0 h h22]
  simp only [mI]
  rw [up2_p (by decide), up2_p (by decide)]
theorem emptiesM_ok {m : Ms} {nr k z : Nat} (hk : k + 1 ≤ nr) (h : mvok m (nr + z)) : mvok (emptiesM m nr k) z := by
  rw [emptiesM]
  exact comesM_ok _ _ _ _ _ _ z ((h.le (by omega)).eq rfl)
theorem fillsM_p {m : Ms} {k p j : Nat} (h0 : p ≠ 0) (h4 : p ≠ 4) (h11 : p ≠ 11) (h1 : p ≠ 25) (h2 : p ≠ 26) (h3 : p ≠ 27) : (fillsM m k).1 p j = m.1 p j := by
  simp only [fillsM, mI]
  rw [up2_p h11, up2_p h4]
  exact recM_p h0 h1 h2 h3
theorem fillsM_0 {m : Ms} {k j : Nat} (h : j ≠ 24) : (fillsM m k).1 0 j = m.1 0 j := by
  simp only [fillsM, mI]
  rw [up2_p (by decide), up2_p (by decide)]
  exact recM_0 h
theorem fillsM_ok {m : Ms} {k z : Nat} (h : mvok m (z + 1)) : mvok (fillsM m k) z := recM_okE (z := z) h
/-- what a lock does before it fills -/
def lkA (m : Ms) (nr lk : Nat) (dn : Bool) : Ms := if dn = false ∧ ¬ m.1 11 lk = 0 then emptiesM m nr lk else m
def lkB (m : Ms) (lk : Nat) : Ms := if m.1 11 lk = 0 then fillsM m lk else m
def lkC (m : Ms) (nr lk : Nat) (dn : Bool) : Ms := if dn = true then emptiesM m nr lk else m
def rIn (dn : Bool) (lk : Nat) : Nat := if dn = true then lk else lk + 1
def rOut (dn : Bool) (lk : Nat) : Nat := if dn = true then lk + 1 else lk
def lkD (m : Ms) (nr lk : Nat) (dn : Bool) (part : List Nat) : Ms := movesM (nI (rOut dn lk)) (lkC (lkB (lkA m nr lk dn) lk) nr lk dn) part
def lockM (m : Ms) (nr lk : Nat) (dn : Bool) (part : List Nat) : Ms × Int32 :=
  if aflI m (rIn dn lk) part = 0 then (m, 3)
  else if (lkA m nr lk dn).1 11 lk = 0 ∧ (lkA m nr lk dn).1 4 lk < (lkA m nr lk dn).1 7 lk then (lkA m nr lk dn, 4)
  else (lkD m nr lk dn part, if aflI (lkD m nr lk dn part) (rOut dn lk) part = 0 then 5 else 0)
end

/-! 28.m10 -/
section
variable {l : Launch} {G : az_G} {ρ : Rp} {x : Xs} {m : Ms} {ou : Nat → Int64}
theorem lockM_ind (P : Ms → Prop) {nr lk : Nat} {dn : Bool} {q : List Nat} (hE : ∀ m, P m → P (emptiesM m nr lk)) (hF : ∀ m, P m → P (fillsM m lk)) (hM : ∀ v m, P m → P (movesM v m q)) {m : Ms} (h : P m) : P (lockM m nr lk dn q).1 := by
  have hA : P (lkA m nr lk dn) := by
    unfold lkA; split
    · exact hE _ h
    · exact h
  have hD : P (lkD m nr lk dn q) := by
    refine hM _ _ ?_
    have hB : P (lkB (lkA m nr lk dn) lk) := by
      unfold lkB; split
      · exact hF _ hA
      · exact hA
    unfold lkC; split
    · exact hE _ hB
    · exact hB
  unfold lockM; split
  · exact h
  · split
    · exact hA
    · exact hD
theorem lockM_p {m : Ms} {nr lk p j : Nat} {dn : Bool} {q : List Nat} (h0 : p ≠ 0) (h4 : p ≠ 4) (h10 : p ≠ 10) (h11 : p ≠ 11) (h13 : p ≠ 13) (h1 : p ≠ 25) (h2 : p ≠ 26) (h3 : p ≠ 27) : (lockM m nr lk dn q).1.1 p j = m.1 p j :=
  lockM_ind (fun m' => m'.1 p j = m.1 p j) (fun m' h => (emptiesM_p h0 h4 h10 h11 h1 h2 h3).trans h) (fun m' h => (fillsM_p h0 h4 h11 h1 h2 h3).trans h) (fun v m' h => (movesM_p h13 _ _).trans h) rfl
theorem lockM_13 {m : Ms} {nr lk j : Nat} {dn : Bool} {q : List Nat} (h : j ∉ q) : (lockM m nr lk dn q).1.1 13 j = m.1 13 j :=
  lockM_ind (fun m' => m'.1 13 j = m.1 13 j) (fun m' h => (emptiesM_p (by decide) (by decide) (by decide) (by decide) (by decide) (by decide) (by decide)).trans h) (fun m' h => (fillsM_p (by decide) (by decide) (by decide) (by decide) (by decide) (by decide)).trans h) (fun v m' z => (movesM_n _ _ h).trans z) rfl
theorem lockM_0 {m : Ms} {nr lk j : Nat} {dn : Bool} {q : List Nat} (h : j ≠ 24) (h22 : j ≠ 22) : (lockM m nr lk dn q).1.1 0 j = m.1 0 j :=
  lockM_ind (fun m' => m'.1 0 j = m.1 0 j) (fun m' z => (emptiesM_0 h h22).trans z) (fun m' z => (fillsM_0 h).trans z) (fun v m' z => (movesM_p (by decide) _ _).trans z) rfl
theorem movesM_2 {v : Int32} : ∀ (q : List Nat) (m : Ms), (movesM v m q).2 = m.2
  | [], _ => rfl
  | d :: q, m => movesM_2 q _
theorem lockM_ok {m : Ms} {nr lk z : Nat} {dn : Bool} {q : List Nat} (hk : lk + 1 ≤ nr) (h : mvok m (2 * nr + 1 + z)) : mvok (lockM m nr lk dn q).1 z := by
  have hA : mvok (lkA m nr lk dn) (nr + 1 + z) := by
    unfold lkA; split
    · exact emptiesM_ok hk (h.le (by omega))
    · exact h.le (by omega)
  have hD : mvok (lkD m nr lk dn q) z := by
    have hB : mvok (lkB (lkA m nr lk dn) lk) (nr + z) := by
      unfold lkB; split
      · exact fillsM_ok (hA.le (by omega))
      · exact hA.le (by omega)
    refine mvok.eq (m := lkC (lkB (lkA m nr lk dn) lk) nr lk dn) ?_ (movesM_p (by decide) _ _)
    unfold lkC; split
    · exact emptiesM_ok hk hB
    · exact hB.le (by omega)
  unfold lockM; split
  · exact h.le (by omega)
  · split
    · exact hA.le (by omega)
    · exact hD
/-- the part that begins a list of barges -/
def paM (m : Ms) (lk : Nat) : List Nat → Int32 → List Nat
  | [], _ => []
  | b :: r, sum => if m.1 8 lk < sum + m.1 14 b then [] else b :: paM m lk r (sum + m.1 14 b)
theorem pa_ep {m : Ms} {lk : Nat} : ∀ (s9 : List Nat) (sum : Int32), paM m lk s9 sum ++ epM m lk s9 sum = s9
  | [], _ => rfl
  | b :: r, sum => by
    unfold paM epM; split
    · rfl
    · exact congrArg (List.cons b) (pa_ep r _)
theorem epM_w {m m' : Ms} {lk : Nat} (h8 : ∀ b, m'.1 8 b = m.1 8 b) (h14 : ∀ b, m'.1 14 b = m.1 14 b) : ∀ (s9 : List Nat) (sum : Int32), epM m' lk s9 sum = epM m lk s9 sum
  | [], _ => rfl
  | b :: r, sum => by
    unfold epM; rw [h8, h14]; split
    · rfl
    · exact epM_w h8 h14 r _
theorem tlM_1 {m : Ms} {lk : Nat} : ∀ (s9 : List Nat), tlM m lk s9 1 = 1
  | [] => rfl
  | b :: r => by unfold tlM; rw [if_pos (by decide)]; exact tlM_1 r
theorem tlM_0 {m : Ms} {lk : Nat} : ∀ (s9 : List Nat), tlM m lk s9 0 = 0 → ∀ b ∈ s9, ¬ m.1 8 lk < m.1 14 b
  | [], _, _, h => absurd h (List.not_mem_nil)
  | d :: r, h, b, hb => by
    unfold tlM at h; rw [if_neg (by decide)] at h
    split at h
    · rename_i hd
      rcases List.mem_cons.mp hb with rfl | hb
      · exact Int32.not_lt.mpr hd
      · exact tlM_0 r h b hb
    · rw [tlM_1] at h; exact absurd h (by decide)
def sillI (m : Ms) (lk : Nat) : List Nat → Int32
  | [] => 1
  | d :: q => if deepM m d ≤ m.1 9 lk then sillI m lk q else 0
theorem sillI_01 {m : Ms} {lk : Nat} : ∀ q : List Nat, sillI m lk q = 0 ∨ sillI m lk q = 1
  | [] => Or.inr rfl
  | d :: q => by
    unfold sillI; split
    · exact sillI_01 q
    · exact Or.inl rfl
/-- part after part -/
def passL (nr lk : Nat) (dn : Bool) : Nat → Ms → List Nat → Nat → Ms × Int32
  | 0, m, _, n9 => (m, nI n9)
  | _ + 1, m, [], n9 => (m, nI n9)
  | k + 1, m, b :: r, n9 => if (lockM m nr lk dn (paM m lk (b :: r) 0)).2 = 0 then passL nr lk dn k (lockM m nr lk dn (paM m lk (b :: r) 0)).1 (epM m lk (b :: r) 0) (n9 + 1) else (refM (lockM m nr lk dn (paM m lk (b :: r) 0)).1 (lockM m nr lk dn (paM m lk (b :: r) 0)).2 (nI lk), 0)
def passM (m : Ms) (nr lk : Nat) (dn : Bool) (f : Nat) (t : List Nat) : Ms × Int32 :=
  if tlM m lk (f :: t) 0 = 0 then (if sillI m lk (f :: t) = 0 then (refM m 2 (nI lk), 0) else passL nr lk dn (t.length + 1) m (f :: t) 0) else (refM m 1 (nI lk), 0)
theorem PtNe_of {s9 : List Nat} {m : Ms} {q rest : List Nat} (e : q ++ rest = s9) (hs : MSuf m s9) (hd : s9.Nodup) : PtNe q rest := by
  subst e
  intro d hdq
  have hl : ∀ {z : List Nat}, MSuf m z → ∀ d ∈ z, d < 8 := by
    intro z
    induction z with
    | nil => intro _ d h; cases h
    | cons b z ih =>
      intro h d hd
      rcases List.mem_cons.mp hd with rfl | hd
      · exact h.1
      · exact ih h.2.2 d hd
  have h8 := hl hs d (List.mem_append_left _ hdq)
  cases rest with
  | nil => exact nI_m1 h8
  | cons b r =>
    intro z
    have hb := hl hs b (List.mem_append_right _ List.mem_cons_self)
    have e : d = b := by
      have z2 : nI d = nI b := z
      rw [nI_eq (by omega) (by omega)] at z2; exact z2
    exact (List.nodup_append.mp hd).2.2 d hdq b List.mem_cons_self e
end

/-! 29.m11 -/
section
variable {l : Launch} {G : az_G} {ρ : Rp} {x : Xs} {m : Ms} {ou : Nat → Int64}
/-- all that a run of parts needs -/
def PsOK (m : Ms) (nr lk : Nat) (dn : Bool) (q : List Nat) : Prop := m.1 0 1 = nI nr ∧ nr ≤ 6 ∧ lk + 2 ≤ nr ∧ MAr m nr ∧ MSuf m q ∧ q.Nodup ∧ PtOK m (rIn dn lk) q ∧ ∀ b ∈ q, ¬ m.1 8 lk < m.1 14 b
theorem PsOK.step {m : Ms} {nr lk : Nat} {dn : Bool} {q rest : List Nat} (h : PsOK m nr lk dn (q ++ rest)) : PsOK (lockM m nr lk dn q).1 nr lk dn rest := by
  obtain ⟨h1, h2, h3, h4, h5, h6, h7, h8⟩ := h
  have hsuf : ∀ {z : List Nat}, MSuf m (z ++ rest) → MSuf m rest := by
    intro z
    induction z with
    | nil => exact fun w => w
    | cons b z ih => exact fun w => ih w.2.2
  have hq := List.nodup_append.mp h6
  refine ⟨(lockM_0 (by decide) (by decide)).trans h1, h2, h3, fun k hk z => h4 k hk ((lockM_p (by decide) (by decide) (by decide) (by decide) (by decide) (by decide) (by decide) (by decide)).symm.trans z), MSuf_w (fun b => lockM_p (by decide) (by decide) (by decide) (by decide) (by decide) (by decide) (by decide) (by decide)) (hsuf h5), hq.2.1, ?_, ?_⟩
  · intro d hd
    refine ⟨(lockM_13 (fun z => hq.2.2 d z d hd rfl)).trans (h7 d (List.mem_append_right _ hd)).1, fun z => (h7 d (List.mem_append_right _ hd)).2 ((lockM_p (by decide) (by decide) (by decide) (by decide) (by decide) (by decide) (by decide) (by decide)).symm.trans z)⟩
  · intro d hd
    rw [lockM_p (by decide) (by decide) (by decide) (by decide) (by decide) (by decide) (by decide) (by decide), lockM_p (by decide) (by decide) (by decide) (by decide) (by decide) (by decide) (by decide) (by decide)]
    exact h8 d (List.mem_append_right _ hd)
def endsM (m : Ms) (u : Int32) : Ms := (mI (mI (mI (backM m) 0 30 ((backM m).1 0 28)) 0 31 ((backM m).1 0 29)) 0 0 u)
end

/-! 30.m12 -/
section
variable {l : Launch} {G : az_G} {ρ : Rp} {x : Xs} {m : Ms} {ou : Nat → Int64}
theorem passL_ind (P : Ms → Prop) {nr lk : Nat} {dn : Bool} (hE : ∀ m, P m → P (emptiesM m nr lk)) (hF : ∀ m, P m → P (fillsM m lk)) (hM : ∀ v m q, P m → P (movesM v m q)) (hR : ∀ m u v, P m → P (refM m u v)) : ∀ (n : Nat) (m : Ms) (s9 : List Nat) (n9 : Nat), P m → P (passL nr lk dn n m s9 n9).1
  | 0, _, _, _, h => h
  | n + 1, _, [], _, h => h
  | n + 1, m, b :: r, n9, h => by
    rw [passL]
    have hl := lockM_ind P (nr := nr) (lk := lk) (dn := dn) (q := paM m lk (b :: r) 0) hE hF (fun v m => hM v m _) h
    split
    · exact passL_ind P hE hF hM hR n _ _ _ hl
    · exact hR _ _ _ hl
theorem passM_ind (P : Ms → Prop) {nr lk : Nat} {dn : Bool} {f : Nat} {t : List Nat} (hE : ∀ m, P m → P (emptiesM m nr lk)) (hF : ∀ m, P m → P (fillsM m lk)) (hM : ∀ v m q, P m → P (movesM v m q)) (hR : ∀ m u v, P m → P (refM m u v)) {m : Ms} (h : P m) : P (passM m nr lk dn f t).1 := by
  unfold passM; split
  · split
    · exact hR _ _ _ h
    · exact passL_ind P hE hF hM hR _ _ _ _ h
  · exact hR _ _ _ h
theorem refM_p {m : Ms} {u v : Int32} {p j : Nat} (h : p ≠ 0) : (refM m u v).1 p j = m.1 p j := by
  simp only [refM, mI]; rw [up2_p h, up2_p h]
theorem refM_0 {m : Ms} {u v : Int32} {j : Nat} (h : j ≠ 28) (h2 : j ≠ 29) : (refM m u v).1 0 j = m.1 0 j := by
  simp only [refM, mI]; rw [up2_k h2, up2_k h]
theorem passM_p {m : Ms} {nr lk p j f : Nat} {dn : Bool} {t : List Nat} (h0 : p ≠ 0) (h4 : p ≠ 4) (h10 : p ≠ 10) (h11 : p ≠ 11) (h13 : p ≠ 13) (h1 : p ≠ 25) (h2 : p ≠ 26) (h3 : p ≠ 27) : (passM m nr lk dn f t).1.1 p j = m.1 p j :=
  passM_ind (fun m' => m'.1 p j = m.1 p j) (fun m' h => (emptiesM_p h0 h4 h10 h11 h1 h2 h3).trans h) (fun m' h => (fillsM_p h0 h4 h11 h1 h2 h3).trans h) (fun v m' q h => (movesM_p h13 _ _).trans h) (fun m' u v h => (refM_p h0).trans h) rfl
theorem passM_0 {m : Ms} {nr lk j f : Nat} {dn : Bool} {t : List Nat} (h : j ≠ 24) (h22 : j ≠ 22) (h28 : j ≠ 28) (h29 : j ≠ 29) : (passM m nr lk dn f t).1.1 0 j = m.1 0 j :=
  passM_ind (fun m' => m'.1 0 j = m.1 0 j) (fun m' z => (emptiesM_0 h h22).trans z) (fun m' z => (fillsM_0 h).trans z) (fun v m' q z => (movesM_p (by decide) _ _).trans z) (fun m' u v z => (refM_0 h28 h29).trans z) rfl
theorem passL_ok {nr lk : Nat} {dn : Bool} (hk : lk + 1 ≤ nr) : ∀ (n : Nat) (m : Ms) (s9 : List Nat) (n9 z : Nat), mvok m (n * (2 * nr + 1) + z) → mvok (passL nr lk dn n m s9 n9).1 z
  | 0, _, _, _, z, h => h.le (by omega)
  | n + 1, _, [], _, z, h => h.le (Nat.le_add_left _ _)
  | n + 1, m, b :: r, n9, z, h => by
    rw [passL]
    have h2 : mvok m (2 * nr + 1 + (n * (2 * nr + 1) + z)) := h.le (Nat.le_of_eq (by rw [Nat.add_mul n 1, Nat.one_mul, ← Nat.add_assoc, Nat.add_comm (2 * nr + 1)]))
    have hl := lockM_ok (dn := dn) (q := paM m lk (b :: r) 0) hk h2
    split
    · exact passL_ok hk n _ _ _ z hl
    · exact (hl.le (Nat.le_add_left _ _)).eq (refM_0 (by decide) (by decide))
theorem passM_ok {m : Ms} {nr lk f z : Nat} {dn : Bool} {t : List Nat} (hk : lk + 1 ≤ nr) (h : mvok m ((t.length + 1) * (2 * nr + 1) + z)) : mvok (passM m nr lk dn f t).1 z := by
  unfold passM; split
  · split
    · exact (h.le (Nat.le_add_left _ _)).eq (refM_0 (by decide) (by decide))
    · exact passL_ok hk _ _ _ _ z h
  · exact (h.le (Nat.le_add_left _ _)).eq (refM_0 (by decide) (by decide))
theorem lockM_at {m : Ms} {nr lk : Nat} {dn : Bool} {q : List Nat} (h : (lockM m nr lk dn q).2 = 0) {d : Nat} (hd : d ∈ q) : (lockM m nr lk dn q).1.1 13 d = nI (rOut dn lk) := by
  unfold lockM at h ⊢
  split at h
  · exact absurd (show (3 : Int32) = 0 from h) (by decide)
  · split at h
    · exact absurd (show (4 : Int32) = 0 from h) (by decide)
    · rename_i h1 h2
      rw [if_neg h1, if_neg h2]
      exact movesM_i _ _ hd
theorem PsOK.inv {m : Ms} {nr lk : Nat} {dn : Bool} {q : List Nat} (h : PsOK m nr lk dn q) : PsOK m nr lk dn (paM m lk q 0 ++ epM m lk q 0) := by rw [pa_ep]; exact h
theorem passL_13 {nr lk j : Nat} {dn : Bool} : ∀ (n : Nat) (m : Ms) (s9 : List Nat) (n9 : Nat), j ∉ s9 → (passL nr lk dn n m s9 n9).1.1 13 j = m.1 13 j
  | 0, _, _, _, _ => rfl
  | n + 1, _, [], _, _ => rfl
  | n + 1, m, b :: r, n9, h => by
    have e := pa_ep (m := m) (lk := lk) (b :: r) 0
    have h1 : j ∉ paM m lk (b :: r) 0 := fun z => h (e ▸ List.mem_append_left _ z)
    have h2 : j ∉ epM m lk (b :: r) 0 := fun z => h (e ▸ List.mem_append_right _ z)
    rw [passL]
    split
    · exact (passL_13 n _ _ _ h2).trans (lockM_13 h1)
    · exact (refM_p (by decide)).trans (lockM_13 h1)
theorem nI_nz {k : Nat} (h : k < 2 ^ 30) (h0 : nI k = 0) : k = 0 := by
  have z : nI k = nI 0 := h0
  rw [nI_eq (by omega) (by omega)] at z; exact z
/-- after all parts have gone through, each barge lies beyond the lock -/
theorem passL_at {nr lk : Nat} {dn : Bool} : ∀ (n : Nat) (m : Ms) (s9 : List Nat) (n9 : Nat), PsOK m nr lk dn s9 → s9.length ≤ n → ¬ (passL nr lk dn n m s9 n9).2 = 0 → ∀ d ∈ s9, (passL nr lk dn n m s9 n9).1.1 13 d = nI (rOut dn lk)
  | 0, _, s9, _, _, hl, _, d, hd => by
    rw [List.length_eq_zero_iff.mp (Nat.le_zero.mp hl)] at hd; cases hd
  | n + 1, _, [], _, _, _, _, d, hd => by cases hd
  | n + 1, m, b :: r, n9, hp, hl, h, d, hd => by
    have e := pa_ep (m := m) (lk := lk) (b :: r) 0
    have hx := hp.inv
    have hfit := hp.2.2.2.2.2.2.2 b List.mem_cons_self
    have hep : (epM m lk (b :: r) 0).length ≤ r.length := by rw [epM, if_neg (by rw [Int32.zero_add]; exact hfit)]; exact epM_len _ _
    have hnd := List.nodup_append.mp hx.2.2.2.2.2.1
    rw [passL] at h ⊢
    split at h
    · rename_i hc
      rw [if_pos hc]
      rcases List.mem_append.mp (e.symm ▸ hd) with h1 | h1
      · exact (passL_13 n _ _ _ (fun z => hnd.2.2 d h1 d z rfl)).trans (lockM_at hc h1)
      · exact passL_at n _ _ _ hx.step (by rw [List.length_cons] at hl; omega) h d h1
    · exact absurd rfl h
theorem passM_13 {m : Ms} {nr lk j f : Nat} {dn : Bool} {t : List Nat} (h : j ∉ f :: t) : (passM m nr lk dn f t).1.1 13 j = m.1 13 j := by
  unfold passM; split
  · split
    · exact refM_p (by decide)
    · exact passL_13 _ _ _ _ h
  · exact refM_p (by decide)
/-- all that a way from reach to reach needs -/
def SlOK (m : Ms) (nr r b : Nat) (rl : List Nat) (f : Nat) (t : List Nat) : Prop := m.1 0 1 = nI nr ∧ nr ≤ 6 ∧ r < nr ∧ MAr m nr ∧ MCv m b rl f t ∧ (f :: t).Nodup ∧ PtOK m r (f :: t) ∧ b ∈ f :: t
theorem passM_at {m : Ms} {nr lk f : Nat} {dn : Bool} {t : List Nat} (hp : tlM m lk (f :: t) 0 = 0 → PsOK m nr lk dn (f :: t)) (h : ¬ (passM m nr lk dn f t).2 = 0) : ∀ d ∈ f :: t, (passM m nr lk dn f t).1.1 13 d = nI (rOut dn lk) := by
  unfold passM at h ⊢
  split at h
  · rename_i h1
    split at h
    · exact absurd rfl h
    · rename_i h2
      rw [if_pos h1, if_neg h2]
      exact passL_at _ _ _ _ (hp h1) (Nat.le_refl _) h
  · exact absurd rfl h
theorem MPre_w {m m' : Ms} (h : ∀ b, m'.1 18 b = m.1 18 b) : ∀ {s : List Nat}, MPre m s → MPre m' s
  | [], _ => trivial
  | _ :: _, hs => ⟨hs.1, (h _).trans hs.2.1, MPre_w h hs.2.2⟩
theorem MCv_w {m m' : Ms} {b : Nat} {r : List Nat} {f : Nat} {t : List Nat} (h18 : ∀ b, m'.1 18 b = m.1 18 b) (h19 : ∀ b, m'.1 19 b = m.1 19 b) (h : MCv m b r f t) : MCv m' b r f t := ⟨MPre_w h18 h.1, h.2.1, MSuf_w h19 h.2.2⟩
theorem SlOK.ps {m : Ms} {nr b : Nat} {rl : List Nat} {f : Nat} {t : List Nat} {lk : Nat} {dn : Bool} (h : SlOK m nr (rIn dn lk) b rl f t) (hk : lk + 2 ≤ nr) (h1 : tlM m lk (f :: t) 0 = 0) : PsOK m nr lk dn (f :: t) := ⟨h.1, h.2.1, hk, h.2.2.2.1, h.2.2.2.2.1.2.2, h.2.2.2.2.2.1, h.2.2.2.2.2.2.1, tlM_0 _ h1⟩
theorem SlOK.step {m : Ms} {nr b : Nat} {rl : List Nat} {f : Nat} {t : List Nat} {lk : Nat} {dn : Bool} (h : SlOK m nr (rIn dn lk) b rl f t) (hk : lk + 2 ≤ nr) (hz : ¬ (passM m nr lk dn f t).2 = 0) : SlOK (passM m nr lk dn f t).1 nr (rOut dn lk) b rl f t := by
  have hat := passM_at (fun h1 => h.ps hk h1) hz
  refine ⟨(passM_0 (by decide) (by decide) (by decide) (by decide)).trans h.1, h.2.1, by unfold rOut; split <;> omega, fun k q z => h.2.2.2.1 k q ((passM_p (by decide) (by decide) (by decide) (by decide) (by decide) (by decide) (by decide) (by decide)).symm.trans z), MCv_w (fun _ => passM_p (by decide) (by decide) (by decide) (by decide) (by decide) (by decide) (by decide) (by decide)) (fun _ => passM_p (by decide) (by decide) (by decide) (by decide) (by decide) (by decide) (by decide) (by decide)) h.2.2.2.2.1, h.2.2.2.2.2.1, fun d hd => ⟨hat d hd, fun z => (h.2.2.2.2.2.2.1 d hd).2 ((passM_p (by decide) (by decide) (by decide) (by decide) (by decide) (by decide) (by decide) (by decide)).symm.trans z)⟩, h.2.2.2.2.2.2.2⟩
/-- lock by lock to a reach -/
def sailM (nr f : Nat) (t : List Nat) (dst : Nat) : Nat → Ms → Nat → Int32 → Ms × Int32
  | 0, m, _, acc => (m, acc)
  | k + 1, m, r, acc => if r = dst then (m, acc) else if r < dst then (if (passM m nr r true f t).2 = 0 then ((passM m nr r true f t).1, 0) else sailM nr f t dst k (passM m nr r true f t).1 (r + 1) (acc + (passM m nr r true f t).2)) else (if (passM m nr (r - 1) false f t).2 = 0 then ((passM m nr (r - 1) false f t).1, 0) else sailM nr f t dst k (passM m nr (r - 1) false f t).1 (r - 1) (acc + (passM m nr (r - 1) false f t).2))
theorem nI_leT {a b : Nat} (h : a ≤ b) (hb : b < 2 ^ 30) : nI a ≤ nI b := by
  rw [Int32.le_iff_toInt_le, nI_toInt (by omega), nI_toInt (by omega)]
  omega
theorem SlOK.keep {m : Ms} {nr r b : Nat} {rl : List Nat} {f : Nat} {t : List Nat} (h : SlOK m nr r b rl f t) : SlOK (keepsM m) nr r b rl f t :=
  ⟨h.1, h.2.1, h.2.2.1, h.2.2.2.1, MCv_w (m := m) (fun _ => rfl) (fun _ => rfl) h.2.2.2.2.1, h.2.2.2.2.2.1, h.2.2.2.2.2.2.1, h.2.2.2.2.2.2.2⟩
def canS (m : Ms) (nr f : Nat) (t : List Nat) (r dst : Nat) : Ms := backM (sailM nr f t dst 6 (keepsM m) r 0).1
def canV (m : Ms) (nr f : Nat) (t : List Nat) (r dst : Nat) : Int32 := if (sailM nr f t dst 6 (keepsM m) r 0).2 ≤ 0 then 0 else 1
end

/-! 31.m13 -/
section
variable {l : Launch} {G : az_G} {ρ : Rp} {x : Xs} {m : Ms} {ou : Nat → Int64}
def allM (m : Ms) : Int32 := ((((0 + m.1 10 0) + m.1 10 1) + m.1 10 2) + m.1 10 3) + m.1 10 4
theorem sailM_ind (P : Ms → Prop) {nr f : Nat} {t : List Nat} {dst : Nat} (hE : ∀ m k, P m → P (emptiesM m nr k)) (hF : ∀ m k, P m → P (fillsM m k)) (hM : ∀ v m q, P m → P (movesM v m q)) (hR : ∀ m u v, P m → P (refM m u v)) : ∀ (k : Nat) (m : Ms) (r : Nat) (acc : Int32), P m → P (sailM nr f t dst k m r acc).1
  | 0, _, _, _, h => h
  | k + 1, m, r, acc, h => by
    rw [sailM]
    split
    · exact h
    · split
      · have hp := passM_ind P (nr := nr) (lk := r) (dn := true) (f := f) (t := t) (fun m => hE m r) (fun m => hF m r) hM hR h
        split
        · exact hp
        · exact sailM_ind P hE hF hM hR k _ _ _ hp
      · have hp := passM_ind P (nr := nr) (lk := r - 1) (dn := false) (f := f) (t := t) (fun m => hE m (r - 1)) (fun m => hF m (r - 1)) hM hR h
        split
        · exact hp
        · exact sailM_ind P hE hF hM hR k _ _ _ hp
theorem sailM_p {m : Ms} {nr p j f r dst k : Nat} {acc : Int32} {t : List Nat} (h0 : p ≠ 0) (h4 : p ≠ 4) (h10 : p ≠ 10) (h11 : p ≠ 11) (h13 : p ≠ 13) (h1 : p ≠ 25) (h2 : p ≠ 26) (h3 : p ≠ 27) : (sailM nr f t dst k m r acc).1.1 p j = m.1 p j :=
  sailM_ind (fun m' => m'.1 p j = m.1 p j) (fun m' k h => (emptiesM_p h0 h4 h10 h11 h1 h2 h3).trans h) (fun m' k h => (fillsM_p h0 h4 h11 h1 h2 h3).trans h) (fun v m' q h => (movesM_p h13 _ _).trans h) (fun m' u v h => (refM_p h0).trans h) k m r acc rfl
theorem sailM_0 {m : Ms} {nr j f r dst k : Nat} {acc : Int32} {t : List Nat} (h : j ≠ 24) (h22 : j ≠ 22) (h28 : j ≠ 28) (h29 : j ≠ 29) : (sailM nr f t dst k m r acc).1.1 0 j = m.1 0 j :=
  sailM_ind (fun m' => m'.1 0 j = m.1 0 j) (fun m' k z => (emptiesM_0 h h22).trans z) (fun m' k z => (fillsM_0 h).trans z) (fun v m' q z => (movesM_p (by decide) _ _).trans z) (fun m' u v z => (refM_0 h28 h29).trans z) k m r acc rfl
theorem backM_p {m : Ms} {p j : Nat} (h0 : p ≠ 0) (h4 : p ≠ 4) (h10 : p ≠ 10) (h11 : p ≠ 11) (h13 : p ≠ 13) : (backM m).1 p j = m.1 p j := by
  simp only [backM, mI]
  simp only [up2_p h0, up2_p h4, up2_p h10, up2_p h11, up2_p h13]
theorem keepsM_p {m : Ms} {p j : Nat} (h0 : p ≠ 0) (h4 : p ≠ 32) (h10 : p ≠ 33) (h11 : p ≠ 34) (h13 : p ≠ 35) : (keepsM m).1 p j = m.1 p j := by
  simp only [keepsM, mI]
  simp only [up2_p h0, up2_p h4, up2_p h10, up2_p h11, up2_p h13]
theorem canS_p {m : Ms} {nr p j f r dst : Nat} {t : List Nat} (h0 : p ≠ 0) (h4 : p ≠ 4) (h10 : p ≠ 10) (h11 : p ≠ 11) (h13 : p ≠ 13) (h1 : p ≠ 25) (h2 : p ≠ 26) (h3 : p ≠ 27) (g1 : p ≠ 32) (g2 : p ≠ 33) (g3 : p ≠ 34) (g4 : p ≠ 35) : (canS m nr f t r dst).1 p j = m.1 p j :=
  (backM_p h0 h4 h10 h11 h13).trans ((sailM_p h0 h4 h10 h11 h13 h1 h2 h3).trans (keepsM_p h0 g1 g2 g3 g4))
theorem lt8 {j : Nat} (h : j < 8) : j = 0 ∨ j = 1 ∨ j = 2 ∨ j = 3 ∨ j = 4 ∨ j = 5 ∨ j = 6 ∨ j = 7 := by omega
theorem canS_13 {m : Ms} {nr j f r dst : Nat} {t : List Nat} (h : j < 8) : (canS m nr f t r dst).1 13 j = m.1 13 j := by
  have e : (canS m nr f t r dst).1 13 j = (sailM nr f t dst 6 (keepsM m) r 0).1.1 34 j := by
    rcases lt8 h with rfl | rfl | rfl | rfl | rfl | rfl | rfl | rfl <;> rfl
  rw [e, sailM_p (by decide) (by decide) (by decide) (by decide) (by decide) (by decide) (by decide) (by decide)]
  rcases lt8 h with rfl | rfl | rfl | rfl | rfl | rfl | rfl | rfl <;> rfl
theorem canS_4 {m : Ms} {nr j f r dst : Nat} {t : List Nat} (h : j < 6) : (canS m nr f t r dst).1 4 j = m.1 4 j := by
  have e : (canS m nr f t r dst).1 4 j = (sailM nr f t dst 6 (keepsM m) r 0).1.1 32 j := by
    rcases lt8 (show j < 8 by omega) with rfl | rfl | rfl | rfl | rfl | rfl | rfl | rfl <;> first | rfl | exact absurd h (by decide)
  rw [e, sailM_p (by decide) (by decide) (by decide) (by decide) (by decide) (by decide) (by decide) (by decide)]
  rcases lt8 (show j < 8 by omega) with rfl | rfl | rfl | rfl | rfl | rfl | rfl | rfl <;> first | rfl | exact absurd h (by decide)
theorem canS_10 {m : Ms} {nr j f r dst : Nat} {t : List Nat} (h : j < 5) : (canS m nr f t r dst).1 10 j = m.1 10 j := by
  have e : (canS m nr f t r dst).1 10 j = (sailM nr f t dst 6 (keepsM m) r 0).1.1 33 j := by
    rcases lt8 (show j < 8 by omega) with rfl | rfl | rfl | rfl | rfl | rfl | rfl | rfl <;> first | rfl | exact absurd h (by decide)
  rw [e, sailM_p (by decide) (by decide) (by decide) (by decide) (by decide) (by decide) (by decide) (by decide)]
  rcases lt8 (show j < 8 by omega) with rfl | rfl | rfl | rfl | rfl | rfl | rfl | rfl <;> first | rfl | exact absurd h (by decide)
theorem canS_11 {m : Ms} {nr j f r dst : Nat} {t : List Nat} (h : j < 5) : (canS m nr f t r dst).1 11 j = vp_nar .boolean (vp_nar .boolean (m.1 11 j)) := by
  have e : (canS m nr f t r dst).1 11 j = vp_nar .boolean ((sailM nr f t dst 6 (keepsM m) r 0).1.1 35 j) := by
    rcases lt8 (show j < 8 by omega) with rfl | rfl | rfl | rfl | rfl | rfl | rfl | rfl <;> first | rfl | exact absurd h (by decide)
  rw [e, sailM_p (by decide) (by decide) (by decide) (by decide) (by decide) (by decide) (by decide) (by decide)]
  rcases lt8 (show j < 8 by omega) with rfl | rfl | rfl | rfl | rfl | rfl | rfl | rfl <;> first | rfl | exact absurd h (by decide)
theorem canS_24 {m : Ms} {nr f r dst : Nat} {t : List Nat} : (canS m nr f t r dst).1 0 24 = m.1 0 24 := by
  have e : (canS m nr f t r dst).1 0 24 = (sailM nr f t dst 6 (keepsM m) r 0).1.1 0 37 := rfl
  rw [e, sailM_0 (by decide) (by decide) (by decide) (by decide)]; rfl
theorem canS_22 {m : Ms} {nr f r dst : Nat} {t : List Nat} : (canS m nr f t r dst).1 0 22 = m.1 0 22 := by
  have e : (canS m nr f t r dst).1 0 22 = (sailM nr f t dst 6 (keepsM m) r 0).1.1 0 36 := rfl
  rw [e, sailM_0 (by decide) (by decide) (by decide) (by decide)]; rfl
theorem canS_0 {m : Ms} {nr j f r dst : Nat} {t : List Nat} (h : j ≠ 24) (h22 : j ≠ 22) (h28 : j ≠ 28) (h29 : j ≠ 29) (h36 : j ≠ 36) (h37 : j ≠ 37) : (canS m nr f t r dst).1 0 j = m.1 0 j := by
  have e : (canS m nr f t r dst).1 0 j = (sailM nr f t dst 6 (keepsM m) r 0).1.1 0 j := by
    simp only [canS, backM, mI]
    rw [up2_k h, up2_k h22]
    simp only [up2_p (show (0 : Nat) ≠ 13 by decide), up2_p (show (0 : Nat) ≠ 11 by decide), up2_p (show (0 : Nat) ≠ 10 by decide), up2_p (show (0 : Nat) ≠ 4 by decide)]
  rw [e, sailM_0 h h22 h28 h29]
  simp only [keepsM, mI]
  rw [up2_k h37, up2_k h36]
  simp only [up2_p (show (0 : Nat) ≠ 32 by decide), up2_p (show (0 : Nat) ≠ 33 by decide), up2_p (show (0 : Nat) ≠ 34 by decide), up2_p (show (0 : Nat) ≠ 35 by decide)]
end

/-! 32.m14 -/
section
variable {l : Launch} {G : az_G} {ρ : Rp} {x : Xs} {m : Ms} {ou : Nat → Int64}
theorem MSuf_lt {m : Ms} : ∀ {z : List Nat}, MSuf m z → ∀ d ∈ z, d < 8
  | [], _, _, h => by cases h
  | b :: z, h, d, hd => by
    rcases List.mem_cons.mp hd with rfl | hd
    · exact h.1
    · exact MSuf_lt h.2.2 d hd
def canR (m : Ms) (nr f : Nat) (t : List Nat) (r dst : Nat) : Ms × Int32 := if r = dst then (m, 1) else (canS m nr f t r dst, canV m nr f t r dst)
theorem SlOK.can {m : Ms} {nr r b : Nat} {rl : List Nat} {f : Nat} {t : List Nat} {dst : Nat} (h : SlOK m nr r b rl f t) : SlOK (canR m nr f t r dst).1 nr r b rl f t := by
  unfold canR; split
  · exact h
  · have q : ∀ p j : Nat, (p = 3 ∨ p = 16 ∨ p = 18 ∨ p = 19) → (canS m nr f t r dst).1 p j = m.1 p j := fun p j hp => by
      rcases hp with rfl | rfl | rfl | rfl <;> exact canS_p (by decide) (by decide) (by decide) (by decide) (by decide) (by decide) (by decide) (by decide) (by decide) (by decide) (by decide) (by decide)
    refine ⟨(canS_0 (by decide) (by decide) (by decide) (by decide) (by decide) (by decide)).trans h.1, h.2.1, h.2.2.1, fun k hk z => h.2.2.2.1 k hk ((q 3 k (by decide)).symm.trans z), MCv_w (fun j => q 18 j (by decide)) (fun j => q 19 j (by decide)) h.2.2.2.2.1, h.2.2.2.2.2.1, ?_, h.2.2.2.2.2.2.2⟩
    intro d hd
    have h8 := MSuf_lt h.2.2.2.2.1.2.2 d hd
    exact ⟨(canS_13 h8).trans (h.2.2.2.2.2.2.1 d hd).1, fun z => (h.2.2.2.2.2.2.1 d hd).2 ((q 16 d (by decide)).symm.trans z)⟩
theorem canR_ok {m : Ms} {nr f r dst z : Nat} {t : List Nat} (h : mvok m z) : mvok (canR m nr f t r dst).1 z := by
  unfold canR; split
  · exact h
  · exact h.eq canS_24
theorem canR_12 {m : Ms} {nr f r dst : Nat} {t : List Nat} : (canR m nr f t r dst).1.1 0 12 = m.1 0 12 := by
  unfold canR; split
  · rfl
  · exact canS_0 (by decide) (by decide) (by decide) (by decide) (by decide) (by decide)
/-- the word for a reach or none -/
def bw : Option Nat → Int32
  | none => -1
  | some j => nI j
def betM (m : Ms) (b : Nat) (o : Option Nat) (k : Nat) : Prop := ∀ j, o = some j → ¬ m.1 17 b * m.1 6 k ≤ m.1 17 b * m.1 6 j
def bestL (nr f : Nat) (t : List Nat) (r b : Nat) : Nat → Ms → Option Nat → Nat → Ms × Option Nat
  | 0, m, o, _ => (m, o)
  | n + 1, m, none, k => bestL nr f t r b n (canR m nr f t r k).1 (if (canR m nr f t r k).2 = 0 then none else some k) (k + 1)
  | n + 1, m, some j, k => if m.1 17 b * m.1 6 k ≤ m.1 17 b * m.1 6 j then bestL nr f t r b n m (some j) (k + 1) else bestL nr f t r b n (canR m nr f t r k).1 (if (canR m nr f t r k).2 = 0 then some j else some k) (k + 1)
end

/-! the start -/
/-- the reference as it starts -/
def m0X : Ms := (fun p => match p with
  | 0 => fun k => match k with
    | 1 => 1
    | 21 => 600
    | 24 => 1
    | _ => 0
  | 3 => ((upd (upd (upd (upd (upd (upd (fun _ => 0) 0 20) 1 0) 2 0) 3 0) 4 0) 5 0))
  | 4 => ((upd (upd (upd (upd (upd (upd (fun _ => 0) 0 600) 1 0) 2 0) 3 0) 4 0) 5 0))
  | 5 => ((upd (upd (upd (upd (upd (upd (fun _ => 0) 0 30) 1 0) 2 0) 3 0) 4 0) 5 0))
  | 6 => ((upd (upd (upd (upd (upd (upd (fun _ => 0) 0 100) 1 0) 2 0) 3 0) 4 0) 5 0))
  | 25 => upd (fun _ => 0) 0 (-1)
  | 27 => upd (fun _ => 0) 0 600
  | _ => fun _ => 0, 10000)
