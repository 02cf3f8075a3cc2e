/-! THE BALANCE: what lies at each place is what the rows of movements say; all places together hold nothing; each row is a movement of some water, none out of the sea or the air, none into the sky. -/
section
variable {x x' : Xs} {m9 : Mz} {n nr : Nat}
abbrev z0 : Mz := (fun _ _ => 0, fun _ => false)
/-- what the rows say of the place v -/
def bs (x : Xs) (v : Int32) : Nat → Int32
  | 0 => 0
  | j + 1 => XbalFa v z0 x (bs x v j) j
theorem bs_F {v : Int32} : ∀ (f k : Nat), XbalF v f m9 x (bs x v k) k = bs x v (k + f)
  | 0, _ => rfl
  | f + 1, k => by
    show XbalF v f m9 x (XbalFa v m9 x (bs x v k) k) (k + 1) = _
    rw [show XbalFa v m9 x (bs x v k) k = bs x v (k + 1) from rfl, bs_F f (k + 1), show k + 1 + f = k + (f + 1) from by omega]
theorem balX_bs {v : Int32} : balX x m9 n v = bs x v n := by
  have h := bs_F (m9 := m9) (x := x) (v := v) n 0
  rw [Nat.zero_add] at h
  exact h
theorem bs_eq {v : Int32} (h : ∀ j, j < n → x'.1 20 j = x.1 20 j ∧ x'.1 21 j = x.1 21 j ∧ x'.1 22 j = x.1 22 j) : ∀ j, j ≤ n → bs x' v j = bs x v j
  | 0, _ => rfl
  | j + 1, hj => by
    obtain ⟨e1, e2, e3⟩ := h j (by omega)
    show XbalFa v _ x' (bs x' v j) j = XbalFa v _ x (bs x v j) j
    rw [bs_eq h j (by omega)]
    unfold XbalFa
    rw [e1, e2, e3]
def sm (f : Nat → Int32) : Nat → Int32
  | 0 => 0
  | j + 1 => sm f j + f j
theorem smq {f g : Nat → Int32} {N : Nat} (h : ∀ j, j < N → f j = g j) : ∀ j, j ≤ N → sm f j = sm g j
  | 0, _ => rfl
  | j + 1, hj => by
    show sm f j + f j = sm g j + g j
    rw [smq h j (by omega), h j (by omega)]
theorem sm_up {f : Nat → Int32} {a : Nat} {v : Int32} : ∀ N, sm (fun k => if k = a then v else f k) N = if a < N then sm f N - f a + v else sm f N
  | 0 => rfl
  | N + 1 => by
    show sm (fun k => if k = a then v else f k) N + (if N = a then v else f N) = _
    rw [sm_up N]
    rcases Nat.lt_trichotomy a N with h | h | h
    · rw [if_pos h, if_neg (by omega), if_pos (by omega)]
      show _ = sm f N + f N - f a + v
      grind
    · subst h
      rw [if_neg (by omega), if_pos rfl, if_pos (by omega)]
      show _ = sm f a + f a - f a + v
      grind
    · rw [if_neg (by omega), if_neg (by omega), if_neg (by omega)]
      rfl
/-- the code of the place p -/
def pv (p : Nat) : Int32 := nI p + (-3)
theorem pv_of {u : Int32} {a : Nat} (h : u - (-3) = nI a) : u = pv a := by
  unfold pv
  rw [← h]
  grind
theorem pv_inj : ∀ p, p < 18 → ∀ a, a < 18 → pv p = pv a → p = a := by decide +kernel
theorem pv_src : ∀ a, a < 18 → 2 ≤ a → pv a ≠ -2 ∧ pv a ≠ -3 := by decide +kernel
theorem pv_dst : ∀ a, a < 18 → a ≠ 2 → pv a ≠ -1 := by decide +kernel
theorem pv_k (k : Nat) : nI k = pv (k + 3) := pv_of (nI_m3 k)
theorem pv_c (k : Nat) : 10 + nI k = pv (k + 13) := pv_of (nI_c k)
def RowOK (x : Xs) (j : Nat) : Prop := 0 < x.1 22 j ∧ x.1 20 j ≠ -2 ∧ x.1 20 j ≠ -3 ∧ x.1 21 j ≠ -1
def Bal (x : Xs) (n : Nat) : Prop := (∀ p, p < 18 → x.1 4 p = bs x (pv p) n) ∧ sm (x.1 4) 18 = 0 ∧ ∀ j, j < n → RowOK x j
theorem Bal.eq (B : Bal x n) (h4 : ∀ p, p < 18 → x'.1 4 p = x.1 4 p) (hr : ∀ j, j < n → x'.1 20 j = x.1 20 j ∧ x'.1 21 j = x.1 21 j ∧ x'.1 22 j = x.1 22 j) : Bal x' n := by
  refine ⟨fun p hp => ?_, ?_, fun j hj => ?_⟩
  · rw [h4 p hp, bs_eq hr n (Nat.le_refl n)]; exact B.1 p hp
  · rw [smq h4 18 (Nat.le_refl 18)]; exact B.2.1
  · obtain ⟨e1, e2, e3⟩ := hr j hj
    unfold RowOK
    rw [e1, e2, e3]
    exact B.2.2 j hj
theorem Bal.eqp (B : Bal x n) (h : ∀ p, p = 4 ∨ p = 20 ∨ p = 21 ∨ p = 22 → ∀ j, x'.1 p j = x.1 p j) : Bal x' n := B.eq (fun p _ => h 4 (by simp) p) (fun j _ => ⟨h 20 (by simp) j, h 21 (by simp) j, h 22 (by simp) j⟩)
theorem sdX_rw {a b j : Nat} {u v w : Int32} : (sdX x n u a v b w).1 20 j = (if j = n then u else x.1 20 j) ∧ (sdX x n u a v b w).1 21 j = (if j = n then v else x.1 21 j) ∧ (sdX x n u a v b w).1 22 j = (if j = n then w else x.1 22 j) := by
  refine ⟨?_, ?_, ?_⟩ <;> simp [sdX, addX, up2]
theorem Bal_sd (B : Bal x n) {u v w : Int32} {a b : Nat} (hu : u = pv a) (hv : v = pv b) (ha : a < 18) (hb : b < 18) (hab : b ≠ a) (hw : 0 < w) (hu2 : 2 ≤ a) (hv2 : b ≠ 2) : Bal (sdX x n u a v b w) (n + 1) := by
  have hrow : ∀ j, j < n → (sdX x n u a v b w).1 20 j = x.1 20 j ∧ (sdX x n u a v b w).1 21 j = x.1 21 j ∧ (sdX x n u a v b w).1 22 j = x.1 22 j := fun j hj => by
    obtain ⟨e1, e2, e3⟩ := sdX_rw (x := x) (n := n) (a := a) (b := b) (j := j) (u := u) (v := v) (w := w)
    rw [e1, e2, e3, if_neg (by omega), if_neg (by omega), if_neg (by omega)]
    exact ⟨rfl, rfl, rfl⟩
  obtain ⟨f1, f2, f3⟩ := sdX_rw (x := x) (n := n) (a := a) (b := b) (j := n) (u := u) (v := v) (w := w)
  rw [if_pos rfl] at f1 f2 f3
  refine ⟨fun p hp => ?_, ?_, fun j hj => ?_⟩
  · show _ = XbalFa (pv p) _ (sdX x n u a v b w) (bs (sdX x n u a v b w) (pv p) n) n
    rw [sdX_4 hab, bs_eq hrow n (Nat.le_refl n)]
    unfold XbalFa
    rw [f1, f2, f3, ← B.1 p hp]
    by_cases h1 : p = b
    · have c1 : ¬ u = pv p := fun z => hab (h1.symm.trans (pv_inj p hp a ha (z.symm.trans hu)))
      have c2 : v = pv p := by rw [hv, h1]
      rw [if_pos h1, if_pos c1, if_neg (fun z => z c2), h1]
    · have c2 : ¬ v = pv p := fun z => h1 (pv_inj p hp b hb (z.symm.trans hv))
      rw [if_neg h1]
      by_cases h2 : p = a
      · have c1 : u = pv p := by rw [hu, h2]
        rw [if_pos h2, if_neg (fun z => z c1), if_pos c2, h2]
      · have c1 : ¬ u = pv p := fun z => h2 (pv_inj p hp a ha (z.symm.trans hu))
        rw [if_neg h2, if_pos c1, if_pos c2]
  · have e : sm ((sdX x n u a v b w).1 4) 18 = sm (fun p => if p = b then x.1 4 b + w else (fun q => if q = a then x.1 4 a - w else x.1 4 q) p) 18 := smq (N := 18) (fun j _ => sdX_4 hab) 18 (Nat.le_refl 18)
    rw [e, sm_up, if_pos hb, sm_up, if_pos ha]
    show sm (x.1 4) 18 - x.1 4 a + (x.1 4 a - w) - (if b = a then x.1 4 a - w else x.1 4 b) + (x.1 4 b + w) = 0
    rw [if_neg hab, B.2.1]
    grind
  · by_cases h : j = n
    · subst h
      unfold RowOK
      rw [f1, f2, f3, hu, hv]
      exact ⟨hw, (pv_src a ha hu2).1, (pv_src a ha hu2).2, pv_dst b hb hv2⟩
    · obtain ⟨e1, e2, e3⟩ := hrow j (by omega)
      unfold RowOK
      rw [e1, e2, e3]
      exact B.2.2 j (by omega)
theorem Bal_send {nr : Nat} : ∀ (f : Nat) (x : Xs) (n : Nat) (u : Int32) (a k : Nat) (w : Int32), Bal x n → u = pv a → a < 18 → 2 ≤ a → a ≠ k + 3 → k + f ≤ 6 → Bal (sendR nr f x n u a k w).1 (sendR nr f x n u a k w).2
  | 0, _, _, _, _, _, _, B, _, _, _, _, _ => B
  | f + 1, x, n, u, a, k, w, B, hu, ha, ha2, hak, hk => by
    show Bal (if w ≤ 0 then (x, n) else _).1 (if w ≤ 0 then (x, n) else _).2
    by_cases hw : w ≤ 0
    · rw [if_pos hw]; exact B
    · rw [if_neg hw]
      have B1 := Bal_sd B hu (pv_k k) ha (by omega) (fun z => hak z.symm) (Int32.not_le.mp hw) ha2 (by omega)
      by_cases h1 : k + 1 < nr
      · rw [if_pos h1]
        exact Bal_send f _ _ _ _ _ _ B1 (pv_k k) (by omega) (by omega) (by omega) (by omega)
      · rw [if_neg h1]
        by_cases h2 : (sdX x n u a (nI k) (k + 3) w).1 4 (k + 3) - 60 * (sdX x n u a (nI k) (k + 3) w).1 2 k ≤ 0
        · rw [if_pos h2]; exact B1
        · rw [if_neg h2]
          exact Bal_sd B1 (pv_k k) (show (-2 : Int32) = pv 1 by decide +kernel) (by omega) (by omega) (by omega) (Int32.not_le.mp h2) (by omega) (by omega)
theorem Bal_O (B : Bal x n) {u v w : Int32} {a b : Nat} (hu : u = pv a) (hv : v = pv b) (ha : a < 18) (hb : b < 18) (hab : b ≠ a) (hu2 : 2 ≤ a) (hv2 : b ≠ 2) : Bal (sendO x n u a v b w).1 (sendO x n u a v b w).2 := by
  unfold sendO
  by_cases hw : w ≤ 0
  · rw [if_pos hw]; exact B
  · rw [if_neg hw]; exact Bal_sd B hu hv ha hb hab (Int32.not_le.mp hw) hu2 hv2
theorem Bal_rain (B : Bal x n) {k : Nat} {u : Int32} (hk : k < nr) (h6 : nr ≤ 6) : Bal (rainX x n nr k u).1 (rainX x n nr k u).2 := Bal_send _ _ _ _ _ _ _ B (show (-1 : Int32) = pv 2 by decide +kernel) (by omega) (by omega) (by omega) (by omega)
theorem Bal_empty (B : Bal x n) {k : Nat} (hk : k + 1 < nr) (h6 : nr ≤ 6) : Bal (emptyX x n nr k).1 (emptyX x n nr k).2 :=
  Bal_send _ _ _ _ _ _ _ (B.eqp (x' := xI x 5 k (x.1 5 k + x.1 3 k)) (fun p hp j => xI_p (by omega))) (pv_c k) (by omega) (by omega) (by omega) (by omega)
theorem Bal_fill (B : Bal x n) {k : Nat} (hk : k < 5) : Bal (fillX x n k).1 (fillX x n k).2 := Bal_O B (pv_k k) (pv_c k) (by omega) (by omega) (by omega) (by omega) (by omega)
theorem Bal_ew : ∀ (f : Nat) (x : Xs) (n k : Nat), Bal x n → k + f ≤ 6 → Bal (ewS f x n k).1 (ewS f x n k).2
  | 0, _, _, _, B, _ => B
  | f + 1, x, n, k, B, hk => Bal_ew f _ _ _ (Bal_O B (pv_k k) (show (-3 : Int32) = pv 0 by decide +kernel) (by omega) (by omega) (by omega) (by omega) (by omega)) (by omega)
theorem Bal_week (B : Bal x n) (h6 : nr ≤ 6) : Bal (endWeekX x m9 n nr) (ewS nr x n 0).2 :=
  (Bal_ew nr x n 0 B (by omega)).eqp (fun p hp j => by
    unfold endWeekX ewX
    rw [xI_p (by omega), Xew2_p9 (by omega)])
theorem Bal_open (B : Bal x n) {a1 a2 a3 a4 a5 : Int32} (h6 : nr < 6) : Bal (addReachX x n nr a1 a2 a3 a4 a5).1 (addReachX x n nr a1 a2 a3 a4 a5).2 := by
  have B1 : Bal (bedX (xI (xI (xI x 3 (nr - 1) a3) 9 (nr - 1) a4) 10 (nr - 1) a5) nr a1) n := B.eqp (fun p hp j => by
    unfold bedX
    rw [xI_p (by omega), xI_p (by omega), xI_p (by omega), xI_p (by omega), xI_p (by omega)])
  have B2 := Bal_send (nr := nr + 1) (nr + 1 - nr) _ n (-1) 2 nr (a1 * a2) B1 (show (-1 : Int32) = pv 2 by decide +kernel) (by omega) (by omega) (by omega) (by omega)
  exact B2.eqp (fun p hp j => by
    unfold addReachX openX
    rw [xI_p (by omega), xI_p (by omega)])
section
variable {lk : Nat} {dn : Bool}
theorem Bal_A (B : Bal x n) (hk : lk + 1 < nr) (h6 : nr ≤ 6) : Bal (tpA x n nr lk dn).1 (tpA x n nr lk dn).2 := by
  unfold tpA; split
  · exact Bal_empty B hk h6
  · exact B
theorem Bal_B (B : Bal x n) (hk : lk < 5) : Bal (tpB x n lk).1 (tpB x n lk).2 := by
  unfold tpB; split
  · exact Bal_fill B hk
  · exact B
theorem Bal_C (B : Bal x n) (hk : lk + 1 < nr) (h6 : nr ≤ 6) : Bal (tpC x n nr lk dn).1 (tpC x n nr lk dn).2 := by
  unfold tpC; split
  · exact Bal_empty B hk h6
  · exact B
theorem Bal_tp (hk : lk + 1 < nr) (h6 : nr ≤ 6) : ∀ (f : Nat) (x : Xs) (n : Nat) (q : List Nat), Bal x n → Bal (tpX nr lk dn f x n q).1.1 (tpX nr lk dn f x n q).1.2
  | 0, _, _, _, B => B
  | _ + 1, _, _, [], B => B
  | f + 1, x, n, b :: r, B => by
    have BA := Bal_A (dn := dn) B hk h6
    have BC := Bal_C (dn := dn) (Bal_B (lk := lk) BA (by omega)) hk h6
    rw [tpX]
    split
    · exact B
    · split
      · exact BA
      · split
        · exact BC
        · exact Bal_tp hk h6 f _ _ _ BC
theorem Bal_P {f : Nat} {t : List Nat} (B : Bal x n) (hk : lk + 1 < nr) (h6 : nr ≤ 6) : Bal (tryP x n nr lk dn f t).1.1 (tryP x n nr lk dn f t).1.2 := by
  unfold tryP
  split
  · split
    · exact Bal_tp hk h6 _ _ _ _ B
    · exact B
  · exact B
end
theorem Bal_D {f : Nat} {t : List Nat} (h6 : nr ≤ 6) : ∀ (k : Nat) (x : Xs) (n r : Nat), Bal x n → r + k < nr → Bal (tvD nr f t k x n r).1.1 (tvD nr f t k x n r).1.2
  | 0, _, _, _, B, _ => B
  | k + 1, x, n, r, B, h => by
    have B1 := Bal_P (dn := true) (f := f) (t := t) (lk := r) B (by omega) h6
    rw [tvD]
    split
    · exact Bal_D h6 k _ _ _ B1 (by omega)
    · exact B1.eqp (fun p hp j => by rw [xI_p (by omega), xI_p (by omega)])
theorem Bal_U {f : Nat} {t : List Nat} (h6 : nr ≤ 6) : ∀ (k : Nat) (x : Xs) (n r : Nat), Bal x n → k ≤ r → r < nr → Bal (tvU nr f t k x n r).1.1 (tvU nr f t k x n r).1.2
  | 0, _, _, _, B, _, _ => B
  | k + 1, x, n, r, B, h, h2 => by
    have B1 := Bal_P (dn := false) (f := f) (t := t) (lk := r - 1) B (by omega) h6
    rw [tvU]
    split
    · exact Bal_U h6 k _ _ _ B1 (by omega) (by omega)
    · exact B1.eqp (fun p hp j => by rw [xI_p (by omega), xI_p (by omega)])
theorem Bal_save (B : Bal x n) : Bal (saveX x) n := B.eqp (fun p hp j => sav_p (by omega) (by omega) (by omega))
theorem Bal_V {f r dst : Nat} {t : List Nat} (B : Bal x n) (h6 : nr ≤ 6) (hr : r < nr) (hd : dst < nr) : Bal (tvX x n nr f t r dst).1.1 (tvX x n nr f t r dst).1.2 := by
  unfold tvX
  split
  · exact Bal_D h6 _ _ _ _ B (by omega)
  · exact Bal_U h6 _ _ _ _ B (by omega) (by omega)
theorem Bal_cr {f r dst : Nat} {t : List Nat} (B : Bal x n) (hr : r < nr) (hd : dst < nr) : Bal (crX x n nr f t r dst) n := B.eq (fun p hp => crX_4 hp) (RU_cr hr hd)
theorem Bal_start : Bal x1X.1 1 := by
  refine ⟨?_, ?_, ?_⟩
  · decide +kernel
  · decide +kernel
  · intro j hj
    obtain rfl : j = 0 := by omega
    exact ⟨by decide +kernel, by decide +kernel, by decide +kernel, by decide +kernel⟩
end
