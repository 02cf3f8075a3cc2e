section
variable {l : Launch} {G : az_G} {ρ : Rp} {x x' : Xs} {m m' m9 : Ms} {ou : Nat → Int64}
theorem b_6 {a nr : Nat} (h4 : a < 4) (h6 : nr ≤ 6) : 6 * ((a + 1) * (nr + 2)) ≤ 200 := by
  have := Nat.mul_le_mul (show a + 1 ≤ 4 by omega) (show nr + 2 ≤ 8 by omega)
  omega
theorem b_7 {a nr : Nat} (h4 : a < 4) (h6 : nr ≤ 6) : 6 * ((a + 1) * (2 * nr + 1)) ≤ 400 := by
  have := Nat.mul_le_mul (show a + 1 ≤ 4 by omega) (show 2 * nr + 1 ≤ 13 by omega)
  omega
theorem b_8 {a nr : Nat} (h4 : a < 4) (h6 : nr ≤ 6) : (a + 1) * (2 * nr + 1) ≤ 400 := by
  have := Nat.mul_le_mul (show a + 1 ≤ 4 by omega) (show 2 * nr + 1 ≤ 13 by omega)
  omega
theorem tpA_le {n nr lk : Nat} {dn : Bool} (hk : lk + 1 ≤ nr) : (tpA x n nr lk dn).2 ≤ n + (if dn = false then nr - lk else 0) := by
  unfold tpA; split
  · rename_i h9
    rw [if_pos h9.1]; exact em_le hk
  · exact Nat.le_add_right n _
theorem tpC_le {n nr lk : Nat} {dn : Bool} (hk : lk + 1 ≤ nr) : (tpC x n nr lk dn).2 ≤ n + (if dn = false then 0 else nr - lk) := by
  unfold tpC; split
  · rename_i h9
    rw [if_neg (by rw [h9]; decide)]; exact em_le hk
  · exact Nat.le_add_right n _
theorem tpX_le {nr lk : Nat} {dn : Bool} (hk : lk + 1 ≤ nr) : ∀ (f : Nat) (x : Xs) (n : Nat) (s9 : List Nat), (tpX nr lk dn f x n s9).1.2 ≤ n + f * (nr - lk + 1)
  | 0, _, n, _ => Nat.le_add_right n _
  | f + 1, _, n, [] => Nat.le_add_right n _
  | f + 1, x, n, b :: r => by
    have hm : (f + 1) * (nr - lk + 1) = f * (nr - lk + 1) + (nr - lk + 1) := by rw [Nat.add_mul f 1, Nat.one_mul]
    have gA := tpA_le (x := x) (n := n) (dn := dn) hk
    have gB := tpB_ge (x := (tpA x n nr lk dn).1) (n := (tpA x n nr lk dn).2) (lk := lk)
    have gC := tpC_le (x := (tpB (tpA x n nr lk dn).1 (tpA x n nr lk dn).2 lk).1) (n := (tpB (tpA x n nr lk dn).1 (tpA x n nr lk dn).2 lk).2) (dn := dn) hk
    have hs : (if dn = false then nr - lk else 0) + (if dn = false then 0 else nr - lk) = nr - lk := by cases dn <;> simp
    rw [tpX]
    split
    · exact Nat.le_add_right n _
    · split
      · show (tpA x n nr lk dn).2 ≤ _
        omega
      · split
        · show (tpC _ _ nr lk dn).2 ≤ _
          omega
        · have g := tpX_le (dn := dn) hk f (tpC (tpB (tpA x n nr lk dn).1 (tpA x n nr lk dn).2 lk).1 (tpB (tpA x n nr lk dn).1 (tpA x n nr lk dn).2 lk).2 nr lk dn).1 (tpC (tpB (tpA x n nr lk dn).1 (tpA x n nr lk dn).2 lk).1 (tpB (tpA x n nr lk dn).1 (tpA x n nr lk dn).2 lk).2 nr lk dn).2 (epX x (x.1 9 lk) r (x.2.1 b 1))
          omega
theorem tryP_le {n nr lk f : Nat} {dn : Bool} {t : List Nat} (hk : lk + 1 ≤ nr) : (tryP x n nr lk dn f t).1.2 ≤ n + (t.length + 1) * (nr - lk + 1) := by
  unfold tryP; split
  · split
    · exact tpX_le hk _ _ _ _
    · exact Nat.le_add_right n _
  · exact Nat.le_add_right n _
def sD (nr : Nat) : Nat → Nat → Nat
  | 0, _ => 0
  | k + 1, r => (nr - r + 1) + sD nr k (r + 1)
def sU (nr : Nat) : Nat → Nat → Nat
  | 0, _ => 0
  | k + 1, r => (nr - (r - 1) + 1) + sU nr k (r - 1)
theorem sD_25 : ∀ nr, nr < 7 → ∀ k, k < 7 → ∀ r, r < 7 → r + k < nr → sD nr k r ≤ 25 := by decide +kernel
theorem sU_25 : ∀ nr, nr < 7 → ∀ k, k < 7 → ∀ r, r < 7 → k ≤ r → r < nr → sU nr k r ≤ 25 := by decide +kernel
theorem tvD_le {nr f : Nat} {t : List Nat} : ∀ (k : Nat) (x : Xs) (n r : Nat), r + k < nr → (tvD nr f t k x n r).1.2 ≤ n + (t.length + 1) * sD nr k r
  | 0, _, n, _, _ => Nat.le_add_right n _
  | k + 1, x, n, r, hc => by
    have hm : (t.length + 1) * sD nr (k + 1) r = (t.length + 1) * (nr - r + 1) + (t.length + 1) * sD nr k (r + 1) := by rw [sD, Nat.mul_add]
    have g := tryP_le (x := x) (n := n) (nr := nr) (lk := r) (dn := true) (f := f) (t := t) (by omega)
    rw [tvD]
    split
    · have g2 := tvD_le (nr := nr) (f := f) (t := t) k (tryP x n nr r true f t).1.1 (tryP x n nr r true f t).1.2 (r + 1) (by omega)
      omega
    · show (tryP x n nr r true f t).1.2 ≤ _
      omega
theorem tvU_le {nr f : Nat} {t : List Nat} : ∀ (k : Nat) (x : Xs) (n r : Nat), k ≤ r ∧ r < nr → (tvU nr f t k x n r).1.2 ≤ n + (t.length + 1) * sU nr k r
  | 0, _, n, _, _ => Nat.le_add_right n _
  | k + 1, x, n, r, hc => by
    have hm : (t.length + 1) * sU nr (k + 1) r = (t.length + 1) * (nr - (r - 1) + 1) + (t.length + 1) * sU nr k (r - 1) := by rw [sU, Nat.mul_add]
    have g := tryP_le (x := x) (n := n) (nr := nr) (lk := r - 1) (dn := false) (f := f) (t := t) (by omega)
    rw [tvU]
    split
    · have g2 := tvU_le (nr := nr) (f := f) (t := t) k (tryP x n nr (r - 1) false f t).1.1 (tryP x n nr (r - 1) false f t).1.2 (r - 1) (by omega)
      omega
    · show (tryP x n nr (r - 1) false f t).1.2 ≤ _
      omega
theorem tvX_le {n nr f r dst : Nat} {t : List Nat} (h6 : nr ≤ 6) (hr : r < nr) (hd : dst < nr) (h4 : t.length < 4) : (tvX x n nr f t r dst).1.2 ≤ n + 100 := by
  unfold tvX; split
  · have g := tvD_le (nr := nr) (f := f) (t := t) (dst - r) x n r (by omega)
    have g2 := sD_25 nr (by omega) (dst - r) (by omega) r (by omega) (by omega)
    have g3 := Nat.mul_le_mul (show t.length + 1 ≤ 4 by omega) g2
    omega
  · have g := tvU_le (nr := nr) (f := f) (t := t) (r - dst) x n r (by omega)
    have g2 := sU_25 nr (by omega) (r - dst) (by omega) r (by omega) (by omega) (by omega)
    have g3 := Nat.mul_le_mul (show t.length + 1 ≤ 4 by omega) g2
    omega
theorem NX.voy {c n nr nb N : Nat} {cs : List (List Nat)} (h : NX c ρ x m n nr nb N cs) {k : Nat} (hk : k < nb) : ∃ (rl : List Nat) (f : Nat) (t : List Nat) (r : Nat), XCv ρ.2.2.2.2.2 x k rl f t ∧ SlOK m nr r k rl f t ∧ PvX ρ.2.2.2.2.2 x nr f t ∧ x.2.1 f 4 = nI r ∧ x.2.1 k 4 = nI r ∧ r < nr ∧ t.length < 4 ∧ (f :: t).Nodup ∧ (f :: t) ∈ cs ∧ (∀ d ∈ f :: t, d < nb) ∧ (∀ d ∈ f :: t, m.1 13 d = nI r) ∧ XSuf nb x (f :: t) := by
  obtain ⟨rl, f, t, a1, a2, a3, a4, a5, a6, a7, a8⟩ := h.cv hk
  obtain ⟨r, hr, e1, e2⟩ := h.pl hk
  have ef : x.2.1 f 4 = nI r := (a8 k a5).symm.trans e1
  have em : ∀ d ∈ f :: t, m.1 13 d = nI r := fun d hd => ((h.1.2.2.2.1 d (a7 d hd)).1.symm.trans (a8 d hd)).trans ef
  refine ⟨rl, f, t, r, a1, ⟨h.mr, h.n6, hr, fun k hk => h.ma hk, a2, a3, fun d hd => ⟨em d hd, h.mt (a7 d hd)⟩, a5⟩, ⟨h.xr, h.n6, fun k hk => h.xa hk, a1.2.2, a3, fun d hd => h.xt (a7 d hd)⟩, ef, e1, hr, a4, a3, a6, a7, em, ?_⟩
  rw [h.eb]
  exact a1.2.2
theorem tvS_o {n nr f r dst p j : Nat} {t : List Nat} (hp : p = 9 ∨ p = 11 ∨ p = 12 ∨ p = 14 ∨ p = 23) : (tvX (saveX x) n nr f t r dst).1.1.1 p j = x.1 p j := (tvX_1 (by omega) (by omega) (by omega) (by omega) (by omega) (by omega) (by omega)).trans (sav_p (by omega) (by omega) (by omega))
theorem MvX_s {n t9 : Nat} (h : MvX ρ x n t9) : MvX ρ (saveX x) n t9 := MvX_w h rfl (fun _ => rfl) (fun _ => rfl) (fun _ => rfl)
/-- how many lockings: the sum of the parts -/
theorem car_V {c n nr nb N f r dst lo hi : Nat} {t : List Nat} {cs : List (List Nat)} (h : NX c ρ x m n nr nb N cs) (hq : ∀ d ∈ f :: t, d < nb) (hr : r < nr) (hd : dst < nr) (h1 : (tvX (saveX x) n nr f t r dst).2 = 1) (hl : lo = min r dst) (hh : hi = max r dst) : Xcar1F f t (hi - lo) m9 (tvX (saveX x) n nr f t r dst).1.1 0 lo = nI (smV m f t r dst) := by
  have h6 := h.n6
  have hx : (tvX (saveX x) n nr f t r dst).1.1.2 = x.2 := tvX_x.trans rfl
  have Bt : TieB (tvX (saveX x) n nr f t r dst).1.1 m nb := h.1.2.2.1.xeq (by rw [hx]) (by rw [hx])
  have key : ∀ i, i < hi - lo → (tvX (saveX x) n nr f t r dst).1.1.1 9 (lo + i) = m.1 8 (lo + i) ∧ mxL (tvX (saveX x) n nr f t r dst).1.1 (f :: t) 0 ≤ (tvX (saveX x) n nr f t r dst).1.1.1 9 (lo + i) := fun i hi2 => by
    have e9 : (tvX (saveX x) n nr f t r dst).1.1.1 9 (lo + i) = x.1 9 (lo + i) := tvS_o (by omega)
    refine ⟨e9.trans (h.1.1.1.2.2.2.2.2.2.2.2 (lo + i) (by omega)).2.1, ?_⟩
    rw [e9, mxL_x hx, ← mxL_x (x := x) (x' := saveX x) rfl, ← sav_p (x := x) (p := 9) (j := lo + i) (by decide) (by decide) (by decide)]
    unfold tvX at h1
    by_cases z : r < dst
    · rw [if_pos z] at h1
      have g := tvD_len (dst - r) (saveX x) n r h1 i (by omega)
      rw [show lo = r by omega]
      exact g
    · rw [if_neg z] at h1
      have g := tvU_len (r - dst) (saveX x) n r h1 (by omega) i (by omega)
      rw [show lo = r - (r - dst) by omega]
      exact g
  have e := car_eq (m9 := m9) Bt hq (hi - lo) 0 lo key
  rw [nI_0, Nat.zero_add] at e
  rw [e]
  congr 1
  unfold smV
  by_cases z : r < dst
  · rw [if_pos z, show hi - lo = dst - r by omega, show lo = r by omega]
  · rw [if_neg z, smU_D (r - dst) r (by omega), show hi - lo = r - dst by omega, show lo = r - (r - dst) by omega]
/-- carried out -/
theorem voy_done {c n nr nb N f r dst : Nat} {t : List Nat} {cs : List (List Nat)} (h : NX c ρ x m n nr nb N cs) (hc : c < 512) (hq : ∀ d ∈ f :: t, d < nb) (hr : r < nr) (hd : dst < nr) (hne : ¬ r = dst) (h4 : t.length < 4) (hs : XSuf nb x (f :: t)) (hnd : (f :: t).Nodup) (hcs : (f :: t) ∈ cs) (hat : ∀ d ∈ f :: t, m.1 13 d = nI r) (h1 : (tvX (saveX x) n nr f t r dst).2 = 1) : (sailM nr f t dst 6 (keepsM m) r 0).2 = nI (smV m f t r dst) ∧ 0 < (sailM nr f t dst 6 (keepsM m) r 0).2 ∧ ∀ a : Nat → Nat, Nx (c + 1) (gR ρ a (capT ρ.2.2.2.1 (tvX (saveX x) n nr f t r dst).1.2)) (atX (nI dst) (tvX (saveX x) n nr f t r dst).1.1 (f :: t)) (mI (sailM nr f t dst 6 (keepsM m) r 0).1 0 0 0) := by
  have h6 := h.n6
  have hn2 := h.2.1
  obtain ⟨T, e⟩ := Tie_done h.1 hr hd hne (by omega) hs hnd hcs hat (by omega) h1
  have hb := smV_bd (m := m) (f := f) (t := t) h6 hr hd hne (by omega)
  refine ⟨e, ?_, fun a => ?_⟩
  · rw [e, i_lt, i_0, i_nI (by omega)]
    omega
  · have a1 := atX_1 (v := nI dst) (f :: t) (tvX (saveX x) n nr f t r dst).1.1
    have g := MvX_tv (ρ := ρ) (x := saveX x) (n := n) (f := f) (t := t) (z := 0) (a9 := a) h6 hr hd (MvX_s (h.mv hc (by have := b_6 h4 h6; omega)))
    have hle := tvX_le (x := saveX x) (n := n) (f := f) h6 hr hd h4
    refine (h.gr T (by omega) (MvX_w g (by rw [a1.1]) (fun j => by rw [a1.1]) (fun j => by rw [a1.1]) (fun j => by rw [a1.1])) (fun j => ?_) (fun j => ?_)).f0.nx
    · rw [a1.1]; exact tvS_o (by omega)
    · rw [a1.1]; exact tvS_o (by omega)
theorem crX_g {n nr f r dst : Nat} {t : List Nat} {a : Nat → Nat} (h6 : nr ≤ 6) (hr : r < nr) (hd : dst < nr) (h4 : t.length < 4) (h : MvX ρ x n 200) : MvX (gR ρ a (capT ρ.2.2.2.1 (tvX (saveX x) n nr f t r dst).1.2)) (crX x n nr f t r dst) n 0 := MvX_le (MvX_cr (z := 0) h6 hr hd (MvX_le h (by have := b_6 h4 h6; omega))) (Nat.zero_le _)
/-- refused -/
theorem voy_ref {c n nr nb N f r dst : Nat} {t : List Nat} {cs : List (List Nat)} (h : NX c ρ x m n nr nb N cs) (hc : c < 512) (hq : ∀ d ∈ f :: t, d < nb) (hr : r < nr) (hd : dst < nr) (hne : ¬ r = dst) (h4 : t.length < 4) (h0 : ¬ (tvX (saveX x) n nr f t r dst).2 = 1) : (sailM nr f t dst 6 (keepsM m) r 0).2 = 0 ∧ ∀ a : Nat → Nat, Nx (c + 1) (gR ρ a (capT ρ.2.2.2.1 (tvX (saveX x) n nr f t r dst).1.2)) (carR (tvX (saveX x) n nr f t r dst).1.1) (endsM (sailM nr f t dst 6 (keepsM m) r 0).1 3) := by
  have h6 := h.n6
  have hn2 := h.2.1
  obtain ⟨T, e⟩ := Tie_refused h.1 hr hd hne (by omega) hq (by omega) h0
  refine ⟨e, fun a => ?_⟩
  have g := crX_g (f := f) (a := a) h6 hr hd h4 (h.mv hc (Nat.le_refl 200))
  have xo : ∀ p j, p ≠ 0 → (carR (tvX (saveX x) n nr f t r dst).1.1).1 p j = (crX x n nr f t r dst).1 p j := fun p j hp => by
    unfold carR
    rw [xI_p hp, xI_p hp]
    rfl
  exact (h.gr T (by omega) (MvX_w g (xo 8 3 (by decide)) (fun j => xo 20 j (by decide)) (fun j => xo 21 j (by decide)) (fun j => xo 22 j (by decide))) (fun j => (xo 14 j (by decide)).trans (crX_o (by omega))) (fun j => (xo 23 j (by decide)).trans (crX_o (by omega)))).nx
/-- only tried -/
theorem voy_try {c n nr nb N f r dst : Nat} {t : List Nat} {cs : List (List Nat)} (h : NX c ρ x m n nr nb N cs) (hc : c < 512) (hr : r < nr) (hd : dst < nr) (h4 : t.length < 4) (T : Tie (crX x n nr f t r dst) n m' nr nb N cs) (a : Nat → Nat) {v : Int32} : Nx (c + 1) (gR ρ a (capT ρ.2.2.2.1 (tvX (saveX x) n nr f t r dst).1.2)) (crX x n nr f t r dst) (mI m' 0 0 v) :=
  (h.gr T (by omega) (crX_g (f := f) (a := a) h.n6 hr hd h4 (h.mv hc (Nat.le_refl 200))) (fun j => crX_o (by omega)) (fun j => crX_o (by omega))).f0.nx
theorem Tie_canS {n nr nb N f r dst : Nat} {t : List Nat} {cs : List (List Nat)} (h : Tie x n m nr nb N cs) (c3 : TieW (crX x n nr f t r dst) n (canS m nr f t r dst) nr) : Tie (crX x n nr f t r dst) n (canS m nr f t r dst) nr nb N cs := by
  obtain ⟨T, R, B, A, C, F, X, h8, h9, h10⟩ := h
  obtain ⟨f1, f2, f3, f4, f5, f6, f7, f8⟩ := F
  have hx : (crX x n nr f t r dst).2 = x.2 := crX_x
  have hb := B.1
  have cp : ∀ p j, (p = 5 ∨ p = 6 ∨ p = 14 ∨ p = 15 ∨ p = 16 ∨ p = 17 ∨ p = 18 ∨ p = 19 ∨ p = 38) → (canS m nr f t r dst).1 p j = m.1 p j := fun p j hp => canS_p (by omega) (by omega) (by omega) (by omega) (by omega) (by omega) (by omega) (by omega) (by omega) (by omega) (by omega) (by omega)
  have c0 : ∀ j, (j = 2 ∨ j = 12 ∨ j = 30 ∨ j = 31 ∨ j = 39) → (canS m nr f t r dst).1 0 j = m.1 0 j := fun j hj => canS_0 (by omega) (by omega) (by omega) (by omega) (by omega) (by omega)
  have m2 : (canS m nr f t r dst).2 = m.2 := (sail_m2 (m := keepsM m)).trans rfl
  refine ⟨c3, fun k hk => ?_, (B.meq (fun p hp j => cp p j (by omega))).xeq (by rw [hx]) (by rw [hx]), A.xeq (fun _ _ => by rw [hx]) (fun b hb' => canS_13 (by omega)), C.xeq (fun _ _ => by rw [hx]) (by rw [hx]), ⟨?_, ?_, ?_, ?_, ?_, ?_, fun w c hw => by rw [hx]; exact f7 w c hw, fun c h1 h2 => (cp 17 c (by omega)).trans (f8 c h1 h2)⟩, ⟨(c0 39 (by omega)).trans X.1, X.2.1, fun i hi => ?_⟩, fun j => ?_, (crX_o (by omega)).trans h9, (crX_o (by omega)).trans h10⟩
  · rw [crX_o (by omega), crX_o (by omega), cp 6 k (by omega), cp 5 k (by omega)]; exact R k hk
  · rw [crX_0 (by decide) (by decide), c0 2 (by omega)]; exact f1
  · rw [crX_0 (by decide) (by decide)]; exact f2
  · rw [c0 12 (by omega)]; exact f3
  · rw [hx, m2]; exact f4
  · rw [crX_0 (by decide) (by decide), c0 30 (by omega)]; exact f5
  · rw [crX_0 (by decide) (by decide), c0 31 (by omega)]; exact f6
  · rw [crX_o (by omega), cp 38 i (by omega)]; exact X.2.2 i hi
  · rw [crX_o (by omega)]; exact h8 j
/-- the water of a voyage that is only tried: the same change in both -/
theorem voy_all {c n nr nb N f r dst : Nat} {t : List Nat} {cs : List (List Nat)} (h : NX c ρ x m n nr nb N cs) (hc : c < 512) (hq : ∀ d ∈ f :: t, d < nb) (hr : r < nr) (hd : dst < nr) (h4 : t.length < 4) : allX (tvX (saveX x) n nr f t r dst).1.1 - allX x = allM (sailM nr f t dst 6 (keepsM m) r 0).1 - allM m ∧ Tie (crX x n nr f t r dst) n (canS m nr f t r dst) nr nb N cs := by
  have h6 := h.n6
  have hn2 := h.2.1
  have V : ∃ s, VoyT (tvX (saveX x) n nr f t r dst) (sailM nr f t dst 6 (keepsM m) r 0) nr s := by
    by_cases z : r = dst
    · subst z
      have e1 : sailM nr f t r 6 (keepsM m) r 0 = (keepsM m, 0) := if_pos rfl
      rw [e1, tv_rr]
      exact ⟨0, fun _ => ⟨nI_0.symm, h.1.1.keeps⟩, fun w => absurd rfl w⟩
    · exact ⟨_, Tie_V h.1.1 h.1.2.2.1 hr hd z (by omega) hq (by omega)⟩
  obtain ⟨s, V⟩ := V
  have hge := (tvS_le (x := x) (n := n) (f := f) (t := t) h6 hr hd).1
  exact ⟨by rw [allX_eq V.tie, allX_eq h.1.1], Tie_canS h.1 (Tie_cr h.1.1 hr hd V hge)⟩
end
