/-! VOYAGES: what is only tried leaves the same picture; the best reach; why a voyage is refused. -/
section
variable {l : Launch} {G : az_G} {ρ : Rp} {x x' : Xs} {m : Mz} {M M' : Ms} {ou : Nat → Int64} {n nr nb c N f r dst b : Nat} {t : List Nat} {cs : List (List Nat)}
theorem Tie_same (h : Tie x n M nr nb N cs) (hr : r < nr) (hd : dst < nr) : Tie (crX x n nr f t r dst) n M nr nb N cs := by
  have hro := RU_cr (x := x) (n := n) (nr := nr) (f := f) (t := t) hr hd
  have T' : TieW (crX x n nr f t r dst) n M nr := h.1.xq (crX_1 (by decide)) crX_n (fun k hk => crX_p (by decide) (by decide) (by decide) (by decide) (by decide) (by decide) (by decide) (by decide) (by decide) (by decide)) (fun p hp => crX_4 hp) (fun k hk => ⟨crX_p (by decide) (by decide) (by decide) (by decide) (by decide) (by decide) (by decide) (by decide) (by decide) (by decide), crX_p (by decide) (by decide) (by decide) (by decide) (by decide) (by decide) (by decide) (by decide) (by decide) (by decide), crX_p (by decide) (by decide) (by decide) (by decide) (by decide) (by decide) (by decide) (by decide) (by decide) (by decide), crX_5 hk⟩) hro
  refine h.water T' (fun k hk => ?_) (Nat.le_refl nr) crX_x (fun p j hp => crX_o (by omega)) ⟨crX_0 (by decide) (by decide), crX_0 (by decide) (by decide), crX_0 (by decide) (by decide)⟩ ((crX_0 (by decide) (by decide)).trans h.2.2.2.2.2.1.1) (fun _ _ _ => rfl) ⟨rfl, rfl, rfl, rfl⟩ rfl
  rw [crX_o (by omega), crX_o (by omega)]
  exact h.2.1 k hk
theorem capT_16 {u v : Nat} (h1 : u ≤ 16384) (h2 : v ≤ 8192) : capT u v ≤ 16384 := by
  unfold capT
  split <;> omega
theorem ST.nle (S : ST c ρ x M n nr nb cs) (hc : c ≤ 64) : n ≤ 6401 := by
  have := S.1.2.1
  omega
/-- the same picture, the rows perhaps grown -/
theorem ST.gr {a : Nat → Nat} {C : Nat} (S : ST c ρ x M n nr nb cs) (T : Tie x' n M' nr nb 0 cs) (B : Bal x' n) (hv : MvX (gR ρ a C) x' n 0) (h1 : ∀ j, x'.1 14 j = x.1 14 j) (h2 : ∀ j, x'.1 23 j = x.1 23 j) (hC : C ≤ 16384) : ST c (gR ρ a C) x' M' n nr nb cs := by
  have g := S.1.gr (a := a) (C := C) T (by omega) hv h1 h2
  exact ⟨⟨T, S.1.2.1, g.2.2⟩, B, hC⟩
theorem ST.tr (S : ST c ρ x M n nr nb cs) (hc : c ≤ 64) (hr : r < nr) (hd : dst < nr) (h4 : t.length < 4) (a : Nat → Nat) : ST c (gR ρ a (capT ρ.2.2.2.1 (tvX (saveX x) n nr f t r dst).1.2)) (crX x n nr f t r dst) M n nr nb cs := by
  have hn := S.nle hc
  have hle := tvX_le (x := saveX x) (n := n) (f := f) S.1.n6 hr hd h4
  exact S.gr (Tie_same S.1.1 hr hd) (Bal_cr S.2.1 hr hd) (crX_g (f := f) (a := a) S.1.n6 hr hd h4 (S.1.mv (by omega) (Nat.le_refl 200))) (fun j => crX_o (by omega)) (fun j => crX_o (by omega)) (capT_16 S.2.2 (by omega))
/-- whether the convoy f, t can go from r to dst; how much water it takes -/
def canP (M : Ms) (nr f : Nat) (t : List Nat) (r dst : Nat) : Prop := ¬ (canR M nr f t r dst).2 = 0
theorem can_eq (S : ST c ρ x M n nr nb cs) (hc : c ≤ 64) (hr : r < nr) (hd : dst < nr) (h4 : t.length < 4) (hq : ∀ d ∈ f :: t, d < nb) : (tvX (saveX x) n nr f t r dst).2 = (canR M nr f t r dst).2 := by
  have hn := S.nle hc
  exact (Tie_tried (r := r) (dst := dst) S.1.1 hr hd (by omega) hq (by omega)).2.symm
def watM (M : Ms) (nr f : Nat) (t : List Nat) (r dst : Nat) : Int32 := allM (sailM nr f t dst 6 (keepsM M) r 0).1 - allM M
theorem wat_eq (S : ST c ρ x M n nr nb cs) (hc : c ≤ 64) (hr : r < nr) (hd : dst < nr) (h4 : t.length < 4) (hq : ∀ d ∈ f :: t, d < nb) : allX (tvX (saveX x) n nr f t r dst).1.1 - allX x = watM M nr f t r dst := (voy_all S.1 (by omega) hq hr hd h4).1
/-- the convoy of a barge: its list, first, and reach, in whatever state has this picture -/
theorem NX.voyF (h : NX c ρ x M n nr nb N cs) {k : Nat} (hk : k < nb) (hcs : (f :: t) ∈ cs) (hin : k ∈ f :: t) (hr : r < nr) (hat : M.1 13 k = nI r) : ∃ rl : List Nat, XCv ρ.2.2.2.2.2 x k rl f t ∧ PvX ρ.2.2.2.2.2 x nr f t ∧ x.2.1 f 4 = nI r ∧ x.2.1 k 4 = nI r ∧ t.length < 4 ∧ (f :: t).Nodup ∧ (∀ d ∈ f :: t, d < nb) ∧ (∀ d ∈ f :: t, M.1 13 d = nI r) ∧ XSuf nb x (f :: t) := by
  obtain ⟨rl, f', t', r', a1, a2, a3, a4, a5, a6, a7, a8, a9, a10, a11, a12⟩ := h.voy hk
  have h6 := h.n6
  have hin' : k ∈ f' :: t' := a2.2.2.2.2.2.2.2
  have e := fl_dj cs h.1.2.2.2.2.1.1 _ a9 _ hcs k hin' hin
  injection e with e1 e2
  subst e1 e2
  have er : r' = r := nI_inj8 (by omega) (by omega) ((a11 k hin).symm.trans hat)
  subst er
  exact ⟨rl, a1, a3, a4, a5, a7, a8, a10, a11, a12⟩
/-- the best reach can be reached, and no reach that can be reached is worth more -/
theorem best_ok (hb : b < nb) (hr : r < nr) (h4 : t.length < 4) (hq : ∀ d ∈ f :: t, d < nb) (hn : n ≤ 6401) : ∀ (q : Nat) (x : Xs) (best most : Int32) (i : Nat), Tie x n M nr nb N cs → Bal x n → i + q = nr → ((most = -1 ∧ i ≤ r) ∨ ∃ j, j < i ∧ best = nI j ∧ most = M.1 17 b * M.1 6 j ∧ canP M nr f t r j) → (∀ j, j < i → canP M nr f t r j → M.1 17 b * M.1 6 j ≤ most) →
    (∃ J, J < nr ∧ (bestX nr f t r b n q x best most i).2 = nI J ∧ canP M nr f t r J ∧ ∀ j, j < nr → canP M nr f t r j → M.1 17 b * M.1 6 j ≤ M.1 17 b * M.1 6 J) ∧ Tie (bestX nr f t r b n q x best most i).1.1 n M nr nb N cs ∧ Bal (bestX nr f t r b n q x best most i).1.1 n ∧ ∀ p j, (p = 14 ∨ p = 23) → (bestX nr f t r b n q x best most i).1.1.1 p j = x.1 p j
  | 0, x, best, most, i, T, B, hi, hA, hB => by
    refine ⟨?_, T, B, fun _ _ _ => rfl⟩
    rcases hA with ⟨-, h⟩ | ⟨j, h1, h2, h3, h4⟩
    · omega
    · exact ⟨j, by omega, h2, h4, fun j' hj hc => by rw [← h3]; exact hB j' (by omega) hc⟩
  | q + 1, x, best, most, i, T, B, hi, hA, hB => by
    obtain ⟨w1, w2⟩ := wor_i T.2.2.1 T.2.1 hb (k := i) (by omega)
    have hcan : (tvX (saveX x) n nr f t r i).2 = (canR M nr f t r i).2 := (Tie_tried (r := r) (dst := i) T hr (by omega) (by omega) hq (by omega)).2.symm
    have T2 := Tie_same (f := f) (t := t) (r := r) (dst := i) T hr (by omega)
    have B2 := Bal_cr (f := f) (t := t) (r := r) (dst := i) B hr (show i < nr by omega)
    have hno : most = -1 → ¬ x.2.1 b 5 * x.1 11 i ≤ most := fun e z => by
      rw [w1, e, i_le] at z
      have e1 : (-1 : Int32).toInt = -1 := rfl
      omega
    rw [bestX]
    by_cases c1 : x.2.1 b 5 * x.1 11 i ≤ most
    · rw [if_pos c1]
      refine best_ok hb hr h4 hq hn q x best most (i + 1) T B (by omega) ?_ (fun j hj hc => ?_)
      · rcases hA with ⟨h, -⟩ | ⟨j, h1, h2, h3, h5⟩
        · exact absurd c1 (hno h)
        · exact Or.inr ⟨j, by omega, h2, h3, h5⟩
      · by_cases e : j = i
        · subst e; rw [← w1]; exact c1
        · exact hB j (by omega) hc
    · rw [if_neg c1]
      by_cases c2 : (tvX (saveX x) n nr f t r i).2 = 0
      · rw [if_pos c2]
        have hci : ¬ canP M nr f t r i := fun z => z (by rw [← hcan]; exact c2)
        have hir : ¬ i = r := fun e => hci (by
          subst e
          unfold canP
          rw [show canR M nr f t i i = (M, 1) from if_pos rfl]
          exact one_ne)
        obtain ⟨g1, g2, g3, g4⟩ := best_ok hb hr h4 hq hn q (crX x n nr f t r i) best most (i + 1) T2 B2 (by omega) (by
          rcases hA with ⟨h, h'⟩ | ⟨j, h1, h2, h3, h5⟩
          · exact Or.inl ⟨h, by omega⟩
          · exact Or.inr ⟨j, by omega, h2, h3, h5⟩) (fun j hj hc => by
          by_cases e : j = i
          · subst e; exact absurd hc hci
          · exact hB j (by omega) hc)
        exact ⟨g1, g2, g3, fun p j hp => (g4 p j hp).trans (crX_o (by omega))⟩
      · rw [if_neg c2]
        have hci : canP M nr f t r i := fun z => c2 (by rw [hcan]; exact z)
        obtain ⟨g1, g2, g3, g4⟩ := best_ok hb hr h4 hq hn q (crX x n nr f t r i) (nI i) (x.2.1 b 5 * x.1 11 i) (i + 1) T2 B2 (by omega) (Or.inr ⟨i, by omega, rfl, w1, hci⟩) (fun j hj hc => by
          by_cases e : j = i
          · subst e; rw [w1]; exact Int32.le_refl _
          · exact Int32.le_of_lt (Int32.lt_of_le_of_lt (hB j (by omega) hc) (Int32.not_le.mp c1)))
        exact ⟨g1, g2, g3, fun p j hp => (g4 p j hp).trans (crX_o (by omega))⟩
/-- why -/
theorem tpX_v {lk : Nat} {dn : Bool} : ∀ (k : Nat) (x : Xs) (n : Nat) (q : List Nat), (tpX nr lk dn k x n q).2 = 0 ∨ (tpX nr lk dn k x n q).2 = 3 ∨ (tpX nr lk dn k x n q).2 = 4 ∨ (tpX nr lk dn k x n q).2 = 5
  | 0, _, _, _ => Or.inl rfl
  | _ + 1, _, _, [] => Or.inl rfl
  | k + 1, x, n, d :: q => by
    rw [tpX]
    split
    · exact Or.inr (Or.inl rfl)
    · split
      · exact Or.inr (Or.inr (Or.inl rfl))
      · split
        · exact Or.inr (Or.inr (Or.inr rfl))
        · exact tpX_v k _ _ _
theorem tryP_v {lk : Nat} {dn : Bool} (h : ¬ (tryP x n nr lk dn f t).2 = 0) : 1 ≤ (tryP x n nr lk dn f t).2 ∧ (tryP x n nr lk dn f t).2 ≤ 5 := by
  unfold tryP at h ⊢
  split at h
  · rename_i h1
    rw [if_pos h1]
    split at h
    · rename_i h2
      rw [if_pos h2]
      rcases tpX_v (nr := nr) (lk := lk) (dn := dn) (t.length + 1) x n (f :: t) with z | z | z | z
      · exact absurd z h
      · rw [z]; decide
      · rw [z]; decide
      · rw [z]; decide
    · rename_i h2
      rw [if_neg h2]
      show 1 ≤ (2 : Int32) ∧ (2 : Int32) ≤ 5
      decide
  · rename_i h1
    rw [if_neg h1]
    show 1 ≤ (1 : Int32) ∧ (1 : Int32) ≤ 5
    decide
theorem tryP_1v {lk : Nat} {dn : Bool} : (tryP x n nr lk dn f t).2 = 1 ↔ ¬ mxL x (f :: t) 0 ≤ x.1 9 lk := by
  unfold tryP
  by_cases h1 : mxL x (f :: t) 0 ≤ x.1 9 lk
  · rw [if_pos h1]
    refine ⟨fun z => ?_, fun z => absurd h1 z⟩
    by_cases h2 : mxD x (f :: t) 0 ≤ x.1 10 lk
    · rw [if_pos h2] at z
      rcases tpX_v (nr := nr) (lk := lk) (dn := dn) (t.length + 1) x n (f :: t) with w | w | w | w <;> rw [w] at z <;> exact absurd z (by decide)
    · rw [if_neg h2] at z
      exact absurd z (show ¬ (2 : Int32) = 1 by decide)
  · rw [if_neg h1]
    exact ⟨fun _ => h1, fun _ => rfl⟩
theorem tvD_why : ∀ (k : Nat) (x : Xs) (n r : Nat), (tvD nr f t k x n r).2 = 0 → (1 ≤ (tvD nr f t k x n r).1.1.1 0 10 ∧ (tvD nr f t k x n r).1.1.1 0 10 ≤ 5) ∧ ∃ i, r ≤ i ∧ i < r + k ∧ (tvD nr f t k x n r).1.1.1 0 11 = nI i
  | 0, _, _, _, h => absurd h (show ¬ (1 : Int32) = 0 by decide)
  | k + 1, x, n, r, h => by
    rw [tvD] at h ⊢
    by_cases z : (tryP x n nr r true f t).2 = 0
    · rw [if_pos z] at h ⊢
      obtain ⟨g1, i, g2, g3, g4⟩ := tvD_why k _ _ _ h
      exact ⟨g1, i, by omega, by omega, g4⟩
    · rw [if_neg z]
      refine ⟨?_, r, Nat.le_refl r, by omega, xI_s⟩
      rw [show ((xI (xI (tryP x n nr r true f t).1.1 0 10 (tryP x n nr r true f t).2) 0 11 (nI r), (tryP x n nr r true f t).1.2), (0 : Int32)).1.1.1 0 10 = (tryP x n nr r true f t).2 from (xI_k (by decide)).trans xI_s]
      exact tryP_v z
theorem tvU_why : ∀ (k : Nat) (x : Xs) (n r : Nat), k ≤ r → (tvU nr f t k x n r).2 = 0 → (1 ≤ (tvU nr f t k x n r).1.1.1 0 10 ∧ (tvU nr f t k x n r).1.1.1 0 10 ≤ 5) ∧ ∃ i, r - k ≤ i ∧ i < r ∧ (tvU nr f t k x n r).1.1.1 0 11 = nI i
  | 0, _, _, _, _, h => absurd h (show ¬ (1 : Int32) = 0 by decide)
  | k + 1, x, n, r, hk, h => by
    rw [tvU] at h ⊢
    by_cases z : (tryP x n nr (r - 1) false f t).2 = 0
    · rw [if_pos z] at h ⊢
      obtain ⟨g1, i, g2, g3, g4⟩ := tvU_why k _ _ _ (by omega) h
      exact ⟨g1, i, by omega, by omega, g4⟩
    · rw [if_neg z]
      refine ⟨?_, r - 1, by omega, by omega, xI_s⟩
      rw [show ((xI (xI (tryP x n nr (r - 1) false f t).1.1 0 10 (tryP x n nr (r - 1) false f t).2) 0 11 (nI (r - 1)), (tryP x n nr (r - 1) false f t).1.2), (0 : Int32)).1.1.1 0 10 = (tryP x n nr (r - 1) false f t).2 from (xI_k (by decide)).trans xI_s]
      exact tryP_v z
theorem carR_f {y : Xs} : (carR y).1 0 12 = y.1 0 10 ∧ (carR y).1 0 13 = y.1 0 11 := by
  unfold carR
  refine ⟨?_, ?_⟩
  · rw [xI_k (by decide), xI_s]; exact res_p (by decide) (by decide) (by decide)
  · rw [xI_s]; exact res_p (by decide) (by decide) (by decide)
theorem tvX_why (h : (tvX x n nr f t r dst).2 = 0) (hne : ¬ r = dst) : (1 ≤ (tvX x n nr f t r dst).1.1.1 0 10 ∧ (tvX x n nr f t r dst).1.1.1 0 10 ≤ 5) ∧ ∃ i, min r dst ≤ i ∧ i < max r dst ∧ (tvX x n nr f t r dst).1.1.1 0 11 = nI i := by
  unfold tvX at h ⊢
  by_cases z : r < dst
  · rw [if_pos z] at h ⊢
    obtain ⟨g1, i, g2, g3, g4⟩ := tvD_why _ _ _ _ h
    exact ⟨g1, i, by omega, by omega, g4⟩
  · rw [if_neg z] at h ⊢
    obtain ⟨g1, i, g2, g3, g4⟩ := tvU_why _ _ _ _ (by omega) h
    exact ⟨g1, i, by omega, by omega, g4⟩
end
