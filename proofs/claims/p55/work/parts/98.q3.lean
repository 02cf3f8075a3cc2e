/-! THE LAW'S water(o) holds wherever the class's state is tied and balanced. -/
section
variable {l : Launch} {G : az_G} {ρ : Rp} {x : Xs} {m : Mz} {M : Ms} {ou : Nat → Int64} {n nr nb c : Nat} {cs : List (List Nat)}
/-- what stands between two steps of the law: tied, balanced, the rows' room bounded -/
def ST (c : Nat) (ρ : Rp) (x : Xs) (M : Ms) (n nr nb : Nat) (cs : List (List Nat)) : Prop := NX c ρ x M n nr nb 0 cs ∧ Bal x n ∧ ρ.2.2.2.1 ≤ 16384
theorem sm_add {f : Nat → Int32} {a : Nat} : ∀ b, sm f (a + b) = sm f a + sm (fun i => f (a + i)) b
  | 0 => by
    show sm f a = sm f a + 0
    grind
  | b + 1 => by
    show sm f (a + b) + f (a + b) = sm f a + (sm (fun i => f (a + i)) b + f (a + b))
    rw [sm_add b]
    grind
theorem sm_z {f : Nat → Int32} {a : Nat} : ∀ b, (∀ i, a ≤ i → i < a + b → f i = 0) → sm f (a + b) = sm f a
  | 0, _ => rfl
  | b + 1, h => by
    show sm f (a + b) + f (a + b) = _
    rw [sm_z b (fun i h1 h2 => h i h1 (by omega)), h (a + b) (by omega) (by omega)]
    grind
abbrev gV (x : Xs) : Nat → Int32 := fun i => x.1 4 (i + 3)
abbrev gC (x : Xs) : Nat → Int32 := fun i => x.1 4 (i + 13)
theorem held1_s : ∀ (f k : Nat), Xheld1F f m x (sm (gV x) k) k = sm (gV x) (k + f)
  | 0, _ => rfl
  | f + 1, k => by
    show Xheld1F f m x (sm (gV x) (k + 1)) (k + 1) = _
    rw [held1_s f (k + 1), show k + 1 + f = k + (f + 1) from by omega]
theorem held2_s {u : Int32} : ∀ (f k : Nat), Xheld2F f m x (u + sm (gC x) k) k = u + sm (gC x) (k + f)
  | 0, _ => rfl
  | f + 1, k => by
    show Xheld2F f m x (u + sm (gC x) k + gC x k) (k + 1) = _
    rw [Int32.add_assoc]
    show Xheld2F f m x (u + sm (gC x) (k + 1)) (k + 1) = _
    rw [held2_s f (k + 1), show k + 1 + f = k + (f + 1) from by omega]
theorem heldX_s : heldX x m nr = sm (gV x) nr + sm (gC x) (nr - 1) := by
  have h1 : Xheld1F nr m x 0 0 = sm (gV x) nr := by
    have h := held1_s (m := m) (x := x) nr 0
    rw [Nat.zero_add] at h
    exact h
  have h2 := held2_s (m := m) (x := x) (u := sm (gV x) nr) (nr - 1) 0
  rw [Nat.zero_add, show sm (gV x) nr + sm (gC x) 0 = sm (gV x) nr from by show sm (gV x) nr + 0 = _; grind] at h2
  unfold heldX
  rw [h1, h2]
def chX (x : Xs) (nr i : Nat) : Int32 := if i + 1 < nr then x.1 4 (i + 13) else 0
theorem lwa_s (h6 : nr ≤ 6) (hch : ∀ k, k + 1 < nr → (x.1 4 (k + 13) ≤ 0 → x.1 4 (k + 13) = 0) ∧ (¬ x.1 4 (k + 13) ≤ 0 → x.1 4 (k + 13) = x.1 3 k)) : ∀ (f : Nat) (b : Int32) (k : Nat), k + f = nr → LwaF x nr f m b (sm (gV x) k + sm (chX x nr) k) k = (Xmean_lF f m x b k, sm (gV x) nr + sm (chX x nr) nr)
  | 0, b, k, h => by
    obtain rfl : k = nr := by omega
    rfl
  | f + 1, b, k, h => by
    have hs : LwaFa x nr m b (sm (gV x) k + sm (chX x nr) k) k = sm (gV x) (k + 1) + sm (chX x nr) (k + 1) := by
      have e : LwaFa x nr m b (sm (gV x) k + sm (chX x nr) k) k = sm (gV x) k + sm (chX x nr) k + x.1 4 (k + 3) + chX x nr k := by
        unfold LwaFa chX fuX
        rw [nI_1 k]
        by_cases h1 : k + 1 < nr
        · rw [if_neg (nlt_nle h1 (by omega)), if_pos h1]
          by_cases h2 : x.1 4 (k + 13) ≤ 0
          · rw [if_pos h2, if_pos (by decide), (hch k h1).1 h2]
            grind
          · rw [if_neg h2, if_neg (by decide), (hch k h1).2 h2]
        · rw [if_pos (nI_leT (by omega) (by omega)), if_neg h1]
          grind
      rw [e]
      show _ = sm (gV x) k + x.1 4 (k + 3) + (sm (chX x nr) k + chX x nr k)
      grind
    show LwaF x nr f m (LwaFb x nr m b _ k) (LwaFa x nr m b (sm (gV x) k + sm (chX x nr) k) k) (k + 1) = (Xmean_lF f m x (Xmean_lFa m x b k) (k + 1), _)
    rw [hs]
    exact lwa_s h6 hch f _ (k + 1) (by omega)
theorem chX_s (h1 : 1 ≤ nr) : sm (chX x nr) nr = sm (gC x) (nr - 1) := by
  have e : sm (chX x nr) (nr - 1 + 1) = sm (chX x nr) (nr - 1) := by
    show sm (chX x nr) (nr - 1) + chX x nr (nr - 1) = _
    rw [show chX x nr (nr - 1) = 0 from if_neg (by omega)]
    grind
  rw [show nr - 1 + 1 = nr from by omega] at e
  rw [e]
  exact smq (N := nr - 1) (fun j hj => if_pos (by omega)) (nr - 1) (Nat.le_refl _)
theorem lwb_s (hR : ∀ j, j < n → RowOK x j) : ∀ (f k : Nat), k + f = n → LwbF x f m (bs x (-3) k) (bs x (-2) k) (-bs x (-1) k) k = (bs x (-3) n, bs x (-2) n, -bs x (-1) n)
  | 0, k, h => by
    obtain rfl : k = n := by omega
    rfl
  | f + 1, k, h => by
    obtain ⟨-, r1, r2, r3⟩ := hR k (by omega)
    have e3 : LwbFd x m (bs x (-3) k) (bs x (-2) k) (-bs x (-1) k) k = bs x (-3) (k + 1) := by
      show _ = XbalFa (-3) _ x (bs x (-3) k) k
      unfold LwbFd XbalFa
      rw [if_pos r2]
      by_cases z : x.1 21 k = -3
      · rw [if_neg (fun q => q z), if_neg (fun q => q z)]
      · rw [if_pos z, if_pos z]; grind
    have e2 : LwbFb x m (bs x (-3) k) (bs x (-2) k) (-bs x (-1) k) k = bs x (-2) (k + 1) := by
      show _ = XbalFa (-2) _ x (bs x (-2) k) k
      unfold LwbFb XbalFa
      rw [if_pos r1]
      by_cases z : x.1 21 k = -2
      · rw [if_neg (fun q => q z), if_neg (fun q => q z)]
      · rw [if_pos z, if_pos z]; grind
    have e1 : LwbFa x m (bs x (-3) k) (bs x (-2) k) (-bs x (-1) k) k = -bs x (-1) (k + 1) := by
      show _ = -XbalFa (-1) _ x (bs x (-1) k) k
      unfold LwbFa XbalFa
      rw [if_pos r3]
      by_cases z : x.1 20 k = -1
      · rw [if_neg (fun q => q z), if_neg (fun q => q z)]; grind
      · rw [if_pos z, if_pos z]; grind
    show LwbF x f m (LwbFd x m (bs x (-3) k) (bs x (-2) k) (-bs x (-1) k) k) (LwbFb x m (bs x (-3) k) (bs x (-2) k) (-bs x (-1) k) k) (LwbFa x m (bs x (-3) k) (bs x (-2) k) (-bs x (-1) k) k) (k + 1) = _
    rw [e1, e2, e3]
    exact lwb_s hR f (k + 1) (by omega)
theorem chT_i (T : TieW x n M nr) {k : Nat} (hk : k + 1 < nr) : (x.1 4 (k + 13) ≤ 0 → x.1 4 (k + 13) = 0) ∧ (¬ x.1 4 (k + 13) ≤ 0 → x.1 4 (k + 13) = x.1 3 k) := by
  have h6 := T.1.2.2.2.1
  have e := x13_eq T (k := k) (by omega)
  have L := T.1.2.2.2.2.2.2.2.2 k (by omega)
  refine ⟨fun h => ?_, fun h => ?_⟩
  · rw [e, if_pos ((ch_le T hk).mp h)]
  · rw [e, if_neg (fun z => h ((ch_le T hk).mpr z))]; exact L.1.symm
theorem cons_i (T : TieW x n M nr) (B : Bal x n) : -x.1 4 2 = heldX x m nr + x.1 4 1 + x.1 4 0 := by
  have h6 := T.1.2.2.2.1
  have h1 := T.1.2.2.1
  have hs := B.2.1
  have e1 : sm (x.1 4) 18 = sm (x.1 4) 3 + sm (fun i => x.1 4 (3 + i)) 15 := sm_add (f := x.1 4) (a := 3) 15
  have e2 : sm (fun i => x.1 4 (3 + i)) 15 = sm (fun i => x.1 4 (3 + i)) 6 + sm (fun i => x.1 4 (3 + (6 + i))) 9 := sm_add (f := fun i => x.1 4 (3 + i)) (a := 6) 9
  have e3 : sm (fun i => x.1 4 (3 + (6 + i))) 9 = sm (fun i => x.1 4 (3 + (6 + i))) 4 + sm (fun i => x.1 4 (3 + (6 + (4 + i)))) 5 := sm_add (f := fun i => x.1 4 (3 + (6 + i))) (a := 4) 5
  have e4 : sm (fun i => x.1 4 (3 + (6 + i))) 4 = 0 := by
    have h := sm_z (f := fun i => x.1 4 (3 + (6 + i))) (a := 0) 4 (fun i _ hi => by
      show x.1 4 (3 + (6 + i)) = 0
      rw [T.2 (3 + (6 + i)) (by omega)]
      unfold amt
      rw [if_neg (by omega), if_neg (by omega), if_neg (by omega), if_neg (by omega), if_pos (by omega)]
      simp)
    rw [Nat.zero_add] at h
    exact h
  have e5 : sm (fun i => x.1 4 (3 + i)) 6 = sm (gV x) nr := by
    rw [smq (g := gV x) (N := 6) (fun j _ => by show x.1 4 (3 + j) = x.1 4 (j + 3); rw [Nat.add_comm]) 6 (Nat.le_refl 6)]
    have h := sm_z (f := gV x) (a := nr) (6 - nr) (fun i h1 h2 => by
      show x.1 4 (i + 3) = 0
      rw [T.2 (i + 3) (by omega), amt_k (by omega), T.1.2.2.2.2.2.2.1 i h1 (by omega)]
      simp)
    rw [show nr + (6 - nr) = 6 from by omega] at h
    exact h
  have e6 : sm (fun i => x.1 4 (3 + (6 + (4 + i)))) 5 = sm (gC x) (nr - 1) := by
    rw [smq (g := gC x) (N := 5) (fun j _ => by show x.1 4 (3 + (6 + (4 + j))) = x.1 4 (j + 13); rw [show 3 + (6 + (4 + j)) = j + 13 from by omega]) 5 (Nat.le_refl 5)]
    have h := sm_z (f := gC x) (a := nr - 1) (5 - (nr - 1)) (fun i h1 h2 => by
      show x.1 4 (i + 13) = 0
      have L := T.1.2.2.2.2.2.2.2.2 i (by omega)
      rw [x13_eq T (by omega), if_pos (L.2.2.2.2.2.2 (by omega)).1])
    rw [show nr - 1 + (5 - (nr - 1)) = 5 from by omega] at h
    exact h
  have e7 : sm (x.1 4) 3 = 0 + x.1 4 0 + x.1 4 1 + x.1 4 2 := rfl
  rw [heldX_s]
  rw [e1, e2, e3, e4, e5, e6, e7] at hs
  grind
theorem bal_i (T : TieW x n M nr) (B : Bal x n) {k : Nat} (hk : k < nr) : x.1 4 (k + 3) = balX x m n (nI k) := by
  have h6 := T.1.2.2.2.1
  rw [balX_bs, pv_k k]
  exact B.1 (k + 3) (by omega)
theorem balOK_i (T : TieW x n M nr) (B : Bal x n) : ∀ (f k : Nat), k + f = nr → balOK x m n f k = 1
  | 0, _, _ => rfl
  | f + 1, k, h => by
    show (if x.1 4 (k + 3) = balX x m n (nI k) then balOK x m n f (k + 1) else 0) = 1
    rw [if_pos (bal_i T B (by omega))]
    exact balOK_i T B f (k + 1) (by omega)
theorem vol_i (T : TieW x n M nr) {k : Nat} (hk : k < nr) : ¬ x.1 4 (k + 3) < 0 ∧ ¬ (60 * x.1 2 k) < x.1 4 (k + 3) := by
  have h6 := T.1.2.2.2.1
  obtain ⟨a1, a2, a3, a4⟩ := T.1.2.2.2.2.2.1 k hk
  have e2 := T.1.2.2.2.2.1 k (by omega)
  have e4 := x4_eq T hk
  rw [e2, e4]
  refine ⟨?_, ?_⟩
  · rw [i_lt, i_0]; omega
  · rw [i_lt, i_60 (by omega) (by omega)]; omega
/-- water(o) answers true, and changes nothing -/
theorem water_ok (hG : az_okS l G) (hc : c ≤ 64) (S : ST c ρ x M n nr nb cs) : az_M l G yL_water (az_ws yL_water cL_water 8 (Option.some FieldType.boolean)) 11 [.ref (ρ.1 0)] (AD ρ) (KK G ρ x m ou) 0 0 (az_r (some (.int 1)) (AD ρ) (KK G ρ x m ou)) := by
  obtain ⟨h, B, -⟩ := S
  have T := h.1.1
  obtain ⟨b1, b2, b3⟩ := h.nlt (by omega)
  have h6 := h.n6
  have h1 := h.n1
  have ea := lwa_s (m := m) h6 (fun k hk => chT_i T hk) nr 0 0 (Nat.zero_add _)
  have eb := lwb_s (m := m) B.2.2 n 0 (Nat.zero_add _)
  have ea' : LwaF x nr nr m 0 0 0 = (Xmean_lF nr m x 0 0, sm (gV x) nr + sm (chX x nr) nr) := ea
  rw [show -bs x (-1) 0 = 0 from by show -(0 : Int32) = 0; decide] at eb
  have eb' : LwbF x n m 0 0 0 0 = (bs x (-3) n, bs x (-2) n, -bs x (-1) n) := eb
  refine Xwater hG nr h6 h1 h.xr (fun k hk => h.xa hk) n h.xn b1 b2 b3 (fun k hk => (vol_i T hk).1) (fun k hk => (vol_i T hk).2) (fun m k hk => bal_i T B hk) (fun k hk => ?_) ?_ ?_ ?_ ?_ (cons_i T B) (balOK_i T B nr 0 (Nat.zero_add _)) ?_
  · have g := (B.2.2 k hk).1
    rw [i_lt, i_0] at g
    rw [i_le, i_1]
    omega
  · rw [ea', heldX_s, chX_s h1]
  · rw [eb', B.1 2 (by omega)]
    show -bs x (-1) n = -bs x (pv 2) n
    rw [show pv 2 = -1 from by decide +kernel]
  · rw [eb', B.1 1 (by omega), show pv 1 = -2 from by decide +kernel]
  · rw [eb', B.1 0 (by omega), show pv 0 = -3 from by decide +kernel]
  · rw [ea']
end
