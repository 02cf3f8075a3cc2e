section
variable {l : Launch} {G : az_G} {ρ : Rp} {x : Xs} {m : Mz} {ou : Nat → Int64}
/-- the movements' rows below n stand as they stood -/
def RU (n : Nat) (x x' : Xs) : Prop := ∀ j, j < n → x'.1 20 j = x.1 20 j ∧ x'.1 21 j = x.1 21 j ∧ x'.1 22 j = x.1 22 j
theorem RU.rfl' {n : Nat} {x : Xs} : RU n x x := fun _ _ => ⟨rfl, rfl, rfl⟩
theorem RU.trans' {n n' : Nat} {x x' x'' : Xs} (h : RU n x x') (h' : RU n' x' x'') (hn : n ≤ n') : RU n x x'' := fun j hj => ⟨(h' j (by omega)).1.trans (h j hj).1, (h' j (by omega)).2.1.trans (h j hj).2.1, (h' j (by omega)).2.2.trans (h j hj).2.2⟩
theorem RU.w {n : Nat} {x x' x'' : Xs} (h : RU n x x') (h0 : ∀ j, x''.1 20 j = x'.1 20 j) (h1 : ∀ j, x''.1 21 j = x'.1 21 j) (h2 : ∀ j, x''.1 22 j = x'.1 22 j) : RU n x x'' := fun j hj => ⟨(h0 j).trans (h j hj).1, (h1 j).trans (h j hj).2.1, (h2 j).trans (h j hj).2.2⟩
theorem RU_sd {n : Nat} {u v w : Int32} {a b : Nat} : RU n x (sdX x n u a v b w) := fun j hj => by
  simp only [sdX, addX, xI]
  refine ⟨?_, ?_, ?_⟩
  · rw [up2_p (by decide), up2_p (by decide), up2_p (by decide), up2_k (by omega), up2_p (by decide), up2_p (by decide)]
  · rw [up2_p (by decide), up2_p (by decide), up2_k (by omega), up2_p (by decide), up2_p (by decide), up2_p (by decide)]
  · rw [up2_p (by decide), up2_k (by omega), up2_p (by decide), up2_p (by decide), up2_p (by decide), up2_p (by decide)]
theorem RU_O {n : Nat} {u v w : Int32} {a b : Nat} : RU n x (sendO x n u a v b w).1 := by
  unfold sendO; split
  · exact RU.rfl'
  · exact RU_sd
theorem RU_R {nr : Nat} : ∀ (f : Nat) (x : Xs) (n : Nat) (u : Int32) (a k : Nat) (w : Int32), RU n x (sendR nr f x n u a k w).1
  | 0, _, _, _, _, _, _ => RU.rfl'
  | f + 1, x, n, u, a, k, w => by
    rw [sendR]
    split
    · exact RU.rfl'
    · split
      · exact RU.trans' RU_sd (RU_R f _ _ _ _ _ _) (Nat.le_succ n)
      · split
        · exact RU_sd
        · exact RU.trans' RU_sd RU_sd (Nat.le_succ n)
theorem RU_em {n nr k : Nat} : RU n x (emptyX x n nr k).1 := RU_R (nr := nr) _ (xI x 5 k (x.1 5 k + x.1 3 k)) n _ _ _ _
theorem RU_fi {n k : Nat} : RU n x (fillX x n k).1 := RU_O
theorem RU_A {n nr lk : Nat} {dn : Bool} : RU n x (tpA x n nr lk dn).1 := by unfold tpA; split; exact RU_em; exact RU.rfl'
theorem RU_B {n lk : Nat} : RU n x (tpB x n lk).1 := by unfold tpB; split; exact RU_fi; exact RU.rfl'
theorem RU_C {n nr lk : Nat} {dn : Bool} : RU n x (tpC x n nr lk dn).1 := by unfold tpC; split; exact RU_em; exact RU.rfl'
theorem RU_ABC {n nr lk : Nat} {dn : Bool} (hk : lk + 1 ≤ nr) : RU n x (tpC (tpB (tpA x n nr lk dn).1 (tpA x n nr lk dn).2 lk).1 (tpB (tpA x n nr lk dn).1 (tpA x n nr lk dn).2 lk).2 nr lk dn).1 := by
  have gA := (tpA_ge (x := x) (n := n) (dn := dn) hk).1
  have gB := (tpB_ge (x := (tpA x n nr lk dn).1) (n := (tpA x n nr lk dn).2) (lk := lk)).1
  exact RU.trans' RU_A (RU.trans' RU_B RU_C gB) gA
theorem RU_tpX {nr lk : Nat} {dn : Bool} (hk : lk + 1 ≤ nr) : ∀ (f : Nat) (x : Xs) (n : Nat) (s9 : List Nat), RU n x (tpX nr lk dn f x n s9).1.1
  | 0, _, _, _ => RU.rfl'
  | f + 1, _, _, [] => RU.rfl'
  | f + 1, x, n, b :: r => by
    have gA := (tpA_ge (x := x) (n := n) (dn := dn) hk).1
    have gB := (tpB_ge (x := (tpA x n nr lk dn).1) (n := (tpA x n nr lk dn).2) (lk := lk)).1
    have gC := (tpC_ge (x := (tpB (tpA x n nr lk dn).1 (tpA x n nr lk dn).2 lk).1) (n := (tpB (tpA x n nr lk dn).1 (tpA x n nr lk dn).2 lk).2) (dn := dn) hk).1
    rw [tpX]
    split
    · exact RU.rfl'
    · split
      · exact RU_A
      · split
        · exact RU_ABC hk
        · exact RU.trans' (RU_ABC hk) (RU_tpX hk f _ _ _) (by omega)
theorem RU_P {n nr lk f : Nat} {dn : Bool} {t : List Nat} (hk : lk + 1 ≤ nr) : RU n x (tryP x n nr lk dn f t).1.1 := by
  unfold tryP; split
  · split
    · exact RU_tpX hk _ _ _ _
    · exact RU.rfl'
  · exact RU.rfl'
theorem RU_D {nr f : Nat} {t : List Nat} : ∀ (k : Nat) (x : Xs) (n r : Nat), r + k < nr → RU n x (tvD nr f t k x n r).1.1
  | 0, _, _, _, _ => RU.rfl'
  | k + 1, x, n, r, hc => by
    have g := (tryP_ge (x := x) (n := n) (nr := nr) (lk := r) (dn := true) (f := f) (t := t) (by omega)).1
    rw [tvD]; split
    · exact RU.trans' (RU_P (by omega)) (RU_D k _ _ _ (by omega)) g
    · exact RU.w (RU_P (by omega)) (fun _ => rfl) (fun _ => rfl) (fun _ => rfl)
theorem RU_U {nr f : Nat} {t : List Nat} : ∀ (k : Nat) (x : Xs) (n r : Nat), k ≤ r ∧ r < nr → RU n x (tvU nr f t k x n r).1.1
  | 0, _, _, _, _ => RU.rfl'
  | k + 1, x, n, r, hc => by
    have g := (tryP_ge (x := x) (n := n) (nr := nr) (lk := r - 1) (dn := false) (f := f) (t := t) (by omega)).1
    rw [tvU]; split
    · exact RU.trans' (RU_P (by omega)) (RU_U k _ _ _ (by omega)) g
    · exact RU.w (RU_P (by omega)) (fun _ => rfl) (fun _ => rfl) (fun _ => rfl)
theorem RU_V {n nr f r dst : Nat} {t : List Nat} (hr : r < nr) (hd : dst < nr) : RU n x (tvX x n nr f t r dst).1.1 := by
  unfold tvX; split
  · exact RU_D _ _ _ _ (by omega)
  · exact RU_U _ _ _ _ (by omega)
/-- a voyage only asked for: what stands then -/
def crX (x : Xs) (n nr f : Nat) (t : List Nat) (r dst : Nat) : Xs := restoreX (tvX (saveX x) n nr f t r dst).1.1
theorem res_4 {y : Xs} {j : Nat} (h : j < 18) : (restoreX y).1 4 j = y.1 6 j := by
  show (if 0 ≤ j ∧ j < 0 + 18 then y.1 6 (0 + (j - 0)) else y.1 4 j) = y.1 6 j
  rw [if_pos ⟨Nat.zero_le _, by omega⟩, Nat.sub_zero, Nat.zero_add]
theorem res_5 {y : Xs} {j : Nat} (h : j < 5) : (restoreX y).1 5 j = y.1 7 j := by
  show (if 0 ≤ j ∧ j < 0 + 5 then y.1 7 (0 + (j - 0)) else y.1 5 j) = y.1 7 j
  rw [if_pos ⟨Nat.zero_le _, by omega⟩, Nat.sub_zero, Nat.zero_add]
theorem sav_6 {j : Nat} (h : j < 18) : (saveX x).1 6 j = x.1 4 j := by
  show (if 0 ≤ j ∧ j < 0 + 18 then x.1 4 (0 + (j - 0)) else x.1 6 j) = x.1 4 j
  rw [if_pos ⟨Nat.zero_le _, by omega⟩, Nat.sub_zero, Nat.zero_add]
theorem sav_7 {j : Nat} (h : j < 5) : (saveX x).1 7 j = x.1 5 j := by
  show (if 0 ≤ j ∧ j < 0 + 5 then x.1 5 (0 + (j - 0)) else x.1 7 j) = x.1 5 j
  rw [if_pos ⟨Nat.zero_le _, by omega⟩, Nat.sub_zero, Nat.zero_add]
theorem res_p {y : Xs} {p j : Nat} (h4 : p ≠ 4) (h5 : p ≠ 5) (h8 : p ≠ 8) : (restoreX y).1 p j = y.1 p j := by
  simp only [restoreX, xI, xR]
  rw [up2_p h8, up1_n h5, up1_n h4]
theorem sav_p {p j : Nat} (h6 : p ≠ 6) (h7 : p ≠ 7) (h1 : p ≠ 1) : (saveX x).1 p j = x.1 p j := by
  simp only [saveX, xI, xR]
  rw [up2_p h1, up1_n h7, up1_n h6]
theorem crX_x {n nr f r dst : Nat} {t : List Nat} : (crX x n nr f t r dst).2 = x.2 := tvX_x (x := saveX x)
theorem crX_4 {n nr f r dst j : Nat} {t : List Nat} (h : j < 18) : (crX x n nr f t r dst).1 4 j = x.1 4 j := (res_4 h).trans ((tvX_1 (by decide) (by decide) (by decide) (by decide) (by decide) (by decide) (by decide)).trans (sav_6 h))
theorem crX_5 {n nr f r dst j : Nat} {t : List Nat} (h : j < 5) : (crX x n nr f t r dst).1 5 j = x.1 5 j := (res_5 h).trans ((tvX_1 (by decide) (by decide) (by decide) (by decide) (by decide) (by decide) (by decide)).trans (sav_7 h))
theorem crX_n {n nr f r dst : Nat} {t : List Nat} : (crX x n nr f t r dst).1 8 3 = x.1 8 3 := (show (crX x n nr f t r dst).1 8 3 = (tvX (saveX x) n nr f t r dst).1.1.1 1 7 from rfl).trans ((tvX_1 (by decide) (by decide) (by decide) (by decide) (by decide) (by decide) (by decide)).trans rfl)
theorem crX_1 {n nr f r dst j : Nat} {t : List Nat} (h : j ≠ 7) : (crX x n nr f t r dst).1 1 j = x.1 1 j := (res_p (by decide) (by decide) (by decide)).trans ((tvX_1 (by decide) (by decide) (by decide) (by decide) (by decide) (by decide) (by decide)).trans (by simp only [saveX, xI, xR]; rw [up2_k h, up1_n (by decide), up1_n (by decide)]))
theorem crX_0 {n nr f r dst j : Nat} {t : List Nat} (h : j ≠ 10) (h1 : j ≠ 11) : (crX x n nr f t r dst).1 0 j = x.1 0 j := (res_p (by decide) (by decide) (by decide)).trans ((tvX_0 h h1).trans (sav_p (by decide) (by decide) (by decide)))
theorem crX_p {n nr f r dst p j : Nat} {t : List Nat} (h4 : p ≠ 4) (h5 : p ≠ 5) (h8 : p ≠ 8) (h0 : p ≠ 20) (h1 : p ≠ 21) (h2 : p ≠ 22) (h9 : p ≠ 0) (h6 : p ≠ 6) (h7 : p ≠ 7) (h10 : p ≠ 1) : (crX x n nr f t r dst).1 p j = x.1 p j := (res_p h4 h5 h8).trans ((tvX_1 h4 h5 h8 h0 h1 h2 h9).trans (sav_p h6 h7 h10))
theorem RU_cr {n nr f r dst : Nat} {t : List Nat} (hr : r < nr) (hd : dst < nr) : RU n x (crX x n nr f t r dst) := RU.w (x := x) (x' := (tvX (saveX x) n nr f t r dst).1.1) (RU.trans' (x' := saveX x) (RU.w RU.rfl' (fun _ => rfl) (fun _ => rfl) (fun _ => rfl)) (RU_V hr hd) (Nat.le_refl n)) (fun _ => rfl) (fun _ => rfl) (fun _ => rfl)
theorem MvX_cr {n nr f r dst z : Nat} {t : List Nat} {a9 : Nat → Nat} (h6 : nr ≤ 6) (hr : r < nr) (hd : dst < nr) (h : MvX ρ x n (6 * ((t.length + 1) * (nr + 2)) + z)) : MvX (gR ρ a9 (capT ρ.2.2.2.1 (tvX (saveX x) n nr f t r dst).1.2)) (crX x n nr f t r dst) n (6 * ((t.length + 1) * (nr + 2)) + z) := by
  have h2 : MvX (gR ρ a9 (capT ρ.2.2.2.1 (tvX (saveX x) n nr f t r dst).1.2)) (tvX (saveX x) n nr f t r dst).1.1 (tvX (saveX x) n nr f t r dst).1.2 z := MvX_tv h6 hr hd (MvX_w (x := x) h rfl (fun _ => rfl) (fun _ => rfl) (fun _ => rfl))
  have c0 : ρ.2.2.2.1 ≤ capT ρ.2.2.2.1 (tvX (saveX x) n nr f t r dst).1.2 := capT_ge
  have q3 := h.2.2.1
  have q4 := h.2.2.2.1
  have q5 := h.2.2.2.2.1
  exact ⟨crX_n.trans h.1, h.2.1, Nat.le_trans q3 c0, Nat.le_trans q4 (Nat.mul_le_mul_left 2 c0), Nat.le_trans q5 c0, h2.2.2.2.2.2.1, RowZ_w h2.2.2.2.2.2.2 (fun _ => rfl) (fun _ => rfl) (fun _ => rfl)⟩
theorem PvX.cr {nb n nr f r dst : Nat} {t : List Nat} {nr' f' : Nat} {t' : List Nat} (h : PvX nb x nr' f' t') : PvX nb (crX x n nr f t r dst) nr' f' t' := h.to (crX_1 (by decide)) (fun _ => crX_p (by decide) (by decide) (by decide) (by decide) (by decide) (by decide) (by decide) (by decide) (by decide) (by decide)) crX_x
theorem capT_mx {c A B : Nat} (h : B ≤ 2 * c) : capT (capT c A) B = capT c (max A B) := by
  by_cases hA : A ≤ c
  · rw [capT_self hA]; unfold capT
    by_cases hB : B ≤ c
    · rw [if_pos hB, if_pos (by omega)]
    · rw [if_neg hB, if_neg (by omega)]
  · unfold capT; rw [if_neg hA, if_pos h, if_neg (by omega)]
/-- reach after reach: the state, how many movements at most, the best one -/
def bestX (nr f : Nat) (t : List Nat) (r k n : Nat) : Nat → Xs → Int32 → Int32 → Nat → (Xs × Nat) × Int32
  | 0, x, best, _, _ => ((x, n), best)
  | q + 1, x, best, most, i =>
    if x.2.1 k 5 * x.1 11 i ≤ most then bestX nr f t r k n q x best most (i + 1)
    else if (tvX (saveX x) n nr f t r i).2 = 0 then (((bestX nr f t r k n q (crX x n nr f t r i) best most (i + 1)).1.1, max (tvX (saveX x) n nr f t r i).1.2 (bestX nr f t r k n q (crX x n nr f t r i) best most (i + 1)).1.2), (bestX nr f t r k n q (crX x n nr f t r i) best most (i + 1)).2)
    else (((bestX nr f t r k n q (crX x n nr f t r i) (nI i) (x.2.1 k 5 * x.1 11 i) (i + 1)).1.1, max (tvX (saveX x) n nr f t r i).1.2 (bestX nr f t r k n q (crX x n nr f t r i) (nI i) (x.2.1 k 5 * x.1 11 i) (i + 1)).1.2), (bestX nr f t r k n q (crX x n nr f t r i) (nI i) (x.2.1 k 5 * x.1 11 i) (i + 1)).2)
theorem tvS_le {n nr f r dst : Nat} {t : List Nat} (h6 : nr ≤ 6) (hr : r < nr) (hd : dst < nr) : n ≤ (tvX (saveX x) n nr f t r dst).1.2 ∧ (tvX (saveX x) n nr f t r dst).1.2 ≤ n + 6 * ((t.length + 1) * (nr + 2)) := (tvX_ge hr hd).resolve_right (by omega)
theorem bestX_le {nr f r k n : Nat} {t : List Nat} (h6 : nr ≤ 6) (hr : r < nr) : ∀ (q : Nat) (x : Xs) (best most : Int32) (i : Nat), i + q ≤ nr → n ≤ (bestX nr f t r k n q x best most i).1.2 ∧ (bestX nr f t r k n q x best most i).1.2 ≤ n + 6 * ((t.length + 1) * (nr + 2))
  | 0, _, _, _, _, _ => ⟨Nat.le_refl n, Nat.le_add_right n _⟩
  | q + 1, x, best, most, i, hi => by
    have g := tvS_le (x := x) (n := n) (f := f) (t := t) (dst := i) h6 hr (by omega)
    rw [bestX]; split
    · exact bestX_le h6 hr q _ _ _ _ (by omega)
    · split
      · have g2 := bestX_le (f := f) (t := t) (k := k) (n := n) h6 hr q (crX x n nr f t r i) best most (i + 1) (by omega)
        show n ≤ max _ _ ∧ max _ _ ≤ _
        omega
      · have g2 := bestX_le (f := f) (t := t) (k := k) (n := n) h6 hr q (crX x n nr f t r i) (nI i) (x.2.1 k 5 * x.1 11 i) (i + 1) (by omega)
        show n ≤ max _ _ ∧ max _ _ ≤ _
        omega
set_option maxHeartbeats 4000000 in
set_option maxRecDepth 100000 in
theorem Xbest_l (hG : az_okS l G) {p : Program} {e : Env} {s : State} {mm : MethodId} {args : Array Value} {below : List Frame} {meth : Method} {c : Code} (C : az_C l G p s mm args meth c cX3_bestReach yX3_bestReach.cls 8 (Option.some FieldType.int) []) {mc ms : Nat} (nr f r k n : Nat) (t : List Nat) (hr : r < nr) : ∀ (q : Nat) {ρ : Rp} {x : Xs} (k9 n9 : Nat) (best most : Int32) (i : Nat) (hki : i + q = nr) (hkb : k < ρ.2.2.2.2.2) (hat : x.2.1 f 4 = nI r) (h : PvX ρ.2.2.2.2.2 x nr f t) (hv : MvX ρ x n (6 * ((t.length + 1) * (nr + 2)))) (hcl : k9 + ((capT ρ.2.2.2.1 (bestX nr f t r k n q x best most i).1.2) - ρ.2.2.2.1) ≤ mc) (hsl : n9 + 6 * ((capT ρ.2.2.2.1 (bestX nr f t r k n q x best most i).1.2) - ρ.2.2.2.1) ≤ ms), az_W l G 8 (az_Q G (az_g G (some (.int (bestX nr f t r k n q x best most i).2)) ρ (capT ρ.2.2.2.1 (bestX nr f t r k n q x best most i).1.2) (bestX nr f t r k n q x best most i).1.1 m ou) below args s mc ms) p e (az_rm 9 mc ms) s mm args below meth c (AD ρ) (KK G ρ x m ou) k9 n9 23 [(6, .int (nI i)), (5, .int most), (4, .int best), (3, .ref (ρ.2.2.1 f)), (2, .ref (ρ.2.2.1 k)), (1, .int (nI k)), (0, .ref (ρ.1 0))] [] := by
  intro q
  induction q with
  | zero =>
    intro ρ x k9 n9 best most i hki hkb hat h hv hcl hsl
    obtain rfl : i = nr := by omega
    have c0 : capT ρ.2.2.2.1 (bestX i f t r k n 0 x best most i).1.2 = ρ.2.2.2.1 := capT_self hv.2.2.1
    refine az_iload C 0 dX3_bestReach_23 rfl ?_
    refine az_aload_n C 6 dX3_bestReach_25 rfl ?_
    refine az_get C cX3 0 0 0 (v := .ref (ρ.1 1)) wl_X3_12 dX3_bestReach_26 rfl rfl rfl (by decide) ?_
    refine az_getN C cX2 0 1 8 (v := .int (x.1 1 8)) (az_bw C hG nx_X3_67 rfl) dX3_bestReach_29 rfl rfl rfl (by decide) ?_
    refine az_top (nI i) h.1 ?_
    refine az_icmp_ge C 80 dX3_bestReach_32 (by decide) (fun _ => ?_) (fun q => absurd (Int32.le_refl _) q)
    refine az_iload C 2 dX3_bestReach_80 rfl ?_
    exact az_iret C rfl dX3_bestReach_82 (by omega) (by omega) ⟨ρ.2.1, rfl, rfl, by rw [c0], by rw [c0]; rfl⟩
  | succ q ih =>
    intro ρ x k9 n9 best most i hki hkb hat h hv hcl hsl
    have hn6 := h.2.1
    have q4 := hv.2.2.2.1
    have g1 := tvS_le (x := x) (n := n) (f := f) (t := t) (dst := i) hn6 hr (by omega)
    by_cases hw : x.2.1 k 5 * x.1 11 i ≤ most
    · have hE : bestX nr f t r k n (q + 1) x best most i = bestX nr f t r k n q x best most (i + 1) := by rw [bestX, if_pos hw]
      rw [hE] at hcl hsl ⊢
      refine az_iload C 0 dX3_bestReach_23 rfl ?_
      refine az_aload_n C 6 dX3_bestReach_25 rfl ?_
      refine az_get C cX3 0 0 0 (v := .ref (ρ.1 1)) wl_X3_12 dX3_bestReach_26 rfl rfl rfl (by decide) ?_
      refine az_getN C cX2 0 1 8 (v := .int (x.1 1 8)) (az_bw C hG nx_X3_67 rfl) dX3_bestReach_29 rfl rfl rfl (by decide) ?_
      refine az_top (nI nr) h.1 ?_
      refine az_icmp_ge C 80 dX3_bestReach_32 (by decide) (fun q => absurd q (nlt_nle (show i < nr by omega) (by omega))) (fun _ => ?_)
      refine az_aload_n C 4 dX3_bestReach_35 rfl ?_
      refine az_getN C cX0 1 k 5 (v := .int (x.2.1 k 5)) (az_bw C hG nx_X3_162 rfl) dX3_bestReach_36 rfl (KK_b hkb) rfl (by decide) ?_
      refine az_aload_n C 6 dX3_bestReach_39 rfl ?_
      refine az_get C cX3 0 0 3 (v := .ref (ρ.1 11)) wl_X3_23 dX3_bestReach_40 rfl rfl rfl (by decide) ?_
      refine az_iload C 0 dX3_bestReach_43 rfl ?_
      refine az_ialdN C 0 11 i (v := x.1 11 i) dX3_bestReach_45 rfl rfl (by omega) (by decide) rfl ?_
      refine az_imul C dX3_bestReach_46 ?_
      refine az_istore C (lv' := [(7, .int ((x.2.1 k 5 * x.1 11 i))), (6, .int (nI i)), (5, .int most), (4, .int best), (3, .ref (ρ.2.2.1 f)), (2, .ref (ρ.2.2.1 k)), (1, .int (nI k)), (0, .ref (ρ.1 0))]) dX3_bestReach_47 (by decide) rfl ?_
      refine az_iload C 0 dX3_bestReach_49 rfl ?_
      refine az_iload C 2 dX3_bestReach_51 rfl ?_
      refine az_icmp_le C 74 dX3_bestReach_53 (by decide) (fun _ => ?_) (fun q => absurd hw q)
      refine az_iinc C 1 (v := nI (i + 1)) (lv' := [(6, .int (nI (i + 1))), (7, .int ((x.2.1 k 5 * x.1 11 i))), (5, .int most), (4, .int best), (3, .ref (ρ.2.2.1 f)), (2, .ref (ρ.2.2.1 k)), (1, .int (nI k)), (0, .ref (ρ.1 0))]) dX3_bestReach_74 rfl (nI_1 i) (by decide) rfl ?_
      refine az_goto C 23 dX3_bestReach_77 (by decide) ?_
      exact az_lv [0, 2, 3, 4, 5, 6, 7] rfl (ih k9 n9 best most (i + 1) (by omega) hkb hat h hv hcl hsl)
    · by_cases hz : (tvX (saveX x) n nr f t r i).2 = 0
      · have hE : bestX nr f t r k n (q + 1) x best most i = (((bestX nr f t r k n q (crX x n nr f t r i) best most (i + 1)).1.1, max (tvX (saveX x) n nr f t r i).1.2 (bestX nr f t r k n q (crX x n nr f t r i) best most (i + 1)).1.2), (bestX nr f t r k n q (crX x n nr f t r i) best most (i + 1)).2) := by rw [bestX, if_neg hw, if_pos hz]
        have g2 := bestX_le (f := f) (t := t) (k := k) (n := n) hn6 hr q (crX x n nr f t r i) best most (i + 1) (by omega)
        have c0 : ρ.2.2.2.1 ≤ capT ρ.2.2.2.1 (tvX (saveX x) n nr f t r i).1.2 := capT_ge
        have c2 : capT (capT ρ.2.2.2.1 (tvX (saveX x) n nr f t r i).1.2) (bestX nr f t r k n q (crX x n nr f t r i) best most (i + 1)).1.2 = capT ρ.2.2.2.1 (max (tvX (saveX x) n nr f t r i).1.2 (bestX nr f t r k n q (crX x n nr f t r i) best most (i + 1)).1.2) := capT_mx (by omega)
        have c1 : capT ρ.2.2.2.1 (tvX (saveX x) n nr f t r i).1.2 ≤ capT ρ.2.2.2.1 (max (tvX (saveX x) n nr f t r i).1.2 (bestX nr f t r k n q (crX x n nr f t r i) best most (i + 1)).1.2) := capT_le (Nat.le_max_left _ _)
        rw [hE] at hcl hsl ⊢
        have hcl' : k9 + (capT ρ.2.2.2.1 (max (tvX (saveX x) n nr f t r i).1.2 (bestX nr f t r k n q (crX x n nr f t r i) best most (i + 1)).1.2) - ρ.2.2.2.1) ≤ mc := hcl
        have hsl' : n9 + 6 * (capT ρ.2.2.2.1 (max (tvX (saveX x) n nr f t r i).1.2 (bestX nr f t r k n q (crX x n nr f t r i) best most (i + 1)).1.2) - ρ.2.2.2.1) ≤ ms := hsl
        refine az_iload C 0 dX3_bestReach_23 rfl ?_
        refine az_aload_n C 6 dX3_bestReach_25 rfl ?_
        refine az_get C cX3 0 0 0 (v := .ref (ρ.1 1)) wl_X3_12 dX3_bestReach_26 rfl rfl rfl (by decide) ?_
        refine az_getN C cX2 0 1 8 (v := .int (x.1 1 8)) (az_bw C hG nx_X3_67 rfl) dX3_bestReach_29 rfl rfl rfl (by decide) ?_
        refine az_top (nI nr) h.1 ?_
        refine az_icmp_ge C 80 dX3_bestReach_32 (by decide) (fun q => absurd q (nlt_nle (show i < nr by omega) (by omega))) (fun _ => ?_)
        refine az_aload_n C 4 dX3_bestReach_35 rfl ?_
        refine az_getN C cX0 1 k 5 (v := .int (x.2.1 k 5)) (az_bw C hG nx_X3_162 rfl) dX3_bestReach_36 rfl (KK_b hkb) rfl (by decide) ?_
        refine az_aload_n C 6 dX3_bestReach_39 rfl ?_
        refine az_get C cX3 0 0 3 (v := .ref (ρ.1 11)) wl_X3_23 dX3_bestReach_40 rfl rfl rfl (by decide) ?_
        refine az_iload C 0 dX3_bestReach_43 rfl ?_
        refine az_ialdN C 0 11 i (v := x.1 11 i) dX3_bestReach_45 rfl rfl (by omega) (by decide) rfl ?_
        refine az_imul C dX3_bestReach_46 ?_
        refine az_istore C (lv' := [(7, .int ((x.2.1 k 5 * x.1 11 i))), (6, .int (nI i)), (5, .int most), (4, .int best), (3, .ref (ρ.2.2.1 f)), (2, .ref (ρ.2.2.1 k)), (1, .int (nI k)), (0, .ref (ρ.1 0))]) dX3_bestReach_47 (by decide) rfl ?_
        refine az_iload C 0 dX3_bestReach_49 rfl ?_
        refine az_iload C 2 dX3_bestReach_51 rfl ?_
        refine az_icmp_le C 74 dX3_bestReach_53 (by decide) (fun q => absurd q hw) (fun _ => ?_)
        refine az_aload_n C 7 dX3_bestReach_56 rfl ?_
        refine az_aload_n C 4 dX3_bestReach_57 rfl ?_
        refine az_iload C 1 dX3_bestReach_58 rfl ?_
        refine az_callV C Y_X3_canReach cX3 0 0 [.ref (ρ.2.2.1 f), .int (nI i)] [] wm_X3_220 wi_X3_canReach wse_X3_canReach dX3_bestReach_60 rfl rfl rfl (XcanReach hG nr f r i t hr (by omega) hat h n hv) rfl (Nat.le_of_ble_eq_true rfl) (Nat.le_of_ble_eq_true rfl) (Nat.le_of_ble_eq_true rfl) (by show _ ≤ mc; omega) (by show _ ≤ ms; omega) ?_ (by rintro E ad9 K9 ⟨q9, -, h9, -⟩; cases h9)
        rintro v9 ad9 K9 ⟨a9, ha9, h9, rfl, rfl⟩
        cases h9
        refine az_if_eq C 74 dX3_bestReach_63 (by decide) (fun _ => ?_) (fun q => absurd hz q)
        refine az_iinc C 1 (v := nI (i + 1)) (lv' := [(6, .int (nI (i + 1))), (7, .int ((x.2.1 k 5 * x.1 11 i))), (5, .int most), (4, .int best), (3, .ref (ρ.2.2.1 f)), (2, .ref (ρ.2.2.1 k)), (1, .int (nI k)), (0, .ref (ρ.1 0))]) dX3_bestReach_74 rfl (nI_1 i) (by decide) rfl ?_
        refine az_goto C 23 dX3_bestReach_77 (by decide) ?_
        show az_W l G 8 (az_Q G (az_g G (some (.int (bestX nr f t r k n q (crX x n nr f t r i) best most (i + 1)).2)) ρ (capT ρ.2.2.2.1 (max (tvX (saveX x) n nr f t r i).1.2 (bestX nr f t r k n q (crX x n nr f t r i) best most (i + 1)).1.2)) (bestX nr f t r k n q (crX x n nr f t r i) best most (i + 1)).1.1 m ou) below args s mc ms) p e (az_rm 9 mc ms) s mm args below meth c _ _ _ _ 23 _ _
        rw [← az_gg (ρ := ρ) (a9 := a9) (C' := capT ρ.2.2.2.1 (tvX (saveX x) n nr f t r i).1.2) ha9, ← c2]
        exact az_lv [0, 2, 3, 4, 5, 6, 7] rfl (ih (ρ := gR ρ a9 (capT ρ.2.2.2.1 (tvX (saveX x) n nr f t r i).1.2)) (x := (crX x n nr f t r i)) _ _ best most (i + 1) (by omega) hkb (by rw [crX_x]; exact hat) (h.cr) (MvX_cr (z := 0) hn6 hr (by omega) hv) (by show _ + (capT (capT ρ.2.2.2.1 (tvX (saveX x) n nr f t r i).1.2) _ - capT ρ.2.2.2.1 (tvX (saveX x) n nr f t r i).1.2) ≤ mc; rw [c2]; exact kcap c0 c1 hcl') (by show _ + 6 * (capT (capT ρ.2.2.2.1 (tvX (saveX x) n nr f t r i).1.2) _ - capT ρ.2.2.2.1 (tvX (saveX x) n nr f t r i).1.2) ≤ ms; rw [c2]; exact ncap c0 c1 hsl'))
      · have hE : bestX nr f t r k n (q + 1) x best most i = (((bestX nr f t r k n q (crX x n nr f t r i) (nI i) (x.2.1 k 5 * x.1 11 i) (i + 1)).1.1, max (tvX (saveX x) n nr f t r i).1.2 (bestX nr f t r k n q (crX x n nr f t r i) (nI i) (x.2.1 k 5 * x.1 11 i) (i + 1)).1.2), (bestX nr f t r k n q (crX x n nr f t r i) (nI i) (x.2.1 k 5 * x.1 11 i) (i + 1)).2) := by rw [bestX, if_neg hw, if_neg hz]
        have g2 := bestX_le (f := f) (t := t) (k := k) (n := n) hn6 hr q (crX x n nr f t r i) (nI i) (x.2.1 k 5 * x.1 11 i) (i + 1) (by omega)
        have c0 : ρ.2.2.2.1 ≤ capT ρ.2.2.2.1 (tvX (saveX x) n nr f t r i).1.2 := capT_ge
        have c2 : capT (capT ρ.2.2.2.1 (tvX (saveX x) n nr f t r i).1.2) (bestX nr f t r k n q (crX x n nr f t r i) (nI i) (x.2.1 k 5 * x.1 11 i) (i + 1)).1.2 = capT ρ.2.2.2.1 (max (tvX (saveX x) n nr f t r i).1.2 (bestX nr f t r k n q (crX x n nr f t r i) (nI i) (x.2.1 k 5 * x.1 11 i) (i + 1)).1.2) := capT_mx (by omega)
        have c1 : capT ρ.2.2.2.1 (tvX (saveX x) n nr f t r i).1.2 ≤ capT ρ.2.2.2.1 (max (tvX (saveX x) n nr f t r i).1.2 (bestX nr f t r k n q (crX x n nr f t r i) (nI i) (x.2.1 k 5 * x.1 11 i) (i + 1)).1.2) := capT_le (Nat.le_max_left _ _)
        rw [hE] at hcl hsl ⊢
        have hcl' : k9 + (capT ρ.2.2.2.1 (max (tvX (saveX x) n nr f t r i).1.2 (bestX nr f t r k n q (crX x n nr f t r i) (nI i) (x.2.1 k 5 * x.1 11 i) (i + 1)).1.2) - ρ.2.2.2.1) ≤ mc := hcl
        have hsl' : n9 + 6 * (capT ρ.2.2.2.1 (max (tvX (saveX x) n nr f t r i).1.2 (bestX nr f t r k n q (crX x n nr f t r i) (nI i) (x.2.1 k 5 * x.1 11 i) (i + 1)).1.2) - ρ.2.2.2.1) ≤ ms := hsl
        refine az_iload C 0 dX3_bestReach_23 rfl ?_
        refine az_aload_n C 6 dX3_bestReach_25 rfl ?_
        refine az_get C cX3 0 0 0 (v := .ref (ρ.1 1)) wl_X3_12 dX3_bestReach_26 rfl rfl rfl (by decide) ?_
        refine az_getN C cX2 0 1 8 (v := .int (x.1 1 8)) (az_bw C hG nx_X3_67 rfl) dX3_bestReach_29 rfl rfl rfl (by decide) ?_
        refine az_top (nI nr) h.1 ?_
        refine az_icmp_ge C 80 dX3_bestReach_32 (by decide) (fun q => absurd q (nlt_nle (show i < nr by omega) (by omega))) (fun _ => ?_)
        refine az_aload_n C 4 dX3_bestReach_35 rfl ?_
        refine az_getN C cX0 1 k 5 (v := .int (x.2.1 k 5)) (az_bw C hG nx_X3_162 rfl) dX3_bestReach_36 rfl (KK_b hkb) rfl (by decide) ?_
        refine az_aload_n C 6 dX3_bestReach_39 rfl ?_
        refine az_get C cX3 0 0 3 (v := .ref (ρ.1 11)) wl_X3_23 dX3_bestReach_40 rfl rfl rfl (by decide) ?_
        refine az_iload C 0 dX3_bestReach_43 rfl ?_
        refine az_ialdN C 0 11 i (v := x.1 11 i) dX3_bestReach_45 rfl rfl (by omega) (by decide) rfl ?_
        refine az_imul C dX3_bestReach_46 ?_
        refine az_istore C (lv' := [(7, .int ((x.2.1 k 5 * x.1 11 i))), (6, .int (nI i)), (5, .int most), (4, .int best), (3, .ref (ρ.2.2.1 f)), (2, .ref (ρ.2.2.1 k)), (1, .int (nI k)), (0, .ref (ρ.1 0))]) dX3_bestReach_47 (by decide) rfl ?_
        refine az_iload C 0 dX3_bestReach_49 rfl ?_
        refine az_iload C 2 dX3_bestReach_51 rfl ?_
        refine az_icmp_le C 74 dX3_bestReach_53 (by decide) (fun q => absurd q hw) (fun _ => ?_)
        refine az_aload_n C 7 dX3_bestReach_56 rfl ?_
        refine az_aload_n C 4 dX3_bestReach_57 rfl ?_
        refine az_iload C 1 dX3_bestReach_58 rfl ?_
        refine az_callV C Y_X3_canReach cX3 0 0 [.ref (ρ.2.2.1 f), .int (nI i)] [] wm_X3_220 wi_X3_canReach wse_X3_canReach dX3_bestReach_60 rfl rfl rfl (XcanReach hG nr f r i t hr (by omega) hat h n hv) rfl (Nat.le_of_ble_eq_true rfl) (Nat.le_of_ble_eq_true rfl) (Nat.le_of_ble_eq_true rfl) (by show _ ≤ mc; omega) (by show _ ≤ ms; omega) ?_ (by rintro E ad9 K9 ⟨q9, -, h9, -⟩; cases h9)
        rintro v9 ad9 K9 ⟨a9, ha9, h9, rfl, rfl⟩
        cases h9
        refine az_if_eq C 74 dX3_bestReach_63 (by decide) (fun q => absurd q hz) (fun _ => ?_)
        refine az_iload C 1 dX3_bestReach_66 rfl ?_
        refine az_istore C (lv' := [(4, .int (nI i)), (7, .int ((x.2.1 k 5 * x.1 11 i))), (6, .int (nI i)), (5, .int most), (3, .ref (ρ.2.2.1 f)), (2, .ref (ρ.2.2.1 k)), (1, .int (nI k)), (0, .ref (ρ.1 0))]) dX3_bestReach_68 (by decide) rfl ?_
        refine az_iload C 1 dX3_bestReach_70 rfl ?_
        refine az_istore C (lv' := [(5, .int ((x.2.1 k 5 * x.1 11 i))), (4, .int (nI i)), (7, .int ((x.2.1 k 5 * x.1 11 i))), (6, .int (nI i)), (3, .ref (ρ.2.2.1 f)), (2, .ref (ρ.2.2.1 k)), (1, .int (nI k)), (0, .ref (ρ.1 0))]) dX3_bestReach_72 (by decide) rfl ?_
        refine az_iinc C 3 (v := nI (i + 1)) (lv' := [(6, .int (nI (i + 1))), (5, .int ((x.2.1 k 5 * x.1 11 i))), (4, .int (nI i)), (7, .int ((x.2.1 k 5 * x.1 11 i))), (3, .ref (ρ.2.2.1 f)), (2, .ref (ρ.2.2.1 k)), (1, .int (nI k)), (0, .ref (ρ.1 0))]) dX3_bestReach_74 rfl (nI_1 i) (by decide) rfl ?_
        refine az_goto C 23 dX3_bestReach_77 (by decide) ?_
        show az_W l G 8 (az_Q G (az_g G (some (.int (bestX nr f t r k n q (crX x n nr f t r i) (nI i) (x.2.1 k 5 * x.1 11 i) (i + 1)).2)) ρ (capT ρ.2.2.2.1 (max (tvX (saveX x) n nr f t r i).1.2 (bestX nr f t r k n q (crX x n nr f t r i) (nI i) (x.2.1 k 5 * x.1 11 i) (i + 1)).1.2)) (bestX nr f t r k n q (crX x n nr f t r i) (nI i) (x.2.1 k 5 * x.1 11 i) (i + 1)).1.1 m ou) below args s mc ms) p e (az_rm 9 mc ms) s mm args below meth c _ _ _ _ 23 _ _
        rw [← az_gg (ρ := ρ) (a9 := a9) (C' := capT ρ.2.2.2.1 (tvX (saveX x) n nr f t r i).1.2) ha9, ← c2]
        exact az_lv [0, 1, 2, 4, 5, 6, 7] rfl (ih (ρ := gR ρ a9 (capT ρ.2.2.2.1 (tvX (saveX x) n nr f t r i).1.2)) (x := (crX x n nr f t r i)) _ _ (nI i) (x.2.1 k 5 * x.1 11 i) (i + 1) (by omega) hkb (by rw [crX_x]; exact hat) (h.cr) (MvX_cr (z := 0) hn6 hr (by omega) hv) (by show _ + (capT (capT ρ.2.2.2.1 (tvX (saveX x) n nr f t r i).1.2) _ - capT ρ.2.2.2.1 (tvX (saveX x) n nr f t r i).1.2) ≤ mc; rw [c2]; exact kcap c0 c1 hcl') (by show _ + 6 * (capT (capT ρ.2.2.2.1 (tvX (saveX x) n nr f t r i).1.2) _ - capT ρ.2.2.2.1 (tvX (saveX x) n nr f t r i).1.2) ≤ ms; rw [c2]; exact ncap c0 c1 hsl'))

set_option maxHeartbeats 4000000 in
set_option maxRecDepth 100000 in
theorem XbestReach1 (hG : az_okS l G) (nb k : Nat) (hb : x.1 0 7 = nI nb) (hnb : nb = ρ.2.2.2.2.2) (hn : nb ≤ 8) (hk : k + 1 ≤ nb) (nr f r r0 : Nat) (t rl : List Nat) (hc : XCv ρ.2.2.2.2.2 x k rl f t) (hr : r < nr) (hat : x.2.1 f 4 = nI r) (hat0 : x.2.1 k 4 = nI r0) (h : PvX ρ.2.2.2.2.2 x nr f t) (n : Nat) (hv : MvX ρ x n (6 * ((t.length + 1) * (nr + 2)))) : az_M l G yX3_bestReach (az_ws yX3_bestReach cX3_bestReach 8 (Option.some FieldType.int)) 9 [.ref (ρ.1 0), .int (nI k)] (AD ρ) (KK G ρ x m ou) (capT ρ.2.2.2.1 (bestX nr f t r k n nr x (nI r0) (-1) 0).1.2 - ρ.2.2.2.1) (6 * (capT ρ.2.2.2.1 (bestX nr f t r k n nr x (nI r0) (-1) 0).1.2 - ρ.2.2.2.1)) (az_g G (some (.int (bestX nr f t r k n nr x (nI r0) (-1) 0).2)) ρ (capT ρ.2.2.2.1 (bestX nr f t r k n nr x (nI r0) (-1) 0).1.2) (bestX nr f t r k n nr x (nI r0) (-1) 0).1.1 m ou) := by
  refine az_start hG.1 (by decide +kernel) (Nat.le_of_ble_eq_true rfl) ?_
  intro p e s mm args below meth c C hnm
  show az_W l G 8 _ p e _ s mm args below meth c _ _ 0 0 0 [(0, .ref (ρ.1 0)), (1, .int (nI k))] []
  refine az_aload_n C 0 dX3_bestReach_0 rfl ?_
  refine az_iload_n C 1 dX3_bestReach_1 rfl ?_
  refine az_callV C Y_X3_bargeNumbered cX3 0 0 [.int (nI k)] [] wm_X3_155 wi_X3_bargeNumbered wse_X3_bargeNumbered dX3_bestReach_2 rfl rfl rfl (Xbarge1 hG nb k hb hnb hn hk) rfl (Nat.le_of_ble_eq_true rfl) (Nat.le_of_ble_eq_true rfl) (Nat.le_of_ble_eq_true rfl) (Nat.zero_le _) (Nat.zero_le _) (az_k1 rfl rfl ?_) (az_k0 rfl)
  refine az_astore_n C (lv' := [(2, .ref (ρ.2.2.1 k)), (0, .ref (ρ.1 0)), (1, .int (nI k))]) (j := 2) rfl dX3_bestReach_5 (by decide) rfl ?_
  refine az_aload_n C 0 dX3_bestReach_6 rfl ?_
  refine az_callV C Y_X0_first cX0 1 k [] [] wm_X3_173 wi_X0_first wse_X0_first dX3_bestReach_7 rfl (KK_b hc.1.1) rfl (Xfirst hG k rl hc.1) rfl (Nat.le_of_ble_eq_true rfl) (Nat.le_of_ble_eq_true rfl) (Nat.le_of_ble_eq_true rfl) (Nat.zero_le _) (Nat.zero_le _) (az_k1 (by rw [hc.2.1]) rfl ?_) (az_k0 (by rw [hc.2.1]))
  refine az_astore_n C (lv' := [(3, .ref (ρ.2.2.1 f)), (2, .ref (ρ.2.2.1 k)), (0, .ref (ρ.1 0)), (1, .int (nI k))]) (j := 3) rfl dX3_bestReach_10 (by decide) rfl ?_
  refine az_aload_n C 1 dX3_bestReach_11 rfl ?_
  refine az_getN C cX0 1 k 4 (v := .int (x.2.1 k 4)) (az_bw C hG nx_X3_159 rfl) dX3_bestReach_12 rfl (KK_b (show k < ρ.2.2.2.2.2 by omega)) rfl (by decide) ?_
  refine az_top (nI r0) hat0 ?_
  refine az_istore C (lv' := [(4, .int (nI r0)), (3, .ref (ρ.2.2.1 f)), (2, .ref (ρ.2.2.1 k)), (0, .ref (ρ.1 0)), (1, .int (nI k))]) dX3_bestReach_15 (by decide) rfl ?_
  refine az_iconst C (v := (-1)) dX3_bestReach_17 (by decide) ?_
  refine az_istore C (lv' := [(5, .int ((-1))), (4, .int (nI r0)), (3, .ref (ρ.2.2.1 f)), (2, .ref (ρ.2.2.1 k)), (0, .ref (ρ.1 0)), (1, .int (nI k))]) dX3_bestReach_18 (by decide) rfl ?_
  refine az_iconst C (v := 0) dX3_bestReach_20 (by decide) ?_
  refine az_istore C (lv' := [(6, .int 0), (5, .int ((-1))), (4, .int (nI r0)), (3, .ref (ρ.2.2.1 f)), (2, .ref (ρ.2.2.1 k)), (0, .ref (ρ.1 0)), (1, .int (nI k))]) dX3_bestReach_21 (by decide) rfl ?_
  exact az_lv [0, 1, 2, 3, 4, 6, 5] rfl (Xbest_l hG C nr f r k n t hr nr 0 0 (nI r0) (-1) 0 (by omega) (by omega) hat h hv (Nat.le_of_eq (Nat.zero_add _)) (Nat.le_of_eq (Nat.zero_add _)))

set_option maxHeartbeats 4000000 in
set_option maxRecDepth 100000 in
theorem XbestReach0 (hG : az_okS l G) (nb : Nat) (v : Int32) (hb : x.1 0 7 = nI nb) (hnb : nb = ρ.2.2.2.2.2) (hn : nb ≤ 8) (hv : oo nb v) : az_M l G yX3_bestReach (az_ws yX3_bestReach cX3_bestReach 8 (Option.some FieldType.int)) 9 [.ref (ρ.1 0), .int v] (AD ρ) (KK G ρ x m ou) 1 6 (az_x "java/lang/IndexOutOfBoundsException" (AD ρ) (KK G ρ x m ou)) := by
  refine az_start hG.1 (by decide +kernel) (Nat.le_of_ble_eq_true rfl) ?_
  intro p e s mm args below meth c C hnm
  show az_W l G 8 _ p e _ s mm args below meth c _ _ 0 0 0 [(0, .ref (ρ.1 0)), (1, .int v)] []
  refine az_aload_n C 0 dX3_bestReach_0 rfl ?_
  refine az_iload_n C 1 dX3_bestReach_1 rfl ?_
  refine az_callV C Y_X3_bargeNumbered cX3 0 0 [.int v] [] wm_X3_155 wi_X3_bargeNumbered wse_X3_bargeNumbered dX3_bestReach_2 rfl rfl rfl (Xbarge0 hG nb v hb hnb hn hv) rfl (Nat.le_of_ble_eq_true rfl) (Nat.le_of_ble_eq_true rfl) (Nat.le_of_ble_eq_true rfl) (Nat.le_of_ble_eq_true rfl) (Nat.le_of_ble_eq_true rfl) (az_x0 rfl) (az_x1 rfl ?_)
  exact az_out C (fun _ h => by cases h) (Nat.le_of_ble_eq_true rfl) (Nat.le_of_ble_eq_true rfl) ⟨rfl, rfl, rfl⟩

end
