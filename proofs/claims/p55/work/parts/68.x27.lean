section
variable {l : Launch} {G : az_G} {ρ : Rp} {x : Xs} {m : Mz} {ou : Nat → Int64}
def tvD (nr f : Nat) (t : List Nat) : Nat → Xs → Nat → Nat → (Xs × Nat) × Int32
  | 0, x, n, _ => ((x, n), 1)
  | k + 1, x, n, r => if (tryP x n nr r true f t).2 = 0 then tvD nr f t k (tryP x n nr r true f t).1.1 (tryP x n nr r true f t).1.2 (r + 1) else ((xI (xI (tryP x n nr r true f t).1.1 0 10 (tryP x n nr r true f t).2) 0 11 (nI r), (tryP x n nr r true f t).1.2), 0)
theorem tvD_ge {nr f : Nat} {t : List Nat} : ∀ (k : Nat) (x : Xs) (n r : Nat), r + k < nr → n ≤ (tvD nr f t k x n r).1.2 ∧ (tvD nr f t k x n r).1.2 ≤ n + k * ((t.length + 1) * (nr + 2))
  | 0, _, n, _, _ => ⟨Nat.le_refl n, Nat.le_add_right n _⟩
  | k + 1, x, n, r, hc => by
    have hm : (k + 1) * ((t.length + 1) * (nr + 2)) = k * ((t.length + 1) * (nr + 2)) + (t.length + 1) * (nr + 2) := by rw [Nat.add_mul k 1, Nat.one_mul]
    have g := tryP_ge (x := x) (n := n) (nr := nr) (lk := r) (dn := true) (f := f) (t := t) (by omega)
    rw [tvD]
    split
    · have g2 := tvD_ge (nr := nr) (f := f) (t := t) k (tryP x n nr r true f t).1.1 (tryP x n nr r true f t).1.2 (r + 1) (by omega)
      omega
    · exact ⟨g.1, by show (tryP x n nr r true f t).1.2 ≤ _; omega⟩
theorem tvD_x {nr f : Nat} {t : List Nat} : ∀ (k : Nat) (x : Xs) (n r : Nat), (tvD nr f t k x n r).1.1.2 = x.2
  | 0, _, _, _ => rfl
  | k + 1, x, n, r => by
    rw [tvD]
    split
    · exact (tvD_x k _ _ _).trans tryP_x
    · exact tryP_x (x := x)
theorem tvD_1 {nr f p j : Nat} {t : List Nat} (h4 : p ≠ 4) (h5 : p ≠ 5) (h8 : p ≠ 8) (h0 : p ≠ 20) (h1 : p ≠ 21) (h2 : p ≠ 22) (h9 : p ≠ 0) : ∀ (k : Nat) (x : Xs) (n r : Nat), (tvD nr f t k x n r).1.1.1 p j = x.1 p j
  | 0, _, _, _ => rfl
  | k + 1, x, n, r => by
    rw [tvD]
    split
    · exact (tvD_1 h4 h5 h8 h0 h1 h2 h9 k _ _ _).trans (tryP_1 h4 h5 h8 h0 h1 h2)
    · simp only [xI]
      rw [up2_p h9, up2_p h9]
      exact tryP_1 h4 h5 h8 h0 h1 h2
theorem tvD_0 {nr f j : Nat} {t : List Nat} (hj : j ≠ 10) (hj1 : j ≠ 11) : ∀ (k : Nat) (x : Xs) (n r : Nat), (tvD nr f t k x n r).1.1.1 0 j = x.1 0 j
  | 0, _, _, _ => rfl
  | k + 1, x, n, r => by
    rw [tvD]
    split
    · exact (tvD_0 hj hj1 k _ _ _).trans (tryP_1 (by decide) (by decide) (by decide) (by decide) (by decide) (by decide))
    · simp only [xI]
      rw [up2_k hj1, up2_k hj]
      exact tryP_1 (by decide) (by decide) (by decide) (by decide) (by decide) (by decide)
theorem MvX_w {x' : Xs} {n t : Nat} (h : MvX ρ x n t) (h8 : x'.1 8 3 = x.1 8 3) (h0 : ∀ j, x'.1 20 j = x.1 20 j) (h1 : ∀ j, x'.1 21 j = x.1 21 j) (h2 : ∀ j, x'.1 22 j = x.1 22 j) : MvX ρ x' n t := ⟨h8.trans h.1, h.2.1, h.2.2.1, h.2.2.2.1, h.2.2.2.2.1, h.2.2.2.2.2.1, RowZ_w h.2.2.2.2.2.2 h0 h1 h2⟩
theorem MvX_tvD {nr f : Nat} {t : List Nat} : ∀ (k : Nat) {ρ : Rp} (x : Xs) (n r z : Nat) (a9 : Nat → Nat), r + k < nr → MvX ρ x n (k * ((t.length + 1) * (nr + 2)) + z) → MvX (gR ρ a9 (capT ρ.2.2.2.1 (tvD nr f t k x n r).1.2)) (tvD nr f t k x n r).1.1 (tvD nr f t k x n r).1.2 z
  | 0, _, _, _, _, _, _, _, h => MvX_0 (MvX_le h (by omega))
  | k + 1, ρ, x, n, r, z, a9, hc, h => by
    have hm : (k + 1) * ((t.length + 1) * (nr + 2)) = k * ((t.length + 1) * (nr + 2)) + (t.length + 1) * (nr + 2) := by rw [Nat.add_mul k 1, Nat.one_mul]
    have h1 : MvX (gR ρ a9 (capT ρ.2.2.2.1 (tryP x n nr r true f t).1.2)) (tryP x n nr r true f t).1.1 (tryP x n nr r true f t).1.2 (k * ((t.length + 1) * (nr + 2)) + z) := MvX_tryP (by omega) (MvX_le h (by omega))
    rw [tvD]
    split
    · have g2 := tvD_ge (nr := nr) (f := f) (t := t) k (tryP x n nr r true f t).1.1 (tryP x n nr r true f t).1.2 (r + 1) (by omega)
      have g1 := tryP_ge (x := x) (n := n) (nr := nr) (lk := r) (dn := true) (f := f) (t := t) (by omega)
      have hv := h.2.2.2.1
      exact MvX_two (MvX_tvD k _ _ _ z a9 (by omega) h1) g2.1 (by omega)
    · exact MvX_w (x := (tryP x n nr r true f t).1.1) (MvX_le h1 (by omega)) rfl (fun _ => rfl) (fun _ => rfl) (fun _ => rfl)
def tvU (nr f : Nat) (t : List Nat) : Nat → Xs → Nat → Nat → (Xs × Nat) × Int32
  | 0, x, n, _ => ((x, n), 1)
  | k + 1, x, n, r => if (tryP x n nr (r - 1) false f t).2 = 0 then tvU nr f t k (tryP x n nr (r - 1) false f t).1.1 (tryP x n nr (r - 1) false f t).1.2 (r - 1) else ((xI (xI (tryP x n nr (r - 1) false f t).1.1 0 10 (tryP x n nr (r - 1) false f t).2) 0 11 (nI (r - 1)), (tryP x n nr (r - 1) false f t).1.2), 0)
theorem tvU_ge {nr f : Nat} {t : List Nat} : ∀ (k : Nat) (x : Xs) (n r : Nat), k ≤ r ∧ r < nr → n ≤ (tvU nr f t k x n r).1.2 ∧ (tvU nr f t k x n r).1.2 ≤ n + k * ((t.length + 1) * (nr + 2))
  | 0, _, n, _, _ => ⟨Nat.le_refl n, Nat.le_add_right n _⟩
  | k + 1, x, n, r, hc => by
    have hm : (k + 1) * ((t.length + 1) * (nr + 2)) = k * ((t.length + 1) * (nr + 2)) + (t.length + 1) * (nr + 2) := by rw [Nat.add_mul k 1, Nat.one_mul]
    have g := tryP_ge (x := x) (n := n) (nr := nr) (lk := (r - 1)) (dn := false) (f := f) (t := t) (by omega)
    rw [tvU]
    split
    · have g2 := tvU_ge (nr := nr) (f := f) (t := t) k (tryP x n nr (r - 1) false f t).1.1 (tryP x n nr (r - 1) false f t).1.2 (r - 1) (by omega)
      omega
    · exact ⟨g.1, by show (tryP x n nr (r - 1) false f t).1.2 ≤ _; omega⟩
theorem tvU_x {nr f : Nat} {t : List Nat} : ∀ (k : Nat) (x : Xs) (n r : Nat), (tvU nr f t k x n r).1.1.2 = x.2
  | 0, _, _, _ => rfl
  | k + 1, x, n, r => by
    rw [tvU]
    split
    · exact (tvU_x k _ _ _).trans tryP_x
    · exact tryP_x (x := x)
theorem tvU_1 {nr f p j : Nat} {t : List Nat} (h4 : p ≠ 4) (h5 : p ≠ 5) (h8 : p ≠ 8) (h0 : p ≠ 20) (h1 : p ≠ 21) (h2 : p ≠ 22) (h9 : p ≠ 0) : ∀ (k : Nat) (x : Xs) (n r : Nat), (tvU nr f t k x n r).1.1.1 p j = x.1 p j
  | 0, _, _, _ => rfl
  | k + 1, x, n, r => by
    rw [tvU]
    split
    · exact (tvU_1 h4 h5 h8 h0 h1 h2 h9 k _ _ _).trans (tryP_1 h4 h5 h8 h0 h1 h2)
    · simp only [xI]
      rw [up2_p h9, up2_p h9]
      exact tryP_1 h4 h5 h8 h0 h1 h2
theorem tvU_0 {nr f j : Nat} {t : List Nat} (hj : j ≠ 10) (hj1 : j ≠ 11) : ∀ (k : Nat) (x : Xs) (n r : Nat), (tvU nr f t k x n r).1.1.1 0 j = x.1 0 j
  | 0, _, _, _ => rfl
  | k + 1, x, n, r => by
    rw [tvU]
    split
    · exact (tvU_0 hj hj1 k _ _ _).trans (tryP_1 (by decide) (by decide) (by decide) (by decide) (by decide) (by decide))
    · simp only [xI]
      rw [up2_k hj1, up2_k hj]
      exact tryP_1 (by decide) (by decide) (by decide) (by decide) (by decide) (by decide)
theorem MvX_wU {x' : Xs} {n t : Nat} (h : MvX ρ x n t) (h8 : x'.1 8 3 = x.1 8 3) (h0 : ∀ j, x'.1 20 j = x.1 20 j) (h1 : ∀ j, x'.1 21 j = x.1 21 j) (h2 : ∀ j, x'.1 22 j = x.1 22 j) : MvX ρ x' n t := ⟨h8.trans h.1, h.2.1, h.2.2.1, h.2.2.2.1, h.2.2.2.2.1, h.2.2.2.2.2.1, RowZ_w h.2.2.2.2.2.2 h0 h1 h2⟩
theorem MvX_tvU {nr f : Nat} {t : List Nat} : ∀ (k : Nat) {ρ : Rp} (x : Xs) (n r z : Nat) (a9 : Nat → Nat), k ≤ r ∧ r < nr → MvX ρ x n (k * ((t.length + 1) * (nr + 2)) + z) → MvX (gR ρ a9 (capT ρ.2.2.2.1 (tvU nr f t k x n r).1.2)) (tvU nr f t k x n r).1.1 (tvU nr f t k x n r).1.2 z
  | 0, _, _, _, _, _, _, _, h => MvX_0 (MvX_le h (by omega))
  | k + 1, ρ, x, n, r, z, a9, hc, h => by
    have hm : (k + 1) * ((t.length + 1) * (nr + 2)) = k * ((t.length + 1) * (nr + 2)) + (t.length + 1) * (nr + 2) := by rw [Nat.add_mul k 1, Nat.one_mul]
    have h1 : MvX (gR ρ a9 (capT ρ.2.2.2.1 (tryP x n nr (r - 1) false f t).1.2)) (tryP x n nr (r - 1) false f t).1.1 (tryP x n nr (r - 1) false f t).1.2 (k * ((t.length + 1) * (nr + 2)) + z) := MvX_tryP (by omega) (MvX_le h (by omega))
    rw [tvU]
    split
    · have g2 := tvU_ge (nr := nr) (f := f) (t := t) k (tryP x n nr (r - 1) false f t).1.1 (tryP x n nr (r - 1) false f t).1.2 (r - 1) (by omega)
      have g1 := tryP_ge (x := x) (n := n) (nr := nr) (lk := (r - 1)) (dn := false) (f := f) (t := t) (by omega)
      have hv := h.2.2.2.1
      exact MvX_two (MvX_tvU k _ _ _ z a9 (by omega) h1) g2.1 (by omega)
    · exact MvX_w (x := (tryP x n nr (r - 1) false f t).1.1) (MvX_le h1 (by omega)) rfl (fun _ => rfl) (fun _ => rfl) (fun _ => rfl)
theorem nI_sub2 (r i : Nat) (h : 1 ≤ r) : nI (r + i) - 1 - nI i = nI (r - 1) := by
  rw [show nI (r + i) - 1 = nI (r + i - 1) from pk_sub (b := 1) (by omega), pk_sub (by omega)]
  exact congrArg nI (by omega)
set_option maxHeartbeats 4000000 in
set_option maxRecDepth 100000 in
theorem XtvD_l (hG : az_okS l G) {p : Program} {e : Env} {s : State} {mm : MethodId} {args : Array Value} {below : List Frame} {meth : Method} {c : Code} (C : az_C l G p s mm args meth c cX3_tryVoyage yX3_tryVoyage.cls 9 (Option.some FieldType.boolean) []) {mc ms : Nat} (nr f : Nat) (t : List Nat) (r0 dst cnt : Nat) (hc6 : cnt ≤ 6) : ∀ (k : Nat) {ρ : Rp} {x : Xs} (k9 n9 n r i : Nat) (hri : r = r0 + i) (hki : i + k = cnt) (hcd : r + k < nr) (h : PvX ρ.2.2.2.2.2 x nr f t) (hv : MvX ρ x n (k * ((t.length + 1) * (nr + 2)))) (hcl : k9 + ((capT ρ.2.2.2.1 (tvD nr f t k x n r).1.2) - ρ.2.2.2.1) ≤ mc) (hsl : n9 + 6 * ((capT ρ.2.2.2.1 (tvD nr f t k x n r).1.2) - ρ.2.2.2.1) ≤ ms), az_W l G 9 (az_Q G (az_g G (some (.int (tvD nr f t k x n r).2)) ρ (capT ρ.2.2.2.1 (tvD nr f t k x n r).1.2) (tvD nr f t k x n r).1.1 m ou) below args s mc ms) p e (az_rm 7 mc ms) s mm args below meth c (AD ρ) (KK G ρ x m ou) k9 n9 28 [(6, .int (nI i)), (5, .int (nI cnt)), (4, .int 1), (3, .int (nI r0)), (2, .int (nI dst)), (1, .ref (ρ.2.2.1 f)), (0, .ref (ρ.1 0))] [] := by
  intro k
  induction k with
  | zero =>
    intro ρ x k9 n9 n r i hri hki hcd h hv hcl hsl
    obtain rfl : i = cnt := by omega
    refine az_iload C 0 dX3_tryVoyage_28 rfl ?_
    refine az_iload C 1 dX3_tryVoyage_30 rfl ?_
    refine az_icmp_ge C 91 dX3_tryVoyage_32 (by decide) (fun _ => ?_) (fun q => absurd (Int32.le_refl _) q)
    refine az_iconst C (v := 1) dX3_tryVoyage_91 (by decide) ?_
    exact az_zret C .boolean rfl rfl dX3_tryVoyage_92 (by omega) (by omega) ⟨ρ.2.1, rfl, rfl, by rw [show capT ρ.2.2.2.1 (tvD nr f t 0 x n r).1.2 = ρ.2.2.2.1 from capT_self hv.2.2.1], by rw [show capT ρ.2.2.2.1 (tvD nr f t 0 x n r).1.2 = ρ.2.2.2.1 from capT_self hv.2.2.1]; rfl⟩
  | succ k ih =>
    intro ρ x k9 n9 n r i hri hki hcd h hv hcl hsl
    have hn6 := h.2.1
    have hm : (k + 1) * ((t.length + 1) * (nr + 2)) = k * ((t.length + 1) * (nr + 2)) + (t.length + 1) * (nr + 2) := by rw [Nat.add_mul k 1, Nat.one_mul]
    have h1 := tryP_ge (x := x) (n := n) (nr := nr) (lk := r) (dn := true) (f := f) (t := t) (by omega)
    have hv1 := hv.2.2.2.1
    have c0 : ρ.2.2.2.1 ≤ capT ρ.2.2.2.1 (tryP x n nr r true f t).1.2 := capT_ge
    by_cases hz : (tryP x n nr r true f t).2 = 0
    · have hE : tvD nr f t (k + 1) x n r = tvD nr f t k (tryP x n nr r true f t).1.1 (tryP x n nr r true f t).1.2 (r + 1) := by rw [tvD, if_pos hz]
      have h2 := tvD_ge (nr := nr) (f := f) (t := t) k (tryP x n nr r true f t).1.1 (tryP x n nr r true f t).1.2 (r + 1) (by omega)
      rw [hE] at hcl hsl ⊢
      have c1 := capT_le (c := ρ.2.2.2.1) h2.1
      have c2 : capT (capT ρ.2.2.2.1 (tryP x n nr r true f t).1.2) (tvD nr f t k (tryP x n nr r true f t).1.1 (tryP x n nr r true f t).1.2 (r + 1)).1.2 = capT ρ.2.2.2.1 (tvD nr f t k (tryP x n nr r true f t).1.1 (tryP x n nr r true f t).1.2 (r + 1)).1.2 := capT_c h2.1 (by omega)
      refine az_iload C 0 dX3_tryVoyage_28 rfl ?_
      refine az_iload C 1 dX3_tryVoyage_30 rfl ?_
      refine az_icmp_ge C 91 dX3_tryVoyage_32 (by decide) (fun q => absurd q (nlt_nle (show i < cnt by omega) (by omega))) (fun _ => ?_)
      refine az_iload C 2 dX3_tryVoyage_35 rfl ?_
      refine az_if_eq C 47 dX3_tryVoyage_37 (by decide) (fun q => absurd q (by decide)) (fun _ => ?_)
      refine az_iload_n C 3 dX3_tryVoyage_40 rfl ?_
      refine az_iload C 0 dX3_tryVoyage_41 rfl ?_
      refine az_iadd C dX3_tryVoyage_43 ?_
      refine az_goto C 53 dX3_tryVoyage_44 (by decide) ?_
      refine az_top (nI r) (by rw [hri]; exact nI_add r0 i) ?_
      refine az_istore C (lv' := [(7, .int (nI r)), (6, .int (nI i)), (5, .int (nI cnt)), (4, .int 1), (3, .int (nI r0)), (2, .int (nI dst)), (1, .ref (ρ.2.2.1 f)), (0, .ref (ρ.1 0))]) dX3_tryVoyage_53 (by decide) rfl ?_
      refine az_aload_n C 7 dX3_tryVoyage_55 rfl ?_
      refine az_aload_n C 6 dX3_tryVoyage_56 rfl ?_
      refine az_iload C 0 dX3_tryVoyage_57 rfl ?_
      refine az_iload C 3 dX3_tryVoyage_59 rfl ?_
      refine az_callV C Y_X3_tryPassage cX3 0 0 [.ref (ρ.2.2.1 f), .int (nI r), .int 1] [] wm_X3_362 wi_X3_tryPassage wse_X3_tryPassage dX3_tryVoyage_61 rfl rfl rfl (XtryP1 hG nr r f t (by omega) h n (MvX_le hv (by omega))) rfl (Nat.le_of_ble_eq_true rfl) (Nat.le_of_ble_eq_true rfl) (Nat.le_of_ble_eq_true rfl) (by show _ ≤ mc; omega) (by show _ ≤ ms; omega) ?_ (by rintro E ad9 K9 ⟨q9, -, h9, -⟩; cases h9)
      rintro v9 ad9 K9 ⟨a9, ha9, h9, rfl, rfl⟩
      cases h9
      refine az_istore C (lv' := [(8, .int ((tryP x n nr r true f t).2)), (7, .int (nI r)), (6, .int (nI i)), (5, .int (nI cnt)), (4, .int 1), (3, .int (nI r0)), (2, .int (nI dst)), (1, .ref (ρ.2.2.1 f)), (0, .ref (ρ.1 0))]) dX3_tryVoyage_64 (by decide) rfl ?_
      refine az_iload C 0 dX3_tryVoyage_66 rfl ?_
      refine az_if_eq C 85 dX3_tryVoyage_68 (by decide) (fun _ => ?_) (fun q => absurd hz q)
      refine az_iinc C 2 (v := nI (i + 1)) (lv' := [(6, .int (nI (i + 1))), (8, .int ((tryP x n nr r true f t).2)), (7, .int (nI r)), (5, .int (nI cnt)), (4, .int 1), (3, .int (nI r0)), (2, .int (nI dst)), (1, .ref (ρ.2.2.1 f)), (0, .ref (ρ.1 0))]) dX3_tryVoyage_85 rfl (nI_1 i) (by decide) rfl ?_
      refine az_goto C 28 dX3_tryVoyage_88 (by decide) ?_
      rw [← az_gg (ρ := ρ) (a9 := a9) (C' := capT ρ.2.2.2.1 (tryP x n nr r true f t).1.2) ha9, ← c2]
      exact az_lv [0, 3, 4, 5, 6, 7, 8] rfl (ih (ρ := gR ρ a9 (capT ρ.2.2.2.1 (tryP x n nr r true f t).1.2)) (x := (tryP x n nr r true f t).1.1) _ _ (tryP x n nr r true f t).1.2 (r + 1) (i + 1) (by omega) (by omega) (by omega) (h.to (tryP_1 (by decide) (by decide) (by decide) (by decide) (by decide) (by decide)) (fun _ => tryP_1 (by decide) (by decide) (by decide) (by decide) (by decide) (by decide)) tryP_x) (MvX_tryP (by omega) (MvX_le hv (by omega))) (by show _ + (capT (capT ρ.2.2.2.1 (tryP x n nr r true f t).1.2) _ - capT ρ.2.2.2.1 (tryP x n nr r true f t).1.2) ≤ mc; rw [c2]; exact kcap c0 c1 hcl) (by show _ + 6 * (capT (capT ρ.2.2.2.1 (tryP x n nr r true f t).1.2) _ - capT ρ.2.2.2.1 (tryP x n nr r true f t).1.2) ≤ ms; rw [c2]; exact ncap c0 c1 hsl))
    · have hE : tvD nr f t (k + 1) x n r = ((xI (xI (tryP x n nr r true f t).1.1 0 10 (tryP x n nr r true f t).2) 0 11 (nI r), (tryP x n nr r true f t).1.2), 0) := by rw [tvD, if_neg hz]
      rw [hE] at hcl hsl ⊢
      refine az_iload C 0 dX3_tryVoyage_28 rfl ?_
      refine az_iload C 1 dX3_tryVoyage_30 rfl ?_
      refine az_icmp_ge C 91 dX3_tryVoyage_32 (by decide) (fun q => absurd q (nlt_nle (show i < cnt by omega) (by omega))) (fun _ => ?_)
      refine az_iload C 2 dX3_tryVoyage_35 rfl ?_
      refine az_if_eq C 47 dX3_tryVoyage_37 (by decide) (fun q => absurd q (by decide)) (fun _ => ?_)
      refine az_iload_n C 3 dX3_tryVoyage_40 rfl ?_
      refine az_iload C 0 dX3_tryVoyage_41 rfl ?_
      refine az_iadd C dX3_tryVoyage_43 ?_
      refine az_goto C 53 dX3_tryVoyage_44 (by decide) ?_
      refine az_top (nI r) (by rw [hri]; exact nI_add r0 i) ?_
      refine az_istore C (lv' := [(7, .int (nI r)), (6, .int (nI i)), (5, .int (nI cnt)), (4, .int 1), (3, .int (nI r0)), (2, .int (nI dst)), (1, .ref (ρ.2.2.1 f)), (0, .ref (ρ.1 0))]) dX3_tryVoyage_53 (by decide) rfl ?_
      refine az_aload_n C 7 dX3_tryVoyage_55 rfl ?_
      refine az_aload_n C 6 dX3_tryVoyage_56 rfl ?_
      refine az_iload C 0 dX3_tryVoyage_57 rfl ?_
      refine az_iload C 3 dX3_tryVoyage_59 rfl ?_
      refine az_callV C Y_X3_tryPassage cX3 0 0 [.ref (ρ.2.2.1 f), .int (nI r), .int 1] [] wm_X3_362 wi_X3_tryPassage wse_X3_tryPassage dX3_tryVoyage_61 rfl rfl rfl (XtryP1 hG nr r f t (by omega) h n (MvX_le hv (by omega))) rfl (Nat.le_of_ble_eq_true rfl) (Nat.le_of_ble_eq_true rfl) (Nat.le_of_ble_eq_true rfl) (by show _ ≤ mc; omega) (by show _ ≤ ms; omega) ?_ (by rintro E ad9 K9 ⟨q9, -, h9, -⟩; cases h9)
      rintro v9 ad9 K9 ⟨a9, ha9, h9, rfl, rfl⟩
      cases h9
      refine az_istore C (lv' := [(8, .int ((tryP x n nr r true f t).2)), (7, .int (nI r)), (6, .int (nI i)), (5, .int (nI cnt)), (4, .int 1), (3, .int (nI r0)), (2, .int (nI dst)), (1, .ref (ρ.2.2.1 f)), (0, .ref (ρ.1 0))]) dX3_tryVoyage_64 (by decide) rfl ?_
      refine az_iload C 0 dX3_tryVoyage_66 rfl ?_
      refine az_if_eq C 85 dX3_tryVoyage_68 (by decide) (fun q => absurd q hz) (fun _ => ?_)
      refine az_aload_n C 8 dX3_tryVoyage_71 rfl ?_
      refine az_iload C 0 dX3_tryVoyage_72 rfl ?_
      refine az_put C cX3 0 0 10 wl_X3_351 dX3_tryVoyage_74 rfl rfl (by decide) (Nat.le_of_ble_eq_true rfl) rfl rfl rfl (az_to rfl (K' := (KK G (gR ρ a9 (capT ρ.2.2.2.1 (tryP x n nr r true f t).1.2)) (xI (tryP x n nr r true f t).1.1 0 10 ((tryP x n nr r true f t).2)) m ou)) (KK_X rfl) ?_)
      refine az_aload_n C 8 dX3_tryVoyage_77 rfl ?_
      refine az_iload C 1 dX3_tryVoyage_78 rfl ?_
      refine az_put C cX3 0 0 11 wl_X3_354 dX3_tryVoyage_80 rfl rfl (by decide) (Nat.le_of_ble_eq_true rfl) rfl rfl rfl (az_to rfl (K' := (KK G (gR ρ a9 (capT ρ.2.2.2.1 (tryP x n nr r true f t).1.2)) (xI (xI (tryP x n nr r true f t).1.1 0 10 ((tryP x n nr r true f t).2)) 0 11 (nI r)) m ou)) (KK_X rfl) ?_)
      refine az_iconst C (v := 0) dX3_tryVoyage_83 (by decide) ?_
      exact az_zret C .boolean rfl rfl dX3_tryVoyage_84 hcl hsl ⟨a9, ha9, rfl, rfl, rfl⟩

set_option maxHeartbeats 4000000 in
set_option maxRecDepth 100000 in
theorem XtvU_l (hG : az_okS l G) {p : Program} {e : Env} {s : State} {mm : MethodId} {args : Array Value} {below : List Frame} {meth : Method} {c : Code} (C : az_C l G p s mm args meth c cX3_tryVoyage yX3_tryVoyage.cls 9 (Option.some FieldType.boolean) []) {mc ms : Nat} (nr f : Nat) (t : List Nat) (r0 dst cnt : Nat) (hc6 : cnt ≤ 6) : ∀ (k : Nat) {ρ : Rp} {x : Xs} (k9 n9 n r i : Nat) (hri : r0 = r + i) (hki : i + k = cnt) (hcd : k ≤ r ∧ r < nr) (h : PvX ρ.2.2.2.2.2 x nr f t) (hv : MvX ρ x n (k * ((t.length + 1) * (nr + 2)))) (hcl : k9 + ((capT ρ.2.2.2.1 (tvU nr f t k x n r).1.2) - ρ.2.2.2.1) ≤ mc) (hsl : n9 + 6 * ((capT ρ.2.2.2.1 (tvU nr f t k x n r).1.2) - ρ.2.2.2.1) ≤ ms), az_W l G 9 (az_Q G (az_g G (some (.int (tvU nr f t k x n r).2)) ρ (capT ρ.2.2.2.1 (tvU nr f t k x n r).1.2) (tvU nr f t k x n r).1.1 m ou) below args s mc ms) p e (az_rm 7 mc ms) s mm args below meth c (AD ρ) (KK G ρ x m ou) k9 n9 28 [(6, .int (nI i)), (5, .int (nI cnt)), (4, .int 0), (3, .int (nI r0)), (2, .int (nI dst)), (1, .ref (ρ.2.2.1 f)), (0, .ref (ρ.1 0))] [] := by
  intro k
  induction k with
  | zero =>
    intro ρ x k9 n9 n r i hri hki hcd h hv hcl hsl
    obtain rfl : i = cnt := by omega
    refine az_iload C 0 dX3_tryVoyage_28 rfl ?_
    refine az_iload C 1 dX3_tryVoyage_30 rfl ?_
    refine az_icmp_ge C 91 dX3_tryVoyage_32 (by decide) (fun _ => ?_) (fun q => absurd (Int32.le_refl _) q)
    refine az_iconst C (v := 1) dX3_tryVoyage_91 (by decide) ?_
    exact az_zret C .boolean rfl rfl dX3_tryVoyage_92 (by omega) (by omega) ⟨ρ.2.1, rfl, rfl, by rw [show capT ρ.2.2.2.1 (tvU nr f t 0 x n r).1.2 = ρ.2.2.2.1 from capT_self hv.2.2.1], by rw [show capT ρ.2.2.2.1 (tvU nr f t 0 x n r).1.2 = ρ.2.2.2.1 from capT_self hv.2.2.1]; rfl⟩
  | succ k ih =>
    intro ρ x k9 n9 n r i hri hki hcd h hv hcl hsl
    have hn6 := h.2.1
    have hm : (k + 1) * ((t.length + 1) * (nr + 2)) = k * ((t.length + 1) * (nr + 2)) + (t.length + 1) * (nr + 2) := by rw [Nat.add_mul k 1, Nat.one_mul]
    have h1 := tryP_ge (x := x) (n := n) (nr := nr) (lk := (r - 1)) (dn := false) (f := f) (t := t) (by omega)
    have hv1 := hv.2.2.2.1
    have c0 : ρ.2.2.2.1 ≤ capT ρ.2.2.2.1 (tryP x n nr (r - 1) false f t).1.2 := capT_ge
    by_cases hz : (tryP x n nr (r - 1) false f t).2 = 0
    · have hE : tvU nr f t (k + 1) x n r = tvU nr f t k (tryP x n nr (r - 1) false f t).1.1 (tryP x n nr (r - 1) false f t).1.2 (r - 1) := by rw [tvU, if_pos hz]
      have h2 := tvU_ge (nr := nr) (f := f) (t := t) k (tryP x n nr (r - 1) false f t).1.1 (tryP x n nr (r - 1) false f t).1.2 (r - 1) (by omega)
      rw [hE] at hcl hsl ⊢
      have c1 := capT_le (c := ρ.2.2.2.1) h2.1
      have c2 : capT (capT ρ.2.2.2.1 (tryP x n nr (r - 1) false f t).1.2) (tvU nr f t k (tryP x n nr (r - 1) false f t).1.1 (tryP x n nr (r - 1) false f t).1.2 (r - 1)).1.2 = capT ρ.2.2.2.1 (tvU nr f t k (tryP x n nr (r - 1) false f t).1.1 (tryP x n nr (r - 1) false f t).1.2 (r - 1)).1.2 := capT_c h2.1 (by omega)
      refine az_iload C 0 dX3_tryVoyage_28 rfl ?_
      refine az_iload C 1 dX3_tryVoyage_30 rfl ?_
      refine az_icmp_ge C 91 dX3_tryVoyage_32 (by decide) (fun q => absurd q (nlt_nle (show i < cnt by omega) (by omega))) (fun _ => ?_)
      refine az_iload C 2 dX3_tryVoyage_35 rfl ?_
      refine az_if_eq C 47 dX3_tryVoyage_37 (by decide) (fun _ => ?_) (fun q => absurd (by decide) q)
      refine az_iload_n C 3 dX3_tryVoyage_47 rfl ?_
      refine az_iconst C (v := 1) dX3_tryVoyage_48 (by decide) ?_
      refine az_isub C dX3_tryVoyage_49 ?_
      refine az_iload C 0 dX3_tryVoyage_50 rfl ?_
      refine az_isub C dX3_tryVoyage_52 ?_
      refine az_top (nI (r - 1)) (by rw [hri]; exact nI_sub2 r i (by omega)) ?_
      refine az_istore C (lv' := [(7, .int (nI (r - 1))), (6, .int (nI i)), (5, .int (nI cnt)), (4, .int 0), (3, .int (nI r0)), (2, .int (nI dst)), (1, .ref (ρ.2.2.1 f)), (0, .ref (ρ.1 0))]) dX3_tryVoyage_53 (by decide) rfl ?_
      refine az_aload_n C 7 dX3_tryVoyage_55 rfl ?_
      refine az_aload_n C 6 dX3_tryVoyage_56 rfl ?_
      refine az_iload C 0 dX3_tryVoyage_57 rfl ?_
      refine az_iload C 3 dX3_tryVoyage_59 rfl ?_
      refine az_callV C Y_X3_tryPassage cX3 0 0 [.ref (ρ.2.2.1 f), .int (nI (r - 1)), .int 0] [] wm_X3_362 wi_X3_tryPassage wse_X3_tryPassage dX3_tryVoyage_61 rfl rfl rfl (XtryP0 hG nr (r - 1) f t (by omega) h n (MvX_le hv (by omega))) rfl (Nat.le_of_ble_eq_true rfl) (Nat.le_of_ble_eq_true rfl) (Nat.le_of_ble_eq_true rfl) (by show _ ≤ mc; omega) (by show _ ≤ ms; omega) ?_ (by rintro E ad9 K9 ⟨q9, -, h9, -⟩; cases h9)
      rintro v9 ad9 K9 ⟨a9, ha9, h9, rfl, rfl⟩
      cases h9
      refine az_istore C (lv' := [(8, .int ((tryP x n nr (r - 1) false f t).2)), (7, .int (nI (r - 1))), (6, .int (nI i)), (5, .int (nI cnt)), (4, .int 0), (3, .int (nI r0)), (2, .int (nI dst)), (1, .ref (ρ.2.2.1 f)), (0, .ref (ρ.1 0))]) dX3_tryVoyage_64 (by decide) rfl ?_
      refine az_iload C 0 dX3_tryVoyage_66 rfl ?_
      refine az_if_eq C 85 dX3_tryVoyage_68 (by decide) (fun _ => ?_) (fun q => absurd hz q)
      refine az_iinc C 2 (v := nI (i + 1)) (lv' := [(6, .int (nI (i + 1))), (8, .int ((tryP x n nr (r - 1) false f t).2)), (7, .int (nI (r - 1))), (5, .int (nI cnt)), (4, .int 0), (3, .int (nI r0)), (2, .int (nI dst)), (1, .ref (ρ.2.2.1 f)), (0, .ref (ρ.1 0))]) dX3_tryVoyage_85 rfl (nI_1 i) (by decide) rfl ?_
      refine az_goto C 28 dX3_tryVoyage_88 (by decide) ?_
      rw [← az_gg (ρ := ρ) (a9 := a9) (C' := capT ρ.2.2.2.1 (tryP x n nr (r - 1) false f t).1.2) ha9, ← c2]
      exact az_lv [0, 3, 4, 5, 6, 7, 8] rfl (ih (ρ := gR ρ a9 (capT ρ.2.2.2.1 (tryP x n nr (r - 1) false f t).1.2)) (x := (tryP x n nr (r - 1) false f t).1.1) _ _ (tryP x n nr (r - 1) false f t).1.2 (r - 1) (i + 1) (by omega) (by omega) (by omega) (h.to (tryP_1 (by decide) (by decide) (by decide) (by decide) (by decide) (by decide)) (fun _ => tryP_1 (by decide) (by decide) (by decide) (by decide) (by decide) (by decide)) tryP_x) (MvX_tryP (by omega) (MvX_le hv (by omega))) (by show _ + (capT (capT ρ.2.2.2.1 (tryP x n nr (r - 1) false f t).1.2) _ - capT ρ.2.2.2.1 (tryP x n nr (r - 1) false f t).1.2) ≤ mc; rw [c2]; exact kcap c0 c1 hcl) (by show _ + 6 * (capT (capT ρ.2.2.2.1 (tryP x n nr (r - 1) false f t).1.2) _ - capT ρ.2.2.2.1 (tryP x n nr (r - 1) false f t).1.2) ≤ ms; rw [c2]; exact ncap c0 c1 hsl))
    · have hE : tvU nr f t (k + 1) x n r = ((xI (xI (tryP x n nr (r - 1) false f t).1.1 0 10 (tryP x n nr (r - 1) false f t).2) 0 11 (nI (r - 1)), (tryP x n nr (r - 1) false f t).1.2), 0) := by rw [tvU, if_neg hz]
      rw [hE] at hcl hsl ⊢
      refine az_iload C 0 dX3_tryVoyage_28 rfl ?_
      refine az_iload C 1 dX3_tryVoyage_30 rfl ?_
      refine az_icmp_ge C 91 dX3_tryVoyage_32 (by decide) (fun q => absurd q (nlt_nle (show i < cnt by omega) (by omega))) (fun _ => ?_)
      refine az_iload C 2 dX3_tryVoyage_35 rfl ?_
      refine az_if_eq C 47 dX3_tryVoyage_37 (by decide) (fun _ => ?_) (fun q => absurd (by decide) q)
      refine az_iload_n C 3 dX3_tryVoyage_47 rfl ?_
      refine az_iconst C (v := 1) dX3_tryVoyage_48 (by decide) ?_
      refine az_isub C dX3_tryVoyage_49 ?_
      refine az_iload C 0 dX3_tryVoyage_50 rfl ?_
      refine az_isub C dX3_tryVoyage_52 ?_
      refine az_top (nI (r - 1)) (by rw [hri]; exact nI_sub2 r i (by omega)) ?_
      refine az_istore C (lv' := [(7, .int (nI (r - 1))), (6, .int (nI i)), (5, .int (nI cnt)), (4, .int 0), (3, .int (nI r0)), (2, .int (nI dst)), (1, .ref (ρ.2.2.1 f)), (0, .ref (ρ.1 0))]) dX3_tryVoyage_53 (by decide) rfl ?_
      refine az_aload_n C 7 dX3_tryVoyage_55 rfl ?_
      refine az_aload_n C 6 dX3_tryVoyage_56 rfl ?_
      refine az_iload C 0 dX3_tryVoyage_57 rfl ?_
      refine az_iload C 3 dX3_tryVoyage_59 rfl ?_
      refine az_callV C Y_X3_tryPassage cX3 0 0 [.ref (ρ.2.2.1 f), .int (nI (r - 1)), .int 0] [] wm_X3_362 wi_X3_tryPassage wse_X3_tryPassage dX3_tryVoyage_61 rfl rfl rfl (XtryP0 hG nr (r - 1) f t (by omega) h n (MvX_le hv (by omega))) rfl (Nat.le_of_ble_eq_true rfl) (Nat.le_of_ble_eq_true rfl) (Nat.le_of_ble_eq_true rfl) (by show _ ≤ mc; omega) (by show _ ≤ ms; omega) ?_ (by rintro E ad9 K9 ⟨q9, -, h9, -⟩; cases h9)
      rintro v9 ad9 K9 ⟨a9, ha9, h9, rfl, rfl⟩
      cases h9
      refine az_istore C (lv' := [(8, .int ((tryP x n nr (r - 1) false f t).2)), (7, .int (nI (r - 1))), (6, .int (nI i)), (5, .int (nI cnt)), (4, .int 0), (3, .int (nI r0)), (2, .int (nI dst)), (1, .ref (ρ.2.2.1 f)), (0, .ref (ρ.1 0))]) dX3_tryVoyage_64 (by decide) rfl ?_
      refine az_iload C 0 dX3_tryVoyage_66 rfl ?_
      refine az_if_eq C 85 dX3_tryVoyage_68 (by decide) (fun q => absurd q hz) (fun _ => ?_)
      refine az_aload_n C 8 dX3_tryVoyage_71 rfl ?_
      refine az_iload C 0 dX3_tryVoyage_72 rfl ?_
      refine az_put C cX3 0 0 10 wl_X3_351 dX3_tryVoyage_74 rfl rfl (by decide) (Nat.le_of_ble_eq_true rfl) rfl rfl rfl (az_to rfl (K' := (KK G (gR ρ a9 (capT ρ.2.2.2.1 (tryP x n nr (r - 1) false f t).1.2)) (xI (tryP x n nr (r - 1) false f t).1.1 0 10 ((tryP x n nr (r - 1) false f t).2)) m ou)) (KK_X rfl) ?_)
      refine az_aload_n C 8 dX3_tryVoyage_77 rfl ?_
      refine az_iload C 1 dX3_tryVoyage_78 rfl ?_
      refine az_put C cX3 0 0 11 wl_X3_354 dX3_tryVoyage_80 rfl rfl (by decide) (Nat.le_of_ble_eq_true rfl) rfl rfl rfl (az_to rfl (K' := (KK G (gR ρ a9 (capT ρ.2.2.2.1 (tryP x n nr (r - 1) false f t).1.2)) (xI (xI (tryP x n nr (r - 1) false f t).1.1 0 10 ((tryP x n nr (r - 1) false f t).2)) 0 11 (nI (r - 1))) m ou)) (KK_X rfl) ?_)
      refine az_iconst C (v := 0) dX3_tryVoyage_83 (by decide) ?_
      exact az_zret C .boolean rfl rfl dX3_tryVoyage_84 hcl hsl ⟨a9, ha9, rfl, rfl, rfl⟩

/-- a voyage's water: the state, how many movements, whether it arrives -/
def tvX (x : Xs) (n nr f : Nat) (t : List Nat) (r dst : Nat) : (Xs × Nat) × Int32 := if r < dst then tvD nr f t (dst - r) x n r else tvU nr f t (r - dst) x n r
theorem tvX_ge {n nr f r dst : Nat} {t : List Nat} (hr : r < nr) (hd : dst < nr) : n ≤ (tvX x n nr f t r dst).1.2 ∧ (tvX x n nr f t r dst).1.2 ≤ n + 6 * ((t.length + 1) * (nr + 2)) ∨ 6 < nr := by
  by_cases h6 : 6 < nr
  · exact Or.inr h6
  · refine Or.inl ?_
    unfold tvX; split
    · have g := tvD_ge (nr := nr) (f := f) (t := t) (dst - r) x n r (by omega)
      have : (dst - r) * ((t.length + 1) * (nr + 2)) ≤ 6 * ((t.length + 1) * (nr + 2)) := Nat.mul_le_mul_right _ (by omega)
      omega
    · have g := tvU_ge (nr := nr) (f := f) (t := t) (r - dst) x n r (by omega)
      have : (r - dst) * ((t.length + 1) * (nr + 2)) ≤ 6 * ((t.length + 1) * (nr + 2)) := Nat.mul_le_mul_right _ (by omega)
      omega
theorem tvX_x {n nr f r dst : Nat} {t : List Nat} : (tvX x n nr f t r dst).1.1.2 = x.2 := by
  unfold tvX; split
  · exact tvD_x _ _ _ _
  · exact tvU_x _ _ _ _
theorem tvX_1 {n nr f r dst p j : Nat} {t : List Nat} (h4 : p ≠ 4) (h5 : p ≠ 5) (h8 : p ≠ 8) (h0 : p ≠ 20) (h1 : p ≠ 21) (h2 : p ≠ 22) (h9 : p ≠ 0) : (tvX x n nr f t r dst).1.1.1 p j = x.1 p j := by
  unfold tvX; split
  · exact tvD_1 h4 h5 h8 h0 h1 h2 h9 _ _ _ _
  · exact tvU_1 h4 h5 h8 h0 h1 h2 h9 _ _ _ _
theorem tvX_0 {n nr f r dst j : Nat} {t : List Nat} (hj : j ≠ 10) (hj1 : j ≠ 11) : (tvX x n nr f t r dst).1.1.1 0 j = x.1 0 j := by
  unfold tvX; split
  · exact tvD_0 hj hj1 _ _ _ _
  · exact tvU_0 hj hj1 _ _ _ _
theorem MvX_tv {n nr f r dst z : Nat} {t : List Nat} {a9 : Nat → Nat} (h6 : nr ≤ 6) (hr : r < nr) (hd : dst < nr) (h : MvX ρ x n (6 * ((t.length + 1) * (nr + 2)) + z)) : MvX (gR ρ a9 (capT ρ.2.2.2.1 (tvX x n nr f t r dst).1.2)) (tvX x n nr f t r dst).1.1 (tvX x n nr f t r dst).1.2 z := by
  unfold tvX; split
  · have : (dst - r) * ((t.length + 1) * (nr + 2)) ≤ 6 * ((t.length + 1) * (nr + 2)) := Nat.mul_le_mul_right _ (by omega)
    exact MvX_tvD _ _ _ _ _ _ (by omega) (MvX_le h (by omega))
  · have : (r - dst) * ((t.length + 1) * (nr + 2)) ≤ 6 * ((t.length + 1) * (nr + 2)) := Nat.mul_le_mul_right _ (by omega)
    exact MvX_tvU _ _ _ _ _ _ (by omega) (MvX_le h (by omega))
set_option maxHeartbeats 4000000 in
set_option maxRecDepth 100000 in
theorem XtryVD (hG : az_okS l G) (nr f r dst : Nat) (t : List Nat) (hr : r < nr) (hd : dst < nr) (hat : x.2.1 f 4 = nI r) (h : PvX ρ.2.2.2.2.2 x nr f t) (n : Nat) (hv : MvX ρ x n (6 * ((t.length + 1) * (nr + 2)))) (hlt : r < dst) : az_M l G yX3_tryVoyage (az_ws yX3_tryVoyage cX3_tryVoyage 9 (Option.some FieldType.boolean)) 7 [.ref (ρ.1 0), .ref (ρ.2.2.1 f), .int (nI dst)] (AD ρ) (KK G ρ x m ou) (capT ρ.2.2.2.1 (tvX x n nr f t r dst).1.2 - ρ.2.2.2.1) (6 * (capT ρ.2.2.2.1 (tvX x n nr f t r dst).1.2 - ρ.2.2.2.1)) (az_g G (some (.int (tvX x n nr f t r dst).2)) ρ (capT ρ.2.2.2.1 (tvX x n nr f t r dst).1.2) (tvX x n nr f t r dst).1.1 m ou) := by
  refine az_start hG.1 (by decide +kernel) (Nat.le_of_ble_eq_true rfl) ?_
  intro p e s mm args below meth c C hnm
  show az_W l G 9 _ p e _ s mm args below meth c _ _ 0 0 0 [(0, .ref (ρ.1 0)), (1, .ref (ρ.2.2.1 f)), (2, .int (nI dst))] []
  have hn6 := h.2.1
  have hT : tvX x n nr f t r dst = tvD nr f t (dst - r) x n r := if_pos hlt
  rw [hT]
  refine az_aload_n C 1 dX3_tryVoyage_0 rfl ?_
  refine az_getN C cX0 1 f 4 (v := .int (x.2.1 f 4)) (az_bw C hG nx_X3_159 rfl) dX3_tryVoyage_1 rfl (KK_b h.2.2.2.1.1) rfl (by decide) ?_
  refine az_top (nI r) hat ?_
  refine az_istore_n C (lv' := [(3, .int (nI r)), (0, .ref (ρ.1 0)), (1, .ref (ρ.2.2.1 f)), (2, .int (nI dst))]) (j := 3) rfl dX3_tryVoyage_4 (by decide) rfl ?_
  refine az_iload_n C 3 dX3_tryVoyage_5 rfl ?_
  refine az_iload_n C 0 dX3_tryVoyage_6 rfl ?_
  refine az_icmp_le C 14 dX3_tryVoyage_7 (by decide) (fun q => absurd q (nlt_nle hlt (by omega))) (fun _ => ?_)
  refine az_iconst C (v := 1) dX3_tryVoyage_10 (by decide) ?_
  refine az_goto C 15 dX3_tryVoyage_11 (by decide) ?_
  refine az_istore C (lv' := [(4, .int 1), (3, .int (nI r)), (0, .ref (ρ.1 0)), (1, .ref (ρ.2.2.1 f)), (2, .int (nI dst))]) dX3_tryVoyage_15 (by decide) rfl ?_
  refine az_iload_n C 4 dX3_tryVoyage_17 rfl ?_
  refine az_iload_n C 1 dX3_tryVoyage_18 rfl ?_
  refine az_isub C dX3_tryVoyage_19 ?_
  refine az_top (nI (dst - r)) (pk_sub (by omega)) ?_
  refine az_mabs C wm_X3_359 wst_abs wini_Math wc_abs (Nat.le_of_ble_eq_true rfl) (Nat.le_of_ble_eq_true rfl) (Nat.zero_le _) (Nat.zero_le _) dX3_tryVoyage_20 ?_
  refine az_top (nI (dst - r)) (if_pos (nI_pos' (by omega))) ?_
  refine az_istore C (lv' := [(5, .int (nI (dst - r))), (4, .int 1), (3, .int (nI r)), (0, .ref (ρ.1 0)), (1, .ref (ρ.2.2.1 f)), (2, .int (nI dst))]) dX3_tryVoyage_23 (by decide) rfl ?_
  refine az_iconst C (v := 0) dX3_tryVoyage_25 (by decide) ?_
  refine az_istore C (lv' := [(6, .int 0), (5, .int (nI (dst - r))), (4, .int 1), (3, .int (nI r)), (0, .ref (ρ.1 0)), (1, .ref (ρ.2.2.1 f)), (2, .int (nI dst))]) dX3_tryVoyage_26 (by decide) rfl ?_
  exact az_lv [0, 1, 2, 3, 6, 5, 4] rfl (XtvD_l hG C nr f t r dst (dst - r) (by omega) (dst - r) 0 0 n r 0 (by omega) (by omega) (by omega) h (MvX_le hv (Nat.mul_le_mul_right _ (by omega))) (Nat.le_of_eq (Nat.zero_add _)) (Nat.le_of_eq (Nat.zero_add _)))

theorem nI_abs {k : Nat} (h : k < 2 ^ 30) : (if 0 ≤ -nI k then -nI k else 0 - -nI k) = nI k := by
  by_cases h0 : k = 0
  · subst h0; decide
  · rw [if_neg, Int32.zero_sub, Int32.neg_neg]
    intro z
    rw [Int32.le_iff_toInt_le, Int32.toInt_neg, nI_toInt (by omega)] at z
    have h2 : (-(k : Int)).bmod (2 ^ 32) = -(k : Int) := Int.bmod_eq_of_le (by omega) (by omega)
    rw [h2] at z
    have h3 : (0 : Int32).toInt = 0 := rfl
    rw [h3] at z
    omega
set_option maxHeartbeats 4000000 in
set_option maxRecDepth 100000 in
theorem XtryVU (hG : az_okS l G) (nr f r dst : Nat) (t : List Nat) (hr : r < nr) (hd : dst < nr) (hat : x.2.1 f 4 = nI r) (h : PvX ρ.2.2.2.2.2 x nr f t) (n : Nat) (hv : MvX ρ x n (6 * ((t.length + 1) * (nr + 2)))) (hlt : ¬ r < dst) : az_M l G yX3_tryVoyage (az_ws yX3_tryVoyage cX3_tryVoyage 9 (Option.some FieldType.boolean)) 7 [.ref (ρ.1 0), .ref (ρ.2.2.1 f), .int (nI dst)] (AD ρ) (KK G ρ x m ou) (capT ρ.2.2.2.1 (tvX x n nr f t r dst).1.2 - ρ.2.2.2.1) (6 * (capT ρ.2.2.2.1 (tvX x n nr f t r dst).1.2 - ρ.2.2.2.1)) (az_g G (some (.int (tvX x n nr f t r dst).2)) ρ (capT ρ.2.2.2.1 (tvX x n nr f t r dst).1.2) (tvX x n nr f t r dst).1.1 m ou) := by
  refine az_start hG.1 (by decide +kernel) (Nat.le_of_ble_eq_true rfl) ?_
  intro p e s mm args below meth c C hnm
  show az_W l G 9 _ p e _ s mm args below meth c _ _ 0 0 0 [(0, .ref (ρ.1 0)), (1, .ref (ρ.2.2.1 f)), (2, .int (nI dst))] []
  have hn6 := h.2.1
  have hT : tvX x n nr f t r dst = tvU nr f t (r - dst) x n r := if_neg hlt
  rw [hT]
  refine az_aload_n C 1 dX3_tryVoyage_0 rfl ?_
  refine az_getN C cX0 1 f 4 (v := .int (x.2.1 f 4)) (az_bw C hG nx_X3_159 rfl) dX3_tryVoyage_1 rfl (KK_b h.2.2.2.1.1) rfl (by decide) ?_
  refine az_top (nI r) hat ?_
  refine az_istore_n C (lv' := [(3, .int (nI r)), (0, .ref (ρ.1 0)), (1, .ref (ρ.2.2.1 f)), (2, .int (nI dst))]) (j := 3) rfl dX3_tryVoyage_4 (by decide) rfl ?_
  refine az_iload_n C 3 dX3_tryVoyage_5 rfl ?_
  refine az_iload_n C 0 dX3_tryVoyage_6 rfl ?_
  refine az_icmp_le C 14 dX3_tryVoyage_7 (by decide) (fun _ => ?_) (fun q => absurd (nI_leT (by omega) (by omega)) q)
  refine az_iconst C (v := 0) dX3_tryVoyage_14 (by decide) ?_
  refine az_istore C (lv' := [(4, .int 0), (3, .int (nI r)), (0, .ref (ρ.1 0)), (1, .ref (ρ.2.2.1 f)), (2, .int (nI dst))]) dX3_tryVoyage_15 (by decide) rfl ?_
  refine az_iload_n C 4 dX3_tryVoyage_17 rfl ?_
  refine az_iload_n C 1 dX3_tryVoyage_18 rfl ?_
  refine az_isub C dX3_tryVoyage_19 ?_
  refine az_top (-nI (r - dst)) (by rw [← pk_sub (show dst ≤ r by omega), Int32.neg_sub]) ?_
  refine az_mabs C wm_X3_359 wst_abs wini_Math wc_abs (Nat.le_of_ble_eq_true rfl) (Nat.le_of_ble_eq_true rfl) (Nat.zero_le _) (Nat.zero_le _) dX3_tryVoyage_20 ?_
  refine az_top (nI (r - dst)) (nI_abs (by omega)) ?_
  refine az_istore C (lv' := [(5, .int (nI (r - dst))), (4, .int 0), (3, .int (nI r)), (0, .ref (ρ.1 0)), (1, .ref (ρ.2.2.1 f)), (2, .int (nI dst))]) dX3_tryVoyage_23 (by decide) rfl ?_
  refine az_iconst C (v := 0) dX3_tryVoyage_25 (by decide) ?_
  refine az_istore C (lv' := [(6, .int 0), (5, .int (nI (r - dst))), (4, .int 0), (3, .int (nI r)), (0, .ref (ρ.1 0)), (1, .ref (ρ.2.2.1 f)), (2, .int (nI dst))]) dX3_tryVoyage_26 (by decide) rfl ?_
  exact az_lv [0, 1, 2, 3, 6, 5, 4] rfl (XtvU_l hG C nr f t r dst (r - dst) (by omega) (r - dst) 0 0 n r 0 (by omega) (by omega) (by omega) h (MvX_le hv (Nat.mul_le_mul_right _ (by omega))) (Nat.le_of_eq (Nat.zero_add _)) (Nat.le_of_eq (Nat.zero_add _)))

theorem XtryV (hG : az_okS l G) (nr f r dst : Nat) (t : List Nat) (hr : r < nr) (hd : dst < nr) (hat : x.2.1 f 4 = nI r) (h : PvX ρ.2.2.2.2.2 x nr f t) (n : Nat) (hv : MvX ρ x n (6 * ((t.length + 1) * (nr + 2)))) : az_M l G yX3_tryVoyage (az_ws yX3_tryVoyage cX3_tryVoyage 9 (Option.some FieldType.boolean)) 7 [.ref (ρ.1 0), .ref (ρ.2.2.1 f), .int (nI dst)] (AD ρ) (KK G ρ x m ou) (capT ρ.2.2.2.1 (tvX x n nr f t r dst).1.2 - ρ.2.2.2.1) (6 * (capT ρ.2.2.2.1 (tvX x n nr f t r dst).1.2 - ρ.2.2.2.1)) (az_g G (some (.int (tvX x n nr f t r dst).2)) ρ (capT ρ.2.2.2.1 (tvX x n nr f t r dst).1.2) (tvX x n nr f t r dst).1.1 m ou) := by
  by_cases hlt : r < dst
  · exact XtryVD hG nr f r dst t hr hd hat h n hv hlt
  · exact XtryVU hG nr f r dst t hr hd hat h n hv hlt

end
