section
variable {l : Launch} {G : az_G} {ρ : Rp} {x : Xs} {m : Mz} {ou : Nat → Int64}
theorem tpX_x {nr lk : Nat} {dn : Bool} : ∀ (f : Nat) (x : Xs) (n : Nat) (s9 : List Nat), (tpX nr lk dn f x n s9).1.1.2 = x.2
  | 0, _, _, _ => rfl
  | f + 1, _, _, [] => rfl
  | f + 1, x, n, b :: r => by
    rw [tpX]
    split
    · rfl
    · split
      · exact tpA_x
      · split
        · exact tpC_x.trans (tpB_x.trans tpA_x)
        · exact (tpX_x f _ _ _).trans (tpC_x.trans (tpB_x.trans tpA_x))
theorem tpX_1 {nr lk p j : Nat} {dn : Bool} (h4 : p ≠ 4) (h5 : p ≠ 5) (h8 : p ≠ 8) (h0 : p ≠ 20) (h1 : p ≠ 21) (h2 : p ≠ 22) : ∀ (f : Nat) (x : Xs) (n : Nat) (s9 : List Nat), (tpX nr lk dn f x n s9).1.1.1 p j = x.1 p j
  | 0, _, _, _ => rfl
  | f + 1, _, _, [] => rfl
  | f + 1, x, n, b :: r => by
    have e : (tpC (tpB (tpA x n nr lk dn).1 (tpA x n nr lk dn).2 lk).1 (tpB (tpA x n nr lk dn).1 (tpA x n nr lk dn).2 lk).2 nr lk dn).1.1 p j = x.1 p j := (tpC_1 h4 h5 h8 h0 h1 h2).trans ((tpB_1 h4 h8 h0 h1 h2).trans (tpA_1 h4 h5 h8 h0 h1 h2))
    rw [tpX]
    split
    · rfl
    · split
      · exact tpA_1 h4 h5 h8 h0 h1 h2
      · split
        · exact e
        · exact (tpX_1 h4 h5 h8 h0 h1 h2 f _ _ _).trans e
theorem MvX_tpC {n nr lk t : Nat} {a9 : Nat → Nat} {dn : Bool} (hk : lk + 1 ≤ nr) (h : MvX ρ x n (nr + t)) : MvX (gR ρ a9 (capT ρ.2.2.2.1 (tpC x n nr lk dn).2)) (tpC x n nr lk dn).1 (tpC x n nr lk dn).2 t := by
  unfold tpC; split
  · exact MvX_em hk h
  · exact MvX_0 (MvX_le h (by omega))
/-- two steps one after the other -/
theorem MvX_two {x2 : Xs} {n1 n2 t2 : Nat} {a9 : Nat → Nat} (h2 : MvX (gR (gR ρ a9 (capT ρ.2.2.2.1 n1)) a9 (capT (capT ρ.2.2.2.1 n1) n2)) x2 n2 t2) (hl : n1 ≤ n2) (hc : n2 ≤ 2 * ρ.2.2.2.1) : MvX (gR ρ a9 (capT ρ.2.2.2.1 n2)) x2 n2 t2 := by
  have e : capT (capT ρ.2.2.2.1 n1) n2 = capT ρ.2.2.2.1 n2 := capT_c hl hc
  rw [e] at h2
  exact h2
theorem tpABC {n nr lk t : Nat} {a9 : Nat → Nat} {dn : Bool} (hk : lk + 1 ≤ nr) (h : MvX ρ x n (nr + 2 + t)) : MvX (gR ρ a9 (capT ρ.2.2.2.1 (tpC (tpB (tpA x n nr lk dn).1 (tpA x n nr lk dn).2 lk).1 (tpB (tpA x n nr lk dn).1 (tpA x n nr lk dn).2 lk).2 nr lk dn).2)) (tpC (tpB (tpA x n nr lk dn).1 (tpA x n nr lk dn).2 lk).1 (tpB (tpA x n nr lk dn).1 (tpA x n nr lk dn).2 lk).2 nr lk dn).1 (tpC (tpB (tpA x n nr lk dn).1 (tpA x n nr lk dn).2 lk).1 (tpB (tpA x n nr lk dn).1 (tpA x n nr lk dn).2 lk).2 nr lk dn).2 t ∧ n ≤ (tpC (tpB (tpA x n nr lk dn).1 (tpA x n nr lk dn).2 lk).1 (tpB (tpA x n nr lk dn).1 (tpA x n nr lk dn).2 lk).2 nr lk dn).2 ∧ (tpC (tpB (tpA x n nr lk dn).1 (tpA x n nr lk dn).2 lk).1 (tpB (tpA x n nr lk dn).1 (tpA x n nr lk dn).2 lk).2 nr lk dn).2 ≤ n + (nr + 1) := by
  have gA := tpA_ge (x := x) (n := n) (dn := dn) hk
  have gB := tpB_ge (x := (tpA x n nr lk dn).1) (n := (tpA x n nr lk dn).2) (lk := lk)
  have gC := tpC_ge (x := (tpB (tpA x n nr lk dn).1 (tpA x n nr lk dn).2 lk).1) (n := (tpB (tpA x n nr lk dn).1 (tpA x n nr lk dn).2 lk).2) (dn := dn) hk
  have hs : (if dn = false then nr else 0) + (if dn = false then 0 else nr) = nr := by cases dn <;> simp
  have hv := h.2.2.2.1
  refine ⟨?_, by omega, by omega⟩
  cases dn with
  | false =>
    have h1 : MvX (gR ρ a9 (capT ρ.2.2.2.1 (tpA x n nr lk false).2)) (tpA x n nr lk false).1 (tpA x n nr lk false).2 (t + 1) := MvX_tpA hk (MvX_le h (by omega))
    have h2 := MvX_two (MvX_tpB (a9 := a9) h1) gB.1 (by rw [if_pos rfl] at gA; omega)
    show MvX (gR ρ a9 (capT ρ.2.2.2.1 (tpB (tpA x n nr lk false).1 (tpA x n nr lk false).2 lk).2)) (tpB (tpA x n nr lk false).1 (tpA x n nr lk false).2 lk).1 (tpB (tpA x n nr lk false).1 (tpA x n nr lk false).2 lk).2 t
    exact h2
  | true =>
    have hA : tpA x n nr lk true = (x, n) := if_neg (fun z => by cases z.1)
    rw [hA] at gC gB ⊢
    have h2 : MvX (gR ρ a9 (capT ρ.2.2.2.1 (tpB x n lk).2)) (tpB x n lk).1 (tpB x n lk).2 (nr + t) := MvX_tpB (MvX_le h (by omega))
    have gB' : n ≤ (tpB x n lk).2 ∧ (tpB x n lk).2 ≤ n + 1 := tpB_ge
    have gC' := tpC_ge (x := (tpB x n lk).1) (n := (tpB x n lk).2) (nr := nr) (lk := lk) (dn := true) hk
    rw [if_neg (by decide)] at gC'
    exact MvX_two (MvX_tpC (a9 := a9) hk h2) gC'.1 (by omega)
theorem MvX_tpX {nr lk : Nat} {dn : Bool} (hk : lk + 1 ≤ nr) : ∀ (f : Nat) {ρ : Rp} (x : Xs) (n t : Nat) (s9 : List Nat) (a9 : Nat → Nat), MvX ρ x n (f * (nr + 2) + t) → MvX (gR ρ a9 (capT ρ.2.2.2.1 (tpX nr lk dn f x n s9).1.2)) (tpX nr lk dn f x n s9).1.1 (tpX nr lk dn f x n s9).1.2 t
  | 0, _, _, _, _, _, _, h => MvX_0 (MvX_le h (by omega))
  | f + 1, _, _, _, _, [], _, h => MvX_0 (MvX_le h (by omega))
  | f + 1, ρ, x, n, t, b :: r, a9, h => by
    have hm : (f + 1) * (nr + 2) = f * (nr + 2) + (nr + 2) := by rw [Nat.add_mul f 1, Nat.one_mul]
    have hC := tpABC (a9 := a9) (t := f * (nr + 2) + t) (dn := dn) hk (MvX_le h (by omega))
    have g := tpX_ge (dn := dn) hk f (tpC (tpB (tpA x n nr lk dn).1 (tpA x n nr lk dn).2 lk).1 (tpB (tpA x n nr lk dn).1 (tpA x n nr lk dn).2 lk).2 nr lk dn).1 (tpC (tpB (tpA x n nr lk dn).1 (tpA x n nr lk dn).2 lk).1 (tpB (tpA x n nr lk dn).1 (tpA x n nr lk dn).2 lk).2 nr lk dn).2 (epX x (x.1 9 lk) r (x.2.1 b 1))
    have hv := h.2.2.2.1
    rw [tpX]
    split
    · exact MvX_0 (MvX_le h (by omega))
    · split
      · exact MvX_tpA hk (MvX_le h (by omega))
      · split
        · exact MvX_le hC.1 (by omega)
        · exact MvX_two (MvX_tpX hk f (tpC (tpB (tpA x n nr lk dn).1 (tpA x n nr lk dn).2 lk).1 (tpB (tpA x n nr lk dn).1 (tpA x n nr lk dn).2 lk).2 nr lk dn).1 (tpC (tpB (tpA x n nr lk dn).1 (tpA x n nr lk dn).2 lk).1 (tpB (tpA x n nr lk dn).1 (tpA x n nr lk dn).2 lk).2 nr lk dn).2 t _ a9 hC.1) g.1 (by omega)
/-- a passage: the state, how many movements, the reason -/
def tryP (x : Xs) (n nr lk : Nat) (dn : Bool) (f : Nat) (t : List Nat) : (Xs × Nat) × Int32 := if mxL x (f :: t) 0 ≤ x.1 9 lk then (if mxD x (f :: t) 0 ≤ x.1 10 lk then tpX nr lk dn (t.length + 1) x n (f :: t) else ((x, n), 2)) else ((x, n), 1)
theorem tryP_x {n nr lk f : Nat} {dn : Bool} {t : List Nat} : (tryP x n nr lk dn f t).1.1.2 = x.2 := by
  unfold tryP; split
  · split
    · exact tpX_x _ _ _ _
    · rfl
  · rfl
theorem tryP_1 {n nr lk f p j : Nat} {dn : Bool} {t : List Nat} (h4 : p ≠ 4) (h5 : p ≠ 5) (h8 : p ≠ 8) (h0 : p ≠ 20) (h1 : p ≠ 21) (h2 : p ≠ 22) : (tryP x n nr lk dn f t).1.1.1 p j = x.1 p j := by
  unfold tryP; split
  · split
    · exact tpX_1 h4 h5 h8 h0 h1 h2 _ _ _ _
    · rfl
  · rfl
theorem tryP_ge {n nr lk f : Nat} {dn : Bool} {t : List Nat} (hk : lk + 1 ≤ nr) : n ≤ (tryP x n nr lk dn f t).1.2 ∧ (tryP x n nr lk dn f t).1.2 ≤ n + (t.length + 1) * (nr + 2) := by
  unfold tryP; split
  · split
    · exact tpX_ge hk _ _ _ _
    · exact ⟨Nat.le_refl n, Nat.le_add_right n _⟩
  · exact ⟨Nat.le_refl n, Nat.le_add_right n _⟩
theorem MvX_tryP {n nr lk f z : Nat} {dn : Bool} {t : List Nat} {a9 : Nat → Nat} (hk : lk + 1 ≤ nr) (h : MvX ρ x n ((t.length + 1) * (nr + 2) + z)) : MvX (gR ρ a9 (capT ρ.2.2.2.1 (tryP x n nr lk dn f t).1.2)) (tryP x n nr lk dn f t).1.1 (tryP x n nr lk dn f t).1.2 z := by
  unfold tryP; split
  · split
    · exact MvX_tpX hk _ _ _ _ _ _ h
    · exact MvX_0 (MvX_le h (by omega))
  · exact MvX_0 (MvX_le h (by omega))
/-- all that a passage needs of the class -/
def PvX (nb : Nat) (x : Xs) (nr f : Nat) (t : List Nat) : Prop := x.1 1 8 = nI nr ∧ nr ≤ 6 ∧ (∀ k, k < nr → ¬ x.1 2 k < 1) ∧ XSuf nb x (f :: t) ∧ (f :: t).Nodup ∧ ∀ d ∈ f :: t, ¬ x.2.1 d 3 < 1
theorem PvX.to {nb nr f : Nat} {t : List Nat} {x' : Xs} (h : PvX nb x nr f t) (h1 : x'.1 1 8 = x.1 1 8) (h2 : ∀ k, x'.1 2 k = x.1 2 k) (h3 : x'.2 = x.2) : PvX nb x' nr f t := ⟨h1.trans h.1, h.2.1, fun k hk z => h.2.2.1 k hk (lt1e (h2 k) z), XSuf_x h3 h.2.2.2.1, h.2.2.2.2.1, fun d hd => by rw [h3]; exact h.2.2.2.2.2 d hd⟩
set_option maxHeartbeats 4000000 in
set_option maxRecDepth 100000 in
theorem XtryP1_1 (hG : az_okS l G) (nr lk f : Nat) (t : List Nat) (hk : lk + 2 ≤ nr) (h : PvX ρ.2.2.2.2.2 x nr f t) (n : Nat) (hv : MvX ρ x n ((t.length + 1) * (nr + 2))) (hL : ¬ mxL x (f :: t) 0 ≤ x.1 9 lk) : az_M l G yX3_tryPassage (az_ws yX3_tryPassage cX3_tryPassage 9 (Option.some FieldType.int)) 6 [.ref (ρ.1 0), .ref (ρ.2.2.1 f), .int (nI lk), .int 1] (AD ρ) (KK G ρ x m ou) (capT ρ.2.2.2.1 (tryP x n nr lk true f t).1.2 - ρ.2.2.2.1) (6 * (capT ρ.2.2.2.1 (tryP x n nr lk true f t).1.2 - ρ.2.2.2.1)) (az_g G (some (.int (tryP x n nr lk true f t).2)) ρ (capT ρ.2.2.2.1 (tryP x n nr lk true f t).1.2) (tryP x n nr lk true f t).1.1 m ou) := by
  refine az_start hG.1 (by decide +kernel) (Nat.le_of_ble_eq_true rfl) ?_
  intro p e s mm args below meth c C hnm
  show az_W l G 9 _ p e _ s mm args below meth c _ _ 0 0 0 [(0, .ref (ρ.1 0)), (1, .ref (ρ.2.2.1 f)), (2, .int (nI lk)), (3, .int 1)] []
  have hn6 := h.2.1
  have hT : tryP x n nr lk true f t = ((x, n), 1) := if_neg hL
  rw [hT]
  refine az_aload_n C 0 dX3_tryPassage_0 rfl ?_
  refine az_get C cX3 0 0 1 (v := .ref (ρ.1 9)) wl_X3_16 dX3_tryPassage_1 rfl rfl rfl (by decide) ?_
  refine az_iload_n C 2 dX3_tryPassage_4 rfl ?_
  refine az_ialdN C 0 9 lk (v := x.1 9 lk) dX3_tryPassage_5 rfl rfl (by omega) (by decide) rfl ?_
  refine az_istore C (lv' := [(4, .int (x.1 9 lk)), (0, .ref (ρ.1 0)), (1, .ref (ρ.2.2.1 f)), (2, .int (nI lk)), (3, .int 1)]) dX3_tryPassage_6 (by decide) rfl ?_
  refine az_aload_n C 2 dX3_tryPassage_8 rfl ?_
  refine az_callV C Y_X0_greatestLength cX0 1 f [] [] wm_X3_204 wi_X0_greatestLength wse_X0_greatestLength dX3_tryPassage_9 rfl (KK_b h.2.2.2.1.1) rfl (XgLength hG f t h.2.2.2.1) rfl (Nat.le_of_ble_eq_true rfl) (Nat.le_of_ble_eq_true rfl) (Nat.le_of_ble_eq_true rfl) (Nat.zero_le _) (Nat.zero_le _) (az_k1 rfl rfl ?_) (az_k0 rfl)
  refine az_iload C 0 dX3_tryPassage_12 rfl ?_
  refine az_icmp_le C 19 dX3_tryPassage_14 (by decide) (fun q => absurd q hL) (fun _ => ?_)
  refine az_iconst C (v := 1) dX3_tryPassage_17 (by decide) ?_
  exact az_iret C rfl dX3_tryPassage_18 (Nat.zero_le _) (Nat.zero_le _) ⟨ρ.2.1, rfl, rfl, by rw [show capT ρ.2.2.2.1 ((x, n), (1 : Int32)).1.2 = ρ.2.2.2.1 from capT_self hv.2.2.1], by rw [show capT ρ.2.2.2.1 ((x, n), (1 : Int32)).1.2 = ρ.2.2.2.1 from capT_self hv.2.2.1]⟩

set_option maxHeartbeats 4000000 in
set_option maxRecDepth 100000 in
theorem XtryP1_2 (hG : az_okS l G) (nr lk f : Nat) (t : List Nat) (hk : lk + 2 ≤ nr) (h : PvX ρ.2.2.2.2.2 x nr f t) (n : Nat) (hv : MvX ρ x n ((t.length + 1) * (nr + 2))) (hL : mxL x (f :: t) 0 ≤ x.1 9 lk) (hD : ¬ mxD x (f :: t) 0 ≤ x.1 10 lk) : az_M l G yX3_tryPassage (az_ws yX3_tryPassage cX3_tryPassage 9 (Option.some FieldType.int)) 6 [.ref (ρ.1 0), .ref (ρ.2.2.1 f), .int (nI lk), .int 1] (AD ρ) (KK G ρ x m ou) (capT ρ.2.2.2.1 (tryP x n nr lk true f t).1.2 - ρ.2.2.2.1) (6 * (capT ρ.2.2.2.1 (tryP x n nr lk true f t).1.2 - ρ.2.2.2.1)) (az_g G (some (.int (tryP x n nr lk true f t).2)) ρ (capT ρ.2.2.2.1 (tryP x n nr lk true f t).1.2) (tryP x n nr lk true f t).1.1 m ou) := by
  refine az_start hG.1 (by decide +kernel) (Nat.le_of_ble_eq_true rfl) ?_
  intro p e s mm args below meth c C hnm
  show az_W l G 9 _ p e _ s mm args below meth c _ _ 0 0 0 [(0, .ref (ρ.1 0)), (1, .ref (ρ.2.2.1 f)), (2, .int (nI lk)), (3, .int 1)] []
  have hn6 := h.2.1
  have hT : tryP x n nr lk true f t = ((x, n), 2) := by unfold tryP; rw [if_pos hL, if_neg hD]
  rw [hT]
  refine az_aload_n C 0 dX3_tryPassage_0 rfl ?_
  refine az_get C cX3 0 0 1 (v := .ref (ρ.1 9)) wl_X3_16 dX3_tryPassage_1 rfl rfl rfl (by decide) ?_
  refine az_iload_n C 2 dX3_tryPassage_4 rfl ?_
  refine az_ialdN C 0 9 lk (v := x.1 9 lk) dX3_tryPassage_5 rfl rfl (by omega) (by decide) rfl ?_
  refine az_istore C (lv' := [(4, .int (x.1 9 lk)), (0, .ref (ρ.1 0)), (1, .ref (ρ.2.2.1 f)), (2, .int (nI lk)), (3, .int 1)]) dX3_tryPassage_6 (by decide) rfl ?_
  refine az_aload_n C 2 dX3_tryPassage_8 rfl ?_
  refine az_callV C Y_X0_greatestLength cX0 1 f [] [] wm_X3_204 wi_X0_greatestLength wse_X0_greatestLength dX3_tryPassage_9 rfl (KK_b h.2.2.2.1.1) rfl (XgLength hG f t h.2.2.2.1) rfl (Nat.le_of_ble_eq_true rfl) (Nat.le_of_ble_eq_true rfl) (Nat.le_of_ble_eq_true rfl) (Nat.zero_le _) (Nat.zero_le _) (az_k1 rfl rfl ?_) (az_k0 rfl)
  refine az_iload C 0 dX3_tryPassage_12 rfl ?_
  refine az_icmp_le C 19 dX3_tryPassage_14 (by decide) (fun _ => ?_) (fun q => absurd hL q)
  refine az_aload_n C 2 dX3_tryPassage_19 rfl ?_
  refine az_null C dX3_tryPassage_20 ?_
  refine az_callV C Y_X0_greatestDraught cX0 1 f [.null] [] wm_X3_366 wi_X0_greatestDraught wse_X0_greatestDraught dX3_tryPassage_21 rfl (KK_b h.2.2.2.1.1) rfl (XgDraught_n hG f 0 t [] (by rw [List.append_nil]; exact h.2.2.2.1) h.2.2.2.2.2 (by rw [List.append_nil]; exact h.2.2.2.2.1)) rfl (Nat.le_of_ble_eq_true rfl) (Nat.le_of_ble_eq_true rfl) (Nat.le_of_ble_eq_true rfl) (Nat.zero_le _) (Nat.zero_le _) (az_k1 rfl rfl ?_) (az_k0 rfl)
  refine az_aload_n C 1 dX3_tryPassage_24 rfl ?_
  refine az_get C cX3 0 0 2 (v := .ref (ρ.1 10)) wl_X3_20 dX3_tryPassage_25 rfl rfl rfl (by decide) ?_
  refine az_iload_n C 3 dX3_tryPassage_28 rfl ?_
  refine az_ialdN C 0 10 lk (v := x.1 10 lk) dX3_tryPassage_29 rfl rfl (by omega) (by decide) rfl ?_
  refine az_icmp_le C 35 dX3_tryPassage_30 (by decide) (fun q => absurd q hD) (fun _ => ?_)
  refine az_iconst C (v := 2) dX3_tryPassage_33 (by decide) ?_
  exact az_iret C rfl dX3_tryPassage_34 (Nat.zero_le _) (Nat.zero_le _) ⟨ρ.2.1, rfl, rfl, by rw [show capT ρ.2.2.2.1 ((x, n), (2 : Int32)).1.2 = ρ.2.2.2.1 from capT_self hv.2.2.1], by rw [show capT ρ.2.2.2.1 ((x, n), (2 : Int32)).1.2 = ρ.2.2.2.1 from capT_self hv.2.2.1]⟩

set_option maxHeartbeats 4000000 in
set_option maxRecDepth 100000 in
theorem XtryP1_3 (hG : az_okS l G) (nr lk f : Nat) (t : List Nat) (hk : lk + 2 ≤ nr) (h : PvX ρ.2.2.2.2.2 x nr f t) (n : Nat) (hv : MvX ρ x n ((t.length + 1) * (nr + 2))) (hL : mxL x (f :: t) 0 ≤ x.1 9 lk) (hD : mxD x (f :: t) 0 ≤ x.1 10 lk) : az_M l G yX3_tryPassage (az_ws yX3_tryPassage cX3_tryPassage 9 (Option.some FieldType.int)) 6 [.ref (ρ.1 0), .ref (ρ.2.2.1 f), .int (nI lk), .int 1] (AD ρ) (KK G ρ x m ou) (capT ρ.2.2.2.1 (tryP x n nr lk true f t).1.2 - ρ.2.2.2.1) (6 * (capT ρ.2.2.2.1 (tryP x n nr lk true f t).1.2 - ρ.2.2.2.1)) (az_g G (some (.int (tryP x n nr lk true f t).2)) ρ (capT ρ.2.2.2.1 (tryP x n nr lk true f t).1.2) (tryP x n nr lk true f t).1.1 m ou) := by
  refine az_start hG.1 (by decide +kernel) (Nat.le_of_ble_eq_true rfl) ?_
  intro p e s mm args below meth c C hnm
  show az_W l G 9 _ p e _ s mm args below meth c _ _ 0 0 0 [(0, .ref (ρ.1 0)), (1, .ref (ρ.2.2.1 f)), (2, .int (nI lk)), (3, .int 1)] []
  have hn6 := h.2.1
  have hT : tryP x n nr lk true f t = tpX nr lk true (t.length + 1) x n (f :: t) := by unfold tryP; rw [if_pos hL, if_pos hD]
  rw [hT]
  refine az_aload_n C 0 dX3_tryPassage_0 rfl ?_
  refine az_get C cX3 0 0 1 (v := .ref (ρ.1 9)) wl_X3_16 dX3_tryPassage_1 rfl rfl rfl (by decide) ?_
  refine az_iload_n C 2 dX3_tryPassage_4 rfl ?_
  refine az_ialdN C 0 9 lk (v := x.1 9 lk) dX3_tryPassage_5 rfl rfl (by omega) (by decide) rfl ?_
  refine az_istore C (lv' := [(4, .int (x.1 9 lk)), (0, .ref (ρ.1 0)), (1, .ref (ρ.2.2.1 f)), (2, .int (nI lk)), (3, .int 1)]) dX3_tryPassage_6 (by decide) rfl ?_
  refine az_aload_n C 2 dX3_tryPassage_8 rfl ?_
  refine az_callV C Y_X0_greatestLength cX0 1 f [] [] wm_X3_204 wi_X0_greatestLength wse_X0_greatestLength dX3_tryPassage_9 rfl (KK_b h.2.2.2.1.1) rfl (XgLength hG f t h.2.2.2.1) rfl (Nat.le_of_ble_eq_true rfl) (Nat.le_of_ble_eq_true rfl) (Nat.le_of_ble_eq_true rfl) (Nat.zero_le _) (Nat.zero_le _) (az_k1 rfl rfl ?_) (az_k0 rfl)
  refine az_iload C 0 dX3_tryPassage_12 rfl ?_
  refine az_icmp_le C 19 dX3_tryPassage_14 (by decide) (fun _ => ?_) (fun q => absurd hL q)
  refine az_aload_n C 2 dX3_tryPassage_19 rfl ?_
  refine az_null C dX3_tryPassage_20 ?_
  refine az_callV C Y_X0_greatestDraught cX0 1 f [.null] [] wm_X3_366 wi_X0_greatestDraught wse_X0_greatestDraught dX3_tryPassage_21 rfl (KK_b h.2.2.2.1.1) rfl (XgDraught_n hG f 0 t [] (by rw [List.append_nil]; exact h.2.2.2.1) h.2.2.2.2.2 (by rw [List.append_nil]; exact h.2.2.2.2.1)) rfl (Nat.le_of_ble_eq_true rfl) (Nat.le_of_ble_eq_true rfl) (Nat.le_of_ble_eq_true rfl) (Nat.zero_le _) (Nat.zero_le _) (az_k1 rfl rfl ?_) (az_k0 rfl)
  refine az_aload_n C 1 dX3_tryPassage_24 rfl ?_
  refine az_get C cX3 0 0 2 (v := .ref (ρ.1 10)) wl_X3_20 dX3_tryPassage_25 rfl rfl rfl (by decide) ?_
  refine az_iload_n C 3 dX3_tryPassage_28 rfl ?_
  refine az_ialdN C 0 10 lk (v := x.1 10 lk) dX3_tryPassage_29 rfl rfl (by omega) (by decide) rfl ?_
  refine az_icmp_le C 35 dX3_tryPassage_30 (by decide) (fun _ => ?_) (fun q => absurd hD q)
  refine az_iload_n C 4 dX3_tryPassage_35 rfl ?_
  refine az_if_eq C 43 dX3_tryPassage_36 (by decide) (fun q => absurd q (by decide)) (fun _ => ?_)
  refine az_iload_n C 3 dX3_tryPassage_39 rfl ?_
  refine az_goto C 46 dX3_tryPassage_40 (by decide) ?_
  refine az_istore C (lv' := [(5, .int (nI lk)), (4, .int (x.1 9 lk)), (0, .ref (ρ.1 0)), (1, .ref (ρ.2.2.1 f)), (2, .int (nI lk)), (3, .int 1)]) dX3_tryPassage_46 (by decide) rfl ?_
  refine az_iload_n C 5 dX3_tryPassage_48 rfl ?_
  refine az_if_eq C 58 dX3_tryPassage_49 (by decide) (fun q => absurd q (by decide)) (fun _ => ?_)
  refine az_iload_n C 4 dX3_tryPassage_52 rfl ?_
  refine az_iconst C (v := 1) dX3_tryPassage_53 (by decide) ?_
  refine az_iadd C dX3_tryPassage_54 ?_
  refine az_top (nI (lk + 1)) (nI_1 lk) ?_
  refine az_goto C 59 dX3_tryPassage_55 (by decide) ?_
  refine az_istore C (lv' := [(6, .int (nI (lk + 1))), (5, .int (nI lk)), (4, .int (x.1 9 lk)), (0, .ref (ρ.1 0)), (1, .ref (ρ.2.2.1 f)), (2, .int (nI lk)), (3, .int 1)]) dX3_tryPassage_59 (by decide) rfl ?_
  refine az_aload_n C 4 dX3_tryPassage_61 rfl ?_
  refine az_astore C (lv' := [(7, .ref (ρ.2.2.1 f)), (6, .int (nI (lk + 1))), (5, .int (nI lk)), (4, .int (x.1 9 lk)), (0, .ref (ρ.1 0)), (1, .ref (ρ.2.2.1 f)), (2, .int (nI lk)), (3, .int 1)]) dX3_tryPassage_62 (by decide) rfl ?_
  exact az_lv [0, 1, 2, 3, 7, 6, 5, 4] rfl (Xtp_l1 hG C nr lk (ρ.2.2.1 f) hn6 hk (t.length + 1) 0 0 n (f :: t) (x.1 9 lk) rfl (Nat.le_refl _) h.1 h.2.2.1 h.2.2.2.1 h.2.2.2.2.1 h.2.2.2.2.2 hv (Nat.le_of_eq (Nat.zero_add _)) (Nat.le_of_eq (Nat.zero_add _)))

theorem XtryP1 (hG : az_okS l G) (nr lk f : Nat) (t : List Nat) (hk : lk + 2 ≤ nr) (h : PvX ρ.2.2.2.2.2 x nr f t) (n : Nat) (hv : MvX ρ x n ((t.length + 1) * (nr + 2))) : az_M l G yX3_tryPassage (az_ws yX3_tryPassage cX3_tryPassage 9 (Option.some FieldType.int)) 6 [.ref (ρ.1 0), .ref (ρ.2.2.1 f), .int (nI lk), .int 1] (AD ρ) (KK G ρ x m ou) (capT ρ.2.2.2.1 (tryP x n nr lk true f t).1.2 - ρ.2.2.2.1) (6 * (capT ρ.2.2.2.1 (tryP x n nr lk true f t).1.2 - ρ.2.2.2.1)) (az_g G (some (.int (tryP x n nr lk true f t).2)) ρ (capT ρ.2.2.2.1 (tryP x n nr lk true f t).1.2) (tryP x n nr lk true f t).1.1 m ou) := by
  by_cases hL : mxL x (f :: t) 0 ≤ x.1 9 lk
  · by_cases hD : mxD x (f :: t) 0 ≤ x.1 10 lk
    · exact XtryP1_3 hG nr lk f t hk h n hv hL hD
    · exact XtryP1_2 hG nr lk f t hk h n hv hL hD
  · exact XtryP1_1 hG nr lk f t hk h n hv hL

set_option maxHeartbeats 4000000 in
set_option maxRecDepth 100000 in
theorem XtryP0_1 (hG : az_okS l G) (nr lk f : Nat) (t : List Nat) (hk : lk + 2 ≤ nr) (h : PvX ρ.2.2.2.2.2 x nr f t) (n : Nat) (hv : MvX ρ x n ((t.length + 1) * (nr + 2))) (hL : ¬ mxL x (f :: t) 0 ≤ x.1 9 lk) : az_M l G yX3_tryPassage (az_ws yX3_tryPassage cX3_tryPassage 9 (Option.some FieldType.int)) 6 [.ref (ρ.1 0), .ref (ρ.2.2.1 f), .int (nI lk), .int 0] (AD ρ) (KK G ρ x m ou) (capT ρ.2.2.2.1 (tryP x n nr lk false f t).1.2 - ρ.2.2.2.1) (6 * (capT ρ.2.2.2.1 (tryP x n nr lk false f t).1.2 - ρ.2.2.2.1)) (az_g G (some (.int (tryP x n nr lk false f t).2)) ρ (capT ρ.2.2.2.1 (tryP x n nr lk false f t).1.2) (tryP x n nr lk false f t).1.1 m ou) := by
  refine az_start hG.1 (by decide +kernel) (Nat.le_of_ble_eq_true rfl) ?_
  intro p e s mm args below meth c C hnm
  show az_W l G 9 _ p e _ s mm args below meth c _ _ 0 0 0 [(0, .ref (ρ.1 0)), (1, .ref (ρ.2.2.1 f)), (2, .int (nI lk)), (3, .int 0)] []
  have hn6 := h.2.1
  have hT : tryP x n nr lk false f t = ((x, n), 1) := if_neg hL
  rw [hT]
  refine az_aload_n C 0 dX3_tryPassage_0 rfl ?_
  refine az_get C cX3 0 0 1 (v := .ref (ρ.1 9)) wl_X3_16 dX3_tryPassage_1 rfl rfl rfl (by decide) ?_
  refine az_iload_n C 2 dX3_tryPassage_4 rfl ?_
  refine az_ialdN C 0 9 lk (v := x.1 9 lk) dX3_tryPassage_5 rfl rfl (by omega) (by decide) rfl ?_
  refine az_istore C (lv' := [(4, .int (x.1 9 lk)), (0, .ref (ρ.1 0)), (1, .ref (ρ.2.2.1 f)), (2, .int (nI lk)), (3, .int 0)]) dX3_tryPassage_6 (by decide) rfl ?_
  refine az_aload_n C 2 dX3_tryPassage_8 rfl ?_
  refine az_callV C Y_X0_greatestLength cX0 1 f [] [] wm_X3_204 wi_X0_greatestLength wse_X0_greatestLength dX3_tryPassage_9 rfl (KK_b h.2.2.2.1.1) rfl (XgLength hG f t h.2.2.2.1) rfl (Nat.le_of_ble_eq_true rfl) (Nat.le_of_ble_eq_true rfl) (Nat.le_of_ble_eq_true rfl) (Nat.zero_le _) (Nat.zero_le _) (az_k1 rfl rfl ?_) (az_k0 rfl)
  refine az_iload C 0 dX3_tryPassage_12 rfl ?_
  refine az_icmp_le C 19 dX3_tryPassage_14 (by decide) (fun q => absurd q hL) (fun _ => ?_)
  refine az_iconst C (v := 1) dX3_tryPassage_17 (by decide) ?_
  exact az_iret C rfl dX3_tryPassage_18 (Nat.zero_le _) (Nat.zero_le _) ⟨ρ.2.1, rfl, rfl, by rw [show capT ρ.2.2.2.1 ((x, n), (1 : Int32)).1.2 = ρ.2.2.2.1 from capT_self hv.2.2.1], by rw [show capT ρ.2.2.2.1 ((x, n), (1 : Int32)).1.2 = ρ.2.2.2.1 from capT_self hv.2.2.1]⟩

set_option maxHeartbeats 4000000 in
set_option maxRecDepth 100000 in
theorem XtryP0_2 (hG : az_okS l G) (nr lk f : Nat) (t : List Nat) (hk : lk + 2 ≤ nr) (h : PvX ρ.2.2.2.2.2 x nr f t) (n : Nat) (hv : MvX ρ x n ((t.length + 1) * (nr + 2))) (hL : mxL x (f :: t) 0 ≤ x.1 9 lk) (hD : ¬ mxD x (f :: t) 0 ≤ x.1 10 lk) : az_M l G yX3_tryPassage (az_ws yX3_tryPassage cX3_tryPassage 9 (Option.some FieldType.int)) 6 [.ref (ρ.1 0), .ref (ρ.2.2.1 f), .int (nI lk), .int 0] (AD ρ) (KK G ρ x m ou) (capT ρ.2.2.2.1 (tryP x n nr lk false f t).1.2 - ρ.2.2.2.1) (6 * (capT ρ.2.2.2.1 (tryP x n nr lk false f t).1.2 - ρ.2.2.2.1)) (az_g G (some (.int (tryP x n nr lk false f t).2)) ρ (capT ρ.2.2.2.1 (tryP x n nr lk false f t).1.2) (tryP x n nr lk false f t).1.1 m ou) := by
  refine az_start hG.1 (by decide +kernel) (Nat.le_of_ble_eq_true rfl) ?_
  intro p e s mm args below meth c C hnm
  show az_W l G 9 _ p e _ s mm args below meth c _ _ 0 0 0 [(0, .ref (ρ.1 0)), (1, .ref (ρ.2.2.1 f)), (2, .int (nI lk)), (3, .int 0)] []
  have hn6 := h.2.1
  have hT : tryP x n nr lk false f t = ((x, n), 2) := by unfold tryP; rw [if_pos hL, if_neg hD]
  rw [hT]
  refine az_aload_n C 0 dX3_tryPassage_0 rfl ?_
  refine az_get C cX3 0 0 1 (v := .ref (ρ.1 9)) wl_X3_16 dX3_tryPassage_1 rfl rfl rfl (by decide) ?_
  refine az_iload_n C 2 dX3_tryPassage_4 rfl ?_
  refine az_ialdN C 0 9 lk (v := x.1 9 lk) dX3_tryPassage_5 rfl rfl (by omega) (by decide) rfl ?_
  refine az_istore C (lv' := [(4, .int (x.1 9 lk)), (0, .ref (ρ.1 0)), (1, .ref (ρ.2.2.1 f)), (2, .int (nI lk)), (3, .int 0)]) dX3_tryPassage_6 (by decide) rfl ?_
  refine az_aload_n C 2 dX3_tryPassage_8 rfl ?_
  refine az_callV C Y_X0_greatestLength cX0 1 f [] [] wm_X3_204 wi_X0_greatestLength wse_X0_greatestLength dX3_tryPassage_9 rfl (KK_b h.2.2.2.1.1) rfl (XgLength hG f t h.2.2.2.1) rfl (Nat.le_of_ble_eq_true rfl) (Nat.le_of_ble_eq_true rfl) (Nat.le_of_ble_eq_true rfl) (Nat.zero_le _) (Nat.zero_le _) (az_k1 rfl rfl ?_) (az_k0 rfl)
  refine az_iload C 0 dX3_tryPassage_12 rfl ?_
  refine az_icmp_le C 19 dX3_tryPassage_14 (by decide) (fun _ => ?_) (fun q => absurd hL q)
  refine az_aload_n C 2 dX3_tryPassage_19 rfl ?_
  refine az_null C dX3_tryPassage_20 ?_
  refine az_callV C Y_X0_greatestDraught cX0 1 f [.null] [] wm_X3_366 wi_X0_greatestDraught wse_X0_greatestDraught dX3_tryPassage_21 rfl (KK_b h.2.2.2.1.1) rfl (XgDraught_n hG f 0 t [] (by rw [List.append_nil]; exact h.2.2.2.1) h.2.2.2.2.2 (by rw [List.append_nil]; exact h.2.2.2.2.1)) rfl (Nat.le_of_ble_eq_true rfl) (Nat.le_of_ble_eq_true rfl) (Nat.le_of_ble_eq_true rfl) (Nat.zero_le _) (Nat.zero_le _) (az_k1 rfl rfl ?_) (az_k0 rfl)
  refine az_aload_n C 1 dX3_tryPassage_24 rfl ?_
  refine az_get C cX3 0 0 2 (v := .ref (ρ.1 10)) wl_X3_20 dX3_tryPassage_25 rfl rfl rfl (by decide) ?_
  refine az_iload_n C 3 dX3_tryPassage_28 rfl ?_
  refine az_ialdN C 0 10 lk (v := x.1 10 lk) dX3_tryPassage_29 rfl rfl (by omega) (by decide) rfl ?_
  refine az_icmp_le C 35 dX3_tryPassage_30 (by decide) (fun q => absurd q hD) (fun _ => ?_)
  refine az_iconst C (v := 2) dX3_tryPassage_33 (by decide) ?_
  exact az_iret C rfl dX3_tryPassage_34 (Nat.zero_le _) (Nat.zero_le _) ⟨ρ.2.1, rfl, rfl, by rw [show capT ρ.2.2.2.1 ((x, n), (2 : Int32)).1.2 = ρ.2.2.2.1 from capT_self hv.2.2.1], by rw [show capT ρ.2.2.2.1 ((x, n), (2 : Int32)).1.2 = ρ.2.2.2.1 from capT_self hv.2.2.1]⟩

set_option maxHeartbeats 4000000 in
set_option maxRecDepth 100000 in
theorem XtryP0_3 (hG : az_okS l G) (nr lk f : Nat) (t : List Nat) (hk : lk + 2 ≤ nr) (h : PvX ρ.2.2.2.2.2 x nr f t) (n : Nat) (hv : MvX ρ x n ((t.length + 1) * (nr + 2))) (hL : mxL x (f :: t) 0 ≤ x.1 9 lk) (hD : mxD x (f :: t) 0 ≤ x.1 10 lk) : az_M l G yX3_tryPassage (az_ws yX3_tryPassage cX3_tryPassage 9 (Option.some FieldType.int)) 6 [.ref (ρ.1 0), .ref (ρ.2.2.1 f), .int (nI lk), .int 0] (AD ρ) (KK G ρ x m ou) (capT ρ.2.2.2.1 (tryP x n nr lk false f t).1.2 - ρ.2.2.2.1) (6 * (capT ρ.2.2.2.1 (tryP x n nr lk false f t).1.2 - ρ.2.2.2.1)) (az_g G (some (.int (tryP x n nr lk false f t).2)) ρ (capT ρ.2.2.2.1 (tryP x n nr lk false f t).1.2) (tryP x n nr lk false f t).1.1 m ou) := by
  refine az_start hG.1 (by decide +kernel) (Nat.le_of_ble_eq_true rfl) ?_
  intro p e s mm args below meth c C hnm
  show az_W l G 9 _ p e _ s mm args below meth c _ _ 0 0 0 [(0, .ref (ρ.1 0)), (1, .ref (ρ.2.2.1 f)), (2, .int (nI lk)), (3, .int 0)] []
  have hn6 := h.2.1
  have hT : tryP x n nr lk false f t = tpX nr lk false (t.length + 1) x n (f :: t) := by unfold tryP; rw [if_pos hL, if_pos hD]
  rw [hT]
  refine az_aload_n C 0 dX3_tryPassage_0 rfl ?_
  refine az_get C cX3 0 0 1 (v := .ref (ρ.1 9)) wl_X3_16 dX3_tryPassage_1 rfl rfl rfl (by decide) ?_
  refine az_iload_n C 2 dX3_tryPassage_4 rfl ?_
  refine az_ialdN C 0 9 lk (v := x.1 9 lk) dX3_tryPassage_5 rfl rfl (by omega) (by decide) rfl ?_
  refine az_istore C (lv' := [(4, .int (x.1 9 lk)), (0, .ref (ρ.1 0)), (1, .ref (ρ.2.2.1 f)), (2, .int (nI lk)), (3, .int 0)]) dX3_tryPassage_6 (by decide) rfl ?_
  refine az_aload_n C 2 dX3_tryPassage_8 rfl ?_
  refine az_callV C Y_X0_greatestLength cX0 1 f [] [] wm_X3_204 wi_X0_greatestLength wse_X0_greatestLength dX3_tryPassage_9 rfl (KK_b h.2.2.2.1.1) rfl (XgLength hG f t h.2.2.2.1) rfl (Nat.le_of_ble_eq_true rfl) (Nat.le_of_ble_eq_true rfl) (Nat.le_of_ble_eq_true rfl) (Nat.zero_le _) (Nat.zero_le _) (az_k1 rfl rfl ?_) (az_k0 rfl)
  refine az_iload C 0 dX3_tryPassage_12 rfl ?_
  refine az_icmp_le C 19 dX3_tryPassage_14 (by decide) (fun _ => ?_) (fun q => absurd hL q)
  refine az_aload_n C 2 dX3_tryPassage_19 rfl ?_
  refine az_null C dX3_tryPassage_20 ?_
  refine az_callV C Y_X0_greatestDraught cX0 1 f [.null] [] wm_X3_366 wi_X0_greatestDraught wse_X0_greatestDraught dX3_tryPassage_21 rfl (KK_b h.2.2.2.1.1) rfl (XgDraught_n hG f 0 t [] (by rw [List.append_nil]; exact h.2.2.2.1) h.2.2.2.2.2 (by rw [List.append_nil]; exact h.2.2.2.2.1)) rfl (Nat.le_of_ble_eq_true rfl) (Nat.le_of_ble_eq_true rfl) (Nat.le_of_ble_eq_true rfl) (Nat.zero_le _) (Nat.zero_le _) (az_k1 rfl rfl ?_) (az_k0 rfl)
  refine az_aload_n C 1 dX3_tryPassage_24 rfl ?_
  refine az_get C cX3 0 0 2 (v := .ref (ρ.1 10)) wl_X3_20 dX3_tryPassage_25 rfl rfl rfl (by decide) ?_
  refine az_iload_n C 3 dX3_tryPassage_28 rfl ?_
  refine az_ialdN C 0 10 lk (v := x.1 10 lk) dX3_tryPassage_29 rfl rfl (by omega) (by decide) rfl ?_
  refine az_icmp_le C 35 dX3_tryPassage_30 (by decide) (fun _ => ?_) (fun q => absurd hD q)
  refine az_iload_n C 4 dX3_tryPassage_35 rfl ?_
  refine az_if_eq C 43 dX3_tryPassage_36 (by decide) (fun _ => ?_) (fun q => absurd (by decide) q)
  refine az_iload_n C 3 dX3_tryPassage_43 rfl ?_
  refine az_iconst C (v := 1) dX3_tryPassage_44 (by decide) ?_
  refine az_iadd C dX3_tryPassage_45 ?_
  refine az_top (nI (lk + 1)) (nI_1 lk) ?_
  refine az_istore C (lv' := [(5, .int (nI (lk + 1))), (4, .int (x.1 9 lk)), (0, .ref (ρ.1 0)), (1, .ref (ρ.2.2.1 f)), (2, .int (nI lk)), (3, .int 0)]) dX3_tryPassage_46 (by decide) rfl ?_
  refine az_iload_n C 5 dX3_tryPassage_48 rfl ?_
  refine az_if_eq C 58 dX3_tryPassage_49 (by decide) (fun _ => ?_) (fun q => absurd (by decide) q)
  refine az_iload_n C 4 dX3_tryPassage_58 rfl ?_
  refine az_istore C (lv' := [(6, .int (nI lk)), (5, .int (nI (lk + 1))), (4, .int (x.1 9 lk)), (0, .ref (ρ.1 0)), (1, .ref (ρ.2.2.1 f)), (2, .int (nI lk)), (3, .int 0)]) dX3_tryPassage_59 (by decide) rfl ?_
  refine az_aload_n C 4 dX3_tryPassage_61 rfl ?_
  refine az_astore C (lv' := [(7, .ref (ρ.2.2.1 f)), (6, .int (nI lk)), (5, .int (nI (lk + 1))), (4, .int (x.1 9 lk)), (0, .ref (ρ.1 0)), (1, .ref (ρ.2.2.1 f)), (2, .int (nI lk)), (3, .int 0)]) dX3_tryPassage_62 (by decide) rfl ?_
  exact az_lv [0, 1, 2, 3, 7, 6, 5, 4] rfl (Xtp_l0 hG C nr lk (ρ.2.2.1 f) hn6 hk (t.length + 1) 0 0 n (f :: t) (x.1 9 lk) rfl (Nat.le_refl _) h.1 h.2.2.1 h.2.2.2.1 h.2.2.2.2.1 h.2.2.2.2.2 hv (Nat.le_of_eq (Nat.zero_add _)) (Nat.le_of_eq (Nat.zero_add _)))

theorem XtryP0 (hG : az_okS l G) (nr lk f : Nat) (t : List Nat) (hk : lk + 2 ≤ nr) (h : PvX ρ.2.2.2.2.2 x nr f t) (n : Nat) (hv : MvX ρ x n ((t.length + 1) * (nr + 2))) : az_M l G yX3_tryPassage (az_ws yX3_tryPassage cX3_tryPassage 9 (Option.some FieldType.int)) 6 [.ref (ρ.1 0), .ref (ρ.2.2.1 f), .int (nI lk), .int 0] (AD ρ) (KK G ρ x m ou) (capT ρ.2.2.2.1 (tryP x n nr lk false f t).1.2 - ρ.2.2.2.1) (6 * (capT ρ.2.2.2.1 (tryP x n nr lk false f t).1.2 - ρ.2.2.2.1)) (az_g G (some (.int (tryP x n nr lk false f t).2)) ρ (capT ρ.2.2.2.1 (tryP x n nr lk false f t).1.2) (tryP x n nr lk false f t).1.1 m ou) := by
  by_cases hL : mxL x (f :: t) 0 ≤ x.1 9 lk
  · by_cases hD : mxD x (f :: t) 0 ≤ x.1 10 lk
    · exact XtryP0_3 hG nr lk f t hk h n hv hL hD
    · exact XtryP0_2 hG nr lk f t hk h n hv hL hD
  · exact XtryP0_1 hG nr lk f t hk h n hv hL

end
