section
variable {l : Launch} {G : az_G} {ρ : Rp} {x : Xs} {m : Mz} {ou : Nat → Int64}
/-- the rows of movements lie elsewhere, and have another size -/
abbrev gR (ρ : Rp) (a : Nat → Nat) (C : Nat) : Rp := (ρ.1, a, ρ.2.2.1, C, ρ.2.2.2.2)
/-- what an added movement makes of the state; n movements stood there -/
def addX (x : Xs) (n : Nat) (u v w : Int32) : Xs := xI (xI (xI (xI x 20 n u) 21 n v) 22 n w) 8 3 (nI (n + 1))
/-- the rows of movements hold 0 beyond their size -/
def RowZ (ρ : Rp) (x : Xs) : Prop := ∀ j, ρ.2.2.2.1 ≤ j → x.1 20 j = 0 ∧ x.1 21 j = 0 ∧ x.1 22 j = 0
set_option maxHeartbeats 4000000 in
set_option maxRecDepth 100000 in
theorem Xadd_n (hG : az_okS l G) (n : Nat) (hm : x.1 8 3 = nI n) (hn : n < 65536) (hc : n < ρ.2.2.2.1) (hc2 : ρ.2.2.2.1 < 2 ^ 20) (u v w : Int32) : az_M l G yX1_add (az_ws yX1_add cX1_add 5 (Option.none : Option FieldType)) 1 [.ref (ρ.1 8), .int u, .int v, .int w] (AD ρ) (KK G ρ x m ou) 0 0 (az_r none (AD ρ) (KK G ρ (addX x n u v w) m ou)) := by
  refine az_start hG.1 (by decide +kernel) (Nat.le_of_ble_eq_true rfl) ?_
  intro p e s mm args below meth c C hnm
  show az_W l G 5 _ p e _ s mm args below meth c _ _ 0 0 0 [(0, .ref (ρ.1 8)), (1, .int u), (2, .int v), (3, .int w)] []
  refine az_aload_n C 0 dX1_add_0 rfl ?_
  refine az_get C cX1 0 8 3 (v := .int (x.1 8 3)) wl_X1_19 dX1_add_1 rfl rfl rfl (by decide) ?_
  refine az_top (nI n) hm ?_
  refine az_ldc C (v := 65536) wn_X1_23 dX1_add_4 ?_
  refine az_icmp_lt C 10 dX1_add_6 (by decide) (fun _ => ?_) (fun q => absurd (show nI n < 65536 from by rw [show (65536 : Int32) = nI 65536 from rfl]; exact Int32.not_le.mp (nlt_nle hn (by omega))) q)
  refine az_aload_n C 0 dX1_add_10 rfl ?_
  refine az_get C cX1 0 8 3 (v := .int (x.1 8 3)) wl_X1_19 dX1_add_11 rfl rfl rfl (by decide) ?_
  refine az_top (nI n) hm ?_
  refine az_aload_n C 0 dX1_add_14 rfl ?_
  refine az_get C cX1 0 8 0 (v := .ref (ρ.2.1 20)) wl_X1_9 dX1_add_15 rfl rfl rfl (by decide) ?_
  refine az_alen C 0 20 (z := 0) (cy := (G.2.2.1 0, .int)) dX1_add_18 rfl rfl rfl ?_
  refine az_icmp_lt C 70 dX1_add_19 (by decide) (fun _ => ?_) (fun q => absurd (Int32.not_le.mp (nlt_nle hc (by omega))) q)
  refine az_aload_n C 0 dX1_add_70 rfl ?_
  refine az_get C cX1 0 8 0 (v := .ref (ρ.2.1 20)) wl_X1_9 dX1_add_71 rfl rfl rfl (by decide) ?_
  refine az_aload_n C 0 dX1_add_74 rfl ?_
  refine az_get C cX1 0 8 3 (v := .int (x.1 8 3)) wl_X1_19 dX1_add_75 rfl rfl rfl (by decide) ?_
  refine az_top (nI n) hm ?_
  refine az_iload_n C 1 dX1_add_78 rfl ?_
  refine az_iastN C 0 20 n dX1_add_79 rfl rfl (by omega) (by omega) (az_to rfl (K' := (KK G ρ (xI x 20 n u) m ou)) (KK_X rfl) ?_)
  refine az_aload_n C 0 dX1_add_80 rfl ?_
  refine az_get C cX1 0 8 1 (v := .ref (ρ.2.1 21)) wl_X1_13 dX1_add_81 rfl rfl rfl (by decide) ?_
  refine az_aload_n C 0 dX1_add_84 rfl ?_
  refine az_get C cX1 0 8 3 (v := .int (x.1 8 3)) wl_X1_19 dX1_add_85 rfl rfl rfl (by decide) ?_
  refine az_top (nI n) hm ?_
  refine az_iload_n C 2 dX1_add_88 rfl ?_
  refine az_iastN C 0 21 n dX1_add_89 rfl rfl (by omega) (by omega) (az_to rfl (K' := (KK G ρ (xI (xI x 20 n u) 21 n v) m ou)) (KK_X rfl) ?_)
  refine az_aload_n C 0 dX1_add_90 rfl ?_
  refine az_get C cX1 0 8 2 (v := .ref (ρ.2.1 22)) wl_X1_16 dX1_add_91 rfl rfl rfl (by decide) ?_
  refine az_aload_n C 0 dX1_add_94 rfl ?_
  refine az_get C cX1 0 8 3 (v := .int (x.1 8 3)) wl_X1_19 dX1_add_95 rfl rfl rfl (by decide) ?_
  refine az_top (nI n) hm ?_
  refine az_iload_n C 3 dX1_add_98 rfl ?_
  refine az_iastN C 0 22 n dX1_add_99 rfl rfl (by omega) (by omega) (az_to rfl (K' := (KK G ρ (xI (xI (xI x 20 n u) 21 n v) 22 n w) m ou)) (KK_X rfl) ?_)
  refine az_aload_n C 0 dX1_add_100 rfl ?_
  refine az_dup C dX1_add_101 rfl ?_
  refine az_get C cX1 0 8 3 (v := .int (x.1 8 3)) wl_X1_19 dX1_add_102 rfl rfl rfl (by decide) ?_
  refine az_top (nI n) hm ?_
  refine az_iconst C (v := 1) dX1_add_105 (by decide) ?_
  refine az_iadd C dX1_add_106 ?_
  refine az_top (nI (n + 1)) (nI_1 n) ?_
  refine az_put C cX1 0 8 3 wl_X1_19 dX1_add_107 rfl rfl (by decide) (Nat.le_of_ble_eq_true rfl) rfl rfl rfl (az_to rfl (K' := (KK G ρ (xI (xI (xI (xI x 20 n u) 21 n v) 22 n w) 8 3 (nI (n + 1))) m ou)) (KK_X rfl) ?_)
  exact az_vret C rfl dX1_add_110 (Nat.le_of_ble_eq_true rfl) (Nat.le_of_ble_eq_true rfl) ⟨rfl, rfl, rfl⟩

theorem nI_dbl (a : Nat) : (2 : Int32) * nI a = nI (2 * a) := (Int32.ofNat_mul 2 a).symm
def gra (ρ : Rp) (q0 q1 q2 : Nat) : Nat → Nat := fun i => if i = 20 then q0 else if i = 21 then q1 else if i = 22 then q2 else ρ.2.1 i
def gro (f : Nat → Int32) (N : Nat) : Nat → Int32 := fun j => if j < N then f j else 0
theorem gro_z {f : Nat → Int32} {N : Nat} (h : ∀ j, N ≤ j → f j = 0) : gro f N = f := by
  funext j
  unfold gro
  by_cases hj : j < N
  · rw [if_pos hj]
  · rw [if_neg hj, h j (by omega)]
def mvF (r i : Nat) : Nat × Nat := if r = 0 then (if i = 20 then (9, 0) else if i = 21 then (9, 1) else if i = 22 then (9, 2) else (r, i)) else (r, i)
theorem mvF_inj {r i r' i' : Nat} (h9 : r ≠ 9) (h9' : r' ≠ 9) (h : mvF r i = mvF r' i') : r = r' ∧ i = i' := by
  unfold mvF at h
  repeat' split at h
  all_goals (simp only [Prod.mk.injEq] at h; omega)
def gK1 (G : az_G) (ρ : Rp) (x : Xs) (m : Mz) (ou : Nat → Int64) (N2 : Nat) : az_K := az_u (KK G ρ x m ou) 9 0 (.inl (G.2.2.1 0, N2, .inl (gro (x.1 20) ρ.2.2.2.1)))
def gK2 (G : az_G) (ρ : Rp) (x : Xs) (m : Mz) (ou : Nat → Int64) (N2 q0 : Nat) : az_K := az_u (gK1 G ρ x m ou N2) 0 8 (.inr (2, [.ref q0, .ref (ρ.2.1 21), .ref (ρ.2.1 22), .int (x.1 8 3)]))
def gK3 (G : az_G) (ρ : Rp) (x : Xs) (m : Mz) (ou : Nat → Int64) (N2 q0 : Nat) : az_K := az_u (gK2 G ρ x m ou N2 q0) 9 1 (.inl (G.2.2.1 0, N2, .inl (gro (x.1 21) ρ.2.2.2.1)))
def gK4 (G : az_G) (ρ : Rp) (x : Xs) (m : Mz) (ou : Nat → Int64) (N2 q0 q1 : Nat) : az_K := az_u (gK3 G ρ x m ou N2 q0) 0 8 (.inr (2, [.ref q0, .ref q1, .ref (ρ.2.1 22), .int (x.1 8 3)]))
def gK5 (G : az_G) (ρ : Rp) (x : Xs) (m : Mz) (ou : Nat → Int64) (N2 q0 q1 : Nat) : az_K := az_u (gK4 G ρ x m ou N2 q0 q1) 9 2 (.inl (G.2.2.1 0, N2, .inl (gro (x.1 22) ρ.2.2.2.1)))
def gK6 (G : az_G) (ρ : Rp) (x : Xs) (m : Mz) (ou : Nat → Int64) (N2 q0 q1 q2 : Nat) : az_K := az_u (gK5 G ρ x m ou N2 q0 q1) 0 8 (.inr (2, [.ref q0, .ref q1, .ref q2, .int (x.1 8 3)]))
def gA (ρ : Rp) (q0 q1 q2 : Nat) : az_A := az_ua (az_ua (az_ua (AD ρ) 9 0 q0) 9 1 q1) 9 2 q2
theorem gK6_o {N2 q0 q1 q2 r i : Nat} (h8 : ¬ (r = 0 ∧ i = 8)) (h9 : r ≠ 9) : gK6 G ρ x m ou N2 q0 q1 q2 r i = KK G ρ x m ou r i := by
  unfold gK6 gK5 gK4 gK3 gK2 gK1
  rw [az_u_n h8, az_u_n (fun z => h9 z.1), az_u_n h8, az_u_n (fun z => h9 z.1), az_u_n h8, az_u_n (fun z => h9 z.1)]
theorem gA_o {q0 q1 q2 r i : Nat} (h9 : r ≠ 9) : gA ρ q0 q1 q2 r i = AD ρ r i := by
  unfold gA az_ua
  rw [if_neg (fun z => h9 z.1), if_neg (fun z => h9 z.1), if_neg (fun z => h9 z.1)]
set_option maxRecDepth 100000 in
theorem grow_1 {N2 q0 q1 q2 : Nat} (hz : RowZ ρ x) : ∀ (r i : Nat) (e : va_E), KK G (gR ρ (gra ρ q0 q1 q2) N2) x m ou r i = some e → gK6 G ρ x m ou N2 q0 q1 q2 (mvF r i).1 (mvF r i).2 = some e ∧ AD (gR ρ (gra ρ q0 q1 q2) N2) r i = gA ρ q0 q1 q2 (mvF r i).1 (mvF r i).2 := by
  intro r i e h
  have other : mvF r i = (r, i) → ¬ (r = 0 ∧ i = 8) → r ≠ 9 → KK G (gR ρ (gra ρ q0 q1 q2) N2) x m ou r i = KK G ρ x m ou r i → AD (gR ρ (gra ρ q0 q1 q2) N2) r i = AD ρ r i → gK6 G ρ x m ou N2 q0 q1 q2 (mvF r i).1 (mvF r i).2 = some e ∧ AD (gR ρ (gra ρ q0 q1 q2) N2) r i = gA ρ q0 q1 q2 (mvF r i).1 (mvF r i).2 := fun h1 h2 h3 h4 h5 => by
    rw [h1]
    exact ⟨(gK6_o h2 h3).trans (h4.symm.trans h), h5.trans (gA_o h3).symm⟩
  match r, i, h with
  | 0, 0, h => exact other rfl (by decide) (by decide) rfl rfl
  | 0, 1, h => exact other rfl (by decide) (by decide) rfl rfl
  | 0, 2, h => exact other rfl (by decide) (by decide) rfl rfl
  | 0, 3, h => exact other rfl (by decide) (by decide) rfl rfl
  | 0, 4, h => exact other rfl (by decide) (by decide) rfl rfl
  | 0, 5, h => exact other rfl (by decide) (by decide) rfl rfl
  | 0, 6, h => exact other rfl (by decide) (by decide) rfl rfl
  | 0, 7, h => exact other rfl (by decide) (by decide) rfl rfl
  | 0, 8, h => exact ⟨h, rfl⟩
  | 0, 9, h => exact other rfl (by decide) (by decide) rfl rfl
  | 0, 10, h => exact other rfl (by decide) (by decide) rfl rfl
  | 0, 11, h => exact other rfl (by decide) (by decide) rfl rfl
  | 0, 12, h => exact other rfl (by decide) (by decide) rfl rfl
  | 0, 13, h => exact other rfl (by decide) (by decide) rfl rfl
  | 0, 14, h => exact other rfl (by decide) (by decide) rfl rfl
  | 0, 20, h => exact ⟨Eq.trans (by show some (Sum.inl (G.2.2.1 0, N2, Sum.inl (gro (x.1 20) ρ.2.2.2.1))) = _; rw [gro_z (fun j hj => (hz j hj).1)]; rfl) h, rfl⟩
  | 0, 21, h => exact ⟨Eq.trans (by show some (Sum.inl (G.2.2.1 0, N2, Sum.inl (gro (x.1 21) ρ.2.2.2.1))) = _; rw [gro_z (fun j hj => (hz j hj).2.1)]; rfl) h, rfl⟩
  | 0, 22, h => exact ⟨Eq.trans (by show some (Sum.inl (G.2.2.1 0, N2, Sum.inl (gro (x.1 22) ρ.2.2.2.1))) = _; rw [gro_z (fun j hj => (hz j hj).2.2)]; rfl) h, rfl⟩
  | 0, 23, h => exact other rfl (by decide) (by decide) rfl rfl
  | 0, 15, h => cases h
  | 0, 16, h => cases h
  | 0, 17, h => cases h
  | 0, 18, h => cases h
  | 0, 19, h => cases h
  | 0, n + 24, h => cases h
  | 1, i, h => exact other rfl (fun z => absurd z.1 (by decide)) (by decide) rfl rfl
  | 2, i, h => exact other rfl (fun z => absurd z.1 (by decide)) (by decide) rfl rfl
  | 3, i, h => exact other rfl (fun z => absurd z.1 (by decide)) (by decide) rfl rfl
  | n + 4, i, h => cases h
theorem grow_2 {N2 q0 q1 q2 : Nat} : ∀ (r i r' i' : Nat) (e e' : va_E), KK G (gR ρ (gra ρ q0 q1 q2) N2) x m ou r i = some e → KK G (gR ρ (gra ρ q0 q1 q2) N2) x m ou r' i' = some e' → mvF r i = mvF r' i' → r = r' ∧ i = i' := by
  intro r i r' i' e e' h h' hh
  refine mvF_inj (fun z => ?_) (fun z => ?_) hh
  · subst z; cases h
  · subst z; cases h'
set_option maxHeartbeats 4000000 in
set_option maxRecDepth 100000 in
theorem Xadd_g (hG : az_okS l G) (n : Nat) (hm : x.1 8 3 = nI n) (hn : n < 65536) (hnc : n = ρ.2.2.2.1) (h256 : 256 ≤ ρ.2.2.2.1) (hz : RowZ ρ x) (u v w : Int32) : az_M l G yX1_add (az_ws yX1_add cX1_add 5 (Option.none : Option FieldType)) 3 [.ref (ρ.1 8), .int u, .int v, .int w] (AD ρ) (KK G ρ x m ou) ρ.2.2.2.1 (6 * ρ.2.2.2.1) ((fun o ad' K' => ∃ a : Nat → Nat, a 23 = ρ.2.1 23 ∧ o = .inl none ∧ ad' = AD (gR ρ a (2 * ρ.2.2.2.1)) ∧ K' = KK G (gR ρ a (2 * ρ.2.2.2.1)) (addX x n u v w) m ou)) := by
  refine az_start hG.1 (by decide +kernel) (Nat.le_of_ble_eq_true rfl) ?_
  intro p e s mm args below meth c C hnm
  show az_W l G 5 _ p e _ s mm args below meth c _ _ 0 0 0 [(0, .ref (ρ.1 8)), (1, .int u), (2, .int v), (3, .int w)] []
  refine az_aload_n C 0 dX1_add_0 rfl ?_
  refine az_get C cX1 0 8 3 (v := .int (x.1 8 3)) wl_X1_19 dX1_add_1 rfl rfl rfl (by decide) ?_
  refine az_top (nI n) hm ?_
  refine az_ldc C (v := 65536) wn_X1_23 dX1_add_4 ?_
  refine az_icmp_lt C 10 dX1_add_6 (by decide) (fun _ => ?_) (fun q => absurd (show nI n < 65536 from by rw [show (65536 : Int32) = nI 65536 from rfl]; exact Int32.not_le.mp (nlt_nle hn (by omega))) q)
  refine az_aload_n C 0 dX1_add_10 rfl ?_
  refine az_get C cX1 0 8 3 (v := .int (x.1 8 3)) wl_X1_19 dX1_add_11 rfl rfl rfl (by decide) ?_
  refine az_top (nI n) hm ?_
  refine az_aload_n C 0 dX1_add_14 rfl ?_
  refine az_get C cX1 0 8 0 (v := .ref (ρ.2.1 20)) wl_X1_9 dX1_add_15 rfl rfl rfl (by decide) ?_
  refine az_alen C 0 20 (z := 0) (cy := (G.2.2.1 0, .int)) dX1_add_18 rfl rfl rfl ?_
  refine az_icmp_lt C 70 dX1_add_19 (by decide) (fun q => absurd q (fun z => by rw [hnc] at z; exact absurd z (Int32.not_lt.mpr (Int32.le_refl _)))) (fun _ => ?_)
  refine az_iconst C (v := 2) dX1_add_22 (by decide) ?_
  refine az_aload_n C 0 dX1_add_23 rfl ?_
  refine az_get C cX1 0 8 0 (v := .ref (ρ.2.1 20)) wl_X1_9 dX1_add_24 rfl rfl rfl (by decide) ?_
  refine az_alen C 0 20 (z := 0) (cy := (G.2.2.1 0, .int)) dX1_add_27 rfl rfl rfl ?_
  refine az_imul C dX1_add_28 ?_
  refine az_top (nI (2 * ρ.2.2.2.1)) (nI_dbl ρ.2.2.2.1) ?_
  refine az_istore C (lv' := [(4, .int (nI (2 * ρ.2.2.2.1))), (0, .ref (ρ.1 8)), (1, .int u), (2, .int v), (3, .int w)]) dX1_add_29 (by decide) rfl ?_
  refine az_aload_n C 1 dX1_add_31 rfl ?_
  refine az_aload_n C 1 dX1_add_32 rfl ?_
  refine az_get C cX1 0 8 0 (v := .ref (ρ.2.1 20)) wl_X1_9 dX1_add_33 rfl rfl rfl (by decide) ?_
  refine az_iload C 0 dX1_add_36 rfl ?_
  refine az_callS C Y_J7_copyOf_59c91 [.ref (ρ.2.1 20), .int (nI (2 * ρ.2.2.2.1))] [.ref (ρ.1 8)] wm_X1_24 wst_J7_copyOf_59c91 dX1_add_38 rfl (XcopyOf (ad := (AD ρ)) (K := (KK G ρ x m ou)) hG 20 0 (N := ρ.2.2.2.1) (f := x.1 20) rfl rfl (by omega) (by omega)) rfl (Nat.le_of_ble_eq_true rfl) (Nat.le_of_ble_eq_true rfl) (Nat.le_of_ble_eq_true rfl) (by show 0 + 1 ≤ ρ.2.2.2.1; omega) (by show 0 + (2 * ρ.2.2.2.1) ≤ 6 * ρ.2.2.2.1; omega) ?_ (by rintro E ad9 K9 ⟨q9, h9, -⟩; cases h9)
  rintro v9 ad9 K9 ⟨q0, h9, rfl, rfl⟩
  cases h9
  refine az_to (ad' := (az_ua (AD ρ) 9 0 q0)) (K' := (gK1 G ρ x m ou (2 * ρ.2.2.2.1))) rfl rfl ?_
  refine az_put C cX1 0 8 0 wl_X1_9 dX1_add_41 rfl rfl (by decide) (Nat.le_of_ble_eq_true rfl) rfl rfl rfl (az_to rfl (K' := (gK2 G ρ x m ou (2 * ρ.2.2.2.1) q0)) rfl ?_)
  refine az_aload_n C 1 dX1_add_44 rfl ?_
  refine az_aload_n C 1 dX1_add_45 rfl ?_
  refine az_get C cX1 0 8 1 (v := .ref (ρ.2.1 21)) wl_X1_13 dX1_add_46 rfl rfl rfl (by decide) ?_
  refine az_iload C 0 dX1_add_49 rfl ?_
  refine az_callS C Y_J7_copyOf_59c91 [.ref (ρ.2.1 21), .int (nI (2 * ρ.2.2.2.1))] [.ref (ρ.1 8)] wm_X1_24 wst_J7_copyOf_59c91 dX1_add_51 rfl (XcopyOf (ad := (az_ua (AD ρ) 9 0 q0)) (K := (gK2 G ρ x m ou (2 * ρ.2.2.2.1) q0)) hG 21 1 (N := ρ.2.2.2.1) (f := x.1 21) rfl rfl (by omega) (by omega)) rfl (Nat.le_of_ble_eq_true rfl) (Nat.le_of_ble_eq_true rfl) (Nat.le_of_ble_eq_true rfl) (by show (0 + 1) + 1 ≤ ρ.2.2.2.1; omega) (by show (0 + (2 * ρ.2.2.2.1)) + (2 * ρ.2.2.2.1) ≤ 6 * ρ.2.2.2.1; omega) ?_ (by rintro E ad9 K9 ⟨q9, h9, -⟩; cases h9)
  rintro v9 ad9 K9 ⟨q1, h9, rfl, rfl⟩
  cases h9
  refine az_to (ad' := (az_ua (az_ua (AD ρ) 9 0 q0) 9 1 q1)) (K' := (gK3 G ρ x m ou (2 * ρ.2.2.2.1) q0)) rfl rfl ?_
  refine az_put C cX1 0 8 1 wl_X1_13 dX1_add_54 rfl rfl (by decide) (Nat.le_of_ble_eq_true rfl) rfl rfl rfl (az_to rfl (K' := (gK4 G ρ x m ou (2 * ρ.2.2.2.1) q0 q1)) rfl ?_)
  refine az_aload_n C 1 dX1_add_57 rfl ?_
  refine az_aload_n C 1 dX1_add_58 rfl ?_
  refine az_get C cX1 0 8 2 (v := .ref (ρ.2.1 22)) wl_X1_16 dX1_add_59 rfl rfl rfl (by decide) ?_
  refine az_iload C 0 dX1_add_62 rfl ?_
  refine az_callS C Y_J7_copyOf_59c91 [.ref (ρ.2.1 22), .int (nI (2 * ρ.2.2.2.1))] [.ref (ρ.1 8)] wm_X1_24 wst_J7_copyOf_59c91 dX1_add_64 rfl (XcopyOf (ad := (az_ua (az_ua (AD ρ) 9 0 q0) 9 1 q1)) (K := (gK4 G ρ x m ou (2 * ρ.2.2.2.1) q0 q1)) hG 22 2 (N := ρ.2.2.2.1) (f := x.1 22) rfl rfl (by omega) (by omega)) rfl (Nat.le_of_ble_eq_true rfl) (Nat.le_of_ble_eq_true rfl) (Nat.le_of_ble_eq_true rfl) (by show (0 + 1 + 1) + 1 ≤ ρ.2.2.2.1; omega) (by show (0 + (2 * ρ.2.2.2.1) + (2 * ρ.2.2.2.1)) + (2 * ρ.2.2.2.1) ≤ 6 * ρ.2.2.2.1; omega) ?_ (by rintro E ad9 K9 ⟨q9, h9, -⟩; cases h9)
  rintro v9 ad9 K9 ⟨q2, h9, rfl, rfl⟩
  cases h9
  refine az_to (ad' := (gA ρ q0 q1 q2)) (K' := (gK5 G ρ x m ou (2 * ρ.2.2.2.1) q0 q1)) rfl rfl ?_
  refine az_put C cX1 0 8 2 wl_X1_16 dX1_add_67 rfl rfl (by decide) (Nat.le_of_ble_eq_true rfl) rfl rfl rfl (az_to rfl (K' := (gK6 G ρ x m ou (2 * ρ.2.2.2.1) q0 q1 q2)) rfl ?_)
  refine az_mv (ad' := AD (gR ρ (gra ρ q0 q1 q2) (2 * ρ.2.2.2.1))) (K' := KK G (gR ρ (gra ρ q0 q1 q2) (2 * ρ.2.2.2.1)) x m ou) mvF (grow_1 hz) grow_2 ?_
  refine az_aload_n C 1 dX1_add_70 rfl ?_
  refine az_get C cX1 0 8 0 (v := .ref ((gR ρ (gra ρ q0 q1 q2) (2 * ρ.2.2.2.1)).2.1 20)) wl_X1_9 dX1_add_71 rfl rfl rfl (by decide) ?_
  refine az_aload_n C 1 dX1_add_74 rfl ?_
  refine az_get C cX1 0 8 3 (v := .int (x.1 8 3)) wl_X1_19 dX1_add_75 rfl rfl rfl (by decide) ?_
  refine az_top (nI n) hm ?_
  refine az_iload_n C 2 dX1_add_78 rfl ?_
  refine az_iastN C 0 20 n dX1_add_79 rfl rfl (show n < 2 * ρ.2.2.2.1 by omega) (show 2 * ρ.2.2.2.1 < 2 ^ 31 by omega) (az_to rfl (K' := (KK G (gR ρ (gra ρ q0 q1 q2) (2 * ρ.2.2.2.1)) (xI x 20 n u) m ou)) (KK_X rfl) ?_)
  refine az_aload_n C 1 dX1_add_80 rfl ?_
  refine az_get C cX1 0 8 1 (v := .ref ((gR ρ (gra ρ q0 q1 q2) (2 * ρ.2.2.2.1)).2.1 21)) wl_X1_13 dX1_add_81 rfl rfl rfl (by decide) ?_
  refine az_aload_n C 1 dX1_add_84 rfl ?_
  refine az_get C cX1 0 8 3 (v := .int (x.1 8 3)) wl_X1_19 dX1_add_85 rfl rfl rfl (by decide) ?_
  refine az_top (nI n) hm ?_
  refine az_iload_n C 3 dX1_add_88 rfl ?_
  refine az_iastN C 0 21 n dX1_add_89 rfl rfl (show n < 2 * ρ.2.2.2.1 by omega) (show 2 * ρ.2.2.2.1 < 2 ^ 31 by omega) (az_to rfl (K' := (KK G (gR ρ (gra ρ q0 q1 q2) (2 * ρ.2.2.2.1)) (xI (xI x 20 n u) 21 n v) m ou)) (KK_X rfl) ?_)
  refine az_aload_n C 1 dX1_add_90 rfl ?_
  refine az_get C cX1 0 8 2 (v := .ref ((gR ρ (gra ρ q0 q1 q2) (2 * ρ.2.2.2.1)).2.1 22)) wl_X1_16 dX1_add_91 rfl rfl rfl (by decide) ?_
  refine az_aload_n C 1 dX1_add_94 rfl ?_
  refine az_get C cX1 0 8 3 (v := .int (x.1 8 3)) wl_X1_19 dX1_add_95 rfl rfl rfl (by decide) ?_
  refine az_top (nI n) hm ?_
  refine az_iload_n C 4 dX1_add_98 rfl ?_
  refine az_iastN C 0 22 n dX1_add_99 rfl rfl (show n < 2 * ρ.2.2.2.1 by omega) (show 2 * ρ.2.2.2.1 < 2 ^ 31 by omega) (az_to rfl (K' := (KK G (gR ρ (gra ρ q0 q1 q2) (2 * ρ.2.2.2.1)) (xI (xI (xI x 20 n u) 21 n v) 22 n w) m ou)) (KK_X rfl) ?_)
  refine az_aload_n C 1 dX1_add_100 rfl ?_
  refine az_dup C dX1_add_101 rfl ?_
  refine az_get C cX1 0 8 3 (v := .int (x.1 8 3)) wl_X1_19 dX1_add_102 rfl rfl rfl (by decide) ?_
  refine az_top (nI n) hm ?_
  refine az_iconst C (v := 1) dX1_add_105 (by decide) ?_
  refine az_iadd C dX1_add_106 ?_
  refine az_top (nI (n + 1)) (nI_1 n) ?_
  refine az_put C cX1 0 8 3 wl_X1_19 dX1_add_107 rfl rfl (by decide) (Nat.le_of_ble_eq_true rfl) rfl rfl rfl (az_to rfl (K' := (KK G (gR ρ (gra ρ q0 q1 q2) (2 * ρ.2.2.2.1)) (xI (xI (xI (xI x 20 n u) 21 n v) 22 n w) 8 3 (nI (n + 1))) m ou)) (KK_X rfl) ?_)
  exact az_vret C rfl dX1_add_110 (by show 0 + 1 + 1 + 1 ≤ ρ.2.2.2.1; omega) (by show 0 + (2 * ρ.2.2.2.1) + (2 * ρ.2.2.2.1) + (2 * ρ.2.2.2.1) ≤ 6 * ρ.2.2.2.1; omega) ⟨gra ρ q0 q1 q2, rfl, rfl, rfl, rfl⟩

end
