section
variable {l : Launch} {G : az_G} {ρ : Rp} {x : Xs} {m : Ms} {ou : Nat → Int64}
/-- the class's places, and nothing else: before the reference is made -/
def KK_9 (G : az_G) (ρ : Rp) (x : Xs) (m : Ms) (ou : Nat → Int64) : az_K := fun r i => match r with
  | 0 => xc G ρ x.2.2.2 i (x.1 i)
  | 1 => if i < ρ.2.2.2.2.2 then some (bc ρ i (x.2.1 i) x.2.2.1) else none
  | _ + 2 => none
theorem KK_X_9 {G : az_G} {ρ : Rp} {x : Xs} {m : Ms} {ou : Nat → Int64} {i j : Nat} {v : Int32} {e : va_E} (h : xc G ρ x.2.2.2 i (upd (x.1 i) j v) = some e) : az_u (KK_9 G ρ x m ou) 0 i e = KK_9 G ρ (xI x i j v) m ou := by
  funext r i'
  by_cases hh : r = 0 ∧ i' = i
  · obtain ⟨rfl, rfl⟩ := hh
    rw [az_u_s]
    show some e = xc G ρ x.2.2.2 i' (up2 x.1 i' j v i')
    rw [up2_row, h]
  · rw [az_u_n hh]
    match r, hh with
    | 0, hh =>
      have hi : i' ≠ i := fun z => hh ⟨rfl, z⟩
      show xc G ρ x.2.2.2 i' (x.1 i') = xc G ρ x.2.2.2 i' (up2 x.1 i j v i')
      rw [up2_p hi]
    | 1, _ => rfl
    | 2, _ => rfl
    | 3, _ => rfl
    | _ + 4, _ => rfl

def gK1_9 (G : az_G) (ρ : Rp) (x : Xs) (m : Ms) (ou : Nat → Int64) (N2 : Nat) : az_K := az_u (KK_9 G ρ x m ou) 9 0 (.inl (G.2.2.1 0, N2, .inl (gro (x.1 20) ρ.2.2.2.1)))

def gK2_9 (G : az_G) (ρ : Rp) (x : Xs) (m : Ms) (ou : Nat → Int64) (N2 q0 : Nat) : az_K := az_u (gK1_9 G ρ x m ou N2) 0 8 (.inr (5, [.ref q0, .ref (ρ.2.1 21), .ref (ρ.2.1 22), .int (x.1 8 3)]))

def gK3_9 (G : az_G) (ρ : Rp) (x : Xs) (m : Ms) (ou : Nat → Int64) (N2 q0 : Nat) : az_K := az_u (gK2_9 G ρ x m ou N2 q0) 9 1 (.inl (G.2.2.1 0, N2, .inl (gro (x.1 21) ρ.2.2.2.1)))

def gK4_9 (G : az_G) (ρ : Rp) (x : Xs) (m : Ms) (ou : Nat → Int64) (N2 q0 q1 : Nat) : az_K := az_u (gK3_9 G ρ x m ou N2 q0) 0 8 (.inr (5, [.ref q0, .ref q1, .ref (ρ.2.1 22), .int (x.1 8 3)]))

def gK5_9 (G : az_G) (ρ : Rp) (x : Xs) (m : Ms) (ou : Nat → Int64) (N2 q0 q1 : Nat) : az_K := az_u (gK4_9 G ρ x m ou N2 q0 q1) 9 2 (.inl (G.2.2.1 0, N2, .inl (gro (x.1 22) ρ.2.2.2.1)))

def gK6_9 (G : az_G) (ρ : Rp) (x : Xs) (m : Ms) (ou : Nat → Int64) (N2 q0 q1 q2 : Nat) : az_K := az_u (gK5_9 G ρ x m ou N2 q0 q1) 0 8 (.inr (5, [.ref q0, .ref q1, .ref q2, .int (x.1 8 3)]))

theorem gK6_o_9 {N2 q0 q1 q2 r i : Nat} (h8 : ¬ (r = 0 ∧ i = 8)) (h9 : r ≠ 9) : gK6_9 G ρ x m ou N2 q0 q1 q2 r i = KK_9 G ρ x m ou r i := by
  unfold gK6_9 gK5_9 gK4_9 gK3_9 gK2_9 gK1_9
  rw [az_u_n h8, az_u_n (fun z => h9 z.1), az_u_n h8, az_u_n (fun z => h9 z.1), az_u_n h8, az_u_n (fun z => h9 z.1)]

set_option maxRecDepth 100000 in
theorem grow_1_9 {N2 q0 q1 q2 : Nat} (hz : RowZ ρ x) : ∀ (r i : Nat) (e : va_E), KK_9 G (gR ρ (gra ρ q0 q1 q2) N2) x m ou r i = some e → gK6_9 G ρ x m ou N2 q0 q1 q2 (mvF r i).1 (mvF r i).2 = some e ∧ AD (gR ρ (gra ρ q0 q1 q2) N2) r i = gA ρ q0 q1 q2 (mvF r i).1 (mvF r i).2 := by
  intro r i e h
  have other : mvF r i = (r, i) → ¬ (r = 0 ∧ i = 8) → r ≠ 9 → KK_9 G (gR ρ (gra ρ q0 q1 q2) N2) x m ou r i = KK_9 G ρ x m ou r i → AD (gR ρ (gra ρ q0 q1 q2) N2) r i = AD ρ r i → gK6_9 G ρ x m ou N2 q0 q1 q2 (mvF r i).1 (mvF r i).2 = some e ∧ AD (gR ρ (gra ρ q0 q1 q2) N2) r i = gA ρ q0 q1 q2 (mvF r i).1 (mvF r i).2 := fun h1 h2 h3 h4 h5 => by
    rw [h1]
    exact ⟨(gK6_o_9 h2 h3).trans (h4.symm.trans h), h5.trans (gA_o h3).symm⟩
  match r, i, h with
  | 0, 0, h => exact other rfl (by decide) (by decide) rfl rfl
  | 0, 1, h => exact other rfl (by decide) (by decide) rfl rfl
  | 0, 2, h => exact other rfl (by decide) (by decide) rfl rfl
  | 0, 3, h => exact other rfl (by decide) (by decide) rfl rfl
  | 0, 4, h => exact other rfl (by decide) (by decide) rfl rfl
  | 0, 5, h => exact other rfl (by decide) (by decide) rfl rfl
  | 0, 6, h => exact other rfl (by decide) (by decide) rfl rfl
  | 0, 7, h => exact other rfl (by decide) (by decide) rfl rfl
  | 0, 8, h => exact ⟨h, rfl⟩
  | 0, 9, h => exact other rfl (by decide) (by decide) rfl rfl
  | 0, 10, h => exact other rfl (by decide) (by decide) rfl rfl
  | 0, 11, h => exact other rfl (by decide) (by decide) rfl rfl
  | 0, 12, h => exact other rfl (by decide) (by decide) rfl rfl
  | 0, 13, h => exact other rfl (by decide) (by decide) rfl rfl
  | 0, 14, h => exact other rfl (by decide) (by decide) rfl rfl
  | 0, 20, h => exact ⟨Eq.trans (by show some (Sum.inl (G.2.2.1 0, N2, Sum.inl (gro (x.1 20) ρ.2.2.2.1))) = _; rw [gro_z (fun j hj => (hz j hj).1)]; rfl) h, rfl⟩
  | 0, 21, h => exact ⟨Eq.trans (by show some (Sum.inl (G.2.2.1 0, N2, Sum.inl (gro (x.1 21) ρ.2.2.2.1))) = _; rw [gro_z (fun j hj => (hz j hj).2.1)]; rfl) h, rfl⟩
  | 0, 22, h => exact ⟨Eq.trans (by show some (Sum.inl (G.2.2.1 0, N2, Sum.inl (gro (x.1 22) ρ.2.2.2.1))) = _; rw [gro_z (fun j hj => (hz j hj).2.2)]; rfl) h, rfl⟩
  | 0, 23, h => exact other rfl (by decide) (by decide) rfl rfl
  | 0, 15, h => cases h
  | 0, 16, h => cases h
  | 0, 17, h => cases h
  | 0, 18, h => cases h
  | 0, 19, h => cases h
  | 0, n + 24, h => cases h
  | 1, i, h => exact other rfl (fun z => absurd z.1 (by decide)) (by decide) rfl rfl
  | 2, i, h => exact other rfl (fun z => absurd z.1 (by decide)) (by decide) rfl rfl
  | 3, i, h => exact other rfl (fun z => absurd z.1 (by decide)) (by decide) rfl rfl
  | n + 4, i, h => cases h

theorem grow_2_9 {N2 q0 q1 q2 : Nat} : ∀ (r i r' i' : Nat) (e e' : va_E), KK_9 G (gR ρ (gra ρ q0 q1 q2) N2) x m ou r i = some e → KK_9 G (gR ρ (gra ρ q0 q1 q2) N2) x m ou r' i' = some e' → mvF r i = mvF r' i' → r = r' ∧ i = i' := by
  intro r i r' i' e e' h h' hh
  refine mvF_inj (fun z => ?_) (fun z => ?_) hh
  · subst z; cases h
  · subst z; cases h'

set_option maxHeartbeats 4000000 in
set_option maxRecDepth 100000 in
theorem Xadd_g_9 (hG : az_okS l G) (n : Nat) (hm : x.1 8 3 = nI n) (hn : n < 65536) (hnc : n = ρ.2.2.2.1) (h256 : 256 ≤ ρ.2.2.2.1) (hz : RowZ ρ x) (u v w : Int32) : az_M l G yX1_add (az_ws yX1_add cX1_add 5 (Option.none : Option FieldType)) 3 [.ref (ρ.1 8), .int u, .int v, .int w] (AD ρ) (KK_9 G ρ x m ou) ρ.2.2.2.1 (6 * ρ.2.2.2.1) ((fun o ad' K' => ∃ a : Nat → Nat, a 23 = ρ.2.1 23 ∧ o = .inl none ∧ ad' = AD (gR ρ a (2 * ρ.2.2.2.1)) ∧ K' = KK_9 G (gR ρ a (2 * ρ.2.2.2.1)) (addX x n u v w) m ou)) := by
  refine az_start hG.1 (by decide +kernel) (Nat.le_of_ble_eq_true rfl) ?_
  intro p e s mm args below meth c C hnm
  show az_W l G 5 _ p e _ s mm args below meth c _ _ 0 0 0 [(0, .ref (ρ.1 8)), (1, .int u), (2, .int v), (3, .int w)] []
  refine az_aload_n C 0 dX1_add_0 rfl ?_
  refine az_get C cX1 0 8 3 (v := .int (x.1 8 3)) wl_X1_19 dX1_add_1 rfl rfl rfl (by decide) ?_
  refine az_top (nI n) hm ?_
  refine az_ldc C (v := 65536) wn_X1_23 dX1_add_4 ?_
  refine az_icmp_lt C 10 dX1_add_6 (by decide) (fun _ => ?_) (fun q => absurd (show nI n < 65536 from by rw [show (65536 : Int32) = nI 65536 from rfl]; exact Int32.not_le.mp (nlt_nle hn (by omega))) q)
  refine az_aload_n C 0 dX1_add_10 rfl ?_
  refine az_get C cX1 0 8 3 (v := .int (x.1 8 3)) wl_X1_19 dX1_add_11 rfl rfl rfl (by decide) ?_
  refine az_top (nI n) hm ?_
  refine az_aload_n C 0 dX1_add_14 rfl ?_
  refine az_get C cX1 0 8 0 (v := .ref (ρ.2.1 20)) wl_X1_9 dX1_add_15 rfl rfl rfl (by decide) ?_
  refine az_alen C 0 20 (z := 0) (cy := (G.2.2.1 0, .int)) dX1_add_18 rfl rfl rfl ?_
  refine az_icmp_lt C 70 dX1_add_19 (by decide) (fun q => absurd q (fun z => by rw [hnc] at z; exact absurd z (Int32.not_lt.mpr (Int32.le_refl _)))) (fun _ => ?_)
  refine az_iconst C (v := 2) dX1_add_22 (by decide) ?_
  refine az_aload_n C 0 dX1_add_23 rfl ?_
  refine az_get C cX1 0 8 0 (v := .ref (ρ.2.1 20)) wl_X1_9 dX1_add_24 rfl rfl rfl (by decide) ?_
  refine az_alen C 0 20 (z := 0) (cy := (G.2.2.1 0, .int)) dX1_add_27 rfl rfl rfl ?_
  refine az_imul C dX1_add_28 ?_
  refine az_top (nI (2 * ρ.2.2.2.1)) (nI_dbl ρ.2.2.2.1) ?_
  refine az_istore C (lv' := [(4, .int (nI (2 * ρ.2.2.2.1))), (0, .ref (ρ.1 8)), (1, .int u), (2, .int v), (3, .int w)]) dX1_add_29 (by decide) rfl ?_
  refine az_aload_n C 1 dX1_add_31 rfl ?_
  refine az_aload_n C 1 dX1_add_32 rfl ?_
  refine az_get C cX1 0 8 0 (v := .ref (ρ.2.1 20)) wl_X1_9 dX1_add_33 rfl rfl rfl (by decide) ?_
  refine az_iload C 0 dX1_add_36 rfl ?_
  refine az_callS C Y_J7_copyOf_59c91 [.ref (ρ.2.1 20), .int (nI (2 * ρ.2.2.2.1))] [.ref (ρ.1 8)] wm_X1_24 wst_J7_copyOf_59c91 dX1_add_38 rfl (XcopyOf (ad := (AD ρ)) (K := (KK_9 G ρ x m ou)) hG 20 0 (N := ρ.2.2.2.1) (f := x.1 20) rfl rfl (by omega) (by omega)) rfl (Nat.le_of_ble_eq_true rfl) (Nat.le_of_ble_eq_true rfl) (Nat.le_of_ble_eq_true rfl) (by show 0 + 1 ≤ ρ.2.2.2.1; omega) (by show 0 + (2 * ρ.2.2.2.1) ≤ 6 * ρ.2.2.2.1; omega) ?_ (by rintro E ad9 K9 ⟨q9, h9, -⟩; cases h9)
  rintro v9 ad9 K9 ⟨q0, h9, rfl, rfl⟩
  cases h9
  refine az_to (ad' := (az_ua (AD ρ) 9 0 q0)) (K' := (gK1_9 G ρ x m ou (2 * ρ.2.2.2.1))) rfl rfl ?_
  refine az_put C cX1 0 8 0 wl_X1_9 dX1_add_41 rfl rfl (by decide) (Nat.le_of_ble_eq_true rfl) rfl rfl rfl (az_to rfl (K' := (gK2_9 G ρ x m ou (2 * ρ.2.2.2.1) q0)) rfl ?_)
  refine az_aload_n C 1 dX1_add_44 rfl ?_
  refine az_aload_n C 1 dX1_add_45 rfl ?_
  refine az_get C cX1 0 8 1 (v := .ref (ρ.2.1 21)) wl_X1_13 dX1_add_46 rfl rfl rfl (by decide) ?_
  refine az_iload C 0 dX1_add_49 rfl ?_
  refine az_callS C Y_J7_copyOf_59c91 [.ref (ρ.2.1 21), .int (nI (2 * ρ.2.2.2.1))] [.ref (ρ.1 8)] wm_X1_24 wst_J7_copyOf_59c91 dX1_add_51 rfl (XcopyOf (ad := (az_ua (AD ρ) 9 0 q0)) (K := (gK2_9 G ρ x m ou (2 * ρ.2.2.2.1) q0)) hG 21 1 (N := ρ.2.2.2.1) (f := x.1 21) rfl rfl (by omega) (by omega)) rfl (Nat.le_of_ble_eq_true rfl) (Nat.le_of_ble_eq_true rfl) (Nat.le_of_ble_eq_true rfl) (by show (0 + 1) + 1 ≤ ρ.2.2.2.1; omega) (by show (0 + (2 * ρ.2.2.2.1)) + (2 * ρ.2.2.2.1) ≤ 6 * ρ.2.2.2.1; omega) ?_ (by rintro E ad9 K9 ⟨q9, h9, -⟩; cases h9)
  rintro v9 ad9 K9 ⟨q1, h9, rfl, rfl⟩
  cases h9
  refine az_to (ad' := (az_ua (az_ua (AD ρ) 9 0 q0) 9 1 q1)) (K' := (gK3_9 G ρ x m ou (2 * ρ.2.2.2.1) q0)) rfl rfl ?_
  refine az_put C cX1 0 8 1 wl_X1_13 dX1_add_54 rfl rfl (by decide) (Nat.le_of_ble_eq_true rfl) rfl rfl rfl (az_to rfl (K' := (gK4_9 G ρ x m ou (2 * ρ.2.2.2.1) q0 q1)) rfl ?_)
  refine az_aload_n C 1 dX1_add_57 rfl ?_
  refine az_aload_n C 1 dX1_add_58 rfl ?_
  refine az_get C cX1 0 8 2 (v := .ref (ρ.2.1 22)) wl_X1_16 dX1_add_59 rfl rfl rfl (by decide) ?_
  refine az_iload C 0 dX1_add_62 rfl ?_
  refine az_callS C Y_J7_copyOf_59c91 [.ref (ρ.2.1 22), .int (nI (2 * ρ.2.2.2.1))] [.ref (ρ.1 8)] wm_X1_24 wst_J7_copyOf_59c91 dX1_add_64 rfl (XcopyOf (ad := (az_ua (az_ua (AD ρ) 9 0 q0) 9 1 q1)) (K := (gK4_9 G ρ x m ou (2 * ρ.2.2.2.1) q0 q1)) hG 22 2 (N := ρ.2.2.2.1) (f := x.1 22) rfl rfl (by omega) (by omega)) rfl (Nat.le_of_ble_eq_true rfl) (Nat.le_of_ble_eq_true rfl) (Nat.le_of_ble_eq_true rfl) (by show (0 + 1 + 1) + 1 ≤ ρ.2.2.2.1; omega) (by show (0 + (2 * ρ.2.2.2.1) + (2 * ρ.2.2.2.1)) + (2 * ρ.2.2.2.1) ≤ 6 * ρ.2.2.2.1; omega) ?_ (by rintro E ad9 K9 ⟨q9, h9, -⟩; cases h9)
  rintro v9 ad9 K9 ⟨q2, h9, rfl, rfl⟩
  cases h9
  refine az_to (ad' := (gA ρ q0 q1 q2)) (K' := (gK5_9 G ρ x m ou (2 * ρ.2.2.2.1) q0 q1)) rfl rfl ?_
  refine az_put C cX1 0 8 2 wl_X1_16 dX1_add_67 rfl rfl (by decide) (Nat.le_of_ble_eq_true rfl) rfl rfl rfl (az_to rfl (K' := (gK6_9 G ρ x m ou (2 * ρ.2.2.2.1) q0 q1 q2)) rfl ?_)
  refine az_mv (ad' := AD (gR ρ (gra ρ q0 q1 q2) (2 * ρ.2.2.2.1))) (K' := KK_9 G (gR ρ (gra ρ q0 q1 q2) (2 * ρ.2.2.2.1)) x m ou) mvF (grow_1_9 hz) grow_2_9 ?_
  refine az_aload_n C 1 dX1_add_70 rfl ?_
  refine az_get C cX1 0 8 0 (v := .ref ((gR ρ (gra ρ q0 q1 q2) (2 * ρ.2.2.2.1)).2.1 20)) wl_X1_9 dX1_add_71 rfl rfl rfl (by decide) ?_
  refine az_aload_n C 1 dX1_add_74 rfl ?_
  refine az_get C cX1 0 8 3 (v := .int (x.1 8 3)) wl_X1_19 dX1_add_75 rfl rfl rfl (by decide) ?_
  refine az_top (nI n) hm ?_
  refine az_iload_n C 2 dX1_add_78 rfl ?_
  refine az_iastN C 0 20 n dX1_add_79 rfl rfl (show n < 2 * ρ.2.2.2.1 by omega) (show 2 * ρ.2.2.2.1 < 2 ^ 31 by omega) (az_to rfl (K' := (KK_9 G (gR ρ (gra ρ q0 q1 q2) (2 * ρ.2.2.2.1)) (xI x 20 n u) m ou)) (KK_X_9 rfl) ?_)
  refine az_aload_n C 1 dX1_add_80 rfl ?_
  refine az_get C cX1 0 8 1 (v := .ref ((gR ρ (gra ρ q0 q1 q2) (2 * ρ.2.2.2.1)).2.1 21)) wl_X1_13 dX1_add_81 rfl rfl rfl (by decide) ?_
  refine az_aload_n C 1 dX1_add_84 rfl ?_
  refine az_get C cX1 0 8 3 (v := .int (x.1 8 3)) wl_X1_19 dX1_add_85 rfl rfl rfl (by decide) ?_
  refine az_top (nI n) hm ?_
  refine az_iload_n C 3 dX1_add_88 rfl ?_
  refine az_iastN C 0 21 n dX1_add_89 rfl rfl (show n < 2 * ρ.2.2.2.1 by omega) (show 2 * ρ.2.2.2.1 < 2 ^ 31 by omega) (az_to rfl (K' := (KK_9 G (gR ρ (gra ρ q0 q1 q2) (2 * ρ.2.2.2.1)) (xI (xI x 20 n u) 21 n v) m ou)) (KK_X_9 rfl) ?_)
  refine az_aload_n C 1 dX1_add_90 rfl ?_
  refine az_get C cX1 0 8 2 (v := .ref ((gR ρ (gra ρ q0 q1 q2) (2 * ρ.2.2.2.1)).2.1 22)) wl_X1_16 dX1_add_91 rfl rfl rfl (by decide) ?_
  refine az_aload_n C 1 dX1_add_94 rfl ?_
  refine az_get C cX1 0 8 3 (v := .int (x.1 8 3)) wl_X1_19 dX1_add_95 rfl rfl rfl (by decide) ?_
  refine az_top (nI n) hm ?_
  refine az_iload_n C 4 dX1_add_98 rfl ?_
  refine az_iastN C 0 22 n dX1_add_99 rfl rfl (show n < 2 * ρ.2.2.2.1 by omega) (show 2 * ρ.2.2.2.1 < 2 ^ 31 by omega) (az_to rfl (K' := (KK_9 G (gR ρ (gra ρ q0 q1 q2) (2 * ρ.2.2.2.1)) (xI (xI (xI x 20 n u) 21 n v) 22 n w) m ou)) (KK_X_9 rfl) ?_)
  refine az_aload_n C 1 dX1_add_100 rfl ?_
  refine az_dup C dX1_add_101 rfl ?_
  refine az_get C cX1 0 8 3 (v := .int (x.1 8 3)) wl_X1_19 dX1_add_102 rfl rfl rfl (by decide) ?_
  refine az_top (nI n) hm ?_
  refine az_iconst C (v := 1) dX1_add_105 (by decide) ?_
  refine az_iadd C dX1_add_106 ?_
  refine az_top (nI (n + 1)) (nI_1 n) ?_
  refine az_put C cX1 0 8 3 wl_X1_19 dX1_add_107 rfl rfl (by decide) (Nat.le_of_ble_eq_true rfl) rfl rfl rfl (az_to rfl (K' := (KK_9 G (gR ρ (gra ρ q0 q1 q2) (2 * ρ.2.2.2.1)) (xI (xI (xI (xI x 20 n u) 21 n v) 22 n w) 8 3 (nI (n + 1))) m ou)) (KK_X_9 rfl) ?_)
  exact az_vret C rfl dX1_add_110 (by show 0 + 1 + 1 + 1 ≤ ρ.2.2.2.1; omega) (by show 0 + (2 * ρ.2.2.2.1) + (2 * ρ.2.2.2.1) + (2 * ρ.2.2.2.1) ≤ 6 * ρ.2.2.2.1; omega) ⟨gra ρ q0 q1 q2, rfl, rfl, rfl, rfl⟩

def az_g_9 (G : az_G) (v : Option Value) (ρ : Rp) (C : Nat) (x : Xs) (m : Ms) (ou : Nat → Int64) : az_O → az_A → az_K → Prop := fun o ad' K' => ∃ a : Nat → Nat, a 23 = ρ.2.1 23 ∧ o = .inl v ∧ ad' = AD (gR ρ a C) ∧ K' = KK_9 G (gR ρ a C) x m ou

set_option maxHeartbeats 4000000 in
set_option maxRecDepth 100000 in
theorem Xadd_m_9 (hG : az_okS l G) (n : Nat) (hm : x.1 8 3 = nI n) (hn : n < 65536) (hc : n < ρ.2.2.2.1) (hc2 : ρ.2.2.2.1 < 2 ^ 20) (u v w : Int32) : az_M l G yX1_add (az_ws yX1_add cX1_add 5 (Option.none : Option FieldType)) 3 [.ref (ρ.1 8), .int u, .int v, .int w] (AD ρ) (KK_9 G ρ x m ou) 0 0 (az_g_9 G none ρ ρ.2.2.2.1 (addX x n u v w) m ou) := by
  refine az_start hG.1 (by decide +kernel) (Nat.le_of_ble_eq_true rfl) ?_
  intro p e s mm args below meth c C hnm
  show az_W l G 5 _ p e _ s mm args below meth c _ _ 0 0 0 [(0, .ref (ρ.1 8)), (1, .int u), (2, .int v), (3, .int w)] []
  refine az_aload_n C 0 dX1_add_0 rfl ?_
  refine az_get C cX1 0 8 3 (v := .int (x.1 8 3)) wl_X1_19 dX1_add_1 rfl rfl rfl (by decide) ?_
  refine az_top (nI n) hm ?_
  refine az_ldc C (v := 65536) wn_X1_23 dX1_add_4 ?_
  refine az_icmp_lt C 10 dX1_add_6 (by decide) (fun _ => ?_) (fun q => absurd (show nI n < 65536 from by rw [show (65536 : Int32) = nI 65536 from rfl]; exact Int32.not_le.mp (nlt_nle hn (by omega))) q)
  refine az_aload_n C 0 dX1_add_10 rfl ?_
  refine az_get C cX1 0 8 3 (v := .int (x.1 8 3)) wl_X1_19 dX1_add_11 rfl rfl rfl (by decide) ?_
  refine az_top (nI n) hm ?_
  refine az_aload_n C 0 dX1_add_14 rfl ?_
  refine az_get C cX1 0 8 0 (v := .ref (ρ.2.1 20)) wl_X1_9 dX1_add_15 rfl rfl rfl (by decide) ?_
  refine az_alen C 0 20 (z := 0) (cy := (G.2.2.1 0, .int)) dX1_add_18 rfl rfl rfl ?_
  refine az_icmp_lt C 70 dX1_add_19 (by decide) (fun _ => ?_) (fun q => absurd (Int32.not_le.mp (nlt_nle hc (by omega))) q)
  refine az_aload_n C 0 dX1_add_70 rfl ?_
  refine az_get C cX1 0 8 0 (v := .ref (ρ.2.1 20)) wl_X1_9 dX1_add_71 rfl rfl rfl (by decide) ?_
  refine az_aload_n C 0 dX1_add_74 rfl ?_
  refine az_get C cX1 0 8 3 (v := .int (x.1 8 3)) wl_X1_19 dX1_add_75 rfl rfl rfl (by decide) ?_
  refine az_top (nI n) hm ?_
  refine az_iload_n C 1 dX1_add_78 rfl ?_
  refine az_iastN C 0 20 n dX1_add_79 rfl rfl (by omega) (by omega) (az_to rfl (K' := (KK_9 G ρ (xI x 20 n u) m ou)) (KK_X_9 rfl) ?_)
  refine az_aload_n C 0 dX1_add_80 rfl ?_
  refine az_get C cX1 0 8 1 (v := .ref (ρ.2.1 21)) wl_X1_13 dX1_add_81 rfl rfl rfl (by decide) ?_
  refine az_aload_n C 0 dX1_add_84 rfl ?_
  refine az_get C cX1 0 8 3 (v := .int (x.1 8 3)) wl_X1_19 dX1_add_85 rfl rfl rfl (by decide) ?_
  refine az_top (nI n) hm ?_
  refine az_iload_n C 2 dX1_add_88 rfl ?_
  refine az_iastN C 0 21 n dX1_add_89 rfl rfl (by omega) (by omega) (az_to rfl (K' := (KK_9 G ρ (xI (xI x 20 n u) 21 n v) m ou)) (KK_X_9 rfl) ?_)
  refine az_aload_n C 0 dX1_add_90 rfl ?_
  refine az_get C cX1 0 8 2 (v := .ref (ρ.2.1 22)) wl_X1_16 dX1_add_91 rfl rfl rfl (by decide) ?_
  refine az_aload_n C 0 dX1_add_94 rfl ?_
  refine az_get C cX1 0 8 3 (v := .int (x.1 8 3)) wl_X1_19 dX1_add_95 rfl rfl rfl (by decide) ?_
  refine az_top (nI n) hm ?_
  refine az_iload_n C 3 dX1_add_98 rfl ?_
  refine az_iastN C 0 22 n dX1_add_99 rfl rfl (by omega) (by omega) (az_to rfl (K' := (KK_9 G ρ (xI (xI (xI x 20 n u) 21 n v) 22 n w) m ou)) (KK_X_9 rfl) ?_)
  refine az_aload_n C 0 dX1_add_100 rfl ?_
  refine az_dup C dX1_add_101 rfl ?_
  refine az_get C cX1 0 8 3 (v := .int (x.1 8 3)) wl_X1_19 dX1_add_102 rfl rfl rfl (by decide) ?_
  refine az_top (nI n) hm ?_
  refine az_iconst C (v := 1) dX1_add_105 (by decide) ?_
  refine az_iadd C dX1_add_106 ?_
  refine az_top (nI (n + 1)) (nI_1 n) ?_
  refine az_put C cX1 0 8 3 wl_X1_19 dX1_add_107 rfl rfl (by decide) (Nat.le_of_ble_eq_true rfl) rfl rfl rfl (az_to rfl (K' := (KK_9 G ρ (xI (xI (xI (xI x 20 n u) 21 n v) 22 n w) 8 3 (nI (n + 1))) m ou)) (KK_X_9 rfl) ?_)
  exact az_vret C rfl dX1_add_110 (Nat.le_of_ble_eq_true rfl) (Nat.le_of_ble_eq_true rfl) ⟨ρ.2.1, rfl, rfl, rfl, rfl⟩

theorem Xadd_9 (hG : az_okS l G) (n : Nat) (hm : x.1 8 3 = nI n) (hn : n < 65536) (hc : n ≤ ρ.2.2.2.1) (h256 : 256 ≤ ρ.2.2.2.1) (hc2 : ρ.2.2.2.1 < 2 ^ 20) (hz : RowZ ρ x) (u v w : Int32) : az_M l G yX1_add (az_ws yX1_add cX1_add 5 (Option.none)) 3 [.ref (ρ.1 8), .int u, .int v, .int w] (AD ρ) (KK_9 G ρ x m ou) (capT ρ.2.2.2.1 (n + 1) - ρ.2.2.2.1) (6 * (capT ρ.2.2.2.1 (n + 1) - ρ.2.2.2.1)) (az_g_9 G none ρ (capT ρ.2.2.2.1 (n + 1)) (addX x n u v w) m ou) := by
  by_cases h : n < ρ.2.2.2.1
  · have e : capT ρ.2.2.2.1 (n + 1) = ρ.2.2.2.1 := if_pos h
    rw [e, Nat.sub_self]
    exact Xadd_m_9 hG n hm hn h hc2 u v w
  · have hnc : n = ρ.2.2.2.1 := by omega
    have e : capT ρ.2.2.2.1 (n + 1) = 2 * ρ.2.2.2.1 := if_neg (by omega)
    rw [e, show 2 * ρ.2.2.2.1 - ρ.2.2.2.1 = ρ.2.2.2.1 from by omega]
    exact Xadd_g_9 hG n hm hn hnc h256 hz u v w

set_option maxHeartbeats 4000000 in
set_option maxRecDepth 100000 in
theorem Xexc_r_9 (hG : az_okS l G) (nr k : Nat) (hr : x.1 1 8 = nI nr) (hn : nr ≤ 6) (hk : k + 1 ≤ nr) : az_M l G yX2_excess (az_ws yX2_excess cX2_excess 2 (Option.some FieldType.int)) 2 [.ref (ρ.1 1), .int (nI k)] (AD ρ) (KK_9 G ρ x m ou) 0 0 (az_r (some (.int (x.1 4 (k + 3) - 60 * x.1 2 k))) (AD ρ) (KK_9 G ρ x m ou)) := by
  refine az_start hG.1 (by decide +kernel) (Nat.le_of_ble_eq_true rfl) ?_
  intro p e s mm args below meth c C hnm
  show az_W l G 2 _ p e _ s mm args below meth c _ _ 0 0 0 [(0, .ref (ρ.1 1)), (1, .int (nI k))] []
  refine az_iload_n C 1 dX2_excess_0 rfl ?_
  refine az_if_lt C 12 dX2_excess_1 (by decide) (fun q => absurd q (Int32.not_lt.mpr (nI_pos' (by omega)))) (fun _ => ?_)
  refine az_iload_n C 1 dX2_excess_4 rfl ?_
  refine az_aload_n C 0 dX2_excess_5 rfl ?_
  refine az_get C cX2 0 1 8 (v := .int (x.1 1 8)) wl_X2_37 dX2_excess_6 rfl rfl rfl (by decide) ?_
  refine az_top (nI nr) hr ?_
  refine az_icmp_lt C 14 dX2_excess_9 (by decide) (fun _ => ?_) (fun q => absurd (Int32.not_le.mp (nlt_nle (show k < nr by omega) (by omega))) q)
  refine az_aload_n C 0 dX2_excess_14 rfl ?_
  refine az_get C cX2 0 1 2 (v := .ref (ρ.1 4)) wl_X2_18 dX2_excess_15 rfl rfl rfl (by decide) ?_
  refine az_iload_n C 1 dX2_excess_18 rfl ?_
  refine az_bipush C (v := (-3)) dX2_excess_19 (by decide) ?_
  refine az_isub C dX2_excess_21 ?_
  refine az_top (nI (k + 3)) (nI_m3 k) ?_
  refine az_ialdN C 0 4 ((k + 3)) (v := x.1 4 (k + 3)) dX2_excess_22 rfl rfl (by omega) (by decide) rfl ?_
  refine az_bipush C (v := 60) dX2_excess_23 (by decide) ?_
  refine az_aload_n C 0 dX2_excess_25 rfl ?_
  refine az_get C cX2 0 1 0 (v := .ref (ρ.1 2)) wl_X2_9 dX2_excess_26 rfl rfl rfl (by decide) ?_
  refine az_iload_n C 1 dX2_excess_29 rfl ?_
  refine az_ialdN C 0 2 k (v := x.1 2 k) dX2_excess_30 rfl rfl (by omega) (by decide) rfl ?_
  refine az_imul C dX2_excess_31 ?_
  refine az_isub C dX2_excess_32 ?_
  exact az_iret C rfl dX2_excess_33 (Nat.le_of_ble_eq_true rfl) (Nat.le_of_ble_eq_true rfl) ⟨rfl, rfl, rfl⟩

set_option maxHeartbeats 4000000 in
set_option maxRecDepth 100000 in
theorem Xexc_n_9 (hG : az_okS l G) (v : Int32) (hv : v < 0) : az_M l G yX2_excess (az_ws yX2_excess cX2_excess 2 (Option.some FieldType.int)) 2 [.ref (ρ.1 1), .int v] (AD ρ) (KK_9 G ρ x m ou) 0 0 (az_r (some (.int 0)) (AD ρ) (KK_9 G ρ x m ou)) := by
  refine az_start hG.1 (by decide +kernel) (Nat.le_of_ble_eq_true rfl) ?_
  intro p e s mm args below meth c C hnm
  show az_W l G 2 _ p e _ s mm args below meth c _ _ 0 0 0 [(0, .ref (ρ.1 1)), (1, .int v)] []
  refine az_iload_n C 1 dX2_excess_0 rfl ?_
  refine az_if_lt C 12 dX2_excess_1 (by decide) (fun _ => ?_) (fun q => absurd hv q)
  refine az_iconst C (v := 0) dX2_excess_12 (by decide) ?_
  exact az_iret C rfl dX2_excess_13 (Nat.le_of_ble_eq_true rfl) (Nat.le_of_ble_eq_true rfl) ⟨rfl, rfl, rfl⟩

set_option maxHeartbeats 4000000 in
set_option maxRecDepth 100000 in
theorem XaddBed_9 (hG : az_okS l G) (nr : Nat) (hr : x.1 1 8 = nI nr) (hn : nr < 6) (v : Int32) : az_M l G yX2_addBed (az_ws yX2_addBed cX2_addBed 3 (Option.some FieldType.int)) 1 [.ref (ρ.1 1), .int v] (AD ρ) (KK_9 G ρ x m ou) 0 0 (az_r (some (.int (nI nr))) (AD ρ) (KK_9 G ρ (bedX x nr v) m ou)) := by
  refine az_start hG.1 (by decide +kernel) (Nat.le_of_ble_eq_true rfl) ?_
  intro p e s mm args below meth c C hnm
  show az_W l G 3 _ p e _ s mm args below meth c _ _ 0 0 0 [(0, .ref (ρ.1 1)), (1, .int v)] []
  refine az_aload_n C 0 dX2_addBed_0 rfl ?_
  refine az_get C cX2 0 1 8 (v := .int (x.1 1 8)) wl_X2_37 dX2_addBed_1 rfl rfl rfl (by decide) ?_
  refine az_top (nI nr) hr ?_
  refine az_istore_n C (lv' := [(2, .int (nI nr)), (0, .ref (ρ.1 1)), (1, .int v)]) (j := 2) rfl dX2_addBed_4 (by decide) rfl ?_
  refine az_aload_n C 1 dX2_addBed_5 rfl ?_
  refine az_get C cX2 0 1 0 (v := .ref (ρ.1 2)) wl_X2_9 dX2_addBed_6 rfl rfl rfl (by decide) ?_
  refine az_iload_n C 0 dX2_addBed_9 rfl ?_
  refine az_iload_n C 2 dX2_addBed_10 rfl ?_
  refine az_iastN C 0 2 nr dX2_addBed_11 rfl rfl (by omega) (by decide) (az_to rfl (K' := (KK_9 G ρ (xI x 2 nr v) m ou)) (KK_X_9 rfl) ?_)
  refine az_aload_n C 1 dX2_addBed_12 rfl ?_
  refine az_dup C dX2_addBed_13 rfl ?_
  refine az_get C cX2 0 1 8 (v := .int (x.1 1 8)) wl_X2_37 dX2_addBed_14 rfl rfl rfl (by decide) ?_
  refine az_top (nI nr) hr ?_
  refine az_iconst C (v := 1) dX2_addBed_17 (by decide) ?_
  refine az_iadd C dX2_addBed_18 ?_
  refine az_top (nI (nr + 1)) (nI_1 nr) ?_
  refine az_put C cX2 0 1 8 wl_X2_37 dX2_addBed_19 rfl rfl (by decide) (Nat.le_of_ble_eq_true rfl) rfl rfl rfl (az_to rfl (K' := (KK_9 G ρ (xI (xI x 2 nr v) 1 8 (nI (nr + 1))) m ou)) (KK_X_9 rfl) ?_)
  refine az_iload_n C 0 dX2_addBed_22 rfl ?_
  exact az_iret C rfl dX2_addBed_23 (Nat.le_of_ble_eq_true rfl) (Nat.le_of_ble_eq_true rfl) ⟨rfl, rfl, rfl⟩

set_option maxHeartbeats 4000000 in
set_option maxRecDepth 100000 in
theorem Xst_r1_9 (hG : az_okS l G) {p : Program} {e : Env} {s : State} {mm : MethodId} {args : Array Value} {below : List Frame} {meth : Method} {c : Code} (C : az_C l G p s mm args meth c cX2_send yX2_send.cls 8 (Option.none : Option FieldType) []) {Qx : State → Prop} {k9 n9 mc ms : Nat} (s9 : Nat) (hs : s9 ≤ 6) (n : Nat) (hm : x.1 8 3 = nI n) (hn : n < 65536) (hc : n ≤ ρ.2.2.2.1) (h256 : 256 ≤ ρ.2.2.2.1) (hc2 : ρ.2.2.2.1 < 2 ^ 20) (hz : RowZ ρ x) (u : Int32) (a : Nat) (hu : u - (-3) = nI a) (ha : a < 18) (nr : Nat) (hr : x.1 1 8 = nI nr) (hn6 : nr ≤ 6) (k : Nat) (hk : k + 1 < nr) (w : Int32) (hw : 0 < w) (hcl : k9 + ((capT ρ.2.2.2.1 (n + 1)) - ρ.2.2.2.1) ≤ mc) (hsl : n9 + 6 * ((capT ρ.2.2.2.1 (n + 1)) - ρ.2.2.2.1) ≤ ms) (hx : ∀ a9 : Nat → Nat, a9 23 = ρ.2.1 23 → az_W l G 8 Qx p e (az_rm 4 mc ms) s mm args below meth c (AD (gR ρ a9 (capT ρ.2.2.2.1 (n + 1)))) (KK_9 G (gR ρ a9 (capT ρ.2.2.2.1 (n + 1))) (sdX x n u a (nI k) (k + 3) w) m ou) (k9 + ((capT ρ.2.2.2.1 (n + 1)) - ρ.2.2.2.1)) (n9 + 6 * ((capT ρ.2.2.2.1 (n + 1)) - ρ.2.2.2.1)) 12 [(7, .int (nI (s9 + 1))), (6, .int ((sdX x n u a (nI k) (k + 3) w).1 4 (k + 3) - 60 * (sdX x n u a (nI k) (k + 3) w).1 2 k)), (5, .int (nI (k + 1))), (4, .int (nI k)), (0, .ref (ρ.1 1))] []) : az_W l G 8 Qx p e (az_rm 4 mc ms) s mm args below meth c (AD ρ) (KK_9 G ρ x m ou) k9 n9 12 [(7, .int (nI s9)), (6, .int w), (5, .int (nI k)), (4, .int u), (0, .ref (ρ.1 1))] [] := by
  refine az_iload C 0 dX2_send_12 rfl ?_
  refine az_bipush C (v := 6) dX2_send_14 (by decide) ?_
  refine az_icmp_gt C 107 dX2_send_16 (by decide) (fun q => absurd q (Int32.not_lt.mpr (show nI s9 ≤ 6 from nI_leT hs (by decide)))) (fun _ => ?_)
  refine az_iload C 1 dX2_send_19 rfl ?_
  refine az_if_le C 107 dX2_send_21 (by decide) (fun q => absurd q (Int32.not_le.mpr hw)) (fun _ => ?_)
  refine az_aload_n C 4 dX2_send_24 rfl ?_
  refine az_get C cX2 0 1 2 (v := .ref (ρ.1 4)) wl_X2_18 dX2_send_25 rfl rfl rfl (by decide) ?_
  refine az_iload C 3 dX2_send_28 rfl ?_
  refine az_bipush C (v := (-3)) dX2_send_30 (by decide) ?_
  refine az_isub C dX2_send_32 ?_
  refine az_top (nI a) hu ?_
  refine az_dup2 C dX2_send_33 rfl rfl ?_
  refine az_ialdN C 0 4 a (v := x.1 4 a) dX2_send_34 rfl rfl ha (by decide) rfl ?_
  refine az_iload C 1 dX2_send_35 rfl ?_
  refine az_isub C dX2_send_37 ?_
  refine az_iastN C 0 4 a dX2_send_38 rfl rfl ha (by decide) (az_to rfl (K' := (KK_9 G ρ (xI x 4 a ((x.1 4 a - w))) m ou)) (KK_X_9 rfl) ?_)
  refine az_aload_n C 4 dX2_send_39 rfl ?_
  refine az_get C cX2 0 1 2 (v := .ref (ρ.1 4)) wl_X2_18 dX2_send_40 rfl rfl rfl (by decide) ?_
  refine az_iload C 2 dX2_send_43 rfl ?_
  refine az_bipush C (v := (-3)) dX2_send_45 (by decide) ?_
  refine az_isub C dX2_send_47 ?_
  refine az_top (nI (k + 3)) (nI_m3 k) ?_
  refine az_dup2 C dX2_send_48 rfl rfl ?_
  refine az_ialdN C 0 4 ((k + 3)) (v := ((xI x 4 a ((x.1 4 a - w)))).1 4 (k + 3)) dX2_send_49 rfl rfl (show k + 3 < 18 by omega) (by decide) rfl ?_
  refine az_iload C 1 dX2_send_50 rfl ?_
  refine az_iadd C dX2_send_52 ?_
  refine az_iastN C 0 4 ((k + 3)) dX2_send_53 rfl rfl (show k + 3 < 18 by omega) (by decide) (az_to rfl (K' := (KK_9 G ρ (xI (xI x 4 a ((x.1 4 a - w))) 4 ((k + 3)) ((((xI x 4 a ((x.1 4 a - w)))).1 4 (k + 3) + w))) m ou)) (KK_X_9 rfl) ?_)
  refine az_aload_n C 4 dX2_send_54 rfl ?_
  refine az_get C cX2 0 1 6 (v := .ref (ρ.1 8)) wl_X2_33 dX2_send_55 rfl rfl rfl (by decide) ?_
  refine az_iload C 3 dX2_send_58 rfl ?_
  refine az_iload C 2 dX2_send_60 rfl ?_
  refine az_iload C 1 dX2_send_62 rfl ?_
  refine az_callV C Y_X1_add cX1 0 8 [.int u, .int (nI k), .int w] [] wm_X2_49 wi_X1_add wse_X1_add dX2_send_64 rfl rfl rfl (Xadd_9 (x := (xI (xI x 4 a ((x.1 4 a - w))) 4 ((k + 3)) ((((xI x 4 a ((x.1 4 a - w)))).1 4 (k + 3) + w)))) hG n hm hn hc h256 hc2 (RowZ_w hz (fun _ => rfl) (fun _ => rfl) (fun _ => rfl)) u (nI k) w) rfl (Nat.le_of_ble_eq_true rfl) (Nat.le_of_ble_eq_true rfl) (Nat.le_of_ble_eq_true rfl) hcl hsl ?_ (by rintro E ad9 K9 ⟨q9, -, h9, -⟩; cases h9)
  rintro v9 ad9 K9 ⟨a9, ha9, h9, rfl, rfl⟩
  cases h9
  refine az_aload_n C 4 dX2_send_67 rfl ?_
  refine az_iload C 2 dX2_send_68 rfl ?_
  refine az_callV C Y_X2_excess cX2 0 1 [.int (nI k)] [] wm_X2_52 wi_X2_excess wse_X2_excess dX2_send_70 rfl rfl rfl (Xexc_r_9 (ρ := (gR ρ a9 (capT ρ.2.2.2.1 (n + 1)))) (x := (sdX x n u a (nI k) (k + 3) w)) hG nr k hr hn6 (by omega)) rfl (Nat.le_of_ble_eq_true rfl) (Nat.le_of_ble_eq_true rfl) (Nat.le_of_ble_eq_true rfl) (Nat.le_trans (Nat.le_of_eq (Nat.add_zero _)) hcl) (Nat.le_trans (Nat.le_of_eq (Nat.add_zero _)) hsl) (az_k1 rfl rfl ?_) (az_k0 rfl)
  refine az_istore C (lv' := [(6, .int ((sdX x n u a (nI k) (k + 3) w).1 4 (k + 3) - 60 * (sdX x n u a (nI k) (k + 3) w).1 2 k)), (7, .int (nI s9)), (5, .int (nI k)), (4, .int u), (0, .ref (ρ.1 1))]) dX2_send_73 (by decide) rfl ?_
  refine az_iload C 2 dX2_send_75 rfl ?_
  refine az_istore C (lv' := [(4, .int (nI k)), (6, .int ((sdX x n u a (nI k) (k + 3) w).1 4 (k + 3) - 60 * (sdX x n u a (nI k) (k + 3) w).1 2 k)), (7, .int (nI s9)), (5, .int (nI k)), (0, .ref (ρ.1 1))]) dX2_send_77 (by decide) rfl ?_
  refine az_iload C 3 dX2_send_79 rfl ?_
  refine az_iconst C (v := 1) dX2_send_81 (by decide) ?_
  refine az_iadd C dX2_send_82 ?_
  refine az_top (nI (k + 1)) (nI_1 k) ?_
  refine az_aload_n C 4 dX2_send_83 rfl ?_
  refine az_get C cX2 0 1 8 (v := .int ((sdX x n u a (nI k) (k + 3) w).1 1 8)) wl_X2_37 dX2_send_84 rfl rfl rfl (by decide) ?_
  refine az_top (nI nr) hr ?_
  refine az_icmp_ge C 97 dX2_send_87 (by decide) (fun q => absurd q (nlt_nle (show k + 1 < nr by omega) (by omega))) (fun _ => ?_)
  refine az_iload C 3 dX2_send_90 rfl ?_
  refine az_iconst C (v := 1) dX2_send_92 (by decide) ?_
  refine az_iadd C dX2_send_93 ?_
  refine az_top (nI (k + 1)) (nI_1 k) ?_
  refine az_goto C 99 dX2_send_94 (by decide) ?_
  refine az_istore C (lv' := [(5, .int (nI (k + 1))), (4, .int (nI k)), (6, .int ((sdX x n u a (nI k) (k + 3) w).1 4 (k + 3) - 60 * (sdX x n u a (nI k) (k + 3) w).1 2 k)), (7, .int (nI s9)), (0, .ref (ρ.1 1))]) dX2_send_99 (by decide) rfl ?_
  refine az_iinc C 3 (v := nI (s9 + 1)) (lv' := [(7, .int (nI (s9 + 1))), (5, .int (nI (k + 1))), (4, .int (nI k)), (6, .int ((sdX x n u a (nI k) (k + 3) w).1 4 (k + 3) - 60 * (sdX x n u a (nI k) (k + 3) w).1 2 k)), (0, .ref (ρ.1 1))]) dX2_send_101 rfl (nI_1 s9) (by decide) rfl ?_
  refine az_goto C 12 dX2_send_104 (by decide) ?_
  exact az_lv [0, 3, 1, 2, 4] rfl (hx a9 ha9)

set_option maxHeartbeats 4000000 in
set_option maxRecDepth 100000 in
theorem Xst_r2_9 (hG : az_okS l G) {p : Program} {e : Env} {s : State} {mm : MethodId} {args : Array Value} {below : List Frame} {meth : Method} {c : Code} (C : az_C l G p s mm args meth c cX2_send yX2_send.cls 8 (Option.none : Option FieldType) []) {Qx : State → Prop} {k9 n9 mc ms : Nat} (s9 : Nat) (hs : s9 ≤ 6) (n : Nat) (hm : x.1 8 3 = nI n) (hn : n < 65536) (hc : n ≤ ρ.2.2.2.1) (h256 : 256 ≤ ρ.2.2.2.1) (hc2 : ρ.2.2.2.1 < 2 ^ 20) (hz : RowZ ρ x) (u : Int32) (a : Nat) (hu : u - (-3) = nI a) (ha : a < 18) (nr : Nat) (hr : x.1 1 8 = nI nr) (hn6 : nr ≤ 6) (k : Nat) (hk : k + 1 = nr) (w : Int32) (hw : 0 < w) (hcl : k9 + ((capT ρ.2.2.2.1 (n + 1)) - ρ.2.2.2.1) ≤ mc) (hsl : n9 + 6 * ((capT ρ.2.2.2.1 (n + 1)) - ρ.2.2.2.1) ≤ ms) (hx : ∀ a9 : Nat → Nat, a9 23 = ρ.2.1 23 → az_W l G 8 Qx p e (az_rm 4 mc ms) s mm args below meth c (AD (gR ρ a9 (capT ρ.2.2.2.1 (n + 1)))) (KK_9 G (gR ρ a9 (capT ρ.2.2.2.1 (n + 1))) (sdX x n u a (nI k) (k + 3) w) m ou) (k9 + ((capT ρ.2.2.2.1 (n + 1)) - ρ.2.2.2.1)) (n9 + 6 * ((capT ρ.2.2.2.1 (n + 1)) - ρ.2.2.2.1)) 12 [(7, .int (nI (s9 + 1))), (6, .int ((sdX x n u a (nI k) (k + 3) w).1 4 (k + 3) - 60 * (sdX x n u a (nI k) (k + 3) w).1 2 k)), (5, .int ((-2))), (4, .int (nI k)), (0, .ref (ρ.1 1))] []) : az_W l G 8 Qx p e (az_rm 4 mc ms) s mm args below meth c (AD ρ) (KK_9 G ρ x m ou) k9 n9 12 [(7, .int (nI s9)), (6, .int w), (5, .int (nI k)), (4, .int u), (0, .ref (ρ.1 1))] [] := by
  refine az_iload C 0 dX2_send_12 rfl ?_
  refine az_bipush C (v := 6) dX2_send_14 (by decide) ?_
  refine az_icmp_gt C 107 dX2_send_16 (by decide) (fun q => absurd q (Int32.not_lt.mpr (show nI s9 ≤ 6 from nI_leT hs (by decide)))) (fun _ => ?_)
  refine az_iload C 1 dX2_send_19 rfl ?_
  refine az_if_le C 107 dX2_send_21 (by decide) (fun q => absurd q (Int32.not_le.mpr hw)) (fun _ => ?_)
  refine az_aload_n C 4 dX2_send_24 rfl ?_
  refine az_get C cX2 0 1 2 (v := .ref (ρ.1 4)) wl_X2_18 dX2_send_25 rfl rfl rfl (by decide) ?_
  refine az_iload C 3 dX2_send_28 rfl ?_
  refine az_bipush C (v := (-3)) dX2_send_30 (by decide) ?_
  refine az_isub C dX2_send_32 ?_
  refine az_top (nI a) hu ?_
  refine az_dup2 C dX2_send_33 rfl rfl ?_
  refine az_ialdN C 0 4 a (v := x.1 4 a) dX2_send_34 rfl rfl ha (by decide) rfl ?_
  refine az_iload C 1 dX2_send_35 rfl ?_
  refine az_isub C dX2_send_37 ?_
  refine az_iastN C 0 4 a dX2_send_38 rfl rfl ha (by decide) (az_to rfl (K' := (KK_9 G ρ (xI x 4 a ((x.1 4 a - w))) m ou)) (KK_X_9 rfl) ?_)
  refine az_aload_n C 4 dX2_send_39 rfl ?_
  refine az_get C cX2 0 1 2 (v := .ref (ρ.1 4)) wl_X2_18 dX2_send_40 rfl rfl rfl (by decide) ?_
  refine az_iload C 2 dX2_send_43 rfl ?_
  refine az_bipush C (v := (-3)) dX2_send_45 (by decide) ?_
  refine az_isub C dX2_send_47 ?_
  refine az_top (nI (k + 3)) (nI_m3 k) ?_
  refine az_dup2 C dX2_send_48 rfl rfl ?_
  refine az_ialdN C 0 4 ((k + 3)) (v := ((xI x 4 a ((x.1 4 a - w)))).1 4 (k + 3)) dX2_send_49 rfl rfl (show k + 3 < 18 by omega) (by decide) rfl ?_
  refine az_iload C 1 dX2_send_50 rfl ?_
  refine az_iadd C dX2_send_52 ?_
  refine az_iastN C 0 4 ((k + 3)) dX2_send_53 rfl rfl (show k + 3 < 18 by omega) (by decide) (az_to rfl (K' := (KK_9 G ρ (xI (xI x 4 a ((x.1 4 a - w))) 4 ((k + 3)) ((((xI x 4 a ((x.1 4 a - w)))).1 4 (k + 3) + w))) m ou)) (KK_X_9 rfl) ?_)
  refine az_aload_n C 4 dX2_send_54 rfl ?_
  refine az_get C cX2 0 1 6 (v := .ref (ρ.1 8)) wl_X2_33 dX2_send_55 rfl rfl rfl (by decide) ?_
  refine az_iload C 3 dX2_send_58 rfl ?_
  refine az_iload C 2 dX2_send_60 rfl ?_
  refine az_iload C 1 dX2_send_62 rfl ?_
  refine az_callV C Y_X1_add cX1 0 8 [.int u, .int (nI k), .int w] [] wm_X2_49 wi_X1_add wse_X1_add dX2_send_64 rfl rfl rfl (Xadd_9 (x := (xI (xI x 4 a ((x.1 4 a - w))) 4 ((k + 3)) ((((xI x 4 a ((x.1 4 a - w)))).1 4 (k + 3) + w)))) hG n hm hn hc h256 hc2 (RowZ_w hz (fun _ => rfl) (fun _ => rfl) (fun _ => rfl)) u (nI k) w) rfl (Nat.le_of_ble_eq_true rfl) (Nat.le_of_ble_eq_true rfl) (Nat.le_of_ble_eq_true rfl) hcl hsl ?_ (by rintro E ad9 K9 ⟨q9, -, h9, -⟩; cases h9)
  rintro v9 ad9 K9 ⟨a9, ha9, h9, rfl, rfl⟩
  cases h9
  refine az_aload_n C 4 dX2_send_67 rfl ?_
  refine az_iload C 2 dX2_send_68 rfl ?_
  refine az_callV C Y_X2_excess cX2 0 1 [.int (nI k)] [] wm_X2_52 wi_X2_excess wse_X2_excess dX2_send_70 rfl rfl rfl (Xexc_r_9 (ρ := (gR ρ a9 (capT ρ.2.2.2.1 (n + 1)))) (x := (sdX x n u a (nI k) (k + 3) w)) hG nr k hr hn6 (by omega)) rfl (Nat.le_of_ble_eq_true rfl) (Nat.le_of_ble_eq_true rfl) (Nat.le_of_ble_eq_true rfl) (Nat.le_trans (Nat.le_of_eq (Nat.add_zero _)) hcl) (Nat.le_trans (Nat.le_of_eq (Nat.add_zero _)) hsl) (az_k1 rfl rfl ?_) (az_k0 rfl)
  refine az_istore C (lv' := [(6, .int ((sdX x n u a (nI k) (k + 3) w).1 4 (k + 3) - 60 * (sdX x n u a (nI k) (k + 3) w).1 2 k)), (7, .int (nI s9)), (5, .int (nI k)), (4, .int u), (0, .ref (ρ.1 1))]) dX2_send_73 (by decide) rfl ?_
  refine az_iload C 2 dX2_send_75 rfl ?_
  refine az_istore C (lv' := [(4, .int (nI k)), (6, .int ((sdX x n u a (nI k) (k + 3) w).1 4 (k + 3) - 60 * (sdX x n u a (nI k) (k + 3) w).1 2 k)), (7, .int (nI s9)), (5, .int (nI k)), (0, .ref (ρ.1 1))]) dX2_send_77 (by decide) rfl ?_
  refine az_iload C 3 dX2_send_79 rfl ?_
  refine az_iconst C (v := 1) dX2_send_81 (by decide) ?_
  refine az_iadd C dX2_send_82 ?_
  refine az_top (nI (k + 1)) (nI_1 k) ?_
  refine az_aload_n C 4 dX2_send_83 rfl ?_
  refine az_get C cX2 0 1 8 (v := .int ((sdX x n u a (nI k) (k + 3) w).1 1 8)) wl_X2_37 dX2_send_84 rfl rfl rfl (by decide) ?_
  refine az_top (nI nr) hr ?_
  refine az_icmp_ge C 97 dX2_send_87 (by decide) (fun _ => ?_) (fun q => absurd (nI_leT (show nr ≤ k + 1 by omega) (by omega)) q)
  refine az_bipush C (v := (-2)) dX2_send_97 (by decide) ?_
  refine az_istore C (lv' := [(5, .int ((-2))), (4, .int (nI k)), (6, .int ((sdX x n u a (nI k) (k + 3) w).1 4 (k + 3) - 60 * (sdX x n u a (nI k) (k + 3) w).1 2 k)), (7, .int (nI s9)), (0, .ref (ρ.1 1))]) dX2_send_99 (by decide) rfl ?_
  refine az_iinc C 3 (v := nI (s9 + 1)) (lv' := [(7, .int (nI (s9 + 1))), (5, .int ((-2))), (4, .int (nI k)), (6, .int ((sdX x n u a (nI k) (k + 3) w).1 4 (k + 3) - 60 * (sdX x n u a (nI k) (k + 3) w).1 2 k)), (0, .ref (ρ.1 1))]) dX2_send_101 rfl (nI_1 s9) (by decide) rfl ?_
  refine az_goto C 12 dX2_send_104 (by decide) ?_
  exact az_lv [0, 3, 1, 2, 4] rfl (hx a9 ha9)

set_option maxHeartbeats 4000000 in
set_option maxRecDepth 100000 in
theorem Xst_s_9 (hG : az_okS l G) {p : Program} {e : Env} {s : State} {mm : MethodId} {args : Array Value} {below : List Frame} {meth : Method} {c : Code} (C : az_C l G p s mm args meth c cX2_send yX2_send.cls 8 (Option.none : Option FieldType) []) {Qx : State → Prop} {k9 n9 mc ms : Nat} (s9 : Nat) (hs : s9 ≤ 6) (n : Nat) (hm : x.1 8 3 = nI n) (hn : n < 65536) (hc : n ≤ ρ.2.2.2.1) (h256 : 256 ≤ ρ.2.2.2.1) (hc2 : ρ.2.2.2.1 < 2 ^ 20) (hz : RowZ ρ x) (u : Int32) (a : Nat) (hu : u - (-3) = nI a) (ha : a < 18) (nr : Nat) (hr : x.1 1 8 = nI nr) (hn6 : nr ≤ 6)  (w : Int32) (hw : 0 < w) (hcl : k9 + ((capT ρ.2.2.2.1 (n + 1)) - ρ.2.2.2.1) ≤ mc) (hsl : n9 + 6 * ((capT ρ.2.2.2.1 (n + 1)) - ρ.2.2.2.1) ≤ ms) (hx : ∀ a9 : Nat → Nat, a9 23 = ρ.2.1 23 → az_W l G 8 Qx p e (az_rm 4 mc ms) s mm args below meth c (AD (gR ρ a9 (capT ρ.2.2.2.1 (n + 1)))) (KK_9 G (gR ρ a9 (capT ρ.2.2.2.1 (n + 1))) (sdX x n u a ((-2)) 1 w) m ou) (k9 + ((capT ρ.2.2.2.1 (n + 1)) - ρ.2.2.2.1)) (n9 + 6 * ((capT ρ.2.2.2.1 (n + 1)) - ρ.2.2.2.1)) 12 [(7, .int (nI (s9 + 1))), (6, .int 0), (5, .int ((-1))), (4, .int ((-2))), (0, .ref (ρ.1 1))] []) : az_W l G 8 Qx p e (az_rm 4 mc ms) s mm args below meth c (AD ρ) (KK_9 G ρ x m ou) k9 n9 12 [(7, .int (nI s9)), (6, .int w), (5, .int ((-2))), (4, .int u), (0, .ref (ρ.1 1))] [] := by
  refine az_iload C 0 dX2_send_12 rfl ?_
  refine az_bipush C (v := 6) dX2_send_14 (by decide) ?_
  refine az_icmp_gt C 107 dX2_send_16 (by decide) (fun q => absurd q (Int32.not_lt.mpr (show nI s9 ≤ 6 from nI_leT hs (by decide)))) (fun _ => ?_)
  refine az_iload C 1 dX2_send_19 rfl ?_
  refine az_if_le C 107 dX2_send_21 (by decide) (fun q => absurd q (Int32.not_le.mpr hw)) (fun _ => ?_)
  refine az_aload_n C 4 dX2_send_24 rfl ?_
  refine az_get C cX2 0 1 2 (v := .ref (ρ.1 4)) wl_X2_18 dX2_send_25 rfl rfl rfl (by decide) ?_
  refine az_iload C 3 dX2_send_28 rfl ?_
  refine az_bipush C (v := (-3)) dX2_send_30 (by decide) ?_
  refine az_isub C dX2_send_32 ?_
  refine az_top (nI a) hu ?_
  refine az_dup2 C dX2_send_33 rfl rfl ?_
  refine az_ialdN C 0 4 a (v := x.1 4 a) dX2_send_34 rfl rfl ha (by decide) rfl ?_
  refine az_iload C 1 dX2_send_35 rfl ?_
  refine az_isub C dX2_send_37 ?_
  refine az_iastN C 0 4 a dX2_send_38 rfl rfl ha (by decide) (az_to rfl (K' := (KK_9 G ρ (xI x 4 a ((x.1 4 a - w))) m ou)) (KK_X_9 rfl) ?_)
  refine az_aload_n C 4 dX2_send_39 rfl ?_
  refine az_get C cX2 0 1 2 (v := .ref (ρ.1 4)) wl_X2_18 dX2_send_40 rfl rfl rfl (by decide) ?_
  refine az_iload C 2 dX2_send_43 rfl ?_
  refine az_bipush C (v := (-3)) dX2_send_45 (by decide) ?_
  refine az_isub C dX2_send_47 ?_
  refine az_top (nI 1) (by decide) ?_
  refine az_dup2 C dX2_send_48 rfl rfl ?_
  refine az_ialdN C 0 4 1 (v := ((xI x 4 a ((x.1 4 a - w)))).1 4 1) dX2_send_49 rfl rfl (by decide) (by decide) rfl ?_
  refine az_iload C 1 dX2_send_50 rfl ?_
  refine az_iadd C dX2_send_52 ?_
  refine az_iastN C 0 4 1 dX2_send_53 rfl rfl (by decide) (by decide) (az_to rfl (K' := (KK_9 G ρ (xI (xI x 4 a ((x.1 4 a - w))) 4 1 ((((xI x 4 a ((x.1 4 a - w)))).1 4 1 + w))) m ou)) (KK_X_9 rfl) ?_)
  refine az_aload_n C 4 dX2_send_54 rfl ?_
  refine az_get C cX2 0 1 6 (v := .ref (ρ.1 8)) wl_X2_33 dX2_send_55 rfl rfl rfl (by decide) ?_
  refine az_iload C 3 dX2_send_58 rfl ?_
  refine az_iload C 2 dX2_send_60 rfl ?_
  refine az_iload C 1 dX2_send_62 rfl ?_
  refine az_callV C Y_X1_add cX1 0 8 [.int u, .int ((-2)), .int w] [] wm_X2_49 wi_X1_add wse_X1_add dX2_send_64 rfl rfl rfl (Xadd_9 (x := (xI (xI x 4 a ((x.1 4 a - w))) 4 1 ((((xI x 4 a ((x.1 4 a - w)))).1 4 1 + w)))) hG n hm hn hc h256 hc2 (RowZ_w hz (fun _ => rfl) (fun _ => rfl) (fun _ => rfl)) u ((-2)) w) rfl (Nat.le_of_ble_eq_true rfl) (Nat.le_of_ble_eq_true rfl) (Nat.le_of_ble_eq_true rfl) hcl hsl ?_ (by rintro E ad9 K9 ⟨q9, -, h9, -⟩; cases h9)
  rintro v9 ad9 K9 ⟨a9, ha9, h9, rfl, rfl⟩
  cases h9
  refine az_aload_n C 4 dX2_send_67 rfl ?_
  refine az_iload C 2 dX2_send_68 rfl ?_
  refine az_callV C Y_X2_excess cX2 0 1 [.int ((-2))] [] wm_X2_52 wi_X2_excess wse_X2_excess dX2_send_70 rfl rfl rfl (Xexc_n_9 (ρ := (gR ρ a9 (capT ρ.2.2.2.1 (n + 1)))) (x := (sdX x n u a ((-2)) 1 w)) hG (-2) (by decide)) rfl (Nat.le_of_ble_eq_true rfl) (Nat.le_of_ble_eq_true rfl) (Nat.le_of_ble_eq_true rfl) (Nat.le_trans (Nat.le_of_eq (Nat.add_zero _)) hcl) (Nat.le_trans (Nat.le_of_eq (Nat.add_zero _)) hsl) (az_k1 rfl rfl ?_) (az_k0 rfl)
  refine az_istore C (lv' := [(6, .int 0), (7, .int (nI s9)), (5, .int ((-2))), (4, .int u), (0, .ref (ρ.1 1))]) dX2_send_73 (by decide) rfl ?_
  refine az_iload C 2 dX2_send_75 rfl ?_
  refine az_istore C (lv' := [(4, .int ((-2))), (6, .int 0), (7, .int (nI s9)), (5, .int ((-2))), (0, .ref (ρ.1 1))]) dX2_send_77 (by decide) rfl ?_
  refine az_iload C 3 dX2_send_79 rfl ?_
  refine az_iconst C (v := 1) dX2_send_81 (by decide) ?_
  refine az_iadd C dX2_send_82 ?_
  refine az_top ((-1)) (by decide) ?_
  refine az_aload_n C 4 dX2_send_83 rfl ?_
  refine az_get C cX2 0 1 8 (v := .int ((sdX x n u a ((-2)) 1 w).1 1 8)) wl_X2_37 dX2_send_84 rfl rfl rfl (by decide) ?_
  refine az_top (nI nr) hr ?_
  refine az_icmp_ge C 97 dX2_send_87 (by decide) (fun q => absurd q (fun z => absurd z (Int32.not_le.mpr (Int32.lt_of_lt_of_le (by decide) (nI_pos' (show nr < 2 ^ 31 by omega)))))) (fun _ => ?_)
  refine az_iload C 3 dX2_send_90 rfl ?_
  refine az_iconst C (v := 1) dX2_send_92 (by decide) ?_
  refine az_iadd C dX2_send_93 ?_
  refine az_top ((-1)) (by decide) ?_
  refine az_goto C 99 dX2_send_94 (by decide) ?_
  refine az_istore C (lv' := [(5, .int ((-1))), (4, .int ((-2))), (6, .int 0), (7, .int (nI s9)), (0, .ref (ρ.1 1))]) dX2_send_99 (by decide) rfl ?_
  refine az_iinc C 3 (v := nI (s9 + 1)) (lv' := [(7, .int (nI (s9 + 1))), (5, .int ((-1))), (4, .int ((-2))), (6, .int 0), (0, .ref (ρ.1 1))]) dX2_send_101 rfl (nI_1 s9) (by decide) rfl ?_
  refine az_goto C 12 dX2_send_104 (by decide) ?_
  exact az_lv [0, 3, 1, 2, 4] rfl (hx a9 ha9)

set_option maxRecDepth 100000 in
theorem Xsend_e_9 (hG : az_okS l G) {p : Program} {e : Env} {s : State} {mm : MethodId} {args : Array Value} {below : List Frame} {meth : Method} {c : Code} (C : az_C l G p s mm args meth c cX2_send yX2_send.cls 8 (Option.none : Option FieldType) []) {post : az_O → az_A → az_K → Prop} {k9 n9 mc ms : Nat} (s9 : Nat) (w v u : Int32) (hw : w ≤ 0) (hk9 : k9 ≤ mc) (hn9 : n9 ≤ ms) (hp : post (.inl none) (AD ρ) (KK_9 G ρ x m ou)) : az_W l G 8 (az_Q G post below args s mc ms) p e (az_rm 4 mc ms) s mm args below meth c (AD ρ) (KK_9 G ρ x m ou) k9 n9 12 [(7, .int (nI s9)), (6, .int w), (5, .int v), (4, .int u), (0, .ref (ρ.1 1))] [] := by
  refine az_iload C 0 dX2_send_12 rfl ?_
  refine az_bipush C (v := 6) dX2_send_14 (by decide) ?_
  refine az_icmp_gt C 107 dX2_send_16 (by decide) (fun c1 => ?_) (fun c1 => ?_)
  · exact az_vret C rfl dX2_send_107 hk9 hn9 hp
  · refine az_iload C 1 dX2_send_19 rfl ?_
    refine az_if_le C 107 dX2_send_21 (by decide) (fun _ => ?_) (fun q => absurd hw q)
    exact az_vret C rfl dX2_send_107 hk9 hn9 hp

theorem az_gg_9 {v : Option Value} {a9 : Nat → Nat} {C C' : Nat} (h : a9 23 = ρ.2.1 23) : az_g_9 G v (gR ρ a9 C') C x m ou = az_g_9 G v ρ C x m ou := by
  funext o ad' K'
  unfold az_g_9
  show (∃ a : Nat → Nat, a 23 = a9 23 ∧ _) = _
  rw [h]

set_option maxHeartbeats 2000000 in
theorem Xsend_l_9 (hG : az_okS l G) {p : Program} {e : Env} {s : State} {mm : MethodId} {args : Array Value} {below : List Frame} {meth : Method} {c : Code} (C : az_C l G p s mm args meth c cX2_send yX2_send.cls 8 (Option.none : Option FieldType) []) {mc ms : Nat} (nr : Nat) (hn6 : nr ≤ 6) : ∀ (f : Nat) {ρ : Rp} {x : Xs} (k9 n9 s9 n : Nat) (u : Int32) (a k : Nat) (w : Int32) (hf : k + f = nr) (hf1 : 1 ≤ f) (hs : s9 + f ≤ 6) (hm : x.1 8 3 = nI n) (hn : n + f + 1 < 65536) (hc : n ≤ ρ.2.2.2.1) (hcc : n + f + 1 ≤ 2 * ρ.2.2.2.1) (hc2 : capT ρ.2.2.2.1 (sendR nr f x n u a k w).2 < 2 ^ 20) (h256 : 256 ≤ ρ.2.2.2.1) (hz : RowZ ρ x) (hu : u - (-3) = nI a) (ha : a < 18) (hr : x.1 1 8 = nI nr) (hcl : k9 + (capT ρ.2.2.2.1 (sendR nr f x n u a k w).2 - ρ.2.2.2.1) ≤ mc) (hsl : n9 + 6 * (capT ρ.2.2.2.1 (sendR nr f x n u a k w).2 - ρ.2.2.2.1) ≤ ms), az_W l G 8 (az_Q G (az_g_9 G none ρ (capT ρ.2.2.2.1 (sendR nr f x n u a k w).2) (sendR nr f x n u a k w).1 m ou) below args s mc ms) p e (az_rm 4 mc ms) s mm args below meth c (AD ρ) (KK_9 G ρ x m ou) k9 n9 12 [(7, .int (nI s9)), (6, .int w), (5, .int (nI k)), (4, .int u), (0, .ref (ρ.1 1))] [] := by
  intro f
  induction f with
  | zero => intro ρ x k9 n9 s9 n u a k w hf hf1; exact absurd hf1 (by decide)
  | succ f ih =>
    intro ρ x k9 n9 s9 n u a k w hf hf1 hs hm hn hc hcc hc2 h256 hz hu ha hr hcl hsl
    by_cases hw : w ≤ 0
    · have hE : sendR nr (f + 1) x n u a k w = (x, n) := by rw [sendR, if_pos hw]
      rw [hE] at hcl hsl hc2 ⊢
      refine Xsend_e_9 hG C s9 w (nI k) u hw (by omega) (by omega) ⟨ρ.2.1, rfl, rfl, ?_, ?_⟩ <;> rw [capT_self hc]
    · have hw2 : 0 < w := Int32.not_le.mp hw
      have hC1 : capT ρ.2.2.2.1 (n + 1) ≤ capT ρ.2.2.2.1 (sendR nr (f + 1) x n u a k w).2 ∨ True := Or.inr trivial
      by_cases hk : k + 1 < nr
      · have hE : sendR nr (f + 1) x n u a k w = sendR nr f (sdX x n u a (nI k) (k + 3) w) (n + 1) (nI k) (k + 3) (k + 1) ((sdX x n u a (nI k) (k + 3) w).1 4 (k + 3) - 60 * (sdX x n u a (nI k) (k + 3) w).1 2 k) := by rw [sendR, if_neg hw, if_pos hk]
        rw [hE] at hcl hsl hc2 ⊢
        have hge := sendR_ge (nr := nr) f (sdX x n u a (nI k) (k + 3) w) (n + 1) (nI k) (k + 3) (k + 1) ((sdX x n u a (nI k) (k + 3) w).1 4 (k + 3) - 60 * (sdX x n u a (nI k) (k + 3) w).1 2 k)
        have hle := sendR_le (nr := nr) f (sdX x n u a (nI k) (k + 3) w) (n + 1) (nI k) (k + 3) (k + 1) ((sdX x n u a (nI k) (k + 3) w).1 4 (k + 3) - 60 * (sdX x n u a (nI k) (k + 3) w).1 2 k)
        have h1 := capT_le (c := ρ.2.2.2.1) hge
        have h2 : ρ.2.2.2.1 ≤ capT ρ.2.2.2.1 (n + 1) := capT_ge
        have h3 := capT_c (c := ρ.2.2.2.1) hge (by omega)
        refine Xst_r1_9 hG C s9 (by omega) n hm (by omega) hc h256 (by omega) hz u a hu ha nr hr hn6 k hk w hw2 (by omega) (by omega) (fun a9 ha9 => ?_)
        rw [← az_gg_9 (ρ := ρ) (a9 := a9) (C' := capT ρ.2.2.2.1 (n + 1)) ha9, ← h3]
        refine ih (ρ := gR ρ a9 (capT ρ.2.2.2.1 (n + 1))) _ _ (s9 + 1) (n + 1) (nI k) (k + 3) (k + 1) _ (by omega) (by omega) (by omega) rfl (by omega) (capT_n (by omega)) (by show n + 1 + f + 1 ≤ 2 * capT ρ.2.2.2.1 (n + 1); omega) (by show capT (capT ρ.2.2.2.1 (n + 1)) _ < _; rw [h3]; exact hc2) (by show 256 ≤ capT ρ.2.2.2.1 (n + 1); omega) (RowZ_sd hz hc (by omega)) (nI_m3 k) (by omega) hr ?_ ?_
        · show _ + (capT (capT ρ.2.2.2.1 (n + 1)) _ - capT ρ.2.2.2.1 (n + 1)) ≤ mc
          rw [h3]; exact kcap h2 h1 hcl
        · show _ + 6 * (capT (capT ρ.2.2.2.1 (n + 1)) _ - capT ρ.2.2.2.1 (n + 1)) ≤ ms
          rw [h3]; exact ncap h2 h1 hsl
      · have hk2 : k + 1 = nr := by omega
        by_cases hw3 : ((sdX x n u a (nI k) (k + 3) w).1 4 (k + 3) - 60 * (sdX x n u a (nI k) (k + 3) w).1 2 k) ≤ 0
        · have hE : sendR nr (f + 1) x n u a k w = ((sdX x n u a (nI k) (k + 3) w), n + 1) := by rw [sendR, if_neg hw, if_neg hk, if_pos hw3]
          rw [hE] at hcl hsl hc2 ⊢
          have h2 : ρ.2.2.2.1 ≤ capT ρ.2.2.2.1 (n + 1) := capT_ge
          have hc3 : capT ρ.2.2.2.1 (n + 1) < 2 ^ 20 := hc2
          refine Xst_r2_9 hG C s9 (by omega) n hm (by omega) hc h256 (by omega) hz u a hu ha nr hr hn6 k hk2 w hw2 hcl hsl (fun a9 ha9 => ?_)
          exact Xsend_e_9 hG C (s9 + 1) _ _ (nI k) hw3 hcl hsl ⟨a9, ha9, rfl, rfl, rfl⟩
        · have hE : sendR nr (f + 1) x n u a k w = ((sdX (sdX x n u a (nI k) (k + 3) w) (n + 1) (nI k) (k + 3) (-2) 1 ((sdX x n u a (nI k) (k + 3) w).1 4 (k + 3) - 60 * (sdX x n u a (nI k) (k + 3) w).1 2 k)), n + 2) := by rw [sendR, if_neg hw, if_neg hk, if_neg hw3]
          rw [hE] at hcl hsl hc2 ⊢
          have h1 : capT ρ.2.2.2.1 (n + 1) ≤ capT ρ.2.2.2.1 (n + 2) := capT_le (by omega)
          have h2 : ρ.2.2.2.1 ≤ capT ρ.2.2.2.1 (n + 1) := capT_ge
          have h3 : capT (capT ρ.2.2.2.1 (n + 1)) (n + 2) = capT ρ.2.2.2.1 (n + 2) := capT_c (by omega) (by omega)
          have hc3 : capT ρ.2.2.2.1 (n + 2) < 2 ^ 20 := hc2
          have hcl' : k9 + (capT ρ.2.2.2.1 (n + 2) - ρ.2.2.2.1) ≤ mc := hcl
          have hsl' : n9 + 6 * (capT ρ.2.2.2.1 (n + 2) - ρ.2.2.2.1) ≤ ms := hsl
          refine Xst_r2_9 hG C s9 (by omega) n hm (by omega) hc h256 (by omega) hz u a hu ha nr hr hn6 k hk2 w hw2 (by omega) (by omega) (fun a9 ha9 => ?_)
          have h4 : capT (capT ρ.2.2.2.1 (n + 1)) (n + 1 + 1) = capT ρ.2.2.2.1 (n + 2) := h3
          refine Xst_s_9 (ρ := gR ρ a9 (capT ρ.2.2.2.1 (n + 1))) hG C (s9 + 1) (by omega) (n + 1) rfl (by omega) (capT_n (by omega)) (by show 256 ≤ capT ρ.2.2.2.1 (n + 1); omega) (by show capT ρ.2.2.2.1 (n + 1) < 2 ^ 20; omega) (RowZ_sd hz hc (by omega)) (nI k) (k + 3) (nI_m3 k) (by omega) nr hr hn6 _ (Int32.not_le.mp hw3) (by show _ + (capT (capT ρ.2.2.2.1 (n + 1)) (n + 1 + 1) - capT ρ.2.2.2.1 (n + 1)) ≤ mc; rw [h4]; exact kcap h2 h1 hcl') (by show _ + 6 * (capT (capT ρ.2.2.2.1 (n + 1)) (n + 1 + 1) - capT ρ.2.2.2.1 (n + 1)) ≤ ms; rw [h4]; exact ncap h2 h1 hsl') (fun a8 ha8 => ?_)
          show az_W l G 8 _ p e _ s mm args below meth c (AD (gR ρ a8 (capT (capT ρ.2.2.2.1 (n + 1)) (n + 1 + 1)))) (KK_9 G (gR ρ a8 (capT (capT ρ.2.2.2.1 (n + 1)) (n + 1 + 1))) _ m ou) (_ + (capT (capT ρ.2.2.2.1 (n + 1)) (n + 1 + 1) - capT ρ.2.2.2.1 (n + 1))) (_ + 6 * (capT (capT ρ.2.2.2.1 (n + 1)) (n + 1 + 1) - capT ρ.2.2.2.1 (n + 1))) _ _ _
          rw [h4]
          exact Xsend_e_9 hG C (s9 + 1 + 1) 0 (-1) (-2) (Int32.le_refl _) (kcap h2 h1 hcl') (ncap h2 h1 hsl') ⟨a8, ha8.trans ha9, rfl, rfl, rfl⟩

set_option maxHeartbeats 4000000 in
set_option maxRecDepth 100000 in
theorem Xsend_r_9 (hG : az_okS l G) (nr k : Nat) (hn6 : nr ≤ 6) (hk : k < nr) (hr : x.1 1 8 = nI nr) (n : Nat) (hv : MvX ρ x n (nr + 1)) (u : Int32) (a : Nat) (hu : u - (-3) = nI a) (ha : a < 18) (w : Int32) : az_M l G yX2_send (az_ws yX2_send cX2_send 8 (Option.none : Option FieldType)) 4 [.ref (ρ.1 1), .int u, .int (nI k), .int w] (AD ρ) (KK_9 G ρ x m ou) (capT ρ.2.2.2.1 (sendR nr (nr - k) x n u a k w).2 - ρ.2.2.2.1) (6 * (capT ρ.2.2.2.1 (sendR nr (nr - k) x n u a k w).2 - ρ.2.2.2.1)) (az_g_9 G none ρ (capT ρ.2.2.2.1 (sendR nr (nr - k) x n u a k w).2) (sendR nr (nr - k) x n u a k w).1 m ou) := by
  refine az_start hG.1 (by decide +kernel) (Nat.le_of_ble_eq_true rfl) ?_
  intro p e s mm args below meth c C hnm
  show az_W l G 8 _ p e _ s mm args below meth c _ _ 0 0 0 [(0, .ref (ρ.1 1)), (1, .int u), (2, .int (nI k)), (3, .int w)] []
  refine az_iload_n C 1 dX2_send_0 rfl ?_
  refine az_istore C (lv' := [(4, .int u), (0, .ref (ρ.1 1)), (1, .int u), (2, .int (nI k)), (3, .int w)]) dX2_send_1 (by decide) rfl ?_
  refine az_iload_n C 3 dX2_send_3 rfl ?_
  refine az_istore C (lv' := [(5, .int (nI k)), (4, .int u), (0, .ref (ρ.1 1)), (1, .int u), (2, .int (nI k)), (3, .int w)]) dX2_send_4 (by decide) rfl ?_
  refine az_iload_n C 5 dX2_send_6 rfl ?_
  refine az_istore C (lv' := [(6, .int w), (5, .int (nI k)), (4, .int u), (0, .ref (ρ.1 1)), (1, .int u), (2, .int (nI k)), (3, .int w)]) dX2_send_7 (by decide) rfl ?_
  refine az_iconst C (v := 0) dX2_send_9 (by decide) ?_
  refine az_istore C (lv' := [(7, .int 0), (6, .int w), (5, .int (nI k)), (4, .int u), (0, .ref (ρ.1 1)), (1, .int u), (2, .int (nI k)), (3, .int w)]) dX2_send_10 (by decide) rfl ?_
  exact az_lv [0, 1, 2, 3, 4] rfl (Xsend_l_9 hG C nr hn6 (nr - k) 0 0 0 n u a k w (by omega) (by omega) (by omega) hv.1 (by have := hv.2.1; omega) hv.2.2.1 (by have := hv.2.2.2.1; omega) (capT_20 hv.2.2.2.2.2.1) hv.2.2.2.2.1 hv.2.2.2.2.2.2 hu ha hr (Nat.le_of_eq (Nat.zero_add _)) (Nat.le_of_eq (Nat.zero_add _)))

set_option maxHeartbeats 4000000 in
set_option maxRecDepth 100000 in
theorem Xopen_9 (hG : az_okS l G) (nr : Nat) (hr : x.1 1 8 = nI nr) (hn : nr < 6) (a1 a2 : Int32) (n : Nat) (hv : MvX ρ x n (nr + 2)) : az_M l G yX3_openReach (az_ws yX3_openReach cX3_openReach 4 (Option.some FieldType.int)) 5 [.ref (ρ.1 0), .int a1, .int a2] (AD ρ) (KK_9 G ρ x m ou) (capT ρ.2.2.2.1 (openX x n nr a1 a2).2 - ρ.2.2.2.1) (6 * (capT ρ.2.2.2.1 (openX x n nr a1 a2).2 - ρ.2.2.2.1)) (az_g_9 G (some (.int (nI nr))) ρ (capT ρ.2.2.2.1 (openX x n nr a1 a2).2) (openX x n nr a1 a2).1 m ou) := by
  refine az_start hG.1 (by decide +kernel) (Nat.le_of_ble_eq_true rfl) ?_
  intro p e s mm args below meth c C hnm
  show az_W l G 4 _ p e _ s mm args below meth c _ _ 0 0 0 [(0, .ref (ρ.1 0)), (1, .int a1), (2, .int a2)] []
  refine az_aload_n C 0 dX3_openReach_0 rfl ?_
  refine az_get C cX3 0 0 0 (v := .ref (ρ.1 1)) wl_X3_12 dX3_openReach_1 rfl rfl rfl (by decide) ?_
  refine az_iload_n C 1 dX3_openReach_4 rfl ?_
  refine az_callV C Y_X2_addBed cX2 0 1 [.int a1] [] wm_X3_345 wi_X2_addBed wse_X2_addBed dX3_openReach_5 rfl rfl rfl (XaddBed_9 hG nr hr hn a1) rfl (Nat.le_of_ble_eq_true rfl) (Nat.le_of_ble_eq_true rfl) (Nat.le_of_ble_eq_true rfl) (Nat.zero_le _) (Nat.zero_le _) (az_k1 rfl rfl ?_) (az_k0 rfl)
  refine az_istore_n C (lv' := [(3, .int (nI nr)), (0, .ref (ρ.1 0)), (1, .int a1), (2, .int a2)]) (j := 3) rfl dX3_openReach_8 (by decide) rfl ?_
  refine az_aload_n C 1 dX3_openReach_9 rfl ?_
  refine az_get C cX3 0 0 0 (v := .ref (ρ.1 1)) wl_X3_12 dX3_openReach_10 rfl rfl rfl (by decide) ?_
  refine az_iconst C (v := (-1)) dX3_openReach_13 (by decide) ?_
  refine az_iload_n C 0 dX3_openReach_14 rfl ?_
  refine az_iload_n C 2 dX3_openReach_15 rfl ?_
  refine az_iload_n C 3 dX3_openReach_16 rfl ?_
  refine az_imul C dX3_openReach_17 ?_
  refine az_callV C Y_X2_send cX2 0 1 [.int ((-1)), .int (nI nr), .int ((a1 * a2))] [] wm_X3_127 wi_X2_send wse_X2_send dX3_openReach_18 rfl rfl rfl (Xsend_r_9 (x := (bedX x nr a1)) hG (nr + 1) nr (by omega) (by omega) rfl n hv (-1) 2 (by decide) (by decide) (a1 * a2)) rfl (Nat.le_of_ble_eq_true rfl) (Nat.le_of_ble_eq_true rfl) (Nat.le_of_ble_eq_true rfl) (Nat.le_of_eq (Nat.zero_add _)) (Nat.le_of_eq (Nat.zero_add _)) ?_ (by rintro E ad9 K9 ⟨q9, -, h9, -⟩; cases h9)
  rintro v9 ad9 K9 ⟨a9, ha9, h9, rfl, rfl⟩
  cases h9
  refine az_aload_n C 1 dX3_openReach_21 rfl ?_
  refine az_get C cX3 0 0 3 (v := .ref ((gR ρ a9 (capT ρ.2.2.2.1 (sendR (nr + 1) (nr + 1 - nr) (bedX x nr a1) n (-1) 2 nr (a1 * a2)).2)).1 11)) wl_X3_23 dX3_openReach_22 rfl rfl rfl (by decide) ?_
  refine az_iload_n C 0 dX3_openReach_25 rfl ?_
  refine az_bipush C (v := 100) dX3_openReach_26 (by decide) ?_
  refine az_iastN C 0 11 nr dX3_openReach_28 rfl rfl (by omega) (by decide) (az_to rfl (K' := (KK_9 G (gR ρ a9 (capT ρ.2.2.2.1 (sendR (nr + 1) (nr + 1 - nr) (bedX x nr a1) n (-1) 2 nr (a1 * a2)).2)) (xI (sendR (nr + 1) (nr + 1 - nr) (bedX x nr a1) n (-1) 2 nr (a1 * a2)).1 11 nr 100) m ou)) (KK_X_9 rfl) ?_)
  refine az_aload_n C 1 dX3_openReach_29 rfl ?_
  refine az_get C cX3 0 0 4 (v := .ref ((gR ρ a9 (capT ρ.2.2.2.1 (sendR (nr + 1) (nr + 1 - nr) (bedX x nr a1) n (-1) 2 nr (a1 * a2)).2)).1 12)) wl_X3_26 dX3_openReach_30 rfl rfl rfl (by decide) ?_
  refine az_iload_n C 0 dX3_openReach_33 rfl ?_
  refine az_iload_n C 3 dX3_openReach_34 rfl ?_
  refine az_iastN C 0 12 nr dX3_openReach_35 rfl rfl (by omega) (by decide) (az_to rfl (K' := (KK_9 G (gR ρ a9 (capT ρ.2.2.2.1 (sendR (nr + 1) (nr + 1 - nr) (bedX x nr a1) n (-1) 2 nr (a1 * a2)).2)) (xI (xI (sendR (nr + 1) (nr + 1 - nr) (bedX x nr a1) n (-1) 2 nr (a1 * a2)).1 11 nr 100) 12 nr a2) m ou)) (KK_X_9 rfl) ?_)
  refine az_iload_n C 0 dX3_openReach_36 rfl ?_
  exact az_iret C rfl dX3_openReach_37 (Nat.le_of_eq (Nat.zero_add _)) (Nat.le_of_eq (Nat.zero_add _)) ⟨a9, ha9, rfl, rfl, rfl⟩

end
