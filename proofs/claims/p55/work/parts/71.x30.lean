section
variable {l : Launch} {G : az_G} {ρ : Rp} {x : Xs} {m : Mz} {ou : Nat → Int64}
theorem az_uu {K : az_K} {r i : Nat} {e e' : va_E} : az_u (az_u K r i e) r i e' = az_u K r i e' := by
  funext a b
  unfold az_u
  split <;> rfl
theorem df8 : ∀ j, j < 8 → defaultValue (tyX0 j) = vp_V [.int 0, .int 0, .int 0, .int 0, .int 0, .int 0, .null, .null] j := fun j hj => by
  rcases lt8 hj with h | h | h | h | h | h | h | h <;> subst h <;> rfl
set_option maxHeartbeats 4000000 in
set_option maxRecDepth 100000 in
theorem Xbinit (hG : az_okS l G) {ad : az_A} {K : az_K} {q : Nat} (ha : ad 9 0 = q) (hk : K 9 0 = some (.inr (1, [.int 0, .int 0, .int 0, .int 0, .int 0, .int 0, .null, .null]))) (v1 v2 v3 v4 v5 : Int32) : az_M l G yX0_init (az_ws yX0_init cX0_init 6 (Option.none : Option FieldType)) 1 [.ref q, .int v1, .int v2, .int v3, .int v4, .int v5] ad K 0 0 (az_r none ad (az_u K 9 0 (.inr (1, [.int v1, .int v3, .int v4, .int v5, .int v2, .int 0, .null, .null])))) := by
  refine az_start hG.1 (by decide +kernel) (Nat.le_of_ble_eq_true rfl) ?_
  intro p e s mm args below meth c C hnm
  show az_W l G 6 _ p e _ s mm args below meth c _ _ 0 0 0 [(0, .ref q), (1, .int v1), (2, .int v2), (3, .int v3), (4, .int v4), (5, .int v5)] []
  refine az_aload_n C 0 dX0_init_0 rfl ?_
  refine az_obj C wm_X0_1 wi_obj wc_obj dX0_init_1 (Nat.le_of_ble_eq_true rfl) (Nat.le_of_ble_eq_true rfl) ?_
  refine az_aload_n C 0 dX0_init_4 rfl ?_
  refine az_iload_n C 1 dX0_init_5 rfl ?_
  refine az_putF C cX0 9 0 0 hnm wl_X0_7 dX0_init_6 ha hk (by decide) (Nat.le_of_ble_eq_true rfl) rfl rfl rfl rfl (az_to rfl (K' := az_u K 9 0 (.inr (1, [.int v1, .int 0, .int 0, .int 0, .int 0, .int 0, .null, .null]))) rfl ?_)
  refine az_aload_n C 0 dX0_init_9 rfl ?_
  refine az_iload_n C 2 dX0_init_10 rfl ?_
  refine az_put C cX0 9 0 4 wl_X0_13 dX0_init_11 ha az_u_s (by decide) (Nat.le_of_ble_eq_true rfl) rfl rfl rfl (az_to rfl (K' := az_u K 9 0 (.inr (1, [.int v1, .int 0, .int 0, .int 0, .int v2, .int 0, .null, .null]))) az_uu ?_)
  refine az_aload_n C 0 dX0_init_14 rfl ?_
  refine az_iload_n C 3 dX0_init_15 rfl ?_
  refine az_putF C cX0 9 0 1 hnm wl_X0_16 dX0_init_16 ha az_u_s (by decide) (Nat.le_of_ble_eq_true rfl) rfl rfl rfl rfl (az_to rfl (K' := az_u K 9 0 (.inr (1, [.int v1, .int v3, .int 0, .int 0, .int v2, .int 0, .null, .null]))) az_uu ?_)
  refine az_aload_n C 0 dX0_init_19 rfl ?_
  refine az_iload C 4 dX0_init_20 rfl ?_
  refine az_putF C cX0 9 0 2 hnm wl_X0_19 dX0_init_22 ha az_u_s (by decide) (Nat.le_of_ble_eq_true rfl) rfl rfl rfl rfl (az_to rfl (K' := az_u K 9 0 (.inr (1, [.int v1, .int v3, .int v4, .int 0, .int v2, .int 0, .null, .null]))) az_uu ?_)
  refine az_aload_n C 0 dX0_init_25 rfl ?_
  refine az_iload C 5 dX0_init_26 rfl ?_
  refine az_putF C cX0 9 0 3 hnm wl_X0_22 dX0_init_28 ha az_u_s (by decide) (Nat.le_of_ble_eq_true rfl) rfl rfl rfl rfl (az_to rfl (K' := az_u K 9 0 (.inr (1, [.int v1, .int v3, .int v4, .int v5, .int v2, .int 0, .null, .null]))) az_uu ?_)
  exact az_vret C rfl dX0_init_31 (Nat.le_of_ble_eq_true rfl) (Nat.le_of_ble_eq_true rfl) ⟨rfl, rfl, rfl⟩
/-- one barge more -/
abbrev bR (ρ : Rp) (nb q : Nat) : Rp := (ρ.1, ρ.2.1, up1 ρ.2.2.1 nb q, ρ.2.2.2.1, ρ.2.2.2.2.1, nb + 1)
def nbF (L D T R : Int32) : Nat → Int32 := fun k => if k = 1 then L else if k = 2 then D else if k = 3 then T else if k = 4 then R else 0
def nbX (x : Xs) (nb : Nat) (L D T R : Int32) : Xs := (x.1, up1 x.2.1 nb (nbF L D T R), up2 (up2 x.2.2.1 0 nb none) 1 nb none, x.2.2.2)
def nbE (nb : Nat) (L D T R : Int32) : va_E := .inr (1, [.int (nI nb), .int L, .int D, .int T, .int R, .int 0, .null, .null])
def nbK (G : az_G) (ρ : Rp) (x : Xs) (m : Mz) (ou : Nat → Int64) (nb q : Nat) (L D T R : Int32) : az_K := az_u (az_u (KK G ρ x m ou) 9 0 (nbE nb L D T R)) 0 13 (.inl (G.2.2.1 5, 8, .inr (.inr (.inr (.inr (va_up (bgs ρ) (nI nb).toNatClampNeg (some q)))))))
def nbM (nb r i : Nat) : Nat × Nat := if r = 1 ∧ i = nb then (9, 0) else (r, i)
theorem nbM_inj {nb r i r' i' : Nat} (h9 : r ≠ 9) (h9' : r' ≠ 9) (h : nbM nb r i = nbM nb r' i') : r = r' ∧ i = i' := by
  unfold nbM at h
  split at h <;> split at h
  · rename_i a b; exact ⟨a.1.trans b.1.symm, a.2.trans b.2.symm⟩
  · exact absurd (congrArg Prod.fst h).symm h9'
  · exact absurd (congrArg Prod.fst h) h9
  · exact ⟨congrArg Prod.fst h, congrArg Prod.snd h⟩
theorem bgs_up {nb q : Nat} (hnb : nb = ρ.2.2.2.2.2) (h8 : nb < 8) : va_up (bgs ρ) (nI nb).toNatClampNeg (some q) = bgs (bR ρ nb q) := by
  funext j
  rw [nI_clamp (by omega)]
  show (if j = nb then some q else bgs ρ j) = (if j < nb + 1 then some (up1 ρ.2.2.1 nb q j) else none)
  by_cases hj : j = nb
  · rw [if_pos hj, if_pos (by omega), hj, up1_s]
  · rw [if_neg hj, up1_n hj]
    unfold bgs
    by_cases hl : j < nb
    · rw [if_pos (by omega), if_pos (by omega)]
    · rw [if_neg (by omega), if_neg (by omega)]
theorem map_up {f : Nat → Nat} {nb q : Nat} {o : Option Nat} (h : ∀ j, o = some j → j ≠ nb) : o.map (up1 f nb q) = o.map f := by
  cases o with
  | none => rfl
  | some j => show some (up1 f nb q j) = some (f j); rw [up1_n (h j rfl)]
theorem nb_1 {nb q : Nat} {L D T R : Int32} (hnb : nb = ρ.2.2.2.2.2) (h8 : nb < 8) (hlk : ∀ w i j : Nat, i < nb → x.2.2.1 w i = some j → j ≠ nb) : ∀ (r i : Nat) (e : va_E), KK G (bR ρ nb q) (nbX x nb L D T R) m ou r i = some e → nbK G ρ x m ou nb q L D T R (nbM nb r i).1 (nbM nb r i).2 = some e ∧ AD (bR ρ nb q) r i = az_ua (AD ρ) 9 0 q (nbM nb r i).1 (nbM nb r i).2 := by
  intro r i e h
  have other : ∀ {r i : Nat} {e : va_E}, ¬ (r = 1 ∧ i = nb) → ¬ (r = 0 ∧ i = 13) → r ≠ 9 → KK G (bR ρ nb q) (nbX x nb L D T R) m ou r i = some e → KK G ρ x m ou r i = KK G (bR ρ nb q) (nbX x nb L D T R) m ou r i → AD (bR ρ nb q) r i = AD ρ r i → nbK G ρ x m ou nb q L D T R (nbM nb r i).1 (nbM nb r i).2 = some e ∧ AD (bR ρ nb q) r i = az_ua (AD ρ) 9 0 q (nbM nb r i).1 (nbM nb r i).2 := by
    intro r i e h1 h2 h9 hk he ha
    have hm : nbM nb r i = (r, i) := if_neg h1
    rw [hm]
    refine ⟨?_, ?_⟩
    · show nbK G ρ x m ou nb q L D T R r i = some e
      unfold nbK
      rw [az_u_n h2, az_u_n (fun z => h9 z.1), he, hk]
    · show AD (bR ρ nb q) r i = az_ua (AD ρ) 9 0 q r i
      rw [ha]
      exact (if_neg (fun z => h9 z.1)).symm
  match r, i, h with
  | 0, 13, h =>
    refine ⟨Eq.trans ?_ h, rfl⟩
    show some (Sum.inl (G.2.2.1 5, 8, Sum.inr (Sum.inr (Sum.inr (Sum.inr (va_up (bgs ρ) (nI nb).toNatClampNeg (some q))))))) = _
    rw [bgs_up hnb h8]
    rfl
  | 0, 0, h => exact other (by omega) (by omega) (by decide) h rfl rfl
  | 0, 1, h => exact other (by omega) (by omega) (by decide) h rfl rfl
  | 0, 2, h => exact other (by omega) (by omega) (by decide) h rfl rfl
  | 0, 3, h => exact other (by omega) (by omega) (by decide) h rfl rfl
  | 0, 4, h => exact other (by omega) (by omega) (by decide) h rfl rfl
  | 0, 5, h => exact other (by omega) (by omega) (by decide) h rfl rfl
  | 0, 6, h => exact other (by omega) (by omega) (by decide) h rfl rfl
  | 0, 7, h => exact other (by omega) (by omega) (by decide) h rfl rfl
  | 0, 8, h => exact other (by omega) (by omega) (by decide) h rfl rfl
  | 0, 9, h => exact other (by omega) (by omega) (by decide) h rfl rfl
  | 0, 10, h => exact other (by omega) (by omega) (by decide) h rfl rfl
  | 0, 11, h => exact other (by omega) (by omega) (by decide) h rfl rfl
  | 0, 12, h => exact other (by omega) (by omega) (by decide) h rfl rfl
  | 0, 14, h => exact other (by omega) (by omega) (by decide) h rfl rfl
  | 0, 20, h => exact other (by omega) (by omega) (by decide) h rfl rfl
  | 0, 21, h => exact other (by omega) (by omega) (by decide) h rfl rfl
  | 0, 22, h => exact other (by omega) (by omega) (by decide) h rfl rfl
  | 0, 23, h => exact other (by omega) (by omega) (by decide) h rfl rfl
  | 0, 15, h => cases h
  | 0, 16, h => cases h
  | 0, 17, h => cases h
  | 0, 18, h => cases h
  | 0, 19, h => cases h
  | 0, n + 24, h => cases h
  | 1, i, h =>
    by_cases hi : i = nb
    · subst hi
      have hm : nbM i 1 i = (9, 0) := if_pos ⟨rfl, rfl⟩
      rw [hm]
      refine ⟨Eq.trans ?_ h, ?_⟩
      · show some (nbE i L D T R) = (if i < i + 1 then some (bc (bR ρ i q) i (up1 x.2.1 i (nbF L D T R) i) (up2 (up2 x.2.2.1 0 i none) 1 i none)) else none)
        rw [if_pos (Nat.lt_succ_self i), up1_s]
        unfold bc
        rw [up2_s, up2_p (by decide), up2_s]
        rfl
      · show up1 ρ.2.2.1 i q i = q
        exact up1_s
    · refine other (fun z => hi z.2) (by omega) (by decide) h ?_ (by show up1 ρ.2.2.1 nb q i = ρ.2.2.1 i; exact up1_n hi)
      show (if i < ρ.2.2.2.2.2 then some (bc ρ i (x.2.1 i) x.2.2.1) else none) = (if i < nb + 1 then some (bc (bR ρ nb q) i (up1 x.2.1 nb (nbF L D T R) i) (up2 (up2 x.2.2.1 0 nb none) 1 nb none)) else none)
      by_cases hl : i < nb
      · rw [if_pos (by omega), if_pos (by omega), up1_n hi]
        unfold bc
        have e0 : up2 (up2 x.2.2.1 0 nb none) 1 nb none 0 i = x.2.2.1 0 i := by rw [up2_p (by decide), up2_k hi]
        have e1 : up2 (up2 x.2.2.1 0 nb none) 1 nb none 1 i = x.2.2.1 1 i := by rw [up2_k hi, up2_p (by decide)]
        rw [e0, e1, map_up (fun j hj => hlk 0 i j hl hj), map_up (fun j hj => hlk 1 i j hl hj)]
      · rw [if_neg (by omega), if_neg (by omega)]
  | 2, i, h => exact other (by omega) (by omega) (by decide) h rfl rfl
  | 3, i, h => exact other (by omega) (by omega) (by decide) h rfl rfl
  | n + 4, i, h => cases h
theorem nb_2 {nb q : Nat} {L D T R : Int32} : ∀ (r i r' i' : Nat) (e e' : va_E), KK G (bR ρ nb q) (nbX x nb L D T R) m ou r i = some e → KK G (bR ρ nb q) (nbX x nb L D T R) m ou r' i' = some e' → nbM nb r i = nbM nb r' i' → r = r' ∧ i = i' := by
  intro r i r' i' e e' h h' hh
  refine nbM_inj (fun z => ?_) (fun z => ?_) hh
  · subst z; cases h
  · subst z; cases h'
set_option maxHeartbeats 4000000 in
set_option maxRecDepth 100000 in
theorem XaddBarge0 (hG : az_okS l G) (nr : Nat) (v b1 b2 b3 : Int32) (hr : x.1 1 8 = nI nr) (hn : nr ≤ 6) (hv : oo nr v) : az_M l G yX3_addBarge (az_ws yX3_addBarge cX3_addBarge 6 (Option.some FieldType.int)) 7 [.ref (ρ.1 0), .int v, .int b1, .int b2, .int b3] (AD ρ) (KK G ρ x m ou) 1 6 (az_x "java/lang/IndexOutOfBoundsException" (AD ρ) (KK G ρ x m ou)) := by
  refine az_start hG.1 (by decide +kernel) (Nat.le_of_ble_eq_true rfl) ?_
  intro p e s mm args below meth c C hnm
  show az_W l G 6 _ p e _ s mm args below meth c _ _ 0 0 0 [(0, .ref (ρ.1 0)), (1, .int v), (2, .int b1), (3, .int b2), (4, .int b3)] []
  refine az_aload_n C 0 dX3_addBarge_0 rfl ?_
  refine az_iload_n C 1 dX3_addBarge_1 rfl ?_
  refine az_callV C Y_X3_needReach cX3 0 0 [.int v] [] wm_X3_78 wi_X3_needReach wse_X3_needReach dX3_addBarge_2 rfl rfl rfl (XneedReach0 hG nr v hr hn hv) rfl (Nat.le_of_ble_eq_true rfl) (Nat.le_of_ble_eq_true rfl) (Nat.le_of_ble_eq_true rfl) (Nat.le_of_ble_eq_true rfl) (Nat.le_of_ble_eq_true rfl) (az_x0 rfl) (az_x1 rfl ?_)
  exact az_out C (fun _ h => by cases h) (Nat.le_of_ble_eq_true rfl) (Nat.le_of_ble_eq_true rfl) ⟨rfl, rfl, rfl⟩

set_option maxHeartbeats 4000000 in
set_option maxRecDepth 100000 in
theorem XaddBarge1_0 (hG : az_okS l G) (nr k : Nat) (hr : x.1 1 8 = nI nr) (hn : nr ≤ 6) (hk : k + 1 ≤ nr) (b1 b2 b3 : Int32) (h0 : inI b1 5 80 = 0) : az_M l G yX3_addBarge (az_ws yX3_addBarge cX3_addBarge 6 (Option.some FieldType.int)) 7 [.ref (ρ.1 0), .int (nI k), .int b1, .int b2, .int b3] (AD ρ) (KK G ρ x m ou) 1 6 (az_x "java/lang/IllegalArgumentException" (AD ρ) (KK G ρ x m ou)) := by
  refine az_start hG.1 (by decide +kernel) (Nat.le_of_ble_eq_true rfl) ?_
  intro p e s mm args below meth c C hnm
  show az_W l G 6 _ p e _ s mm args below meth c _ _ 0 0 0 [(0, .ref (ρ.1 0)), (1, .int (nI k)), (2, .int b1), (3, .int b2), (4, .int b3)] []
  refine az_aload_n C 0 dX3_addBarge_0 rfl ?_
  refine az_iload_n C 1 dX3_addBarge_1 rfl ?_
  refine az_callV C Y_X3_needReach cX3 0 0 [.int (nI k)] [] wm_X3_78 wi_X3_needReach wse_X3_needReach dX3_addBarge_2 rfl rfl rfl (XneedReach1 hG nr k hr hn hk) rfl (Nat.le_of_ble_eq_true rfl) (Nat.le_of_ble_eq_true rfl) (Nat.le_of_ble_eq_true rfl) (Nat.le_of_ble_eq_true rfl) (Nat.le_of_ble_eq_true rfl) (az_k1 rfl rfl ?_) (az_k0 rfl)
  refine az_iload_n C 2 dX3_addBarge_5 rfl ?_
  refine az_iconst C (v := 5) dX3_addBarge_6 (by decide) ?_
  refine az_bipush C (v := 80) dX3_addBarge_7 (by decide) ?_
  refine az_callS C Y_X3_isWithin [.int b1, .int 5, .int 80] [] wm_X3_56 wst_X3_isWithin dX3_addBarge_9 rfl (Xwithin hG (b1) (5) (80)) rfl (Nat.le_of_ble_eq_true rfl) (Nat.le_of_ble_eq_true rfl) (Nat.le_of_ble_eq_true rfl) (Nat.le_of_ble_eq_true rfl) (Nat.le_of_ble_eq_true rfl) (az_k1 rfl rfl ?_) (az_k0 rfl)
  refine az_if_eq C 36 dX3_addBarge_12 (by decide) (fun _ => ?_) (fun q => absurd h0 q)
  exact az_thrS_IAE C hG (List.mem_of_getElem? (i := 6) rfl) dX3_addBarge_36 dX3_addBarge_39 dX3_addBarge_40 dX3_addBarge_42 dX3_addBarge_45 (Nat.le_of_ble_eq_true rfl) (Nat.le_of_ble_eq_true rfl) (Nat.le_of_ble_eq_true rfl) (Nat.le_of_ble_eq_true rfl) (Nat.le_of_ble_eq_true rfl) (Nat.le_of_ble_eq_true rfl) ⟨rfl, rfl, rfl⟩

set_option maxHeartbeats 4000000 in
set_option maxRecDepth 100000 in
theorem XaddBarge1_1 (hG : az_okS l G) (nr k : Nat) (hr : x.1 1 8 = nI nr) (hn : nr ≤ 6) (hk : k + 1 ≤ nr) (b1 b2 b3 : Int32) (h0 : ¬ inI b1 5 80 = 0) (h1 : inI b2 2 20 = 0) : az_M l G yX3_addBarge (az_ws yX3_addBarge cX3_addBarge 6 (Option.some FieldType.int)) 7 [.ref (ρ.1 0), .int (nI k), .int b1, .int b2, .int b3] (AD ρ) (KK G ρ x m ou) 1 6 (az_x "java/lang/IllegalArgumentException" (AD ρ) (KK G ρ x m ou)) := by
  refine az_start hG.1 (by decide +kernel) (Nat.le_of_ble_eq_true rfl) ?_
  intro p e s mm args below meth c C hnm
  show az_W l G 6 _ p e _ s mm args below meth c _ _ 0 0 0 [(0, .ref (ρ.1 0)), (1, .int (nI k)), (2, .int b1), (3, .int b2), (4, .int b3)] []
  refine az_aload_n C 0 dX3_addBarge_0 rfl ?_
  refine az_iload_n C 1 dX3_addBarge_1 rfl ?_
  refine az_callV C Y_X3_needReach cX3 0 0 [.int (nI k)] [] wm_X3_78 wi_X3_needReach wse_X3_needReach dX3_addBarge_2 rfl rfl rfl (XneedReach1 hG nr k hr hn hk) rfl (Nat.le_of_ble_eq_true rfl) (Nat.le_of_ble_eq_true rfl) (Nat.le_of_ble_eq_true rfl) (Nat.le_of_ble_eq_true rfl) (Nat.le_of_ble_eq_true rfl) (az_k1 rfl rfl ?_) (az_k0 rfl)
  refine az_iload_n C 2 dX3_addBarge_5 rfl ?_
  refine az_iconst C (v := 5) dX3_addBarge_6 (by decide) ?_
  refine az_bipush C (v := 80) dX3_addBarge_7 (by decide) ?_
  refine az_callS C Y_X3_isWithin [.int b1, .int 5, .int 80] [] wm_X3_56 wst_X3_isWithin dX3_addBarge_9 rfl (Xwithin hG (b1) (5) (80)) rfl (Nat.le_of_ble_eq_true rfl) (Nat.le_of_ble_eq_true rfl) (Nat.le_of_ble_eq_true rfl) (Nat.le_of_ble_eq_true rfl) (Nat.le_of_ble_eq_true rfl) (az_k1 rfl rfl ?_) (az_k0 rfl)
  refine az_if_eq C 36 dX3_addBarge_12 (by decide) (fun q => absurd q h0) (fun _ => ?_)
  refine az_iload_n C 3 dX3_addBarge_15 rfl ?_
  refine az_iconst C (v := 2) dX3_addBarge_16 (by decide) ?_
  refine az_bipush C (v := 20) dX3_addBarge_17 (by decide) ?_
  refine az_callS C Y_X3_isWithin [.int b2, .int 2, .int 20] [] wm_X3_56 wst_X3_isWithin dX3_addBarge_19 rfl (Xwithin hG (b2) (2) (20)) rfl (Nat.le_of_ble_eq_true rfl) (Nat.le_of_ble_eq_true rfl) (Nat.le_of_ble_eq_true rfl) (Nat.le_of_ble_eq_true rfl) (Nat.le_of_ble_eq_true rfl) (az_k1 rfl rfl ?_) (az_k0 rfl)
  refine az_if_eq C 36 dX3_addBarge_22 (by decide) (fun _ => ?_) (fun q => absurd h1 q)
  exact az_thrS_IAE C hG (List.mem_of_getElem? (i := 6) rfl) dX3_addBarge_36 dX3_addBarge_39 dX3_addBarge_40 dX3_addBarge_42 dX3_addBarge_45 (Nat.le_of_ble_eq_true rfl) (Nat.le_of_ble_eq_true rfl) (Nat.le_of_ble_eq_true rfl) (Nat.le_of_ble_eq_true rfl) (Nat.le_of_ble_eq_true rfl) (Nat.le_of_ble_eq_true rfl) ⟨rfl, rfl, rfl⟩

set_option maxHeartbeats 4000000 in
set_option maxRecDepth 100000 in
theorem XaddBarge1_2 (hG : az_okS l G) (nr k : Nat) (hr : x.1 1 8 = nI nr) (hn : nr ≤ 6) (hk : k + 1 ≤ nr) (b1 b2 b3 : Int32) (h0 : ¬ inI b1 5 80 = 0) (h1 : ¬ inI b2 2 20 = 0) (h2 : inI b3 1 20 = 0) : az_M l G yX3_addBarge (az_ws yX3_addBarge cX3_addBarge 6 (Option.some FieldType.int)) 7 [.ref (ρ.1 0), .int (nI k), .int b1, .int b2, .int b3] (AD ρ) (KK G ρ x m ou) 1 6 (az_x "java/lang/IllegalArgumentException" (AD ρ) (KK G ρ x m ou)) := by
  refine az_start hG.1 (by decide +kernel) (Nat.le_of_ble_eq_true rfl) ?_
  intro p e s mm args below meth c C hnm
  show az_W l G 6 _ p e _ s mm args below meth c _ _ 0 0 0 [(0, .ref (ρ.1 0)), (1, .int (nI k)), (2, .int b1), (3, .int b2), (4, .int b3)] []
  refine az_aload_n C 0 dX3_addBarge_0 rfl ?_
  refine az_iload_n C 1 dX3_addBarge_1 rfl ?_
  refine az_callV C Y_X3_needReach cX3 0 0 [.int (nI k)] [] wm_X3_78 wi_X3_needReach wse_X3_needReach dX3_addBarge_2 rfl rfl rfl (XneedReach1 hG nr k hr hn hk) rfl (Nat.le_of_ble_eq_true rfl) (Nat.le_of_ble_eq_true rfl) (Nat.le_of_ble_eq_true rfl) (Nat.le_of_ble_eq_true rfl) (Nat.le_of_ble_eq_true rfl) (az_k1 rfl rfl ?_) (az_k0 rfl)
  refine az_iload_n C 2 dX3_addBarge_5 rfl ?_
  refine az_iconst C (v := 5) dX3_addBarge_6 (by decide) ?_
  refine az_bipush C (v := 80) dX3_addBarge_7 (by decide) ?_
  refine az_callS C Y_X3_isWithin [.int b1, .int 5, .int 80] [] wm_X3_56 wst_X3_isWithin dX3_addBarge_9 rfl (Xwithin hG (b1) (5) (80)) rfl (Nat.le_of_ble_eq_true rfl) (Nat.le_of_ble_eq_true rfl) (Nat.le_of_ble_eq_true rfl) (Nat.le_of_ble_eq_true rfl) (Nat.le_of_ble_eq_true rfl) (az_k1 rfl rfl ?_) (az_k0 rfl)
  refine az_if_eq C 36 dX3_addBarge_12 (by decide) (fun q => absurd q h0) (fun _ => ?_)
  refine az_iload_n C 3 dX3_addBarge_15 rfl ?_
  refine az_iconst C (v := 2) dX3_addBarge_16 (by decide) ?_
  refine az_bipush C (v := 20) dX3_addBarge_17 (by decide) ?_
  refine az_callS C Y_X3_isWithin [.int b2, .int 2, .int 20] [] wm_X3_56 wst_X3_isWithin dX3_addBarge_19 rfl (Xwithin hG (b2) (2) (20)) rfl (Nat.le_of_ble_eq_true rfl) (Nat.le_of_ble_eq_true rfl) (Nat.le_of_ble_eq_true rfl) (Nat.le_of_ble_eq_true rfl) (Nat.le_of_ble_eq_true rfl) (az_k1 rfl rfl ?_) (az_k0 rfl)
  refine az_if_eq C 36 dX3_addBarge_22 (by decide) (fun q => absurd q h1) (fun _ => ?_)
  refine az_iload C 4 dX3_addBarge_25 rfl ?_
  refine az_iconst C (v := 1) dX3_addBarge_27 (by decide) ?_
  refine az_bipush C (v := 20) dX3_addBarge_28 (by decide) ?_
  refine az_callS C Y_X3_isWithin [.int b3, .int 1, .int 20] [] wm_X3_56 wst_X3_isWithin dX3_addBarge_30 rfl (Xwithin hG (b3) (1) (20)) rfl (Nat.le_of_ble_eq_true rfl) (Nat.le_of_ble_eq_true rfl) (Nat.le_of_ble_eq_true rfl) (Nat.le_of_ble_eq_true rfl) (Nat.le_of_ble_eq_true rfl) (az_k1 rfl rfl ?_) (az_k0 rfl)
  refine az_if_ne C 46 dX3_addBarge_33 (by decide) (fun q => absurd h2 q) (fun _ => ?_)
  exact az_thrS_IAE C hG (List.mem_of_getElem? (i := 6) rfl) dX3_addBarge_36 dX3_addBarge_39 dX3_addBarge_40 dX3_addBarge_42 dX3_addBarge_45 (Nat.le_of_ble_eq_true rfl) (Nat.le_of_ble_eq_true rfl) (Nat.le_of_ble_eq_true rfl) (Nat.le_of_ble_eq_true rfl) (Nat.le_of_ble_eq_true rfl) (Nat.le_of_ble_eq_true rfl) ⟨rfl, rfl, rfl⟩

set_option maxHeartbeats 4000000 in
set_option maxRecDepth 100000 in
theorem XaddBarge2 (hG : az_okS l G) (nr k : Nat) (hr : x.1 1 8 = nI nr) (hn : nr ≤ 6) (hk : k + 1 ≤ nr) (b1 b2 b3 : Int32) (h0 : ¬ inI b1 5 80 = 0) (h1 : ¬ inI b2 2 20 = 0) (h2 : ¬ inI b3 1 20 = 0) (hb : x.1 0 7 = nI 8) : az_M l G yX3_addBarge (az_ws yX3_addBarge cX3_addBarge 6 (Option.some FieldType.int)) 7 [.ref (ρ.1 0), .int (nI k), .int b1, .int b2, .int b3] (AD ρ) (KK G ρ x m ou) 1 6 (az_x "java/lang/IllegalStateException" (AD ρ) (KK G ρ x m ou)) := by
  refine az_start hG.1 (by decide +kernel) (Nat.le_of_ble_eq_true rfl) ?_
  intro p e s mm args below meth c C hnm
  show az_W l G 6 _ p e _ s mm args below meth c _ _ 0 0 0 [(0, .ref (ρ.1 0)), (1, .int (nI k)), (2, .int b1), (3, .int b2), (4, .int b3)] []
  refine az_aload_n C 0 dX3_addBarge_0 rfl ?_
  refine az_iload_n C 1 dX3_addBarge_1 rfl ?_
  refine az_callV C Y_X3_needReach cX3 0 0 [.int (nI k)] [] wm_X3_78 wi_X3_needReach wse_X3_needReach dX3_addBarge_2 rfl rfl rfl (XneedReach1 hG nr k hr hn hk) rfl (Nat.le_of_ble_eq_true rfl) (Nat.le_of_ble_eq_true rfl) (Nat.le_of_ble_eq_true rfl) (Nat.le_of_ble_eq_true rfl) (Nat.le_of_ble_eq_true rfl) (az_k1 rfl rfl ?_) (az_k0 rfl)
  refine az_iload_n C 2 dX3_addBarge_5 rfl ?_
  refine az_iconst C (v := 5) dX3_addBarge_6 (by decide) ?_
  refine az_bipush C (v := 80) dX3_addBarge_7 (by decide) ?_
  refine az_callS C Y_X3_isWithin [.int b1, .int 5, .int 80] [] wm_X3_56 wst_X3_isWithin dX3_addBarge_9 rfl (Xwithin hG (b1) (5) (80)) rfl (Nat.le_of_ble_eq_true rfl) (Nat.le_of_ble_eq_true rfl) (Nat.le_of_ble_eq_true rfl) (Nat.le_of_ble_eq_true rfl) (Nat.le_of_ble_eq_true rfl) (az_k1 rfl rfl ?_) (az_k0 rfl)
  refine az_if_eq C 36 dX3_addBarge_12 (by decide) (fun q => absurd q h0) (fun _ => ?_)
  refine az_iload_n C 3 dX3_addBarge_15 rfl ?_
  refine az_iconst C (v := 2) dX3_addBarge_16 (by decide) ?_
  refine az_bipush C (v := 20) dX3_addBarge_17 (by decide) ?_
  refine az_callS C Y_X3_isWithin [.int b2, .int 2, .int 20] [] wm_X3_56 wst_X3_isWithin dX3_addBarge_19 rfl (Xwithin hG (b2) (2) (20)) rfl (Nat.le_of_ble_eq_true rfl) (Nat.le_of_ble_eq_true rfl) (Nat.le_of_ble_eq_true rfl) (Nat.le_of_ble_eq_true rfl) (Nat.le_of_ble_eq_true rfl) (az_k1 rfl rfl ?_) (az_k0 rfl)
  refine az_if_eq C 36 dX3_addBarge_22 (by decide) (fun q => absurd q h1) (fun _ => ?_)
  refine az_iload C 4 dX3_addBarge_25 rfl ?_
  refine az_iconst C (v := 1) dX3_addBarge_27 (by decide) ?_
  refine az_bipush C (v := 20) dX3_addBarge_28 (by decide) ?_
  refine az_callS C Y_X3_isWithin [.int b3, .int 1, .int 20] [] wm_X3_56 wst_X3_isWithin dX3_addBarge_30 rfl (Xwithin hG (b3) (1) (20)) rfl (Nat.le_of_ble_eq_true rfl) (Nat.le_of_ble_eq_true rfl) (Nat.le_of_ble_eq_true rfl) (Nat.le_of_ble_eq_true rfl) (Nat.le_of_ble_eq_true rfl) (az_k1 rfl rfl ?_) (az_k0 rfl)
  refine az_if_ne C 46 dX3_addBarge_33 (by decide) (fun _ => ?_) (fun q => absurd q h2)
  refine az_aload_n C 0 dX3_addBarge_46 rfl ?_
  refine az_get C cX3 0 0 7 (v := .int (x.1 0 7)) wl_X3_145 dX3_addBarge_47 rfl rfl rfl (by decide) ?_
  refine az_top (nI 8) hb ?_
  refine az_bipush C (v := 8) dX3_addBarge_50 (by decide) ?_
  refine az_icmp_lt C 65 dX3_addBarge_52 (by decide) (fun q => absurd q (show ¬ nI 8 < 8 from by decide)) (fun _ => ?_)
  exact az_thrS_ISE C hG (List.mem_of_getElem? (i := 7) rfl) dX3_addBarge_55 dX3_addBarge_58 dX3_addBarge_59 dX3_addBarge_61 dX3_addBarge_64 (Nat.le_of_ble_eq_true rfl) (Nat.le_of_ble_eq_true rfl) (Nat.le_of_ble_eq_true rfl) (Nat.le_of_ble_eq_true rfl) (Nat.le_of_ble_eq_true rfl) (Nat.le_of_ble_eq_true rfl) ⟨rfl, rfl, rfl⟩

set_option maxHeartbeats 4000000 in
set_option maxRecDepth 100000 in
theorem XaddBarge3 (hG : az_okS l G) (nr k : Nat) (hr : x.1 1 8 = nI nr) (hn : nr ≤ 6) (hk : k + 1 ≤ nr) (b1 b2 b3 : Int32) (h0 : ¬ inI b1 5 80 = 0) (h1 : ¬ inI b2 2 20 = 0) (h2 : ¬ inI b3 1 20 = 0) (nb : Nat) (hb : x.1 0 7 = nI nb) (h8 : nb < 8) (ha : ¬ x.1 2 k < 1) (hf : ¬ b2 < x.1 4 (k + 3) / x.1 2 k) : az_M l G yX3_addBarge (az_ws yX3_addBarge cX3_addBarge 6 (Option.some FieldType.int)) 7 [.ref (ρ.1 0), .int (nI k), .int b1, .int b2, .int b3] (AD ρ) (KK G ρ x m ou) 1 6 (az_x "java/lang/UnsupportedOperationException" (AD ρ) (KK G ρ x m ou)) := by
  refine az_start hG.1 (by decide +kernel) (Nat.le_of_ble_eq_true rfl) ?_
  intro p e s mm args below meth c C hnm
  show az_W l G 6 _ p e _ s mm args below meth c _ _ 0 0 0 [(0, .ref (ρ.1 0)), (1, .int (nI k)), (2, .int b1), (3, .int b2), (4, .int b3)] []
  refine az_aload_n C 0 dX3_addBarge_0 rfl ?_
  refine az_iload_n C 1 dX3_addBarge_1 rfl ?_
  refine az_callV C Y_X3_needReach cX3 0 0 [.int (nI k)] [] wm_X3_78 wi_X3_needReach wse_X3_needReach dX3_addBarge_2 rfl rfl rfl (XneedReach1 hG nr k hr hn hk) rfl (Nat.le_of_ble_eq_true rfl) (Nat.le_of_ble_eq_true rfl) (Nat.le_of_ble_eq_true rfl) (Nat.le_of_ble_eq_true rfl) (Nat.le_of_ble_eq_true rfl) (az_k1 rfl rfl ?_) (az_k0 rfl)
  refine az_iload_n C 2 dX3_addBarge_5 rfl ?_
  refine az_iconst C (v := 5) dX3_addBarge_6 (by decide) ?_
  refine az_bipush C (v := 80) dX3_addBarge_7 (by decide) ?_
  refine az_callS C Y_X3_isWithin [.int b1, .int 5, .int 80] [] wm_X3_56 wst_X3_isWithin dX3_addBarge_9 rfl (Xwithin hG (b1) (5) (80)) rfl (Nat.le_of_ble_eq_true rfl) (Nat.le_of_ble_eq_true rfl) (Nat.le_of_ble_eq_true rfl) (Nat.le_of_ble_eq_true rfl) (Nat.le_of_ble_eq_true rfl) (az_k1 rfl rfl ?_) (az_k0 rfl)
  refine az_if_eq C 36 dX3_addBarge_12 (by decide) (fun q => absurd q h0) (fun _ => ?_)
  refine az_iload_n C 3 dX3_addBarge_15 rfl ?_
  refine az_iconst C (v := 2) dX3_addBarge_16 (by decide) ?_
  refine az_bipush C (v := 20) dX3_addBarge_17 (by decide) ?_
  refine az_callS C Y_X3_isWithin [.int b2, .int 2, .int 20] [] wm_X3_56 wst_X3_isWithin dX3_addBarge_19 rfl (Xwithin hG (b2) (2) (20)) rfl (Nat.le_of_ble_eq_true rfl) (Nat.le_of_ble_eq_true rfl) (Nat.le_of_ble_eq_true rfl) (Nat.le_of_ble_eq_true rfl) (Nat.le_of_ble_eq_true rfl) (az_k1 rfl rfl ?_) (az_k0 rfl)
  refine az_if_eq C 36 dX3_addBarge_22 (by decide) (fun q => absurd q h1) (fun _ => ?_)
  refine az_iload C 4 dX3_addBarge_25 rfl ?_
  refine az_iconst C (v := 1) dX3_addBarge_27 (by decide) ?_
  refine az_bipush C (v := 20) dX3_addBarge_28 (by decide) ?_
  refine az_callS C Y_X3_isWithin [.int b3, .int 1, .int 20] [] wm_X3_56 wst_X3_isWithin dX3_addBarge_30 rfl (Xwithin hG (b3) (1) (20)) rfl (Nat.le_of_ble_eq_true rfl) (Nat.le_of_ble_eq_true rfl) (Nat.le_of_ble_eq_true rfl) (Nat.le_of_ble_eq_true rfl) (Nat.le_of_ble_eq_true rfl) (az_k1 rfl rfl ?_) (az_k0 rfl)
  refine az_if_ne C 46 dX3_addBarge_33 (by decide) (fun _ => ?_) (fun q => absurd q h2)
  refine az_aload_n C 0 dX3_addBarge_46 rfl ?_
  refine az_get C cX3 0 0 7 (v := .int (x.1 0 7)) wl_X3_145 dX3_addBarge_47 rfl rfl rfl (by decide) ?_
  refine az_top (nI nb) hb ?_
  refine az_bipush C (v := 8) dX3_addBarge_50 (by decide) ?_
  refine az_icmp_lt C 65 dX3_addBarge_52 (by decide) (fun _ => ?_) (fun q => absurd (show nI nb < nI 8 from Int32.not_le.mp (nlt_nle (show nb < 8 by omega) (by decide))) q)
  refine az_iload_n C 3 dX3_addBarge_65 rfl ?_
  refine az_aload_n C 0 dX3_addBarge_66 rfl ?_
  refine az_get C cX3 0 0 0 (v := .ref (ρ.1 1)) wl_X3_12 dX3_addBarge_67 rfl rfl rfl (by decide) ?_
  refine az_iload_n C 1 dX3_addBarge_70 rfl ?_
  refine az_callV C Y_X2_level cX2 0 1 [.int (nI k)] [.int b2] wm_X3_98 wi_X2_level wse_X2_level dX3_addBarge_71 rfl rfl rfl (klevel hG k (by omega) ha) rfl (Nat.le_of_ble_eq_true rfl) (Nat.le_of_ble_eq_true rfl) (Nat.le_of_ble_eq_true rfl) (Nat.le_of_ble_eq_true rfl) (Nat.le_of_ble_eq_true rfl) (az_k1 rfl rfl ?_) (az_k0 rfl)
  refine az_icmp_lt C 87 dX3_addBarge_74 (by decide) (fun q => absurd q hf) (fun _ => ?_)
  exact az_thrS_UOE C hG (List.mem_of_getElem? (i := 8) rfl) dX3_addBarge_77 dX3_addBarge_80 dX3_addBarge_81 dX3_addBarge_83 dX3_addBarge_86 (Nat.le_of_ble_eq_true rfl) (Nat.le_of_ble_eq_true rfl) (Nat.le_of_ble_eq_true rfl) (Nat.le_of_ble_eq_true rfl) (Nat.le_of_ble_eq_true rfl) (Nat.le_of_ble_eq_true rfl) ⟨rfl, rfl, rfl⟩

set_option maxHeartbeats 4000000 in
set_option maxRecDepth 100000 in
theorem XaddBarge4 (hG : az_okS l G) (nr k : Nat) (hr : x.1 1 8 = nI nr) (hn : nr ≤ 6) (hk : k + 1 ≤ nr) (b1 b2 b3 : Int32) (h0 : ¬ inI b1 5 80 = 0) (h1 : ¬ inI b2 2 20 = 0) (h2 : ¬ inI b3 1 20 = 0) (nb : Nat) (hb : x.1 0 7 = nI nb) (h8 : nb < 8) (hnb : nb = ρ.2.2.2.2.2) (ha : ¬ x.1 2 k < 1) (hf : b2 < x.1 4 (k + 3) / x.1 2 k) (hlk : ∀ w i j : Nat, i < nb → x.2.2.1 w i = some j → j ≠ nb) : az_M l G yX3_addBarge (az_ws yX3_addBarge cX3_addBarge 6 (Option.some FieldType.int)) 7 [.ref (ρ.1 0), .int (nI k), .int b1, .int b2, .int b3] (AD ρ) (KK G ρ x m ou) 1 8 ((fun o ad' K' => ∃ q : Nat, o = .inl (some (.int (nI nb))) ∧ ad' = AD (bR ρ nb q) ∧ K' = KK G (bR ρ nb q) (xI (nbX x nb b1 b2 b3 (nI k)) 0 7 (nI (nb + 1))) m ou)) := by
  refine az_start hG.1 (by decide +kernel) (Nat.le_of_ble_eq_true rfl) ?_
  intro p e s mm args below meth c C hnm
  show az_W l G 6 _ p e _ s mm args below meth c _ _ 0 0 0 [(0, .ref (ρ.1 0)), (1, .int (nI k)), (2, .int b1), (3, .int b2), (4, .int b3)] []
  refine az_aload_n C 0 dX3_addBarge_0 rfl ?_
  refine az_iload_n C 1 dX3_addBarge_1 rfl ?_
  refine az_callV C Y_X3_needReach cX3 0 0 [.int (nI k)] [] wm_X3_78 wi_X3_needReach wse_X3_needReach dX3_addBarge_2 rfl rfl rfl (XneedReach1 hG nr k hr hn hk) rfl (Nat.le_of_ble_eq_true rfl) (Nat.le_of_ble_eq_true rfl) (Nat.le_of_ble_eq_true rfl) (Nat.le_of_ble_eq_true rfl) (Nat.le_of_ble_eq_true rfl) (az_k1 rfl rfl ?_) (az_k0 rfl)
  refine az_iload_n C 2 dX3_addBarge_5 rfl ?_
  refine az_iconst C (v := 5) dX3_addBarge_6 (by decide) ?_
  refine az_bipush C (v := 80) dX3_addBarge_7 (by decide) ?_
  refine az_callS C Y_X3_isWithin [.int b1, .int 5, .int 80] [] wm_X3_56 wst_X3_isWithin dX3_addBarge_9 rfl (Xwithin hG (b1) (5) (80)) rfl (Nat.le_of_ble_eq_true rfl) (Nat.le_of_ble_eq_true rfl) (Nat.le_of_ble_eq_true rfl) (Nat.le_of_ble_eq_true rfl) (Nat.le_of_ble_eq_true rfl) (az_k1 rfl rfl ?_) (az_k0 rfl)
  refine az_if_eq C 36 dX3_addBarge_12 (by decide) (fun q => absurd q h0) (fun _ => ?_)
  refine az_iload_n C 3 dX3_addBarge_15 rfl ?_
  refine az_iconst C (v := 2) dX3_addBarge_16 (by decide) ?_
  refine az_bipush C (v := 20) dX3_addBarge_17 (by decide) ?_
  refine az_callS C Y_X3_isWithin [.int b2, .int 2, .int 20] [] wm_X3_56 wst_X3_isWithin dX3_addBarge_19 rfl (Xwithin hG (b2) (2) (20)) rfl (Nat.le_of_ble_eq_true rfl) (Nat.le_of_ble_eq_true rfl) (Nat.le_of_ble_eq_true rfl) (Nat.le_of_ble_eq_true rfl) (Nat.le_of_ble_eq_true rfl) (az_k1 rfl rfl ?_) (az_k0 rfl)
  refine az_if_eq C 36 dX3_addBarge_22 (by decide) (fun q => absurd q h1) (fun _ => ?_)
  refine az_iload C 4 dX3_addBarge_25 rfl ?_
  refine az_iconst C (v := 1) dX3_addBarge_27 (by decide) ?_
  refine az_bipush C (v := 20) dX3_addBarge_28 (by decide) ?_
  refine az_callS C Y_X3_isWithin [.int b3, .int 1, .int 20] [] wm_X3_56 wst_X3_isWithin dX3_addBarge_30 rfl (Xwithin hG (b3) (1) (20)) rfl (Nat.le_of_ble_eq_true rfl) (Nat.le_of_ble_eq_true rfl) (Nat.le_of_ble_eq_true rfl) (Nat.le_of_ble_eq_true rfl) (Nat.le_of_ble_eq_true rfl) (az_k1 rfl rfl ?_) (az_k0 rfl)
  refine az_if_ne C 46 dX3_addBarge_33 (by decide) (fun _ => ?_) (fun q => absurd q h2)
  refine az_aload_n C 0 dX3_addBarge_46 rfl ?_
  refine az_get C cX3 0 0 7 (v := .int (x.1 0 7)) wl_X3_145 dX3_addBarge_47 rfl rfl rfl (by decide) ?_
  refine az_top (nI nb) hb ?_
  refine az_bipush C (v := 8) dX3_addBarge_50 (by decide) ?_
  refine az_icmp_lt C 65 dX3_addBarge_52 (by decide) (fun _ => ?_) (fun q => absurd (show nI nb < nI 8 from Int32.not_le.mp (nlt_nle (show nb < 8 by omega) (by decide))) q)
  refine az_iload_n C 3 dX3_addBarge_65 rfl ?_
  refine az_aload_n C 0 dX3_addBarge_66 rfl ?_
  refine az_get C cX3 0 0 0 (v := .ref (ρ.1 1)) wl_X3_12 dX3_addBarge_67 rfl rfl rfl (by decide) ?_
  refine az_iload_n C 1 dX3_addBarge_70 rfl ?_
  refine az_callV C Y_X2_level cX2 0 1 [.int (nI k)] [.int b2] wm_X3_98 wi_X2_level wse_X2_level dX3_addBarge_71 rfl rfl rfl (klevel hG k (by omega) ha) rfl (Nat.le_of_ble_eq_true rfl) (Nat.le_of_ble_eq_true rfl) (Nat.le_of_ble_eq_true rfl) (Nat.le_of_ble_eq_true rfl) (Nat.le_of_ble_eq_true rfl) (az_k1 rfl rfl ?_) (az_k0 rfl)
  refine az_icmp_lt C 87 dX3_addBarge_74 (by decide) (fun _ => ?_) (fun q => absurd hf q)
  refine az_aload_n C 0 dX3_addBarge_87 rfl ?_
  refine az_get C cX3 0 0 7 (v := .int (x.1 0 7)) wl_X3_145 dX3_addBarge_88 rfl rfl rfl (by decide) ?_
  refine az_top (nI nb) hb ?_
  refine az_istore C (lv' := [(5, .int (nI nb)), (0, .ref (ρ.1 0)), (1, .int (nI k)), (2, .int b1), (3, .int b2), (4, .int b3)]) dX3_addBarge_91 (by decide) rfl ?_
  refine az_aload_n C 1 dX3_addBarge_93 rfl ?_
  refine az_get C cX3 0 0 5 (v := .ref (ρ.1 13)) wl_X3_31 dX3_addBarge_94 rfl rfl rfl (by decide) ?_
  refine az_iload C 0 dX3_addBarge_97 rfl ?_
  refine az_new C cX0 9 0 [.int 0, .int 0, .int 0, .int 0, .int 0, .int 0, .null, .null] wk_X3_29 wins_X0 wini_X0 df8 (Nat.le_of_ble_eq_true rfl) (Nat.le_of_ble_eq_true rfl) dX3_addBarge_99 (fun q => ?_)
  refine az_dup C dX3_addBarge_102 rfl ?_
  refine az_iload C 0 dX3_addBarge_103 rfl ?_
  refine az_iload_n C 2 dX3_addBarge_105 rfl ?_
  refine az_iload_n C 3 dX3_addBarge_106 rfl ?_
  refine az_iload_n C 4 dX3_addBarge_107 rfl ?_
  refine az_iload C 5 dX3_addBarge_108 rfl ?_
  refine az_callI C Y_X0_init (a := q) [.int (nI nb), .int (nI k), .int b1, .int b2, .int b3] [.ref q, .int (nI nb), .ref (ρ.1 13)] rfl wm_X3_152 wi_X0_init dX3_addBarge_110 rfl (Xbinit (ad := az_ua (AD ρ) 9 0 q) hG rfl az_u_s (nI nb) (nI k) b1 b2 b3) rfl (Nat.le_of_ble_eq_true rfl) (Nat.le_of_ble_eq_true rfl) (Nat.le_of_ble_eq_true rfl) (Nat.le_of_ble_eq_true rfl) (Nat.le_of_ble_eq_true rfl) (az_k1 rfl rfl ?_) (az_k0 rfl)
  refine az_to rfl (K' := az_u (KK G ρ x m ou) 9 0 (nbE nb b1 b2 b3 (nI k))) az_uu ?_
  refine az_aast C 0 13 9 0 1 (N := 8) (f := bgs ρ) (v := q) rfl rfl dX3_addBarge_113 rfl rfl rfl az_u_s (vp_in_nI h8 (by decide)) ?_
  refine az_mv (ad' := AD (bR ρ nb q)) (K' := KK G (bR ρ nb q) (nbX x nb b1 b2 b3 (nI k)) m ou) (nbM nb) (nb_1 hnb h8 hlk) nb_2 ?_
  refine az_aload_n C 1 dX3_addBarge_114 rfl ?_
  refine az_dup C dX3_addBarge_115 rfl ?_
  refine az_get C cX3 0 0 7 (v := .int ((nbX x nb b1 b2 b3 (nI k)).1 0 7)) wl_X3_145 dX3_addBarge_116 rfl rfl rfl (by decide) ?_
  refine az_top (nI nb) hb ?_
  refine az_iconst C (v := 1) dX3_addBarge_119 (by decide) ?_
  refine az_iadd C dX3_addBarge_120 ?_
  refine az_top (nI (nb + 1)) (nI_1 nb) ?_
  refine az_put C cX3 0 0 7 wl_X3_145 dX3_addBarge_121 rfl rfl (by decide) (Nat.le_of_ble_eq_true rfl) rfl rfl rfl (az_to rfl (K' := (KK G (bR ρ nb q) (xI (nbX x nb b1 b2 b3 (nI k)) 0 7 (nI (nb + 1))) m ou)) (KK_X rfl) ?_)
  refine az_iload C 0 dX3_addBarge_124 rfl ?_
  exact az_iret C rfl dX3_addBarge_126 (Nat.le_of_ble_eq_true rfl) (Nat.le_of_ble_eq_true rfl) ⟨q, rfl, rfl, rfl⟩

end
