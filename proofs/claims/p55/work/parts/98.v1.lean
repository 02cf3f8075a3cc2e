section
variable {l : Launch} {G : az_G} {ρ : Rp} {x x' : Xs} {m : Mz} {M M' : Ms} {ou : Nat → Int64} {n nr nb c f r dst k lk N : Nat} {t : List Nat} {cs : List (List Nat)}
/-- the end of a step of the law: true, and the picture goes on -/
def OkW (G : az_G) (ρ : Rp) (ou : Nat → Int64) (c nr nb : Nat) : az_O → az_A → az_K → Prop := fun o ad' K' => ∃ (ρ' : Rp) (x' : Xs) (M' : Ms) (m' : Mz) (n' : Nat) (cs' : List (List Nat)), o = .inl (some (.int 1)) ∧ ad' = AD ρ' ∧ K' = KK G ρ' x' m' ou ∧ ρ'.1 0 = ρ.1 0 ∧ ST c ρ' x' M' n' nr nb cs'
theorem can_no : ¬ (canR M nr f t r dst).2 = 0 → ¬ r = dst → ¬ (sailM nr f t dst 6 (keepsM M) r 0).2 = 0 := by
  intro h hne z
  unfold canR at h
  rw [if_neg hne] at h
  exact h (by
    show canV M nr f t r dst = 0
    unfold canV
    rw [if_pos (by rw [z]; decide)])
theorem pasM_p {dn : Bool} {p j : Nat} (hp : p = 8 ∨ p = 14 ∨ p = 6 ∨ p = 17) : (passM (keepsM M) nr lk dn f t).1.1 p j = M.1 p j := (passM_p (by omega) (by omega) (by omega) (by omega) (by omega) (by omega) (by omega) (by omega)).trans (keepsM_p (by omega) (by omega) (by omega) (by omega) (by omega))
theorem endM_p {p j : Nat} (hp : p = 8 ∨ p = 14 ∨ p = 6 ∨ p = 17) : (endsM (sailM nr f t dst 6 (keepsM M) r 0).1 3).1 p j = M.1 p j := by
  unfold endsM
  rw [mI_p (by omega), mI_p (by omega), mI_p (by omega), backM_p (by omega) (by omega) (by omega) (by omega) (by omega), sailM_p (by omega) (by omega) (by omega) (by omega) (by omega) (by omega) (by omega) (by omega), keepsM_p (by omega) (by omega) (by omega) (by omega) (by omega)]
theorem pas_le {dn : Bool} (h : ¬ (passM (keepsM M) nr lk dn f t).2 = 0) : ∀ d ∈ f :: t, M.1 14 d ≤ M.1 8 lk := fun d hd => by
  have g := passM_le h d hd
  rw [keepsM_p (by decide) (by decide) (by decide) (by decide) (by decide), keepsM_p (by decide) (by decide) (by decide) (by decide) (by decide)] at g
  exact g
theorem pt_pas {dn : Bool} : ptM (passM (keepsM M) nr lk dn f t).1 lk (t.length + 1) (f :: t) = ptM M lk (t.length + 1) (f :: t) := ptM_eq (pasM_p (by omega)) (fun d => pasM_p (by omega)) _ _
theorem smV_1 : smV M f t r (r + 1) = ptM M r (t.length + 1) (f :: t) := by
  unfold smV
  rw [if_pos (Nat.lt_succ_self r), show r + 1 - r = 1 from by omega]
  rfl
theorem smV_0 (h1 : 1 ≤ r) : smV M f t r (r - 1) = ptM M (r - 1) (t.length + 1) (f :: t) := by
  unfold smV
  rw [if_neg (by omega), show r - (r - 1) = 1 from by omega]
  rfl
theorem tv1_why (h : (tvX x n nr f t r (r + 1)).2 = 0) : (tvX x n nr f t r (r + 1)).1.1.1 0 10 = (tryP x n nr r true f t).2 := by
  unfold tvX at h ⊢
  rw [if_pos (Nat.lt_succ_self r), show r + 1 - r = 0 + 1 from by omega] at h ⊢
  rw [tvD] at h ⊢
  by_cases z : (tryP x n nr r true f t).2 = 0
  · rw [if_pos z] at h
    exact absurd (show (1 : Int32) = 0 from h) one_ne
  · rw [if_neg z]
    exact (xI_k (by decide)).trans xI_s
theorem tv0_why (h1 : 1 ≤ r) (h : (tvX x n nr f t r (r - 1)).2 = 0) : (tvX x n nr f t r (r - 1)).1.1.1 0 10 = (tryP x n nr (r - 1) false f t).2 := by
  unfold tvX at h ⊢
  rw [if_neg (by omega), show r - (r - 1) = 0 + 1 from by omega] at h ⊢
  rw [tvU] at h ⊢
  by_cases z : (tryP x n nr (r - 1) false f t).2 = 0
  · rw [if_pos z] at h
    exact absurd (show (1 : Int32) = 0 from h) one_ne
  · rw [if_neg z]
    exact (xI_k (by decide)).trans xI_s
theorem try_1 {dn : Bool} (S : ST c ρ x M n nr nb cs) (hlk : lk + 1 < nr) (hq : ∀ d ∈ f :: t, d < nb) : (tryP (saveX x) n nr lk dn f t).2 = 1 ↔ ¬ ∀ d ∈ f :: t, M.1 14 d ≤ M.1 8 lk := by
  have h6 := S.1.n6
  have e9 := (S.lks (k := lk) (by omega)).2.1
  have g0 : 0 ≤ M.1 8 lk := by
    have L := (S.1.1.1.1.2.2.2.2.2.2.2.2 lk (by omega)).2.2.2.2.2.1 hlk
    rw [i_le, i_0]
    omega
  rw [tryP_1v, mxL_x (x := x) (x' := saveX x) rfl, sav_p (by decide) (by decide) (by decide), e9, mxL_le S.1.1.2.2.1 (f :: t) 0 hq]
  exact ⟨fun z w => z ⟨g0, w⟩, fun z w => z w.2⟩
theorem nI_n1002 {z : Nat} (h : z < 2 ^ 30) : ¬ nI z = -1002 := fun e => by
  have g := nI_pos' (n := z) (by omega)
  rw [e] at g
  exact absurd g (by decide)
/-- what a refused voyage leaves is read as before -/
theorem stM_ref (S : ST c ρ x M n nr nb cs) {ρ' : Rp} {c' : Nat} (hr : r < nr) (hd : dst < nr) (S' : ST c' ρ' (carR (tvX (saveX x) n nr f t r dst).1.1) M' n nr nb cs) : stM M' nr nb n = stM M nr nb n := by
  have h6 := S.1.n6
  have h8 := S.1.b8
  rw [← S.st, ← S'.st]
  have e4 : ∀ p, p < 18 → (carR (tvX (saveX x) n nr f t r dst).1.1).1 4 p = x.1 4 p := fun p hp => (carR_o (by decide)).trans (crX_4 hp)
  have e2 : (carR (tvX (saveX x) n nr f t r dst).1.1).2 = x.2 := crX_x
  unfold stA
  rw [upL_eq nr (w := fun k => x.1 4 (k + 3)) _ 0 (fun j _ hj => e4 (j + 3) (by omega)), upL_eq (nr - 1) (w := fun k => fuX x k + 2 * x.1 5 k) _ 0 (fun j _ hj => by
    show fuX _ j + 2 * (carR (tvX (saveX x) n nr f t r dst).1.1).1 5 j = fuX x j + 2 * x.1 5 j
    rw [show (carR (tvX (saveX x) n nr f t r dst).1.1).1 5 j = x.1 5 j from (carR_o (by decide)).trans (crX_5 (by omega))]
    unfold fuX
    rw [e4 (j + 13) (by omega)]), e4 1 (by omega), e2]
end
section
variable {l : Launch} {G : az_G} {ρ : Rp} {x : Xs} {m : Mz} {M : Ms} {ou : Nat → Int64} {n nr nb c f r k : Nat} {t : List Nat} {cs : List (List Nat)}
set_option maxHeartbeats 4000000 in
set_option maxRecDepth 100000 in
theorem XpasA1 (hG : az_okS l G) (hc : c ≤ 62) (S : ST c ρ x M n nr nb cs) (hk : k < nb) (hcs : (f :: t) ∈ cs) (hin : k ∈ f :: t) (hrn : r < nr) (hat : M.1 13 k = nI r) (he : r + 1 = nr) : az_M l G yL_passes (az_ws yL_passes cL_passes 8 (Option.some FieldType.boolean)) 12 [.ref (ρ.1 0), .int (nI k), .int 1] (AD ρ) (KK G ρ x m ou) 16500 99500 (OkW G ρ ou c nr nb) := by
  refine az_start hG.1 (by decide +kernel) (Nat.le_of_ble_eq_true rfl) ?_
  intro p e s mm args below meth c C hnm
  show az_W l G 8 _ p e _ s mm args below meth c _ _ 0 0 0 [(0, .ref (ρ.1 0)), (1, .int (nI k)), (2, .int 1)] []
  have h := S.1
  have hn6 := h.n6
  have hr := h.xr
  obtain ⟨rl, aC, aP, ef, ek, h4, hnd, hq, hat2, hs⟩ := h.voyF hk hcs hin hrn hat
  refine az_aload_n C 0 dL_passes_0 rfl ?_
  refine az_callS C Y_L_state [.ref (ρ.1 0)] [] wm_L_222 wst_L_state dL_passes_1 rfl (S_state0 (ρ := ρ) (m := m) (ou := ou) hG (by omega) S) rfl (Nat.le_of_ble_eq_true rfl) (Nat.le_of_ble_eq_true rfl) (Nat.le_of_ble_eq_true rfl) (by show _ ≤ 16500; omega) (by show _ ≤ 99500; omega) ?_ (by rintro E ad9 K9 ⟨q9, h9, -⟩; cases h9)
  rintro v9 ad9 K9 ⟨q08, h9, rfl, rfl⟩
  cases h9
  refine az_astore_n C (lv' := [(3, .ref ((rN ρ 0 q08).1 100)), (0, .ref (ρ.1 0)), (1, .int (nI k)), (2, .int 1)]) (j := 3) rfl dL_passes_4 (by decide) rfl ?_
  refine az_aload_n C 1 dL_passes_5 rfl ?_
  refine az_iload_n C 2 dL_passes_6 rfl ?_
  refine az_callH C Y_L_reachOf [.ref (ρ.1 0), .int (nI k)] [] wm_L_170 wst_L_reachOf dL_passes_7 rfl (S_reachOf (ρ := (rN ρ 0 q08)) (x := x) (m := (zP m 0 (stM M nr nb n))) (ou := ou) hG (by omega) S.rN hk hat) rfl (Nat.le_of_ble_eq_true rfl) (Nat.le_of_ble_eq_true rfl) (Nat.le_of_ble_eq_true rfl) (by show _ ≤ 16500; omega) (by show _ ≤ 99500; omega) (az_k1 rfl rfl ?_) (az_k0 rfl)
  refine az_istore C (lv' := [(4, .int (nI r)), (3, .ref ((rN ρ 0 q08).1 100)), (0, .ref (ρ.1 0)), (1, .int (nI k)), (2, .int 1)]) dL_passes_10 (by decide) rfl ?_
  refine az_iload_n C 4 dL_passes_12 rfl ?_
  refine az_if_eq C 23 dL_passes_13 (by decide) (fun q => absurd q (by decide)) (fun _ => ?_)
  refine az_iload C 0 dL_passes_16 rfl ?_
  refine az_iconst C (v := 1) dL_passes_18 (by decide) ?_
  refine az_iadd C dL_passes_19 ?_
  refine az_top (nI (r + 1)) (nI_1 r) ?_
  refine az_goto C 27 dL_passes_20 (by decide) ?_
  refine az_istore C (lv' := [(5, .int (nI (r + 1))), (4, .int (nI r)), (3, .ref ((rN ρ 0 q08).1 100)), (0, .ref (ρ.1 0)), (1, .int (nI k)), (2, .int 1)]) dL_passes_27 (by decide) rfl ?_
  refine az_aload_n C 3 dL_passes_29 rfl ?_
  refine az_iload_n C 4 dL_passes_30 rfl ?_
  refine az_iload_n C 5 dL_passes_31 rfl ?_
  refine az_callH C Y_L_pass [.ref (ρ.1 0), .int (nI k), .int 1] [] wm_L_255 wst_L_pass dL_passes_32 rfl (pas11_ok (ρ := (rN ρ 0 q08)) (x := x) (m := (zP m 0 (stM M nr nb n))) (ou := ou) hG S.rN hk hcs hin hrn hat he) rfl (Nat.le_of_ble_eq_true rfl) (Nat.le_of_ble_eq_true rfl) (Nat.le_of_ble_eq_true rfl) (by show _ ≤ 16500; omega) (by show _ ≤ 99500; omega) (az_k1 rfl rfl ?_) (az_k0 rfl)
  refine az_istore C (lv' := [(6, .int ((-1002))), (5, .int (nI (r + 1))), (4, .int (nI r)), (3, .ref ((rN ρ 0 q08).1 100)), (0, .ref (ρ.1 0)), (1, .int (nI k)), (2, .int 1)]) dL_passes_35 (by decide) rfl ?_
  refine az_iload C 1 dL_passes_37 rfl ?_
  refine az_if_lt C 51 dL_passes_39 (by decide) (fun q => absurd q (Int32.not_lt.mpr (nI_pos' (by omega)))) (fun _ => ?_)
  refine az_iload C 1 dL_passes_42 rfl ?_
  refine az_aload_n C 4 dL_passes_44 rfl ?_
  refine az_callV C Y_X3_reachCount cX3 0 0 [] [.int (nI (r + 1))] wm_L_157 wi_X3_reachCount wse_X3_reachCount dL_passes_45 rfl rfl rfl (XreachCount hG) rfl (Nat.le_of_ble_eq_true rfl) (Nat.le_of_ble_eq_true rfl) (Nat.le_of_ble_eq_true rfl) (by show _ ≤ 16500; omega) (by show _ ≤ 99500; omega) (az_k1 rfl rfl ?_) (az_k0 rfl)
  refine az_top (nI nr) hr ?_
  refine az_icmp_lt C 76 dL_passes_48 (by decide) (fun q => absurd q (Int32.not_lt.mpr (nI_leT (by omega) (by omega)))) (fun _ => ?_)
  refine az_iload C 0 dL_passes_51 rfl ?_
  refine az_sipush C (v := (-1002)) dL_passes_53 (by decide) ?_
  refine az_icmp_ne C 74 dL_passes_56 (by decide) (fun q => absurd (by decide) q) (fun _ => ?_)
  refine az_aload_n C 3 dL_passes_59 rfl ?_
  refine az_aload_n C 4 dL_passes_60 rfl ?_
  refine az_callS C Y_L_state [.ref (ρ.1 0)] [.ref ((rN ρ 0 q08).1 100)] wm_L_222 wst_L_state dL_passes_61 rfl (S_state1 (ρ := (rN ρ 0 q08)) (m := (zP m 0 (stM M nr nb n))) (ou := ou) hG (by omega) S.rN) rfl (Nat.le_of_ble_eq_true rfl) (Nat.le_of_ble_eq_true rfl) (Nat.le_of_ble_eq_true rfl) (by show _ ≤ 16500; omega) (by show _ ≤ 99500; omega) ?_ (by rintro E ad9 K9 ⟨q9, h9, -⟩; cases h9)
  rintro v9 ad9 K9 ⟨q18, h9, rfl, rfl⟩
  cases h9
  refine az_callS C Y_L_same [.ref ((rN ρ 0 q08).1 100), .ref ((rN (rN ρ 0 q08) 1 q18).1 101)] [] wm_L_232 wst_L_same dL_passes_64 rfl (S_same (ρ := (rN (rN ρ 0 q08) 1 q18)) (x := x) (m := m) (ou := ou) (A := stM M nr nb n) hG) rfl (Nat.le_of_ble_eq_true rfl) (Nat.le_of_ble_eq_true rfl) (Nat.le_of_ble_eq_true rfl) (by show _ ≤ 16500; omega) (by show _ ≤ 99500; omega) (az_k1 rfl rfl ?_) (az_k0 rfl)
  refine az_if_eq C 74 dL_passes_67 (by decide) (fun q => absurd q (by decide)) (fun _ => ?_)
  refine az_iconst C (v := 1) dL_passes_70 (by decide) ?_
  refine az_goto C 75 dL_passes_71 (by decide) ?_
  exact az_zret C .boolean rfl rfl dL_passes_75 (by show _ ≤ 16500; omega) (by show _ ≤ 99500; omega) ⟨_, _, _, _, _, _, rfl, rfl, rfl, rfl, S.rN.rN⟩

set_option maxHeartbeats 4000000 in
set_option maxRecDepth 100000 in
theorem XpasR1a (hG : az_okS l G) (hc : c ≤ 62) (S : ST c ρ x M n nr nb cs) (hk : k < nb) (hcs : (f :: t) ∈ cs) (hin : k ∈ f :: t) (hrn : r < nr) (hat : M.1 13 k = nI r) (hd : r + 1 < nr) (hz : (canR M nr f t r (r + 1)).2 = 0) (hL : ¬ ∀ d ∈ f :: t, M.1 14 d ≤ M.1 8 r) : az_M l G yL_passes (az_ws yL_passes cL_passes 8 (Option.some FieldType.boolean)) 12 [.ref (ρ.1 0), .int (nI k), .int 1] (AD ρ) (KK G ρ x m ou) 16500 99500 (OkW G ρ ou c nr nb) := by
  refine az_start hG.1 (by decide +kernel) (Nat.le_of_ble_eq_true rfl) ?_
  intro p e s mm args below meth c C hnm
  show az_W l G 8 _ p e _ s mm args below meth c _ _ 0 0 0 [(0, .ref (ρ.1 0)), (1, .int (nI k)), (2, .int 1)] []
  have h := S.1
  have hn6 := h.n6
  have hr := h.xr
  obtain ⟨rl, aC, aP, ef, ek, h4, hnd, hq, hat2, hs⟩ := h.voyF hk hcs hin hrn hat
  refine az_aload_n C 0 dL_passes_0 rfl ?_
  refine az_callS C Y_L_state [.ref (ρ.1 0)] [] wm_L_222 wst_L_state dL_passes_1 rfl (S_state0 (ρ := ρ) (m := m) (ou := ou) hG (by omega) S) rfl (Nat.le_of_ble_eq_true rfl) (Nat.le_of_ble_eq_true rfl) (Nat.le_of_ble_eq_true rfl) (by show _ ≤ 16500; omega) (by show _ ≤ 99500; omega) ?_ (by rintro E ad9 K9 ⟨q9, h9, -⟩; cases h9)
  rintro v9 ad9 K9 ⟨q08, h9, rfl, rfl⟩
  cases h9
  refine az_astore_n C (lv' := [(3, .ref ((rN ρ 0 q08).1 100)), (0, .ref (ρ.1 0)), (1, .int (nI k)), (2, .int 1)]) (j := 3) rfl dL_passes_4 (by decide) rfl ?_
  refine az_aload_n C 1 dL_passes_5 rfl ?_
  refine az_iload_n C 2 dL_passes_6 rfl ?_
  refine az_callH C Y_L_reachOf [.ref (ρ.1 0), .int (nI k)] [] wm_L_170 wst_L_reachOf dL_passes_7 rfl (S_reachOf (ρ := (rN ρ 0 q08)) (x := x) (m := (zP m 0 (stM M nr nb n))) (ou := ou) hG (by omega) S.rN hk hat) rfl (Nat.le_of_ble_eq_true rfl) (Nat.le_of_ble_eq_true rfl) (Nat.le_of_ble_eq_true rfl) (by show _ ≤ 16500; omega) (by show _ ≤ 99500; omega) (az_k1 rfl rfl ?_) (az_k0 rfl)
  refine az_istore C (lv' := [(4, .int (nI r)), (3, .ref ((rN ρ 0 q08).1 100)), (0, .ref (ρ.1 0)), (1, .int (nI k)), (2, .int 1)]) dL_passes_10 (by decide) rfl ?_
  refine az_iload_n C 4 dL_passes_12 rfl ?_
  refine az_if_eq C 23 dL_passes_13 (by decide) (fun q => absurd q (by decide)) (fun _ => ?_)
  refine az_iload C 0 dL_passes_16 rfl ?_
  refine az_iconst C (v := 1) dL_passes_18 (by decide) ?_
  refine az_iadd C dL_passes_19 ?_
  refine az_top (nI (r + 1)) (nI_1 r) ?_
  refine az_goto C 27 dL_passes_20 (by decide) ?_
  refine az_istore C (lv' := [(5, .int (nI (r + 1))), (4, .int (nI r)), (3, .ref ((rN ρ 0 q08).1 100)), (0, .ref (ρ.1 0)), (1, .int (nI k)), (2, .int 1)]) dL_passes_27 (by decide) rfl ?_
  refine az_aload_n C 3 dL_passes_29 rfl ?_
  refine az_iload_n C 4 dL_passes_30 rfl ?_
  refine az_iload_n C 5 dL_passes_31 rfl ?_
  obtain ⟨mc1, ms1, b1, b2, hP1⟩ := pas10_ok (ρ := (rN ρ 0 q08)) (m := (zP m 0 (stM M nr nb n))) (ou := ou) hG (by omega) S.rN hk hcs hin hrn hat hd hz
  have b1 : ρ.2.2.2.1 + mc1 ≤ 16385 := b1
  have b2 : 6 * ρ.2.2.2.1 + ms1 ≤ 98310 := b2
  refine az_callH C Y_L_pass [.ref (ρ.1 0), .int (nI k), .int 1] [] wm_L_255 wst_L_pass dL_passes_32 rfl (hP1) rfl (Nat.le_of_ble_eq_true rfl) (Nat.le_of_ble_eq_true rfl) (Nat.le_of_ble_eq_true rfl) (by show _ ≤ 16500; omega) (by show _ ≤ 99500; omega) ?_ (by rintro E ad9 K9 ⟨a9, C9, h9, -⟩; cases h9)
  rintro v9 ad9 K9 ⟨a19, C19, h9, rfl, rfl, g11, g12, g13, S19⟩
  cases h9
  refine az_istore C (lv' := [(6, .int ((-1003))), (5, .int (nI (r + 1))), (4, .int (nI r)), (3, .ref ((rN ρ 0 q08).1 100)), (0, .ref (ρ.1 0)), (1, .int (nI k)), (2, .int 1)]) dL_passes_35 (by decide) rfl ?_
  refine az_iload C 1 dL_passes_37 rfl ?_
  refine az_if_lt C 51 dL_passes_39 (by decide) (fun q => absurd q (Int32.not_lt.mpr (nI_pos' (by omega)))) (fun _ => ?_)
  refine az_iload C 1 dL_passes_42 rfl ?_
  refine az_aload_n C 4 dL_passes_44 rfl ?_
  refine az_callV C Y_X3_reachCount cX3 0 0 [] [.int (nI (r + 1))] wm_L_157 wi_X3_reachCount wse_X3_reachCount dL_passes_45 rfl rfl rfl (XreachCount hG) rfl (Nat.le_of_ble_eq_true rfl) (Nat.le_of_ble_eq_true rfl) (Nat.le_of_ble_eq_true rfl) (by show _ ≤ 16500; omega) (by show _ ≤ 99500; omega) (az_k1 rfl rfl ?_) (az_k0 rfl)
  refine az_top (nI nr) S19.1.xr ?_
  refine az_icmp_lt C 76 dL_passes_48 (by decide) (fun _ => ?_) (fun q => absurd (Int32.not_le.mp (nlt_nle (show r + 1 < nr by omega) (by omega))) q)
  refine az_iload C 2 dL_passes_76 rfl ?_
  refine az_iload C 1 dL_passes_78 rfl ?_
  refine az_mmin C wm_L_238 wst_min wini_Math wc_min (Nat.le_of_ble_eq_true rfl) (Nat.le_of_ble_eq_true rfl) (by show _ ≤ 16500; omega) (by show _ ≤ 99500; omega) dL_passes_80 ?_
  refine az_top (nI r) (by rw [(lo_hi (r := r) (dst := (r + 1)) (by omega) (by omega)).1, Nat.min_eq_left (by omega)]) ?_
  refine az_istore C (lv' := [(7, .int (nI r)), (6, .int ((-1003))), (5, .int (nI (r + 1))), (4, .int (nI r)), (3, .ref ((rN ρ 0 q08).1 100)), (0, .ref (ρ.1 0)), (1, .int (nI k)), (2, .int 1)]) dL_passes_83 (by decide) rfl ?_
  have ez : (tvX (saveX x) n nr f t r (r + 1)).2 = 0 := (can_eq S (by omega) hrn hd h4 hq).trans hz
  obtain ⟨⟨w1, w2⟩, wi, w3, w4, w5⟩ := tvX_why ez (by omega)
  have ewi : wi = r := by omega
  rw [ewi] at w5
  obtain ⟨f1, f2⟩ := carR_f (y := (tvX (saveX x) n nr f t r (r + 1)).1.1)
  have hrs : (carR (tvX (saveX x) n nr f t r (r + 1)).1.1).1 0 12 = (tryP (saveX x) n nr r true f t).2 := f1.trans (tv1_why ez)
  have h0 : ¬ (carR (tvX (saveX x) n nr f t r (r + 1)).1.1).1 0 12 = 0 := fun z => by rw [f1] at z; rw [z] at w1; exact absurd w1 (by decide)
  have hlock : (carR (tvX (saveX x) n nr f t r (r + 1)).1.1).1 0 13 = nI r := f2.trans w5
  have t1 := try_1 (dn := true) (lk := r) S (by omega) hq
  have hu : (carR (tvX (saveX x) n nr f t r (r + 1)).1.1).1 0 12 = 1 := hrs.trans (t1.mpr hL)
  have e14 : ∀ d, (endsM (sailM nr f t (r + 1) 6 (keepsM M) r 0).1 3).1 14 d = M.1 14 d := fun d => endM_p (by omega)
  have e8 : (endsM (sailM nr f t (r + 1) 6 (keepsM M) r 0).1 3).1 8 r = M.1 8 r := endM_p (by omega)
  have hat' : (endsM (sailM nr f t (r + 1) 6 (keepsM M) r 0).1 3).1 13 k = nI r := (S19.at4 hk).symm.trans ((show (carR (tvX (saveX x) n nr f t r (r + 1)).1.1).2.1 k 4 = x.2.1 k 4 from congrFun (congrFun (congrArg Prod.fst (crX_x (x := x) (n := n) (nr := nr) (f := f) (r := r) (dst := (r + 1)) (t := t))) k) 4).trans ((S.at4 hk).trans hat))
  have eS := stM_ref (M := M) S hrn hd S19
  refine az_iload C 1 dL_passes_85 rfl ?_
  refine az_if_ge C 158 dL_passes_87 (by decide) (fun q => absurd q (by decide)) (fun _ => ?_)
  refine az_iload C 1 dL_passes_90 rfl ?_
  refine az_sipush C (v := (-1003)) dL_passes_92 (by decide) ?_
  refine az_icmp_ne C 156 dL_passes_95 (by decide) (fun q => absurd (by decide) q) (fun _ => ?_)
  refine az_aload_n C 4 dL_passes_98 rfl ?_
  refine az_aload_n C 5 dL_passes_99 rfl ?_
  refine az_callS C Y_L_state [.ref (ρ.1 0)] [.ref ((rN ρ 0 q08).1 100)] wm_L_222 wst_L_state dL_passes_100 rfl (S_state1 (ρ := (gR (rN ρ 0 q08) a19 C19)) (m := (zP m 0 (stM M nr nb n))) (ou := ou) hG (by omega) S19) rfl (Nat.le_of_ble_eq_true rfl) (Nat.le_of_ble_eq_true rfl) (Nat.le_of_ble_eq_true rfl) (by show _ ≤ 16500; omega) (by show _ ≤ 99500; omega) ?_ (by rintro E ad9 K9 ⟨q9, h9, -⟩; cases h9)
  rintro v9 ad9 K9 ⟨q18, h9, rfl, rfl⟩
  cases h9
  rw [eS]
  refine az_callS C Y_L_same [.ref ((rN ρ 0 q08).1 100), .ref ((rN (gR (rN ρ 0 q08) a19 C19) 1 q18).1 101)] [] wm_L_232 wst_L_same dL_passes_103 rfl (S_same (ρ := (rN (gR (rN ρ 0 q08) a19 C19) 1 q18)) (x := (carR (tvX (saveX x) n nr f t r (r + 1)).1.1)) (m := m) (ou := ou) (A := stM M nr nb n) hG) rfl (Nat.le_of_ble_eq_true rfl) (Nat.le_of_ble_eq_true rfl) (Nat.le_of_ble_eq_true rfl) (by show _ ≤ 16500; omega) (by show _ ≤ 99500; omega) (az_k1 rfl rfl ?_) (az_k0 rfl)
  refine az_if_eq C 156 dL_passes_106 (by decide) (fun q => absurd q (by decide)) (fun _ => ?_)
  refine az_aload_n C 5 dL_passes_109 rfl ?_
  refine az_callH C Y_L_refusalLock [.ref (ρ.1 0)] [] wm_L_253 wst_L_refusalLock dL_passes_110 rfl (S_refusalLock (ρ := (rN (gR (rN ρ 0 q08) a19 C19) 1 q18)) (x := (carR (tvX (saveX x) n nr f t r (r + 1)).1.1)) (m := (zP (zP m 0 (stM M nr nb n)) 1 (stM M nr nb n))) (ou := ou) hG h0 hlock) rfl (Nat.le_of_ble_eq_true rfl) (Nat.le_of_ble_eq_true rfl) (Nat.le_of_ble_eq_true rfl) (by show _ ≤ 16500; omega) (by show _ ≤ 99500; omega) (az_k1 rfl rfl ?_) (az_k0 rfl)
  refine az_iload C 0 dL_passes_113 rfl ?_
  refine az_icmp_ne C 156 dL_passes_115 (by decide) (fun q => absurd rfl q) (fun _ => ?_)
  refine az_aload_n C 5 dL_passes_118 rfl ?_
  refine az_callH C Y_L_refusalReason [.ref (ρ.1 0)] [] wm_L_250 wst_L_refusalReason dL_passes_119 rfl (S_refusalReason (ρ := (rN (gR (rN ρ 0 q08) a19 C19) 1 q18)) (x := (carR (tvX (saveX x) n nr f t r (r + 1)).1.1)) (m := (zP (zP m 0 (stM M nr nb n)) 1 (stM M nr nb n))) (ou := ou) hG h0 hu) rfl (Nat.le_of_ble_eq_true rfl) (Nat.le_of_ble_eq_true rfl) (Nat.le_of_ble_eq_true rfl) (by show _ ≤ 16500; omega) (by show _ ≤ 99500; omega) (az_k1 rfl rfl ?_) (az_k0 rfl)
  refine az_iconst C (v := 1) dL_passes_122 (by decide) ?_
  refine az_icmp_ne C 130 dL_passes_123 (by decide) (fun q => absurd (by decide) q) (fun _ => ?_)
  refine az_iconst C (v := 1) dL_passes_126 (by decide) ?_
  refine az_goto C 131 dL_passes_127 (by decide) ?_
  refine az_aload_n C 5 dL_passes_131 rfl ?_
  refine az_iload_n C 6 dL_passes_132 rfl ?_
  refine az_iload C 0 dL_passes_133 rfl ?_
  refine az_callH C Y_L_partsFor [.ref (ρ.1 0), .int (nI k), .int (nI r)] [.int 1] wm_L_246 wst_L_partsFor dL_passes_135 rfl (S_parts1 (ρ := (rN (gR (rN ρ 0 q08) a19 C19) 1 q18)) (x := (carR (tvX (saveX x) n nr f t r (r + 1)).1.1)) (m := (zP (zP m 0 (stM M nr nb n)) 1 (stM M nr nb n))) (ou := ou) hG (by omega) S19.rN hk hcs hin hrn hat' (lk := r) (by omega) (fun z => hL (fun d hd => by have := z d hd; rw [e14, e8] at this; exact this))) rfl (Nat.le_of_ble_eq_true rfl) (Nat.le_of_ble_eq_true rfl) (Nat.le_of_ble_eq_true rfl) (by show _ ≤ 16500; omega) (by show _ ≤ 99500; omega) (az_k1 rfl rfl ?_) (az_k0 rfl)
  refine az_sipush C (v := (-1002)) dL_passes_138 (by decide) ?_
  refine az_icmp_ne C 148 dL_passes_141 (by decide) (fun q => absurd (by decide) q) (fun _ => ?_)
  refine az_iconst C (v := 1) dL_passes_144 (by decide) ?_
  refine az_goto C 149 dL_passes_145 (by decide) ?_
  refine az_icmp_ne C 156 dL_passes_149 (by decide) (fun q => absurd (by decide) q) (fun _ => ?_)
  refine az_iconst C (v := 1) dL_passes_152 (by decide) ?_
  refine az_goto C 157 dL_passes_153 (by decide) ?_
  exact az_zret C .boolean rfl rfl dL_passes_157 (by show _ ≤ 16500; omega) (by show _ ≤ 99500; omega) ⟨_, _, _, _, _, _, rfl, rfl, rfl, rfl, S19.rN⟩

set_option maxHeartbeats 4000000 in
set_option maxRecDepth 100000 in
theorem XpasR1b (hG : az_okS l G) (hc : c ≤ 62) (S : ST c ρ x M n nr nb cs) (hk : k < nb) (hcs : (f :: t) ∈ cs) (hin : k ∈ f :: t) (hrn : r < nr) (hat : M.1 13 k = nI r) (hd : r + 1 < nr) (hz : (canR M nr f t r (r + 1)).2 = 0) (hL : ∀ d ∈ f :: t, M.1 14 d ≤ M.1 8 r) : az_M l G yL_passes (az_ws yL_passes cL_passes 8 (Option.some FieldType.boolean)) 12 [.ref (ρ.1 0), .int (nI k), .int 1] (AD ρ) (KK G ρ x m ou) 16500 99500 (OkW G ρ ou c nr nb) := by
  refine az_start hG.1 (by decide +kernel) (Nat.le_of_ble_eq_true rfl) ?_
  intro p e s mm args below meth c C hnm
  show az_W l G 8 _ p e _ s mm args below meth c _ _ 0 0 0 [(0, .ref (ρ.1 0)), (1, .int (nI k)), (2, .int 1)] []
  have h := S.1
  have hn6 := h.n6
  have hr := h.xr
  obtain ⟨rl, aC, aP, ef, ek, h4, hnd, hq, hat2, hs⟩ := h.voyF hk hcs hin hrn hat
  refine az_aload_n C 0 dL_passes_0 rfl ?_
  refine az_callS C Y_L_state [.ref (ρ.1 0)] [] wm_L_222 wst_L_state dL_passes_1 rfl (S_state0 (ρ := ρ) (m := m) (ou := ou) hG (by omega) S) rfl (Nat.le_of_ble_eq_true rfl) (Nat.le_of_ble_eq_true rfl) (Nat.le_of_ble_eq_true rfl) (by show _ ≤ 16500; omega) (by show _ ≤ 99500; omega) ?_ (by rintro E ad9 K9 ⟨q9, h9, -⟩; cases h9)
  rintro v9 ad9 K9 ⟨q08, h9, rfl, rfl⟩
  cases h9
  refine az_astore_n C (lv' := [(3, .ref ((rN ρ 0 q08).1 100)), (0, .ref (ρ.1 0)), (1, .int (nI k)), (2, .int 1)]) (j := 3) rfl dL_passes_4 (by decide) rfl ?_
  refine az_aload_n C 1 dL_passes_5 rfl ?_
  refine az_iload_n C 2 dL_passes_6 rfl ?_
  refine az_callH C Y_L_reachOf [.ref (ρ.1 0), .int (nI k)] [] wm_L_170 wst_L_reachOf dL_passes_7 rfl (S_reachOf (ρ := (rN ρ 0 q08)) (x := x) (m := (zP m 0 (stM M nr nb n))) (ou := ou) hG (by omega) S.rN hk hat) rfl (Nat.le_of_ble_eq_true rfl) (Nat.le_of_ble_eq_true rfl) (Nat.le_of_ble_eq_true rfl) (by show _ ≤ 16500; omega) (by show _ ≤ 99500; omega) (az_k1 rfl rfl ?_) (az_k0 rfl)
  refine az_istore C (lv' := [(4, .int (nI r)), (3, .ref ((rN ρ 0 q08).1 100)), (0, .ref (ρ.1 0)), (1, .int (nI k)), (2, .int 1)]) dL_passes_10 (by decide) rfl ?_
  refine az_iload_n C 4 dL_passes_12 rfl ?_
  refine az_if_eq C 23 dL_passes_13 (by decide) (fun q => absurd q (by decide)) (fun _ => ?_)
  refine az_iload C 0 dL_passes_16 rfl ?_
  refine az_iconst C (v := 1) dL_passes_18 (by decide) ?_
  refine az_iadd C dL_passes_19 ?_
  refine az_top (nI (r + 1)) (nI_1 r) ?_
  refine az_goto C 27 dL_passes_20 (by decide) ?_
  refine az_istore C (lv' := [(5, .int (nI (r + 1))), (4, .int (nI r)), (3, .ref ((rN ρ 0 q08).1 100)), (0, .ref (ρ.1 0)), (1, .int (nI k)), (2, .int 1)]) dL_passes_27 (by decide) rfl ?_
  refine az_aload_n C 3 dL_passes_29 rfl ?_
  refine az_iload_n C 4 dL_passes_30 rfl ?_
  refine az_iload_n C 5 dL_passes_31 rfl ?_
  obtain ⟨mc1, ms1, b1, b2, hP1⟩ := pas10_ok (ρ := (rN ρ 0 q08)) (m := (zP m 0 (stM M nr nb n))) (ou := ou) hG (by omega) S.rN hk hcs hin hrn hat hd hz
  have b1 : ρ.2.2.2.1 + mc1 ≤ 16385 := b1
  have b2 : 6 * ρ.2.2.2.1 + ms1 ≤ 98310 := b2
  refine az_callH C Y_L_pass [.ref (ρ.1 0), .int (nI k), .int 1] [] wm_L_255 wst_L_pass dL_passes_32 rfl (hP1) rfl (Nat.le_of_ble_eq_true rfl) (Nat.le_of_ble_eq_true rfl) (Nat.le_of_ble_eq_true rfl) (by show _ ≤ 16500; omega) (by show _ ≤ 99500; omega) ?_ (by rintro E ad9 K9 ⟨a9, C9, h9, -⟩; cases h9)
  rintro v9 ad9 K9 ⟨a19, C19, h9, rfl, rfl, g11, g12, g13, S19⟩
  cases h9
  refine az_istore C (lv' := [(6, .int ((-1003))), (5, .int (nI (r + 1))), (4, .int (nI r)), (3, .ref ((rN ρ 0 q08).1 100)), (0, .ref (ρ.1 0)), (1, .int (nI k)), (2, .int 1)]) dL_passes_35 (by decide) rfl ?_
  refine az_iload C 1 dL_passes_37 rfl ?_
  refine az_if_lt C 51 dL_passes_39 (by decide) (fun q => absurd q (Int32.not_lt.mpr (nI_pos' (by omega)))) (fun _ => ?_)
  refine az_iload C 1 dL_passes_42 rfl ?_
  refine az_aload_n C 4 dL_passes_44 rfl ?_
  refine az_callV C Y_X3_reachCount cX3 0 0 [] [.int (nI (r + 1))] wm_L_157 wi_X3_reachCount wse_X3_reachCount dL_passes_45 rfl rfl rfl (XreachCount hG) rfl (Nat.le_of_ble_eq_true rfl) (Nat.le_of_ble_eq_true rfl) (Nat.le_of_ble_eq_true rfl) (by show _ ≤ 16500; omega) (by show _ ≤ 99500; omega) (az_k1 rfl rfl ?_) (az_k0 rfl)
  refine az_top (nI nr) S19.1.xr ?_
  refine az_icmp_lt C 76 dL_passes_48 (by decide) (fun _ => ?_) (fun q => absurd (Int32.not_le.mp (nlt_nle (show r + 1 < nr by omega) (by omega))) q)
  refine az_iload C 2 dL_passes_76 rfl ?_
  refine az_iload C 1 dL_passes_78 rfl ?_
  refine az_mmin C wm_L_238 wst_min wini_Math wc_min (Nat.le_of_ble_eq_true rfl) (Nat.le_of_ble_eq_true rfl) (by show _ ≤ 16500; omega) (by show _ ≤ 99500; omega) dL_passes_80 ?_
  refine az_top (nI r) (by rw [(lo_hi (r := r) (dst := (r + 1)) (by omega) (by omega)).1, Nat.min_eq_left (by omega)]) ?_
  refine az_istore C (lv' := [(7, .int (nI r)), (6, .int ((-1003))), (5, .int (nI (r + 1))), (4, .int (nI r)), (3, .ref ((rN ρ 0 q08).1 100)), (0, .ref (ρ.1 0)), (1, .int (nI k)), (2, .int 1)]) dL_passes_83 (by decide) rfl ?_
  have ez : (tvX (saveX x) n nr f t r (r + 1)).2 = 0 := (can_eq S (by omega) hrn hd h4 hq).trans hz
  obtain ⟨⟨w1, w2⟩, wi, w3, w4, w5⟩ := tvX_why ez (by omega)
  have ewi : wi = r := by omega
  rw [ewi] at w5
  obtain ⟨f1, f2⟩ := carR_f (y := (tvX (saveX x) n nr f t r (r + 1)).1.1)
  have hrs : (carR (tvX (saveX x) n nr f t r (r + 1)).1.1).1 0 12 = (tryP (saveX x) n nr r true f t).2 := f1.trans (tv1_why ez)
  have h0 : ¬ (carR (tvX (saveX x) n nr f t r (r + 1)).1.1).1 0 12 = 0 := fun z => by rw [f1] at z; rw [z] at w1; exact absurd w1 (by decide)
  have hlock : (carR (tvX (saveX x) n nr f t r (r + 1)).1.1).1 0 13 = nI r := f2.trans w5
  have t1 := try_1 (dn := true) (lk := r) S (by omega) hq
  obtain ⟨u8, hu⟩ : ∃ u : Int32, (carR (tvX (saveX x) n nr f t r (r + 1)).1.1).1 0 12 = u := ⟨_, rfl⟩
  have hu1 : ¬ u8 = 1 := fun z => t1.mp ((hrs.symm.trans hu).trans z) hL
  have e14 : ∀ d, (endsM (sailM nr f t (r + 1) 6 (keepsM M) r 0).1 3).1 14 d = M.1 14 d := fun d => endM_p (by omega)
  have e8 : (endsM (sailM nr f t (r + 1) 6 (keepsM M) r 0).1 3).1 8 r = M.1 8 r := endM_p (by omega)
  have hat' : (endsM (sailM nr f t (r + 1) 6 (keepsM M) r 0).1 3).1 13 k = nI r := (S19.at4 hk).symm.trans ((show (carR (tvX (saveX x) n nr f t r (r + 1)).1.1).2.1 k 4 = x.2.1 k 4 from congrFun (congrFun (congrArg Prod.fst (crX_x (x := x) (n := n) (nr := nr) (f := f) (r := r) (dst := (r + 1)) (t := t))) k) 4).trans ((S.at4 hk).trans hat))
  have eS := stM_ref (M := M) S hrn hd S19
  refine az_iload C 1 dL_passes_85 rfl ?_
  refine az_if_ge C 158 dL_passes_87 (by decide) (fun q => absurd q (by decide)) (fun _ => ?_)
  refine az_iload C 1 dL_passes_90 rfl ?_
  refine az_sipush C (v := (-1003)) dL_passes_92 (by decide) ?_
  refine az_icmp_ne C 156 dL_passes_95 (by decide) (fun q => absurd (by decide) q) (fun _ => ?_)
  refine az_aload_n C 4 dL_passes_98 rfl ?_
  refine az_aload_n C 5 dL_passes_99 rfl ?_
  refine az_callS C Y_L_state [.ref (ρ.1 0)] [.ref ((rN ρ 0 q08).1 100)] wm_L_222 wst_L_state dL_passes_100 rfl (S_state1 (ρ := (gR (rN ρ 0 q08) a19 C19)) (m := (zP m 0 (stM M nr nb n))) (ou := ou) hG (by omega) S19) rfl (Nat.le_of_ble_eq_true rfl) (Nat.le_of_ble_eq_true rfl) (Nat.le_of_ble_eq_true rfl) (by show _ ≤ 16500; omega) (by show _ ≤ 99500; omega) ?_ (by rintro E ad9 K9 ⟨q9, h9, -⟩; cases h9)
  rintro v9 ad9 K9 ⟨q18, h9, rfl, rfl⟩
  cases h9
  rw [eS]
  refine az_callS C Y_L_same [.ref ((rN ρ 0 q08).1 100), .ref ((rN (gR (rN ρ 0 q08) a19 C19) 1 q18).1 101)] [] wm_L_232 wst_L_same dL_passes_103 rfl (S_same (ρ := (rN (gR (rN ρ 0 q08) a19 C19) 1 q18)) (x := (carR (tvX (saveX x) n nr f t r (r + 1)).1.1)) (m := m) (ou := ou) (A := stM M nr nb n) hG) rfl (Nat.le_of_ble_eq_true rfl) (Nat.le_of_ble_eq_true rfl) (Nat.le_of_ble_eq_true rfl) (by show _ ≤ 16500; omega) (by show _ ≤ 99500; omega) (az_k1 rfl rfl ?_) (az_k0 rfl)
  refine az_if_eq C 156 dL_passes_106 (by decide) (fun q => absurd q (by decide)) (fun _ => ?_)
  refine az_aload_n C 5 dL_passes_109 rfl ?_
  refine az_callH C Y_L_refusalLock [.ref (ρ.1 0)] [] wm_L_253 wst_L_refusalLock dL_passes_110 rfl (S_refusalLock (ρ := (rN (gR (rN ρ 0 q08) a19 C19) 1 q18)) (x := (carR (tvX (saveX x) n nr f t r (r + 1)).1.1)) (m := (zP (zP m 0 (stM M nr nb n)) 1 (stM M nr nb n))) (ou := ou) hG h0 hlock) rfl (Nat.le_of_ble_eq_true rfl) (Nat.le_of_ble_eq_true rfl) (Nat.le_of_ble_eq_true rfl) (by show _ ≤ 16500; omega) (by show _ ≤ 99500; omega) (az_k1 rfl rfl ?_) (az_k0 rfl)
  refine az_iload C 0 dL_passes_113 rfl ?_
  refine az_icmp_ne C 156 dL_passes_115 (by decide) (fun q => absurd rfl q) (fun _ => ?_)
  refine az_aload_n C 5 dL_passes_118 rfl ?_
  refine az_callH C Y_L_refusalReason [.ref (ρ.1 0)] [] wm_L_250 wst_L_refusalReason dL_passes_119 rfl (S_refusalReason (ρ := (rN (gR (rN ρ 0 q08) a19 C19) 1 q18)) (x := (carR (tvX (saveX x) n nr f t r (r + 1)).1.1)) (m := (zP (zP m 0 (stM M nr nb n)) 1 (stM M nr nb n))) (ou := ou) hG h0 hu) rfl (Nat.le_of_ble_eq_true rfl) (Nat.le_of_ble_eq_true rfl) (Nat.le_of_ble_eq_true rfl) (by show _ ≤ 16500; omega) (by show _ ≤ 99500; omega) (az_k1 rfl rfl ?_) (az_k0 rfl)
  refine az_iconst C (v := 1) dL_passes_122 (by decide) ?_
  refine az_icmp_ne C 130 dL_passes_123 (by decide) (fun _ => ?_) (fun q => absurd q hu1)
  refine az_iconst C (v := 0) dL_passes_130 (by decide) ?_
  refine az_aload_n C 5 dL_passes_131 rfl ?_
  refine az_iload_n C 6 dL_passes_132 rfl ?_
  refine az_iload C 0 dL_passes_133 rfl ?_
  refine az_callH C Y_L_partsFor [.ref (ρ.1 0), .int (nI k), .int (nI r)] [.int 0] wm_L_246 wst_L_partsFor dL_passes_135 rfl (S_parts2 (ρ := (rN (gR (rN ρ 0 q08) a19 C19) 1 q18)) (x := (carR (tvX (saveX x) n nr f t r (r + 1)).1.1)) (m := (zP (zP m 0 (stM M nr nb n)) 1 (stM M nr nb n))) (ou := ou) hG (by omega) S19.rN hk hcs hin hrn hat' (lk := r) (by omega) (fun d hd => by rw [e14, e8]; exact hL d hd)) rfl (Nat.le_of_ble_eq_true rfl) (Nat.le_of_ble_eq_true rfl) (Nat.le_of_ble_eq_true rfl) (by show _ ≤ 16500; omega) (by show _ ≤ 99500; omega) (az_k1 rfl rfl ?_) (az_k0 rfl)
  refine az_sipush C (v := (-1002)) dL_passes_138 (by decide) ?_
  refine az_icmp_ne C 148 dL_passes_141 (by decide) (fun _ => ?_) (fun q => absurd q (nI_n1002 (by have := ptM_le (m := (endsM (sailM nr f t (r + 1) 6 (keepsM M) r 0).1 3)) (lk := r) (t.length + 1) (f :: t); omega)))
  refine az_iconst C (v := 0) dL_passes_148 (by decide) ?_
  refine az_icmp_ne C 156 dL_passes_149 (by decide) (fun q => absurd (by decide) q) (fun _ => ?_)
  refine az_iconst C (v := 1) dL_passes_152 (by decide) ?_
  refine az_goto C 157 dL_passes_153 (by decide) ?_
  exact az_zret C .boolean rfl rfl dL_passes_157 (by show _ ≤ 16500; omega) (by show _ ≤ 99500; omega) ⟨_, _, _, _, _, _, rfl, rfl, rfl, rfl, S19.rN⟩

set_option maxHeartbeats 4000000 in
set_option maxRecDepth 100000 in
theorem XpasD1 (hG : az_okS l G) (hc : c ≤ 62) (S : ST c ρ x M n nr nb cs) (hk : k < nb) (hcs : (f :: t) ∈ cs) (hin : k ∈ f :: t) (hrn : r < nr) (hat : M.1 13 k = nI r) (hd : r + 1 < nr) (hz : ¬ (canR M nr f t r (r + 1)).2 = 0) : az_M l G yL_passes (az_ws yL_passes cL_passes 8 (Option.some FieldType.boolean)) 12 [.ref (ρ.1 0), .int (nI k), .int 1] (AD ρ) (KK G ρ x m ou) 16500 99500 (OkW G ρ ou (c + 1) nr nb) := by
  refine az_start hG.1 (by decide +kernel) (Nat.le_of_ble_eq_true rfl) ?_
  intro p e s mm args below meth c C hnm
  show az_W l G 8 _ p e _ s mm args below meth c _ _ 0 0 0 [(0, .ref (ρ.1 0)), (1, .int (nI k)), (2, .int 1)] []
  have h := S.1
  have hn6 := h.n6
  have hr := h.xr
  obtain ⟨rl, aC, aP, ef, ek, h4, hnd, hq, hat2, hs⟩ := h.voyF hk hcs hin hrn hat
  refine az_aload_n C 0 dL_passes_0 rfl ?_
  refine az_callS C Y_L_state [.ref (ρ.1 0)] [] wm_L_222 wst_L_state dL_passes_1 rfl (S_state0 (ρ := ρ) (m := m) (ou := ou) hG (by omega) S) rfl (Nat.le_of_ble_eq_true rfl) (Nat.le_of_ble_eq_true rfl) (Nat.le_of_ble_eq_true rfl) (by show _ ≤ 16500; omega) (by show _ ≤ 99500; omega) ?_ (by rintro E ad9 K9 ⟨q9, h9, -⟩; cases h9)
  rintro v9 ad9 K9 ⟨q08, h9, rfl, rfl⟩
  cases h9
  refine az_astore_n C (lv' := [(3, .ref ((rN ρ 0 q08).1 100)), (0, .ref (ρ.1 0)), (1, .int (nI k)), (2, .int 1)]) (j := 3) rfl dL_passes_4 (by decide) rfl ?_
  refine az_aload_n C 1 dL_passes_5 rfl ?_
  refine az_iload_n C 2 dL_passes_6 rfl ?_
  refine az_callH C Y_L_reachOf [.ref (ρ.1 0), .int (nI k)] [] wm_L_170 wst_L_reachOf dL_passes_7 rfl (S_reachOf (ρ := (rN ρ 0 q08)) (x := x) (m := (zP m 0 (stM M nr nb n))) (ou := ou) hG (by omega) S.rN hk hat) rfl (Nat.le_of_ble_eq_true rfl) (Nat.le_of_ble_eq_true rfl) (Nat.le_of_ble_eq_true rfl) (by show _ ≤ 16500; omega) (by show _ ≤ 99500; omega) (az_k1 rfl rfl ?_) (az_k0 rfl)
  refine az_istore C (lv' := [(4, .int (nI r)), (3, .ref ((rN ρ 0 q08).1 100)), (0, .ref (ρ.1 0)), (1, .int (nI k)), (2, .int 1)]) dL_passes_10 (by decide) rfl ?_
  refine az_iload_n C 4 dL_passes_12 rfl ?_
  refine az_if_eq C 23 dL_passes_13 (by decide) (fun q => absurd q (by decide)) (fun _ => ?_)
  refine az_iload C 0 dL_passes_16 rfl ?_
  refine az_iconst C (v := 1) dL_passes_18 (by decide) ?_
  refine az_iadd C dL_passes_19 ?_
  refine az_top (nI (r + 1)) (nI_1 r) ?_
  refine az_goto C 27 dL_passes_20 (by decide) ?_
  refine az_istore C (lv' := [(5, .int (nI (r + 1))), (4, .int (nI r)), (3, .ref ((rN ρ 0 q08).1 100)), (0, .ref (ρ.1 0)), (1, .int (nI k)), (2, .int 1)]) dL_passes_27 (by decide) rfl ?_
  refine az_aload_n C 3 dL_passes_29 rfl ?_
  refine az_iload_n C 4 dL_passes_30 rfl ?_
  refine az_iload_n C 5 dL_passes_31 rfl ?_
  obtain ⟨mc1, ms1, b1, b2, hP1⟩ := pas12_ok (ρ := (rN ρ 0 q08)) (m := (zP m 0 (stM M nr nb n))) (ou := ou) hG (by omega) S.rN hk hcs hin hrn hat hd hz
  have b1 : ρ.2.2.2.1 + mc1 ≤ 16385 := b1
  have b2 : 6 * ρ.2.2.2.1 + ms1 ≤ 98310 := b2
  refine az_callH C Y_L_pass [.ref (ρ.1 0), .int (nI k), .int 1] [] wm_L_255 wst_L_pass dL_passes_32 rfl (hP1) rfl (Nat.le_of_ble_eq_true rfl) (Nat.le_of_ble_eq_true rfl) (Nat.le_of_ble_eq_true rfl) (by show _ ≤ 16500; omega) (by show _ ≤ 99500; omega) ?_ (by rintro E ad9 K9 ⟨a9, C9, h9, -⟩; cases h9)
  rintro v9 ad9 K9 ⟨a19, C19, h9, rfl, rfl, g11, g12, g13, S19⟩
  cases h9
  refine az_istore C (lv' := [(6, .int ((nI (smV M f t r (r + 1))))), (5, .int (nI (r + 1))), (4, .int (nI r)), (3, .ref ((rN ρ 0 q08).1 100)), (0, .ref (ρ.1 0)), (1, .int (nI k)), (2, .int 1)]) dL_passes_35 (by decide) rfl ?_
  refine az_iload C 1 dL_passes_37 rfl ?_
  refine az_if_lt C 51 dL_passes_39 (by decide) (fun q => absurd q (Int32.not_lt.mpr (nI_pos' (by omega)))) (fun _ => ?_)
  refine az_iload C 1 dL_passes_42 rfl ?_
  refine az_aload_n C 4 dL_passes_44 rfl ?_
  refine az_callV C Y_X3_reachCount cX3 0 0 [] [.int (nI (r + 1))] wm_L_157 wi_X3_reachCount wse_X3_reachCount dL_passes_45 rfl rfl rfl (XreachCount hG) rfl (Nat.le_of_ble_eq_true rfl) (Nat.le_of_ble_eq_true rfl) (Nat.le_of_ble_eq_true rfl) (by show _ ≤ 16500; omega) (by show _ ≤ 99500; omega) (az_k1 rfl rfl ?_) (az_k0 rfl)
  refine az_top (nI nr) S19.1.xr ?_
  refine az_icmp_lt C 76 dL_passes_48 (by decide) (fun _ => ?_) (fun q => absurd (Int32.not_le.mp (nlt_nle (show r + 1 < nr by omega) (by omega))) q)
  refine az_iload C 2 dL_passes_76 rfl ?_
  refine az_iload C 1 dL_passes_78 rfl ?_
  refine az_mmin C wm_L_238 wst_min wini_Math wc_min (Nat.le_of_ble_eq_true rfl) (Nat.le_of_ble_eq_true rfl) (by show _ ≤ 16500; omega) (by show _ ≤ 99500; omega) dL_passes_80 ?_
  refine az_top (nI r) (by rw [(lo_hi (r := r) (dst := (r + 1)) (by omega) (by omega)).1, Nat.min_eq_left (by omega)]) ?_
  refine az_istore C (lv' := [(7, .int (nI r)), (6, .int ((nI (smV M f t r (r + 1))))), (5, .int (nI (r + 1))), (4, .int (nI r)), (3, .ref ((rN ρ 0 q08).1 100)), (0, .ref (ρ.1 0)), (1, .int (nI k)), (2, .int 1)]) dL_passes_83 (by decide) rfl ?_
  have eS := sail_1p (nr := nr) (f := f) (t := t) (m := keepsM M) (r := r)
  have nz := can_no hz (by omega)
  rw [eS] at nz
  have hb := smV_bd (m := M) (f := f) (t := t) (r := r) (dst := (r + 1)) hn6 hrn hd (by omega) (by omega)
  have hat' : (sailM nr f t (r + 1) 6 (keepsM M) r 0).1.1 13 k = nI (r + 1) := (S19.at4 hk).symm.trans (by rw [atX_4, if_pos ⟨rfl, hin⟩])
  have e14 : ∀ d, (sailM nr f t (r + 1) 6 (keepsM M) r 0).1.1 14 d = M.1 14 d := fun d => by rw [eS]; exact pasM_p (by omega)
  have e8 : (sailM nr f t (r + 1) 6 (keepsM M) r 0).1.1 8 r = M.1 8 r := by rw [eS]; exact pasM_p (by omega)
  have hL := pas_le nz
  have hfl := passM_fl nz
  have efu : fuM (sailM nr f t (r + 1) 6 (keepsM M) r 0).1 r = 0 := by rw [eS]; exact if_pos (hfl.1 rfl)
  refine az_iload C 1 dL_passes_85 rfl ?_
  refine az_if_ge C 158 dL_passes_87 (by decide) (fun _ => ?_) (fun q => absurd (nI_pos' (by omega)) q)
  refine az_iload C 1 dL_passes_158 rfl ?_
  refine az_aload_n C 5 dL_passes_160 rfl ?_
  refine az_iload_n C 6 dL_passes_161 rfl ?_
  refine az_iload C 0 dL_passes_162 rfl ?_
  refine az_callH C Y_L_partsFor [.ref (ρ.1 0), .int (nI k), .int (nI r)] [.int ((nI (smV M f t r (r + 1))))] wm_L_246 wst_L_partsFor dL_passes_164 rfl (S_parts2 (ρ := (gR (rN ρ 0 q08) a19 C19)) (x := (atX (nI (r + 1)) (tvX (saveX x) n nr f t r (r + 1)).1.1 (f :: t))) (m := (zP m 0 (stM M nr nb n))) (ou := ou) hG (by omega) S19 hk hcs hin hd hat' (lk := r) (by omega) (fun d hd => by rw [e14, e8]; exact hL d hd)) rfl (Nat.le_of_ble_eq_true rfl) (Nat.le_of_ble_eq_true rfl) (Nat.le_of_ble_eq_true rfl) (by show _ ≤ 16500; omega) (by show _ ≤ 99500; omega) (az_k1 rfl rfl ?_) (az_k0 rfl)
  refine az_icmp_ne C 202 dL_passes_167 (by decide) (fun q => absurd (by rw [smV_1, ptM_eq e8 e14]) q) (fun _ => ?_)
  refine az_aload_n C 5 dL_passes_170 rfl ?_
  refine az_iload_n C 6 dL_passes_171 rfl ?_
  refine az_callH C Y_L_reachOf [.ref (ρ.1 0), .int (nI k)] [] wm_L_170 wst_L_reachOf dL_passes_172 rfl (S_reachOf (ρ := (gR (rN ρ 0 q08) a19 C19)) (x := (atX (nI (r + 1)) (tvX (saveX x) n nr f t r (r + 1)).1.1 (f :: t))) (m := (zP m 0 (stM M nr nb n))) (ou := ou) hG (by omega) S19 hk hat') rfl (Nat.le_of_ble_eq_true rfl) (Nat.le_of_ble_eq_true rfl) (Nat.le_of_ble_eq_true rfl) (by show _ ≤ 16500; omega) (by show _ ≤ 99500; omega) (az_k1 rfl rfl ?_) (az_k0 rfl)
  refine az_iload C 2 dL_passes_175 rfl ?_
  refine az_icmp_ne C 202 dL_passes_177 (by decide) (fun q => absurd rfl q) (fun _ => ?_)
  refine az_aload_n C 5 dL_passes_180 rfl ?_
  refine az_iload C 0 dL_passes_181 rfl ?_
  refine az_callH C Y_L_isFull [.ref (ρ.1 0), .int (nI r)] [] wm_L_163 wst_L_isFull dL_passes_183 rfl (S_isFull (ρ := (gR (rN ρ 0 q08) a19 C19)) (x := (atX (nI (r + 1)) (tvX (saveX x) n nr f t r (r + 1)).1.1 (f :: t))) (m := (zP m 0 (stM M nr nb n))) (ou := ou) hG (by omega) S19 (k := r) (by omega)) rfl (Nat.le_of_ble_eq_true rfl) (Nat.le_of_ble_eq_true rfl) (Nat.le_of_ble_eq_true rfl) (by show _ ≤ 16500; omega) (by show _ ≤ 99500; omega) (az_k1 rfl rfl ?_) (az_k0 rfl)
  refine az_top (0) efu ?_
  refine az_iload_n C 7 dL_passes_186 rfl ?_
  refine az_if_eq C 194 dL_passes_187 (by decide) (fun q => absurd q (by decide)) (fun _ => ?_)
  refine az_iconst C (v := 0) dL_passes_190 (by decide) ?_
  refine az_goto C 195 dL_passes_191 (by decide) ?_
  refine az_icmp_ne C 202 dL_passes_195 (by decide) (fun q => absurd (by decide) q) (fun _ => ?_)
  refine az_iconst C (v := 1) dL_passes_198 (by decide) ?_
  refine az_goto C 203 dL_passes_199 (by decide) ?_
  exact az_zret C .boolean rfl rfl dL_passes_203 (by show _ ≤ 16500; omega) (by show _ ≤ 99500; omega) ⟨_, _, _, _, _, _, rfl, rfl, rfl, rfl, S19⟩

set_option maxHeartbeats 4000000 in
set_option maxRecDepth 100000 in
theorem XpasA0 (hG : az_okS l G) (hc : c ≤ 62) (S : ST c ρ x M n nr nb cs) (hk : k < nb) (hcs : (f :: t) ∈ cs) (hin : k ∈ f :: t) (hrn : r < nr) (hat : M.1 13 k = nI r) (he : r = 0) : az_M l G yL_passes (az_ws yL_passes cL_passes 8 (Option.some FieldType.boolean)) 12 [.ref (ρ.1 0), .int (nI k), .int 0] (AD ρ) (KK G ρ x m ou) 16500 99500 (OkW G ρ ou c nr nb) := by
  refine az_start hG.1 (by decide +kernel) (Nat.le_of_ble_eq_true rfl) ?_
  intro p e s mm args below meth c C hnm
  show az_W l G 8 _ p e _ s mm args below meth c _ _ 0 0 0 [(0, .ref (ρ.1 0)), (1, .int (nI k)), (2, .int 0)] []
  have h := S.1
  have hn6 := h.n6
  have hr := h.xr
  obtain ⟨rl, aC, aP, ef, ek, h4, hnd, hq, hat2, hs⟩ := h.voyF hk hcs hin hrn hat
  refine az_aload_n C 0 dL_passes_0 rfl ?_
  refine az_callS C Y_L_state [.ref (ρ.1 0)] [] wm_L_222 wst_L_state dL_passes_1 rfl (S_state0 (ρ := ρ) (m := m) (ou := ou) hG (by omega) S) rfl (Nat.le_of_ble_eq_true rfl) (Nat.le_of_ble_eq_true rfl) (Nat.le_of_ble_eq_true rfl) (by show _ ≤ 16500; omega) (by show _ ≤ 99500; omega) ?_ (by rintro E ad9 K9 ⟨q9, h9, -⟩; cases h9)
  rintro v9 ad9 K9 ⟨q08, h9, rfl, rfl⟩
  cases h9
  refine az_astore_n C (lv' := [(3, .ref ((rN ρ 0 q08).1 100)), (0, .ref (ρ.1 0)), (1, .int (nI k)), (2, .int 0)]) (j := 3) rfl dL_passes_4 (by decide) rfl ?_
  refine az_aload_n C 1 dL_passes_5 rfl ?_
  refine az_iload_n C 2 dL_passes_6 rfl ?_
  refine az_callH C Y_L_reachOf [.ref (ρ.1 0), .int (nI k)] [] wm_L_170 wst_L_reachOf dL_passes_7 rfl (S_reachOf (ρ := (rN ρ 0 q08)) (x := x) (m := (zP m 0 (stM M nr nb n))) (ou := ou) hG (by omega) S.rN hk hat) rfl (Nat.le_of_ble_eq_true rfl) (Nat.le_of_ble_eq_true rfl) (Nat.le_of_ble_eq_true rfl) (by show _ ≤ 16500; omega) (by show _ ≤ 99500; omega) (az_k1 rfl rfl ?_) (az_k0 rfl)
  refine az_istore C (lv' := [(4, .int (nI r)), (3, .ref ((rN ρ 0 q08).1 100)), (0, .ref (ρ.1 0)), (1, .int (nI k)), (2, .int 0)]) dL_passes_10 (by decide) rfl ?_
  refine az_iload_n C 4 dL_passes_12 rfl ?_
  refine az_if_eq C 23 dL_passes_13 (by decide) (fun _ => ?_) (fun q => absurd (by decide) q)
  refine az_iload C 0 dL_passes_23 rfl ?_
  refine az_iconst C (v := 1) dL_passes_25 (by decide) ?_
  refine az_isub C dL_passes_26 ?_
  refine az_top ((-1)) (by rw [he]; decide) ?_
  refine az_istore C (lv' := [(5, .int ((-1))), (4, .int (nI r)), (3, .ref ((rN ρ 0 q08).1 100)), (0, .ref (ρ.1 0)), (1, .int (nI k)), (2, .int 0)]) dL_passes_27 (by decide) rfl ?_
  refine az_aload_n C 3 dL_passes_29 rfl ?_
  refine az_iload_n C 4 dL_passes_30 rfl ?_
  refine az_iload_n C 5 dL_passes_31 rfl ?_
  refine az_callH C Y_L_pass [.ref (ρ.1 0), .int (nI k), .int 0] [] wm_L_255 wst_L_pass dL_passes_32 rfl (pas01_ok (ρ := (rN ρ 0 q08)) (x := x) (m := (zP m 0 (stM M nr nb n))) (ou := ou) hG S.rN hk hcs hin hrn hat he) rfl (Nat.le_of_ble_eq_true rfl) (Nat.le_of_ble_eq_true rfl) (Nat.le_of_ble_eq_true rfl) (by show _ ≤ 16500; omega) (by show _ ≤ 99500; omega) (az_k1 rfl rfl ?_) (az_k0 rfl)
  refine az_istore C (lv' := [(6, .int ((-1002))), (5, .int ((-1))), (4, .int (nI r)), (3, .ref ((rN ρ 0 q08).1 100)), (0, .ref (ρ.1 0)), (1, .int (nI k)), (2, .int 0)]) dL_passes_35 (by decide) rfl ?_
  refine az_iload C 1 dL_passes_37 rfl ?_
  refine az_if_lt C 51 dL_passes_39 (by decide) (fun _ => ?_) (fun q => absurd (by decide) q)
  refine az_iload C 0 dL_passes_51 rfl ?_
  refine az_sipush C (v := (-1002)) dL_passes_53 (by decide) ?_
  refine az_icmp_ne C 74 dL_passes_56 (by decide) (fun q => absurd (by decide) q) (fun _ => ?_)
  refine az_aload_n C 3 dL_passes_59 rfl ?_
  refine az_aload_n C 4 dL_passes_60 rfl ?_
  refine az_callS C Y_L_state [.ref (ρ.1 0)] [.ref ((rN ρ 0 q08).1 100)] wm_L_222 wst_L_state dL_passes_61 rfl (S_state1 (ρ := (rN ρ 0 q08)) (m := (zP m 0 (stM M nr nb n))) (ou := ou) hG (by omega) S.rN) rfl (Nat.le_of_ble_eq_true rfl) (Nat.le_of_ble_eq_true rfl) (Nat.le_of_ble_eq_true rfl) (by show _ ≤ 16500; omega) (by show _ ≤ 99500; omega) ?_ (by rintro E ad9 K9 ⟨q9, h9, -⟩; cases h9)
  rintro v9 ad9 K9 ⟨q18, h9, rfl, rfl⟩
  cases h9
  refine az_callS C Y_L_same [.ref ((rN ρ 0 q08).1 100), .ref ((rN (rN ρ 0 q08) 1 q18).1 101)] [] wm_L_232 wst_L_same dL_passes_64 rfl (S_same (ρ := (rN (rN ρ 0 q08) 1 q18)) (x := x) (m := m) (ou := ou) (A := stM M nr nb n) hG) rfl (Nat.le_of_ble_eq_true rfl) (Nat.le_of_ble_eq_true rfl) (Nat.le_of_ble_eq_true rfl) (by show _ ≤ 16500; omega) (by show _ ≤ 99500; omega) (az_k1 rfl rfl ?_) (az_k0 rfl)
  refine az_if_eq C 74 dL_passes_67 (by decide) (fun q => absurd q (by decide)) (fun _ => ?_)
  refine az_iconst C (v := 1) dL_passes_70 (by decide) ?_
  refine az_goto C 75 dL_passes_71 (by decide) ?_
  exact az_zret C .boolean rfl rfl dL_passes_75 (by show _ ≤ 16500; omega) (by show _ ≤ 99500; omega) ⟨_, _, _, _, _, _, rfl, rfl, rfl, rfl, S.rN.rN⟩

set_option maxHeartbeats 4000000 in
set_option maxRecDepth 100000 in
theorem XpasR0a (hG : az_okS l G) (hc : c ≤ 62) (S : ST c ρ x M n nr nb cs) (hk : k < nb) (hcs : (f :: t) ∈ cs) (hin : k ∈ f :: t) (hrn : r < nr) (hat : M.1 13 k = nI r) (h1 : 1 ≤ r) (hz : (canR M nr f t r (r - 1)).2 = 0) (hL : ¬ ∀ d ∈ f :: t, M.1 14 d ≤ M.1 8 (r - 1)) : az_M l G yL_passes (az_ws yL_passes cL_passes 8 (Option.some FieldType.boolean)) 12 [.ref (ρ.1 0), .int (nI k), .int 0] (AD ρ) (KK G ρ x m ou) 16500 99500 (OkW G ρ ou c nr nb) := by
  refine az_start hG.1 (by decide +kernel) (Nat.le_of_ble_eq_true rfl) ?_
  intro p e s mm args below meth c C hnm
  show az_W l G 8 _ p e _ s mm args below meth c _ _ 0 0 0 [(0, .ref (ρ.1 0)), (1, .int (nI k)), (2, .int 0)] []
  have h := S.1
  have hn6 := h.n6
  have hr := h.xr
  obtain ⟨rl, aC, aP, ef, ek, h4, hnd, hq, hat2, hs⟩ := h.voyF hk hcs hin hrn hat
  refine az_aload_n C 0 dL_passes_0 rfl ?_
  refine az_callS C Y_L_state [.ref (ρ.1 0)] [] wm_L_222 wst_L_state dL_passes_1 rfl (S_state0 (ρ := ρ) (m := m) (ou := ou) hG (by omega) S) rfl (Nat.le_of_ble_eq_true rfl) (Nat.le_of_ble_eq_true rfl) (Nat.le_of_ble_eq_true rfl) (by show _ ≤ 16500; omega) (by show _ ≤ 99500; omega) ?_ (by rintro E ad9 K9 ⟨q9, h9, -⟩; cases h9)
  rintro v9 ad9 K9 ⟨q08, h9, rfl, rfl⟩
  cases h9
  refine az_astore_n C (lv' := [(3, .ref ((rN ρ 0 q08).1 100)), (0, .ref (ρ.1 0)), (1, .int (nI k)), (2, .int 0)]) (j := 3) rfl dL_passes_4 (by decide) rfl ?_
  refine az_aload_n C 1 dL_passes_5 rfl ?_
  refine az_iload_n C 2 dL_passes_6 rfl ?_
  refine az_callH C Y_L_reachOf [.ref (ρ.1 0), .int (nI k)] [] wm_L_170 wst_L_reachOf dL_passes_7 rfl (S_reachOf (ρ := (rN ρ 0 q08)) (x := x) (m := (zP m 0 (stM M nr nb n))) (ou := ou) hG (by omega) S.rN hk hat) rfl (Nat.le_of_ble_eq_true rfl) (Nat.le_of_ble_eq_true rfl) (Nat.le_of_ble_eq_true rfl) (by show _ ≤ 16500; omega) (by show _ ≤ 99500; omega) (az_k1 rfl rfl ?_) (az_k0 rfl)
  refine az_istore C (lv' := [(4, .int (nI r)), (3, .ref ((rN ρ 0 q08).1 100)), (0, .ref (ρ.1 0)), (1, .int (nI k)), (2, .int 0)]) dL_passes_10 (by decide) rfl ?_
  refine az_iload_n C 4 dL_passes_12 rfl ?_
  refine az_if_eq C 23 dL_passes_13 (by decide) (fun _ => ?_) (fun q => absurd (by decide) q)
  refine az_iload C 0 dL_passes_23 rfl ?_
  refine az_iconst C (v := 1) dL_passes_25 (by decide) ?_
  refine az_isub C dL_passes_26 ?_
  refine az_top (nI (r - 1)) (show nI r - 1 = nI (r - 1) from pk_sub (b := 1) (by omega)) ?_
  refine az_istore C (lv' := [(5, .int (nI (r - 1))), (4, .int (nI r)), (3, .ref ((rN ρ 0 q08).1 100)), (0, .ref (ρ.1 0)), (1, .int (nI k)), (2, .int 0)]) dL_passes_27 (by decide) rfl ?_
  refine az_aload_n C 3 dL_passes_29 rfl ?_
  refine az_iload_n C 4 dL_passes_30 rfl ?_
  refine az_iload_n C 5 dL_passes_31 rfl ?_
  obtain ⟨mc1, ms1, b1, b2, hP1⟩ := pas00_ok (ρ := (rN ρ 0 q08)) (m := (zP m 0 (stM M nr nb n))) (ou := ou) hG (by omega) S.rN hk hcs hin hrn hat h1 hz
  have b1 : ρ.2.2.2.1 + mc1 ≤ 16385 := b1
  have b2 : 6 * ρ.2.2.2.1 + ms1 ≤ 98310 := b2
  refine az_callH C Y_L_pass [.ref (ρ.1 0), .int (nI k), .int 0] [] wm_L_255 wst_L_pass dL_passes_32 rfl (hP1) rfl (Nat.le_of_ble_eq_true rfl) (Nat.le_of_ble_eq_true rfl) (Nat.le_of_ble_eq_true rfl) (by show _ ≤ 16500; omega) (by show _ ≤ 99500; omega) ?_ (by rintro E ad9 K9 ⟨a9, C9, h9, -⟩; cases h9)
  rintro v9 ad9 K9 ⟨a19, C19, h9, rfl, rfl, g11, g12, g13, S19⟩
  cases h9
  refine az_istore C (lv' := [(6, .int ((-1003))), (5, .int (nI (r - 1))), (4, .int (nI r)), (3, .ref ((rN ρ 0 q08).1 100)), (0, .ref (ρ.1 0)), (1, .int (nI k)), (2, .int 0)]) dL_passes_35 (by decide) rfl ?_
  refine az_iload C 1 dL_passes_37 rfl ?_
  refine az_if_lt C 51 dL_passes_39 (by decide) (fun q => absurd q (Int32.not_lt.mpr (nI_pos' (by omega)))) (fun _ => ?_)
  refine az_iload C 1 dL_passes_42 rfl ?_
  refine az_aload_n C 4 dL_passes_44 rfl ?_
  refine az_callV C Y_X3_reachCount cX3 0 0 [] [.int (nI (r - 1))] wm_L_157 wi_X3_reachCount wse_X3_reachCount dL_passes_45 rfl rfl rfl (XreachCount hG) rfl (Nat.le_of_ble_eq_true rfl) (Nat.le_of_ble_eq_true rfl) (Nat.le_of_ble_eq_true rfl) (by show _ ≤ 16500; omega) (by show _ ≤ 99500; omega) (az_k1 rfl rfl ?_) (az_k0 rfl)
  refine az_top (nI nr) S19.1.xr ?_
  refine az_icmp_lt C 76 dL_passes_48 (by decide) (fun _ => ?_) (fun q => absurd (Int32.not_le.mp (nlt_nle (show r - 1 < nr by omega) (by omega))) q)
  refine az_iload C 2 dL_passes_76 rfl ?_
  refine az_iload C 1 dL_passes_78 rfl ?_
  refine az_mmin C wm_L_238 wst_min wini_Math wc_min (Nat.le_of_ble_eq_true rfl) (Nat.le_of_ble_eq_true rfl) (by show _ ≤ 16500; omega) (by show _ ≤ 99500; omega) dL_passes_80 ?_
  refine az_top (nI (r - 1)) (by rw [(lo_hi (r := r) (dst := (r - 1)) (by omega) (by omega)).1, Nat.min_eq_right (by omega)]) ?_
  refine az_istore C (lv' := [(7, .int (nI (r - 1))), (6, .int ((-1003))), (5, .int (nI (r - 1))), (4, .int (nI r)), (3, .ref ((rN ρ 0 q08).1 100)), (0, .ref (ρ.1 0)), (1, .int (nI k)), (2, .int 0)]) dL_passes_83 (by decide) rfl ?_
  have ez : (tvX (saveX x) n nr f t r (r - 1)).2 = 0 := (can_eq S (by omega) hrn (show r - 1 < nr by omega) h4 hq).trans hz
  obtain ⟨⟨w1, w2⟩, wi, w3, w4, w5⟩ := tvX_why ez (by omega)
  have ewi : wi = (r - 1) := by omega
  rw [ewi] at w5
  obtain ⟨f1, f2⟩ := carR_f (y := (tvX (saveX x) n nr f t r (r - 1)).1.1)
  have hrs : (carR (tvX (saveX x) n nr f t r (r - 1)).1.1).1 0 12 = (tryP (saveX x) n nr (r - 1) false f t).2 := f1.trans (tv0_why h1 ez)
  have h0 : ¬ (carR (tvX (saveX x) n nr f t r (r - 1)).1.1).1 0 12 = 0 := fun z => by rw [f1] at z; rw [z] at w1; exact absurd w1 (by decide)
  have hlock : (carR (tvX (saveX x) n nr f t r (r - 1)).1.1).1 0 13 = nI (r - 1) := f2.trans w5
  have t1 := try_1 (dn := false) (lk := (r - 1)) S (by omega) hq
  have hu : (carR (tvX (saveX x) n nr f t r (r - 1)).1.1).1 0 12 = 1 := hrs.trans (t1.mpr hL)
  have e14 : ∀ d, (endsM (sailM nr f t (r - 1) 6 (keepsM M) r 0).1 3).1 14 d = M.1 14 d := fun d => endM_p (by omega)
  have e8 : (endsM (sailM nr f t (r - 1) 6 (keepsM M) r 0).1 3).1 8 (r - 1) = M.1 8 (r - 1) := endM_p (by omega)
  have hat' : (endsM (sailM nr f t (r - 1) 6 (keepsM M) r 0).1 3).1 13 k = nI r := (S19.at4 hk).symm.trans ((show (carR (tvX (saveX x) n nr f t r (r - 1)).1.1).2.1 k 4 = x.2.1 k 4 from congrFun (congrFun (congrArg Prod.fst (crX_x (x := x) (n := n) (nr := nr) (f := f) (r := r) (dst := (r - 1)) (t := t))) k) 4).trans ((S.at4 hk).trans hat))
  have eS := stM_ref (M := M) S hrn (show r - 1 < nr by omega) S19
  refine az_iload C 1 dL_passes_85 rfl ?_
  refine az_if_ge C 158 dL_passes_87 (by decide) (fun q => absurd q (by decide)) (fun _ => ?_)
  refine az_iload C 1 dL_passes_90 rfl ?_
  refine az_sipush C (v := (-1003)) dL_passes_92 (by decide) ?_
  refine az_icmp_ne C 156 dL_passes_95 (by decide) (fun q => absurd (by decide) q) (fun _ => ?_)
  refine az_aload_n C 4 dL_passes_98 rfl ?_
  refine az_aload_n C 5 dL_passes_99 rfl ?_
  refine az_callS C Y_L_state [.ref (ρ.1 0)] [.ref ((rN ρ 0 q08).1 100)] wm_L_222 wst_L_state dL_passes_100 rfl (S_state1 (ρ := (gR (rN ρ 0 q08) a19 C19)) (m := (zP m 0 (stM M nr nb n))) (ou := ou) hG (by omega) S19) rfl (Nat.le_of_ble_eq_true rfl) (Nat.le_of_ble_eq_true rfl) (Nat.le_of_ble_eq_true rfl) (by show _ ≤ 16500; omega) (by show _ ≤ 99500; omega) ?_ (by rintro E ad9 K9 ⟨q9, h9, -⟩; cases h9)
  rintro v9 ad9 K9 ⟨q18, h9, rfl, rfl⟩
  cases h9
  rw [eS]
  refine az_callS C Y_L_same [.ref ((rN ρ 0 q08).1 100), .ref ((rN (gR (rN ρ 0 q08) a19 C19) 1 q18).1 101)] [] wm_L_232 wst_L_same dL_passes_103 rfl (S_same (ρ := (rN (gR (rN ρ 0 q08) a19 C19) 1 q18)) (x := (carR (tvX (saveX x) n nr f t r (r - 1)).1.1)) (m := m) (ou := ou) (A := stM M nr nb n) hG) rfl (Nat.le_of_ble_eq_true rfl) (Nat.le_of_ble_eq_true rfl) (Nat.le_of_ble_eq_true rfl) (by show _ ≤ 16500; omega) (by show _ ≤ 99500; omega) (az_k1 rfl rfl ?_) (az_k0 rfl)
  refine az_if_eq C 156 dL_passes_106 (by decide) (fun q => absurd q (by decide)) (fun _ => ?_)
  refine az_aload_n C 5 dL_passes_109 rfl ?_
  refine az_callH C Y_L_refusalLock [.ref (ρ.1 0)] [] wm_L_253 wst_L_refusalLock dL_passes_110 rfl (S_refusalLock (ρ := (rN (gR (rN ρ 0 q08) a19 C19) 1 q18)) (x := (carR (tvX (saveX x) n nr f t r (r - 1)).1.1)) (m := (zP (zP m 0 (stM M nr nb n)) 1 (stM M nr nb n))) (ou := ou) hG h0 hlock) rfl (Nat.le_of_ble_eq_true rfl) (Nat.le_of_ble_eq_true rfl) (Nat.le_of_ble_eq_true rfl) (by show _ ≤ 16500; omega) (by show _ ≤ 99500; omega) (az_k1 rfl rfl ?_) (az_k0 rfl)
  refine az_iload C 0 dL_passes_113 rfl ?_
  refine az_icmp_ne C 156 dL_passes_115 (by decide) (fun q => absurd rfl q) (fun _ => ?_)
  refine az_aload_n C 5 dL_passes_118 rfl ?_
  refine az_callH C Y_L_refusalReason [.ref (ρ.1 0)] [] wm_L_250 wst_L_refusalReason dL_passes_119 rfl (S_refusalReason (ρ := (rN (gR (rN ρ 0 q08) a19 C19) 1 q18)) (x := (carR (tvX (saveX x) n nr f t r (r - 1)).1.1)) (m := (zP (zP m 0 (stM M nr nb n)) 1 (stM M nr nb n))) (ou := ou) hG h0 hu) rfl (Nat.le_of_ble_eq_true rfl) (Nat.le_of_ble_eq_true rfl) (Nat.le_of_ble_eq_true rfl) (by show _ ≤ 16500; omega) (by show _ ≤ 99500; omega) (az_k1 rfl rfl ?_) (az_k0 rfl)
  refine az_iconst C (v := 1) dL_passes_122 (by decide) ?_
  refine az_icmp_ne C 130 dL_passes_123 (by decide) (fun q => absurd (by decide) q) (fun _ => ?_)
  refine az_iconst C (v := 1) dL_passes_126 (by decide) ?_
  refine az_goto C 131 dL_passes_127 (by decide) ?_
  refine az_aload_n C 5 dL_passes_131 rfl ?_
  refine az_iload_n C 6 dL_passes_132 rfl ?_
  refine az_iload C 0 dL_passes_133 rfl ?_
  refine az_callH C Y_L_partsFor [.ref (ρ.1 0), .int (nI k), .int (nI (r - 1))] [.int 1] wm_L_246 wst_L_partsFor dL_passes_135 rfl (S_parts1 (ρ := (rN (gR (rN ρ 0 q08) a19 C19) 1 q18)) (x := (carR (tvX (saveX x) n nr f t r (r - 1)).1.1)) (m := (zP (zP m 0 (stM M nr nb n)) 1 (stM M nr nb n))) (ou := ou) hG (by omega) S19.rN hk hcs hin hrn hat' (lk := (r - 1)) (by omega) (fun z => hL (fun d hd => by have := z d hd; rw [e14, e8] at this; exact this))) rfl (Nat.le_of_ble_eq_true rfl) (Nat.le_of_ble_eq_true rfl) (Nat.le_of_ble_eq_true rfl) (by show _ ≤ 16500; omega) (by show _ ≤ 99500; omega) (az_k1 rfl rfl ?_) (az_k0 rfl)
  refine az_sipush C (v := (-1002)) dL_passes_138 (by decide) ?_
  refine az_icmp_ne C 148 dL_passes_141 (by decide) (fun q => absurd (by decide) q) (fun _ => ?_)
  refine az_iconst C (v := 1) dL_passes_144 (by decide) ?_
  refine az_goto C 149 dL_passes_145 (by decide) ?_
  refine az_icmp_ne C 156 dL_passes_149 (by decide) (fun q => absurd (by decide) q) (fun _ => ?_)
  refine az_iconst C (v := 1) dL_passes_152 (by decide) ?_
  refine az_goto C 157 dL_passes_153 (by decide) ?_
  exact az_zret C .boolean rfl rfl dL_passes_157 (by show _ ≤ 16500; omega) (by show _ ≤ 99500; omega) ⟨_, _, _, _, _, _, rfl, rfl, rfl, rfl, S19.rN⟩

set_option maxHeartbeats 4000000 in
set_option maxRecDepth 100000 in
theorem XpasR0b (hG : az_okS l G) (hc : c ≤ 62) (S : ST c ρ x M n nr nb cs) (hk : k < nb) (hcs : (f :: t) ∈ cs) (hin : k ∈ f :: t) (hrn : r < nr) (hat : M.1 13 k = nI r) (h1 : 1 ≤ r) (hz : (canR M nr f t r (r - 1)).2 = 0) (hL : ∀ d ∈ f :: t, M.1 14 d ≤ M.1 8 (r - 1)) : az_M l G yL_passes (az_ws yL_passes cL_passes 8 (Option.some FieldType.boolean)) 12 [.ref (ρ.1 0), .int (nI k), .int 0] (AD ρ) (KK G ρ x m ou) 16500 99500 (OkW G ρ ou c nr nb) := by
  refine az_start hG.1 (by decide +kernel) (Nat.le_of_ble_eq_true rfl) ?_
  intro p e s mm args below meth c C hnm
  show az_W l G 8 _ p e _ s mm args below meth c _ _ 0 0 0 [(0, .ref (ρ.1 0)), (1, .int (nI k)), (2, .int 0)] []
  have h := S.1
  have hn6 := h.n6
  have hr := h.xr
  obtain ⟨rl, aC, aP, ef, ek, h4, hnd, hq, hat2, hs⟩ := h.voyF hk hcs hin hrn hat
  refine az_aload_n C 0 dL_passes_0 rfl ?_
  refine az_callS C Y_L_state [.ref (ρ.1 0)] [] wm_L_222 wst_L_state dL_passes_1 rfl (S_state0 (ρ := ρ) (m := m) (ou := ou) hG (by omega) S) rfl (Nat.le_of_ble_eq_true rfl) (Nat.le_of_ble_eq_true rfl) (Nat.le_of_ble_eq_true rfl) (by show _ ≤ 16500; omega) (by show _ ≤ 99500; omega) ?_ (by rintro E ad9 K9 ⟨q9, h9, -⟩; cases h9)
  rintro v9 ad9 K9 ⟨q08, h9, rfl, rfl⟩
  cases h9
  refine az_astore_n C (lv' := [(3, .ref ((rN ρ 0 q08).1 100)), (0, .ref (ρ.1 0)), (1, .int (nI k)), (2, .int 0)]) (j := 3) rfl dL_passes_4 (by decide) rfl ?_
  refine az_aload_n C 1 dL_passes_5 rfl ?_
  refine az_iload_n C 2 dL_passes_6 rfl ?_
  refine az_callH C Y_L_reachOf [.ref (ρ.1 0), .int (nI k)] [] wm_L_170 wst_L_reachOf dL_passes_7 rfl (S_reachOf (ρ := (rN ρ 0 q08)) (x := x) (m := (zP m 0 (stM M nr nb n))) (ou := ou) hG (by omega) S.rN hk hat) rfl (Nat.le_of_ble_eq_true rfl) (Nat.le_of_ble_eq_true rfl) (Nat.le_of_ble_eq_true rfl) (by show _ ≤ 16500; omega) (by show _ ≤ 99500; omega) (az_k1 rfl rfl ?_) (az_k0 rfl)
  refine az_istore C (lv' := [(4, .int (nI r)), (3, .ref ((rN ρ 0 q08).1 100)), (0, .ref (ρ.1 0)), (1, .int (nI k)), (2, .int 0)]) dL_passes_10 (by decide) rfl ?_
  refine az_iload_n C 4 dL_passes_12 rfl ?_
  refine az_if_eq C 23 dL_passes_13 (by decide) (fun _ => ?_) (fun q => absurd (by decide) q)
  refine az_iload C 0 dL_passes_23 rfl ?_
  refine az_iconst C (v := 1) dL_passes_25 (by decide) ?_
  refine az_isub C dL_passes_26 ?_
  refine az_top (nI (r - 1)) (show nI r - 1 = nI (r - 1) from pk_sub (b := 1) (by omega)) ?_
  refine az_istore C (lv' := [(5, .int (nI (r - 1))), (4, .int (nI r)), (3, .ref ((rN ρ 0 q08).1 100)), (0, .ref (ρ.1 0)), (1, .int (nI k)), (2, .int 0)]) dL_passes_27 (by decide) rfl ?_
  refine az_aload_n C 3 dL_passes_29 rfl ?_
  refine az_iload_n C 4 dL_passes_30 rfl ?_
  refine az_iload_n C 5 dL_passes_31 rfl ?_
  obtain ⟨mc1, ms1, b1, b2, hP1⟩ := pas00_ok (ρ := (rN ρ 0 q08)) (m := (zP m 0 (stM M nr nb n))) (ou := ou) hG (by omega) S.rN hk hcs hin hrn hat h1 hz
  have b1 : ρ.2.2.2.1 + mc1 ≤ 16385 := b1
  have b2 : 6 * ρ.2.2.2.1 + ms1 ≤ 98310 := b2
  refine az_callH C Y_L_pass [.ref (ρ.1 0), .int (nI k), .int 0] [] wm_L_255 wst_L_pass dL_passes_32 rfl (hP1) rfl (Nat.le_of_ble_eq_true rfl) (Nat.le_of_ble_eq_true rfl) (Nat.le_of_ble_eq_true rfl) (by show _ ≤ 16500; omega) (by show _ ≤ 99500; omega) ?_ (by rintro E ad9 K9 ⟨a9, C9, h9, -⟩; cases h9)
  rintro v9 ad9 K9 ⟨a19, C19, h9, rfl, rfl, g11, g12, g13, S19⟩
  cases h9
  refine az_istore C (lv' := [(6, .int ((-1003))), (5, .int (nI (r - 1))), (4, .int (nI r)), (3, .ref ((rN ρ 0 q08).1 100)), (0, .ref (ρ.1 0)), (1, .int (nI k)), (2, .int 0)]) dL_passes_35 (by decide) rfl ?_
  refine az_iload C 1 dL_passes_37 rfl ?_
  refine az_if_lt C 51 dL_passes_39 (by decide) (fun q => absurd q (Int32.not_lt.mpr (nI_pos' (by omega)))) (fun _ => ?_)
  refine az_iload C 1 dL_passes_42 rfl ?_
  refine az_aload_n C 4 dL_passes_44 rfl ?_
  refine az_callV C Y_X3_reachCount cX3 0 0 [] [.int (nI (r - 1))] wm_L_157 wi_X3_reachCount wse_X3_reachCount dL_passes_45 rfl rfl rfl (XreachCount hG) rfl (Nat.le_of_ble_eq_true rfl) (Nat.le_of_ble_eq_true rfl) (Nat.le_of_ble_eq_true rfl) (by show _ ≤ 16500; omega) (by show _ ≤ 99500; omega) (az_k1 rfl rfl ?_) (az_k0 rfl)
  refine az_top (nI nr) S19.1.xr ?_
  refine az_icmp_lt C 76 dL_passes_48 (by decide) (fun _ => ?_) (fun q => absurd (Int32.not_le.mp (nlt_nle (show r - 1 < nr by omega) (by omega))) q)
  refine az_iload C 2 dL_passes_76 rfl ?_
  refine az_iload C 1 dL_passes_78 rfl ?_
  refine az_mmin C wm_L_238 wst_min wini_Math wc_min (Nat.le_of_ble_eq_true rfl) (Nat.le_of_ble_eq_true rfl) (by show _ ≤ 16500; omega) (by show _ ≤ 99500; omega) dL_passes_80 ?_
  refine az_top (nI (r - 1)) (by rw [(lo_hi (r := r) (dst := (r - 1)) (by omega) (by omega)).1, Nat.min_eq_right (by omega)]) ?_
  refine az_istore C (lv' := [(7, .int (nI (r - 1))), (6, .int ((-1003))), (5, .int (nI (r - 1))), (4, .int (nI r)), (3, .ref ((rN ρ 0 q08).1 100)), (0, .ref (ρ.1 0)), (1, .int (nI k)), (2, .int 0)]) dL_passes_83 (by decide) rfl ?_
  have ez : (tvX (saveX x) n nr f t r (r - 1)).2 = 0 := (can_eq S (by omega) hrn (show r - 1 < nr by omega) h4 hq).trans hz
  obtain ⟨⟨w1, w2⟩, wi, w3, w4, w5⟩ := tvX_why ez (by omega)
  have ewi : wi = (r - 1) := by omega
  rw [ewi] at w5
  obtain ⟨f1, f2⟩ := carR_f (y := (tvX (saveX x) n nr f t r (r - 1)).1.1)
  have hrs : (carR (tvX (saveX x) n nr f t r (r - 1)).1.1).1 0 12 = (tryP (saveX x) n nr (r - 1) false f t).2 := f1.trans (tv0_why h1 ez)
  have h0 : ¬ (carR (tvX (saveX x) n nr f t r (r - 1)).1.1).1 0 12 = 0 := fun z => by rw [f1] at z; rw [z] at w1; exact absurd w1 (by decide)
  have hlock : (carR (tvX (saveX x) n nr f t r (r - 1)).1.1).1 0 13 = nI (r - 1) := f2.trans w5
  have t1 := try_1 (dn := false) (lk := (r - 1)) S (by omega) hq
  obtain ⟨u8, hu⟩ : ∃ u : Int32, (carR (tvX (saveX x) n nr f t r (r - 1)).1.1).1 0 12 = u := ⟨_, rfl⟩
  have hu1 : ¬ u8 = 1 := fun z => t1.mp ((hrs.symm.trans hu).trans z) hL
  have e14 : ∀ d, (endsM (sailM nr f t (r - 1) 6 (keepsM M) r 0).1 3).1 14 d = M.1 14 d := fun d => endM_p (by omega)
  have e8 : (endsM (sailM nr f t (r - 1) 6 (keepsM M) r 0).1 3).1 8 (r - 1) = M.1 8 (r - 1) := endM_p (by omega)
  have hat' : (endsM (sailM nr f t (r - 1) 6 (keepsM M) r 0).1 3).1 13 k = nI r := (S19.at4 hk).symm.trans ((show (carR (tvX (saveX x) n nr f t r (r - 1)).1.1).2.1 k 4 = x.2.1 k 4 from congrFun (congrFun (congrArg Prod.fst (crX_x (x := x) (n := n) (nr := nr) (f := f) (r := r) (dst := (r - 1)) (t := t))) k) 4).trans ((S.at4 hk).trans hat))
  have eS := stM_ref (M := M) S hrn (show r - 1 < nr by omega) S19
  refine az_iload C 1 dL_passes_85 rfl ?_
  refine az_if_ge C 158 dL_passes_87 (by decide) (fun q => absurd q (by decide)) (fun _ => ?_)
  refine az_iload C 1 dL_passes_90 rfl ?_
  refine az_sipush C (v := (-1003)) dL_passes_92 (by decide) ?_
  refine az_icmp_ne C 156 dL_passes_95 (by decide) (fun q => absurd (by decide) q) (fun _ => ?_)
  refine az_aload_n C 4 dL_passes_98 rfl ?_
  refine az_aload_n C 5 dL_passes_99 rfl ?_
  refine az_callS C Y_L_state [.ref (ρ.1 0)] [.ref ((rN ρ 0 q08).1 100)] wm_L_222 wst_L_state dL_passes_100 rfl (S_state1 (ρ := (gR (rN ρ 0 q08) a19 C19)) (m := (zP m 0 (stM M nr nb n))) (ou := ou) hG (by omega) S19) rfl (Nat.le_of_ble_eq_true rfl) (Nat.le_of_ble_eq_true rfl) (Nat.le_of_ble_eq_true rfl) (by show _ ≤ 16500; omega) (by show _ ≤ 99500; omega) ?_ (by rintro E ad9 K9 ⟨q9, h9, -⟩; cases h9)
  rintro v9 ad9 K9 ⟨q18, h9, rfl, rfl⟩
  cases h9
  rw [eS]
  refine az_callS C Y_L_same [.ref ((rN ρ 0 q08).1 100), .ref ((rN (gR (rN ρ 0 q08) a19 C19) 1 q18).1 101)] [] wm_L_232 wst_L_same dL_passes_103 rfl (S_same (ρ := (rN (gR (rN ρ 0 q08) a19 C19) 1 q18)) (x := (carR (tvX (saveX x) n nr f t r (r - 1)).1.1)) (m := m) (ou := ou) (A := stM M nr nb n) hG) rfl (Nat.le_of_ble_eq_true rfl) (Nat.le_of_ble_eq_true rfl) (Nat.le_of_ble_eq_true rfl) (by show _ ≤ 16500; omega) (by show _ ≤ 99500; omega) (az_k1 rfl rfl ?_) (az_k0 rfl)
  refine az_if_eq C 156 dL_passes_106 (by decide) (fun q => absurd q (by decide)) (fun _ => ?_)
  refine az_aload_n C 5 dL_passes_109 rfl ?_
  refine az_callH C Y_L_refusalLock [.ref (ρ.1 0)] [] wm_L_253 wst_L_refusalLock dL_passes_110 rfl (S_refusalLock (ρ := (rN (gR (rN ρ 0 q08) a19 C19) 1 q18)) (x := (carR (tvX (saveX x) n nr f t r (r - 1)).1.1)) (m := (zP (zP m 0 (stM M nr nb n)) 1 (stM M nr nb n))) (ou := ou) hG h0 hlock) rfl (Nat.le_of_ble_eq_true rfl) (Nat.le_of_ble_eq_true rfl) (Nat.le_of_ble_eq_true rfl) (by show _ ≤ 16500; omega) (by show _ ≤ 99500; omega) (az_k1 rfl rfl ?_) (az_k0 rfl)
  refine az_iload C 0 dL_passes_113 rfl ?_
  refine az_icmp_ne C 156 dL_passes_115 (by decide) (fun q => absurd rfl q) (fun _ => ?_)
  refine az_aload_n C 5 dL_passes_118 rfl ?_
  refine az_callH C Y_L_refusalReason [.ref (ρ.1 0)] [] wm_L_250 wst_L_refusalReason dL_passes_119 rfl (S_refusalReason (ρ := (rN (gR (rN ρ 0 q08) a19 C19) 1 q18)) (x := (carR (tvX (saveX x) n nr f t r (r - 1)).1.1)) (m := (zP (zP m 0 (stM M nr nb n)) 1 (stM M nr nb n))) (ou := ou) hG h0 hu) rfl (Nat.le_of_ble_eq_true rfl) (Nat.le_of_ble_eq_true rfl) (Nat.le_of_ble_eq_true rfl) (by show _ ≤ 16500; omega) (by show _ ≤ 99500; omega) (az_k1 rfl rfl ?_) (az_k0 rfl)
  refine az_iconst C (v := 1) dL_passes_122 (by decide) ?_
  refine az_icmp_ne C 130 dL_passes_123 (by decide) (fun _ => ?_) (fun q => absurd q hu1)
  refine az_iconst C (v := 0) dL_passes_130 (by decide) ?_
  refine az_aload_n C 5 dL_passes_131 rfl ?_
  refine az_iload_n C 6 dL_passes_132 rfl ?_
  refine az_iload C 0 dL_passes_133 rfl ?_
  refine az_callH C Y_L_partsFor [.ref (ρ.1 0), .int (nI k), .int (nI (r - 1))] [.int 0] wm_L_246 wst_L_partsFor dL_passes_135 rfl (S_parts2 (ρ := (rN (gR (rN ρ 0 q08) a19 C19) 1 q18)) (x := (carR (tvX (saveX x) n nr f t r (r - 1)).1.1)) (m := (zP (zP m 0 (stM M nr nb n)) 1 (stM M nr nb n))) (ou := ou) hG (by omega) S19.rN hk hcs hin hrn hat' (lk := (r - 1)) (by omega) (fun d hd => by rw [e14, e8]; exact hL d hd)) rfl (Nat.le_of_ble_eq_true rfl) (Nat.le_of_ble_eq_true rfl) (Nat.le_of_ble_eq_true rfl) (by show _ ≤ 16500; omega) (by show _ ≤ 99500; omega) (az_k1 rfl rfl ?_) (az_k0 rfl)
  refine az_sipush C (v := (-1002)) dL_passes_138 (by decide) ?_
  refine az_icmp_ne C 148 dL_passes_141 (by decide) (fun _ => ?_) (fun q => absurd q (nI_n1002 (by have := ptM_le (m := (endsM (sailM nr f t (r - 1) 6 (keepsM M) r 0).1 3)) (lk := (r - 1)) (t.length + 1) (f :: t); omega)))
  refine az_iconst C (v := 0) dL_passes_148 (by decide) ?_
  refine az_icmp_ne C 156 dL_passes_149 (by decide) (fun q => absurd (by decide) q) (fun _ => ?_)
  refine az_iconst C (v := 1) dL_passes_152 (by decide) ?_
  refine az_goto C 157 dL_passes_153 (by decide) ?_
  exact az_zret C .boolean rfl rfl dL_passes_157 (by show _ ≤ 16500; omega) (by show _ ≤ 99500; omega) ⟨_, _, _, _, _, _, rfl, rfl, rfl, rfl, S19.rN⟩

set_option maxHeartbeats 4000000 in
set_option maxRecDepth 100000 in
theorem XpasD0 (hG : az_okS l G) (hc : c ≤ 62) (S : ST c ρ x M n nr nb cs) (hk : k < nb) (hcs : (f :: t) ∈ cs) (hin : k ∈ f :: t) (hrn : r < nr) (hat : M.1 13 k = nI r) (h1 : 1 ≤ r) (hz : ¬ (canR M nr f t r (r - 1)).2 = 0) : az_M l G yL_passes (az_ws yL_passes cL_passes 8 (Option.some FieldType.boolean)) 12 [.ref (ρ.1 0), .int (nI k), .int 0] (AD ρ) (KK G ρ x m ou) 16500 99500 (OkW G ρ ou (c + 1) nr nb) := by
  refine az_start hG.1 (by decide +kernel) (Nat.le_of_ble_eq_true rfl) ?_
  intro p e s mm args below meth c C hnm
  show az_W l G 8 _ p e _ s mm args below meth c _ _ 0 0 0 [(0, .ref (ρ.1 0)), (1, .int (nI k)), (2, .int 0)] []
  have h := S.1
  have hn6 := h.n6
  have hr := h.xr
  obtain ⟨rl, aC, aP, ef, ek, h4, hnd, hq, hat2, hs⟩ := h.voyF hk hcs hin hrn hat
  refine az_aload_n C 0 dL_passes_0 rfl ?_
  refine az_callS C Y_L_state [.ref (ρ.1 0)] [] wm_L_222 wst_L_state dL_passes_1 rfl (S_state0 (ρ := ρ) (m := m) (ou := ou) hG (by omega) S) rfl (Nat.le_of_ble_eq_true rfl) (Nat.le_of_ble_eq_true rfl) (Nat.le_of_ble_eq_true rfl) (by show _ ≤ 16500; omega) (by show _ ≤ 99500; omega) ?_ (by rintro E ad9 K9 ⟨q9, h9, -⟩; cases h9)
  rintro v9 ad9 K9 ⟨q08, h9, rfl, rfl⟩
  cases h9
  refine az_astore_n C (lv' := [(3, .ref ((rN ρ 0 q08).1 100)), (0, .ref (ρ.1 0)), (1, .int (nI k)), (2, .int 0)]) (j := 3) rfl dL_passes_4 (by decide) rfl ?_
  refine az_aload_n C 1 dL_passes_5 rfl ?_
  refine az_iload_n C 2 dL_passes_6 rfl ?_
  refine az_callH C Y_L_reachOf [.ref (ρ.1 0), .int (nI k)] [] wm_L_170 wst_L_reachOf dL_passes_7 rfl (S_reachOf (ρ := (rN ρ 0 q08)) (x := x) (m := (zP m 0 (stM M nr nb n))) (ou := ou) hG (by omega) S.rN hk hat) rfl (Nat.le_of_ble_eq_true rfl) (Nat.le_of_ble_eq_true rfl) (Nat.le_of_ble_eq_true rfl) (by show _ ≤ 16500; omega) (by show _ ≤ 99500; omega) (az_k1 rfl rfl ?_) (az_k0 rfl)
  refine az_istore C (lv' := [(4, .int (nI r)), (3, .ref ((rN ρ 0 q08).1 100)), (0, .ref (ρ.1 0)), (1, .int (nI k)), (2, .int 0)]) dL_passes_10 (by decide) rfl ?_
  refine az_iload_n C 4 dL_passes_12 rfl ?_
  refine az_if_eq C 23 dL_passes_13 (by decide) (fun _ => ?_) (fun q => absurd (by decide) q)
  refine az_iload C 0 dL_passes_23 rfl ?_
  refine az_iconst C (v := 1) dL_passes_25 (by decide) ?_
  refine az_isub C dL_passes_26 ?_
  refine az_top (nI (r - 1)) (show nI r - 1 = nI (r - 1) from pk_sub (b := 1) (by omega)) ?_
  refine az_istore C (lv' := [(5, .int (nI (r - 1))), (4, .int (nI r)), (3, .ref ((rN ρ 0 q08).1 100)), (0, .ref (ρ.1 0)), (1, .int (nI k)), (2, .int 0)]) dL_passes_27 (by decide) rfl ?_
  refine az_aload_n C 3 dL_passes_29 rfl ?_
  refine az_iload_n C 4 dL_passes_30 rfl ?_
  refine az_iload_n C 5 dL_passes_31 rfl ?_
  obtain ⟨mc1, ms1, b1, b2, hP1⟩ := pas02_ok (ρ := (rN ρ 0 q08)) (m := (zP m 0 (stM M nr nb n))) (ou := ou) hG (by omega) S.rN hk hcs hin hrn hat h1 hz
  have b1 : ρ.2.2.2.1 + mc1 ≤ 16385 := b1
  have b2 : 6 * ρ.2.2.2.1 + ms1 ≤ 98310 := b2
  refine az_callH C Y_L_pass [.ref (ρ.1 0), .int (nI k), .int 0] [] wm_L_255 wst_L_pass dL_passes_32 rfl (hP1) rfl (Nat.le_of_ble_eq_true rfl) (Nat.le_of_ble_eq_true rfl) (Nat.le_of_ble_eq_true rfl) (by show _ ≤ 16500; omega) (by show _ ≤ 99500; omega) ?_ (by rintro E ad9 K9 ⟨a9, C9, h9, -⟩; cases h9)
  rintro v9 ad9 K9 ⟨a19, C19, h9, rfl, rfl, g11, g12, g13, S19⟩
  cases h9
  refine az_istore C (lv' := [(6, .int ((nI (smV M f t r (r - 1))))), (5, .int (nI (r - 1))), (4, .int (nI r)), (3, .ref ((rN ρ 0 q08).1 100)), (0, .ref (ρ.1 0)), (1, .int (nI k)), (2, .int 0)]) dL_passes_35 (by decide) rfl ?_
  refine az_iload C 1 dL_passes_37 rfl ?_
  refine az_if_lt C 51 dL_passes_39 (by decide) (fun q => absurd q (Int32.not_lt.mpr (nI_pos' (by omega)))) (fun _ => ?_)
  refine az_iload C 1 dL_passes_42 rfl ?_
  refine az_aload_n C 4 dL_passes_44 rfl ?_
  refine az_callV C Y_X3_reachCount cX3 0 0 [] [.int (nI (r - 1))] wm_L_157 wi_X3_reachCount wse_X3_reachCount dL_passes_45 rfl rfl rfl (XreachCount hG) rfl (Nat.le_of_ble_eq_true rfl) (Nat.le_of_ble_eq_true rfl) (Nat.le_of_ble_eq_true rfl) (by show _ ≤ 16500; omega) (by show _ ≤ 99500; omega) (az_k1 rfl rfl ?_) (az_k0 rfl)
  refine az_top (nI nr) S19.1.xr ?_
  refine az_icmp_lt C 76 dL_passes_48 (by decide) (fun _ => ?_) (fun q => absurd (Int32.not_le.mp (nlt_nle (show r - 1 < nr by omega) (by omega))) q)
  refine az_iload C 2 dL_passes_76 rfl ?_
  refine az_iload C 1 dL_passes_78 rfl ?_
  refine az_mmin C wm_L_238 wst_min wini_Math wc_min (Nat.le_of_ble_eq_true rfl) (Nat.le_of_ble_eq_true rfl) (by show _ ≤ 16500; omega) (by show _ ≤ 99500; omega) dL_passes_80 ?_
  refine az_top (nI (r - 1)) (by rw [(lo_hi (r := r) (dst := (r - 1)) (by omega) (by omega)).1, Nat.min_eq_right (by omega)]) ?_
  refine az_istore C (lv' := [(7, .int (nI (r - 1))), (6, .int ((nI (smV M f t r (r - 1))))), (5, .int (nI (r - 1))), (4, .int (nI r)), (3, .ref ((rN ρ 0 q08).1 100)), (0, .ref (ρ.1 0)), (1, .int (nI k)), (2, .int 0)]) dL_passes_83 (by decide) rfl ?_
  have eS := sail_0p (nr := nr) (f := f) (t := t) (m := keepsM M) (r := r) h1
  have nz := can_no hz (by omega)
  rw [eS] at nz
  have hb := smV_bd (m := M) (f := f) (t := t) (r := r) (dst := (r - 1)) hn6 hrn (show r - 1 < nr by omega) (by omega) (by omega)
  have hat' : (sailM nr f t (r - 1) 6 (keepsM M) r 0).1.1 13 k = nI (r - 1) := (S19.at4 hk).symm.trans (by rw [atX_4, if_pos ⟨rfl, hin⟩])
  have e14 : ∀ d, (sailM nr f t (r - 1) 6 (keepsM M) r 0).1.1 14 d = M.1 14 d := fun d => by rw [eS]; exact pasM_p (by omega)
  have e8 : (sailM nr f t (r - 1) 6 (keepsM M) r 0).1.1 8 (r - 1) = M.1 8 (r - 1) := by rw [eS]; exact pasM_p (by omega)
  have hL := pas_le nz
  have hfl := passM_fl nz
  have efu : fuM (sailM nr f t (r - 1) 6 (keepsM M) r 0).1 (r - 1) = 1 := by rw [eS]; exact if_neg (hfl.2 rfl)
  refine az_iload C 1 dL_passes_85 rfl ?_
  refine az_if_ge C 158 dL_passes_87 (by decide) (fun _ => ?_) (fun q => absurd (nI_pos' (by omega)) q)
  refine az_iload C 1 dL_passes_158 rfl ?_
  refine az_aload_n C 5 dL_passes_160 rfl ?_
  refine az_iload_n C 6 dL_passes_161 rfl ?_
  refine az_iload C 0 dL_passes_162 rfl ?_
  refine az_callH C Y_L_partsFor [.ref (ρ.1 0), .int (nI k), .int (nI (r - 1))] [.int ((nI (smV M f t r (r - 1))))] wm_L_246 wst_L_partsFor dL_passes_164 rfl (S_parts2 (ρ := (gR (rN ρ 0 q08) a19 C19)) (x := (atX (nI (r - 1)) (tvX (saveX x) n nr f t r (r - 1)).1.1 (f :: t))) (m := (zP m 0 (stM M nr nb n))) (ou := ou) hG (by omega) S19 hk hcs hin (show r - 1 < nr by omega) hat' (lk := (r - 1)) (by omega) (fun d hd => by rw [e14, e8]; exact hL d hd)) rfl (Nat.le_of_ble_eq_true rfl) (Nat.le_of_ble_eq_true rfl) (Nat.le_of_ble_eq_true rfl) (by show _ ≤ 16500; omega) (by show _ ≤ 99500; omega) (az_k1 rfl rfl ?_) (az_k0 rfl)
  refine az_icmp_ne C 202 dL_passes_167 (by decide) (fun q => absurd (by rw [smV_0 h1, ptM_eq e8 e14]) q) (fun _ => ?_)
  refine az_aload_n C 5 dL_passes_170 rfl ?_
  refine az_iload_n C 6 dL_passes_171 rfl ?_
  refine az_callH C Y_L_reachOf [.ref (ρ.1 0), .int (nI k)] [] wm_L_170 wst_L_reachOf dL_passes_172 rfl (S_reachOf (ρ := (gR (rN ρ 0 q08) a19 C19)) (x := (atX (nI (r - 1)) (tvX (saveX x) n nr f t r (r - 1)).1.1 (f :: t))) (m := (zP m 0 (stM M nr nb n))) (ou := ou) hG (by omega) S19 hk hat') rfl (Nat.le_of_ble_eq_true rfl) (Nat.le_of_ble_eq_true rfl) (Nat.le_of_ble_eq_true rfl) (by show _ ≤ 16500; omega) (by show _ ≤ 99500; omega) (az_k1 rfl rfl ?_) (az_k0 rfl)
  refine az_iload C 2 dL_passes_175 rfl ?_
  refine az_icmp_ne C 202 dL_passes_177 (by decide) (fun q => absurd rfl q) (fun _ => ?_)
  refine az_aload_n C 5 dL_passes_180 rfl ?_
  refine az_iload C 0 dL_passes_181 rfl ?_
  refine az_callH C Y_L_isFull [.ref (ρ.1 0), .int (nI (r - 1))] [] wm_L_163 wst_L_isFull dL_passes_183 rfl (S_isFull (ρ := (gR (rN ρ 0 q08) a19 C19)) (x := (atX (nI (r - 1)) (tvX (saveX x) n nr f t r (r - 1)).1.1 (f :: t))) (m := (zP m 0 (stM M nr nb n))) (ou := ou) hG (by omega) S19 (k := (r - 1)) (by omega)) rfl (Nat.le_of_ble_eq_true rfl) (Nat.le_of_ble_eq_true rfl) (Nat.le_of_ble_eq_true rfl) (by show _ ≤ 16500; omega) (by show _ ≤ 99500; omega) (az_k1 rfl rfl ?_) (az_k0 rfl)
  refine az_top (1) efu ?_
  refine az_iload_n C 7 dL_passes_186 rfl ?_
  refine az_if_eq C 194 dL_passes_187 (by decide) (fun _ => ?_) (fun q => absurd (by decide) q)
  refine az_iconst C (v := 1) dL_passes_194 (by decide) ?_
  refine az_icmp_ne C 202 dL_passes_195 (by decide) (fun q => absurd (by decide) q) (fun _ => ?_)
  refine az_iconst C (v := 1) dL_passes_198 (by decide) ?_
  refine az_goto C 203 dL_passes_199 (by decide) ?_
  exact az_zret C .boolean rfl rfl dL_passes_203 (by show _ ≤ 16500; omega) (by show _ ≤ 99500; omega) ⟨_, _, _, _, _, _, rfl, rfl, rfl, rfl, S19⟩

end
