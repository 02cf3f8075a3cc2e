section
variable {l : Launch} {G : az_G} {ρ : Rp} {x : Xs} {m : Mz} {ou : Nat → Int64}
theorem epX_w {x' : Xs} {L : Int32} (h : x'.2 = x.2) : ∀ (s9 : List Nat) (used : Int32), epX x' L s9 used = epX x L s9 used
  | [], _ => rfl
  | b :: r, used => by
    unfold epX; rw [h]; split
    · rfl
    · exact epX_w h r _
theorem paX_w {x' : Xs} {L : Int32} (h : x'.2 = x.2) : ∀ (s9 : List Nat) (used : Int32), paX x' L s9 used = paX x L s9 used
  | [], _ => rfl
  | b :: r, used => by
    unfold paX; rw [h]; split
    · rfl
    · rw [paX_w h r]
theorem XSuf_x {nb : Nat} {x' : Xs} (h : x'.2 = x.2) : ∀ {s : List Nat}, XSuf nb x s → XSuf nb x' s
  | [], _ => trivial
  | _ :: _, hs => ⟨hs.1, (by rw [h]; exact hs.2.1), XSuf_x h hs.2.2⟩
theorem tpA_x {n nr lk : Nat} {dn : Bool} : (tpA x n nr lk dn).1.2 = x.2 := by unfold tpA; split; exact em_x; rfl
theorem tpB_x {n lk : Nat} : (tpB x n lk).1.2 = x.2 := by unfold tpB; split; exact fi_x; rfl
theorem tpC_x {n nr lk : Nat} {dn : Bool} : (tpC x n nr lk dn).1.2 = x.2 := by unfold tpC; split; exact em_x; rfl
theorem tpA_1 {n nr lk p j : Nat} {dn : Bool} (h4 : p ≠ 4) (h5 : p ≠ 5) (h8 : p ≠ 8) (h0 : p ≠ 20) (h1 : p ≠ 21) (h2 : p ≠ 22) : (tpA x n nr lk dn).1.1 p j = x.1 p j := by unfold tpA; split; exact em_1 h4 h5 h8 h0 h1 h2; rfl
theorem tpB_1 {n lk p j : Nat} (h4 : p ≠ 4) (h8 : p ≠ 8) (h0 : p ≠ 20) (h1 : p ≠ 21) (h2 : p ≠ 22) : (tpB x n lk).1.1 p j = x.1 p j := by unfold tpB; split; exact fi_1 h4 h8 h0 h1 h2; rfl
theorem tpC_1 {n nr lk p j : Nat} {dn : Bool} (h4 : p ≠ 4) (h5 : p ≠ 5) (h8 : p ≠ 8) (h0 : p ≠ 20) (h1 : p ≠ 21) (h2 : p ≠ 22) : (tpC x n nr lk dn).1.1 p j = x.1 p j := by unfold tpC; split; exact em_1 h4 h5 h8 h0 h1 h2; rfl
set_option maxHeartbeats 2000000 in
set_option maxRecDepth 100000 in
theorem Xtp1_1 (hG : az_okS l G) {p : Program} {e : Env} {s : State} {mm : MethodId} {args : Array Value} {below : List Frame} {meth : Method} {c : Code} (C : az_C l G p s mm args meth c cX3_tryPassage yX3_tryPassage.cls 9 (Option.some FieldType.int) []) {Qx : State → Prop} {mc ms k9 n9 : Nat} (lk ro ri a1 : Nat) (hri : ri < 6) (ha : ¬ x.1 2 ri < 1) (L : Int32) (b : Nat) (r : List Nat) (hs : XSuf ρ.2.2.2.2.2 x (b :: r)) (ht : ∀ d ∈ b :: r, ¬ x.2.1 d 3 < 1) (hn : (b :: r).Nodup) (hk9 : k9 ≤ mc) (hn9 : n9 ≤ ms) (hd : (mxD x (b :: paX x L r (x.2.1 b 1)) 0) < x.1 4 (ri + 3) / x.1 2 ri) (hx : az_W l G 9 Qx p e (az_rm 6 mc ms) s mm args below meth c (AD ρ) (KK G ρ x m ou) k9 n9 99 [(8, .int ((mxD x (b :: paX x L r (x.2.1 b 1)) 0))), (7, .ref (ρ.2.2.1 b)), (6, .int (nI ro)), (5, .int (nI ri)), (4, .int L), (3, .int 1), (2, .int (nI lk)), (1, .ref a1), (0, .ref (ρ.1 0))] []) : az_W l G 9 Qx p e (az_rm 6 mc ms) s mm args below meth c (AD ρ) (KK G ρ x m ou) k9 n9 64 [(7, .ref (ρ.2.2.1 b)), (6, .int (nI ro)), (5, .int (nI ri)), (4, .int L), (3, .int 1), (2, .int (nI lk)), (1, .ref a1), (0, .ref (ρ.1 0))] [] := by
  have he : b :: paX x L r (x.2.1 b 1) ++ epX x L r (x.2.1 b 1) = b :: r := congrArg (List.cons b) (paX_ep r _)
  have hs2 : XSuf ρ.2.2.2.2.2 x (b :: paX x L r (x.2.1 b 1) ++ epX x L r (x.2.1 b 1)) := by rw [he]; exact hs
  have hn2 : (b :: paX x L r (x.2.1 b 1) ++ epX x L r (x.2.1 b 1)).Nodup := by rw [he]; exact hn
  have ht2 : ∀ d ∈ b :: paX x L r (x.2.1 b 1), ¬ x.2.1 d 3 < 1 := fun d h => ht d (he ▸ List.mem_append_left _ h)
  refine az_aload C 0 dX3_tryPassage_64 rfl ?_
  refine az_ifnull C dX3_tryPassage_66 ?_
  refine az_aload C 0 dX3_tryPassage_69 rfl ?_
  refine az_aload C 0 dX3_tryPassage_71 rfl ?_
  refine az_iload C 3 dX3_tryPassage_73 rfl ?_
  refine az_callV C Y_X0_nextPart cX0 1 b [.int L] [.ref (ρ.2.2.1 b)] wm_X3_370 wi_X0_nextPart wse_X0_nextPart dX3_tryPassage_75 rfl (KK_b hs.1) rfl (XnextPart hG b r L hs) rfl (Nat.le_of_ble_eq_true rfl) (Nat.le_of_ble_eq_true rfl) (Nat.le_of_ble_eq_true rfl) (by show k9 + 0 ≤ mc; omega) (by show n9 + 0 ≤ ms; omega) (az_k1 rfl rfl ?_) (az_k0 rfl)
  refine az_callV C Y_X0_greatestDraught cX0 1 b [va_rf ((epX x L r (x.2.1 b 1)).head?.map ρ.2.2.1)] [] wm_X3_366 wi_X0_greatestDraught wse_X0_greatestDraught dX3_tryPassage_78 rfl (KK_b hs.1) rfl (XgDraught hG b (paX x L r (x.2.1 b 1)) (epX x L r (x.2.1 b 1)) hs2 ht2 hn2) rfl (Nat.le_of_ble_eq_true rfl) (Nat.le_of_ble_eq_true rfl) (Nat.le_of_ble_eq_true rfl) (by show k9 + 0 ≤ mc; omega) (by show n9 + 0 ≤ ms; omega) (az_k1 rfl rfl ?_) (az_k0 rfl)
  refine az_istore C (lv' := [(8, .int ((mxD x (b :: paX x L r (x.2.1 b 1)) 0))), (7, .ref (ρ.2.2.1 b)), (6, .int (nI ro)), (5, .int (nI ri)), (4, .int L), (3, .int 1), (2, .int (nI lk)), (1, .ref a1), (0, .ref (ρ.1 0))]) dX3_tryPassage_81 (by decide) rfl ?_
  refine az_iload C 0 dX3_tryPassage_83 rfl ?_
  refine az_aload_n C 8 dX3_tryPassage_85 rfl ?_
  refine az_get C cX3 0 0 0 (v := .ref (ρ.1 1)) wl_X3_12 dX3_tryPassage_86 rfl rfl rfl (by decide) ?_
  refine az_iload C 3 dX3_tryPassage_89 rfl ?_
  refine az_callV C Y_X2_level cX2 0 1 [.int (nI ri)] [.int ((mxD x (b :: paX x L r (x.2.1 b 1)) 0))] wm_X3_98 wi_X2_level wse_X2_level dX3_tryPassage_91 rfl rfl rfl (klevel hG ri hri ha) rfl (Nat.le_of_ble_eq_true rfl) (Nat.le_of_ble_eq_true rfl) (Nat.le_of_ble_eq_true rfl) (by show k9 + 0 ≤ mc; omega) (by show n9 + 0 ≤ ms; omega) (az_k1 rfl rfl ?_) (az_k0 rfl)
  refine az_icmp_lt C 99 dX3_tryPassage_94 (by decide) (fun _ => ?_) (fun q => absurd hd q)
  exact az_lv [0, 1, 2, 3, 4, 5, 6, 7, 8] rfl hx
set_option maxHeartbeats 2000000 in
set_option maxRecDepth 100000 in
theorem Xtp1_0 (hG : az_okS l G) {p : Program} {e : Env} {s : State} {mm : MethodId} {args : Array Value} {below : List Frame} {meth : Method} {c : Code} (C : az_C l G p s mm args meth c cX3_tryPassage yX3_tryPassage.cls 9 (Option.some FieldType.int) []) {Qx : State → Prop} {mc ms k9 n9 : Nat} (lk ro ri a1 : Nat) (hri : ri < 6) (ha : ¬ x.1 2 ri < 1) (L : Int32) (b : Nat) (r : List Nat) (hs : XSuf ρ.2.2.2.2.2 x (b :: r)) (ht : ∀ d ∈ b :: r, ¬ x.2.1 d 3 < 1) (hn : (b :: r).Nodup) (hk9 : k9 ≤ mc) (hn9 : n9 ≤ ms) (hd : (mxD x (b :: paX x L r (x.2.1 b 1)) 0) < x.1 4 (ri + 3) / x.1 2 ri) (hx : az_W l G 9 Qx p e (az_rm 6 mc ms) s mm args below meth c (AD ρ) (KK G ρ x m ou) k9 n9 99 [(8, .int ((mxD x (b :: paX x L r (x.2.1 b 1)) 0))), (7, .ref (ρ.2.2.1 b)), (6, .int (nI ro)), (5, .int (nI ri)), (4, .int L), (3, .int 0), (2, .int (nI lk)), (1, .ref a1), (0, .ref (ρ.1 0))] []) : az_W l G 9 Qx p e (az_rm 6 mc ms) s mm args below meth c (AD ρ) (KK G ρ x m ou) k9 n9 64 [(7, .ref (ρ.2.2.1 b)), (6, .int (nI ro)), (5, .int (nI ri)), (4, .int L), (3, .int 0), (2, .int (nI lk)), (1, .ref a1), (0, .ref (ρ.1 0))] [] := by
  have he : b :: paX x L r (x.2.1 b 1) ++ epX x L r (x.2.1 b 1) = b :: r := congrArg (List.cons b) (paX_ep r _)
  have hs2 : XSuf ρ.2.2.2.2.2 x (b :: paX x L r (x.2.1 b 1) ++ epX x L r (x.2.1 b 1)) := by rw [he]; exact hs
  have hn2 : (b :: paX x L r (x.2.1 b 1) ++ epX x L r (x.2.1 b 1)).Nodup := by rw [he]; exact hn
  have ht2 : ∀ d ∈ b :: paX x L r (x.2.1 b 1), ¬ x.2.1 d 3 < 1 := fun d h => ht d (he ▸ List.mem_append_left _ h)
  refine az_aload C 0 dX3_tryPassage_64 rfl ?_
  refine az_ifnull C dX3_tryPassage_66 ?_
  refine az_aload C 0 dX3_tryPassage_69 rfl ?_
  refine az_aload C 0 dX3_tryPassage_71 rfl ?_
  refine az_iload C 3 dX3_tryPassage_73 rfl ?_
  refine az_callV C Y_X0_nextPart cX0 1 b [.int L] [.ref (ρ.2.2.1 b)] wm_X3_370 wi_X0_nextPart wse_X0_nextPart dX3_tryPassage_75 rfl (KK_b hs.1) rfl (XnextPart hG b r L hs) rfl (Nat.le_of_ble_eq_true rfl) (Nat.le_of_ble_eq_true rfl) (Nat.le_of_ble_eq_true rfl) (by show k9 + 0 ≤ mc; omega) (by show n9 + 0 ≤ ms; omega) (az_k1 rfl rfl ?_) (az_k0 rfl)
  refine az_callV C Y_X0_greatestDraught cX0 1 b [va_rf ((epX x L r (x.2.1 b 1)).head?.map ρ.2.2.1)] [] wm_X3_366 wi_X0_greatestDraught wse_X0_greatestDraught dX3_tryPassage_78 rfl (KK_b hs.1) rfl (XgDraught hG b (paX x L r (x.2.1 b 1)) (epX x L r (x.2.1 b 1)) hs2 ht2 hn2) rfl (Nat.le_of_ble_eq_true rfl) (Nat.le_of_ble_eq_true rfl) (Nat.le_of_ble_eq_true rfl) (by show k9 + 0 ≤ mc; omega) (by show n9 + 0 ≤ ms; omega) (az_k1 rfl rfl ?_) (az_k0 rfl)
  refine az_istore C (lv' := [(8, .int ((mxD x (b :: paX x L r (x.2.1 b 1)) 0))), (7, .ref (ρ.2.2.1 b)), (6, .int (nI ro)), (5, .int (nI ri)), (4, .int L), (3, .int 0), (2, .int (nI lk)), (1, .ref a1), (0, .ref (ρ.1 0))]) dX3_tryPassage_81 (by decide) rfl ?_
  refine az_iload C 0 dX3_tryPassage_83 rfl ?_
  refine az_aload_n C 8 dX3_tryPassage_85 rfl ?_
  refine az_get C cX3 0 0 0 (v := .ref (ρ.1 1)) wl_X3_12 dX3_tryPassage_86 rfl rfl rfl (by decide) ?_
  refine az_iload C 3 dX3_tryPassage_89 rfl ?_
  refine az_callV C Y_X2_level cX2 0 1 [.int (nI ri)] [.int ((mxD x (b :: paX x L r (x.2.1 b 1)) 0))] wm_X3_98 wi_X2_level wse_X2_level dX3_tryPassage_91 rfl rfl rfl (klevel hG ri hri ha) rfl (Nat.le_of_ble_eq_true rfl) (Nat.le_of_ble_eq_true rfl) (Nat.le_of_ble_eq_true rfl) (by show k9 + 0 ≤ mc; omega) (by show n9 + 0 ≤ ms; omega) (az_k1 rfl rfl ?_) (az_k0 rfl)
  refine az_icmp_lt C 99 dX3_tryPassage_94 (by decide) (fun _ => ?_) (fun q => absurd hd q)
  exact az_lv [0, 1, 2, 3, 4, 5, 6, 7, 8] rfl hx
end
