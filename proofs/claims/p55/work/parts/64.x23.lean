section
variable {l : Launch} {G : az_G} {ρ : Rp} {x : Xs} {m : Mz} {ou : Nat → Int64}
set_option maxHeartbeats 2000000 in
set_option maxRecDepth 100000 in
theorem Xtp3_1 (hG : az_okS l G) {p : Program} {e : Env} {s : State} {mm : MethodId} {args : Array Value} {below : List Frame} {meth : Method} {c : Code} (C : az_C l G p s mm args meth c cX3_tryPassage yX3_tryPassage.cls 9 (Option.some FieldType.int) []) {post : az_O → az_A → az_K → Prop} {mc ms k9 n9 : Nat} (hk9 : k9 ≤ mc) (hn9 : n9 ≤ ms) (lk ro ri a1 : Nat) (hri : ri < 6) (ha : ¬ x.1 2 ri < 1) (L : Int32) (b : Nat) (r : List Nat) (hs : XSuf ρ.2.2.2.2.2 x (b :: r)) (ht : ∀ d ∈ b :: r, ¬ x.2.1 d 3 < 1) (hn : (b :: r).Nodup) (hd : ¬ (mxD x (b :: paX x L r (x.2.1 b 1)) 0) < x.1 4 (ri + 3) / x.1 2 ri) (hp : post (.inl (some (.int 3))) (AD ρ) (KK G ρ x m ou)) : az_W l G 9 (az_Q G post below args s mc ms) p e (az_rm 6 mc ms) s mm args below meth c (AD ρ) (KK G ρ x m ou) k9 n9 64 [(7, .ref (ρ.2.2.1 b)), (6, .int (nI ro)), (5, .int (nI ri)), (4, .int L), (3, .int 1), (2, .int (nI lk)), (1, .ref a1), (0, .ref (ρ.1 0))] [] := by
  have he : b :: paX x L r (x.2.1 b 1) ++ epX x L r (x.2.1 b 1) = b :: r := congrArg (List.cons b) (paX_ep r _)
  have hs2 : XSuf ρ.2.2.2.2.2 x (b :: paX x L r (x.2.1 b 1) ++ epX x L r (x.2.1 b 1)) := by rw [he]; exact hs
  have hn2 : (b :: paX x L r (x.2.1 b 1) ++ epX x L r (x.2.1 b 1)).Nodup := by rw [he]; exact hn
  have ht2 : ∀ d ∈ b :: paX x L r (x.2.1 b 1), ¬ x.2.1 d 3 < 1 := fun d h => ht d (he ▸ List.mem_append_left _ h)
  refine az_aload C 0 dX3_tryPassage_64 rfl ?_
  refine az_ifnull C dX3_tryPassage_66 ?_
  refine az_aload C 0 dX3_tryPassage_69 rfl ?_
  refine az_aload C 0 dX3_tryPassage_71 rfl ?_
  refine az_iload C 3 dX3_tryPassage_73 rfl ?_
  refine az_callV C Y_X0_nextPart cX0 1 b [.int L] [.ref (ρ.2.2.1 b)] wm_X3_370 wi_X0_nextPart wse_X0_nextPart dX3_tryPassage_75 rfl (KK_b hs.1) rfl (XnextPart hG b r L hs) rfl (Nat.le_of_ble_eq_true rfl) (Nat.le_of_ble_eq_true rfl) (Nat.le_of_ble_eq_true rfl) (by show k9 + 0 ≤ mc; omega) (by show n9 + 0 ≤ ms; omega) (az_k1 rfl rfl ?_) (az_k0 rfl)
  refine az_callV C Y_X0_greatestDraught cX0 1 b [va_rf ((epX x L r (x.2.1 b 1)).head?.map ρ.2.2.1)] [] wm_X3_366 wi_X0_greatestDraught wse_X0_greatestDraught dX3_tryPassage_78 rfl (KK_b hs.1) rfl (XgDraught hG b (paX x L r (x.2.1 b 1)) (epX x L r (x.2.1 b 1)) hs2 ht2 hn2) rfl (Nat.le_of_ble_eq_true rfl) (Nat.le_of_ble_eq_true rfl) (Nat.le_of_ble_eq_true rfl) (by show k9 + 0 ≤ mc; omega) (by show n9 + 0 ≤ ms; omega) (az_k1 rfl rfl ?_) (az_k0 rfl)
  refine az_istore C (lv' := [(8, .int ((mxD x (b :: paX x L r (x.2.1 b 1)) 0))), (7, .ref (ρ.2.2.1 b)), (6, .int (nI ro)), (5, .int (nI ri)), (4, .int L), (3, .int 1), (2, .int (nI lk)), (1, .ref a1), (0, .ref (ρ.1 0))]) dX3_tryPassage_81 (by decide) rfl ?_
  refine az_iload C 0 dX3_tryPassage_83 rfl ?_
  refine az_aload_n C 8 dX3_tryPassage_85 rfl ?_
  refine az_get C cX3 0 0 0 (v := .ref (ρ.1 1)) wl_X3_12 dX3_tryPassage_86 rfl rfl rfl (by decide) ?_
  refine az_iload C 3 dX3_tryPassage_89 rfl ?_
  refine az_callV C Y_X2_level cX2 0 1 [.int (nI ri)] [.int ((mxD x (b :: paX x L r (x.2.1 b 1)) 0))] wm_X3_98 wi_X2_level wse_X2_level dX3_tryPassage_91 rfl rfl rfl (klevel hG ri hri ha) rfl (Nat.le_of_ble_eq_true rfl) (Nat.le_of_ble_eq_true rfl) (Nat.le_of_ble_eq_true rfl) (by show k9 + 0 ≤ mc; omega) (by show n9 + 0 ≤ ms; omega) (az_k1 rfl rfl ?_) (az_k0 rfl)
  refine az_icmp_lt C 99 dX3_tryPassage_94 (by decide) (fun q => absurd q hd) (fun _ => ?_)
  refine az_iconst C (v := 3) dX3_tryPassage_97 (by decide) ?_
  exact az_iret C rfl dX3_tryPassage_98 (by omega) (by omega) hp
set_option maxHeartbeats 2000000 in
set_option maxRecDepth 100000 in
theorem Xtp4_1 (hG : az_okS l G) {p : Program} {e : Env} {s : State} {mm : MethodId} {args : Array Value} {below : List Frame} {meth : Method} {c : Code} (C : az_C l G p s mm args meth c cX3_tryPassage yX3_tryPassage.cls 9 (Option.some FieldType.int) []) {post : az_O → az_A → az_K → Prop} {mc ms k9 n9 : Nat} (hk9 : k9 ≤ mc) (hn9 : n9 ≤ ms) (lk ro ri a1 b : Nat) (dr L : Int32) (hlk : lk < 5) (hf : x.1 4 (lk + 13) ≤ 0) (hw : x.1 4 (lk + 3) < x.1 3 lk) (hp : post (.inl (some (.int 4))) (AD ρ) (KK G ρ x m ou)) : az_W l G 9 (az_Q G post below args s mc ms) p e (az_rm 6 mc ms) s mm args below meth c (AD ρ) (KK G ρ x m ou) k9 n9 122 [(8, .int dr), (7, .ref (ρ.2.2.1 b)), (6, .int (nI ro)), (5, .int (nI ri)), (4, .int L), (3, .int 1), (2, .int (nI lk)), (1, .ref a1), (0, .ref (ρ.1 0))] [] := by
  refine az_aload_n C 8 dX3_tryPassage_122 rfl ?_
  refine az_get C cX3 0 0 0 (v := .ref (ρ.1 1)) wl_X3_12 dX3_tryPassage_123 rfl rfl rfl (by decide) ?_
  refine az_iload_n C 6 dX3_tryPassage_126 rfl ?_
  refine az_callV C Y_X2_hasFullChamber cX2 0 1 [.int (nI lk)] [] wm_X3_104 wi_X2_hasFullChamber wse_X2_hasFullChamber dX3_tryPassage_127 rfl rfl rfl (kfull hG lk hlk) rfl (Nat.le_of_ble_eq_true rfl) (Nat.le_of_ble_eq_true rfl) (Nat.le_of_ble_eq_true rfl) (by show k9 + 0 ≤ mc; omega) (by show n9 + 0 ≤ ms; omega) (az_k1 rfl rfl ?_) (az_k0 rfl)
  refine az_top (0) (if_pos hf) ?_
  refine az_if_ne C 154 dX3_tryPassage_130 (by decide) (fun q => absurd (by decide) q) (fun _ => ?_)
  refine az_aload_n C 8 dX3_tryPassage_133 rfl ?_
  refine az_get C cX3 0 0 0 (v := .ref (ρ.1 1)) wl_X3_12 dX3_tryPassage_134 rfl rfl rfl (by decide) ?_
  refine az_iload_n C 6 dX3_tryPassage_137 rfl ?_
  refine az_callV C Y_X2_canFill cX2 0 1 [.int (nI lk)] [] wm_X3_111 wi_X2_canFill wse_X2_canFill dX3_tryPassage_138 rfl rfl rfl (XcanFill hG lk hlk) rfl (Nat.le_of_ble_eq_true rfl) (Nat.le_of_ble_eq_true rfl) (Nat.le_of_ble_eq_true rfl) (by show k9 + 0 ≤ mc; omega) (by show n9 + 0 ≤ ms; omega) (az_k1 rfl rfl ?_) (az_k0 rfl)
  refine az_top (0) (if_pos hw) ?_
  refine az_if_ne C 146 dX3_tryPassage_141 (by decide) (fun q => absurd (by decide) q) (fun _ => ?_)
  refine az_iconst C (v := 4) dX3_tryPassage_144 (by decide) ?_
  exact az_iret C rfl dX3_tryPassage_145 (by omega) (by omega) hp
set_option maxHeartbeats 2000000 in
set_option maxRecDepth 100000 in
theorem Xtp5_1 (hG : az_okS l G) {p : Program} {e : Env} {s : State} {mm : MethodId} {args : Array Value} {below : List Frame} {meth : Method} {c : Code} (C : az_C l G p s mm args meth c cX3_tryPassage yX3_tryPassage.cls 9 (Option.some FieldType.int) []) {post : az_O → az_A → az_K → Prop} {mc ms k9 n9 : Nat} (hk9 : k9 ≤ mc) (hn9 : n9 ≤ ms) (lk ro ri a1 b : Nat) (dr L : Int32) (hro : ro < 6) (ha : ¬ x.1 2 ro < 1) (hd : ¬ dr < x.1 4 (ro + 3) / x.1 2 ro) (hp : post (.inl (some (.int 5))) (AD ρ) (KK G ρ x m ou)) : az_W l G 9 (az_Q G post below args s mc ms) p e (az_rm 6 mc ms) s mm args below meth c (AD ρ) (KK G ρ x m ou) k9 n9 166 [(8, .int dr), (7, .ref (ρ.2.2.1 b)), (6, .int (nI ro)), (5, .int (nI ri)), (4, .int L), (3, .int 1), (2, .int (nI lk)), (1, .ref a1), (0, .ref (ρ.1 0))] [] := by
  refine az_iload C 0 dX3_tryPassage_166 rfl ?_
  refine az_aload_n C 8 dX3_tryPassage_168 rfl ?_
  refine az_get C cX3 0 0 0 (v := .ref (ρ.1 1)) wl_X3_12 dX3_tryPassage_169 rfl rfl rfl (by decide) ?_
  refine az_iload C 2 dX3_tryPassage_172 rfl ?_
  refine az_callV C Y_X2_level cX2 0 1 [.int (nI ro)] [.int dr] wm_X3_98 wi_X2_level wse_X2_level dX3_tryPassage_174 rfl rfl rfl (klevel hG ro hro ha) rfl (Nat.le_of_ble_eq_true rfl) (Nat.le_of_ble_eq_true rfl) (Nat.le_of_ble_eq_true rfl) (by show k9 + 0 ≤ mc; omega) (by show n9 + 0 ≤ ms; omega) (az_k1 rfl rfl ?_) (az_k0 rfl)
  refine az_icmp_lt C 182 dX3_tryPassage_177 (by decide) (fun q => absurd q hd) (fun _ => ?_)
  refine az_iconst C (v := 5) dX3_tryPassage_180 (by decide) ?_
  exact az_iret C rfl dX3_tryPassage_181 (by omega) (by omega) hp
set_option maxHeartbeats 2000000 in
set_option maxRecDepth 100000 in
theorem Xtp6_1 (hG : az_okS l G) {p : Program} {e : Env} {s : State} {mm : MethodId} {args : Array Value} {below : List Frame} {meth : Method} {c : Code} (C : az_C l G p s mm args meth c cX3_tryPassage yX3_tryPassage.cls 9 (Option.some FieldType.int) []) {Qx : State → Prop} {mc ms k9 n9 : Nat} (hk9 : k9 ≤ mc) (hn9 : n9 ≤ ms) (lk ro ri a1 b : Nat) (r : List Nat) (dr L : Int32) (hs : XSuf ρ.2.2.2.2.2 x (b :: r)) (hro : ro < 6) (ha : ¬ x.1 2 ro < 1) (hd : dr < x.1 4 (ro + 3) / x.1 2 ro) (hx : az_W l G 9 Qx p e (az_rm 6 mc ms) s mm args below meth c (AD ρ) (KK G ρ x m ou) k9 n9 64 [(7, va_rf ((epX x L r (x.2.1 b 1)).head?.map ρ.2.2.1)), (6, .int (nI ro)), (5, .int (nI ri)), (4, .int L), (3, .int 1), (2, .int (nI lk)), (1, .ref a1), (0, .ref (ρ.1 0))] []) : az_W l G 9 Qx p e (az_rm 6 mc ms) s mm args below meth c (AD ρ) (KK G ρ x m ou) k9 n9 166 [(8, .int dr), (7, .ref (ρ.2.2.1 b)), (6, .int (nI ro)), (5, .int (nI ri)), (4, .int L), (3, .int 1), (2, .int (nI lk)), (1, .ref a1), (0, .ref (ρ.1 0))] [] := by
  refine az_iload C 0 dX3_tryPassage_166 rfl ?_
  refine az_aload_n C 8 dX3_tryPassage_168 rfl ?_
  refine az_get C cX3 0 0 0 (v := .ref (ρ.1 1)) wl_X3_12 dX3_tryPassage_169 rfl rfl rfl (by decide) ?_
  refine az_iload C 2 dX3_tryPassage_172 rfl ?_
  refine az_callV C Y_X2_level cX2 0 1 [.int (nI ro)] [.int dr] wm_X3_98 wi_X2_level wse_X2_level dX3_tryPassage_174 rfl rfl rfl (klevel hG ro hro ha) rfl (Nat.le_of_ble_eq_true rfl) (Nat.le_of_ble_eq_true rfl) (Nat.le_of_ble_eq_true rfl) (by show k9 + 0 ≤ mc; omega) (by show n9 + 0 ≤ ms; omega) (az_k1 rfl rfl ?_) (az_k0 rfl)
  refine az_icmp_lt C 182 dX3_tryPassage_177 (by decide) (fun _ => ?_) (fun q => absurd hd q)
  refine az_aload C 1 dX3_tryPassage_182 rfl ?_
  refine az_iload C 4 dX3_tryPassage_184 rfl ?_
  refine az_callV C Y_X0_nextPart cX0 1 b [.int L] [] wm_X3_370 wi_X0_nextPart wse_X0_nextPart dX3_tryPassage_186 rfl (KK_b hs.1) rfl (XnextPart hG b r L hs) rfl (Nat.le_of_ble_eq_true rfl) (Nat.le_of_ble_eq_true rfl) (Nat.le_of_ble_eq_true rfl) (by show k9 + 0 ≤ mc; omega) (by show n9 + 0 ≤ ms; omega) (az_k1 rfl rfl ?_) (az_k0 rfl)
  refine az_astoreO C (lv' := [(7, va_rf ((epX x L r (x.2.1 b 1)).head?.map ρ.2.2.1)), (8, .int dr), (6, .int (nI ro)), (5, .int (nI ri)), (4, .int L), (3, .int 1), (2, .int (nI lk)), (1, .ref a1), (0, .ref (ρ.1 0))]) dX3_tryPassage_189 (by decide) rfl ?_
  refine az_goto C 64 dX3_tryPassage_191 (by decide) ?_
  exact az_lv [0, 2, 3, 4, 5, 6, 7, 8] rfl hx
set_option maxHeartbeats 2000000 in
set_option maxRecDepth 100000 in
theorem Xtp3_0 (hG : az_okS l G) {p : Program} {e : Env} {s : State} {mm : MethodId} {args : Array Value} {below : List Frame} {meth : Method} {c : Code} (C : az_C l G p s mm args meth c cX3_tryPassage yX3_tryPassage.cls 9 (Option.some FieldType.int) []) {post : az_O → az_A → az_K → Prop} {mc ms k9 n9 : Nat} (hk9 : k9 ≤ mc) (hn9 : n9 ≤ ms) (lk ro ri a1 : Nat) (hri : ri < 6) (ha : ¬ x.1 2 ri < 1) (L : Int32) (b : Nat) (r : List Nat) (hs : XSuf ρ.2.2.2.2.2 x (b :: r)) (ht : ∀ d ∈ b :: r, ¬ x.2.1 d 3 < 1) (hn : (b :: r).Nodup) (hd : ¬ (mxD x (b :: paX x L r (x.2.1 b 1)) 0) < x.1 4 (ri + 3) / x.1 2 ri) (hp : post (.inl (some (.int 3))) (AD ρ) (KK G ρ x m ou)) : az_W l G 9 (az_Q G post below args s mc ms) p e (az_rm 6 mc ms) s mm args below meth c (AD ρ) (KK G ρ x m ou) k9 n9 64 [(7, .ref (ρ.2.2.1 b)), (6, .int (nI ro)), (5, .int (nI ri)), (4, .int L), (3, .int 0), (2, .int (nI lk)), (1, .ref a1), (0, .ref (ρ.1 0))] [] := by
  have he : b :: paX x L r (x.2.1 b 1) ++ epX x L r (x.2.1 b 1) = b :: r := congrArg (List.cons b) (paX_ep r _)
  have hs2 : XSuf ρ.2.2.2.2.2 x (b :: paX x L r (x.2.1 b 1) ++ epX x L r (x.2.1 b 1)) := by rw [he]; exact hs
  have hn2 : (b :: paX x L r (x.2.1 b 1) ++ epX x L r (x.2.1 b 1)).Nodup := by rw [he]; exact hn
  have ht2 : ∀ d ∈ b :: paX x L r (x.2.1 b 1), ¬ x.2.1 d 3 < 1 := fun d h => ht d (he ▸ List.mem_append_left _ h)
  refine az_aload C 0 dX3_tryPassage_64 rfl ?_
  refine az_ifnull C dX3_tryPassage_66 ?_
  refine az_aload C 0 dX3_tryPassage_69 rfl ?_
  refine az_aload C 0 dX3_tryPassage_71 rfl ?_
  refine az_iload C 3 dX3_tryPassage_73 rfl ?_
  refine az_callV C Y_X0_nextPart cX0 1 b [.int L] [.ref (ρ.2.2.1 b)] wm_X3_370 wi_X0_nextPart wse_X0_nextPart dX3_tryPassage_75 rfl (KK_b hs.1) rfl (XnextPart hG b r L hs) rfl (Nat.le_of_ble_eq_true rfl) (Nat.le_of_ble_eq_true rfl) (Nat.le_of_ble_eq_true rfl) (by show k9 + 0 ≤ mc; omega) (by show n9 + 0 ≤ ms; omega) (az_k1 rfl rfl ?_) (az_k0 rfl)
  refine az_callV C Y_X0_greatestDraught cX0 1 b [va_rf ((epX x L r (x.2.1 b 1)).head?.map ρ.2.2.1)] [] wm_X3_366 wi_X0_greatestDraught wse_X0_greatestDraught dX3_tryPassage_78 rfl (KK_b hs.1) rfl (XgDraught hG b (paX x L r (x.2.1 b 1)) (epX x L r (x.2.1 b 1)) hs2 ht2 hn2) rfl (Nat.le_of_ble_eq_true rfl) (Nat.le_of_ble_eq_true rfl) (Nat.le_of_ble_eq_true rfl) (by show k9 + 0 ≤ mc; omega) (by show n9 + 0 ≤ ms; omega) (az_k1 rfl rfl ?_) (az_k0 rfl)
  refine az_istore C (lv' := [(8, .int ((mxD x (b :: paX x L r (x.2.1 b 1)) 0))), (7, .ref (ρ.2.2.1 b)), (6, .int (nI ro)), (5, .int (nI ri)), (4, .int L), (3, .int 0), (2, .int (nI lk)), (1, .ref a1), (0, .ref (ρ.1 0))]) dX3_tryPassage_81 (by decide) rfl ?_
  refine az_iload C 0 dX3_tryPassage_83 rfl ?_
  refine az_aload_n C 8 dX3_tryPassage_85 rfl ?_
  refine az_get C cX3 0 0 0 (v := .ref (ρ.1 1)) wl_X3_12 dX3_tryPassage_86 rfl rfl rfl (by decide) ?_
  refine az_iload C 3 dX3_tryPassage_89 rfl ?_
  refine az_callV C Y_X2_level cX2 0 1 [.int (nI ri)] [.int ((mxD x (b :: paX x L r (x.2.1 b 1)) 0))] wm_X3_98 wi_X2_level wse_X2_level dX3_tryPassage_91 rfl rfl rfl (klevel hG ri hri ha) rfl (Nat.le_of_ble_eq_true rfl) (Nat.le_of_ble_eq_true rfl) (Nat.le_of_ble_eq_true rfl) (by show k9 + 0 ≤ mc; omega) (by show n9 + 0 ≤ ms; omega) (az_k1 rfl rfl ?_) (az_k0 rfl)
  refine az_icmp_lt C 99 dX3_tryPassage_94 (by decide) (fun q => absurd q hd) (fun _ => ?_)
  refine az_iconst C (v := 3) dX3_tryPassage_97 (by decide) ?_
  exact az_iret C rfl dX3_tryPassage_98 (by omega) (by omega) hp
set_option maxHeartbeats 2000000 in
set_option maxRecDepth 100000 in
theorem Xtp4_0 (hG : az_okS l G) {p : Program} {e : Env} {s : State} {mm : MethodId} {args : Array Value} {below : List Frame} {meth : Method} {c : Code} (C : az_C l G p s mm args meth c cX3_tryPassage yX3_tryPassage.cls 9 (Option.some FieldType.int) []) {post : az_O → az_A → az_K → Prop} {mc ms k9 n9 : Nat} (hk9 : k9 ≤ mc) (hn9 : n9 ≤ ms) (lk ro ri a1 b : Nat) (dr L : Int32) (hlk : lk < 5) (hf : x.1 4 (lk + 13) ≤ 0) (hw : x.1 4 (lk + 3) < x.1 3 lk) (hp : post (.inl (some (.int 4))) (AD ρ) (KK G ρ x m ou)) : az_W l G 9 (az_Q G post below args s mc ms) p e (az_rm 6 mc ms) s mm args below meth c (AD ρ) (KK G ρ x m ou) k9 n9 122 [(8, .int dr), (7, .ref (ρ.2.2.1 b)), (6, .int (nI ro)), (5, .int (nI ri)), (4, .int L), (3, .int 0), (2, .int (nI lk)), (1, .ref a1), (0, .ref (ρ.1 0))] [] := by
  refine az_aload_n C 8 dX3_tryPassage_122 rfl ?_
  refine az_get C cX3 0 0 0 (v := .ref (ρ.1 1)) wl_X3_12 dX3_tryPassage_123 rfl rfl rfl (by decide) ?_
  refine az_iload_n C 6 dX3_tryPassage_126 rfl ?_
  refine az_callV C Y_X2_hasFullChamber cX2 0 1 [.int (nI lk)] [] wm_X3_104 wi_X2_hasFullChamber wse_X2_hasFullChamber dX3_tryPassage_127 rfl rfl rfl (kfull hG lk hlk) rfl (Nat.le_of_ble_eq_true rfl) (Nat.le_of_ble_eq_true rfl) (Nat.le_of_ble_eq_true rfl) (by show k9 + 0 ≤ mc; omega) (by show n9 + 0 ≤ ms; omega) (az_k1 rfl rfl ?_) (az_k0 rfl)
  refine az_top (0) (if_pos hf) ?_
  refine az_if_ne C 154 dX3_tryPassage_130 (by decide) (fun q => absurd (by decide) q) (fun _ => ?_)
  refine az_aload_n C 8 dX3_tryPassage_133 rfl ?_
  refine az_get C cX3 0 0 0 (v := .ref (ρ.1 1)) wl_X3_12 dX3_tryPassage_134 rfl rfl rfl (by decide) ?_
  refine az_iload_n C 6 dX3_tryPassage_137 rfl ?_
  refine az_callV C Y_X2_canFill cX2 0 1 [.int (nI lk)] [] wm_X3_111 wi_X2_canFill wse_X2_canFill dX3_tryPassage_138 rfl rfl rfl (XcanFill hG lk hlk) rfl (Nat.le_of_ble_eq_true rfl) (Nat.le_of_ble_eq_true rfl) (Nat.le_of_ble_eq_true rfl) (by show k9 + 0 ≤ mc; omega) (by show n9 + 0 ≤ ms; omega) (az_k1 rfl rfl ?_) (az_k0 rfl)
  refine az_top (0) (if_pos hw) ?_
  refine az_if_ne C 146 dX3_tryPassage_141 (by decide) (fun q => absurd (by decide) q) (fun _ => ?_)
  refine az_iconst C (v := 4) dX3_tryPassage_144 (by decide) ?_
  exact az_iret C rfl dX3_tryPassage_145 (by omega) (by omega) hp
set_option maxHeartbeats 2000000 in
set_option maxRecDepth 100000 in
theorem Xtp5_0 (hG : az_okS l G) {p : Program} {e : Env} {s : State} {mm : MethodId} {args : Array Value} {below : List Frame} {meth : Method} {c : Code} (C : az_C l G p s mm args meth c cX3_tryPassage yX3_tryPassage.cls 9 (Option.some FieldType.int) []) {post : az_O → az_A → az_K → Prop} {mc ms k9 n9 : Nat} (hk9 : k9 ≤ mc) (hn9 : n9 ≤ ms) (lk ro ri a1 b : Nat) (dr L : Int32) (hro : ro < 6) (ha : ¬ x.1 2 ro < 1) (hd : ¬ dr < x.1 4 (ro + 3) / x.1 2 ro) (hp : post (.inl (some (.int 5))) (AD ρ) (KK G ρ x m ou)) : az_W l G 9 (az_Q G post below args s mc ms) p e (az_rm 6 mc ms) s mm args below meth c (AD ρ) (KK G ρ x m ou) k9 n9 166 [(8, .int dr), (7, .ref (ρ.2.2.1 b)), (6, .int (nI ro)), (5, .int (nI ri)), (4, .int L), (3, .int 0), (2, .int (nI lk)), (1, .ref a1), (0, .ref (ρ.1 0))] [] := by
  refine az_iload C 0 dX3_tryPassage_166 rfl ?_
  refine az_aload_n C 8 dX3_tryPassage_168 rfl ?_
  refine az_get C cX3 0 0 0 (v := .ref (ρ.1 1)) wl_X3_12 dX3_tryPassage_169 rfl rfl rfl (by decide) ?_
  refine az_iload C 2 dX3_tryPassage_172 rfl ?_
  refine az_callV C Y_X2_level cX2 0 1 [.int (nI ro)] [.int dr] wm_X3_98 wi_X2_level wse_X2_level dX3_tryPassage_174 rfl rfl rfl (klevel hG ro hro ha) rfl (Nat.le_of_ble_eq_true rfl) (Nat.le_of_ble_eq_true rfl) (Nat.le_of_ble_eq_true rfl) (by show k9 + 0 ≤ mc; omega) (by show n9 + 0 ≤ ms; omega) (az_k1 rfl rfl ?_) (az_k0 rfl)
  refine az_icmp_lt C 182 dX3_tryPassage_177 (by decide) (fun q => absurd q hd) (fun _ => ?_)
  refine az_iconst C (v := 5) dX3_tryPassage_180 (by decide) ?_
  exact az_iret C rfl dX3_tryPassage_181 (by omega) (by omega) hp
set_option maxHeartbeats 2000000 in
set_option maxRecDepth 100000 in
theorem Xtp6_0 (hG : az_okS l G) {p : Program} {e : Env} {s : State} {mm : MethodId} {args : Array Value} {below : List Frame} {meth : Method} {c : Code} (C : az_C l G p s mm args meth c cX3_tryPassage yX3_tryPassage.cls 9 (Option.some FieldType.int) []) {Qx : State → Prop} {mc ms k9 n9 : Nat} (hk9 : k9 ≤ mc) (hn9 : n9 ≤ ms) (lk ro ri a1 b : Nat) (r : List Nat) (dr L : Int32) (hs : XSuf ρ.2.2.2.2.2 x (b :: r)) (hro : ro < 6) (ha : ¬ x.1 2 ro < 1) (hd : dr < x.1 4 (ro + 3) / x.1 2 ro) (hx : az_W l G 9 Qx p e (az_rm 6 mc ms) s mm args below meth c (AD ρ) (KK G ρ x m ou) k9 n9 64 [(7, va_rf ((epX x L r (x.2.1 b 1)).head?.map ρ.2.2.1)), (6, .int (nI ro)), (5, .int (nI ri)), (4, .int L), (3, .int 0), (2, .int (nI lk)), (1, .ref a1), (0, .ref (ρ.1 0))] []) : az_W l G 9 Qx p e (az_rm 6 mc ms) s mm args below meth c (AD ρ) (KK G ρ x m ou) k9 n9 166 [(8, .int dr), (7, .ref (ρ.2.2.1 b)), (6, .int (nI ro)), (5, .int (nI ri)), (4, .int L), (3, .int 0), (2, .int (nI lk)), (1, .ref a1), (0, .ref (ρ.1 0))] [] := by
  refine az_iload C 0 dX3_tryPassage_166 rfl ?_
  refine az_aload_n C 8 dX3_tryPassage_168 rfl ?_
  refine az_get C cX3 0 0 0 (v := .ref (ρ.1 1)) wl_X3_12 dX3_tryPassage_169 rfl rfl rfl (by decide) ?_
  refine az_iload C 2 dX3_tryPassage_172 rfl ?_
  refine az_callV C Y_X2_level cX2 0 1 [.int (nI ro)] [.int dr] wm_X3_98 wi_X2_level wse_X2_level dX3_tryPassage_174 rfl rfl rfl (klevel hG ro hro ha) rfl (Nat.le_of_ble_eq_true rfl) (Nat.le_of_ble_eq_true rfl) (Nat.le_of_ble_eq_true rfl) (by show k9 + 0 ≤ mc; omega) (by show n9 + 0 ≤ ms; omega) (az_k1 rfl rfl ?_) (az_k0 rfl)
  refine az_icmp_lt C 182 dX3_tryPassage_177 (by decide) (fun _ => ?_) (fun q => absurd hd q)
  refine az_aload C 1 dX3_tryPassage_182 rfl ?_
  refine az_iload C 4 dX3_tryPassage_184 rfl ?_
  refine az_callV C Y_X0_nextPart cX0 1 b [.int L] [] wm_X3_370 wi_X0_nextPart wse_X0_nextPart dX3_tryPassage_186 rfl (KK_b hs.1) rfl (XnextPart hG b r L hs) rfl (Nat.le_of_ble_eq_true rfl) (Nat.le_of_ble_eq_true rfl) (Nat.le_of_ble_eq_true rfl) (by show k9 + 0 ≤ mc; omega) (by show n9 + 0 ≤ ms; omega) (az_k1 rfl rfl ?_) (az_k0 rfl)
  refine az_astoreO C (lv' := [(7, va_rf ((epX x L r (x.2.1 b 1)).head?.map ρ.2.2.1)), (8, .int dr), (6, .int (nI ro)), (5, .int (nI ri)), (4, .int L), (3, .int 0), (2, .int (nI lk)), (1, .ref a1), (0, .ref (ρ.1 0))]) dX3_tryPassage_189 (by decide) rfl ?_
  refine az_goto C 64 dX3_tryPassage_191 (by decide) ?_
  exact az_lv [0, 2, 3, 4, 5, 6, 7, 8] rfl hx
set_option maxHeartbeats 2000000 in
set_option maxRecDepth 100000 in
theorem Xtp9_1 (hG : az_okS l G) {p : Program} {e : Env} {s : State} {mm : MethodId} {args : Array Value} {below : List Frame} {meth : Method} {c : Code} (C : az_C l G p s mm args meth c cX3_tryPassage yX3_tryPassage.cls 9 (Option.some FieldType.int) []) {Qx : State → Prop} {mc ms k9 n9 : Nat} (hk9 : k9 ≤ mc) (hn9 : n9 ≤ ms) (lk ro ri a1 b : Nat) (dr L : Int32) (hx : az_W l G 9 Qx p e (az_rm 6 mc ms) s mm args below meth c (AD ρ) (KK G ρ x m ou) k9 n9 122 [(8, .int dr), (7, .ref (ρ.2.2.1 b)), (6, .int (nI ro)), (5, .int (nI ri)), (4, .int L), (3, .int 1), (2, .int (nI lk)), (1, .ref a1), (0, .ref (ρ.1 0))] []) : az_W l G 9 Qx p e (az_rm 6 mc ms) s mm args below meth c (AD ρ) (KK G ρ x m ou) k9 n9 99 [(8, .int dr), (7, .ref (ρ.2.2.1 b)), (6, .int (nI ro)), (5, .int (nI ri)), (4, .int L), (3, .int 1), (2, .int (nI lk)), (1, .ref a1), (0, .ref (ρ.1 0))] [] := by
  refine az_iload_n C 5 dX3_tryPassage_99 rfl ?_
  refine az_if_ne C 122 dX3_tryPassage_100 (by decide) (fun _ => ?_) (fun q => absurd q (by decide))
  exact az_lv [0, 1, 2, 3, 4, 5, 6, 7, 8] rfl hx
set_option maxHeartbeats 2000000 in
set_option maxRecDepth 100000 in
theorem Xtp8_0 (hG : az_okS l G) {p : Program} {e : Env} {s : State} {mm : MethodId} {args : Array Value} {below : List Frame} {meth : Method} {c : Code} (C : az_C l G p s mm args meth c cX3_tryPassage yX3_tryPassage.cls 9 (Option.some FieldType.int) []) {Qx : State → Prop} {mc ms k9 n9 : Nat} (hk9 : k9 ≤ mc) (hn9 : n9 ≤ ms) (lk ro ri a1 b : Nat) (dr L : Int32) (hx : az_W l G 9 Qx p e (az_rm 6 mc ms) s mm args below meth c (AD ρ) (KK G ρ x m ou) k9 n9 166 [(8, .int dr), (7, .ref (ρ.2.2.1 b)), (6, .int (nI ro)), (5, .int (nI ri)), (4, .int L), (3, .int 0), (2, .int (nI lk)), (1, .ref a1), (0, .ref (ρ.1 0))] []) : az_W l G 9 Qx p e (az_rm 6 mc ms) s mm args below meth c (AD ρ) (KK G ρ x m ou) k9 n9 154 [(8, .int dr), (7, .ref (ρ.2.2.1 b)), (6, .int (nI ro)), (5, .int (nI ri)), (4, .int L), (3, .int 0), (2, .int (nI lk)), (1, .ref a1), (0, .ref (ρ.1 0))] [] := by
  refine az_iload_n C 5 dX3_tryPassage_154 rfl ?_
  refine az_if_eq C 166 dX3_tryPassage_155 (by decide) (fun _ => ?_) (fun q => absurd (by decide) q)
  exact az_lv [0, 1, 2, 3, 4, 5, 6, 7, 8] rfl hx
set_option maxHeartbeats 2000000 in
set_option maxRecDepth 100000 in
theorem Xtp7_n (hG : az_okS l G) {p : Program} {e : Env} {s : State} {mm : MethodId} {args : Array Value} {below : List Frame} {meth : Method} {c : Code} (C : az_C l G p s mm args meth c cX3_tryPassage yX3_tryPassage.cls 9 (Option.some FieldType.int) []) {post : az_O → az_A → az_K → Prop} {mc ms k9 n9 : Nat} (hk9 : k9 ≤ mc) (hn9 : n9 ≤ ms) (lk ro ri a1 : Nat) (L : Int32) (dnv : Int32) (hp : post (.inl (some (.int 0))) (AD ρ) (KK G ρ x m ou)) : az_W l G 9 (az_Q G post below args s mc ms) p e (az_rm 6 mc ms) s mm args below meth c (AD ρ) (KK G ρ x m ou) k9 n9 64 [(7, .null), (6, .int (nI ro)), (5, .int (nI ri)), (4, .int L), (3, .int dnv), (2, .int (nI lk)), (1, .ref a1), (0, .ref (ρ.1 0))] [] := by
  refine az_aloadN C 0 dX3_tryPassage_64 rfl ?_
  refine az_ifnullN C 194 dX3_tryPassage_66 (by decide) ?_
  refine az_iconst C (v := 0) dX3_tryPassage_194 (by decide) ?_
  exact az_iret C rfl dX3_tryPassage_195 (by omega) (by omega) hp
end
