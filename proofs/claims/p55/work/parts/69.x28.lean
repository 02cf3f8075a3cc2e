section
variable {l : Launch} {G : az_G} {ρ : Rp} {x : Xs} {m : Mz} {ou : Nat → Int64}
theorem tvD_01 {nr f : Nat} {t : List Nat} : ∀ (k : Nat) (x : Xs) (n r : Nat), (tvD nr f t k x n r).2 = 0 ∨ (tvD nr f t k x n r).2 = 1
  | 0, _, _, _ => Or.inr rfl
  | k + 1, x, n, r => by
    rw [tvD]; split
    · exact tvD_01 k _ _ _
    · exact Or.inl rfl
theorem tvU_01 {nr f : Nat} {t : List Nat} : ∀ (k : Nat) (x : Xs) (n r : Nat), (tvU nr f t k x n r).2 = 0 ∨ (tvU nr f t k x n r).2 = 1
  | 0, _, _, _ => Or.inr rfl
  | k + 1, x, n, r => by
    rw [tvU]; split
    · exact tvU_01 k _ _ _
    · exact Or.inl rfl
theorem tvX_01 {n nr f r dst : Nat} {t : List Nat} : (tvX x n nr f t r dst).2 = 0 ∨ (tvX x n nr f t r dst).2 = 1 := by
  unfold tvX; split
  · exact tvD_01 _ _ _ _
  · exact tvU_01 _ _ _ _
theorem nar_bq {v : Int32} (h : v = 0 ∨ v = 1) : narrow .boolean (.int v) = .int v := by
  rcases h with rfl | rfl <;> rfl
/-- it throws E, the movements' rows grown -/
def az_gx (G : az_G) (E : String) (ρ : Rp) (C : Nat) (x : Xs) (m : Mz) (ou : Nat → Int64) : az_O → az_A → az_K → Prop := fun o ad' K' => ∃ a : Nat → Nat, a 23 = ρ.2.1 23 ∧ o = .inr E ∧ ad' = AD (gR ρ a C) ∧ K' = KK G (gR ρ a C) x m ou
def carR (y : Xs) : Xs := xI (xI (restoreX y) 0 12 ((restoreX y).1 0 10)) 0 13 ((restoreX y).1 0 11)
def atX (v : Int32) : Xs → List Nat → Xs
  | x, [] => x
  | x, d :: q => atX v (xY x d 4 v) q
set_option maxHeartbeats 4000000 in
set_option maxRecDepth 100000 in
theorem XcanReach (hG : az_okS l G) (nr f r dst : Nat) (t : List Nat) (hr : r < nr) (hd : dst < nr) (hat : x.2.1 f 4 = nI r) (h : PvX ρ.2.2.2.2.2 x nr f t) (n : Nat) (hv : MvX ρ x n (6 * ((t.length + 1) * (nr + 2)))) : az_M l G yX3_canReach (az_ws yX3_canReach cX3_canReach 4 (Option.some FieldType.boolean)) 8 [.ref (ρ.1 0), .ref (ρ.2.2.1 f), .int (nI dst)] (AD ρ) (KK G ρ x m ou) (capT ρ.2.2.2.1 (tvX (saveX x) n nr f t r dst).1.2 - ρ.2.2.2.1) (6 * (capT ρ.2.2.2.1 (tvX (saveX x) n nr f t r dst).1.2 - ρ.2.2.2.1)) (az_g G (some (.int (tvX (saveX x) n nr f t r dst).2)) ρ (capT ρ.2.2.2.1 (tvX (saveX x) n nr f t r dst).1.2) (restoreX (tvX (saveX x) n nr f t r dst).1.1) m ou) := by
  refine az_start hG.1 (by decide +kernel) (Nat.le_of_ble_eq_true rfl) ?_
  intro p e s mm args below meth c C hnm
  show az_W l G 4 _ p e _ s mm args below meth c _ _ 0 0 0 [(0, .ref (ρ.1 0)), (1, .ref (ρ.2.2.1 f)), (2, .int (nI dst))] []
  refine az_aload_n C 0 dX3_canReach_0 rfl ?_
  refine az_get C cX3 0 0 0 (v := .ref (ρ.1 1)) wl_X3_12 dX3_canReach_1 rfl rfl rfl (by decide) ?_
  refine az_callV C Y_X2_save cX2 0 1 [] [] wm_X3_226 wi_X2_save wse_X2_save dX3_canReach_4 rfl rfl rfl (Xsave hG) rfl (Nat.le_of_ble_eq_true rfl) (Nat.le_of_ble_eq_true rfl) (Nat.le_of_ble_eq_true rfl) (by show _ ≤ capT ρ.2.2.2.1 (tvX (saveX x) n nr f t r dst).1.2 - ρ.2.2.2.1; omega) (by show _ ≤ 6 * (capT ρ.2.2.2.1 (tvX (saveX x) n nr f t r dst).1.2 - ρ.2.2.2.1); omega) (az_k1 rfl rfl ?_) (az_k0 rfl)
  refine az_aload_n C 0 dX3_canReach_7 rfl ?_
  refine az_aload_n C 1 dX3_canReach_8 rfl ?_
  refine az_iload_n C 2 dX3_canReach_9 rfl ?_
  refine az_callV C Y_X3_tryVoyage cX3 0 0 [.ref (ρ.2.2.1 f), .int (nI dst)] [] wm_X3_229 wi_X3_tryVoyage wse_X3_tryVoyage dX3_canReach_10 rfl rfl rfl (XtryV (x := saveX x) hG nr f r dst t hr hd hat (h.to rfl (fun _ => rfl) rfl) n (MvX_w hv rfl (fun _ => rfl) (fun _ => rfl) (fun _ => rfl))) rfl (Nat.le_of_ble_eq_true rfl) (Nat.le_of_ble_eq_true rfl) (Nat.le_of_ble_eq_true rfl) (by show _ ≤ capT ρ.2.2.2.1 (tvX (saveX x) n nr f t r dst).1.2 - ρ.2.2.2.1; omega) (by show _ ≤ 6 * (capT ρ.2.2.2.1 (tvX (saveX x) n nr f t r dst).1.2 - ρ.2.2.2.1); omega) ?_ (by rintro E ad9 K9 ⟨q9, -, h9, -⟩; cases h9)
  rintro v9 ad9 K9 ⟨a9, ha9, h9, rfl, rfl⟩
  cases h9
  refine az_istore_n C (lv' := [(3, .int ((tvX (saveX x) n nr f t r dst).2)), (0, .ref (ρ.1 0)), (1, .ref (ρ.2.2.1 f)), (2, .int (nI dst))]) (j := 3) rfl dX3_canReach_13 (by decide) rfl ?_
  refine az_aload_n C 1 dX3_canReach_14 rfl ?_
  refine az_get C cX3 0 0 0 (v := .ref ((gR ρ a9 (capT ρ.2.2.2.1 (tvX (saveX x) n nr f t r dst).1.2)).1 1)) wl_X3_12 dX3_canReach_15 rfl rfl rfl (by decide) ?_
  refine az_callV C Y_X2_restore cX2 0 1 [] [] wm_X3_232 wi_X2_restore wse_X2_restore dX3_canReach_18 rfl rfl rfl (Xrestore (ρ := (gR ρ a9 (capT ρ.2.2.2.1 (tvX (saveX x) n nr f t r dst).1.2))) (x := (tvX (saveX x) n nr f t r dst).1.1) hG) rfl (Nat.le_of_ble_eq_true rfl) (Nat.le_of_ble_eq_true rfl) (Nat.le_of_ble_eq_true rfl) (by show _ ≤ capT ρ.2.2.2.1 (tvX (saveX x) n nr f t r dst).1.2 - ρ.2.2.2.1; omega) (by show _ ≤ 6 * (capT ρ.2.2.2.1 (tvX (saveX x) n nr f t r dst).1.2 - ρ.2.2.2.1); omega) (az_k1 rfl rfl ?_) (az_k0 rfl)
  refine az_iload_n C 0 dX3_canReach_21 rfl ?_
  exact az_zret C .boolean rfl (nar_bq tvX_01) dX3_canReach_22 (by show _ ≤ capT ρ.2.2.2.1 (tvX (saveX x) n nr f t r dst).1.2 - ρ.2.2.2.1; omega) (by show _ ≤ 6 * (capT ρ.2.2.2.1 (tvX (saveX x) n nr f t r dst).1.2 - ρ.2.2.2.1); omega) ⟨a9, ha9, rfl, rfl, rfl⟩

def Xcar1Fa (f : Nat) (t : List Nat) (m : Mz) (x : Xs) (a : Int32) (k : Nat) : Int32 := (a + nI ((ptX x (x.1 9 k) (t.length + 1) (f :: t))))
def Xcar1F (f : Nat) (t : List Nat) : Nat → Mz → Xs → Int32 → Nat → Int32
  | 0, m, x, a, _ => a
  | n + 1, m, x, a, k => Xcar1F f t n m x (Xcar1Fa f t m x a k) (k + 1)
set_option maxHeartbeats 4000000 in
set_option maxRecDepth 100000 in
theorem Xcar1 (hG : az_okS l G) {p : Program} {e : Env} {s : State} {mm : MethodId} {args : Array Value} {below : List Frame} {meth : Method} {c : Code} (C : az_C l G p s mm args meth c cX3_carry yX3_carry.cls 5 (Option.some FieldType.int) []) {Qx : State → Prop} {k9 n9 mc ms : Nat} (hk9 : k9 ≤ mc) (hn9 : n9 ≤ ms) (f r dst hi : Nat) (t : List Nat) (hmx : (if nI r < nI dst then nI dst else nI r) = nI hi) (hi5 : hi ≤ 5) : ∀ (n : Nat) (m : Mz) (x : Xs) (a : Int32) (k : Nat) (hk : k + n = hi) (hat : x.2.1 f 4 = nI r) (h : XSuf ρ.2.2.2.2.2 x (f :: t)), az_W l G 5 Qx p e (az_rm 8 mc ms) s mm args below meth c (AD ρ) (KK G ρ x m ou) k9 n9 95 [(4, .int (nI hi)), (3, .int ((Xcar1F f t n m x a k))), (2, .int (nI dst)), (1, .ref (ρ.2.2.1 f)), (0, .ref (ρ.1 0))] [] → az_W l G 5 Qx p e (az_rm 8 mc ms) s mm args below meth c (AD ρ) (KK G ρ x m ou) k9 n9 62 [(4, .int (nI k)), (3, .int a), (2, .int (nI dst)), (1, .ref (ρ.2.2.1 f)), (0, .ref (ρ.1 0))] [] := by
  intro n
  induction n with
  | zero =>
    intro m x a k hk hat h hx
    have hkk : k = hi := by omega
    rw [hkk]
    refine az_iload C 0 dX3_carry_62 rfl ?_
    refine az_aload_n C 3 dX3_carry_64 rfl ?_
    refine az_getN C cX0 1 f 4 (v := .int (x.2.1 f 4)) (az_bw C hG nx_X3_159 rfl) dX3_carry_65 rfl (KK_b h.1) rfl (by decide) ?_
    refine az_top (nI r) hat ?_
    refine az_iload_n C 2 dX3_carry_68 rfl ?_
    refine az_mmax C wm_X3_264 wst_max wini_Math wc_max (Nat.le_of_ble_eq_true rfl) (Nat.le_of_ble_eq_true rfl) (Nat.le_trans (Nat.le_of_eq (Nat.add_zero _)) hk9) (Nat.le_trans (Nat.le_of_eq (Nat.add_zero _)) hn9) dX3_carry_69 ?_
    refine az_top (nI hi) hmx ?_
    refine az_icmp_ge C 95 dX3_carry_72 (by decide) (fun _ => ?_) (fun q => absurd (Int32.le_refl _) q)
    exact az_lv [0, 1, 2, 3, 4] rfl hx
  | succ n ih =>
    intro m x a k hk hat h hx
    refine az_iload C 0 dX3_carry_62 rfl ?_
    refine az_aload_n C 3 dX3_carry_64 rfl ?_
    refine az_getN C cX0 1 f 4 (v := .int (x.2.1 f 4)) (az_bw C hG nx_X3_159 rfl) dX3_carry_65 rfl (KK_b h.1) rfl (by decide) ?_
    refine az_top (nI r) hat ?_
    refine az_iload_n C 2 dX3_carry_68 rfl ?_
    refine az_mmax C wm_X3_264 wst_max wini_Math wc_max (Nat.le_of_ble_eq_true rfl) (Nat.le_of_ble_eq_true rfl) (Nat.le_trans (Nat.le_of_eq (Nat.add_zero _)) hk9) (Nat.le_trans (Nat.le_of_eq (Nat.add_zero _)) hn9) dX3_carry_69 ?_
    refine az_top (nI hi) hmx ?_
    refine az_icmp_ge C 95 dX3_carry_72 (by decide) (fun q => absurd q (nlt_nle (show k < hi by omega) (by omega))) (fun _ => ?_)
    refine az_iload_n C 1 dX3_carry_75 rfl ?_
    refine az_aload_n C 3 dX3_carry_76 rfl ?_
    refine az_aload_n C 4 dX3_carry_77 rfl ?_
    refine az_get C cX3 0 0 1 (v := .ref (ρ.1 9)) wl_X3_16 dX3_carry_78 rfl rfl rfl (by decide) ?_
    refine az_iload C 0 dX3_carry_81 rfl ?_
    refine az_ialdN C 0 9 k (v := x.1 9 k) dX3_carry_83 rfl rfl (by omega) (by decide) rfl ?_
    refine az_callV C Y_X0_parts cX0 1 f [.int (x.1 9 k)] [.int a] wm_X3_209 wi_X0_parts wse_X0_parts dX3_carry_84 rfl (KK_b h.1) rfl (Xparts hG f t (x.1 9 k) h) rfl (Nat.le_of_ble_eq_true rfl) (Nat.le_of_ble_eq_true rfl) (Nat.le_of_ble_eq_true rfl) (Nat.le_trans (Nat.le_of_eq (Nat.add_zero _)) hk9) (Nat.le_trans (Nat.le_of_eq (Nat.add_zero _)) hn9) (az_k1 rfl rfl ?_) (az_k0 rfl)
    refine az_iadd C dX3_carry_87 ?_
    refine az_istore_n C (lv' := [(3, .int ((a + nI ((ptX x (x.1 9 k) (t.length + 1) (f :: t)))))), (4, .int (nI k)), (2, .int (nI dst)), (1, .ref (ρ.2.2.1 f)), (0, .ref (ρ.1 0))]) (j := 3) rfl dX3_carry_88 (by decide) rfl ?_
    refine az_iinc C 1 (v := nI (k + 1)) (lv' := [(4, .int (nI (k + 1))), (3, .int ((a + nI ((ptX x (x.1 9 k) (t.length + 1) (f :: t)))))), (2, .int (nI dst)), (1, .ref (ρ.2.2.1 f)), (0, .ref (ρ.1 0))]) dX3_carry_89 rfl (nI_1 k) (by decide) rfl ?_
    refine az_goto C 62 dX3_carry_92 (by decide) ?_
    exact az_lv [0, 1, 2, 3, 4] rfl (ih m x (Xcar1Fa f t m x a k) (k + 1) (by omega) hat h hx)

set_option maxHeartbeats 4000000 in
set_option maxRecDepth 100000 in
theorem Xcar2 (hG : az_okS l G) {p : Program} {e : Env} {s : State} {mm : MethodId} {args : Array Value} {below : List Frame} {meth : Method} {c : Code} (C : az_C l G p s mm args meth c cX3_carry yX3_carry.cls 5 (Option.some FieldType.int) []) {post : az_O → az_A → az_K → Prop} {mc ms k9 n9 : Nat} (hk9 : k9 ≤ mc) (hn9 : n9 ≤ ms) (dst f : Nat) (acc : Int32) : ∀ (s9 : List Nat) {x : Xs} (hs : XSuf ρ.2.2.2.2.2 x s9) (hp : post (.inl (some (.int acc))) (AD ρ) (KK G ρ (atX (nI dst) x s9) m ou)), az_W l G 5 (az_Q G post below args s mc ms) p e (az_rm 8 mc ms) s mm args below meth c (AD ρ) (KK G ρ x m ou) k9 n9 98 [(4, va_rf ((s9).head?.map ρ.2.2.1)), (3, .int acc), (2, .int (nI dst)), (1, .ref (ρ.2.2.1 f)), (0, .ref (ρ.1 0))] [] := by
  intro s9
  induction s9 with
  | nil =>
    intro x hs hp
    refine az_aloadN C 0 dX3_carry_98 rfl ?_
    refine az_ifnullN C 119 dX3_carry_100 (by decide) ?_
    refine az_iload_n C 1 dX3_carry_119 rfl ?_
    exact az_iret C rfl dX3_carry_120 hk9 hn9 hp
  | cons b s9 ih =>
    intro x hs hp
    refine az_aload C 0 dX3_carry_98 rfl ?_
    refine az_ifnull C dX3_carry_100 ?_
    refine az_aload C 0 dX3_carry_103 rfl ?_
    refine az_iload_n C 2 dX3_carry_105 rfl ?_
    refine az_putN C cX0 1 b 4 (az_bw C hG nx_X3_159 rfl) dX3_carry_106 rfl (KK_b hs.1) (by decide) (Nat.le_of_ble_eq_true rfl) rfl rfl rfl (az_to rfl (K' := (KK G ρ (xY x b 4 (nI dst)) m ou)) (KK_Y (x := x) (k := 4) (v := nI dst) hs.1) ?_)
    refine az_aload C 0 dX3_carry_109 rfl ?_
    refine az_getN C cX0 1 b 7 (v := va_rf ((x.2.2.1 1 b).map ρ.2.2.1)) (az_bw C hG nx_X3_187 rfl) dX3_carry_111 rfl (KK_b hs.1) rfl (by decide) ?_
    refine az_st [va_rf ((s9).head?.map ρ.2.2.1)] (by rw [hs.2.1] <;> rfl) ?_
    refine az_astoreO C (lv' := [(4, va_rf ((s9).head?.map ρ.2.2.1)), (3, .int acc), (2, .int (nI dst)), (1, .ref (ρ.2.2.1 f)), (0, .ref (ρ.1 0))]) dX3_carry_114 (by decide) rfl ?_
    refine az_goto C 98 dX3_carry_116 (by decide) ?_
    exact az_lv [0, 1, 2, 3, 4] rfl (ih (x := (xY x b 4 (nI dst))) (XSuf_w (x := x) (x' := xY x b 4 (nI dst)) (fun _ => rfl) hs.2.2) hp)
set_option maxHeartbeats 4000000 in
set_option maxRecDepth 100000 in
theorem Xcarry0 (hG : az_okS l G) (nr f r dst : Nat) (t : List Nat) (hr : r < nr) (hd : dst < nr) (hat : x.2.1 f 4 = nI r) (h : PvX ρ.2.2.2.2.2 x nr f t) (n : Nat) (hv : MvX ρ x n (6 * ((t.length + 1) * (nr + 2)))) (hz : (tvX (saveX x) n nr f t r dst).2 = 0) : az_M l G yX3_carry (az_ws yX3_carry cX3_carry 5 (Option.some FieldType.int)) 8 [.ref (ρ.1 0), .ref (ρ.2.2.1 f), .int (nI dst)] (AD ρ) (KK G ρ x m ou) (capT ρ.2.2.2.1 (tvX (saveX x) n nr f t r dst).1.2 - ρ.2.2.2.1 + 1) (6 * (capT ρ.2.2.2.1 (tvX (saveX x) n nr f t r dst).1.2 - ρ.2.2.2.1) + 6) (az_gx G "java/lang/UnsupportedOperationException" ρ (capT ρ.2.2.2.1 (tvX (saveX x) n nr f t r dst).1.2) (carR (tvX (saveX x) n nr f t r dst).1.1) m ou) := by
  refine az_start hG.1 (by decide +kernel) (Nat.le_of_ble_eq_true rfl) ?_
  intro p e s mm args below meth c C hnm
  show az_W l G 5 _ p e _ s mm args below meth c _ _ 0 0 0 [(0, .ref (ρ.1 0)), (1, .ref (ρ.2.2.1 f)), (2, .int (nI dst))] []
  refine az_aload_n C 0 dX3_carry_0 rfl ?_
  refine az_get C cX3 0 0 0 (v := .ref (ρ.1 1)) wl_X3_12 dX3_carry_1 rfl rfl rfl (by decide) ?_
  refine az_callV C Y_X2_save cX2 0 1 [] [] wm_X3_226 wi_X2_save wse_X2_save dX3_carry_4 rfl rfl rfl (Xsave hG) rfl (Nat.le_of_ble_eq_true rfl) (Nat.le_of_ble_eq_true rfl) (Nat.le_of_ble_eq_true rfl) (by show _ ≤ capT ρ.2.2.2.1 (tvX (saveX x) n nr f t r dst).1.2 - ρ.2.2.2.1 + 1; omega) (by show _ ≤ 6 * (capT ρ.2.2.2.1 (tvX (saveX x) n nr f t r dst).1.2 - ρ.2.2.2.1) + 6; omega) (az_k1 rfl rfl ?_) (az_k0 rfl)
  refine az_aload_n C 0 dX3_carry_7 rfl ?_
  refine az_aload_n C 1 dX3_carry_8 rfl ?_
  refine az_iload_n C 2 dX3_carry_9 rfl ?_
  refine az_callV C Y_X3_tryVoyage cX3 0 0 [.ref (ρ.2.2.1 f), .int (nI dst)] [] wm_X3_229 wi_X3_tryVoyage wse_X3_tryVoyage dX3_carry_10 rfl rfl rfl (XtryV (x := saveX x) hG nr f r dst t hr hd hat (h.to rfl (fun _ => rfl) rfl) n (MvX_w hv rfl (fun _ => rfl) (fun _ => rfl) (fun _ => rfl))) rfl (Nat.le_of_ble_eq_true rfl) (Nat.le_of_ble_eq_true rfl) (Nat.le_of_ble_eq_true rfl) (by show _ ≤ capT ρ.2.2.2.1 (tvX (saveX x) n nr f t r dst).1.2 - ρ.2.2.2.1 + 1; omega) (by show _ ≤ 6 * (capT ρ.2.2.2.1 (tvX (saveX x) n nr f t r dst).1.2 - ρ.2.2.2.1) + 6; omega) ?_ (by rintro E ad9 K9 ⟨q9, -, h9, -⟩; cases h9)
  rintro v9 ad9 K9 ⟨a9, ha9, h9, rfl, rfl⟩
  cases h9
  refine az_if_ne C 50 dX3_carry_13 (by decide) (fun q => absurd hz q) (fun _ => ?_)
  refine az_aload_n C 0 dX3_carry_16 rfl ?_
  refine az_get C cX3 0 0 0 (v := .ref ((gR ρ a9 (capT ρ.2.2.2.1 (tvX (saveX x) n nr f t r dst).1.2)).1 1)) wl_X3_12 dX3_carry_17 rfl rfl rfl (by decide) ?_
  refine az_callV C Y_X2_restore cX2 0 1 [] [] wm_X3_232 wi_X2_restore wse_X2_restore dX3_carry_20 rfl rfl rfl (Xrestore (ρ := (gR ρ a9 (capT ρ.2.2.2.1 (tvX (saveX x) n nr f t r dst).1.2))) (x := (tvX (saveX x) n nr f t r dst).1.1) hG) rfl (Nat.le_of_ble_eq_true rfl) (Nat.le_of_ble_eq_true rfl) (Nat.le_of_ble_eq_true rfl) (by show _ ≤ capT ρ.2.2.2.1 (tvX (saveX x) n nr f t r dst).1.2 - ρ.2.2.2.1 + 1; omega) (by show _ ≤ 6 * (capT ρ.2.2.2.1 (tvX (saveX x) n nr f t r dst).1.2 - ρ.2.2.2.1) + 6; omega) (az_k1 rfl rfl ?_) (az_k0 rfl)
  refine az_aload_n C 0 dX3_carry_23 rfl ?_
  refine az_aload_n C 0 dX3_carry_24 rfl ?_
  refine az_get C cX3 0 0 10 (v := .int ((restoreX (tvX (saveX x) n nr f t r dst).1.1).1 0 10)) wl_X3_351 dX3_carry_25 rfl rfl rfl (by decide) ?_
  refine az_put C cX3 0 0 12 wl_X3_48 dX3_carry_28 rfl rfl (by decide) (Nat.le_of_ble_eq_true rfl) rfl rfl rfl (az_to rfl (K' := (KK G (gR ρ a9 (capT ρ.2.2.2.1 (tvX (saveX x) n nr f t r dst).1.2)) (xI (restoreX (tvX (saveX x) n nr f t r dst).1.1) 0 12 ((restoreX (tvX (saveX x) n nr f t r dst).1.1).1 0 10)) m ou)) (KK_X rfl) ?_)
  refine az_aload_n C 0 dX3_carry_31 rfl ?_
  refine az_aload_n C 0 dX3_carry_32 rfl ?_
  refine az_get C cX3 0 0 11 (v := .int ((restoreX (tvX (saveX x) n nr f t r dst).1.1).1 0 11)) wl_X3_354 dX3_carry_33 rfl rfl rfl (by decide) ?_
  refine az_put C cX3 0 0 13 wl_X3_240 dX3_carry_36 rfl rfl (by decide) (Nat.le_of_ble_eq_true rfl) rfl rfl rfl (az_to rfl (K' := (KK G (gR ρ a9 (capT ρ.2.2.2.1 (tvX (saveX x) n nr f t r dst).1.2)) (xI (xI (restoreX (tvX (saveX x) n nr f t r dst).1.1) 0 12 ((restoreX (tvX (saveX x) n nr f t r dst).1.1).1 0 10)) 0 13 ((restoreX (tvX (saveX x) n nr f t r dst).1.1).1 0 11)) m ou)) (KK_X rfl) ?_)
  exact az_thrSW_UOE C hG (List.mem_of_getElem? (i := 20) rfl) dX3_carry_39 dX3_carry_42 dX3_carry_43 dX3_carry_46 dX3_carry_49 (Nat.le_of_ble_eq_true rfl) (Nat.le_of_ble_eq_true rfl) (by show _ ≤ capT ρ.2.2.2.1 (tvX (saveX x) n nr f t r dst).1.2 - ρ.2.2.2.1 + 1; omega) (by show _ ≤ 6 * (capT ρ.2.2.2.1 (tvX (saveX x) n nr f t r dst).1.2 - ρ.2.2.2.1) + 6; omega) (by show _ ≤ capT ρ.2.2.2.1 (tvX (saveX x) n nr f t r dst).1.2 - ρ.2.2.2.1 + 1; omega) (by show _ ≤ 6 * (capT ρ.2.2.2.1 (tvX (saveX x) n nr f t r dst).1.2 - ρ.2.2.2.1) + 6; omega) ⟨a9, ha9, rfl, rfl, rfl⟩

set_option maxHeartbeats 4000000 in
set_option maxRecDepth 100000 in
theorem Xcarry1 (hG : az_okS l G) (nr f r dst : Nat) (t : List Nat) (hr : r < nr) (hd : dst < nr) (hat : x.2.1 f 4 = nI r) (h : PvX ρ.2.2.2.2.2 x nr f t) (n : Nat) (hv : MvX ρ x n (6 * ((t.length + 1) * (nr + 2)))) (hz : ¬ (tvX (saveX x) n nr f t r dst).2 = 0) (lo hi : Nat) (hlo : (if nI dst < nI r then nI dst else nI r) = nI lo) (hhi : (if nI r < nI dst then nI dst else nI r) = nI hi) (hlh : lo ≤ hi) (hi5 : hi ≤ 5) : az_M l G yX3_carry (az_ws yX3_carry cX3_carry 5 (Option.some FieldType.int)) 8 [.ref (ρ.1 0), .ref (ρ.2.2.1 f), .int (nI dst)] (AD ρ) (KK G ρ x m ou) (capT ρ.2.2.2.1 (tvX (saveX x) n nr f t r dst).1.2 - ρ.2.2.2.1) (6 * (capT ρ.2.2.2.1 (tvX (saveX x) n nr f t r dst).1.2 - ρ.2.2.2.1)) (az_g G (some (.int (Xcar1F f t (hi - lo) m (tvX (saveX x) n nr f t r dst).1.1 0 lo))) ρ (capT ρ.2.2.2.1 (tvX (saveX x) n nr f t r dst).1.2) (atX (nI dst) (tvX (saveX x) n nr f t r dst).1.1 (f :: t)) m ou) := by
  refine az_start hG.1 (by decide +kernel) (Nat.le_of_ble_eq_true rfl) ?_
  intro p e s mm args below meth c C hnm
  show az_W l G 5 _ p e _ s mm args below meth c _ _ 0 0 0 [(0, .ref (ρ.1 0)), (1, .ref (ρ.2.2.1 f)), (2, .int (nI dst))] []
  refine az_aload_n C 0 dX3_carry_0 rfl ?_
  refine az_get C cX3 0 0 0 (v := .ref (ρ.1 1)) wl_X3_12 dX3_carry_1 rfl rfl rfl (by decide) ?_
  refine az_callV C Y_X2_save cX2 0 1 [] [] wm_X3_226 wi_X2_save wse_X2_save dX3_carry_4 rfl rfl rfl (Xsave hG) rfl (Nat.le_of_ble_eq_true rfl) (Nat.le_of_ble_eq_true rfl) (Nat.le_of_ble_eq_true rfl) (by show _ ≤ capT ρ.2.2.2.1 (tvX (saveX x) n nr f t r dst).1.2 - ρ.2.2.2.1; omega) (by show _ ≤ 6 * (capT ρ.2.2.2.1 (tvX (saveX x) n nr f t r dst).1.2 - ρ.2.2.2.1); omega) (az_k1 rfl rfl ?_) (az_k0 rfl)
  refine az_aload_n C 0 dX3_carry_7 rfl ?_
  refine az_aload_n C 1 dX3_carry_8 rfl ?_
  refine az_iload_n C 2 dX3_carry_9 rfl ?_
  refine az_callV C Y_X3_tryVoyage cX3 0 0 [.ref (ρ.2.2.1 f), .int (nI dst)] [] wm_X3_229 wi_X3_tryVoyage wse_X3_tryVoyage dX3_carry_10 rfl rfl rfl (XtryV (x := saveX x) hG nr f r dst t hr hd hat (h.to rfl (fun _ => rfl) rfl) n (MvX_w hv rfl (fun _ => rfl) (fun _ => rfl) (fun _ => rfl))) rfl (Nat.le_of_ble_eq_true rfl) (Nat.le_of_ble_eq_true rfl) (Nat.le_of_ble_eq_true rfl) (by show _ ≤ capT ρ.2.2.2.1 (tvX (saveX x) n nr f t r dst).1.2 - ρ.2.2.2.1; omega) (by show _ ≤ 6 * (capT ρ.2.2.2.1 (tvX (saveX x) n nr f t r dst).1.2 - ρ.2.2.2.1); omega) ?_ (by rintro E ad9 K9 ⟨q9, -, h9, -⟩; cases h9)
  rintro v9 ad9 K9 ⟨a9, ha9, h9, rfl, rfl⟩
  cases h9
  refine az_if_ne C 50 dX3_carry_13 (by decide) (fun _ => ?_) (fun q => absurd q hz)
  refine az_iconst C (v := 0) dX3_carry_50 (by decide) ?_
  refine az_istore_n C (lv' := [(3, .int 0), (0, .ref (ρ.1 0)), (1, .ref (ρ.2.2.1 f)), (2, .int (nI dst))]) (j := 3) rfl dX3_carry_51 (by decide) rfl ?_
  refine az_aload_n C 2 dX3_carry_52 rfl ?_
  refine az_getN C cX0 1 f 4 (v := .int ((tvX (saveX x) n nr f t r dst).1.1.2.1 f 4)) (az_bw C hG nx_X3_159 rfl) dX3_carry_53 rfl (KK_b h.2.2.2.1.1) rfl (by decide) ?_
  refine az_top (nI r) (by rw [tvX_x]; exact hat) ?_
  refine az_iload_n C 3 dX3_carry_56 rfl ?_
  refine az_mmin C wm_X3_131 wst_min wini_Math wc_min (Nat.le_of_ble_eq_true rfl) (Nat.le_of_ble_eq_true rfl) (by show _ ≤ capT ρ.2.2.2.1 (tvX (saveX x) n nr f t r dst).1.2 - ρ.2.2.2.1; omega) (by show _ ≤ 6 * (capT ρ.2.2.2.1 (tvX (saveX x) n nr f t r dst).1.2 - ρ.2.2.2.1); omega) dX3_carry_57 ?_
  refine az_top (nI lo) hlo ?_
  refine az_istore C (lv' := [(4, .int (nI lo)), (3, .int 0), (0, .ref (ρ.1 0)), (1, .ref (ρ.2.2.1 f)), (2, .int (nI dst))]) dX3_carry_60 (by decide) rfl ?_
  refine az_lv [0, 1, 4, 3, 2] rfl (Xcar1 (ρ := (gR ρ a9 (capT ρ.2.2.2.1 (tvX (saveX x) n nr f t r dst).1.2))) hG C (by show _ ≤ capT ρ.2.2.2.1 (tvX (saveX x) n nr f t r dst).1.2 - ρ.2.2.2.1; omega) (by show _ ≤ 6 * (capT ρ.2.2.2.1 (tvX (saveX x) n nr f t r dst).1.2 - ρ.2.2.2.1); omega) f r dst hi t hhi hi5 (hi - lo) m (tvX (saveX x) n nr f t r dst).1.1 0 lo (by omega) (by rw [tvX_x]; exact hat) (XSuf_x (x := x) (tvX_x (x := saveX x)) h.2.2.2.1) ?_)
  refine az_aload_n C 3 dX3_carry_95 rfl ?_
  refine az_astore C (lv' := [(4, .ref (ρ.2.2.1 f)), (3, .int ((Xcar1F f t (hi - lo) m (tvX (saveX x) n nr f t r dst).1.1 0 lo))), (2, .int (nI dst)), (1, .ref (ρ.2.2.1 f)), (0, .ref (ρ.1 0))]) dX3_carry_96 (by decide) rfl ?_
  exact az_lv [0, 1, 2, 3, 4] rfl (Xcar2 (ρ := (gR ρ a9 (capT ρ.2.2.2.1 (tvX (saveX x) n nr f t r dst).1.2))) hG C (by show _ ≤ capT ρ.2.2.2.1 (tvX (saveX x) n nr f t r dst).1.2 - ρ.2.2.2.1; omega) (by show _ ≤ 6 * (capT ρ.2.2.2.1 (tvX (saveX x) n nr f t r dst).1.2 - ρ.2.2.2.1); omega) dst f (Xcar1F f t (hi - lo) m (tvX (saveX x) n nr f t r dst).1.1 0 lo) (f :: t) (XSuf_x (x := x) (tvX_x (x := saveX x)) h.2.2.2.1) ⟨a9, ha9, rfl, rfl, rfl⟩)

set_option maxHeartbeats 4000000 in
set_option maxRecDepth 100000 in
theorem Xpass_0 (hG : az_okS l G) (nb : Nat) (v u : Int32) (hb : x.1 0 7 = nI nb) (hnb : nb = ρ.2.2.2.2.2) (hn : nb ≤ 8) (hv : oo nb v) : az_M l G yX3_pass (az_ws yX3_pass cX3_pass 5 (Option.some FieldType.int)) 9 [.ref (ρ.1 0), .int v, .int u] (AD ρ) (KK G ρ x m ou) 1 6 (az_x "java/lang/IndexOutOfBoundsException" (AD ρ) (KK G ρ x m ou)) := by
  refine az_start hG.1 (by decide +kernel) (Nat.le_of_ble_eq_true rfl) ?_
  intro p e s mm args below meth c C hnm
  show az_W l G 5 _ p e _ s mm args below meth c _ _ 0 0 0 [(0, .ref (ρ.1 0)), (1, .int v), (2, .int u)] []
  refine az_aload_n C 0 dX3_pass_0 rfl ?_
  refine az_iload_n C 1 dX3_pass_1 rfl ?_
  refine az_callV C Y_X3_bargeNumbered cX3 0 0 [.int v] [] wm_X3_155 wi_X3_bargeNumbered wse_X3_bargeNumbered dX3_pass_2 rfl rfl rfl (Xbarge0 hG nb v hb hnb hn hv) rfl (Nat.le_of_ble_eq_true rfl) (Nat.le_of_ble_eq_true rfl) (Nat.le_of_ble_eq_true rfl) (Nat.le_of_ble_eq_true rfl) (Nat.le_of_ble_eq_true rfl) (az_x0 rfl) (az_x1 rfl ?_)
  exact az_out C (fun _ h => by cases h) (Nat.le_of_ble_eq_true rfl) (Nat.le_of_ble_eq_true rfl) ⟨rfl, rfl, rfl⟩

set_option maxHeartbeats 4000000 in
set_option maxRecDepth 100000 in
theorem Xvoyage_0 (hG : az_okS l G) (nb : Nat) (v u : Int32) (hb : x.1 0 7 = nI nb) (hnb : nb = ρ.2.2.2.2.2) (hn : nb ≤ 8) (hv : oo nb v) : az_M l G yX3_voyage (az_ws yX3_voyage cX3_voyage 4 (Option.some FieldType.int)) 9 [.ref (ρ.1 0), .int v, .int u] (AD ρ) (KK G ρ x m ou) 1 6 (az_x "java/lang/IndexOutOfBoundsException" (AD ρ) (KK G ρ x m ou)) := by
  refine az_start hG.1 (by decide +kernel) (Nat.le_of_ble_eq_true rfl) ?_
  intro p e s mm args below meth c C hnm
  show az_W l G 4 _ p e _ s mm args below meth c _ _ 0 0 0 [(0, .ref (ρ.1 0)), (1, .int v), (2, .int u)] []
  refine az_aload_n C 0 dX3_voyage_0 rfl ?_
  refine az_iload_n C 1 dX3_voyage_1 rfl ?_
  refine az_callV C Y_X3_bargeNumbered cX3 0 0 [.int v] [] wm_X3_155 wi_X3_bargeNumbered wse_X3_bargeNumbered dX3_voyage_2 rfl rfl rfl (Xbarge0 hG nb v hb hnb hn hv) rfl (Nat.le_of_ble_eq_true rfl) (Nat.le_of_ble_eq_true rfl) (Nat.le_of_ble_eq_true rfl) (Nat.le_of_ble_eq_true rfl) (Nat.le_of_ble_eq_true rfl) (az_x0 rfl) (az_x1 rfl ?_)
  exact az_out C (fun _ h => by cases h) (Nat.le_of_ble_eq_true rfl) (Nat.le_of_ble_eq_true rfl) ⟨rfl, rfl, rfl⟩

set_option maxHeartbeats 4000000 in
set_option maxRecDepth 100000 in
theorem XisPossible_0 (hG : az_okS l G) (nb : Nat) (v u : Int32) (hb : x.1 0 7 = nI nb) (hnb : nb = ρ.2.2.2.2.2) (hn : nb ≤ 8) (hv : oo nb v) : az_M l G yX3_isPossible (az_ws yX3_isPossible cX3_isPossible 4 (Option.some FieldType.boolean)) 9 [.ref (ρ.1 0), .int v, .int u] (AD ρ) (KK G ρ x m ou) 1 6 (az_x "java/lang/IndexOutOfBoundsException" (AD ρ) (KK G ρ x m ou)) := by
  refine az_start hG.1 (by decide +kernel) (Nat.le_of_ble_eq_true rfl) ?_
  intro p e s mm args below meth c C hnm
  show az_W l G 4 _ p e _ s mm args below meth c _ _ 0 0 0 [(0, .ref (ρ.1 0)), (1, .int v), (2, .int u)] []
  refine az_aload_n C 0 dX3_isPossible_0 rfl ?_
  refine az_iload_n C 1 dX3_isPossible_1 rfl ?_
  refine az_callV C Y_X3_bargeNumbered cX3 0 0 [.int v] [] wm_X3_155 wi_X3_bargeNumbered wse_X3_bargeNumbered dX3_isPossible_2 rfl rfl rfl (Xbarge0 hG nb v hb hnb hn hv) rfl (Nat.le_of_ble_eq_true rfl) (Nat.le_of_ble_eq_true rfl) (Nat.le_of_ble_eq_true rfl) (Nat.le_of_ble_eq_true rfl) (Nat.le_of_ble_eq_true rfl) (az_x0 rfl) (az_x1 rfl ?_)
  exact az_out C (fun _ h => by cases h) (Nat.le_of_ble_eq_true rfl) (Nat.le_of_ble_eq_true rfl) ⟨rfl, rfl, rfl⟩

set_option maxHeartbeats 4000000 in
set_option maxRecDepth 100000 in
theorem XwaterFor_0 (hG : az_okS l G) (nb : Nat) (v u : Int32) (hb : x.1 0 7 = nI nb) (hnb : nb = ρ.2.2.2.2.2) (hn : nb ≤ 8) (hv : oo nb v) : az_M l G yX3_waterFor (az_ws yX3_waterFor cX3_waterFor 7 (Option.some FieldType.int)) 9 [.ref (ρ.1 0), .int v, .int u] (AD ρ) (KK G ρ x m ou) 1 6 (az_x "java/lang/IndexOutOfBoundsException" (AD ρ) (KK G ρ x m ou)) := by
  refine az_start hG.1 (by decide +kernel) (Nat.le_of_ble_eq_true rfl) ?_
  intro p e s mm args below meth c C hnm
  show az_W l G 7 _ p e _ s mm args below meth c _ _ 0 0 0 [(0, .ref (ρ.1 0)), (1, .int v), (2, .int u)] []
  refine az_aload_n C 0 dX3_waterFor_0 rfl ?_
  refine az_iload_n C 1 dX3_waterFor_1 rfl ?_
  refine az_callV C Y_X3_bargeNumbered cX3 0 0 [.int v] [] wm_X3_155 wi_X3_bargeNumbered wse_X3_bargeNumbered dX3_waterFor_2 rfl rfl rfl (Xbarge0 hG nb v hb hnb hn hv) rfl (Nat.le_of_ble_eq_true rfl) (Nat.le_of_ble_eq_true rfl) (Nat.le_of_ble_eq_true rfl) (Nat.le_of_ble_eq_true rfl) (Nat.le_of_ble_eq_true rfl) (az_x0 rfl) (az_x1 rfl ?_)
  exact az_out C (fun _ h => by cases h) (Nat.le_of_ble_eq_true rfl) (Nat.le_of_ble_eq_true rfl) ⟨rfl, rfl, rfl⟩

set_option maxHeartbeats 4000000 in
set_option maxRecDepth 100000 in
theorem Xvoyage_00 (hG : az_okS l G) (nb k : Nat) (hb : x.1 0 7 = nI nb) (hnb : nb = ρ.2.2.2.2.2) (hn : nb ≤ 8) (hk : k + 1 ≤ nb) (rl : List Nat) (f : Nat) (t : List Nat) (hc : XCv ρ.2.2.2.2.2 x k rl f t) (nr : Nat) (v : Int32) (hr : x.1 1 8 = nI nr) (hn6 : nr ≤ 6) (hv : oo nr v) : az_M l G yX3_voyage (az_ws yX3_voyage cX3_voyage 4 (Option.some FieldType.int)) 9 [.ref (ρ.1 0), .int (nI k), .int v] (AD ρ) (KK G ρ x m ou) 1 6 (az_x "java/lang/IndexOutOfBoundsException" (AD ρ) (KK G ρ x m ou)) := by
  refine az_start hG.1 (by decide +kernel) (Nat.le_of_ble_eq_true rfl) ?_
  intro p e s mm args below meth c C hnm
  show az_W l G 4 _ p e _ s mm args below meth c _ _ 0 0 0 [(0, .ref (ρ.1 0)), (1, .int (nI k)), (2, .int v)] []
  refine az_aload_n C 0 dX3_voyage_0 rfl ?_
  refine az_iload_n C 1 dX3_voyage_1 rfl ?_
  refine az_callV C Y_X3_bargeNumbered cX3 0 0 [.int (nI k)] [] wm_X3_155 wi_X3_bargeNumbered wse_X3_bargeNumbered dX3_voyage_2 rfl rfl rfl (Xbarge1 hG nb k hb hnb hn hk) rfl (Nat.le_of_ble_eq_true rfl) (Nat.le_of_ble_eq_true rfl) (Nat.le_of_ble_eq_true rfl) (Nat.le_of_ble_eq_true rfl) (Nat.le_of_ble_eq_true rfl) (az_k1 rfl rfl ?_) (az_k0 rfl)
  refine az_callV C Y_X0_first cX0 1 k [] [] wm_X3_173 wi_X0_first wse_X0_first dX3_voyage_5 rfl (KK_b hc.1.1) rfl (Xfirst hG k rl hc.1) rfl (Nat.le_of_ble_eq_true rfl) (Nat.le_of_ble_eq_true rfl) (Nat.le_of_ble_eq_true rfl) (Nat.le_of_ble_eq_true rfl) (Nat.le_of_ble_eq_true rfl) (az_k1 (by rw [hc.2.1]) rfl ?_) (az_k0 (by rw [hc.2.1]))
  refine az_astore_n C (lv' := [(3, .ref (ρ.2.2.1 f)), (0, .ref (ρ.1 0)), (1, .int (nI k)), (2, .int v)]) (j := 3) rfl dX3_voyage_8 (by decide) rfl ?_
  refine az_aload_n C 1 dX3_voyage_9 rfl ?_
  refine az_iload_n C 3 dX3_voyage_10 rfl ?_
  refine az_callV C Y_X3_needReach cX3 0 0 [.int v] [] wm_X3_78 wi_X3_needReach wse_X3_needReach dX3_voyage_11 rfl rfl rfl (XneedReach0 hG nr v hr hn6 hv) rfl (Nat.le_of_ble_eq_true rfl) (Nat.le_of_ble_eq_true rfl) (Nat.le_of_ble_eq_true rfl) (Nat.le_of_ble_eq_true rfl) (Nat.le_of_ble_eq_true rfl) (az_x0 rfl) (az_x1 rfl ?_)
  exact az_out C (fun _ h => by cases h) (Nat.le_of_ble_eq_true rfl) (Nat.le_of_ble_eq_true rfl) ⟨rfl, rfl, rfl⟩

set_option maxHeartbeats 4000000 in
set_option maxRecDepth 100000 in
theorem XisPossible_00 (hG : az_okS l G) (nb k : Nat) (hb : x.1 0 7 = nI nb) (hnb : nb = ρ.2.2.2.2.2) (hn : nb ≤ 8) (hk : k + 1 ≤ nb) (rl : List Nat) (f : Nat) (t : List Nat) (hc : XCv ρ.2.2.2.2.2 x k rl f t) (nr : Nat) (v : Int32) (hr : x.1 1 8 = nI nr) (hn6 : nr ≤ 6) (hv : oo nr v) : az_M l G yX3_isPossible (az_ws yX3_isPossible cX3_isPossible 4 (Option.some FieldType.boolean)) 9 [.ref (ρ.1 0), .int (nI k), .int v] (AD ρ) (KK G ρ x m ou) 1 6 (az_x "java/lang/IndexOutOfBoundsException" (AD ρ) (KK G ρ x m ou)) := by
  refine az_start hG.1 (by decide +kernel) (Nat.le_of_ble_eq_true rfl) ?_
  intro p e s mm args below meth c C hnm
  show az_W l G 4 _ p e _ s mm args below meth c _ _ 0 0 0 [(0, .ref (ρ.1 0)), (1, .int (nI k)), (2, .int v)] []
  refine az_aload_n C 0 dX3_isPossible_0 rfl ?_
  refine az_iload_n C 1 dX3_isPossible_1 rfl ?_
  refine az_callV C Y_X3_bargeNumbered cX3 0 0 [.int (nI k)] [] wm_X3_155 wi_X3_bargeNumbered wse_X3_bargeNumbered dX3_isPossible_2 rfl rfl rfl (Xbarge1 hG nb k hb hnb hn hk) rfl (Nat.le_of_ble_eq_true rfl) (Nat.le_of_ble_eq_true rfl) (Nat.le_of_ble_eq_true rfl) (Nat.le_of_ble_eq_true rfl) (Nat.le_of_ble_eq_true rfl) (az_k1 rfl rfl ?_) (az_k0 rfl)
  refine az_callV C Y_X0_first cX0 1 k [] [] wm_X3_173 wi_X0_first wse_X0_first dX3_isPossible_5 rfl (KK_b hc.1.1) rfl (Xfirst hG k rl hc.1) rfl (Nat.le_of_ble_eq_true rfl) (Nat.le_of_ble_eq_true rfl) (Nat.le_of_ble_eq_true rfl) (Nat.le_of_ble_eq_true rfl) (Nat.le_of_ble_eq_true rfl) (az_k1 (by rw [hc.2.1]) rfl ?_) (az_k0 (by rw [hc.2.1]))
  refine az_astore_n C (lv' := [(3, .ref (ρ.2.2.1 f)), (0, .ref (ρ.1 0)), (1, .int (nI k)), (2, .int v)]) (j := 3) rfl dX3_isPossible_8 (by decide) rfl ?_
  refine az_aload_n C 1 dX3_isPossible_9 rfl ?_
  refine az_iload_n C 3 dX3_isPossible_10 rfl ?_
  refine az_callV C Y_X3_needReach cX3 0 0 [.int v] [] wm_X3_78 wi_X3_needReach wse_X3_needReach dX3_isPossible_11 rfl rfl rfl (XneedReach0 hG nr v hr hn6 hv) rfl (Nat.le_of_ble_eq_true rfl) (Nat.le_of_ble_eq_true rfl) (Nat.le_of_ble_eq_true rfl) (Nat.le_of_ble_eq_true rfl) (Nat.le_of_ble_eq_true rfl) (az_x0 rfl) (az_x1 rfl ?_)
  exact az_out C (fun _ h => by cases h) (Nat.le_of_ble_eq_true rfl) (Nat.le_of_ble_eq_true rfl) ⟨rfl, rfl, rfl⟩

set_option maxHeartbeats 4000000 in
set_option maxRecDepth 100000 in
theorem XwaterFor_00 (hG : az_okS l G) (nb k : Nat) (hb : x.1 0 7 = nI nb) (hnb : nb = ρ.2.2.2.2.2) (hn : nb ≤ 8) (hk : k + 1 ≤ nb) (rl : List Nat) (f : Nat) (t : List Nat) (hc : XCv ρ.2.2.2.2.2 x k rl f t) (nr : Nat) (v : Int32) (hr : x.1 1 8 = nI nr) (hn6 : nr ≤ 6) (hv : oo nr v) : az_M l G yX3_waterFor (az_ws yX3_waterFor cX3_waterFor 7 (Option.some FieldType.int)) 9 [.ref (ρ.1 0), .int (nI k), .int v] (AD ρ) (KK G ρ x m ou) 1 6 (az_x "java/lang/IndexOutOfBoundsException" (AD ρ) (KK G ρ x m ou)) := by
  refine az_start hG.1 (by decide +kernel) (Nat.le_of_ble_eq_true rfl) ?_
  intro p e s mm args below meth c C hnm
  show az_W l G 7 _ p e _ s mm args below meth c _ _ 0 0 0 [(0, .ref (ρ.1 0)), (1, .int (nI k)), (2, .int v)] []
  refine az_aload_n C 0 dX3_waterFor_0 rfl ?_
  refine az_iload_n C 1 dX3_waterFor_1 rfl ?_
  refine az_callV C Y_X3_bargeNumbered cX3 0 0 [.int (nI k)] [] wm_X3_155 wi_X3_bargeNumbered wse_X3_bargeNumbered dX3_waterFor_2 rfl rfl rfl (Xbarge1 hG nb k hb hnb hn hk) rfl (Nat.le_of_ble_eq_true rfl) (Nat.le_of_ble_eq_true rfl) (Nat.le_of_ble_eq_true rfl) (Nat.le_of_ble_eq_true rfl) (Nat.le_of_ble_eq_true rfl) (az_k1 rfl rfl ?_) (az_k0 rfl)
  refine az_callV C Y_X0_first cX0 1 k [] [] wm_X3_173 wi_X0_first wse_X0_first dX3_waterFor_5 rfl (KK_b hc.1.1) rfl (Xfirst hG k rl hc.1) rfl (Nat.le_of_ble_eq_true rfl) (Nat.le_of_ble_eq_true rfl) (Nat.le_of_ble_eq_true rfl) (Nat.le_of_ble_eq_true rfl) (Nat.le_of_ble_eq_true rfl) (az_k1 (by rw [hc.2.1]) rfl ?_) (az_k0 (by rw [hc.2.1]))
  refine az_astore_n C (lv' := [(3, .ref (ρ.2.2.1 f)), (0, .ref (ρ.1 0)), (1, .int (nI k)), (2, .int v)]) (j := 3) rfl dX3_waterFor_8 (by decide) rfl ?_
  refine az_aload_n C 1 dX3_waterFor_9 rfl ?_
  refine az_iload_n C 3 dX3_waterFor_10 rfl ?_
  refine az_callV C Y_X3_needReach cX3 0 0 [.int v] [] wm_X3_78 wi_X3_needReach wse_X3_needReach dX3_waterFor_11 rfl rfl rfl (XneedReach0 hG nr v hr hn6 hv) rfl (Nat.le_of_ble_eq_true rfl) (Nat.le_of_ble_eq_true rfl) (Nat.le_of_ble_eq_true rfl) (Nat.le_of_ble_eq_true rfl) (Nat.le_of_ble_eq_true rfl) (az_x0 rfl) (az_x1 rfl ?_)
  exact az_out C (fun _ h => by cases h) (Nat.le_of_ble_eq_true rfl) (Nat.le_of_ble_eq_true rfl) ⟨rfl, rfl, rfl⟩

set_option maxHeartbeats 4000000 in
set_option maxRecDepth 100000 in
theorem Xpass1_1 (hG : az_okS l G) (nb k : Nat) (hb : x.1 0 7 = nI nb) (hnb : nb = ρ.2.2.2.2.2) (hn : nb ≤ 8) (hk : k + 1 ≤ nb) (nr f r : Nat) (t : List Nat) (rl : List Nat) (hc : XCv ρ.2.2.2.2.2 x k rl f t) (hr : r < nr) (hat : x.2.1 f 4 = nI r) (h : PvX ρ.2.2.2.2.2 x nr f t) (he : r + 1 = nr) : az_M l G yX3_pass (az_ws yX3_pass cX3_pass 5 (Option.some FieldType.int)) 9 [.ref (ρ.1 0), .int (nI k), .int 1] (AD ρ) (KK G ρ x m ou) 1 6 (az_x "java/util/NoSuchElementException" (AD ρ) (KK G ρ x m ou)) := by
  refine az_start hG.1 (by decide +kernel) (Nat.le_of_ble_eq_true rfl) ?_
  intro p e s mm args below meth c C hnm
  show az_W l G 5 _ p e _ s mm args below meth c _ _ 0 0 0 [(0, .ref (ρ.1 0)), (1, .int (nI k)), (2, .int 1)] []
  have hn6 := h.2.1
  refine az_aload_n C 0 dX3_pass_0 rfl ?_
  refine az_iload_n C 1 dX3_pass_1 rfl ?_
  refine az_callV C Y_X3_bargeNumbered cX3 0 0 [.int (nI k)] [] wm_X3_155 wi_X3_bargeNumbered wse_X3_bargeNumbered dX3_pass_2 rfl rfl rfl (Xbarge1 hG nb k hb hnb hn hk) rfl (Nat.le_of_ble_eq_true rfl) (Nat.le_of_ble_eq_true rfl) (Nat.le_of_ble_eq_true rfl) (by show _ ≤ 1; omega) (by show _ ≤ 6; omega) (az_k1 rfl rfl ?_) (az_k0 rfl)
  refine az_callV C Y_X0_first cX0 1 k [] [] wm_X3_173 wi_X0_first wse_X0_first dX3_pass_5 rfl (KK_b hc.1.1) rfl (Xfirst hG k rl hc.1) rfl (Nat.le_of_ble_eq_true rfl) (Nat.le_of_ble_eq_true rfl) (Nat.le_of_ble_eq_true rfl) (by show _ ≤ 1; omega) (by show _ ≤ 6; omega) (az_k1 (by rw [hc.2.1]) rfl ?_) (az_k0 (by rw [hc.2.1]))
  refine az_astore_n C (lv' := [(3, .ref (ρ.2.2.1 f)), (0, .ref (ρ.1 0)), (1, .int (nI k)), (2, .int 1)]) (j := 3) rfl dX3_pass_8 (by decide) rfl ?_
  refine az_iload_n C 3 dX3_pass_9 rfl ?_
  refine az_if_eq C 22 dX3_pass_10 (by decide) (fun q => absurd q (by decide)) (fun _ => ?_)
  refine az_aload_n C 0 dX3_pass_13 rfl ?_
  refine az_getN C cX0 1 f 4 (v := .int (x.2.1 f 4)) (az_bw C hG nx_X3_159 rfl) dX3_pass_14 rfl (KK_b hc.2.2.1) rfl (by decide) ?_
  refine az_top (nI r) hat ?_
  refine az_iconst C (v := 1) dX3_pass_17 (by decide) ?_
  refine az_iadd C dX3_pass_18 ?_
  refine az_top (nI (r + 1)) (nI_1 r) ?_
  refine az_goto C 28 dX3_pass_19 (by decide) ?_
  refine az_istore C (lv' := [(4, .int (nI (r + 1))), (3, .ref (ρ.2.2.1 f)), (0, .ref (ρ.1 0)), (1, .int (nI k)), (2, .int 1)]) dX3_pass_28 (by decide) rfl ?_
  refine az_iload C 0 dX3_pass_30 rfl ?_
  refine az_if_lt C 47 dX3_pass_32 (by decide) (fun q => absurd q (Int32.not_lt.mpr (nI_pos' (by omega)))) (fun _ => ?_)
  refine az_iload C 0 dX3_pass_35 rfl ?_
  refine az_aload_n C 2 dX3_pass_37 rfl ?_
  refine az_get C cX3 0 0 0 (v := .ref (ρ.1 1)) wl_X3_12 dX3_pass_38 rfl rfl rfl (by decide) ?_
  refine az_getN C cX2 0 1 8 (v := .int (x.1 1 8)) (az_bw C hG nx_X3_67 rfl) dX3_pass_41 rfl rfl rfl (by decide) ?_
  refine az_top (nI nr) h.1 ?_
  refine az_icmp_lt C 57 dX3_pass_44 (by decide) (fun q => absurd q (fun z => by rw [he] at z; exact Int32.lt_irrefl z)) (fun _ => ?_)
  exact az_thrS_NSE C hG (List.mem_of_getElem? (i := 22) rfl) dX3_pass_47 dX3_pass_50 dX3_pass_51 dX3_pass_53 dX3_pass_56 (Nat.le_of_ble_eq_true rfl) (Nat.le_of_ble_eq_true rfl) (Nat.le_of_ble_eq_true rfl) (Nat.le_of_ble_eq_true rfl) (Nat.le_of_ble_eq_true rfl) (Nat.le_of_ble_eq_true rfl) ⟨rfl, rfl, rfl⟩

set_option maxHeartbeats 4000000 in
set_option maxRecDepth 100000 in
theorem Xpass1_3 (hG : az_okS l G) (nb k : Nat) (hb : x.1 0 7 = nI nb) (hnb : nb = ρ.2.2.2.2.2) (hn : nb ≤ 8) (hk : k + 1 ≤ nb) (nr f r : Nat) (t : List Nat) (rl : List Nat) (hc : XCv ρ.2.2.2.2.2 x k rl f t) (hr : r < nr) (hat : x.2.1 f 4 = nI r) (h : PvX ρ.2.2.2.2.2 x nr f t) (hd : r + 1 < nr) (n : Nat) (hv : MvX ρ x n (6 * ((t.length + 1) * (nr + 2)))) (hz : (tvX (saveX x) n nr f t r (r + 1)).2 = 0) : az_M l G yX3_pass (az_ws yX3_pass cX3_pass 5 (Option.some FieldType.int)) 9 [.ref (ρ.1 0), .int (nI k), .int 1] (AD ρ) (KK G ρ x m ou) (capT ρ.2.2.2.1 (tvX (saveX x) n nr f t r (r + 1)).1.2 - ρ.2.2.2.1 + 1) (6 * (capT ρ.2.2.2.1 (tvX (saveX x) n nr f t r (r + 1)).1.2 - ρ.2.2.2.1) + 6) (az_gx G "java/lang/UnsupportedOperationException" ρ (capT ρ.2.2.2.1 (tvX (saveX x) n nr f t r (r + 1)).1.2) (carR (tvX (saveX x) n nr f t r (r + 1)).1.1) m ou) := by
  refine az_start hG.1 (by decide +kernel) (Nat.le_of_ble_eq_true rfl) ?_
  intro p e s mm args below meth c C hnm
  show az_W l G 5 _ p e _ s mm args below meth c _ _ 0 0 0 [(0, .ref (ρ.1 0)), (1, .int (nI k)), (2, .int 1)] []
  have hn6 := h.2.1
  refine az_aload_n C 0 dX3_pass_0 rfl ?_
  refine az_iload_n C 1 dX3_pass_1 rfl ?_
  refine az_callV C Y_X3_bargeNumbered cX3 0 0 [.int (nI k)] [] wm_X3_155 wi_X3_bargeNumbered wse_X3_bargeNumbered dX3_pass_2 rfl rfl rfl (Xbarge1 hG nb k hb hnb hn hk) rfl (Nat.le_of_ble_eq_true rfl) (Nat.le_of_ble_eq_true rfl) (Nat.le_of_ble_eq_true rfl) (by show _ ≤ capT ρ.2.2.2.1 (tvX (saveX x) n nr f t r (r + 1)).1.2 - ρ.2.2.2.1 + 1; omega) (by show _ ≤ 6 * (capT ρ.2.2.2.1 (tvX (saveX x) n nr f t r (r + 1)).1.2 - ρ.2.2.2.1) + 6; omega) (az_k1 rfl rfl ?_) (az_k0 rfl)
  refine az_callV C Y_X0_first cX0 1 k [] [] wm_X3_173 wi_X0_first wse_X0_first dX3_pass_5 rfl (KK_b hc.1.1) rfl (Xfirst hG k rl hc.1) rfl (Nat.le_of_ble_eq_true rfl) (Nat.le_of_ble_eq_true rfl) (Nat.le_of_ble_eq_true rfl) (by show _ ≤ capT ρ.2.2.2.1 (tvX (saveX x) n nr f t r (r + 1)).1.2 - ρ.2.2.2.1 + 1; omega) (by show _ ≤ 6 * (capT ρ.2.2.2.1 (tvX (saveX x) n nr f t r (r + 1)).1.2 - ρ.2.2.2.1) + 6; omega) (az_k1 (by rw [hc.2.1]) rfl ?_) (az_k0 (by rw [hc.2.1]))
  refine az_astore_n C (lv' := [(3, .ref (ρ.2.2.1 f)), (0, .ref (ρ.1 0)), (1, .int (nI k)), (2, .int 1)]) (j := 3) rfl dX3_pass_8 (by decide) rfl ?_
  refine az_iload_n C 3 dX3_pass_9 rfl ?_
  refine az_if_eq C 22 dX3_pass_10 (by decide) (fun q => absurd q (by decide)) (fun _ => ?_)
  refine az_aload_n C 0 dX3_pass_13 rfl ?_
  refine az_getN C cX0 1 f 4 (v := .int (x.2.1 f 4)) (az_bw C hG nx_X3_159 rfl) dX3_pass_14 rfl (KK_b hc.2.2.1) rfl (by decide) ?_
  refine az_top (nI r) hat ?_
  refine az_iconst C (v := 1) dX3_pass_17 (by decide) ?_
  refine az_iadd C dX3_pass_18 ?_
  refine az_top (nI (r + 1)) (nI_1 r) ?_
  refine az_goto C 28 dX3_pass_19 (by decide) ?_
  refine az_istore C (lv' := [(4, .int (nI (r + 1))), (3, .ref (ρ.2.2.1 f)), (0, .ref (ρ.1 0)), (1, .int (nI k)), (2, .int 1)]) dX3_pass_28 (by decide) rfl ?_
  refine az_iload C 0 dX3_pass_30 rfl ?_
  refine az_if_lt C 47 dX3_pass_32 (by decide) (fun q => absurd q (Int32.not_lt.mpr (nI_pos' (by omega)))) (fun _ => ?_)
  refine az_iload C 0 dX3_pass_35 rfl ?_
  refine az_aload_n C 2 dX3_pass_37 rfl ?_
  refine az_get C cX3 0 0 0 (v := .ref (ρ.1 1)) wl_X3_12 dX3_pass_38 rfl rfl rfl (by decide) ?_
  refine az_getN C cX2 0 1 8 (v := .int (x.1 1 8)) (az_bw C hG nx_X3_67 rfl) dX3_pass_41 rfl rfl rfl (by decide) ?_
  refine az_top (nI nr) h.1 ?_
  refine az_icmp_lt C 57 dX3_pass_44 (by decide) (fun _ => ?_) (fun q => absurd (Int32.not_le.mp (nlt_nle (show (r + 1) < nr by omega) (by omega))) q)
  refine az_aload_n C 2 dX3_pass_57 rfl ?_
  refine az_aload_n C 1 dX3_pass_58 rfl ?_
  refine az_iload C 0 dX3_pass_59 rfl ?_
  refine az_callV C Y_X3_carry cX3 0 0 [.ref (ρ.2.2.1 f), .int (nI (r + 1))] [] wm_X3_214 wi_X3_carry wse_X3_carry dX3_pass_61 rfl rfl rfl (Xcarry0 hG nr f r (r + 1) t hr hd hat h n hv hz) rfl (Nat.le_of_ble_eq_true rfl) (Nat.le_of_ble_eq_true rfl) (Nat.le_of_ble_eq_true rfl) (by show _ ≤ capT ρ.2.2.2.1 (tvX (saveX x) n nr f t r (r + 1)).1.2 - ρ.2.2.2.1 + 1; omega) (by show _ ≤ 6 * (capT ρ.2.2.2.1 (tvX (saveX x) n nr f t r (r + 1)).1.2 - ρ.2.2.2.1) + 6; omega) (by rintro v9 ad9 K9 ⟨q9, -, h9, -⟩; cases h9) ?_
  rintro E9 ad9 K9 ⟨a9, ha9, h9, rfl, rfl⟩
  cases h9
  exact az_out C (fun _ h => by cases h) (by show _ ≤ capT ρ.2.2.2.1 (tvX (saveX x) n nr f t r (r + 1)).1.2 - ρ.2.2.2.1 + 1; omega) (by show _ ≤ 6 * (capT ρ.2.2.2.1 (tvX (saveX x) n nr f t r (r + 1)).1.2 - ρ.2.2.2.1) + 6; omega) ⟨a9, ha9, rfl, rfl, rfl⟩

set_option maxHeartbeats 4000000 in
set_option maxRecDepth 100000 in
theorem Xpass1_2 (hG : az_okS l G) (nb k : Nat) (hb : x.1 0 7 = nI nb) (hnb : nb = ρ.2.2.2.2.2) (hn : nb ≤ 8) (hk : k + 1 ≤ nb) (nr f r : Nat) (t : List Nat) (rl : List Nat) (hc : XCv ρ.2.2.2.2.2 x k rl f t) (hr : r < nr) (hat : x.2.1 f 4 = nI r) (h : PvX ρ.2.2.2.2.2 x nr f t) (hd : r + 1 < nr) (n : Nat) (hv : MvX ρ x n (6 * ((t.length + 1) * (nr + 2)))) (hz : ¬ (tvX (saveX x) n nr f t r (r + 1)).2 = 0) (lo hi : Nat) (hlo : (if nI (r + 1) < nI r then nI (r + 1) else nI r) = nI lo) (hhi : (if nI r < nI (r + 1) then nI (r + 1) else nI r) = nI hi) (hlh : lo ≤ hi) (hi5 : hi ≤ 5) : az_M l G yX3_pass (az_ws yX3_pass cX3_pass 5 (Option.some FieldType.int)) 9 [.ref (ρ.1 0), .int (nI k), .int 1] (AD ρ) (KK G ρ x m ou) (capT ρ.2.2.2.1 (tvX (saveX x) n nr f t r (r + 1)).1.2 - ρ.2.2.2.1) (6 * (capT ρ.2.2.2.1 (tvX (saveX x) n nr f t r (r + 1)).1.2 - ρ.2.2.2.1)) (az_g G (some (.int (Xcar1F f t (hi - lo) m (tvX (saveX x) n nr f t r (r + 1)).1.1 0 lo))) ρ (capT ρ.2.2.2.1 (tvX (saveX x) n nr f t r (r + 1)).1.2) (atX (nI (r + 1)) (tvX (saveX x) n nr f t r (r + 1)).1.1 (f :: t)) m ou) := by
  refine az_start hG.1 (by decide +kernel) (Nat.le_of_ble_eq_true rfl) ?_
  intro p e s mm args below meth c C hnm
  show az_W l G 5 _ p e _ s mm args below meth c _ _ 0 0 0 [(0, .ref (ρ.1 0)), (1, .int (nI k)), (2, .int 1)] []
  have hn6 := h.2.1
  refine az_aload_n C 0 dX3_pass_0 rfl ?_
  refine az_iload_n C 1 dX3_pass_1 rfl ?_
  refine az_callV C Y_X3_bargeNumbered cX3 0 0 [.int (nI k)] [] wm_X3_155 wi_X3_bargeNumbered wse_X3_bargeNumbered dX3_pass_2 rfl rfl rfl (Xbarge1 hG nb k hb hnb hn hk) rfl (Nat.le_of_ble_eq_true rfl) (Nat.le_of_ble_eq_true rfl) (Nat.le_of_ble_eq_true rfl) (by show _ ≤ capT ρ.2.2.2.1 (tvX (saveX x) n nr f t r (r + 1)).1.2 - ρ.2.2.2.1; omega) (by show _ ≤ 6 * (capT ρ.2.2.2.1 (tvX (saveX x) n nr f t r (r + 1)).1.2 - ρ.2.2.2.1); omega) (az_k1 rfl rfl ?_) (az_k0 rfl)
  refine az_callV C Y_X0_first cX0 1 k [] [] wm_X3_173 wi_X0_first wse_X0_first dX3_pass_5 rfl (KK_b hc.1.1) rfl (Xfirst hG k rl hc.1) rfl (Nat.le_of_ble_eq_true rfl) (Nat.le_of_ble_eq_true rfl) (Nat.le_of_ble_eq_true rfl) (by show _ ≤ capT ρ.2.2.2.1 (tvX (saveX x) n nr f t r (r + 1)).1.2 - ρ.2.2.2.1; omega) (by show _ ≤ 6 * (capT ρ.2.2.2.1 (tvX (saveX x) n nr f t r (r + 1)).1.2 - ρ.2.2.2.1); omega) (az_k1 (by rw [hc.2.1]) rfl ?_) (az_k0 (by rw [hc.2.1]))
  refine az_astore_n C (lv' := [(3, .ref (ρ.2.2.1 f)), (0, .ref (ρ.1 0)), (1, .int (nI k)), (2, .int 1)]) (j := 3) rfl dX3_pass_8 (by decide) rfl ?_
  refine az_iload_n C 3 dX3_pass_9 rfl ?_
  refine az_if_eq C 22 dX3_pass_10 (by decide) (fun q => absurd q (by decide)) (fun _ => ?_)
  refine az_aload_n C 0 dX3_pass_13 rfl ?_
  refine az_getN C cX0 1 f 4 (v := .int (x.2.1 f 4)) (az_bw C hG nx_X3_159 rfl) dX3_pass_14 rfl (KK_b hc.2.2.1) rfl (by decide) ?_
  refine az_top (nI r) hat ?_
  refine az_iconst C (v := 1) dX3_pass_17 (by decide) ?_
  refine az_iadd C dX3_pass_18 ?_
  refine az_top (nI (r + 1)) (nI_1 r) ?_
  refine az_goto C 28 dX3_pass_19 (by decide) ?_
  refine az_istore C (lv' := [(4, .int (nI (r + 1))), (3, .ref (ρ.2.2.1 f)), (0, .ref (ρ.1 0)), (1, .int (nI k)), (2, .int 1)]) dX3_pass_28 (by decide) rfl ?_
  refine az_iload C 0 dX3_pass_30 rfl ?_
  refine az_if_lt C 47 dX3_pass_32 (by decide) (fun q => absurd q (Int32.not_lt.mpr (nI_pos' (by omega)))) (fun _ => ?_)
  refine az_iload C 0 dX3_pass_35 rfl ?_
  refine az_aload_n C 2 dX3_pass_37 rfl ?_
  refine az_get C cX3 0 0 0 (v := .ref (ρ.1 1)) wl_X3_12 dX3_pass_38 rfl rfl rfl (by decide) ?_
  refine az_getN C cX2 0 1 8 (v := .int (x.1 1 8)) (az_bw C hG nx_X3_67 rfl) dX3_pass_41 rfl rfl rfl (by decide) ?_
  refine az_top (nI nr) h.1 ?_
  refine az_icmp_lt C 57 dX3_pass_44 (by decide) (fun _ => ?_) (fun q => absurd (Int32.not_le.mp (nlt_nle (show (r + 1) < nr by omega) (by omega))) q)
  refine az_aload_n C 2 dX3_pass_57 rfl ?_
  refine az_aload_n C 1 dX3_pass_58 rfl ?_
  refine az_iload C 0 dX3_pass_59 rfl ?_
  refine az_callV C Y_X3_carry cX3 0 0 [.ref (ρ.2.2.1 f), .int (nI (r + 1))] [] wm_X3_214 wi_X3_carry wse_X3_carry dX3_pass_61 rfl rfl rfl (Xcarry1 hG nr f r (r + 1) t hr hd hat h n hv hz lo hi hlo hhi hlh hi5) rfl (Nat.le_of_ble_eq_true rfl) (Nat.le_of_ble_eq_true rfl) (Nat.le_of_ble_eq_true rfl) (by show _ ≤ capT ρ.2.2.2.1 (tvX (saveX x) n nr f t r (r + 1)).1.2 - ρ.2.2.2.1; omega) (by show _ ≤ 6 * (capT ρ.2.2.2.1 (tvX (saveX x) n nr f t r (r + 1)).1.2 - ρ.2.2.2.1); omega) ?_ (by rintro E ad9 K9 ⟨q9, -, h9, -⟩; cases h9)
  rintro v9 ad9 K9 ⟨a9, ha9, h9, rfl, rfl⟩
  cases h9
  exact az_iret C rfl dX3_pass_64 (by show _ ≤ capT ρ.2.2.2.1 (tvX (saveX x) n nr f t r (r + 1)).1.2 - ρ.2.2.2.1; omega) (by show _ ≤ 6 * (capT ρ.2.2.2.1 (tvX (saveX x) n nr f t r (r + 1)).1.2 - ρ.2.2.2.1); omega) ⟨a9, ha9, rfl, rfl, rfl⟩

set_option maxHeartbeats 4000000 in
set_option maxRecDepth 100000 in
theorem Xpass0_1 (hG : az_okS l G) (nb k : Nat) (hb : x.1 0 7 = nI nb) (hnb : nb = ρ.2.2.2.2.2) (hn : nb ≤ 8) (hk : k + 1 ≤ nb) (nr f r : Nat) (t : List Nat) (rl : List Nat) (hc : XCv ρ.2.2.2.2.2 x k rl f t) (hr : r < nr) (hat : x.2.1 f 4 = nI r) (h : PvX ρ.2.2.2.2.2 x nr f t) (he : r = 0) : az_M l G yX3_pass (az_ws yX3_pass cX3_pass 5 (Option.some FieldType.int)) 9 [.ref (ρ.1 0), .int (nI k), .int 0] (AD ρ) (KK G ρ x m ou) 1 6 (az_x "java/util/NoSuchElementException" (AD ρ) (KK G ρ x m ou)) := by
  refine az_start hG.1 (by decide +kernel) (Nat.le_of_ble_eq_true rfl) ?_
  intro p e s mm args below meth c C hnm
  show az_W l G 5 _ p e _ s mm args below meth c _ _ 0 0 0 [(0, .ref (ρ.1 0)), (1, .int (nI k)), (2, .int 0)] []
  have hn6 := h.2.1
  refine az_aload_n C 0 dX3_pass_0 rfl ?_
  refine az_iload_n C 1 dX3_pass_1 rfl ?_
  refine az_callV C Y_X3_bargeNumbered cX3 0 0 [.int (nI k)] [] wm_X3_155 wi_X3_bargeNumbered wse_X3_bargeNumbered dX3_pass_2 rfl rfl rfl (Xbarge1 hG nb k hb hnb hn hk) rfl (Nat.le_of_ble_eq_true rfl) (Nat.le_of_ble_eq_true rfl) (Nat.le_of_ble_eq_true rfl) (by show _ ≤ 1; omega) (by show _ ≤ 6; omega) (az_k1 rfl rfl ?_) (az_k0 rfl)
  refine az_callV C Y_X0_first cX0 1 k [] [] wm_X3_173 wi_X0_first wse_X0_first dX3_pass_5 rfl (KK_b hc.1.1) rfl (Xfirst hG k rl hc.1) rfl (Nat.le_of_ble_eq_true rfl) (Nat.le_of_ble_eq_true rfl) (Nat.le_of_ble_eq_true rfl) (by show _ ≤ 1; omega) (by show _ ≤ 6; omega) (az_k1 (by rw [hc.2.1]) rfl ?_) (az_k0 (by rw [hc.2.1]))
  refine az_astore_n C (lv' := [(3, .ref (ρ.2.2.1 f)), (0, .ref (ρ.1 0)), (1, .int (nI k)), (2, .int 0)]) (j := 3) rfl dX3_pass_8 (by decide) rfl ?_
  refine az_iload_n C 3 dX3_pass_9 rfl ?_
  refine az_if_eq C 22 dX3_pass_10 (by decide) (fun _ => ?_) (fun q => absurd (by decide) q)
  refine az_aload_n C 0 dX3_pass_22 rfl ?_
  refine az_getN C cX0 1 f 4 (v := .int (x.2.1 f 4)) (az_bw C hG nx_X3_159 rfl) dX3_pass_23 rfl (KK_b hc.2.2.1) rfl (by decide) ?_
  refine az_top (nI 0) (by rw [hat, he]) ?_
  refine az_iconst C (v := 1) dX3_pass_26 (by decide) ?_
  refine az_isub C dX3_pass_27 ?_
  refine az_istore C (lv' := [(4, .int ((nI 0 - 1))), (3, .ref (ρ.2.2.1 f)), (0, .ref (ρ.1 0)), (1, .int (nI k)), (2, .int 0)]) dX3_pass_28 (by decide) rfl ?_
  refine az_iload C 0 dX3_pass_30 rfl ?_
  refine az_if_lt C 47 dX3_pass_32 (by decide) (fun _ => ?_) (fun q => absurd (show nI 0 - 1 < 0 from by decide) q)
  exact az_thrS_NSE C hG (List.mem_of_getElem? (i := 22) rfl) dX3_pass_47 dX3_pass_50 dX3_pass_51 dX3_pass_53 dX3_pass_56 (Nat.le_of_ble_eq_true rfl) (Nat.le_of_ble_eq_true rfl) (Nat.le_of_ble_eq_true rfl) (Nat.le_of_ble_eq_true rfl) (Nat.le_of_ble_eq_true rfl) (Nat.le_of_ble_eq_true rfl) ⟨rfl, rfl, rfl⟩

set_option maxHeartbeats 4000000 in
set_option maxRecDepth 100000 in
theorem Xpass0_3 (hG : az_okS l G) (nb k : Nat) (hb : x.1 0 7 = nI nb) (hnb : nb = ρ.2.2.2.2.2) (hn : nb ≤ 8) (hk : k + 1 ≤ nb) (nr f r : Nat) (t : List Nat) (rl : List Nat) (hc : XCv ρ.2.2.2.2.2 x k rl f t) (hr : r < nr) (hat : x.2.1 f 4 = nI r) (h : PvX ρ.2.2.2.2.2 x nr f t) (hr1 : 1 ≤ r) (hd : r - 1 < nr) (n : Nat) (hv : MvX ρ x n (6 * ((t.length + 1) * (nr + 2)))) (hz : (tvX (saveX x) n nr f t r (r - 1)).2 = 0) : az_M l G yX3_pass (az_ws yX3_pass cX3_pass 5 (Option.some FieldType.int)) 9 [.ref (ρ.1 0), .int (nI k), .int 0] (AD ρ) (KK G ρ x m ou) (capT ρ.2.2.2.1 (tvX (saveX x) n nr f t r (r - 1)).1.2 - ρ.2.2.2.1 + 1) (6 * (capT ρ.2.2.2.1 (tvX (saveX x) n nr f t r (r - 1)).1.2 - ρ.2.2.2.1) + 6) (az_gx G "java/lang/UnsupportedOperationException" ρ (capT ρ.2.2.2.1 (tvX (saveX x) n nr f t r (r - 1)).1.2) (carR (tvX (saveX x) n nr f t r (r - 1)).1.1) m ou) := by
  refine az_start hG.1 (by decide +kernel) (Nat.le_of_ble_eq_true rfl) ?_
  intro p e s mm args below meth c C hnm
  show az_W l G 5 _ p e _ s mm args below meth c _ _ 0 0 0 [(0, .ref (ρ.1 0)), (1, .int (nI k)), (2, .int 0)] []
  have hn6 := h.2.1
  refine az_aload_n C 0 dX3_pass_0 rfl ?_
  refine az_iload_n C 1 dX3_pass_1 rfl ?_
  refine az_callV C Y_X3_bargeNumbered cX3 0 0 [.int (nI k)] [] wm_X3_155 wi_X3_bargeNumbered wse_X3_bargeNumbered dX3_pass_2 rfl rfl rfl (Xbarge1 hG nb k hb hnb hn hk) rfl (Nat.le_of_ble_eq_true rfl) (Nat.le_of_ble_eq_true rfl) (Nat.le_of_ble_eq_true rfl) (by show _ ≤ capT ρ.2.2.2.1 (tvX (saveX x) n nr f t r (r - 1)).1.2 - ρ.2.2.2.1 + 1; omega) (by show _ ≤ 6 * (capT ρ.2.2.2.1 (tvX (saveX x) n nr f t r (r - 1)).1.2 - ρ.2.2.2.1) + 6; omega) (az_k1 rfl rfl ?_) (az_k0 rfl)
  refine az_callV C Y_X0_first cX0 1 k [] [] wm_X3_173 wi_X0_first wse_X0_first dX3_pass_5 rfl (KK_b hc.1.1) rfl (Xfirst hG k rl hc.1) rfl (Nat.le_of_ble_eq_true rfl) (Nat.le_of_ble_eq_true rfl) (Nat.le_of_ble_eq_true rfl) (by show _ ≤ capT ρ.2.2.2.1 (tvX (saveX x) n nr f t r (r - 1)).1.2 - ρ.2.2.2.1 + 1; omega) (by show _ ≤ 6 * (capT ρ.2.2.2.1 (tvX (saveX x) n nr f t r (r - 1)).1.2 - ρ.2.2.2.1) + 6; omega) (az_k1 (by rw [hc.2.1]) rfl ?_) (az_k0 (by rw [hc.2.1]))
  refine az_astore_n C (lv' := [(3, .ref (ρ.2.2.1 f)), (0, .ref (ρ.1 0)), (1, .int (nI k)), (2, .int 0)]) (j := 3) rfl dX3_pass_8 (by decide) rfl ?_
  refine az_iload_n C 3 dX3_pass_9 rfl ?_
  refine az_if_eq C 22 dX3_pass_10 (by decide) (fun _ => ?_) (fun q => absurd (by decide) q)
  refine az_aload_n C 0 dX3_pass_22 rfl ?_
  refine az_getN C cX0 1 f 4 (v := .int (x.2.1 f 4)) (az_bw C hG nx_X3_159 rfl) dX3_pass_23 rfl (KK_b hc.2.2.1) rfl (by decide) ?_
  refine az_top (nI r) hat ?_
  refine az_iconst C (v := 1) dX3_pass_26 (by decide) ?_
  refine az_isub C dX3_pass_27 ?_
  refine az_top (nI (r - 1)) (show nI r - 1 = nI (r - 1) from pk_sub (b := 1) (by omega)) ?_
  refine az_istore C (lv' := [(4, .int (nI (r - 1))), (3, .ref (ρ.2.2.1 f)), (0, .ref (ρ.1 0)), (1, .int (nI k)), (2, .int 0)]) dX3_pass_28 (by decide) rfl ?_
  refine az_iload C 0 dX3_pass_30 rfl ?_
  refine az_if_lt C 47 dX3_pass_32 (by decide) (fun q => absurd q (Int32.not_lt.mpr (nI_pos' (by omega)))) (fun _ => ?_)
  refine az_iload C 0 dX3_pass_35 rfl ?_
  refine az_aload_n C 2 dX3_pass_37 rfl ?_
  refine az_get C cX3 0 0 0 (v := .ref (ρ.1 1)) wl_X3_12 dX3_pass_38 rfl rfl rfl (by decide) ?_
  refine az_getN C cX2 0 1 8 (v := .int (x.1 1 8)) (az_bw C hG nx_X3_67 rfl) dX3_pass_41 rfl rfl rfl (by decide) ?_
  refine az_top (nI nr) h.1 ?_
  refine az_icmp_lt C 57 dX3_pass_44 (by decide) (fun _ => ?_) (fun q => absurd (Int32.not_le.mp (nlt_nle (show (r - 1) < nr by omega) (by omega))) q)
  refine az_aload_n C 2 dX3_pass_57 rfl ?_
  refine az_aload_n C 1 dX3_pass_58 rfl ?_
  refine az_iload C 0 dX3_pass_59 rfl ?_
  refine az_callV C Y_X3_carry cX3 0 0 [.ref (ρ.2.2.1 f), .int (nI (r - 1))] [] wm_X3_214 wi_X3_carry wse_X3_carry dX3_pass_61 rfl rfl rfl (Xcarry0 hG nr f r (r - 1) t hr hd hat h n hv hz) rfl (Nat.le_of_ble_eq_true rfl) (Nat.le_of_ble_eq_true rfl) (Nat.le_of_ble_eq_true rfl) (by show _ ≤ capT ρ.2.2.2.1 (tvX (saveX x) n nr f t r (r - 1)).1.2 - ρ.2.2.2.1 + 1; omega) (by show _ ≤ 6 * (capT ρ.2.2.2.1 (tvX (saveX x) n nr f t r (r - 1)).1.2 - ρ.2.2.2.1) + 6; omega) (by rintro v9 ad9 K9 ⟨q9, -, h9, -⟩; cases h9) ?_
  rintro E9 ad9 K9 ⟨a9, ha9, h9, rfl, rfl⟩
  cases h9
  exact az_out C (fun _ h => by cases h) (by show _ ≤ capT ρ.2.2.2.1 (tvX (saveX x) n nr f t r (r - 1)).1.2 - ρ.2.2.2.1 + 1; omega) (by show _ ≤ 6 * (capT ρ.2.2.2.1 (tvX (saveX x) n nr f t r (r - 1)).1.2 - ρ.2.2.2.1) + 6; omega) ⟨a9, ha9, rfl, rfl, rfl⟩

set_option maxHeartbeats 4000000 in
set_option maxRecDepth 100000 in
theorem Xpass0_2 (hG : az_okS l G) (nb k : Nat) (hb : x.1 0 7 = nI nb) (hnb : nb = ρ.2.2.2.2.2) (hn : nb ≤ 8) (hk : k + 1 ≤ nb) (nr f r : Nat) (t : List Nat) (rl : List Nat) (hc : XCv ρ.2.2.2.2.2 x k rl f t) (hr : r < nr) (hat : x.2.1 f 4 = nI r) (h : PvX ρ.2.2.2.2.2 x nr f t) (hr1 : 1 ≤ r) (hd : r - 1 < nr) (n : Nat) (hv : MvX ρ x n (6 * ((t.length + 1) * (nr + 2)))) (hz : ¬ (tvX (saveX x) n nr f t r (r - 1)).2 = 0) (lo hi : Nat) (hlo : (if nI (r - 1) < nI r then nI (r - 1) else nI r) = nI lo) (hhi : (if nI r < nI (r - 1) then nI (r - 1) else nI r) = nI hi) (hlh : lo ≤ hi) (hi5 : hi ≤ 5) : az_M l G yX3_pass (az_ws yX3_pass cX3_pass 5 (Option.some FieldType.int)) 9 [.ref (ρ.1 0), .int (nI k), .int 0] (AD ρ) (KK G ρ x m ou) (capT ρ.2.2.2.1 (tvX (saveX x) n nr f t r (r - 1)).1.2 - ρ.2.2.2.1) (6 * (capT ρ.2.2.2.1 (tvX (saveX x) n nr f t r (r - 1)).1.2 - ρ.2.2.2.1)) (az_g G (some (.int (Xcar1F f t (hi - lo) m (tvX (saveX x) n nr f t r (r - 1)).1.1 0 lo))) ρ (capT ρ.2.2.2.1 (tvX (saveX x) n nr f t r (r - 1)).1.2) (atX (nI (r - 1)) (tvX (saveX x) n nr f t r (r - 1)).1.1 (f :: t)) m ou) := by
  refine az_start hG.1 (by decide +kernel) (Nat.le_of_ble_eq_true rfl) ?_
  intro p e s mm args below meth c C hnm
  show az_W l G 5 _ p e _ s mm args below meth c _ _ 0 0 0 [(0, .ref (ρ.1 0)), (1, .int (nI k)), (2, .int 0)] []
  have hn6 := h.2.1
  refine az_aload_n C 0 dX3_pass_0 rfl ?_
  refine az_iload_n C 1 dX3_pass_1 rfl ?_
  refine az_callV C Y_X3_bargeNumbered cX3 0 0 [.int (nI k)] [] wm_X3_155 wi_X3_bargeNumbered wse_X3_bargeNumbered dX3_pass_2 rfl rfl rfl (Xbarge1 hG nb k hb hnb hn hk) rfl (Nat.le_of_ble_eq_true rfl) (Nat.le_of_ble_eq_true rfl) (Nat.le_of_ble_eq_true rfl) (by show _ ≤ capT ρ.2.2.2.1 (tvX (saveX x) n nr f t r (r - 1)).1.2 - ρ.2.2.2.1; omega) (by show _ ≤ 6 * (capT ρ.2.2.2.1 (tvX (saveX x) n nr f t r (r - 1)).1.2 - ρ.2.2.2.1); omega) (az_k1 rfl rfl ?_) (az_k0 rfl)
  refine az_callV C Y_X0_first cX0 1 k [] [] wm_X3_173 wi_X0_first wse_X0_first dX3_pass_5 rfl (KK_b hc.1.1) rfl (Xfirst hG k rl hc.1) rfl (Nat.le_of_ble_eq_true rfl) (Nat.le_of_ble_eq_true rfl) (Nat.le_of_ble_eq_true rfl) (by show _ ≤ capT ρ.2.2.2.1 (tvX (saveX x) n nr f t r (r - 1)).1.2 - ρ.2.2.2.1; omega) (by show _ ≤ 6 * (capT ρ.2.2.2.1 (tvX (saveX x) n nr f t r (r - 1)).1.2 - ρ.2.2.2.1); omega) (az_k1 (by rw [hc.2.1]) rfl ?_) (az_k0 (by rw [hc.2.1]))
  refine az_astore_n C (lv' := [(3, .ref (ρ.2.2.1 f)), (0, .ref (ρ.1 0)), (1, .int (nI k)), (2, .int 0)]) (j := 3) rfl dX3_pass_8 (by decide) rfl ?_
  refine az_iload_n C 3 dX3_pass_9 rfl ?_
  refine az_if_eq C 22 dX3_pass_10 (by decide) (fun _ => ?_) (fun q => absurd (by decide) q)
  refine az_aload_n C 0 dX3_pass_22 rfl ?_
  refine az_getN C cX0 1 f 4 (v := .int (x.2.1 f 4)) (az_bw C hG nx_X3_159 rfl) dX3_pass_23 rfl (KK_b hc.2.2.1) rfl (by decide) ?_
  refine az_top (nI r) hat ?_
  refine az_iconst C (v := 1) dX3_pass_26 (by decide) ?_
  refine az_isub C dX3_pass_27 ?_
  refine az_top (nI (r - 1)) (show nI r - 1 = nI (r - 1) from pk_sub (b := 1) (by omega)) ?_
  refine az_istore C (lv' := [(4, .int (nI (r - 1))), (3, .ref (ρ.2.2.1 f)), (0, .ref (ρ.1 0)), (1, .int (nI k)), (2, .int 0)]) dX3_pass_28 (by decide) rfl ?_
  refine az_iload C 0 dX3_pass_30 rfl ?_
  refine az_if_lt C 47 dX3_pass_32 (by decide) (fun q => absurd q (Int32.not_lt.mpr (nI_pos' (by omega)))) (fun _ => ?_)
  refine az_iload C 0 dX3_pass_35 rfl ?_
  refine az_aload_n C 2 dX3_pass_37 rfl ?_
  refine az_get C cX3 0 0 0 (v := .ref (ρ.1 1)) wl_X3_12 dX3_pass_38 rfl rfl rfl (by decide) ?_
  refine az_getN C cX2 0 1 8 (v := .int (x.1 1 8)) (az_bw C hG nx_X3_67 rfl) dX3_pass_41 rfl rfl rfl (by decide) ?_
  refine az_top (nI nr) h.1 ?_
  refine az_icmp_lt C 57 dX3_pass_44 (by decide) (fun _ => ?_) (fun q => absurd (Int32.not_le.mp (nlt_nle (show (r - 1) < nr by omega) (by omega))) q)
  refine az_aload_n C 2 dX3_pass_57 rfl ?_
  refine az_aload_n C 1 dX3_pass_58 rfl ?_
  refine az_iload C 0 dX3_pass_59 rfl ?_
  refine az_callV C Y_X3_carry cX3 0 0 [.ref (ρ.2.2.1 f), .int (nI (r - 1))] [] wm_X3_214 wi_X3_carry wse_X3_carry dX3_pass_61 rfl rfl rfl (Xcarry1 hG nr f r (r - 1) t hr hd hat h n hv hz lo hi hlo hhi hlh hi5) rfl (Nat.le_of_ble_eq_true rfl) (Nat.le_of_ble_eq_true rfl) (Nat.le_of_ble_eq_true rfl) (by show _ ≤ capT ρ.2.2.2.1 (tvX (saveX x) n nr f t r (r - 1)).1.2 - ρ.2.2.2.1; omega) (by show _ ≤ 6 * (capT ρ.2.2.2.1 (tvX (saveX x) n nr f t r (r - 1)).1.2 - ρ.2.2.2.1); omega) ?_ (by rintro E ad9 K9 ⟨q9, -, h9, -⟩; cases h9)
  rintro v9 ad9 K9 ⟨a9, ha9, h9, rfl, rfl⟩
  cases h9
  exact az_iret C rfl dX3_pass_64 (by show _ ≤ capT ρ.2.2.2.1 (tvX (saveX x) n nr f t r (r - 1)).1.2 - ρ.2.2.2.1; omega) (by show _ ≤ 6 * (capT ρ.2.2.2.1 (tvX (saveX x) n nr f t r (r - 1)).1.2 - ρ.2.2.2.1); omega) ⟨a9, ha9, rfl, rfl, rfl⟩

set_option maxHeartbeats 4000000 in
set_option maxRecDepth 100000 in
theorem Xvoyage_1 (hG : az_okS l G) (nb k : Nat) (hb : x.1 0 7 = nI nb) (hnb : nb = ρ.2.2.2.2.2) (hn : nb ≤ 8) (hk : k + 1 ≤ nb) (nr f r dst : Nat) (t : List Nat) (rl : List Nat) (hc : XCv ρ.2.2.2.2.2 x k rl f t) (hr : r < nr) (hd : dst < nr) (hat : x.2.1 f 4 = nI r) (h : PvX ρ.2.2.2.2.2 x nr f t) (he : r = dst) : az_M l G yX3_voyage (az_ws yX3_voyage cX3_voyage 4 (Option.some FieldType.int)) 9 [.ref (ρ.1 0), .int (nI k), .int (nI dst)] (AD ρ) (KK G ρ x m ou) 1 6 (az_x "java/lang/IllegalStateException" (AD ρ) (KK G ρ x m ou)) := by
  refine az_start hG.1 (by decide +kernel) (Nat.le_of_ble_eq_true rfl) ?_
  intro p e s mm args below meth c C hnm
  show az_W l G 4 _ p e _ s mm args below meth c _ _ 0 0 0 [(0, .ref (ρ.1 0)), (1, .int (nI k)), (2, .int (nI dst))] []
  have hn6 := h.2.1
  refine az_aload_n C 0 dX3_voyage_0 rfl ?_
  refine az_iload_n C 1 dX3_voyage_1 rfl ?_
  refine az_callV C Y_X3_bargeNumbered cX3 0 0 [.int (nI k)] [] wm_X3_155 wi_X3_bargeNumbered wse_X3_bargeNumbered dX3_voyage_2 rfl rfl rfl (Xbarge1 hG nb k hb hnb hn hk) rfl (Nat.le_of_ble_eq_true rfl) (Nat.le_of_ble_eq_true rfl) (Nat.le_of_ble_eq_true rfl) (by show _ ≤ 1; omega) (by show _ ≤ 6; omega) (az_k1 rfl rfl ?_) (az_k0 rfl)
  refine az_callV C Y_X0_first cX0 1 k [] [] wm_X3_173 wi_X0_first wse_X0_first dX3_voyage_5 rfl (KK_b hc.1.1) rfl (Xfirst hG k rl hc.1) rfl (Nat.le_of_ble_eq_true rfl) (Nat.le_of_ble_eq_true rfl) (Nat.le_of_ble_eq_true rfl) (by show _ ≤ 1; omega) (by show _ ≤ 6; omega) (az_k1 (by rw [hc.2.1]) rfl ?_) (az_k0 (by rw [hc.2.1]))
  refine az_astore_n C (lv' := [(3, .ref (ρ.2.2.1 f)), (0, .ref (ρ.1 0)), (1, .int (nI k)), (2, .int (nI dst))]) (j := 3) rfl dX3_voyage_8 (by decide) rfl ?_
  refine az_aload_n C 1 dX3_voyage_9 rfl ?_
  refine az_iload_n C 3 dX3_voyage_10 rfl ?_
  refine az_callV C Y_X3_needReach cX3 0 0 [.int (nI dst)] [] wm_X3_78 wi_X3_needReach wse_X3_needReach dX3_voyage_11 rfl rfl rfl (XneedReach1 hG nr dst h.1 h.2.1 (by omega)) rfl (Nat.le_of_ble_eq_true rfl) (Nat.le_of_ble_eq_true rfl) (Nat.le_of_ble_eq_true rfl) (by show _ ≤ 1; omega) (by show _ ≤ 6; omega) (az_k1 rfl rfl ?_) (az_k0 rfl)
  refine az_aload_n C 0 dX3_voyage_14 rfl ?_
  refine az_getN C cX0 1 f 4 (v := .int (x.2.1 f 4)) (az_bw C hG nx_X3_159 rfl) dX3_voyage_15 rfl (KK_b hc.2.2.1) rfl (by decide) ?_
  refine az_top (nI r) hat ?_
  refine az_iload_n C 3 dX3_voyage_18 rfl ?_
  refine az_icmp_ne C 32 dX3_voyage_19 (by decide) (fun q => absurd (by rw [he]) q) (fun _ => ?_)
  exact az_thrS_ISE C hG (List.mem_of_getElem? (i := 19) rfl) dX3_voyage_22 dX3_voyage_25 dX3_voyage_26 dX3_voyage_28 dX3_voyage_31 (Nat.le_of_ble_eq_true rfl) (Nat.le_of_ble_eq_true rfl) (Nat.le_of_ble_eq_true rfl) (Nat.le_of_ble_eq_true rfl) (Nat.le_of_ble_eq_true rfl) (Nat.le_of_ble_eq_true rfl) ⟨rfl, rfl, rfl⟩

set_option maxHeartbeats 4000000 in
set_option maxRecDepth 100000 in
theorem Xvoyage_3 (hG : az_okS l G) (nb k : Nat) (hb : x.1 0 7 = nI nb) (hnb : nb = ρ.2.2.2.2.2) (hn : nb ≤ 8) (hk : k + 1 ≤ nb) (nr f r dst : Nat) (t : List Nat) (rl : List Nat) (hc : XCv ρ.2.2.2.2.2 x k rl f t) (hr : r < nr) (hd : dst < nr) (hat : x.2.1 f 4 = nI r) (h : PvX ρ.2.2.2.2.2 x nr f t) (hne : ¬ r = dst) (n : Nat) (hv : MvX ρ x n (6 * ((t.length + 1) * (nr + 2)))) (hz : (tvX (saveX x) n nr f t r dst).2 = 0) : az_M l G yX3_voyage (az_ws yX3_voyage cX3_voyage 4 (Option.some FieldType.int)) 9 [.ref (ρ.1 0), .int (nI k), .int (nI dst)] (AD ρ) (KK G ρ x m ou) (capT ρ.2.2.2.1 (tvX (saveX x) n nr f t r dst).1.2 - ρ.2.2.2.1 + 1) (6 * (capT ρ.2.2.2.1 (tvX (saveX x) n nr f t r dst).1.2 - ρ.2.2.2.1) + 6) (az_gx G "java/lang/UnsupportedOperationException" ρ (capT ρ.2.2.2.1 (tvX (saveX x) n nr f t r dst).1.2) (carR (tvX (saveX x) n nr f t r dst).1.1) m ou) := by
  refine az_start hG.1 (by decide +kernel) (Nat.le_of_ble_eq_true rfl) ?_
  intro p e s mm args below meth c C hnm
  show az_W l G 4 _ p e _ s mm args below meth c _ _ 0 0 0 [(0, .ref (ρ.1 0)), (1, .int (nI k)), (2, .int (nI dst))] []
  have hn6 := h.2.1
  refine az_aload_n C 0 dX3_voyage_0 rfl ?_
  refine az_iload_n C 1 dX3_voyage_1 rfl ?_
  refine az_callV C Y_X3_bargeNumbered cX3 0 0 [.int (nI k)] [] wm_X3_155 wi_X3_bargeNumbered wse_X3_bargeNumbered dX3_voyage_2 rfl rfl rfl (Xbarge1 hG nb k hb hnb hn hk) rfl (Nat.le_of_ble_eq_true rfl) (Nat.le_of_ble_eq_true rfl) (Nat.le_of_ble_eq_true rfl) (by show _ ≤ capT ρ.2.2.2.1 (tvX (saveX x) n nr f t r dst).1.2 - ρ.2.2.2.1 + 1; omega) (by show _ ≤ 6 * (capT ρ.2.2.2.1 (tvX (saveX x) n nr f t r dst).1.2 - ρ.2.2.2.1) + 6; omega) (az_k1 rfl rfl ?_) (az_k0 rfl)
  refine az_callV C Y_X0_first cX0 1 k [] [] wm_X3_173 wi_X0_first wse_X0_first dX3_voyage_5 rfl (KK_b hc.1.1) rfl (Xfirst hG k rl hc.1) rfl (Nat.le_of_ble_eq_true rfl) (Nat.le_of_ble_eq_true rfl) (Nat.le_of_ble_eq_true rfl) (by show _ ≤ capT ρ.2.2.2.1 (tvX (saveX x) n nr f t r dst).1.2 - ρ.2.2.2.1 + 1; omega) (by show _ ≤ 6 * (capT ρ.2.2.2.1 (tvX (saveX x) n nr f t r dst).1.2 - ρ.2.2.2.1) + 6; omega) (az_k1 (by rw [hc.2.1]) rfl ?_) (az_k0 (by rw [hc.2.1]))
  refine az_astore_n C (lv' := [(3, .ref (ρ.2.2.1 f)), (0, .ref (ρ.1 0)), (1, .int (nI k)), (2, .int (nI dst))]) (j := 3) rfl dX3_voyage_8 (by decide) rfl ?_
  refine az_aload_n C 1 dX3_voyage_9 rfl ?_
  refine az_iload_n C 3 dX3_voyage_10 rfl ?_
  refine az_callV C Y_X3_needReach cX3 0 0 [.int (nI dst)] [] wm_X3_78 wi_X3_needReach wse_X3_needReach dX3_voyage_11 rfl rfl rfl (XneedReach1 hG nr dst h.1 h.2.1 (by omega)) rfl (Nat.le_of_ble_eq_true rfl) (Nat.le_of_ble_eq_true rfl) (Nat.le_of_ble_eq_true rfl) (by show _ ≤ capT ρ.2.2.2.1 (tvX (saveX x) n nr f t r dst).1.2 - ρ.2.2.2.1 + 1; omega) (by show _ ≤ 6 * (capT ρ.2.2.2.1 (tvX (saveX x) n nr f t r dst).1.2 - ρ.2.2.2.1) + 6; omega) (az_k1 rfl rfl ?_) (az_k0 rfl)
  refine az_aload_n C 0 dX3_voyage_14 rfl ?_
  refine az_getN C cX0 1 f 4 (v := .int (x.2.1 f 4)) (az_bw C hG nx_X3_159 rfl) dX3_voyage_15 rfl (KK_b hc.2.2.1) rfl (by decide) ?_
  refine az_top (nI r) hat ?_
  refine az_iload_n C 3 dX3_voyage_18 rfl ?_
  refine az_icmp_ne C 32 dX3_voyage_19 (by decide) (fun _ => ?_) (fun q => absurd q (fun z => hne (by rw [nI_eq (by omega) (by omega)] at z; exact z)))
  refine az_aload_n C 1 dX3_voyage_32 rfl ?_
  refine az_aload_n C 0 dX3_voyage_33 rfl ?_
  refine az_iload_n C 3 dX3_voyage_34 rfl ?_
  refine az_callV C Y_X3_carry cX3 0 0 [.ref (ρ.2.2.1 f), .int (nI dst)] [] wm_X3_214 wi_X3_carry wse_X3_carry dX3_voyage_35 rfl rfl rfl (Xcarry0 hG nr f r dst t hr hd hat h n hv hz) rfl (Nat.le_of_ble_eq_true rfl) (Nat.le_of_ble_eq_true rfl) (Nat.le_of_ble_eq_true rfl) (by show _ ≤ capT ρ.2.2.2.1 (tvX (saveX x) n nr f t r dst).1.2 - ρ.2.2.2.1 + 1; omega) (by show _ ≤ 6 * (capT ρ.2.2.2.1 (tvX (saveX x) n nr f t r dst).1.2 - ρ.2.2.2.1) + 6; omega) (by rintro v9 ad9 K9 ⟨q9, -, h9, -⟩; cases h9) ?_
  rintro E9 ad9 K9 ⟨a9, ha9, h9, rfl, rfl⟩
  cases h9
  exact az_out C (fun _ h => by cases h) (by show _ ≤ capT ρ.2.2.2.1 (tvX (saveX x) n nr f t r dst).1.2 - ρ.2.2.2.1 + 1; omega) (by show _ ≤ 6 * (capT ρ.2.2.2.1 (tvX (saveX x) n nr f t r dst).1.2 - ρ.2.2.2.1) + 6; omega) ⟨a9, ha9, rfl, rfl, rfl⟩

set_option maxHeartbeats 4000000 in
set_option maxRecDepth 100000 in
theorem Xvoyage_2 (hG : az_okS l G) (nb k : Nat) (hb : x.1 0 7 = nI nb) (hnb : nb = ρ.2.2.2.2.2) (hn : nb ≤ 8) (hk : k + 1 ≤ nb) (nr f r dst : Nat) (t : List Nat) (rl : List Nat) (hc : XCv ρ.2.2.2.2.2 x k rl f t) (hr : r < nr) (hd : dst < nr) (hat : x.2.1 f 4 = nI r) (h : PvX ρ.2.2.2.2.2 x nr f t) (hne : ¬ r = dst) (n : Nat) (hv : MvX ρ x n (6 * ((t.length + 1) * (nr + 2)))) (hz : ¬ (tvX (saveX x) n nr f t r dst).2 = 0) (lo hi : Nat) (hlo : (if nI dst < nI r then nI dst else nI r) = nI lo) (hhi : (if nI r < nI dst then nI dst else nI r) = nI hi) (hlh : lo ≤ hi) (hi5 : hi ≤ 5) : az_M l G yX3_voyage (az_ws yX3_voyage cX3_voyage 4 (Option.some FieldType.int)) 9 [.ref (ρ.1 0), .int (nI k), .int (nI dst)] (AD ρ) (KK G ρ x m ou) (capT ρ.2.2.2.1 (tvX (saveX x) n nr f t r dst).1.2 - ρ.2.2.2.1) (6 * (capT ρ.2.2.2.1 (tvX (saveX x) n nr f t r dst).1.2 - ρ.2.2.2.1)) (az_g G (some (.int (Xcar1F f t (hi - lo) m (tvX (saveX x) n nr f t r dst).1.1 0 lo))) ρ (capT ρ.2.2.2.1 (tvX (saveX x) n nr f t r dst).1.2) (atX (nI dst) (tvX (saveX x) n nr f t r dst).1.1 (f :: t)) m ou) := by
  refine az_start hG.1 (by decide +kernel) (Nat.le_of_ble_eq_true rfl) ?_
  intro p e s mm args below meth c C hnm
  show az_W l G 4 _ p e _ s mm args below meth c _ _ 0 0 0 [(0, .ref (ρ.1 0)), (1, .int (nI k)), (2, .int (nI dst))] []
  have hn6 := h.2.1
  refine az_aload_n C 0 dX3_voyage_0 rfl ?_
  refine az_iload_n C 1 dX3_voyage_1 rfl ?_
  refine az_callV C Y_X3_bargeNumbered cX3 0 0 [.int (nI k)] [] wm_X3_155 wi_X3_bargeNumbered wse_X3_bargeNumbered dX3_voyage_2 rfl rfl rfl (Xbarge1 hG nb k hb hnb hn hk) rfl (Nat.le_of_ble_eq_true rfl) (Nat.le_of_ble_eq_true rfl) (Nat.le_of_ble_eq_true rfl) (by show _ ≤ capT ρ.2.2.2.1 (tvX (saveX x) n nr f t r dst).1.2 - ρ.2.2.2.1; omega) (by show _ ≤ 6 * (capT ρ.2.2.2.1 (tvX (saveX x) n nr f t r dst).1.2 - ρ.2.2.2.1); omega) (az_k1 rfl rfl ?_) (az_k0 rfl)
  refine az_callV C Y_X0_first cX0 1 k [] [] wm_X3_173 wi_X0_first wse_X0_first dX3_voyage_5 rfl (KK_b hc.1.1) rfl (Xfirst hG k rl hc.1) rfl (Nat.le_of_ble_eq_true rfl) (Nat.le_of_ble_eq_true rfl) (Nat.le_of_ble_eq_true rfl) (by show _ ≤ capT ρ.2.2.2.1 (tvX (saveX x) n nr f t r dst).1.2 - ρ.2.2.2.1; omega) (by show _ ≤ 6 * (capT ρ.2.2.2.1 (tvX (saveX x) n nr f t r dst).1.2 - ρ.2.2.2.1); omega) (az_k1 (by rw [hc.2.1]) rfl ?_) (az_k0 (by rw [hc.2.1]))
  refine az_astore_n C (lv' := [(3, .ref (ρ.2.2.1 f)), (0, .ref (ρ.1 0)), (1, .int (nI k)), (2, .int (nI dst))]) (j := 3) rfl dX3_voyage_8 (by decide) rfl ?_
  refine az_aload_n C 1 dX3_voyage_9 rfl ?_
  refine az_iload_n C 3 dX3_voyage_10 rfl ?_
  refine az_callV C Y_X3_needReach cX3 0 0 [.int (nI dst)] [] wm_X3_78 wi_X3_needReach wse_X3_needReach dX3_voyage_11 rfl rfl rfl (XneedReach1 hG nr dst h.1 h.2.1 (by omega)) rfl (Nat.le_of_ble_eq_true rfl) (Nat.le_of_ble_eq_true rfl) (Nat.le_of_ble_eq_true rfl) (by show _ ≤ capT ρ.2.2.2.1 (tvX (saveX x) n nr f t r dst).1.2 - ρ.2.2.2.1; omega) (by show _ ≤ 6 * (capT ρ.2.2.2.1 (tvX (saveX x) n nr f t r dst).1.2 - ρ.2.2.2.1); omega) (az_k1 rfl rfl ?_) (az_k0 rfl)
  refine az_aload_n C 0 dX3_voyage_14 rfl ?_
  refine az_getN C cX0 1 f 4 (v := .int (x.2.1 f 4)) (az_bw C hG nx_X3_159 rfl) dX3_voyage_15 rfl (KK_b hc.2.2.1) rfl (by decide) ?_
  refine az_top (nI r) hat ?_
  refine az_iload_n C 3 dX3_voyage_18 rfl ?_
  refine az_icmp_ne C 32 dX3_voyage_19 (by decide) (fun _ => ?_) (fun q => absurd q (fun z => hne (by rw [nI_eq (by omega) (by omega)] at z; exact z)))
  refine az_aload_n C 1 dX3_voyage_32 rfl ?_
  refine az_aload_n C 0 dX3_voyage_33 rfl ?_
  refine az_iload_n C 3 dX3_voyage_34 rfl ?_
  refine az_callV C Y_X3_carry cX3 0 0 [.ref (ρ.2.2.1 f), .int (nI dst)] [] wm_X3_214 wi_X3_carry wse_X3_carry dX3_voyage_35 rfl rfl rfl (Xcarry1 hG nr f r dst t hr hd hat h n hv hz lo hi hlo hhi hlh hi5) rfl (Nat.le_of_ble_eq_true rfl) (Nat.le_of_ble_eq_true rfl) (Nat.le_of_ble_eq_true rfl) (by show _ ≤ capT ρ.2.2.2.1 (tvX (saveX x) n nr f t r dst).1.2 - ρ.2.2.2.1; omega) (by show _ ≤ 6 * (capT ρ.2.2.2.1 (tvX (saveX x) n nr f t r dst).1.2 - ρ.2.2.2.1); omega) ?_ (by rintro E ad9 K9 ⟨q9, -, h9, -⟩; cases h9)
  rintro v9 ad9 K9 ⟨a9, ha9, h9, rfl, rfl⟩
  cases h9
  exact az_iret C rfl dX3_voyage_38 (by show _ ≤ capT ρ.2.2.2.1 (tvX (saveX x) n nr f t r dst).1.2 - ρ.2.2.2.1; omega) (by show _ ≤ 6 * (capT ρ.2.2.2.1 (tvX (saveX x) n nr f t r dst).1.2 - ρ.2.2.2.1); omega) ⟨a9, ha9, rfl, rfl, rfl⟩

set_option maxHeartbeats 4000000 in
set_option maxRecDepth 100000 in
theorem XisPossible_1 (hG : az_okS l G) (nb k : Nat) (hb : x.1 0 7 = nI nb) (hnb : nb = ρ.2.2.2.2.2) (hn : nb ≤ 8) (hk : k + 1 ≤ nb) (nr f r dst : Nat) (t : List Nat) (rl : List Nat) (hc : XCv ρ.2.2.2.2.2 x k rl f t) (hr : r < nr) (hd : dst < nr) (hat : x.2.1 f 4 = nI r) (h : PvX ρ.2.2.2.2.2 x nr f t) (n : Nat) (hv : MvX ρ x n (6 * ((t.length + 1) * (nr + 2)))) : az_M l G yX3_isPossible (az_ws yX3_isPossible cX3_isPossible 4 (Option.some FieldType.boolean)) 9 [.ref (ρ.1 0), .int (nI k), .int (nI dst)] (AD ρ) (KK G ρ x m ou) (capT ρ.2.2.2.1 (tvX (saveX x) n nr f t r dst).1.2 - ρ.2.2.2.1) (6 * (capT ρ.2.2.2.1 (tvX (saveX x) n nr f t r dst).1.2 - ρ.2.2.2.1)) (az_g G (some (.int (tvX (saveX x) n nr f t r dst).2)) ρ (capT ρ.2.2.2.1 (tvX (saveX x) n nr f t r dst).1.2) (restoreX (tvX (saveX x) n nr f t r dst).1.1) m ou) := by
  refine az_start hG.1 (by decide +kernel) (Nat.le_of_ble_eq_true rfl) ?_
  intro p e s mm args below meth c C hnm
  show az_W l G 4 _ p e _ s mm args below meth c _ _ 0 0 0 [(0, .ref (ρ.1 0)), (1, .int (nI k)), (2, .int (nI dst))] []
  have hn6 := h.2.1
  refine az_aload_n C 0 dX3_isPossible_0 rfl ?_
  refine az_iload_n C 1 dX3_isPossible_1 rfl ?_
  refine az_callV C Y_X3_bargeNumbered cX3 0 0 [.int (nI k)] [] wm_X3_155 wi_X3_bargeNumbered wse_X3_bargeNumbered dX3_isPossible_2 rfl rfl rfl (Xbarge1 hG nb k hb hnb hn hk) rfl (Nat.le_of_ble_eq_true rfl) (Nat.le_of_ble_eq_true rfl) (Nat.le_of_ble_eq_true rfl) (by show _ ≤ capT ρ.2.2.2.1 (tvX (saveX x) n nr f t r dst).1.2 - ρ.2.2.2.1; omega) (by show _ ≤ 6 * (capT ρ.2.2.2.1 (tvX (saveX x) n nr f t r dst).1.2 - ρ.2.2.2.1); omega) (az_k1 rfl rfl ?_) (az_k0 rfl)
  refine az_callV C Y_X0_first cX0 1 k [] [] wm_X3_173 wi_X0_first wse_X0_first dX3_isPossible_5 rfl (KK_b hc.1.1) rfl (Xfirst hG k rl hc.1) rfl (Nat.le_of_ble_eq_true rfl) (Nat.le_of_ble_eq_true rfl) (Nat.le_of_ble_eq_true rfl) (by show _ ≤ capT ρ.2.2.2.1 (tvX (saveX x) n nr f t r dst).1.2 - ρ.2.2.2.1; omega) (by show _ ≤ 6 * (capT ρ.2.2.2.1 (tvX (saveX x) n nr f t r dst).1.2 - ρ.2.2.2.1); omega) (az_k1 (by rw [hc.2.1]) rfl ?_) (az_k0 (by rw [hc.2.1]))
  refine az_astore_n C (lv' := [(3, .ref (ρ.2.2.1 f)), (0, .ref (ρ.1 0)), (1, .int (nI k)), (2, .int (nI dst))]) (j := 3) rfl dX3_isPossible_8 (by decide) rfl ?_
  refine az_aload_n C 1 dX3_isPossible_9 rfl ?_
  refine az_iload_n C 3 dX3_isPossible_10 rfl ?_
  refine az_callV C Y_X3_needReach cX3 0 0 [.int (nI dst)] [] wm_X3_78 wi_X3_needReach wse_X3_needReach dX3_isPossible_11 rfl rfl rfl (XneedReach1 hG nr dst h.1 h.2.1 (by omega)) rfl (Nat.le_of_ble_eq_true rfl) (Nat.le_of_ble_eq_true rfl) (Nat.le_of_ble_eq_true rfl) (by show _ ≤ capT ρ.2.2.2.1 (tvX (saveX x) n nr f t r dst).1.2 - ρ.2.2.2.1; omega) (by show _ ≤ 6 * (capT ρ.2.2.2.1 (tvX (saveX x) n nr f t r dst).1.2 - ρ.2.2.2.1); omega) (az_k1 rfl rfl ?_) (az_k0 rfl)
  refine az_aload_n C 1 dX3_isPossible_14 rfl ?_
  refine az_aload_n C 0 dX3_isPossible_15 rfl ?_
  refine az_iload_n C 3 dX3_isPossible_16 rfl ?_
  refine az_callV C Y_X3_canReach cX3 0 0 [.ref (ρ.2.2.1 f), .int (nI dst)] [] wm_X3_220 wi_X3_canReach wse_X3_canReach dX3_isPossible_17 rfl rfl rfl (XcanReach hG nr f r dst t hr hd hat h n hv) rfl (Nat.le_of_ble_eq_true rfl) (Nat.le_of_ble_eq_true rfl) (Nat.le_of_ble_eq_true rfl) (by show _ ≤ capT ρ.2.2.2.1 (tvX (saveX x) n nr f t r dst).1.2 - ρ.2.2.2.1; omega) (by show _ ≤ 6 * (capT ρ.2.2.2.1 (tvX (saveX x) n nr f t r dst).1.2 - ρ.2.2.2.1); omega) ?_ (by rintro E ad9 K9 ⟨q9, -, h9, -⟩; cases h9)
  rintro v9 ad9 K9 ⟨a9, ha9, h9, rfl, rfl⟩
  cases h9
  exact az_zret C .boolean rfl (nar_bq tvX_01) dX3_isPossible_20 (by show _ ≤ capT ρ.2.2.2.1 (tvX (saveX x) n nr f t r dst).1.2 - ρ.2.2.2.1; omega) (by show _ ≤ 6 * (capT ρ.2.2.2.1 (tvX (saveX x) n nr f t r dst).1.2 - ρ.2.2.2.1); omega) ⟨a9, ha9, rfl, rfl, rfl⟩

def allX (x : Xs) : Int32 := 0 + x.1 5 0 + x.1 5 1 + x.1 5 2 + x.1 5 3 + x.1 5 4
set_option maxHeartbeats 4000000 in
set_option maxRecDepth 100000 in
theorem XwaterFor_1 (hG : az_okS l G) (nb k : Nat) (hb : x.1 0 7 = nI nb) (hnb : nb = ρ.2.2.2.2.2) (hn : nb ≤ 8) (hk : k + 1 ≤ nb) (nr f r dst : Nat) (t : List Nat) (rl : List Nat) (hc : XCv ρ.2.2.2.2.2 x k rl f t) (hr : r < nr) (hd : dst < nr) (hat : x.2.1 f 4 = nI r) (h : PvX ρ.2.2.2.2.2 x nr f t) (n : Nat) (hv : MvX ρ x n (6 * ((t.length + 1) * (nr + 2)))) (hz : ¬ (tvX (saveX x) n nr f t r dst).2 = 0) : az_M l G yX3_waterFor (az_ws yX3_waterFor cX3_waterFor 7 (Option.some FieldType.int)) 9 [.ref (ρ.1 0), .int (nI k), .int (nI dst)] (AD ρ) (KK G ρ x m ou) (capT ρ.2.2.2.1 (tvX (saveX x) n nr f t r dst).1.2 - ρ.2.2.2.1) (6 * (capT ρ.2.2.2.1 (tvX (saveX x) n nr f t r dst).1.2 - ρ.2.2.2.1)) (az_g G (some (.int (allX (tvX (saveX x) n nr f t r dst).1.1 - allX x))) ρ (capT ρ.2.2.2.1 (tvX (saveX x) n nr f t r dst).1.2) (restoreX (tvX (saveX x) n nr f t r dst).1.1) m ou) := by
  refine az_start hG.1 (by decide +kernel) (Nat.le_of_ble_eq_true rfl) ?_
  intro p e s mm args below meth c C hnm
  show az_W l G 7 _ p e _ s mm args below meth c _ _ 0 0 0 [(0, .ref (ρ.1 0)), (1, .int (nI k)), (2, .int (nI dst))] []
  have hn6 := h.2.1
  refine az_aload_n C 0 dX3_waterFor_0 rfl ?_
  refine az_iload_n C 1 dX3_waterFor_1 rfl ?_
  refine az_callV C Y_X3_bargeNumbered cX3 0 0 [.int (nI k)] [] wm_X3_155 wi_X3_bargeNumbered wse_X3_bargeNumbered dX3_waterFor_2 rfl rfl rfl (Xbarge1 hG nb k hb hnb hn hk) rfl (Nat.le_of_ble_eq_true rfl) (Nat.le_of_ble_eq_true rfl) (Nat.le_of_ble_eq_true rfl) (by show _ ≤ capT ρ.2.2.2.1 (tvX (saveX x) n nr f t r dst).1.2 - ρ.2.2.2.1; omega) (by show _ ≤ 6 * (capT ρ.2.2.2.1 (tvX (saveX x) n nr f t r dst).1.2 - ρ.2.2.2.1); omega) (az_k1 rfl rfl ?_) (az_k0 rfl)
  refine az_callV C Y_X0_first cX0 1 k [] [] wm_X3_173 wi_X0_first wse_X0_first dX3_waterFor_5 rfl (KK_b hc.1.1) rfl (Xfirst hG k rl hc.1) rfl (Nat.le_of_ble_eq_true rfl) (Nat.le_of_ble_eq_true rfl) (Nat.le_of_ble_eq_true rfl) (by show _ ≤ capT ρ.2.2.2.1 (tvX (saveX x) n nr f t r dst).1.2 - ρ.2.2.2.1; omega) (by show _ ≤ 6 * (capT ρ.2.2.2.1 (tvX (saveX x) n nr f t r dst).1.2 - ρ.2.2.2.1); omega) (az_k1 (by rw [hc.2.1]) rfl ?_) (az_k0 (by rw [hc.2.1]))
  refine az_astore_n C (lv' := [(3, .ref (ρ.2.2.1 f)), (0, .ref (ρ.1 0)), (1, .int (nI k)), (2, .int (nI dst))]) (j := 3) rfl dX3_waterFor_8 (by decide) rfl ?_
  refine az_aload_n C 1 dX3_waterFor_9 rfl ?_
  refine az_iload_n C 3 dX3_waterFor_10 rfl ?_
  refine az_callV C Y_X3_needReach cX3 0 0 [.int (nI dst)] [] wm_X3_78 wi_X3_needReach wse_X3_needReach dX3_waterFor_11 rfl rfl rfl (XneedReach1 hG nr dst h.1 h.2.1 (by omega)) rfl (Nat.le_of_ble_eq_true rfl) (Nat.le_of_ble_eq_true rfl) (Nat.le_of_ble_eq_true rfl) (by show _ ≤ capT ρ.2.2.2.1 (tvX (saveX x) n nr f t r dst).1.2 - ρ.2.2.2.1; omega) (by show _ ≤ 6 * (capT ρ.2.2.2.1 (tvX (saveX x) n nr f t r dst).1.2 - ρ.2.2.2.1); omega) (az_k1 rfl rfl ?_) (az_k0 rfl)
  refine az_aload_n C 1 dX3_waterFor_14 rfl ?_
  refine az_get C cX3 0 0 0 (v := .ref (ρ.1 1)) wl_X3_12 dX3_waterFor_15 rfl rfl rfl (by decide) ?_
  refine az_callV C Y_X2_throughTotal cX2 0 1 [] [] wm_X3_223 wi_X2_throughTotal wse_X2_throughTotal dX3_waterFor_18 rfl rfl rfl (kthrough (ρ := ρ) (x := x) hG) rfl (Nat.le_of_ble_eq_true rfl) (Nat.le_of_ble_eq_true rfl) (Nat.le_of_ble_eq_true rfl) (by show _ ≤ capT ρ.2.2.2.1 (tvX (saveX x) n nr f t r dst).1.2 - ρ.2.2.2.1; omega) (by show _ ≤ 6 * (capT ρ.2.2.2.1 (tvX (saveX x) n nr f t r dst).1.2 - ρ.2.2.2.1); omega) (az_k1 rfl rfl ?_) (az_k0 rfl)
  refine az_istore C (lv' := [(4, .int ((allX x))), (3, .ref (ρ.2.2.1 f)), (0, .ref (ρ.1 0)), (1, .int (nI k)), (2, .int (nI dst))]) dX3_waterFor_21 (by decide) rfl ?_
  refine az_aload_n C 2 dX3_waterFor_23 rfl ?_
  refine az_get C cX3 0 0 0 (v := .ref (ρ.1 1)) wl_X3_12 dX3_waterFor_24 rfl rfl rfl (by decide) ?_
  refine az_callV C Y_X2_save cX2 0 1 [] [] wm_X3_226 wi_X2_save wse_X2_save dX3_waterFor_27 rfl rfl rfl (Xsave hG) rfl (Nat.le_of_ble_eq_true rfl) (Nat.le_of_ble_eq_true rfl) (Nat.le_of_ble_eq_true rfl) (by show _ ≤ capT ρ.2.2.2.1 (tvX (saveX x) n nr f t r dst).1.2 - ρ.2.2.2.1; omega) (by show _ ≤ 6 * (capT ρ.2.2.2.1 (tvX (saveX x) n nr f t r dst).1.2 - ρ.2.2.2.1); omega) (az_k1 rfl rfl ?_) (az_k0 rfl)
  refine az_aload_n C 2 dX3_waterFor_30 rfl ?_
  refine az_aload_n C 1 dX3_waterFor_31 rfl ?_
  refine az_iload_n C 4 dX3_waterFor_32 rfl ?_
  refine az_callV C Y_X3_tryVoyage cX3 0 0 [.ref (ρ.2.2.1 f), .int (nI dst)] [] wm_X3_229 wi_X3_tryVoyage wse_X3_tryVoyage dX3_waterFor_33 rfl rfl rfl (XtryV (x := saveX x) hG nr f r dst t hr hd hat (h.to rfl (fun _ => rfl) rfl) n (MvX_w hv rfl (fun _ => rfl) (fun _ => rfl) (fun _ => rfl))) rfl (Nat.le_of_ble_eq_true rfl) (Nat.le_of_ble_eq_true rfl) (Nat.le_of_ble_eq_true rfl) (by show _ ≤ capT ρ.2.2.2.1 (tvX (saveX x) n nr f t r dst).1.2 - ρ.2.2.2.1; omega) (by show _ ≤ 6 * (capT ρ.2.2.2.1 (tvX (saveX x) n nr f t r dst).1.2 - ρ.2.2.2.1); omega) ?_ (by rintro E ad9 K9 ⟨q9, -, h9, -⟩; cases h9)
  rintro v9 ad9 K9 ⟨a9, ha9, h9, rfl, rfl⟩
  cases h9
  refine az_istore C (lv' := [(5, .int ((tvX (saveX x) n nr f t r dst).2)), (4, .int ((allX x))), (3, .ref (ρ.2.2.1 f)), (0, .ref (ρ.1 0)), (1, .int (nI k)), (2, .int (nI dst))]) dX3_waterFor_36 (by decide) rfl ?_
  refine az_aload_n C 3 dX3_waterFor_38 rfl ?_
  refine az_get C cX3 0 0 0 (v := .ref ((gR ρ a9 (capT ρ.2.2.2.1 (tvX (saveX x) n nr f t r dst).1.2)).1 1)) wl_X3_12 dX3_waterFor_39 rfl rfl rfl (by decide) ?_
  refine az_callV C Y_X2_throughTotal cX2 0 1 [] [] wm_X3_223 wi_X2_throughTotal wse_X2_throughTotal dX3_waterFor_42 rfl rfl rfl (kthrough (ρ := (gR ρ a9 (capT ρ.2.2.2.1 (tvX (saveX x) n nr f t r dst).1.2))) (x := (tvX (saveX x) n nr f t r dst).1.1) hG) rfl (Nat.le_of_ble_eq_true rfl) (Nat.le_of_ble_eq_true rfl) (Nat.le_of_ble_eq_true rfl) (by show _ ≤ capT ρ.2.2.2.1 (tvX (saveX x) n nr f t r dst).1.2 - ρ.2.2.2.1; omega) (by show _ ≤ 6 * (capT ρ.2.2.2.1 (tvX (saveX x) n nr f t r dst).1.2 - ρ.2.2.2.1); omega) (az_k1 rfl rfl ?_) (az_k0 rfl)
  refine az_iload C 1 dX3_waterFor_45 rfl ?_
  refine az_isub C dX3_waterFor_47 ?_
  refine az_istore C (lv' := [(6, .int (((allX (tvX (saveX x) n nr f t r dst).1.1) - (allX x)))), (5, .int ((tvX (saveX x) n nr f t r dst).2)), (4, .int ((allX x))), (3, .ref (ρ.2.2.1 f)), (0, .ref (ρ.1 0)), (1, .int (nI k)), (2, .int (nI dst))]) dX3_waterFor_48 (by decide) rfl ?_
  refine az_aload_n C 4 dX3_waterFor_50 rfl ?_
  refine az_get C cX3 0 0 0 (v := .ref ((gR ρ a9 (capT ρ.2.2.2.1 (tvX (saveX x) n nr f t r dst).1.2)).1 1)) wl_X3_12 dX3_waterFor_51 rfl rfl rfl (by decide) ?_
  refine az_callV C Y_X2_restore cX2 0 1 [] [] wm_X3_232 wi_X2_restore wse_X2_restore dX3_waterFor_54 rfl rfl rfl (Xrestore (ρ := (gR ρ a9 (capT ρ.2.2.2.1 (tvX (saveX x) n nr f t r dst).1.2))) (x := (tvX (saveX x) n nr f t r dst).1.1) hG) rfl (Nat.le_of_ble_eq_true rfl) (Nat.le_of_ble_eq_true rfl) (Nat.le_of_ble_eq_true rfl) (by show _ ≤ capT ρ.2.2.2.1 (tvX (saveX x) n nr f t r dst).1.2 - ρ.2.2.2.1; omega) (by show _ ≤ 6 * (capT ρ.2.2.2.1 (tvX (saveX x) n nr f t r dst).1.2 - ρ.2.2.2.1); omega) (az_k1 rfl rfl ?_) (az_k0 rfl)
  refine az_iload C 1 dX3_waterFor_57 rfl ?_
  refine az_if_ne C 72 dX3_waterFor_59 (by decide) (fun _ => ?_) (fun q => absurd q hz)
  refine az_iload C 0 dX3_waterFor_72 rfl ?_
  exact az_iret C rfl dX3_waterFor_74 (by show _ ≤ capT ρ.2.2.2.1 (tvX (saveX x) n nr f t r dst).1.2 - ρ.2.2.2.1; omega) (by show _ ≤ 6 * (capT ρ.2.2.2.1 (tvX (saveX x) n nr f t r dst).1.2 - ρ.2.2.2.1); omega) ⟨a9, ha9, rfl, rfl, rfl⟩

set_option maxHeartbeats 4000000 in
set_option maxRecDepth 100000 in
theorem XwaterFor_2 (hG : az_okS l G) (nb k : Nat) (hb : x.1 0 7 = nI nb) (hnb : nb = ρ.2.2.2.2.2) (hn : nb ≤ 8) (hk : k + 1 ≤ nb) (nr f r dst : Nat) (t : List Nat) (rl : List Nat) (hc : XCv ρ.2.2.2.2.2 x k rl f t) (hr : r < nr) (hd : dst < nr) (hat : x.2.1 f 4 = nI r) (h : PvX ρ.2.2.2.2.2 x nr f t) (n : Nat) (hv : MvX ρ x n (6 * ((t.length + 1) * (nr + 2)))) (hz : (tvX (saveX x) n nr f t r dst).2 = 0) : az_M l G yX3_waterFor (az_ws yX3_waterFor cX3_waterFor 7 (Option.some FieldType.int)) 9 [.ref (ρ.1 0), .int (nI k), .int (nI dst)] (AD ρ) (KK G ρ x m ou) (capT ρ.2.2.2.1 (tvX (saveX x) n nr f t r dst).1.2 - ρ.2.2.2.1 + 1) (6 * (capT ρ.2.2.2.1 (tvX (saveX x) n nr f t r dst).1.2 - ρ.2.2.2.1) + 6) (az_gx G "java/lang/UnsupportedOperationException" ρ (capT ρ.2.2.2.1 (tvX (saveX x) n nr f t r dst).1.2) (restoreX (tvX (saveX x) n nr f t r dst).1.1) m ou) := by
  refine az_start hG.1 (by decide +kernel) (Nat.le_of_ble_eq_true rfl) ?_
  intro p e s mm args below meth c C hnm
  show az_W l G 7 _ p e _ s mm args below meth c _ _ 0 0 0 [(0, .ref (ρ.1 0)), (1, .int (nI k)), (2, .int (nI dst))] []
  have hn6 := h.2.1
  refine az_aload_n C 0 dX3_waterFor_0 rfl ?_
  refine az_iload_n C 1 dX3_waterFor_1 rfl ?_
  refine az_callV C Y_X3_bargeNumbered cX3 0 0 [.int (nI k)] [] wm_X3_155 wi_X3_bargeNumbered wse_X3_bargeNumbered dX3_waterFor_2 rfl rfl rfl (Xbarge1 hG nb k hb hnb hn hk) rfl (Nat.le_of_ble_eq_true rfl) (Nat.le_of_ble_eq_true rfl) (Nat.le_of_ble_eq_true rfl) (by show _ ≤ capT ρ.2.2.2.1 (tvX (saveX x) n nr f t r dst).1.2 - ρ.2.2.2.1 + 1; omega) (by show _ ≤ 6 * (capT ρ.2.2.2.1 (tvX (saveX x) n nr f t r dst).1.2 - ρ.2.2.2.1) + 6; omega) (az_k1 rfl rfl ?_) (az_k0 rfl)
  refine az_callV C Y_X0_first cX0 1 k [] [] wm_X3_173 wi_X0_first wse_X0_first dX3_waterFor_5 rfl (KK_b hc.1.1) rfl (Xfirst hG k rl hc.1) rfl (Nat.le_of_ble_eq_true rfl) (Nat.le_of_ble_eq_true rfl) (Nat.le_of_ble_eq_true rfl) (by show _ ≤ capT ρ.2.2.2.1 (tvX (saveX x) n nr f t r dst).1.2 - ρ.2.2.2.1 + 1; omega) (by show _ ≤ 6 * (capT ρ.2.2.2.1 (tvX (saveX x) n nr f t r dst).1.2 - ρ.2.2.2.1) + 6; omega) (az_k1 (by rw [hc.2.1]) rfl ?_) (az_k0 (by rw [hc.2.1]))
  refine az_astore_n C (lv' := [(3, .ref (ρ.2.2.1 f)), (0, .ref (ρ.1 0)), (1, .int (nI k)), (2, .int (nI dst))]) (j := 3) rfl dX3_waterFor_8 (by decide) rfl ?_
  refine az_aload_n C 1 dX3_waterFor_9 rfl ?_
  refine az_iload_n C 3 dX3_waterFor_10 rfl ?_
  refine az_callV C Y_X3_needReach cX3 0 0 [.int (nI dst)] [] wm_X3_78 wi_X3_needReach wse_X3_needReach dX3_waterFor_11 rfl rfl rfl (XneedReach1 hG nr dst h.1 h.2.1 (by omega)) rfl (Nat.le_of_ble_eq_true rfl) (Nat.le_of_ble_eq_true rfl) (Nat.le_of_ble_eq_true rfl) (by show _ ≤ capT ρ.2.2.2.1 (tvX (saveX x) n nr f t r dst).1.2 - ρ.2.2.2.1 + 1; omega) (by show _ ≤ 6 * (capT ρ.2.2.2.1 (tvX (saveX x) n nr f t r dst).1.2 - ρ.2.2.2.1) + 6; omega) (az_k1 rfl rfl ?_) (az_k0 rfl)
  refine az_aload_n C 1 dX3_waterFor_14 rfl ?_
  refine az_get C cX3 0 0 0 (v := .ref (ρ.1 1)) wl_X3_12 dX3_waterFor_15 rfl rfl rfl (by decide) ?_
  refine az_callV C Y_X2_throughTotal cX2 0 1 [] [] wm_X3_223 wi_X2_throughTotal wse_X2_throughTotal dX3_waterFor_18 rfl rfl rfl (kthrough (ρ := ρ) (x := x) hG) rfl (Nat.le_of_ble_eq_true rfl) (Nat.le_of_ble_eq_true rfl) (Nat.le_of_ble_eq_true rfl) (by show _ ≤ capT ρ.2.2.2.1 (tvX (saveX x) n nr f t r dst).1.2 - ρ.2.2.2.1 + 1; omega) (by show _ ≤ 6 * (capT ρ.2.2.2.1 (tvX (saveX x) n nr f t r dst).1.2 - ρ.2.2.2.1) + 6; omega) (az_k1 rfl rfl ?_) (az_k0 rfl)
  refine az_istore C (lv' := [(4, .int ((allX x))), (3, .ref (ρ.2.2.1 f)), (0, .ref (ρ.1 0)), (1, .int (nI k)), (2, .int (nI dst))]) dX3_waterFor_21 (by decide) rfl ?_
  refine az_aload_n C 2 dX3_waterFor_23 rfl ?_
  refine az_get C cX3 0 0 0 (v := .ref (ρ.1 1)) wl_X3_12 dX3_waterFor_24 rfl rfl rfl (by decide) ?_
  refine az_callV C Y_X2_save cX2 0 1 [] [] wm_X3_226 wi_X2_save wse_X2_save dX3_waterFor_27 rfl rfl rfl (Xsave hG) rfl (Nat.le_of_ble_eq_true rfl) (Nat.le_of_ble_eq_true rfl) (Nat.le_of_ble_eq_true rfl) (by show _ ≤ capT ρ.2.2.2.1 (tvX (saveX x) n nr f t r dst).1.2 - ρ.2.2.2.1 + 1; omega) (by show _ ≤ 6 * (capT ρ.2.2.2.1 (tvX (saveX x) n nr f t r dst).1.2 - ρ.2.2.2.1) + 6; omega) (az_k1 rfl rfl ?_) (az_k0 rfl)
  refine az_aload_n C 2 dX3_waterFor_30 rfl ?_
  refine az_aload_n C 1 dX3_waterFor_31 rfl ?_
  refine az_iload_n C 4 dX3_waterFor_32 rfl ?_
  refine az_callV C Y_X3_tryVoyage cX3 0 0 [.ref (ρ.2.2.1 f), .int (nI dst)] [] wm_X3_229 wi_X3_tryVoyage wse_X3_tryVoyage dX3_waterFor_33 rfl rfl rfl (XtryV (x := saveX x) hG nr f r dst t hr hd hat (h.to rfl (fun _ => rfl) rfl) n (MvX_w hv rfl (fun _ => rfl) (fun _ => rfl) (fun _ => rfl))) rfl (Nat.le_of_ble_eq_true rfl) (Nat.le_of_ble_eq_true rfl) (Nat.le_of_ble_eq_true rfl) (by show _ ≤ capT ρ.2.2.2.1 (tvX (saveX x) n nr f t r dst).1.2 - ρ.2.2.2.1 + 1; omega) (by show _ ≤ 6 * (capT ρ.2.2.2.1 (tvX (saveX x) n nr f t r dst).1.2 - ρ.2.2.2.1) + 6; omega) ?_ (by rintro E ad9 K9 ⟨q9, -, h9, -⟩; cases h9)
  rintro v9 ad9 K9 ⟨a9, ha9, h9, rfl, rfl⟩
  cases h9
  refine az_istore C (lv' := [(5, .int ((tvX (saveX x) n nr f t r dst).2)), (4, .int ((allX x))), (3, .ref (ρ.2.2.1 f)), (0, .ref (ρ.1 0)), (1, .int (nI k)), (2, .int (nI dst))]) dX3_waterFor_36 (by decide) rfl ?_
  refine az_aload_n C 3 dX3_waterFor_38 rfl ?_
  refine az_get C cX3 0 0 0 (v := .ref ((gR ρ a9 (capT ρ.2.2.2.1 (tvX (saveX x) n nr f t r dst).1.2)).1 1)) wl_X3_12 dX3_waterFor_39 rfl rfl rfl (by decide) ?_
  refine az_callV C Y_X2_throughTotal cX2 0 1 [] [] wm_X3_223 wi_X2_throughTotal wse_X2_throughTotal dX3_waterFor_42 rfl rfl rfl (kthrough (ρ := (gR ρ a9 (capT ρ.2.2.2.1 (tvX (saveX x) n nr f t r dst).1.2))) (x := (tvX (saveX x) n nr f t r dst).1.1) hG) rfl (Nat.le_of_ble_eq_true rfl) (Nat.le_of_ble_eq_true rfl) (Nat.le_of_ble_eq_true rfl) (by show _ ≤ capT ρ.2.2.2.1 (tvX (saveX x) n nr f t r dst).1.2 - ρ.2.2.2.1 + 1; omega) (by show _ ≤ 6 * (capT ρ.2.2.2.1 (tvX (saveX x) n nr f t r dst).1.2 - ρ.2.2.2.1) + 6; omega) (az_k1 rfl rfl ?_) (az_k0 rfl)
  refine az_iload C 1 dX3_waterFor_45 rfl ?_
  refine az_isub C dX3_waterFor_47 ?_
  refine az_istore C (lv' := [(6, .int (((allX (tvX (saveX x) n nr f t r dst).1.1) - (allX x)))), (5, .int ((tvX (saveX x) n nr f t r dst).2)), (4, .int ((allX x))), (3, .ref (ρ.2.2.1 f)), (0, .ref (ρ.1 0)), (1, .int (nI k)), (2, .int (nI dst))]) dX3_waterFor_48 (by decide) rfl ?_
  refine az_aload_n C 4 dX3_waterFor_50 rfl ?_
  refine az_get C cX3 0 0 0 (v := .ref ((gR ρ a9 (capT ρ.2.2.2.1 (tvX (saveX x) n nr f t r dst).1.2)).1 1)) wl_X3_12 dX3_waterFor_51 rfl rfl rfl (by decide) ?_
  refine az_callV C Y_X2_restore cX2 0 1 [] [] wm_X3_232 wi_X2_restore wse_X2_restore dX3_waterFor_54 rfl rfl rfl (Xrestore (ρ := (gR ρ a9 (capT ρ.2.2.2.1 (tvX (saveX x) n nr f t r dst).1.2))) (x := (tvX (saveX x) n nr f t r dst).1.1) hG) rfl (Nat.le_of_ble_eq_true rfl) (Nat.le_of_ble_eq_true rfl) (Nat.le_of_ble_eq_true rfl) (by show _ ≤ capT ρ.2.2.2.1 (tvX (saveX x) n nr f t r dst).1.2 - ρ.2.2.2.1 + 1; omega) (by show _ ≤ 6 * (capT ρ.2.2.2.1 (tvX (saveX x) n nr f t r dst).1.2 - ρ.2.2.2.1) + 6; omega) (az_k1 rfl rfl ?_) (az_k0 rfl)
  refine az_iload C 1 dX3_waterFor_57 rfl ?_
  refine az_if_ne C 72 dX3_waterFor_59 (by decide) (fun q => absurd hz q) (fun _ => ?_)
  exact az_thrS_UOE C hG (List.mem_of_getElem? (i := 17) rfl) dX3_waterFor_62 dX3_waterFor_65 dX3_waterFor_66 dX3_waterFor_68 dX3_waterFor_71 (Nat.le_of_ble_eq_true rfl) (Nat.le_of_ble_eq_true rfl) (by show _ ≤ capT ρ.2.2.2.1 (tvX (saveX x) n nr f t r dst).1.2 - ρ.2.2.2.1 + 1; omega) (by show _ ≤ 6 * (capT ρ.2.2.2.1 (tvX (saveX x) n nr f t r dst).1.2 - ρ.2.2.2.1) + 6; omega) (by show _ ≤ capT ρ.2.2.2.1 (tvX (saveX x) n nr f t r dst).1.2 - ρ.2.2.2.1 + 1; omega) (by show _ ≤ 6 * (capT ρ.2.2.2.1 (tvX (saveX x) n nr f t r dst).1.2 - ρ.2.2.2.1) + 6; omega) ⟨a9, ha9, rfl, rfl, rfl⟩

end
