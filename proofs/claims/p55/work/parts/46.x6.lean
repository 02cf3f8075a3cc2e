section
variable {l : Launch} {G : az_G} {ρ : Rp} {x : Xs} {m : Mz} {ou : Nat → Int64}
def XCv (nb : Nat) (x : Xs) (b : Nat) (r : List Nat) (f : Nat) (t : List Nat) : Prop := XPre nb x (b :: r) ∧ lst b r = f ∧ XSuf nb x (f :: t)
def levX9 (x : Xs) (r : Nat) : Int32 := x.1 4 (r + 3) / x.1 2 r
def floatX (x : Xs) (b r : Nat) (v : Int32) : Int32 := if x.1 4 (r + 3) / x.1 2 r ≤ deepX x b (x.2.1 b 5 + v) then 0 else 1
theorem XCv.f {nb : Nat} {b : Nat} {r : List Nat} {f : Nat} {t : List Nat} (h : XCv nb x b r f t) : f < nb := h.2.2.1
set_option maxHeartbeats 4000000 in
set_option maxRecDepth 100000 in
theorem Xfloats (hG : az_okS l G) (b : Nat) (hb : b < ρ.2.2.2.2.2) (v : Int32) (r : Nat) (hr6 : r < 6) (hat : x.2.1 b 4 = nI r) (ha : ¬ x.1 2 r < 1) (ht : ¬ x.2.1 b 3 < 1) : az_M l G yX3_floatsWith (az_ws yX3_floatsWith cX3_floatsWith 3 (Option.some FieldType.boolean)) 3 [.ref (ρ.1 0), .ref (ρ.2.2.1 b), .int v] (AD ρ) (KK G ρ x m ou) 0 0 (az_r (some (.int (floatX x b r v))) (AD ρ) (KK G ρ x m ou)) := by
  refine az_start hG.1 (by decide +kernel) (Nat.le_of_ble_eq_true rfl) ?_
  intro p e s mm args below meth c C hnm
  show az_W l G 3 _ p e _ s mm args below meth c _ _ 0 0 0 [(0, .ref (ρ.1 0)), (1, .ref (ρ.2.2.1 b)), (2, .int v)] []
  refine az_aload_n C 1 dX3_floatsWith_0 rfl ?_
  refine az_aload_n C 1 dX3_floatsWith_1 rfl ?_
  refine az_getN C cX0 1 b 5 (v := .int (x.2.1 b 5)) (az_bw C hG nx_X3_162 rfl) dX3_floatsWith_2 rfl (KK_b hb) rfl (by decide) ?_
  refine az_iload_n C 2 dX3_floatsWith_5 rfl ?_
  refine az_iadd C dX3_floatsWith_6 ?_
  refine az_callV C Y_X0_draughtWith cX0 1 b [.int ((x.2.1 b 5 + v))] [] wm_X3_348 wi_X0_draughtWith wse_X0_draughtWith dX3_floatsWith_7 rfl (KK_b hb) rfl (Xwith hG b hb ((x.2.1 b 5 + v)) ht) rfl (Nat.le_of_ble_eq_true rfl) (Nat.le_of_ble_eq_true rfl) (Nat.le_of_ble_eq_true rfl) (Nat.le_of_ble_eq_true rfl) (Nat.le_of_ble_eq_true rfl) (az_k1 rfl rfl ?_) (az_k0 rfl)
  refine az_aload_n C 0 dX3_floatsWith_10 rfl ?_
  refine az_get C cX3 0 0 0 (v := .ref (ρ.1 1)) wl_X3_12 dX3_floatsWith_11 rfl rfl rfl (by decide) ?_
  refine az_aload_n C 1 dX3_floatsWith_14 rfl ?_
  refine az_getN C cX0 1 b 4 (v := .int (x.2.1 b 4)) (az_bw C hG nx_X3_159 rfl) dX3_floatsWith_15 rfl (KK_b hb) rfl (by decide) ?_
  refine az_top (nI r) hat ?_
  refine az_callV C Y_X2_level cX2 0 1 [.int (nI r)] [.int (deepX x b ((x.2.1 b 5 + v)))] wm_X3_98 wi_X2_level wse_X2_level dX3_floatsWith_18 rfl rfl rfl (klevel hG r hr6 ha) rfl (Nat.le_of_ble_eq_true rfl) (Nat.le_of_ble_eq_true rfl) (Nat.le_of_ble_eq_true rfl) (Nat.le_of_ble_eq_true rfl) (Nat.le_of_ble_eq_true rfl) (az_k1 rfl rfl ?_) (az_k0 rfl)
  refine az_icmp_ge C 28 dX3_floatsWith_21 (by decide) (fun c1 => ?_) (fun c1 => ?_)
  · refine az_iconst C (v := 0) dX3_floatsWith_28 (by decide) ?_
    exact az_zret C .boolean rfl rfl dX3_floatsWith_29 (Nat.le_of_ble_eq_true rfl) (Nat.le_of_ble_eq_true rfl) ⟨(by unfold floatX; simp only [c1, if_true, if_false]), rfl, rfl⟩
  · refine az_iconst C (v := 1) dX3_floatsWith_24 (by decide) ?_
    refine az_goto C 29 dX3_floatsWith_25 (by decide) ?_
    exact az_zret C .boolean rfl rfl dX3_floatsWith_29 (Nat.le_of_ble_eq_true rfl) (Nat.le_of_ble_eq_true rfl) ⟨(by unfold floatX; simp only [c1, if_true, if_false]), rfl, rfl⟩

def unloadX (x : Xs) (b r : Nat) (v : Int32) : Xs := (xP (xY x b 5 ((x.2.1 b 5 - v))) ((x.2.2.2 + ((v.toInt64) * ((x.1 11 r).toInt64)))))
set_option maxHeartbeats 4000000 in
set_option maxRecDepth 100000 in
theorem Xunload (hG : az_okS l G) (b : Nat) (hb : b < ρ.2.2.2.2.2) (v : Int32) (r : Nat) (hr6 : r < 6) (hat : x.2.1 b 4 = nI r) : az_M l G yX3_unload (az_ws yX3_unload cX3_unload 3 (Option.none : Option FieldType)) 1 [.ref (ρ.1 0), .ref (ρ.2.2.1 b), .int v] (AD ρ) (KK G ρ x m ou) 0 0 (az_r none (AD ρ) (KK G ρ (unloadX x b r v) m ou)) := by
  refine az_start hG.1 (by decide +kernel) (Nat.le_of_ble_eq_true rfl) ?_
  intro p e s mm args below meth c C hnm
  show az_W l G 3 _ p e _ s mm args below meth c _ _ 0 0 0 [(0, .ref (ρ.1 0)), (1, .ref (ρ.2.2.1 b)), (2, .int v)] []
  refine az_aload_n C 1 dX3_unload_0 rfl ?_
  refine az_dup C dX3_unload_1 rfl ?_
  refine az_getN C cX0 1 b 5 (v := .int (x.2.1 b 5)) (az_bw C hG nx_X3_162 rfl) dX3_unload_2 rfl (KK_b hb) rfl (by decide) ?_
  refine az_iload_n C 2 dX3_unload_5 rfl ?_
  refine az_isub C dX3_unload_6 ?_
  refine az_putN C cX0 1 b 5 (az_bw C hG nx_X3_162 rfl) dX3_unload_7 rfl (KK_b hb) (by decide) (Nat.le_of_ble_eq_true rfl) rfl rfl rfl (az_to rfl (K' := (KK G ρ (xY x b 5 ((x.2.1 b 5 - v))) m ou)) (KK_Y (x := x) (k := 5) (v := (x.2.1 b 5 - v)) hb) ?_)
  refine az_aload_n C 0 dX3_unload_10 rfl ?_
  refine az_dup C dX3_unload_11 rfl ?_
  refine az_get C cX3 0 0 9 (v := .long x.2.2.2) wl_X3_44 dX3_unload_12 rfl rfl rfl (by decide) ?_
  refine az_iload_n C 2 dX3_unload_15 rfl ?_
  refine az_i2l C dX3_unload_16 ?_
  refine az_aload_n C 0 dX3_unload_17 rfl ?_
  refine az_get C cX3 0 0 3 (v := .ref (ρ.1 11)) wl_X3_23 dX3_unload_18 rfl rfl rfl (by decide) ?_
  refine az_aload_n C 1 dX3_unload_21 rfl ?_
  refine az_getN C cX0 1 b 4 (v := .int ((xY x b 5 ((x.2.1 b 5 - v))).2.1 b 4)) (az_bw C hG nx_X3_159 rfl) dX3_unload_22 rfl (KK_b hb) rfl (by decide) ?_
  refine az_top (x.2.1 b 4) ((up2_k (by decide))) ?_
  refine az_top (nI r) hat ?_
  refine az_ialdN C 0 11 r (v := x.1 11 r) dX3_unload_25 rfl rfl (by omega) (by decide) rfl ?_
  refine az_i2l C dX3_unload_26 ?_
  refine az_lmul C dX3_unload_27 ?_
  refine az_ladd C dX3_unload_28 ?_
  refine az_put C cX3 0 0 9 wl_X3_44 dX3_unload_29 rfl rfl (by decide) (Nat.le_of_ble_eq_true rfl) rfl rfl rfl (az_to rfl (K' := (KK G ρ (xP (xY x b 5 ((x.2.1 b 5 - v))) ((x.2.2.2 + ((v.toInt64) * ((x.1 11 r).toInt64))))) m ou)) (KK_pu rfl) ?_)
  exact az_vret C rfl dX3_unload_32 (Nat.le_of_ble_eq_true rfl) (Nat.le_of_ble_eq_true rfl) ⟨rfl, rfl, rfl⟩

set_option maxHeartbeats 4000000 in
set_option maxRecDepth 100000 in
theorem XisAfloat1 (hG : az_okS l G) (nb k : Nat) (hb : x.1 0 7 = nI nb) (hnb : nb = ρ.2.2.2.2.2) (hn : nb ≤ 8) (hk : k + 1 ≤ nb) (r : Nat) (hr6 : r < 6) (hat : x.2.1 k 4 = nI r) (ha : ¬ x.1 2 r < 1) (ht : ¬ x.2.1 k 3 < 1) : az_M l G yX3_isAfloat (az_ws yX3_isAfloat cX3_isAfloat 2 (Option.some FieldType.boolean)) 4 [.ref (ρ.1 0), .int (nI k)] (AD ρ) (KK G ρ x m ou) 0 0 (az_r (some (.int (floatX x k r 0))) (AD ρ) (KK G ρ x m ou)) := by
  refine az_start hG.1 (by decide +kernel) (Nat.le_of_ble_eq_true rfl) ?_
  intro p e s mm args below meth c C hnm
  show az_W l G 2 _ p e _ s mm args below meth c _ _ 0 0 0 [(0, .ref (ρ.1 0)), (1, .int (nI k))] []
  refine az_aload_n C 0 dX3_isAfloat_0 rfl ?_
  refine az_aload_n C 0 dX3_isAfloat_1 rfl ?_
  refine az_iload_n C 1 dX3_isAfloat_2 rfl ?_
  refine az_callV C Y_X3_bargeNumbered cX3 0 0 [.int (nI k)] [.ref (ρ.1 0)] wm_X3_155 wi_X3_bargeNumbered wse_X3_bargeNumbered dX3_isAfloat_3 rfl rfl rfl (Xbarge1 hG nb k hb hnb hn hk) rfl (Nat.le_of_ble_eq_true rfl) (Nat.le_of_ble_eq_true rfl) (Nat.le_of_ble_eq_true rfl) (Nat.le_of_ble_eq_true rfl) (Nat.le_of_ble_eq_true rfl) (az_k1 rfl rfl ?_) (az_k0 rfl)
  refine az_iconst C (v := 0) dX3_isAfloat_6 (by decide) ?_
  refine az_callV C Y_X3_floatsWith cX3 0 0 [.ref (ρ.2.2.1 k), .int 0] [] wm_X3_169 wi_X3_floatsWith wse_X3_floatsWith dX3_isAfloat_7 rfl rfl rfl (Xfloats hG k (show k < ρ.2.2.2.2.2 by omega) (0) r hr6 hat ha ht) rfl (Nat.le_of_ble_eq_true rfl) (Nat.le_of_ble_eq_true rfl) (Nat.le_of_ble_eq_true rfl) (Nat.le_of_ble_eq_true rfl) (Nat.le_of_ble_eq_true rfl) (az_k1 rfl rfl ?_) (az_k0 rfl)
  exact az_zret C .boolean rfl (nar_x01 _ _) dX3_isAfloat_10 (Nat.le_of_ble_eq_true rfl) (Nat.le_of_ble_eq_true rfl) ⟨rfl, rfl, rfl⟩

set_option maxHeartbeats 4000000 in
set_option maxRecDepth 100000 in
theorem XisAfloat0 (hG : az_okS l G) (nb : Nat) (v : Int32) (hb : x.1 0 7 = nI nb) (hnb : nb = ρ.2.2.2.2.2) (hn : nb ≤ 8) (hv : oo nb v) : az_M l G yX3_isAfloat (az_ws yX3_isAfloat cX3_isAfloat 2 (Option.some FieldType.boolean)) 7 [.ref (ρ.1 0), .int v] (AD ρ) (KK G ρ x m ou) 1 6 (az_x "java/lang/IndexOutOfBoundsException" (AD ρ) (KK G ρ x m ou)) := by
  refine az_start hG.1 (by decide +kernel) (Nat.le_of_ble_eq_true rfl) ?_
  intro p e s mm args below meth c C hnm
  show az_W l G 2 _ p e _ s mm args below meth c _ _ 0 0 0 [(0, .ref (ρ.1 0)), (1, .int v)] []
  refine az_aload_n C 0 dX3_isAfloat_0 rfl ?_
  refine az_aload_n C 0 dX3_isAfloat_1 rfl ?_
  refine az_iload_n C 1 dX3_isAfloat_2 rfl ?_
  refine az_callV C Y_X3_bargeNumbered cX3 0 0 [.int v] [.ref (ρ.1 0)] wm_X3_155 wi_X3_bargeNumbered wse_X3_bargeNumbered dX3_isAfloat_3 rfl rfl rfl (Xbarge0 hG nb v hb hnb hn hv) rfl (Nat.le_of_ble_eq_true rfl) (Nat.le_of_ble_eq_true rfl) (Nat.le_of_ble_eq_true rfl) (Nat.le_of_ble_eq_true rfl) (Nat.le_of_ble_eq_true rfl) (az_x0 rfl) (az_x1 rfl ?_)
  exact az_out C (fun _ h => by cases h) (Nat.le_of_ble_eq_true rfl) (Nat.le_of_ble_eq_true rfl) ⟨rfl, rfl, rfl⟩

set_option maxHeartbeats 4000000 in
set_option maxRecDepth 100000 in
theorem XconvoySize1 (hG : az_okS l G) (nb k : Nat) (hb : x.1 0 7 = nI nb) (hnb : nb = ρ.2.2.2.2.2) (hn : nb ≤ 8) (hk : k + 1 ≤ nb) (r : List Nat) (f : Nat) (t : List Nat) (hc : XCv ρ.2.2.2.2.2 x k r f t) : az_M l G yX3_convoySize (az_ws yX3_convoySize cX3_convoySize 2 (Option.some FieldType.int)) 3 [.ref (ρ.1 0), .int (nI k)] (AD ρ) (KK G ρ x m ou) 0 0 (az_r (some (.int (nI (t.length + 1)))) (AD ρ) (KK G ρ x m ou)) := by
  refine az_start hG.1 (by decide +kernel) (Nat.le_of_ble_eq_true rfl) ?_
  intro p e s mm args below meth c C hnm
  show az_W l G 2 _ p e _ s mm args below meth c _ _ 0 0 0 [(0, .ref (ρ.1 0)), (1, .int (nI k))] []
  refine az_aload_n C 0 dX3_convoySize_0 rfl ?_
  refine az_iload_n C 1 dX3_convoySize_1 rfl ?_
  refine az_callV C Y_X3_bargeNumbered cX3 0 0 [.int (nI k)] [] wm_X3_155 wi_X3_bargeNumbered wse_X3_bargeNumbered dX3_convoySize_2 rfl rfl rfl (Xbarge1 hG nb k hb hnb hn hk) rfl (Nat.le_of_ble_eq_true rfl) (Nat.le_of_ble_eq_true rfl) (Nat.le_of_ble_eq_true rfl) (Nat.le_of_ble_eq_true rfl) (Nat.le_of_ble_eq_true rfl) (az_k1 rfl rfl ?_) (az_k0 rfl)
  refine az_callV C Y_X0_first cX0 1 k [] [] wm_X3_173 wi_X0_first wse_X0_first dX3_convoySize_5 rfl (KK_b hc.1.1) rfl (Xfirst hG k r hc.1) rfl (Nat.le_of_ble_eq_true rfl) (Nat.le_of_ble_eq_true rfl) (Nat.le_of_ble_eq_true rfl) (Nat.le_of_ble_eq_true rfl) (Nat.le_of_ble_eq_true rfl) (az_k1 (by rw [hc.2.1]) rfl ?_) (az_k0 (by rw [hc.2.1]))
  refine az_callV C Y_X0_chainSize cX0 1 f [] [] wm_X3_179 wi_X0_chainSize wse_X0_chainSize dX3_convoySize_8 rfl (KK_b hc.2.2.1) rfl (XchainSize hG f t hc.2.2) rfl (Nat.le_of_ble_eq_true rfl) (Nat.le_of_ble_eq_true rfl) (Nat.le_of_ble_eq_true rfl) (Nat.le_of_ble_eq_true rfl) (Nat.le_of_ble_eq_true rfl) (az_k1 rfl rfl ?_) (az_k0 rfl)
  exact az_iret C rfl dX3_convoySize_11 (Nat.le_of_ble_eq_true rfl) (Nat.le_of_ble_eq_true rfl) ⟨rfl, rfl, rfl⟩

set_option maxHeartbeats 4000000 in
set_option maxRecDepth 100000 in
theorem XconvoySize0 (hG : az_okS l G) (nb : Nat) (v : Int32) (hb : x.1 0 7 = nI nb) (hnb : nb = ρ.2.2.2.2.2) (hn : nb ≤ 8) (hv : oo nb v) : az_M l G yX3_convoySize (az_ws yX3_convoySize cX3_convoySize 2 (Option.some FieldType.int)) 7 [.ref (ρ.1 0), .int v] (AD ρ) (KK G ρ x m ou) 1 6 (az_x "java/lang/IndexOutOfBoundsException" (AD ρ) (KK G ρ x m ou)) := by
  refine az_start hG.1 (by decide +kernel) (Nat.le_of_ble_eq_true rfl) ?_
  intro p e s mm args below meth c C hnm
  show az_W l G 2 _ p e _ s mm args below meth c _ _ 0 0 0 [(0, .ref (ρ.1 0)), (1, .int v)] []
  refine az_aload_n C 0 dX3_convoySize_0 rfl ?_
  refine az_iload_n C 1 dX3_convoySize_1 rfl ?_
  refine az_callV C Y_X3_bargeNumbered cX3 0 0 [.int v] [] wm_X3_155 wi_X3_bargeNumbered wse_X3_bargeNumbered dX3_convoySize_2 rfl rfl rfl (Xbarge0 hG nb v hb hnb hn hv) rfl (Nat.le_of_ble_eq_true rfl) (Nat.le_of_ble_eq_true rfl) (Nat.le_of_ble_eq_true rfl) (Nat.le_of_ble_eq_true rfl) (Nat.le_of_ble_eq_true rfl) (az_x0 rfl) (az_x1 rfl ?_)
  exact az_out C (fun _ h => by cases h) (Nat.le_of_ble_eq_true rfl) (Nat.le_of_ble_eq_true rfl) ⟨rfl, rfl, rfl⟩

set_option maxHeartbeats 4000000 in
set_option maxRecDepth 100000 in
theorem XcAt_l (hG : az_okS l G) {p : Program} {e : Env} {s : State} {mm : MethodId} {args : Array Value} {below : List Frame} {meth : Method} {c : Code} (C : az_C l G p s mm args meth c cX3_convoyAt yX3_convoyAt.cls 5 (Option.some FieldType.int) []) : ∀ (v : Int32) (d : Nat) (s9 : List Nat) (n9 i : Nat) (hs : XSuf ρ.2.2.2.2.2 x s9) (hl : n9 + s9.length ≤ 1000) (hv : v = nI (n9 + i)) (hi : s9[i]? = some d), az_W l G 5 (az_Q G (az_r (some (.int (nI d))) (AD ρ) (KK G ρ x m ou)) below args s 0 0) p e (az_rm 3 0 0) s mm args below meth c (AD ρ) (KK G ρ x m ou) 0 0 12 [(4, va_rf ((s9).head?.map ρ.2.2.1)), (3, .int (nI n9)), (2, .int v), (0, .ref (ρ.1 0))] [] := by
  intro v d s9
  induction s9 with
  | nil =>
    intro n9 i hs hl hv hi
    simp at hi
  | cons b s9 ih =>
    intro n9 i hs hl hv hi
    rw [List.length_cons] at hl
    cases i with
    | zero =>
      obtain rfl : b = d := Option.some.inj hi
      refine az_aload C 0 dX3_convoyAt_12 rfl ?_
      refine az_ifnull C dX3_convoyAt_14 ?_
      refine az_iload_n C 1 dX3_convoyAt_17 rfl ?_
      refine az_iload_n C 2 dX3_convoyAt_18 rfl ?_
      refine az_icmp_ne C 28 dX3_convoyAt_19 (by decide) (fun q => absurd (show nI n9 = v from by rw [hv, Nat.add_zero]) q) (fun _ => ?_)
      refine az_aload C 0 dX3_convoyAt_22 rfl ?_
      refine az_getN C cX0 1 b 0 (v := .int (nI b)) (az_bw C hG nx_X3_196 rfl) dX3_convoyAt_24 rfl (KK_b hs.1) rfl (by decide) ?_
      exact az_iret C rfl dX3_convoyAt_27 (Nat.le_of_ble_eq_true rfl) (Nat.le_of_ble_eq_true rfl) ⟨rfl, rfl, rfl⟩
    | succ i =>
      have hi9 : i < s9.length := by have z := (List.getElem?_eq_some_iff.mp hi).1; rw [List.length_cons] at z; omega
      refine az_aload C 0 dX3_convoyAt_12 rfl ?_
      refine az_ifnull C dX3_convoyAt_14 ?_
      refine az_iload_n C 1 dX3_convoyAt_17 rfl ?_
      refine az_iload_n C 2 dX3_convoyAt_18 rfl ?_
      refine az_icmp_ne C 28 dX3_convoyAt_19 (by decide) (fun _ => ?_) (fun q => absurd q (show ¬ nI n9 = v from fun z => by rw [hv, nI_eq (by omega) (by omega)] at z; omega))
      refine az_iinc C 1 (v := nI (n9 + 1)) (lv' := [(3, .int (nI (n9 + 1))), (4, .ref (ρ.2.2.1 b)), (2, .int v), (0, .ref (ρ.1 0))]) dX3_convoyAt_28 rfl (nI_1 n9) (by decide) rfl ?_
      refine az_aload C 1 dX3_convoyAt_31 rfl ?_
      refine az_getN C cX0 1 b 7 (v := va_rf ((x.2.2.1 1 b).map ρ.2.2.1)) (az_bw C hG nx_X3_187 rfl) dX3_convoyAt_33 rfl (KK_b hs.1) rfl (by decide) ?_
      refine az_st [va_rf ((s9).head?.map ρ.2.2.1)] (by rw [hs.2.1] <;> rfl) ?_
      refine az_astoreO C (lv' := [(4, va_rf ((s9).head?.map ρ.2.2.1)), (3, .int (nI (n9 + 1))), (2, .int v), (0, .ref (ρ.1 0))]) dX3_convoyAt_36 (by decide) rfl ?_
      refine az_goto C 12 dX3_convoyAt_38 (by decide) ?_
      exact az_lv [0, 1, 2, 3] rfl (ih (n9 + 1) i hs.2.2 (by omega) (by rw [hv]; congr 1; omega) hi)

set_option maxHeartbeats 4000000 in
set_option maxRecDepth 100000 in
theorem XcAt_o (hG : az_okS l G) {p : Program} {e : Env} {s : State} {mm : MethodId} {args : Array Value} {below : List Frame} {meth : Method} {c : Code} (C : az_C l G p s mm args meth c cX3_convoyAt yX3_convoyAt.cls 5 (Option.some FieldType.int) []) : ∀ (v : Int32) (s9 : List Nat) (n9 : Nat) (hs : XSuf ρ.2.2.2.2.2 x s9) (hv : ∀ i, i < s9.length → ¬ nI (n9 + i) = v), az_W l G 5 (az_Q G (az_x "java/util/NoSuchElementException" (AD ρ) (KK G ρ x m ou)) below args s 1 6) p e (az_rm 6 1 6) s mm args below meth c (AD ρ) (KK G ρ x m ou) 0 0 12 [(4, va_rf ((s9).head?.map ρ.2.2.1)), (3, .int (nI n9)), (2, .int v), (0, .ref (ρ.1 0))] [] := by
  intro v s9
  induction s9 with
  | nil =>
    intro n9 hs hv
    refine az_aloadN C 0 dX3_convoyAt_12 rfl ?_
    refine az_ifnullN C 41 dX3_convoyAt_14 (by decide) ?_
    exact az_thrS_NSE C hG (List.mem_of_getElem? (i := 13) rfl) dX3_convoyAt_41 dX3_convoyAt_44 dX3_convoyAt_45 dX3_convoyAt_47 dX3_convoyAt_50 (Nat.le_of_ble_eq_true rfl) (Nat.le_of_ble_eq_true rfl) (Nat.le_of_ble_eq_true rfl) (Nat.le_of_ble_eq_true rfl) (Nat.le_of_ble_eq_true rfl) (Nat.le_of_ble_eq_true rfl) ⟨rfl, rfl, rfl⟩
  | cons b s9 ih =>
    intro n9 hs hv
    refine az_aload C 0 dX3_convoyAt_12 rfl ?_
    refine az_ifnull C dX3_convoyAt_14 ?_
    refine az_iload_n C 1 dX3_convoyAt_17 rfl ?_
    refine az_iload_n C 2 dX3_convoyAt_18 rfl ?_
    refine az_icmp_ne C 28 dX3_convoyAt_19 (by decide) (fun _ => ?_) (fun q => absurd q (show ¬ nI n9 = v from hv 0 (by rw [List.length_cons]; omega)))
    refine az_iinc C 1 (v := nI (n9 + 1)) (lv' := [(3, .int (nI (n9 + 1))), (4, .ref (ρ.2.2.1 b)), (2, .int v), (0, .ref (ρ.1 0))]) dX3_convoyAt_28 rfl (nI_1 n9) (by decide) rfl ?_
    refine az_aload C 1 dX3_convoyAt_31 rfl ?_
    refine az_getN C cX0 1 b 7 (v := va_rf ((x.2.2.1 1 b).map ρ.2.2.1)) (az_bw C hG nx_X3_187 rfl) dX3_convoyAt_33 rfl (KK_b hs.1) rfl (by decide) ?_
    refine az_st [va_rf ((s9).head?.map ρ.2.2.1)] (by rw [hs.2.1] <;> rfl) ?_
    refine az_astoreO C (lv' := [(4, va_rf ((s9).head?.map ρ.2.2.1)), (3, .int (nI (n9 + 1))), (2, .int v), (0, .ref (ρ.1 0))]) dX3_convoyAt_36 (by decide) rfl ?_
    refine az_goto C 12 dX3_convoyAt_38 (by decide) ?_
    exact az_lv [0, 1, 2, 3] rfl (ih (n9 + 1) hs.2.2 (fun i hi z => hv (i + 1) (by rw [List.length_cons]; omega) (by rw [← z]; congr 1; omega)))

set_option maxHeartbeats 4000000 in
set_option maxRecDepth 100000 in
theorem XcAt2 (hG : az_okS l G) (nb k : Nat) (hb : x.1 0 7 = nI nb) (hnb : nb = ρ.2.2.2.2.2) (hn : nb ≤ 8) (hk : k + 1 ≤ nb) (r : List Nat) (f : Nat) (t : List Nat) (hc : XCv ρ.2.2.2.2.2 x k r f t) (v : Int32) (i d : Nat) (hv : v = nI i) (hi : (f :: t)[i]? = some d) (hl : t.length < 999) : az_M l G yX3_convoyAt (az_ws yX3_convoyAt cX3_convoyAt 5 (Option.some FieldType.int)) 3 [.ref (ρ.1 0), .int (nI k), .int v] (AD ρ) (KK G ρ x m ou) 0 0 (az_r (some (.int (nI d))) (AD ρ) (KK G ρ x m ou)) := by
  refine az_start hG.1 (by decide +kernel) (Nat.le_of_ble_eq_true rfl) ?_
  intro p e s mm args below meth c C hnm
  show az_W l G 5 _ p e _ s mm args below meth c _ _ 0 0 0 [(0, .ref (ρ.1 0)), (1, .int (nI k)), (2, .int v)] []
  refine az_iconst C (v := 0) dX3_convoyAt_0 (by decide) ?_
  refine az_istore_n C (lv' := [(3, .int 0), (0, .ref (ρ.1 0)), (1, .int (nI k)), (2, .int v)]) (j := 3) rfl dX3_convoyAt_1 (by decide) rfl ?_
  refine az_aload_n C 1 dX3_convoyAt_2 rfl ?_
  refine az_iload_n C 2 dX3_convoyAt_3 rfl ?_
  refine az_callV C Y_X3_bargeNumbered cX3 0 0 [.int (nI k)] [] wm_X3_155 wi_X3_bargeNumbered wse_X3_bargeNumbered dX3_convoyAt_4 rfl rfl rfl (Xbarge1 hG nb k hb hnb hn hk) rfl (Nat.le_of_ble_eq_true rfl) (Nat.le_of_ble_eq_true rfl) (Nat.le_of_ble_eq_true rfl) (Nat.le_of_ble_eq_true rfl) (Nat.le_of_ble_eq_true rfl) (az_k1 rfl rfl ?_) (az_k0 rfl)
  refine az_callV C Y_X0_first cX0 1 k [] [] wm_X3_173 wi_X0_first wse_X0_first dX3_convoyAt_7 rfl (KK_b hc.1.1) rfl (Xfirst hG k r hc.1) rfl (Nat.le_of_ble_eq_true rfl) (Nat.le_of_ble_eq_true rfl) (Nat.le_of_ble_eq_true rfl) (Nat.le_of_ble_eq_true rfl) (Nat.le_of_ble_eq_true rfl) (az_k1 (by rw [hc.2.1]) rfl ?_) (az_k0 (by rw [hc.2.1]))
  refine az_astore C (lv' := [(4, .ref (ρ.2.2.1 f)), (3, .int 0), (0, .ref (ρ.1 0)), (1, .int (nI k)), (2, .int v)]) dX3_convoyAt_10 (by decide) rfl ?_
  exact az_lv [0, 1, 4, 2] rfl (XcAt_l hG C v d (f :: t) 0 i hc.2.2 (by rw [List.length_cons]; omega) (by rw [hv, Nat.zero_add]) hi)

set_option maxHeartbeats 4000000 in
set_option maxRecDepth 100000 in
theorem XcAt1 (hG : az_okS l G) (nb k : Nat) (hb : x.1 0 7 = nI nb) (hnb : nb = ρ.2.2.2.2.2) (hn : nb ≤ 8) (hk : k + 1 ≤ nb) (r : List Nat) (f : Nat) (t : List Nat) (hc : XCv ρ.2.2.2.2.2 x k r f t) (v : Int32) (hv : ∀ i, i < t.length + 1 → ¬ nI i = v) : az_M l G yX3_convoyAt (az_ws yX3_convoyAt cX3_convoyAt 5 (Option.some FieldType.int)) 6 [.ref (ρ.1 0), .int (nI k), .int v] (AD ρ) (KK G ρ x m ou) 1 6 (az_x "java/util/NoSuchElementException" (AD ρ) (KK G ρ x m ou)) := by
  refine az_start hG.1 (by decide +kernel) (Nat.le_of_ble_eq_true rfl) ?_
  intro p e s mm args below meth c C hnm
  show az_W l G 5 _ p e _ s mm args below meth c _ _ 0 0 0 [(0, .ref (ρ.1 0)), (1, .int (nI k)), (2, .int v)] []
  refine az_iconst C (v := 0) dX3_convoyAt_0 (by decide) ?_
  refine az_istore_n C (lv' := [(3, .int 0), (0, .ref (ρ.1 0)), (1, .int (nI k)), (2, .int v)]) (j := 3) rfl dX3_convoyAt_1 (by decide) rfl ?_
  refine az_aload_n C 1 dX3_convoyAt_2 rfl ?_
  refine az_iload_n C 2 dX3_convoyAt_3 rfl ?_
  refine az_callV C Y_X3_bargeNumbered cX3 0 0 [.int (nI k)] [] wm_X3_155 wi_X3_bargeNumbered wse_X3_bargeNumbered dX3_convoyAt_4 rfl rfl rfl (Xbarge1 hG nb k hb hnb hn hk) rfl (Nat.le_of_ble_eq_true rfl) (Nat.le_of_ble_eq_true rfl) (Nat.le_of_ble_eq_true rfl) (Nat.le_of_ble_eq_true rfl) (Nat.le_of_ble_eq_true rfl) (az_k1 rfl rfl ?_) (az_k0 rfl)
  refine az_callV C Y_X0_first cX0 1 k [] [] wm_X3_173 wi_X0_first wse_X0_first dX3_convoyAt_7 rfl (KK_b hc.1.1) rfl (Xfirst hG k r hc.1) rfl (Nat.le_of_ble_eq_true rfl) (Nat.le_of_ble_eq_true rfl) (Nat.le_of_ble_eq_true rfl) (Nat.le_of_ble_eq_true rfl) (Nat.le_of_ble_eq_true rfl) (az_k1 (by rw [hc.2.1]) rfl ?_) (az_k0 (by rw [hc.2.1]))
  refine az_astore C (lv' := [(4, .ref (ρ.2.2.1 f)), (3, .int 0), (0, .ref (ρ.1 0)), (1, .int (nI k)), (2, .int v)]) dX3_convoyAt_10 (by decide) rfl ?_
  exact az_lv [0, 1, 4, 2] rfl (XcAt_o hG C v (f :: t) 0 hc.2.2 (fun i hi z => hv i hi (by rw [← z, Nat.zero_add])))

set_option maxHeartbeats 4000000 in
set_option maxRecDepth 100000 in
theorem XcAt0 (hG : az_okS l G) (nb : Nat) (v u : Int32) (hb : x.1 0 7 = nI nb) (hnb : nb = ρ.2.2.2.2.2) (hn : nb ≤ 8) (hv : oo nb v) : az_M l G yX3_convoyAt (az_ws yX3_convoyAt cX3_convoyAt 5 (Option.some FieldType.int)) 7 [.ref (ρ.1 0), .int v, .int u] (AD ρ) (KK G ρ x m ou) 1 6 (az_x "java/lang/IndexOutOfBoundsException" (AD ρ) (KK G ρ x m ou)) := by
  refine az_start hG.1 (by decide +kernel) (Nat.le_of_ble_eq_true rfl) ?_
  intro p e s mm args below meth c C hnm
  show az_W l G 5 _ p e _ s mm args below meth c _ _ 0 0 0 [(0, .ref (ρ.1 0)), (1, .int v), (2, .int u)] []
  refine az_iconst C (v := 0) dX3_convoyAt_0 (by decide) ?_
  refine az_istore_n C (lv' := [(3, .int 0), (0, .ref (ρ.1 0)), (1, .int v), (2, .int u)]) (j := 3) rfl dX3_convoyAt_1 (by decide) rfl ?_
  refine az_aload_n C 1 dX3_convoyAt_2 rfl ?_
  refine az_iload_n C 2 dX3_convoyAt_3 rfl ?_
  refine az_callV C Y_X3_bargeNumbered cX3 0 0 [.int v] [] wm_X3_155 wi_X3_bargeNumbered wse_X3_bargeNumbered dX3_convoyAt_4 rfl rfl rfl (Xbarge0 hG nb v hb hnb hn hv) rfl (Nat.le_of_ble_eq_true rfl) (Nat.le_of_ble_eq_true rfl) (Nat.le_of_ble_eq_true rfl) (Nat.le_of_ble_eq_true rfl) (Nat.le_of_ble_eq_true rfl) (az_x0 rfl) (az_x1 rfl ?_)
  exact az_out C (fun _ h => by cases h) (Nat.le_of_ble_eq_true rfl) (Nat.le_of_ble_eq_true rfl) ⟨rfl, rfl, rfl⟩

set_option maxHeartbeats 4000000 in
set_option maxRecDepth 100000 in
theorem XpartsFor2 (hG : az_okS l G) (nb k : Nat) (hb : x.1 0 7 = nI nb) (hnb : nb = ρ.2.2.2.2.2) (hn : nb ≤ 8) (hk : k + 1 ≤ nb) (r : List Nat) (f : Nat) (t : List Nat) (hc : XCv ρ.2.2.2.2.2 x k r f t) (nr lk : Nat) (hr : x.1 1 8 = nI nr) (hn6 : nr ≤ 6) (hk2 : lk + 2 ≤ nr) (h : mxL x (f :: t) 0 ≤ x.1 9 lk) : az_M l G yX3_partsFor (az_ws yX3_partsFor cX3_partsFor 4 (Option.some FieldType.int)) 3 [.ref (ρ.1 0), .int (nI k), .int (nI lk)] (AD ρ) (KK G ρ x m ou) 0 0 (az_r (some (.int (nI (ptX x (x.1 9 lk) (t.length + 1) (f :: t))))) (AD ρ) (KK G ρ x m ou)) := by
  refine az_start hG.1 (by decide +kernel) (Nat.le_of_ble_eq_true rfl) ?_
  intro p e s mm args below meth c C hnm
  show az_W l G 4 _ p e _ s mm args below meth c _ _ 0 0 0 [(0, .ref (ρ.1 0)), (1, .int (nI k)), (2, .int (nI lk))] []
  refine az_aload_n C 0 dX3_partsFor_0 rfl ?_
  refine az_iload_n C 1 dX3_partsFor_1 rfl ?_
  refine az_callV C Y_X3_bargeNumbered cX3 0 0 [.int (nI k)] [] wm_X3_155 wi_X3_bargeNumbered wse_X3_bargeNumbered dX3_partsFor_2 rfl rfl rfl (Xbarge1 hG nb k hb hnb hn hk) rfl (Nat.le_of_ble_eq_true rfl) (Nat.le_of_ble_eq_true rfl) (Nat.le_of_ble_eq_true rfl) (Nat.le_of_ble_eq_true rfl) (Nat.le_of_ble_eq_true rfl) (az_k1 rfl rfl ?_) (az_k0 rfl)
  refine az_callV C Y_X0_first cX0 1 k [] [] wm_X3_173 wi_X0_first wse_X0_first dX3_partsFor_5 rfl (KK_b hc.1.1) rfl (Xfirst hG k r hc.1) rfl (Nat.le_of_ble_eq_true rfl) (Nat.le_of_ble_eq_true rfl) (Nat.le_of_ble_eq_true rfl) (Nat.le_of_ble_eq_true rfl) (Nat.le_of_ble_eq_true rfl) (az_k1 (by rw [hc.2.1]) rfl ?_) (az_k0 (by rw [hc.2.1]))
  refine az_astore_n C (lv' := [(3, .ref (ρ.2.2.1 f)), (0, .ref (ρ.1 0)), (1, .int (nI k)), (2, .int (nI lk))]) (j := 3) rfl dX3_partsFor_8 (by decide) rfl ?_
  refine az_aload_n C 1 dX3_partsFor_9 rfl ?_
  refine az_iload_n C 3 dX3_partsFor_10 rfl ?_
  refine az_callV C Y_X3_needLock cX3 0 0 [.int (nI lk)] [] wm_X3_101 wi_X3_needLock wse_X3_needLock dX3_partsFor_11 rfl rfl rfl (XneedLock1 hG nr lk hr hn6 hk2) rfl (Nat.le_of_ble_eq_true rfl) (Nat.le_of_ble_eq_true rfl) (Nat.le_of_ble_eq_true rfl) (Nat.le_of_ble_eq_true rfl) (Nat.le_of_ble_eq_true rfl) (az_k1 rfl rfl ?_) (az_k0 rfl)
  refine az_aload_n C 0 dX3_partsFor_14 rfl ?_
  refine az_callV C Y_X0_greatestLength cX0 1 f [] [] wm_X3_204 wi_X0_greatestLength wse_X0_greatestLength dX3_partsFor_15 rfl (KK_b hc.2.2.1) rfl (XgLength hG f t hc.2.2) rfl (Nat.le_of_ble_eq_true rfl) (Nat.le_of_ble_eq_true rfl) (Nat.le_of_ble_eq_true rfl) (Nat.le_of_ble_eq_true rfl) (Nat.le_of_ble_eq_true rfl) (az_k1 rfl rfl ?_) (az_k0 rfl)
  refine az_aload_n C 1 dX3_partsFor_18 rfl ?_
  refine az_get C cX3 0 0 1 (v := .ref (ρ.1 9)) wl_X3_16 dX3_partsFor_19 rfl rfl rfl (by decide) ?_
  refine az_iload_n C 3 dX3_partsFor_22 rfl ?_
  refine az_ialdN C 0 9 lk (v := x.1 9 lk) dX3_partsFor_23 rfl rfl (by omega) (by decide) rfl ?_
  refine az_icmp_le C 37 dX3_partsFor_24 (by decide) (fun _ => ?_) (fun q => absurd h q)
  refine az_aload_n C 0 dX3_partsFor_37 rfl ?_
  refine az_aload_n C 1 dX3_partsFor_38 rfl ?_
  refine az_get C cX3 0 0 1 (v := .ref (ρ.1 9)) wl_X3_16 dX3_partsFor_39 rfl rfl rfl (by decide) ?_
  refine az_iload_n C 3 dX3_partsFor_42 rfl ?_
  refine az_ialdN C 0 9 lk (v := x.1 9 lk) dX3_partsFor_43 rfl rfl (by omega) (by decide) rfl ?_
  refine az_callV C Y_X0_parts cX0 1 f [.int (x.1 9 lk)] [] wm_X3_209 wi_X0_parts wse_X0_parts dX3_partsFor_44 rfl (KK_b hc.2.2.1) rfl (Xparts hG f t (x.1 9 lk) hc.2.2) rfl (Nat.le_of_ble_eq_true rfl) (Nat.le_of_ble_eq_true rfl) (Nat.le_of_ble_eq_true rfl) (Nat.le_of_ble_eq_true rfl) (Nat.le_of_ble_eq_true rfl) (az_k1 rfl rfl ?_) (az_k0 rfl)
  exact az_iret C rfl dX3_partsFor_47 (Nat.le_of_ble_eq_true rfl) (Nat.le_of_ble_eq_true rfl) ⟨rfl, rfl, rfl⟩

set_option maxHeartbeats 4000000 in
set_option maxRecDepth 100000 in
theorem XpartsFor1 (hG : az_okS l G) (nb k : Nat) (hb : x.1 0 7 = nI nb) (hnb : nb = ρ.2.2.2.2.2) (hn : nb ≤ 8) (hk : k + 1 ≤ nb) (r : List Nat) (f : Nat) (t : List Nat) (hc : XCv ρ.2.2.2.2.2 x k r f t) (nr lk : Nat) (hr : x.1 1 8 = nI nr) (hn6 : nr ≤ 6) (hk2 : lk + 2 ≤ nr) (h : ¬ mxL x (f :: t) 0 ≤ x.1 9 lk) : az_M l G yX3_partsFor (az_ws yX3_partsFor cX3_partsFor 4 (Option.some FieldType.int)) 6 [.ref (ρ.1 0), .int (nI k), .int (nI lk)] (AD ρ) (KK G ρ x m ou) 1 6 (az_x "java/lang/UnsupportedOperationException" (AD ρ) (KK G ρ x m ou)) := by
  refine az_start hG.1 (by decide +kernel) (Nat.le_of_ble_eq_true rfl) ?_
  intro p e s mm args below meth c C hnm
  show az_W l G 4 _ p e _ s mm args below meth c _ _ 0 0 0 [(0, .ref (ρ.1 0)), (1, .int (nI k)), (2, .int (nI lk))] []
  refine az_aload_n C 0 dX3_partsFor_0 rfl ?_
  refine az_iload_n C 1 dX3_partsFor_1 rfl ?_
  refine az_callV C Y_X3_bargeNumbered cX3 0 0 [.int (nI k)] [] wm_X3_155 wi_X3_bargeNumbered wse_X3_bargeNumbered dX3_partsFor_2 rfl rfl rfl (Xbarge1 hG nb k hb hnb hn hk) rfl (Nat.le_of_ble_eq_true rfl) (Nat.le_of_ble_eq_true rfl) (Nat.le_of_ble_eq_true rfl) (Nat.le_of_ble_eq_true rfl) (Nat.le_of_ble_eq_true rfl) (az_k1 rfl rfl ?_) (az_k0 rfl)
  refine az_callV C Y_X0_first cX0 1 k [] [] wm_X3_173 wi_X0_first wse_X0_first dX3_partsFor_5 rfl (KK_b hc.1.1) rfl (Xfirst hG k r hc.1) rfl (Nat.le_of_ble_eq_true rfl) (Nat.le_of_ble_eq_true rfl) (Nat.le_of_ble_eq_true rfl) (Nat.le_of_ble_eq_true rfl) (Nat.le_of_ble_eq_true rfl) (az_k1 (by rw [hc.2.1]) rfl ?_) (az_k0 (by rw [hc.2.1]))
  refine az_astore_n C (lv' := [(3, .ref (ρ.2.2.1 f)), (0, .ref (ρ.1 0)), (1, .int (nI k)), (2, .int (nI lk))]) (j := 3) rfl dX3_partsFor_8 (by decide) rfl ?_
  refine az_aload_n C 1 dX3_partsFor_9 rfl ?_
  refine az_iload_n C 3 dX3_partsFor_10 rfl ?_
  refine az_callV C Y_X3_needLock cX3 0 0 [.int (nI lk)] [] wm_X3_101 wi_X3_needLock wse_X3_needLock dX3_partsFor_11 rfl rfl rfl (XneedLock1 hG nr lk hr hn6 hk2) rfl (Nat.le_of_ble_eq_true rfl) (Nat.le_of_ble_eq_true rfl) (Nat.le_of_ble_eq_true rfl) (Nat.le_of_ble_eq_true rfl) (Nat.le_of_ble_eq_true rfl) (az_k1 rfl rfl ?_) (az_k0 rfl)
  refine az_aload_n C 0 dX3_partsFor_14 rfl ?_
  refine az_callV C Y_X0_greatestLength cX0 1 f [] [] wm_X3_204 wi_X0_greatestLength wse_X0_greatestLength dX3_partsFor_15 rfl (KK_b hc.2.2.1) rfl (XgLength hG f t hc.2.2) rfl (Nat.le_of_ble_eq_true rfl) (Nat.le_of_ble_eq_true rfl) (Nat.le_of_ble_eq_true rfl) (Nat.le_of_ble_eq_true rfl) (Nat.le_of_ble_eq_true rfl) (az_k1 rfl rfl ?_) (az_k0 rfl)
  refine az_aload_n C 1 dX3_partsFor_18 rfl ?_
  refine az_get C cX3 0 0 1 (v := .ref (ρ.1 9)) wl_X3_16 dX3_partsFor_19 rfl rfl rfl (by decide) ?_
  refine az_iload_n C 3 dX3_partsFor_22 rfl ?_
  refine az_ialdN C 0 9 lk (v := x.1 9 lk) dX3_partsFor_23 rfl rfl (by omega) (by decide) rfl ?_
  refine az_icmp_le C 37 dX3_partsFor_24 (by decide) (fun q => absurd q h) (fun _ => ?_)
  exact az_thrS_UOE C hG (List.mem_of_getElem? (i := 18) rfl) dX3_partsFor_27 dX3_partsFor_30 dX3_partsFor_31 dX3_partsFor_33 dX3_partsFor_36 (Nat.le_of_ble_eq_true rfl) (Nat.le_of_ble_eq_true rfl) (Nat.le_of_ble_eq_true rfl) (Nat.le_of_ble_eq_true rfl) (Nat.le_of_ble_eq_true rfl) (Nat.le_of_ble_eq_true rfl) ⟨rfl, rfl, rfl⟩

set_option maxHeartbeats 4000000 in
set_option maxRecDepth 100000 in
theorem XpartsFor0 (hG : az_okS l G) (nb : Nat) (v u : Int32) (hb : x.1 0 7 = nI nb) (hnb : nb = ρ.2.2.2.2.2) (hn : nb ≤ 8) (hv : oo nb v) : az_M l G yX3_partsFor (az_ws yX3_partsFor cX3_partsFor 4 (Option.some FieldType.int)) 7 [.ref (ρ.1 0), .int v, .int u] (AD ρ) (KK G ρ x m ou) 1 6 (az_x "java/lang/IndexOutOfBoundsException" (AD ρ) (KK G ρ x m ou)) := by
  refine az_start hG.1 (by decide +kernel) (Nat.le_of_ble_eq_true rfl) ?_
  intro p e s mm args below meth c C hnm
  show az_W l G 4 _ p e _ s mm args below meth c _ _ 0 0 0 [(0, .ref (ρ.1 0)), (1, .int v), (2, .int u)] []
  refine az_aload_n C 0 dX3_partsFor_0 rfl ?_
  refine az_iload_n C 1 dX3_partsFor_1 rfl ?_
  refine az_callV C Y_X3_bargeNumbered cX3 0 0 [.int v] [] wm_X3_155 wi_X3_bargeNumbered wse_X3_bargeNumbered dX3_partsFor_2 rfl rfl rfl (Xbarge0 hG nb v hb hnb hn hv) rfl (Nat.le_of_ble_eq_true rfl) (Nat.le_of_ble_eq_true rfl) (Nat.le_of_ble_eq_true rfl) (Nat.le_of_ble_eq_true rfl) (Nat.le_of_ble_eq_true rfl) (az_x0 rfl) (az_x1 rfl ?_)
  exact az_out C (fun _ h => by cases h) (Nat.le_of_ble_eq_true rfl) (Nat.le_of_ble_eq_true rfl) ⟨rfl, rfl, rfl⟩

set_option maxHeartbeats 4000000 in
set_option maxRecDepth 100000 in
theorem XpartsFor00 (hG : az_okS l G) (nb k : Nat) (hb : x.1 0 7 = nI nb) (hnb : nb = ρ.2.2.2.2.2) (hn : nb ≤ 8) (hk : k + 1 ≤ nb) (r : List Nat) (f : Nat) (t : List Nat) (hc : XCv ρ.2.2.2.2.2 x k r f t) (nr : Nat) (v : Int32) (hr : x.1 1 8 = nI nr) (hn6 : nr ≤ 6) (h1 : 1 ≤ nr) (hv : oo (nr - 1) v) : az_M l G yX3_partsFor (az_ws yX3_partsFor cX3_partsFor 4 (Option.some FieldType.int)) 7 [.ref (ρ.1 0), .int (nI k), .int v] (AD ρ) (KK G ρ x m ou) 1 6 (az_x "java/lang/IndexOutOfBoundsException" (AD ρ) (KK G ρ x m ou)) := by
  refine az_start hG.1 (by decide +kernel) (Nat.le_of_ble_eq_true rfl) ?_
  intro p e s mm args below meth c C hnm
  show az_W l G 4 _ p e _ s mm args below meth c _ _ 0 0 0 [(0, .ref (ρ.1 0)), (1, .int (nI k)), (2, .int v)] []
  refine az_aload_n C 0 dX3_partsFor_0 rfl ?_
  refine az_iload_n C 1 dX3_partsFor_1 rfl ?_
  refine az_callV C Y_X3_bargeNumbered cX3 0 0 [.int (nI k)] [] wm_X3_155 wi_X3_bargeNumbered wse_X3_bargeNumbered dX3_partsFor_2 rfl rfl rfl (Xbarge1 hG nb k hb hnb hn hk) rfl (Nat.le_of_ble_eq_true rfl) (Nat.le_of_ble_eq_true rfl) (Nat.le_of_ble_eq_true rfl) (Nat.le_of_ble_eq_true rfl) (Nat.le_of_ble_eq_true rfl) (az_k1 rfl rfl ?_) (az_k0 rfl)
  refine az_callV C Y_X0_first cX0 1 k [] [] wm_X3_173 wi_X0_first wse_X0_first dX3_partsFor_5 rfl (KK_b hc.1.1) rfl (Xfirst hG k r hc.1) rfl (Nat.le_of_ble_eq_true rfl) (Nat.le_of_ble_eq_true rfl) (Nat.le_of_ble_eq_true rfl) (Nat.le_of_ble_eq_true rfl) (Nat.le_of_ble_eq_true rfl) (az_k1 (by rw [hc.2.1]) rfl ?_) (az_k0 (by rw [hc.2.1]))
  refine az_astore_n C (lv' := [(3, .ref (ρ.2.2.1 f)), (0, .ref (ρ.1 0)), (1, .int (nI k)), (2, .int v)]) (j := 3) rfl dX3_partsFor_8 (by decide) rfl ?_
  refine az_aload_n C 1 dX3_partsFor_9 rfl ?_
  refine az_iload_n C 3 dX3_partsFor_10 rfl ?_
  refine az_callV C Y_X3_needLock cX3 0 0 [.int v] [] wm_X3_101 wi_X3_needLock wse_X3_needLock dX3_partsFor_11 rfl rfl rfl (XneedLock0 hG nr v hr hn6 h1 hv) rfl (Nat.le_of_ble_eq_true rfl) (Nat.le_of_ble_eq_true rfl) (Nat.le_of_ble_eq_true rfl) (Nat.le_of_ble_eq_true rfl) (Nat.le_of_ble_eq_true rfl) (az_x0 rfl) (az_x1 rfl ?_)
  exact az_out C (fun _ h => by cases h) (Nat.le_of_ble_eq_true rfl) (Nat.le_of_ble_eq_true rfl) ⟨rfl, rfl, rfl⟩

end
