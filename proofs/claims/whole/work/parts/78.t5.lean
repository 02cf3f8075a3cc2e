section
variable {l : Launch} {G : az_G} {ρ : Rp} {x : Xs} {m : Ms} {ou : Nat → Int64}
def digT (L : Nat) : List Nat := if L < 10 then [48 + L] else [48 + L / 10, 48 + L % 10]
theorem digT_lt {L : Nat} (h : L < 100) : ∀ v ∈ digT L, v < 128 := by
  intro v hv
  unfold digT at hv
  split at hv
  · simp at hv; omega
  · simp at hv; omega
theorem digT_len {L : Nat} : (digT L).length ≤ 2 := by unfold digT; split <;> simp
theorem chT_lt : ∀ t : List Nat, (∀ d ∈ t, d < 10) → ∀ v ∈ chT t, v < 128
  | [], _, v, hv => by cases hv
  | d :: t, h, v, hv => by
    have hd := h d List.mem_cons_self
    rcases List.mem_cons.mp hv with z | z
    · omega
    · rcases List.mem_cons.mp z with z | z
      · omega
      · exact chT_lt t (fun e he => h e (List.mem_cons_of_mem _ he)) v z
theorem setX_p {n p k : Nat} (h : p ≠ 14) : (setX x n).1 p k = x.1 p k := by
  unfold setX; split
  · exact congrFun (up2_p h) k
  · show up2 (up2 x.1 14 2 1) 14 3 0 p k = _
    rw [up2_p h, up2_p h]
theorem setX_2 {n : Nat} : (setX x n).2 = x.2 := by unfold setX; split <;> rfl
theorem setX_3 {n : Nat} : (setX x n).1 14 3 = nI 0 := by
  unfold setX; split
  · show up2 x.1 14 3 0 14 3 = nI 0
    rw [up2_s]; rfl
  · show up2 (up2 x.1 14 2 1) 14 3 0 14 3 = nI 0
    rw [up2_s]; rfl
theorem setX_1 {n : Nat} : (setX x n).1 14 1 = x.1 14 1 := by
  unfold setX; split
  · show up2 x.1 14 3 0 14 1 = _
    rw [up2_k (by decide)]
  · show up2 (up2 x.1 14 2 1) 14 3 0 14 1 = _
    rw [up2_k (by decide), up2_k (by decide)]
theorem TxOK_set {n : Nat} (h : TxOK ρ x n) : TxOK ρ (setX x n) 0 := ⟨setX_1.trans h.1, setX_3, Nat.zero_le _, h.2.2.2.1, fun j hj => (setX_p (by decide)).trans (h.2.2.2.2 j hj)⟩
theorem TxB_set {n : Nat} (h : TxB x) : TxB (setX x n) := fun j => by rw [setX_p (by decide)]; exact h j
def rowT (x : Xs) (v : Int32) (ch : Nat → List Nat) (k : Nat) : List Nat := if x.2.1 k 4 = v then (if x.2.2.1 0 k = none then 32 :: (48 + k) :: chT (ch k) else []) else []
def rowsT (x : Xs) (v : Int32) (ch : Nat → List Nat) : Nat → Nat → List Nat
  | 0, _ => []
  | j + 1, k => rowT x v ch k ++ rowsT x v ch j (k + 1)
theorem XTi (hG : az_okS l G) {A : Nat × Nat × Nat × Nat} (hT : az_okT G A) (n : Nat) (h : TxOK ρ x n) (hb : TxB x) (d : Nat) (hd : d < 100) (hl : n + (digT d).length ≤ 34) : az_M l G yJ4_append_bf812 (az_ws yJ4_append_bf812 cJ4_append_bf812 2 (Option.some (FieldType.object "java/lang/StringBuilder"))) 6 [.ref (ρ.1 14), .int (nI d)] (AD ρ) (KK G ρ x m ou) ((tcT ρ.2.2.2.2.1 (n + (digT d).length)) - ρ.2.2.2.2.1) (2 * ((tcT ρ.2.2.2.2.1 (n + (digT d).length)) - ρ.2.2.2.2.1)) (az_tx G (some (.ref (ρ.1 14))) ρ (tcT ρ.2.2.2.2.1 (n + (digT d).length)) (txA x n (digT d)) m ou) := by
  by_cases h10 : d < 10
  · have e : digT d = [48 + d] := if_pos h10
    rw [e] at hl ⊢
    exact XTi1 hG hT n h hb d h10 hl
  · have e : digT d = [48 + d / 10, 48 + d % 10] := if_neg h10
    rw [e] at hl ⊢
    exact XTi2 hG hT n h hb d hd (by omega) hl
set_option maxHeartbeats 4000000 in
set_option maxRecDepth 100000 in
theorem Xwr_z (hG : az_okS l G) {p : Program} {e : Env} {s : State} {mm : MethodId} {args : Array Value} {below : List Frame} {meth : Method} {c : Code} (C : az_C l G p s mm args meth c cX3_writeReach yX3_writeReach.cls 6 (Option.some FieldType.int) []) {Qx : State → Prop} {k9 n9 mc ms : Nat} (r nb : Nat) (hnb : nb = ρ.2.2.2.2.2) (hx : az_W l G 6 Qx p e (az_rm 8 mc ms) s mm args below meth c (AD ρ) (KK G ρ x m ou) k9 n9 112 [(4, .int (nI 8)), (3, .int (nI 8)), (2, .ref (ρ.1 13)), (1, .int (nI r)), (0, .ref (ρ.1 0))] []) : ∀ (j i : Nat) (hij : i + j = 8) (hi : nb ≤ i), az_W l G 6 Qx p e (az_rm 8 mc ms) s mm args below meth c (AD ρ) (KK G ρ x m ou) k9 n9 56 [(4, .int (nI i)), (3, .int (nI 8)), (2, .ref (ρ.1 13)), (1, .int (nI r)), (0, .ref (ρ.1 0))] [] := by
  intro j
  induction j with
  | zero =>
    intro i hij hi
    obtain rfl : i = 8 := by omega
    refine az_iload C 0 dX3_writeReach_56 rfl ?_
    refine az_iload_n C 1 dX3_writeReach_58 rfl ?_
    refine az_icmp_ge C 112 dX3_writeReach_59 (by decide) (fun _ => ?_) (fun q => absurd (Int32.le_refl _) q)
    exact az_lv [0, 1, 2, 3, 4] rfl hx
  | succ j ih =>
    intro i hij hi
    refine az_iload C 0 dX3_writeReach_56 rfl ?_
    refine az_iload_n C 1 dX3_writeReach_58 rfl ?_
    refine az_icmp_ge C 112 dX3_writeReach_59 (by decide) (fun q => absurd q (nlt_nle (show i < 8 by omega) (by omega))) (fun _ => ?_)
    refine az_aload_n C 2 dX3_writeReach_62 rfl ?_
    refine az_iload C 0 dX3_writeReach_63 rfl ?_
    refine az_aald C 0 13 (N := 8) (f := bgs ρ) dX3_writeReach_65 rfl rfl (vp_in_nI (show i < 8 by omega) (by decide)) ?_
    refine az_st [.null] (by rw [nI_clamp (Nat.lt_of_lt_of_le (show i < 8 by omega) (by decide)), bgs, if_neg (by omega)]; rfl) ?_
    refine az_astoreN C (lv' := [(5, .null), (4, .int (nI i)), (3, .int (nI 8)), (2, .ref (ρ.1 13)), (1, .int (nI r)), (0, .ref (ρ.1 0))]) dX3_writeReach_66 (by decide) rfl ?_
    refine az_aloadN C 0 dX3_writeReach_68 rfl ?_
    refine az_ifnullN C 106 dX3_writeReach_70 (by decide) ?_
    refine az_iinc C 1 (v := nI (i + 1)) (lv' := [(4, .int (nI (i + 1))), (5, .null), (3, .int (nI 8)), (2, .ref (ρ.1 13)), (1, .int (nI r)), (0, .ref (ρ.1 0))]) dX3_writeReach_106 rfl (nI_1 i) (by decide) rfl ?_
    refine az_goto C 56 dX3_writeReach_109 (by decide) ?_
    exact az_lv [0, 2, 3, 4, 5] rfl (ih (i + 1) (by omega) (by omega))
set_option maxHeartbeats 4000000 in
set_option maxRecDepth 100000 in
theorem Xwr_l (hG : az_okS l G) {A : Nat × Nat × Nat × Nat} (hT : az_okT G A) {p : Program} {e : Env} {s : State} {mm : MethodId} {args : Array Value} {below : List Frame} {meth : Method} {c : Code} (C : az_C l G p s mm args meth c cX3_writeReach yX3_writeReach.cls 6 (Option.some FieldType.int) []) {mc ms : Nat} (n : Nat) (h : TxOK ρ x n) (hb : TxB x) (r nb : Nat) (hbn : x.1 0 7 = nI nb) (hnb : nb = ρ.2.2.2.2.2) (hn8 : nb ≤ 8) (ch : Nat → List Nat) (hch : ∀ k, k < nb → x.2.1 k 4 = nI r → x.2.2.1 0 k = none → XSuf ρ.2.2.2.2.2 x (k :: ch k)) : ∀ (j : Nat) (cs : List Nat) (a : Nat → Nat) (i : Nat) (hij : i + j = nb) (ha : ∀ i, i ≠ 23 → a i = ρ.2.1 i) (hlt : ∀ v ∈ cs, v < 128) (hL : n + (cs ++ rowsT x (nI r) ch j i).length ≤ 34) (hcl : 0 + ((tcT ρ.2.2.2.2.1 (n + (cs ++ rowsT x (nI r) ch j i).length)) - ρ.2.2.2.2.1) ≤ mc) (hsl : 0 + 2 * ((tcT ρ.2.2.2.2.1 (n + (cs ++ rowsT x (nI r) ch j i).length)) - ρ.2.2.2.2.1) ≤ ms), az_W l G 6 (az_Q G (az_tx G (some (.int (nI (n + (cs ++ rowsT x (nI r) ch j i).length)))) ρ (tcT ρ.2.2.2.2.1 (n + (cs ++ rowsT x (nI r) ch j i).length)) (txA x n (cs ++ rowsT x (nI r) ch j i)) m ou) below args s mc ms) p e (az_rm 8 mc ms) s mm args below meth c (AD (tR ρ a (tcT ρ.2.2.2.2.1 (n + cs.length)))) (KK G (tR ρ a (tcT ρ.2.2.2.2.1 (n + cs.length))) (txA x n cs) m ou) (0 + ((tcT ρ.2.2.2.2.1 (n + cs.length)) - ρ.2.2.2.2.1)) (0 + 2 * ((tcT ρ.2.2.2.2.1 (n + cs.length)) - ρ.2.2.2.2.1)) 56 [(4, .int (nI i)), (3, .int (nI 8)), (2, .ref (ρ.1 13)), (1, .int (nI r)), (0, .ref (ρ.1 0))] [] := by
  have htc := h.2.2.2.1
  intro j
  induction j with
  | zero =>
    intro cs a i hij ha hlt hL hcl hsl
    obtain rfl : i = nb := by omega
    rw [show cs ++ rowsT x (nI r) ch 0 i = cs from List.append_nil cs] at hL hcl hsl ⊢
    refine Xwr_z (ρ := (tR ρ a (tcT ρ.2.2.2.2.1 (n + cs.length)))) (x := (txA x n cs)) hG C r i hnb ?_ (8 - i) i (by omega) (Nat.le_refl _)
    refine az_aload_n C 4 dX3_writeReach_112 rfl ?_
    refine az_get C cX3 0 0 6 (v := .ref ((tR ρ a (tcT ρ.2.2.2.2.1 (n + cs.length))).1 14)) wl_X3_38 dX3_writeReach_113 rfl rfl rfl (by decide) ?_
    refine az_callV C Y_J4_length_8abf5 cJ4 0 14 [] [] wm_X3_321 wi_J4_length_8abf5 wse_J4_length_8abf5 dX3_writeReach_116 rfl rfl rfl (XTlen (ρ := (tR ρ a (tcT ρ.2.2.2.2.1 (n + cs.length)))) (x := (txA x n cs)) (m := m) (ou := ou) hG hT) rfl (Nat.le_of_ble_eq_true rfl) (Nat.le_of_ble_eq_true rfl) (Nat.le_of_ble_eq_true rfl) hcl hsl (az_k1 rfl rfl ?_) (az_k0 rfl)
    exact az_iret C rfl dX3_writeReach_119 hcl hsl ⟨a, ha, rfl, rfl, rfl⟩
  | succ j ih =>
    intro cs a i hij ha hlt hL hcl hsl
    have hbd := fun es he => az_tbd (k0 := 0) (n0 := 0) htc hL hcl hsl es he
    have hi8 : i < ρ.2.2.2.2.2 := by omega
    by_cases hat : x.2.1 i 4 = nI r
    · cases hah : x.2.2.1 0 i with
      | none =>
        have hsu := hch i (by omega) hat hah
        have hrow : rowT x (nI r) ch i = 32 :: (48 + i) :: chT (ch i) := by unfold rowT; rw [if_pos hat, if_pos hah]
        refine az_iload C 0 dX3_writeReach_56 rfl ?_
        refine az_iload_n C 1 dX3_writeReach_58 rfl ?_
        refine az_icmp_ge C 112 dX3_writeReach_59 (by decide) (fun q => absurd q (nlt_nle (show i < 8 by omega) (by omega))) (fun _ => ?_)
        refine az_aload_n C 2 dX3_writeReach_62 rfl ?_
        refine az_iload C 0 dX3_writeReach_63 rfl ?_
        refine az_aald C 0 13 (N := 8) (f := bgs (tR ρ a (tcT ρ.2.2.2.2.1 (n + cs.length)))) dX3_writeReach_65 rfl rfl (vp_in_nI (show i < 8 from Nat.lt_of_lt_of_le hi8 (show ρ.2.2.2.2.2 ≤ 8 by omega)) (by decide)) ?_
        refine az_st [.ref ((tR ρ a (tcT ρ.2.2.2.2.1 (n + cs.length))).2.2.1 i)] (by rw [nI_clamp (Nat.lt_of_lt_of_le (Nat.lt_of_lt_of_le hi8 (show ρ.2.2.2.2.2 ≤ 8 by omega)) (by decide)), bgs, if_pos hi8]; rfl) ?_
        refine az_astore C (lv' := [(5, .ref ((tR ρ a (tcT ρ.2.2.2.2.1 (n + cs.length))).2.2.1 i)), (4, .int (nI i)), (3, .int (nI 8)), (2, .ref (ρ.1 13)), (1, .int (nI r)), (0, .ref (ρ.1 0))]) dX3_writeReach_66 (by decide) rfl ?_
        refine az_aload C 0 dX3_writeReach_68 rfl ?_
        refine az_ifnull C dX3_writeReach_70 ?_
        refine az_aload C 0 dX3_writeReach_73 rfl ?_
        refine az_getN C cX0 1 i 4 (v := .int ((txA x n cs).2.1 i 4)) (az_bw C hG nx_X3_159 rfl) dX3_writeReach_75 rfl (KK_b hi8) rfl (by decide) ?_
        refine az_iload_n C 4 dX3_writeReach_78 rfl ?_
        refine az_icmp_ne C 106 dX3_writeReach_79 (by decide) (fun q => absurd hat q) (fun _ => ?_)
        refine az_aload C 0 dX3_writeReach_82 rfl ?_
        refine az_getN C cX0 1 i 6 (v := va_rf (((txA x n cs).2.2.1 0 i).map (tR ρ a (tcT ρ.2.2.2.2.1 (n + cs.length))).2.2.1)) (az_bw C hG nx_X3_191 rfl) dX3_writeReach_84 rfl (KK_b hi8) rfl (by decide) ?_
        refine az_st [.null] (by show [va_rf ((x.2.2.1 0 i).map ρ.2.2.1)] = _; rw [hah]; rfl) ?_
        refine az_ifnonnullN C dX3_writeReach_87 ?_
        refine az_aload_n C 5 dX3_writeReach_90 rfl ?_
        refine az_get C cX3 0 0 6 (v := .ref ((tR ρ a (tcT ρ.2.2.2.2.1 (n + cs.length))).1 14)) wl_X3_38 dX3_writeReach_91 rfl rfl rfl (by decide) ?_
        refine az_bipush C (v := 32) dX3_writeReach_94 (by decide) ?_
        have hB1 := hbd (cs ++ [32]) (by exact ⟨(48 + i) :: chT (ch i) ++ rowsT x (nI r) ch j (i + 1), by show _ = cs ++ (rowT x (nI r) ch i ++ rowsT x (nI r) ch j (i + 1)); rw [hrow]; simp⟩)
        have hM1 := XTc (ρ := (tR ρ a (tcT ρ.2.2.2.2.1 (n + cs.length)))) (x := (txA x n cs)) (m := m) (ou := ou) hG hT (n + cs.length) (TxOK_A h (hbd cs ⟨_, rfl⟩).1) (TxB_A hb hlt) 32 (by decide) (by have z := hB1.1; simp at z ⊢; omega)
        refine az_callV C Y_J4_append_cf468 cJ4 0 14 [.int 32] [] wm_X3_314 wi_J4_append_cf468 wse_J4_append_cf468 dX3_writeReach_96 rfl rfl rfl hM1 rfl (Nat.le_of_ble_eq_true rfl) (Nat.le_of_ble_eq_true rfl) (Nat.le_of_ble_eq_true rfl) (az_tc1 (k0 := 0) (n := n) (cs := cs) (ds := [32]) (ρ := ρ) htc hB1.1 hB1.2.1) (az_tc2 (n0 := 0) (n := n) (cs := cs) (ds := [32]) (ρ := ρ) htc hB1.1 hB1.2.2) (az_tk (k0 := 0) (n0 := 0) (st1 := [.ref (ρ.1 14)]) (n := n) (cs := cs) (ds := [32]) (ρ := ρ) (x := x) htc ha hB1.1 rfl rfl (fun a1_ ha1_ => ?_)) (az_tk0 rfl)
        refine az_pop C dX3_writeReach_99 rfl ?_
        refine az_aload_n C 5 dX3_writeReach_100 rfl ?_
        refine az_aload C 0 dX3_writeReach_101 rfl ?_
        have hlt1 : ∀ v ∈ cs ++ [32], v < 128 := fun v hv => by rcases List.mem_append.mp hv with z | z; exact hlt v z; simp at z; omega
        have hB2 := hbd ((cs ++ [32]) ++ ((48 + i) :: chT (ch i))) (by exact ⟨rowsT x (nI r) ch j (i + 1), by show _ = cs ++ (rowT x (nI r) ch i ++ rowsT x (nI r) ch j (i + 1)); rw [hrow]; simp⟩)
        have hM2 := XapConv (ρ := (tR ρ a1_ (tcT ρ.2.2.2.2.1 (n + (cs ++ [32]).length)))) (x := (txA x n (cs ++ [32]))) (m := m) (ou := ou) hG hT i (ch i) (XSuf_x (x := x) (x' := txA x n (cs ++ [32])) rfl hsu) (by show ρ.2.2.2.2.2 ≤ 10; omega) (n + (cs ++ [32]).length) (TxOK_A h hB1.1) (TxB_A hb hlt1) (by have z := hB2.1; simp at z ⊢; omega)
        refine az_callV C Y_X3_appendConvoy cX3 0 0 [.ref ((tR ρ a (tcT ρ.2.2.2.2.1 (n + cs.length))).2.2.1 i)] [] wm_X3_317 wi_X3_appendConvoy wse_X3_appendConvoy dX3_writeReach_103 rfl rfl rfl hM2 rfl (Nat.le_of_ble_eq_true rfl) (Nat.le_of_ble_eq_true rfl) (Nat.le_of_ble_eq_true rfl) (az_tc1 (k0 := 0) (n := n) (cs := (cs ++ [32])) (ds := ((48 + i) :: chT (ch i))) (ρ := ρ) htc hB2.1 hB2.2.1) (az_tc2 (n0 := 0) (n := n) (cs := (cs ++ [32])) (ds := ((48 + i) :: chT (ch i))) (ρ := ρ) htc hB2.1 hB2.2.2) (az_tk (k0 := 0) (n0 := 0) (st1 := []) (n := n) (cs := (cs ++ [32])) (ds := ((48 + i) :: chT (ch i))) (ρ := ρ) (x := x) htc ha1_ hB2.1 rfl rfl (fun a2_ ha2_ => ?_)) (az_tk0 rfl)
        refine az_iinc C 1 (v := nI (i + 1)) (lv' := [(4, .int (nI (i + 1))), (5, .ref ((tR ρ a (tcT ρ.2.2.2.2.1 (n + cs.length))).2.2.1 i)), (3, .int (nI 8)), (2, .ref (ρ.1 13)), (1, .int (nI r)), (0, .ref (ρ.1 0))]) dX3_writeReach_106 rfl (nI_1 i) (by decide) rfl ?_
        refine az_goto C 56 dX3_writeReach_109 (by decide) ?_
        have e9 : cs ++ [32] ++ ((48 + i) :: chT (ch i)) ++ rowsT x (nI r) ch j (i + 1) = cs ++ rowsT x (nI r) ch (j + 1) i := by show _ = cs ++ (rowT x (nI r) ch i ++ rowsT x (nI r) ch j (i + 1)); rw [hrow]; simp
        rw [← e9] at hL hcl hsl ⊢
        have hlt2 : ∀ v ∈ cs ++ [32] ++ ((48 + i) :: chT (ch i)), v < 128 := fun v hv => by rcases List.mem_append.mp hv with z | z; exact hlt1 v z; rcases List.mem_cons.mp z with z | z; omega; exact chT_lt (ch i) (fun d hd => by have := XSuf_lt hsu d (List.mem_cons_of_mem _ hd); omega) v z
        exact az_lv [0, 2, 3, 4, 5] rfl (ih _ _ (i + 1) (by omega) ha2_ hlt2 hL hcl hsl)
      | some d9 =>
        refine az_iload C 0 dX3_writeReach_56 rfl ?_
        refine az_iload_n C 1 dX3_writeReach_58 rfl ?_
        refine az_icmp_ge C 112 dX3_writeReach_59 (by decide) (fun q => absurd q (nlt_nle (show i < 8 by omega) (by omega))) (fun _ => ?_)
        refine az_aload_n C 2 dX3_writeReach_62 rfl ?_
        refine az_iload C 0 dX3_writeReach_63 rfl ?_
        refine az_aald C 0 13 (N := 8) (f := bgs (tR ρ a (tcT ρ.2.2.2.2.1 (n + cs.length)))) dX3_writeReach_65 rfl rfl (vp_in_nI (show i < 8 from Nat.lt_of_lt_of_le hi8 (show ρ.2.2.2.2.2 ≤ 8 by omega)) (by decide)) ?_
        refine az_st [.ref ((tR ρ a (tcT ρ.2.2.2.2.1 (n + cs.length))).2.2.1 i)] (by rw [nI_clamp (Nat.lt_of_lt_of_le (Nat.lt_of_lt_of_le hi8 (show ρ.2.2.2.2.2 ≤ 8 by omega)) (by decide)), bgs, if_pos hi8]; rfl) ?_
        refine az_astore C (lv' := [(5, .ref ((tR ρ a (tcT ρ.2.2.2.2.1 (n + cs.length))).2.2.1 i)), (4, .int (nI i)), (3, .int (nI 8)), (2, .ref (ρ.1 13)), (1, .int (nI r)), (0, .ref (ρ.1 0))]) dX3_writeReach_66 (by decide) rfl ?_
        refine az_aload C 0 dX3_writeReach_68 rfl ?_
        refine az_ifnull C dX3_writeReach_70 ?_
        refine az_aload C 0 dX3_writeReach_73 rfl ?_
        refine az_getN C cX0 1 i 4 (v := .int ((txA x n cs).2.1 i 4)) (az_bw C hG nx_X3_159 rfl) dX3_writeReach_75 rfl (KK_b hi8) rfl (by decide) ?_
        refine az_iload_n C 4 dX3_writeReach_78 rfl ?_
        refine az_icmp_ne C 106 dX3_writeReach_79 (by decide) (fun q => absurd hat q) (fun _ => ?_)
        refine az_aload C 0 dX3_writeReach_82 rfl ?_
        refine az_getN C cX0 1 i 6 (v := va_rf (((txA x n cs).2.2.1 0 i).map (tR ρ a (tcT ρ.2.2.2.2.1 (n + cs.length))).2.2.1)) (az_bw C hG nx_X3_191 rfl) dX3_writeReach_84 rfl (KK_b hi8) rfl (by decide) ?_
        refine az_st [.ref (ρ.2.2.1 d9)] (by show [va_rf ((x.2.2.1 0 i).map ρ.2.2.1)] = _; rw [hah]; rfl) ?_
        refine az_ifnonnull C 106 dX3_writeReach_87 (by decide) ?_
        refine az_iinc C 1 (v := nI (i + 1)) (lv' := [(4, .int (nI (i + 1))), (5, .ref ((tR ρ a (tcT ρ.2.2.2.2.1 (n + cs.length))).2.2.1 i)), (3, .int (nI 8)), (2, .ref (ρ.1 13)), (1, .int (nI r)), (0, .ref (ρ.1 0))]) dX3_writeReach_106 rfl (nI_1 i) (by decide) rfl ?_
        refine az_goto C 56 dX3_writeReach_109 (by decide) ?_
        have e9 : cs ++ rowsT x (nI r) ch j (i + 1) = cs ++ rowsT x (nI r) ch (j + 1) i := by show _ = cs ++ (rowT x (nI r) ch i ++ rowsT x (nI r) ch j (i + 1)); unfold rowT; rw [if_pos hat, if_neg (by rw [hah]; exact fun z => by cases z)]; rfl
        rw [← e9] at hL hcl hsl ⊢
        exact az_lv [0, 2, 3, 4, 5] rfl (ih cs a (i + 1) (by omega) ha hlt hL hcl hsl)
    · refine az_iload C 0 dX3_writeReach_56 rfl ?_
      refine az_iload_n C 1 dX3_writeReach_58 rfl ?_
      refine az_icmp_ge C 112 dX3_writeReach_59 (by decide) (fun q => absurd q (nlt_nle (show i < 8 by omega) (by omega))) (fun _ => ?_)
      refine az_aload_n C 2 dX3_writeReach_62 rfl ?_
      refine az_iload C 0 dX3_writeReach_63 rfl ?_
      refine az_aald C 0 13 (N := 8) (f := bgs (tR ρ a (tcT ρ.2.2.2.2.1 (n + cs.length)))) dX3_writeReach_65 rfl rfl (vp_in_nI (show i < 8 from Nat.lt_of_lt_of_le hi8 (show ρ.2.2.2.2.2 ≤ 8 by omega)) (by decide)) ?_
      refine az_st [.ref ((tR ρ a (tcT ρ.2.2.2.2.1 (n + cs.length))).2.2.1 i)] (by rw [nI_clamp (Nat.lt_of_lt_of_le (Nat.lt_of_lt_of_le hi8 (show ρ.2.2.2.2.2 ≤ 8 by omega)) (by decide)), bgs, if_pos hi8]; rfl) ?_
      refine az_astore C (lv' := [(5, .ref ((tR ρ a (tcT ρ.2.2.2.2.1 (n + cs.length))).2.2.1 i)), (4, .int (nI i)), (3, .int (nI 8)), (2, .ref (ρ.1 13)), (1, .int (nI r)), (0, .ref (ρ.1 0))]) dX3_writeReach_66 (by decide) rfl ?_
      refine az_aload C 0 dX3_writeReach_68 rfl ?_
      refine az_ifnull C dX3_writeReach_70 ?_
      refine az_aload C 0 dX3_writeReach_73 rfl ?_
      refine az_getN C cX0 1 i 4 (v := .int ((txA x n cs).2.1 i 4)) (az_bw C hG nx_X3_159 rfl) dX3_writeReach_75 rfl (KK_b hi8) rfl (by decide) ?_
      refine az_iload_n C 4 dX3_writeReach_78 rfl ?_
      refine az_icmp_ne C 106 dX3_writeReach_79 (by decide) (fun _ => ?_) (fun q => absurd q hat)
      refine az_iinc C 1 (v := nI (i + 1)) (lv' := [(4, .int (nI (i + 1))), (5, .ref ((tR ρ a (tcT ρ.2.2.2.2.1 (n + cs.length))).2.2.1 i)), (3, .int (nI 8)), (2, .ref (ρ.1 13)), (1, .int (nI r)), (0, .ref (ρ.1 0))]) dX3_writeReach_106 rfl (nI_1 i) (by decide) rfl ?_
      refine az_goto C 56 dX3_writeReach_109 (by decide) ?_
      have e9 : cs ++ rowsT x (nI r) ch j (i + 1) = cs ++ rowsT x (nI r) ch (j + 1) i := by show _ = cs ++ (rowT x (nI r) ch i ++ rowsT x (nI r) ch j (i + 1)); unfold rowT; rw [if_neg hat]; rfl
      rw [← e9] at hL hcl hsl ⊢
      exact az_lv [0, 2, 3, 4, 5] rfl (ih cs a (i + 1) (by omega) ha hlt hL hcl hsl)
end
