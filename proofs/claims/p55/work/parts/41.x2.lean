section
variable {l : Launch} {G : az_G} {ρ : Rp} {x : Xs} {m : Mz} {ou : Nat → Int64}
theorem ne_head {b : Nat} {rest : List Nat} (hB : BI ρ) (hb : b < ρ.2.2.2.2.2) (hr : ∀ d ∈ rest, d < ρ.2.2.2.2.2) (hn : b ∉ rest) : ¬ some (ρ.2.2.1 b) = rest.head?.map ρ.2.2.1 := by
  cases rest with
  | nil => exact fun z => by cases z
  | cons d r =>
    intro z
    have e := hB b d hb (hr d List.mem_cons_self) (Option.some.inj z)
    exact hn (e ▸ List.mem_cons_self)
def epX (x : Xs) (L : Int32) : List Nat → Int32 → List Nat
  | [], _ => []
  | b :: r, used => if L < used + x.2.1 b 1 then b :: r else epX x L r (used + x.2.1 b 1)
theorem epX_len {x : Xs} {L : Int32} : ∀ (s9 : List Nat) (used : Int32), (epX x L s9 used).length ≤ s9.length
  | [], _ => Nat.le_refl _
  | b :: r, used => by
    unfold epX; split
    · exact Nat.le_refl _
    · exact Nat.le_succ_of_le (epX_len r _)
theorem epX_suf {nb : Nat} {x : Xs} {L : Int32} : ∀ (s9 : List Nat) (used : Int32), XSuf nb x s9 → XSuf nb x (epX x L s9 used)
  | [], _, _ => trivial
  | b :: r, used, h => by
    unfold epX; split
    · exact h
    · exact epX_suf r _ h.2.2
/-- the part of a list of barges behind its first -/
def paX (x : Xs) (L : Int32) : List Nat → Int32 → List Nat
  | [], _ => []
  | b :: r, used => if L < used + x.2.1 b 1 then [] else b :: paX x L r (used + x.2.1 b 1)
theorem paX_ep {x : Xs} {L : Int32} : ∀ (s9 : List Nat) (used : Int32), paX x L s9 used ++ epX x L s9 used = s9
  | [], _ => rfl
  | b :: r, used => by
    unfold paX epX; split
    · rfl
    · exact congrArg (List.cons b) (paX_ep r _)
def ptX (x : Xs) (L : Int32) : Nat → List Nat → Nat
  | 0, _ => 0
  | _ + 1, [] => 0
  | n + 1, b :: r => 1 + ptX x L n (epX x L r (x.2.1 b 1))
set_option maxHeartbeats 4000000 in
set_option maxRecDepth 100000 in
theorem XgDraught_nl (hG : az_okS l G) {p : Program} {e : Env} {s : State} {mm : MethodId} {args : Array Value} {below : List Frame} {meth : Method} {c : Code} (C : az_C l G p s mm args meth c cX0_greatestDraught yX0_greatestDraught.cls 4 (Option.some FieldType.int) []) : ∀ (hB : BI ρ) (a0 e9 : Nat) (rest q : List Nat) (acc : Int32) (hs : XSuf ρ.2.2.2.2.2 x (q ++ [])) (ht : ∀ b ∈ q, ¬ x.2.1 b 3 < 1) (hn : (q ++ []).Nodup), az_W l G 4 (az_Q G (az_r (some (.int (mxD x q acc))) (AD ρ) (KK G ρ x m ou)) below args s 0 0) p e (az_rm 3 0 0) s mm args below meth c (AD ρ) (KK G ρ x m ou) 0 0 4 [(3, va_rf ((q ++ []).head?.map ρ.2.2.1)), (2, .int acc), (1, .null), (0, .ref a0)] [] := by
  intro hB a0 e9 rest q
  induction q with
  | nil =>
    intro acc hs ht hn
    refine az_aload_nN C 0 dX0_greatestDraught_4 rfl ?_
    refine az_ifnullN C 30 dX0_greatestDraught_5 (by decide) ?_
    refine az_iload_n C 1 dX0_greatestDraught_30 rfl ?_
    exact az_iret C rfl dX0_greatestDraught_31 (Nat.le_of_ble_eq_true rfl) (Nat.le_of_ble_eq_true rfl) ⟨rfl, rfl, rfl⟩
  | cons b q ih =>
    intro acc hs ht hn
    refine az_aload_n C 0 dX0_greatestDraught_4 rfl ?_
    refine az_ifnull C dX0_greatestDraught_5 ?_
    refine az_aload_n C 0 dX0_greatestDraught_8 rfl ?_
    refine az_aload_nN C 2 dX0_greatestDraught_9 rfl ?_
    refine az_acmp_eq C (rx := (some (ρ.2.2.1 b))) (ry := none) 30 rfl rfl dX0_greatestDraught_10 (by decide) (fun q => absurd q (ne_head (rest := []) hB hs.1 (fun d hd => XSuf_lt hs.2.2 d (List.mem_append_right _ hd)) (fun z => (List.nodup_cons.mp hn).1 (List.mem_append_right _ z)))) (fun _ => ?_)
    refine az_iload_n C 1 dX0_greatestDraught_13 rfl ?_
    refine az_aload_n C 0 dX0_greatestDraught_14 rfl ?_
    refine az_callV C Y_X0_draught cX0 1 b [] [.int acc] wm_X0_45 wi_X0_draught wse_X0_draught dX0_greatestDraught_15 rfl (KK_b hs.1) rfl (Xdraught hG b hs.1 (ht b List.mem_cons_self)) rfl (Nat.le_of_ble_eq_true rfl) (Nat.le_of_ble_eq_true rfl) (Nat.le_of_ble_eq_true rfl) (Nat.le_of_ble_eq_true rfl) (Nat.le_of_ble_eq_true rfl) (az_k1 rfl rfl ?_) (az_k0 rfl)
    refine az_mmax C wm_X0_39 wst_max wini_Math wc_max (Nat.le_of_ble_eq_true rfl) (Nat.le_of_ble_eq_true rfl) (Nat.le_of_ble_eq_true rfl) (Nat.le_of_ble_eq_true rfl) dX0_greatestDraught_18 ?_
    refine az_istore_n C (lv' := [(2, .int ((if acc < deepX x b (x.2.1 b 5) then deepX x b (x.2.1 b 5) else acc))), (3, .ref (ρ.2.2.1 b)), (1, .null), (0, .ref a0)]) (j := 2) rfl dX0_greatestDraught_21 (by decide) rfl ?_
    refine az_aload_n C 1 dX0_greatestDraught_22 rfl ?_
    refine az_get C cX0 1 b 7 (v := va_rf ((x.2.2.1 1 b).map ρ.2.2.1)) wl_X0_36 dX0_greatestDraught_23 rfl (KK_b hs.1) rfl (by decide) ?_
    refine az_st [va_rf ((q ++ []).head?.map ρ.2.2.1)] (by rw [hs.2.1] <;> rfl) ?_
    refine az_astore_nO C (lv' := [(3, va_rf ((q ++ []).head?.map ρ.2.2.1)), (2, .int ((if acc < deepX x b (x.2.1 b 5) then deepX x b (x.2.1 b 5) else acc))), (1, .null), (0, .ref a0)]) (j := 3) rfl dX0_greatestDraught_26 (by decide) rfl ?_
    refine az_goto C 4 dX0_greatestDraught_27 (by decide) ?_
    exact az_lv [0, 1, 2, 3] rfl (ih _ hs.2.2 (fun b hb => ht b (List.mem_cons_of_mem _ hb)) (List.nodup_cons.mp hn).2)

set_option maxHeartbeats 4000000 in
set_option maxRecDepth 100000 in
theorem XgDraught_n (hG : az_okS l G) (b e9 : Nat) (q rest : List Nat) (hs : XSuf ρ.2.2.2.2.2 x (b :: q ++ [])) (ht : ∀ d ∈ b :: q, ¬ x.2.1 d 3 < 1) (hn : (b :: q ++ []).Nodup) : az_M l G yX0_greatestDraught (az_ws yX0_greatestDraught cX0_greatestDraught 4 (Option.some FieldType.int)) 3 [.ref (ρ.2.2.1 b), .null] (AD ρ) (KK G ρ x m ou) 0 0 (az_r (some (.int (mxD x (b :: q) 0))) (AD ρ) (KK G ρ x m ou)) := by
  refine az_start hG.1 (by decide +kernel) (Nat.le_of_ble_eq_true rfl) ?_
  intro p e s mm args below meth c C hnm
  show az_W l G 4 _ p e _ s mm args below meth c _ _ 0 0 0 [(0, .ref (ρ.2.2.1 b)), (1, .null)] []
  refine az_BI (fun hB => ?_)
  refine az_iconst C (v := 0) dX0_greatestDraught_0 (by decide) ?_
  refine az_istore_n C (lv' := [(2, .int 0), (0, .ref (ρ.2.2.1 b)), (1, .null)]) (j := 2) rfl dX0_greatestDraught_1 (by decide) rfl ?_
  refine az_aload_n C 1 dX0_greatestDraught_2 rfl ?_
  refine az_astore_n C (lv' := [(3, .ref (ρ.2.2.1 b)), (2, .int 0), (0, .ref (ρ.2.2.1 b)), (1, .null)]) (j := 3) rfl dX0_greatestDraught_3 (by decide) rfl ?_
  exact az_lv [0, 1, 3, 2] rfl (XgDraught_nl hG C hB _ e9 rest (b :: q) 0 hs ht hn)

set_option maxHeartbeats 4000000 in
set_option maxRecDepth 100000 in
theorem XgDraught_cl (hG : az_okS l G) {p : Program} {e : Env} {s : State} {mm : MethodId} {args : Array Value} {below : List Frame} {meth : Method} {c : Code} (C : az_C l G p s mm args meth c cX0_greatestDraught yX0_greatestDraught.cls 4 (Option.some FieldType.int) []) : ∀ (hB : BI ρ) (a0 e9 : Nat) (rest q : List Nat) (acc : Int32) (hs : XSuf ρ.2.2.2.2.2 x (q ++ (e9 :: rest))) (ht : ∀ b ∈ q, ¬ x.2.1 b 3 < 1) (hn : (q ++ (e9 :: rest)).Nodup), az_W l G 4 (az_Q G (az_r (some (.int (mxD x q acc))) (AD ρ) (KK G ρ x m ou)) below args s 0 0) p e (az_rm 3 0 0) s mm args below meth c (AD ρ) (KK G ρ x m ou) 0 0 4 [(3, va_rf ((q ++ (e9 :: rest)).head?.map ρ.2.2.1)), (2, .int acc), (1, .ref (ρ.2.2.1 e9)), (0, .ref a0)] [] := by
  intro hB a0 e9 rest q
  induction q with
  | nil =>
    intro acc hs ht hn
    refine az_aload_n C 0 dX0_greatestDraught_4 rfl ?_
    refine az_ifnull C dX0_greatestDraught_5 ?_
    refine az_aload_n C 0 dX0_greatestDraught_8 rfl ?_
    refine az_aload_n C 2 dX0_greatestDraught_9 rfl ?_
    refine az_acmp_eq C (rx := (some (ρ.2.2.1 e9))) (ry := (some (ρ.2.2.1 e9))) 30 rfl rfl dX0_greatestDraught_10 (by decide) (fun _ => ?_) (fun q => absurd rfl q)
    refine az_iload_n C 1 dX0_greatestDraught_30 rfl ?_
    exact az_iret C rfl dX0_greatestDraught_31 (Nat.le_of_ble_eq_true rfl) (Nat.le_of_ble_eq_true rfl) ⟨rfl, rfl, rfl⟩
  | cons b q ih =>
    intro acc hs ht hn
    refine az_aload_n C 0 dX0_greatestDraught_4 rfl ?_
    refine az_ifnull C dX0_greatestDraught_5 ?_
    refine az_aload_n C 0 dX0_greatestDraught_8 rfl ?_
    refine az_aload_n C 2 dX0_greatestDraught_9 rfl ?_
    refine az_acmp_eq C (rx := (some (ρ.2.2.1 b))) (ry := (some (ρ.2.2.1 e9))) 30 rfl rfl dX0_greatestDraught_10 (by decide) (fun q => absurd q (ne_head (rest := (e9 :: rest)) hB hs.1 (fun d hd => XSuf_lt hs.2.2 d (List.mem_append_right _ hd)) (fun z => (List.nodup_cons.mp hn).1 (List.mem_append_right _ z)))) (fun _ => ?_)
    refine az_iload_n C 1 dX0_greatestDraught_13 rfl ?_
    refine az_aload_n C 0 dX0_greatestDraught_14 rfl ?_
    refine az_callV C Y_X0_draught cX0 1 b [] [.int acc] wm_X0_45 wi_X0_draught wse_X0_draught dX0_greatestDraught_15 rfl (KK_b hs.1) rfl (Xdraught hG b hs.1 (ht b List.mem_cons_self)) rfl (Nat.le_of_ble_eq_true rfl) (Nat.le_of_ble_eq_true rfl) (Nat.le_of_ble_eq_true rfl) (Nat.le_of_ble_eq_true rfl) (Nat.le_of_ble_eq_true rfl) (az_k1 rfl rfl ?_) (az_k0 rfl)
    refine az_mmax C wm_X0_39 wst_max wini_Math wc_max (Nat.le_of_ble_eq_true rfl) (Nat.le_of_ble_eq_true rfl) (Nat.le_of_ble_eq_true rfl) (Nat.le_of_ble_eq_true rfl) dX0_greatestDraught_18 ?_
    refine az_istore_n C (lv' := [(2, .int ((if acc < deepX x b (x.2.1 b 5) then deepX x b (x.2.1 b 5) else acc))), (3, .ref (ρ.2.2.1 b)), (1, .ref (ρ.2.2.1 e9)), (0, .ref a0)]) (j := 2) rfl dX0_greatestDraught_21 (by decide) rfl ?_
    refine az_aload_n C 1 dX0_greatestDraught_22 rfl ?_
    refine az_get C cX0 1 b 7 (v := va_rf ((x.2.2.1 1 b).map ρ.2.2.1)) wl_X0_36 dX0_greatestDraught_23 rfl (KK_b hs.1) rfl (by decide) ?_
    refine az_st [va_rf ((q ++ (e9 :: rest)).head?.map ρ.2.2.1)] (by rw [hs.2.1] <;> rfl) ?_
    refine az_astore_nO C (lv' := [(3, va_rf ((q ++ (e9 :: rest)).head?.map ρ.2.2.1)), (2, .int ((if acc < deepX x b (x.2.1 b 5) then deepX x b (x.2.1 b 5) else acc))), (1, .ref (ρ.2.2.1 e9)), (0, .ref a0)]) (j := 3) rfl dX0_greatestDraught_26 (by decide) rfl ?_
    refine az_goto C 4 dX0_greatestDraught_27 (by decide) ?_
    exact az_lv [0, 1, 2, 3] rfl (ih _ hs.2.2 (fun b hb => ht b (List.mem_cons_of_mem _ hb)) (List.nodup_cons.mp hn).2)

set_option maxHeartbeats 4000000 in
set_option maxRecDepth 100000 in
theorem XgDraught_c (hG : az_okS l G) (b e9 : Nat) (q rest : List Nat) (hs : XSuf ρ.2.2.2.2.2 x (b :: q ++ (e9 :: rest))) (ht : ∀ d ∈ b :: q, ¬ x.2.1 d 3 < 1) (hn : (b :: q ++ (e9 :: rest)).Nodup) : az_M l G yX0_greatestDraught (az_ws yX0_greatestDraught cX0_greatestDraught 4 (Option.some FieldType.int)) 3 [.ref (ρ.2.2.1 b), .ref (ρ.2.2.1 e9)] (AD ρ) (KK G ρ x m ou) 0 0 (az_r (some (.int (mxD x (b :: q) 0))) (AD ρ) (KK G ρ x m ou)) := by
  refine az_start hG.1 (by decide +kernel) (Nat.le_of_ble_eq_true rfl) ?_
  intro p e s mm args below meth c C hnm
  show az_W l G 4 _ p e _ s mm args below meth c _ _ 0 0 0 [(0, .ref (ρ.2.2.1 b)), (1, .ref (ρ.2.2.1 e9))] []
  refine az_BI (fun hB => ?_)
  refine az_iconst C (v := 0) dX0_greatestDraught_0 (by decide) ?_
  refine az_istore_n C (lv' := [(2, .int 0), (0, .ref (ρ.2.2.1 b)), (1, .ref (ρ.2.2.1 e9))]) (j := 2) rfl dX0_greatestDraught_1 (by decide) rfl ?_
  refine az_aload_n C 1 dX0_greatestDraught_2 rfl ?_
  refine az_astore_n C (lv' := [(3, .ref (ρ.2.2.1 b)), (2, .int 0), (0, .ref (ρ.2.2.1 b)), (1, .ref (ρ.2.2.1 e9))]) (j := 3) rfl dX0_greatestDraught_3 (by decide) rfl ?_
  exact az_lv [0, 1, 3, 2] rfl (XgDraught_cl hG C hB _ e9 rest (b :: q) 0 hs ht hn)

theorem XgDraught (hG : az_okS l G) (b : Nat) (q rest : List Nat) (hs : XSuf ρ.2.2.2.2.2 x (b :: q ++ rest)) (ht : ∀ d ∈ b :: q, ¬ x.2.1 d 3 < 1) (hn : (b :: q ++ rest).Nodup) : az_M l G yX0_greatestDraught (az_ws yX0_greatestDraught cX0_greatestDraught 4 (Option.some FieldType.int)) 3 [.ref (ρ.2.2.1 b), va_rf ((rest).head?.map ρ.2.2.1)] (AD ρ) (KK G ρ x m ou) 0 0 (az_r (some (.int (mxD x (b :: q) 0))) (AD ρ) (KK G ρ x m ou)) := by
  cases rest with
  | nil => exact XgDraught_n hG b 0 q [] hs ht hn
  | cons e9 rest => exact XgDraught_c hG b e9 q rest hs ht hn
set_option maxHeartbeats 4000000 in
set_option maxRecDepth 100000 in
theorem XnextPart_l (hG : az_okS l G) {p : Program} {e : Env} {s : State} {mm : MethodId} {args : Array Value} {below : List Frame} {meth : Method} {c : Code} (C : az_C l G p s mm args meth c cX0_nextPart yX0_nextPart.cls 4 (Option.some (FieldType.object "BargeRiver$Barge")) []) : ∀ (a0 : Nat) (L : Int32) (s9 : List Nat) (used : Int32) (hs : XSuf ρ.2.2.2.2.2 x s9), az_W l G 4 (az_Q G (az_r (some (va_rf ((epX x L s9 used).head?.map ρ.2.2.1))) (AD ρ) (KK G ρ x m ou)) below args s 0 0) p e (az_rm 1 0 0) s mm args below meth c (AD ρ) (KK G ρ x m ou) 0 0 10 [(3, va_rf ((s9).head?.map ρ.2.2.1)), (2, .int used), (1, .int L), (0, .ref a0)] [] := by
  intro a0 L s9
  induction s9 with
  | nil =>
    intro used hs
    refine az_aload_nN C 0 dX0_nextPart_10 rfl ?_
    refine az_ifnullN C 39 dX0_nextPart_11 (by decide) ?_
    refine az_aload_nN C 0 dX0_nextPart_39 rfl ?_
    exact az_aret C (.object "BargeRiver$Barge") rfl (Or.inl ⟨_, rfl⟩) (Or.inl rfl) dX0_nextPart_40 (Nat.le_of_ble_eq_true rfl) (Nat.le_of_ble_eq_true rfl) ⟨rfl, rfl, rfl⟩
  | cons b s9 ih =>
    intro used hs
    by_cases hc : L < used + x.2.1 b 1
    · rw [epX, if_pos hc]
      refine az_aload_n C 0 dX0_nextPart_10 rfl ?_
      refine az_ifnull C dX0_nextPart_11 ?_
      refine az_iload_n C 1 dX0_nextPart_14 rfl ?_
      refine az_aload_n C 0 dX0_nextPart_15 rfl ?_
      refine az_get C cX0 1 b 1 (v := .int (x.2.1 b 1)) wl_X0_16 dX0_nextPart_16 rfl (KK_b hs.1) rfl (by decide) ?_
      refine az_iadd C dX0_nextPart_19 ?_
      refine az_iload_n C 2 dX0_nextPart_20 rfl ?_
      refine az_icmp_gt C 39 dX0_nextPart_21 (by decide) (fun _ => ?_) (fun q => absurd hc q)
      refine az_aload_n C 0 dX0_nextPart_39 rfl ?_
      exact az_aret C (.object "BargeRiver$Barge") rfl (Or.inl ⟨_, rfl⟩) (Or.inr ⟨_, rfl⟩) dX0_nextPart_40 (Nat.le_of_ble_eq_true rfl) (Nat.le_of_ble_eq_true rfl) ⟨rfl, rfl, rfl⟩
    · rw [epX, if_neg hc]
      refine az_aload_n C 0 dX0_nextPart_10 rfl ?_
      refine az_ifnull C dX0_nextPart_11 ?_
      refine az_iload_n C 1 dX0_nextPart_14 rfl ?_
      refine az_aload_n C 0 dX0_nextPart_15 rfl ?_
      refine az_get C cX0 1 b 1 (v := .int (x.2.1 b 1)) wl_X0_16 dX0_nextPart_16 rfl (KK_b hs.1) rfl (by decide) ?_
      refine az_iadd C dX0_nextPart_19 ?_
      refine az_iload_n C 2 dX0_nextPart_20 rfl ?_
      refine az_icmp_gt C 39 dX0_nextPart_21 (by decide) (fun q => absurd q hc) (fun _ => ?_)
      refine az_iload_n C 1 dX0_nextPart_24 rfl ?_
      refine az_aload_n C 0 dX0_nextPart_25 rfl ?_
      refine az_get C cX0 1 b 1 (v := .int (x.2.1 b 1)) wl_X0_16 dX0_nextPart_26 rfl (KK_b hs.1) rfl (by decide) ?_
      refine az_iadd C dX0_nextPart_29 ?_
      refine az_istore_n C (lv' := [(2, .int ((used + x.2.1 b 1))), (3, .ref (ρ.2.2.1 b)), (1, .int L), (0, .ref a0)]) (j := 2) rfl dX0_nextPart_30 (by decide) rfl ?_
      refine az_aload_n C 1 dX0_nextPart_31 rfl ?_
      refine az_get C cX0 1 b 7 (v := va_rf ((x.2.2.1 1 b).map ρ.2.2.1)) wl_X0_36 dX0_nextPart_32 rfl (KK_b hs.1) rfl (by decide) ?_
      refine az_st [va_rf ((s9).head?.map ρ.2.2.1)] (by rw [hs.2.1] <;> rfl) ?_
      refine az_astore_nO C (lv' := [(3, va_rf ((s9).head?.map ρ.2.2.1)), (2, .int ((used + x.2.1 b 1))), (1, .int L), (0, .ref a0)]) (j := 3) rfl dX0_nextPart_35 (by decide) rfl ?_
      refine az_goto C 10 dX0_nextPart_36 (by decide) ?_
      exact az_lv [0, 1, 2, 3] rfl (ih _ hs.2.2)

set_option maxHeartbeats 4000000 in
set_option maxRecDepth 100000 in
theorem XnextPart (hG : az_okS l G) (b : Nat) (r : List Nat) (L : Int32) (hs : XSuf ρ.2.2.2.2.2 x (b :: r)) : az_M l G yX0_nextPart (az_ws yX0_nextPart cX0_nextPart 4 (Option.some (FieldType.object "BargeRiver$Barge"))) 1 [.ref (ρ.2.2.1 b), .int L] (AD ρ) (KK G ρ x m ou) 0 0 (az_r (some (va_rf ((epX x L r (x.2.1 b 1)).head?.map ρ.2.2.1))) (AD ρ) (KK G ρ x m ou)) := by
  refine az_start hG.1 (by decide +kernel) (Nat.le_of_ble_eq_true rfl) ?_
  intro p e s mm args below meth c C hnm
  show az_W l G 4 _ p e _ s mm args below meth c _ _ 0 0 0 [(0, .ref (ρ.2.2.1 b)), (1, .int L)] []
  refine az_aload_n C 0 dX0_nextPart_0 rfl ?_
  refine az_get C cX0 1 b 1 (v := .int (x.2.1 b 1)) wl_X0_16 dX0_nextPart_1 rfl (KK_b hs.1) rfl (by decide) ?_
  refine az_istore_n C (lv' := [(2, .int (x.2.1 b 1)), (0, .ref (ρ.2.2.1 b)), (1, .int L)]) (j := 2) rfl dX0_nextPart_4 (by decide) rfl ?_
  refine az_aload_n C 1 dX0_nextPart_5 rfl ?_
  refine az_get C cX0 1 b 7 (v := va_rf ((x.2.2.1 1 b).map ρ.2.2.1)) wl_X0_36 dX0_nextPart_6 rfl (KK_b hs.1) rfl (by decide) ?_
  refine az_st [va_rf ((r).head?.map ρ.2.2.1)] (by rw [hs.2.1] <;> rfl) ?_
  refine az_astore_nO C (lv' := [(3, va_rf ((r).head?.map ρ.2.2.1)), (2, .int (x.2.1 b 1)), (0, .ref (ρ.2.2.1 b)), (1, .int L)]) (j := 3) rfl dX0_nextPart_9 (by decide) rfl ?_
  exact az_lv [0, 1, 3, 2] rfl (XnextPart_l hG C _ L r _ hs.2.2)

set_option maxHeartbeats 4000000 in
set_option maxRecDepth 100000 in
theorem Xparts_l (hG : az_okS l G) {p : Program} {e : Env} {s : State} {mm : MethodId} {args : Array Value} {below : List Frame} {meth : Method} {c : Code} (C : az_C l G p s mm args meth c cX0_parts yX0_parts.cls 4 (Option.some FieldType.int) []) : ∀ (a0 : Nat) (L : Int32) (n : Nat) (s9 : List Nat) (n9 : Nat) (hs : XSuf ρ.2.2.2.2.2 x s9) (hl : s9.length ≤ n), az_W l G 4 (az_Q G (az_r (some (.int (nI (n9 + ptX x L n s9)))) (AD ρ) (KK G ρ x m ou)) below args s 0 0) p e (az_rm 2 0 0) s mm args below meth c (AD ρ) (KK G ρ x m ou) 0 0 4 [(3, va_rf ((s9).head?.map ρ.2.2.1)), (2, .int (nI n9)), (1, .int L), (0, .ref a0)] [] := by
  intro a0 L n
  induction n with
  | zero =>
    intro s9 n9 hs hl
    obtain rfl : s9 = [] := List.length_eq_zero_iff.mp (by omega)
    refine az_aload_nN C 0 dX0_parts_4 rfl ?_
    refine az_ifnullN C 20 dX0_parts_5 (by decide) ?_
    refine az_iload_n C 1 dX0_parts_20 rfl ?_
    exact az_iret C rfl dX0_parts_21 (Nat.le_of_ble_eq_true rfl) (Nat.le_of_ble_eq_true rfl) ⟨rfl, rfl, rfl⟩
  | succ n ih =>
    intro s9 n9 hs hl
    cases s9 with
    | nil =>
      refine az_aload_nN C 0 dX0_parts_4 rfl ?_
      refine az_ifnullN C 20 dX0_parts_5 (by decide) ?_
      refine az_iload_n C 1 dX0_parts_20 rfl ?_
      exact az_iret C rfl dX0_parts_21 (Nat.le_of_ble_eq_true rfl) (Nat.le_of_ble_eq_true rfl) ⟨rfl, rfl, rfl⟩
    | cons b s9 =>
      rw [show n9 + ptX x L (n + 1) (b :: s9) = n9 + 1 + ptX x L n (epX x L s9 (x.2.1 b 1)) from by rw [ptX]; omega]
      refine az_aload_n C 0 dX0_parts_4 rfl ?_
      refine az_ifnull C dX0_parts_5 ?_
      refine az_iinc C 1 (v := nI (n9 + 1)) (lv' := [(2, .int (nI (n9 + 1))), (3, .ref (ρ.2.2.1 b)), (1, .int L), (0, .ref a0)]) dX0_parts_8 rfl (nI_1 n9) (by decide) rfl ?_
      refine az_aload_n C 1 dX0_parts_11 rfl ?_
      refine az_iload_n C 2 dX0_parts_12 rfl ?_
      refine az_callV C Y_X0_nextPart cX0 1 b [.int L] [] wm_X0_49 wi_X0_nextPart wse_X0_nextPart dX0_parts_13 rfl (KK_b hs.1) rfl (XnextPart hG b s9 L hs) rfl (Nat.le_of_ble_eq_true rfl) (Nat.le_of_ble_eq_true rfl) (Nat.le_of_ble_eq_true rfl) (Nat.le_of_ble_eq_true rfl) (Nat.le_of_ble_eq_true rfl) (az_k1 rfl rfl ?_) (az_k0 rfl)
      refine az_astore_nO C (lv' := [(3, va_rf ((epX x L s9 (x.2.1 b 1)).head?.map ρ.2.2.1)), (2, .int (nI (n9 + 1))), (1, .int L), (0, .ref a0)]) (j := 3) rfl dX0_parts_16 (by decide) rfl ?_
      refine az_goto C 4 dX0_parts_17 (by decide) ?_
      exact az_lv [0, 1, 2, 3] rfl (ih _ (n9 + 1) (epX_suf _ _ hs.2.2) (by have := epX_len (x := x) (L := L) s9 (x.2.1 b 1); rw [List.length_cons] at hl; omega))

set_option maxHeartbeats 4000000 in
set_option maxRecDepth 100000 in
theorem Xparts (hG : az_okS l G) (b : Nat) (r : List Nat) (L : Int32) (hs : XSuf ρ.2.2.2.2.2 x (b :: r)) : az_M l G yX0_parts (az_ws yX0_parts cX0_parts 4 (Option.some FieldType.int)) 2 [.ref (ρ.2.2.1 b), .int L] (AD ρ) (KK G ρ x m ou) 0 0 (az_r (some (.int (nI (ptX x L (r.length + 1) (b :: r))))) (AD ρ) (KK G ρ x m ou)) := by
  refine az_start hG.1 (by decide +kernel) (Nat.le_of_ble_eq_true rfl) ?_
  intro p e s mm args below meth c C hnm
  show az_W l G 4 _ p e _ s mm args below meth c _ _ 0 0 0 [(0, .ref (ρ.2.2.1 b)), (1, .int L)] []
  refine az_iconst C (v := 0) dX0_parts_0 (by decide) ?_
  refine az_istore_n C (lv' := [(2, .int 0), (0, .ref (ρ.2.2.1 b)), (1, .int L)]) (j := 2) rfl dX0_parts_1 (by decide) rfl ?_
  refine az_aload_n C 1 dX0_parts_2 rfl ?_
  refine az_astore_n C (lv' := [(3, .ref (ρ.2.2.1 b)), (2, .int 0), (0, .ref (ρ.2.2.1 b)), (1, .int L)]) (j := 3) rfl dX0_parts_3 (by decide) rfl ?_
  rw [show ptX x L (r.length + 1) (b :: r) = 0 + ptX x L (r.length + 1) (b :: r) from by rw [Nat.zero_add]]
  exact az_lv [0, 1, 3, 2] rfl (Xparts_l hG C _ L (r.length + 1) (b :: r) 0 hs (Nat.le_refl _))

end
