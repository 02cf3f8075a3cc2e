section
variable {l : Launch} {G : az_G} {ρ : Rp} {x : Xs} {m : Ms} {ou : Nat → Int64}
/-- what is left behind the part that begins a list of barges -/
def epM (m : Ms) (lk : Nat) : List Nat → Int32 → List Nat
  | [], _ => []
  | b :: r, sum => if m.1 8 lk < sum + m.1 14 b then b :: r else epM m lk r (sum + m.1 14 b)
theorem epM_suf {m : Ms} {lk : Nat} : ∀ (s9 : List Nat) (sum : Int32), MSuf m s9 → MSuf m (epM m lk s9 sum)
  | [], _, _ => trivial
  | b :: r, sum, h => by
    unfold epM; split
    · exact h
    · exact epM_suf r _ h.2.2
theorem epM_len {m : Ms} {lk : Nat} : ∀ (s9 : List Nat) (sum : Int32), (epM m lk s9 sum).length ≤ s9.length
  | [], _ => Nat.le_refl _
  | b :: r, sum => by
    unfold epM; split
    · exact Nat.le_refl _
    · exact Nat.le_succ_of_le (epM_len r _)
def tlM (m : Ms) (lk : Nat) : List Nat → Int32 → Int32
  | [], acc => acc
  | b :: r, acc => tlM m lk r (if ¬ acc = 0 then 1 else (if m.1 14 b ≤ m.1 8 lk then 0 else 1))
theorem tlM_01 {m : Ms} {lk : Nat} : ∀ (s9 : List Nat) (acc : Int32), (acc = 0 ∨ acc = 1) → (tlM m lk s9 acc = 0 ∨ tlM m lk s9 acc = 1)
  | [], _, h => h
  | b :: r, acc, h => by
    unfold tlM
    refine tlM_01 r _ ?_
    split
    · exact Or.inr rfl
    · split
      · exact Or.inl rfl
      · exact Or.inr rfl
theorem nar_b {v : Int32} (h : v = 0 ∨ v = 1) : narrow .boolean (.int v) = .int v := by rcases h with rfl | rfl <;> rfl
/-- how many parts -/
def ptM (m : Ms) (lk : Nat) : Nat → List Nat → Nat
  | 0, _ => 0
  | _ + 1, [] => 0
  | n + 1, b :: r => 1 + ptM m lk n (epM m lk (b :: r) 0)
set_option maxHeartbeats 4000000 in
set_option maxRecDepth 100000 in
theorem Mend_l (hG : az_okS l G) {p : Program} {e : Env} {s : State} {mm : MethodId} {args : Array Value} {below : List Frame} {meth : Method} {c : Code} (C : az_C l G p s mm args meth c cX4_endOfPart yX4_endOfPart.cls 5 (Option.some FieldType.int) []) : ∀ (lk : Nat) (hlk : lk < 5) (s9 : List Nat) (sum : Int32) (hs : MSuf m s9), az_W l G 5 (az_Q G (az_r (some (.int (hdI (epM m lk s9 sum)))) (AD ρ) (KK G ρ x m ou)) below args s 0 0) p e (az_rm 1 0 0) s mm args below meth c (AD ρ) (KK G ρ x m ou) 0 0 5 [(4, .int sum), (3, .int (hdI s9)), (2, .int (nI lk)), (0, .ref (ρ.1 100))] [] := by
  intro lk hlk s9
  induction s9 with
  | nil =>
    intro sum hs
    refine az_iload_n C 1 dX4_endOfPart_5 rfl ?_
    refine az_iconst C (v := (-1)) dX4_endOfPart_6 (by decide) ?_
    refine az_icmp_eq C 49 dX4_endOfPart_7 (by decide) (fun _ => ?_) (fun q => absurd (by decide) q)
    refine az_iload_n C 1 dX4_endOfPart_49 rfl ?_
    exact az_iret C rfl dX4_endOfPart_50 (Nat.le_of_ble_eq_true rfl) (Nat.le_of_ble_eq_true rfl) ⟨rfl, rfl, rfl⟩
  | cons b s9 ih =>
    intro sum hs
    have hb := hs.1
    refine az_iload_n C 1 dX4_endOfPart_5 rfl ?_
    refine az_iconst C (v := (-1)) dX4_endOfPart_6 (by decide) ?_
    refine az_icmp_eq C 49 dX4_endOfPart_7 (by decide) (fun q => absurd q (nI_m1 hb)) (fun _ => ?_)
    refine az_iload C 0 dX4_endOfPart_10 rfl ?_
    refine az_aload_n C 3 dX4_endOfPart_12 rfl ?_
    refine az_get C cX4 2 0 14 (v := .ref (ρ.1 114)) wl_X4_45 dX4_endOfPart_13 rfl rfl rfl (by decide) ?_
    refine az_iload_n C 1 dX4_endOfPart_16 rfl ?_
    refine az_ialdN C 2 14 b (v := m.1 14 b) dX4_endOfPart_17 rfl rfl (by omega) (by decide) rfl ?_
    refine az_iadd C dX4_endOfPart_18 ?_
    refine az_aload_n C 3 dX4_endOfPart_19 rfl ?_
    refine az_get C cX4 2 0 8 (v := .ref (ρ.1 108)) wl_X4_29 dX4_endOfPart_20 rfl rfl rfl (by decide) ?_
    refine az_iload_n C 2 dX4_endOfPart_23 rfl ?_
    refine az_ialdN C 2 8 lk (v := m.1 8 lk) dX4_endOfPart_24 rfl rfl (by omega) (by decide) rfl ?_
    refine az_icmp_gt C 49 dX4_endOfPart_25 (by decide) (fun c1 => ?_) (fun c1 => ?_)
    · refine az_iload_n C 1 dX4_endOfPart_49 rfl ?_
      exact az_iret C rfl dX4_endOfPart_50 (Nat.le_of_ble_eq_true rfl) (Nat.le_of_ble_eq_true rfl) ⟨(by simp only [epM, c1, if_true, hdI]), rfl, rfl⟩
    · refine az_iload C 0 dX4_endOfPart_28 rfl ?_
      refine az_aload_n C 3 dX4_endOfPart_30 rfl ?_
      refine az_get C cX4 2 0 14 (v := .ref (ρ.1 114)) wl_X4_45 dX4_endOfPart_31 rfl rfl rfl (by decide) ?_
      refine az_iload_n C 1 dX4_endOfPart_34 rfl ?_
      refine az_ialdN C 2 14 b (v := m.1 14 b) dX4_endOfPart_35 rfl rfl (by omega) (by decide) rfl ?_
      refine az_iadd C dX4_endOfPart_36 ?_
      refine az_istore C (lv' := [(4, .int ((sum + m.1 14 b))), (3, .int (nI b)), (2, .int (nI lk)), (0, .ref (ρ.1 100))]) dX4_endOfPart_37 (by decide) rfl ?_
      refine az_aload_n C 3 dX4_endOfPart_39 rfl ?_
      refine az_get C cX4 2 0 19 (v := .ref (ρ.1 119)) wl_X4_60 dX4_endOfPart_40 rfl rfl rfl (by decide) ?_
      refine az_iload_n C 1 dX4_endOfPart_43 rfl ?_
      refine az_ialdN C 2 19 b (v := m.1 19 b) dX4_endOfPart_44 rfl rfl (by omega) (by decide) rfl ?_
      refine az_top (hdI s9) hs.2.1 ?_
      refine az_istore_n C (lv' := [(3, .int (hdI s9)), (4, .int ((sum + m.1 14 b))), (2, .int (nI lk)), (0, .ref (ρ.1 100))]) (j := 3) rfl dX4_endOfPart_45 (by decide) rfl ?_
      refine az_goto C 5 dX4_endOfPart_46 (by decide) ?_
      rw [show epM m lk (b :: s9) sum = epM m lk s9 (sum + m.1 14 b) from by simp only [epM, c1, if_false]]
      exact az_lv [1, 0, 2, 3] rfl (ih (sum + m.1 14 b) hs.2.2)

set_option maxHeartbeats 4000000 in
set_option maxRecDepth 100000 in
theorem Mend (hG : az_okS l G) (lk b : Nat) (r : List Nat) (hlk : lk < 5) (hs : MSuf m (b :: r)) : az_M l G yX4_endOfPart (az_ws yX4_endOfPart cX4_endOfPart 5 (Option.some FieldType.int)) 1 [.ref (ρ.1 100), .int (nI b), .int (nI lk)] (AD ρ) (KK G ρ x m ou) 0 0 (az_r (some (.int (hdI (epM m lk (b :: r) 0)))) (AD ρ) (KK G ρ x m ou)) := by
  refine az_start hG.1 (by decide +kernel) (Nat.le_of_ble_eq_true rfl) ?_
  intro p e s mm args below meth c C hnm
  show az_W l G 5 _ p e _ s mm args below meth c _ _ 0 0 0 [(0, .ref (ρ.1 100)), (1, .int (nI b)), (2, .int (nI lk))] []
  refine az_iload_n C 1 dX4_endOfPart_0 rfl ?_
  refine az_istore_n C (lv' := [(3, .int (nI b)), (0, .ref (ρ.1 100)), (1, .int (nI b)), (2, .int (nI lk))]) (j := 3) rfl dX4_endOfPart_1 (by decide) rfl ?_
  refine az_iconst C (v := 0) dX4_endOfPart_2 (by decide) ?_
  refine az_istore C (lv' := [(4, .int 0), (3, .int (nI b)), (0, .ref (ρ.1 100)), (1, .int (nI b)), (2, .int (nI lk))]) dX4_endOfPart_3 (by decide) rfl ?_
  exact az_lv [0, 1, 4, 2] rfl (Mend_l hG C lk hlk (b :: r) 0 hs)

set_option maxHeartbeats 4000000 in
set_option maxRecDepth 100000 in
theorem Mtl_l (hG : az_okS l G) {p : Program} {e : Env} {s : State} {mm : MethodId} {args : Array Value} {below : List Frame} {meth : Method} {c : Code} (C : az_C l G p s mm args meth c cX4_isTooLong yX4_isTooLong.cls 5 (Option.some FieldType.boolean) []) : ∀ (lk : Nat) (hlk : lk < 5) (s9 : List Nat) (acc : Int32) (hs : MSuf m s9) (h01 : acc = 0 ∨ acc = 1), az_W l G 5 (az_Q G (az_r (some (.int (tlM m lk s9 acc))) (AD ρ) (KK G ρ x m ou)) below args s 0 0) p e (az_rm 2 0 0) s mm args below meth c (AD ρ) (KK G ρ x m ou) 0 0 9 [(4, .int (hdI s9)), (3, .int acc), (2, .int (nI lk)), (0, .ref (ρ.1 100))] [] := by
  intro lk hlk s9
  induction s9 with
  | nil =>
    intro acc hs h01
    refine az_iload C 0 dX4_isTooLong_9 rfl ?_
    refine az_iconst C (v := (-1)) dX4_isTooLong_11 (by decide) ?_
    refine az_icmp_eq C 53 dX4_isTooLong_12 (by decide) (fun _ => ?_) (fun q => absurd (by decide) q)
    refine az_iload_n C 1 dX4_isTooLong_53 rfl ?_
    exact az_zret C .boolean rfl (nar_b h01) dX4_isTooLong_54 (Nat.le_of_ble_eq_true rfl) (Nat.le_of_ble_eq_true rfl) ⟨rfl, rfl, rfl⟩
  | cons b s9 ih =>
    intro acc hs h01
    have hb := hs.1
    refine az_iload C 0 dX4_isTooLong_9 rfl ?_
    refine az_iconst C (v := (-1)) dX4_isTooLong_11 (by decide) ?_
    refine az_icmp_eq C 53 dX4_isTooLong_12 (by decide) (fun q => absurd q (nI_m1 hb)) (fun _ => ?_)
    refine az_iload_n C 1 dX4_isTooLong_15 rfl ?_
    suffices J1 : az_W l G 5 _ p e _ s mm args below meth c (AD ρ) (KK G ρ x m ou) _ _ 40 [(4, .int (nI b)), (3, .int acc), (2, .int (nI lk)), (0, .ref (ρ.1 100))] [.int ((if ¬ acc = 0 then 1 else (if m.1 14 b ≤ m.1 8 lk then 0 else 1)))] by
      refine az_if_ne C 35 dX4_isTooLong_16 (by decide) (fun c2 => ?_) (fun c2 => ?_)
      · refine az_iconst C (v := 1) dX4_isTooLong_35 (by decide) ?_
        refine az_goto C 40 dX4_isTooLong_36 (by decide) ?_
        first | rw [if_pos (show ¬ acc = 0 from c2)] at J1 ⊢ | rw [if_pos (show ¬ acc = 0 from c2)] at J1
        exact az_lv [0, 1, 2, 3] rfl J1
      · refine az_aload_n C 3 dX4_isTooLong_19 rfl ?_
        refine az_get C cX4 2 0 14 (v := .ref (ρ.1 114)) wl_X4_45 dX4_isTooLong_20 rfl rfl rfl (by decide) ?_
        refine az_iload C 0 dX4_isTooLong_23 rfl ?_
        refine az_ialdN C 2 14 b (v := m.1 14 b) dX4_isTooLong_25 rfl rfl (by omega) (by decide) rfl ?_
        refine az_aload_n C 3 dX4_isTooLong_26 rfl ?_
        refine az_get C cX4 2 0 8 (v := .ref (ρ.1 108)) wl_X4_29 dX4_isTooLong_27 rfl rfl rfl (by decide) ?_
        refine az_iload_n C 2 dX4_isTooLong_30 rfl ?_
        refine az_ialdN C 2 8 lk (v := m.1 8 lk) dX4_isTooLong_31 rfl rfl (by omega) (by decide) rfl ?_
        suffices J3 : az_W l G 5 _ p e _ s mm args below meth c (AD ρ) (KK G ρ x m ou) _ _ 40 [(4, .int (nI b)), (3, .int acc), (2, .int (nI lk)), (0, .ref (ρ.1 100))] [.int ((if m.1 14 b ≤ m.1 8 lk then 0 else 1))] by
          refine az_icmp_le C 39 dX4_isTooLong_32 (by decide) (fun c4 => ?_) (fun c4 => ?_)
          · refine az_iconst C (v := 0) dX4_isTooLong_39 (by decide) ?_
            first | rw [if_pos (show m.1 14 b ≤ m.1 8 lk from c4)] at J3 ⊢ | rw [if_pos (show m.1 14 b ≤ m.1 8 lk from c4)] at J3
            exact az_lv [0, 1, 2, 3] rfl J3
          · refine az_iconst C (v := 1) dX4_isTooLong_35 (by decide) ?_
            refine az_goto C 40 dX4_isTooLong_36 (by decide) ?_
            first | rw [if_neg (show ¬ (m.1 14 b ≤ m.1 8 lk) from c4)] at J3 ⊢ | rw [if_neg (show ¬ (m.1 14 b ≤ m.1 8 lk) from c4)] at J3
            exact az_lv [0, 1, 2, 3] rfl J3
        first | rw [if_neg (show ¬ (¬ acc = 0) from fun z => z c2)] at J1 ⊢ | rw [if_neg (show ¬ (¬ acc = 0) from fun z => z c2)] at J1
        exact az_lv [0, 1, 2, 3] rfl J1
    refine az_istore_n C (lv' := [(3, .int ((if ¬ acc = 0 then 1 else (if m.1 14 b ≤ m.1 8 lk then 0 else 1)))), (4, .int (nI b)), (2, .int (nI lk)), (0, .ref (ρ.1 100))]) (j := 3) rfl dX4_isTooLong_40 (by decide) rfl ?_
    refine az_aload_n C 3 dX4_isTooLong_41 rfl ?_
    refine az_get C cX4 2 0 19 (v := .ref (ρ.1 119)) wl_X4_60 dX4_isTooLong_42 rfl rfl rfl (by decide) ?_
    refine az_iload C 1 dX4_isTooLong_45 rfl ?_
    refine az_ialdN C 2 19 b (v := m.1 19 b) dX4_isTooLong_47 rfl rfl (by omega) (by decide) rfl ?_
    refine az_top (hdI s9) hs.2.1 ?_
    refine az_istore C (lv' := [(4, .int (hdI s9)), (3, .int ((if ¬ acc = 0 then 1 else (if m.1 14 b ≤ m.1 8 lk then 0 else 1)))), (2, .int (nI lk)), (0, .ref (ρ.1 100))]) dX4_isTooLong_48 (by decide) rfl ?_
    refine az_goto C 9 dX4_isTooLong_50 (by decide) ?_
    exact az_lv [0, 1, 2, 3] rfl (ih (if ¬ acc = 0 then 1 else (if m.1 14 b ≤ m.1 8 lk then 0 else 1)) hs.2.2 (by split; exact Or.inr rfl; split; exact Or.inl rfl; exact Or.inr rfl))

set_option maxHeartbeats 4000000 in
set_option maxRecDepth 100000 in
theorem Mtl (hG : az_okS l G) (lk : Nat) (hlk : lk < 5) (b : Nat) (r : List Nat) (f : Nat) (t : List Nat) (hc : MCv m b r f t) : az_M l G yX4_isTooLong (az_ws yX4_isTooLong cX4_isTooLong 5 (Option.some FieldType.boolean)) 2 [.ref (ρ.1 100), .int (nI b), .int (nI lk)] (AD ρ) (KK G ρ x m ou) 0 0 (az_r (some (.int (tlM m lk (f :: t) 0))) (AD ρ) (KK G ρ x m ou)) := by
  refine az_start hG.1 (by decide +kernel) (Nat.le_of_ble_eq_true rfl) ?_
  intro p e s mm args below meth c C hnm
  show az_W l G 5 _ p e _ s mm args below meth c _ _ 0 0 0 [(0, .ref (ρ.1 100)), (1, .int (nI b)), (2, .int (nI lk))] []
  refine az_iconst C (v := 0) dX4_isTooLong_0 (by decide) ?_
  refine az_istore_n C (lv' := [(3, .int 0), (0, .ref (ρ.1 100)), (1, .int (nI b)), (2, .int (nI lk))]) (j := 3) rfl dX4_isTooLong_1 (by decide) rfl ?_
  refine az_aload_n C 1 dX4_isTooLong_2 rfl ?_
  refine az_iload_n C 2 dX4_isTooLong_3 rfl ?_
  refine az_callV C Y_X4_first cX4 2 0 [.int (nI b)] [] wm_X4_167 wi_X4_first wse_X4_first dX4_isTooLong_4 rfl rfl rfl (Mfirst2 hG b _ f _ hc) rfl (Nat.le_of_ble_eq_true rfl) (Nat.le_of_ble_eq_true rfl) (Nat.le_of_ble_eq_true rfl) (Nat.le_of_ble_eq_true rfl) (Nat.le_of_ble_eq_true rfl) (az_k1 rfl rfl ?_) (az_k0 rfl)
  refine az_istore C (lv' := [(4, .int (nI f)), (3, .int 0), (0, .ref (ρ.1 100)), (1, .int (nI b)), (2, .int (nI lk))]) dX4_isTooLong_7 (by decide) rfl ?_
  exact az_lv [0, 1, 4, 2] rfl (Mtl_l hG C lk hlk (f :: t) 0 hc.2.2 (Or.inl rfl))

set_option maxHeartbeats 4000000 in
set_option maxRecDepth 100000 in
theorem MconvoySize1 (hG : az_okS l G) (nb b : Nat) (hb : m.1 0 12 = nI nb) (hn : nb ≤ 8) (hk : b + 1 ≤ nb) (r : List Nat) (f : Nat) (t : List Nat) (hc : MCv m b r f t) : az_M l G yX4_convoySize (az_ws yX4_convoySize cX4_convoySize 2 (Option.some FieldType.int)) 3 [.ref (ρ.1 100), .int (nI b)] (AD ρ) (KK G ρ x m ou) 0 0 (az_r (some (.int (nI (t.length + 1)))) (AD ρ) (KK G ρ x (mI m 0 0 0) ou)) := by
  refine az_start hG.1 (by decide +kernel) (Nat.le_of_ble_eq_true rfl) ?_
  intro p e s mm args below meth c C hnm
  show az_W l G 2 _ p e _ s mm args below meth c _ _ 0 0 0 [(0, .ref (ρ.1 100)), (1, .int (nI b))] []
  refine az_aload_n C 0 dX4_convoySize_0 rfl ?_
  refine az_iload_n C 1 dX4_convoySize_1 rfl ?_
  refine az_callV C Y_X4_isBarge cX4 2 0 [.int (nI b)] [] wm_X4_161 wi_X4_isBarge wse_X4_isBarge dX4_convoySize_2 rfl rfl rfl (Mb1 hG nb b hb hn hk) rfl (Nat.le_of_ble_eq_true rfl) (Nat.le_of_ble_eq_true rfl) (Nat.le_of_ble_eq_true rfl) (Nat.le_of_ble_eq_true rfl) (Nat.le_of_ble_eq_true rfl) (az_k1 rfl rfl ?_) (az_k0 rfl)
  refine az_if_eq C 20 dX4_convoySize_5 (by decide) (fun q => absurd q (by decide)) (fun _ => ?_)
  refine az_aload_n C 0 dX4_convoySize_8 rfl ?_
  refine az_aload_n C 0 dX4_convoySize_9 rfl ?_
  refine az_iload_n C 1 dX4_convoySize_10 rfl ?_
  refine az_callV C Y_X4_size cX4 2 0 [.int (nI b)] [.ref (ρ.1 100)] wm_X4_170 wi_X4_size wse_X4_size dX4_convoySize_11 rfl rfl rfl (Msize hG b _ _ t hc) rfl (Nat.le_of_ble_eq_true rfl) (Nat.le_of_ble_eq_true rfl) (Nat.le_of_ble_eq_true rfl) (Nat.le_of_ble_eq_true rfl) (Nat.le_of_ble_eq_true rfl) (az_k1 rfl rfl ?_) (az_k0 rfl)
  refine az_callV C Y_X4_tells cX4 2 0 [.int (nI ((t.length + 1)))] [] wm_X4_125 wi_X4_tells wse_X4_tells dX4_convoySize_14 rfl rfl rfl (Mtells hG (nI ((t.length + 1)))) rfl (Nat.le_of_ble_eq_true rfl) (Nat.le_of_ble_eq_true rfl) (Nat.le_of_ble_eq_true rfl) (Nat.le_of_ble_eq_true rfl) (Nat.le_of_ble_eq_true rfl) (az_k1 rfl rfl ?_) (az_k0 rfl)
  refine az_goto C 25 dX4_convoySize_17 (by decide) ?_
  exact az_iret C rfl dX4_convoySize_25 (Nat.le_of_ble_eq_true rfl) (Nat.le_of_ble_eq_true rfl) ⟨rfl, rfl, rfl⟩

set_option maxHeartbeats 4000000 in
set_option maxRecDepth 100000 in
theorem MconvoySize0 (hG : az_okS l G) (nb : Nat) (v : Int32) (hb : m.1 0 12 = nI nb) (hn : nb ≤ 8) (hv : oo nb v) : az_M l G yX4_convoySize (az_ws yX4_convoySize cX4_convoySize 2 (Option.some FieldType.int)) 3 [.ref (ρ.1 100), .int v] (AD ρ) (KK G ρ x m ou) 0 0 (az_r (some (.int 0)) (AD ρ) (KK G ρ x (mI m 0 0 1) ou)) := by
  refine az_start hG.1 (by decide +kernel) (Nat.le_of_ble_eq_true rfl) ?_
  intro p e s mm args below meth c C hnm
  show az_W l G 2 _ p e _ s mm args below meth c _ _ 0 0 0 [(0, .ref (ρ.1 100)), (1, .int v)] []
  refine az_aload_n C 0 dX4_convoySize_0 rfl ?_
  refine az_iload_n C 1 dX4_convoySize_1 rfl ?_
  refine az_callV C Y_X4_isBarge cX4 2 0 [.int v] [] wm_X4_161 wi_X4_isBarge wse_X4_isBarge dX4_convoySize_2 rfl rfl rfl (Mb0 hG nb v hb hn (by omega) hv) rfl (Nat.le_of_ble_eq_true rfl) (Nat.le_of_ble_eq_true rfl) (Nat.le_of_ble_eq_true rfl) (Nat.le_of_ble_eq_true rfl) (Nat.le_of_ble_eq_true rfl) (az_k1 rfl rfl ?_) (az_k0 rfl)
  refine az_if_eq C 20 dX4_convoySize_5 (by decide) (fun _ => ?_) (fun q => absurd (by decide) q)
  refine az_aload_n C 0 dX4_convoySize_20 rfl ?_
  refine az_iconst C (v := 1) dX4_convoySize_21 (by decide) ?_
  refine az_callV C Y_X4_fails cX4 2 0 [.int 1] [] wm_X4_121 wi_X4_fails wse_X4_fails dX4_convoySize_22 rfl rfl rfl (Mfails hG (1)) rfl (Nat.le_of_ble_eq_true rfl) (Nat.le_of_ble_eq_true rfl) (Nat.le_of_ble_eq_true rfl) (Nat.le_of_ble_eq_true rfl) (Nat.le_of_ble_eq_true rfl) (az_k1 rfl rfl ?_) (az_k0 rfl)
  exact az_iret C rfl dX4_convoySize_25 (Nat.le_of_ble_eq_true rfl) (Nat.le_of_ble_eq_true rfl) ⟨rfl, rfl, rfl⟩

theorem epM_mem {m : Ms} {lk : Nat} : ∀ (s9 : List Nat) (sum : Int32) (d : Nat), d ∈ epM m lk s9 sum → d ∈ s9
  | [], _, _, h => h
  | b :: r, sum, d, h => by
    unfold epM at h; split at h
    · exact h
    · exact List.mem_cons_of_mem _ (epM_mem r _ d h)
set_option maxHeartbeats 4000000 in
set_option maxRecDepth 100000 in
theorem Mparts_l (hG : az_okS l G) {p : Program} {e : Env} {s : State} {mm : MethodId} {args : Array Value} {below : List Frame} {meth : Method} {c : Code} (C : az_C l G p s mm args meth c cX4_partsFor yX4_partsFor.cls 5 (Option.some FieldType.int) []) : ∀ (lk : Nat) (hlk : lk < 5) (n : Nat) (s9 : List Nat) (n9 : Nat) (hs : MSuf m s9) (hn : s9.length ≤ n) (hf : ∀ b ∈ s9, ¬ m.1 8 lk < m.1 14 b), az_W l G 5 (az_Q G (az_r (some (.int (nI (n9 + ptM m lk n s9)))) (AD ρ) (KK G ρ x (mI m 0 0 0) ou)) below args s 0 0) p e (az_rm 3 0 0) s mm args below meth c (AD ρ) (KK G ρ x m ou) 0 0 46 [(4, .int (hdI s9)), (3, .int (nI n9)), (2, .int (nI lk)), (0, .ref (ρ.1 100))] [] := by
  intro lk hlk n
  induction n with
  | zero =>
    intro s9 n9 hs hn hf
    have h0 : s9 = [] := List.length_eq_zero_iff.mp (by omega)
    subst h0
    refine az_iload C 0 dX4_partsFor_46 rfl ?_
    refine az_iconst C (v := (-1)) dX4_partsFor_48 (by decide) ?_
    refine az_icmp_eq C 67 dX4_partsFor_49 (by decide) (fun _ => ?_) (fun q => absurd (by decide) q)
    refine az_aload_n C 3 dX4_partsFor_67 rfl ?_
    refine az_iload_n C 1 dX4_partsFor_68 rfl ?_
    refine az_callV C Y_X4_tells cX4 2 0 [.int (nI n9)] [] wm_X4_125 wi_X4_tells wse_X4_tells dX4_partsFor_69 rfl rfl rfl (Mtells hG (nI n9)) rfl (Nat.le_of_ble_eq_true rfl) (Nat.le_of_ble_eq_true rfl) (Nat.le_of_ble_eq_true rfl) (Nat.le_of_ble_eq_true rfl) (Nat.le_of_ble_eq_true rfl) (az_k1 rfl rfl ?_) (az_k0 rfl)
    exact az_iret C rfl dX4_partsFor_72 (Nat.le_of_ble_eq_true rfl) (Nat.le_of_ble_eq_true rfl) ⟨rfl, rfl, rfl⟩
  | succ n ih =>
    intro s9 n9 hs hn hf
    cases s9 with
    | nil =>
      refine az_iload C 0 dX4_partsFor_46 rfl ?_
      refine az_iconst C (v := (-1)) dX4_partsFor_48 (by decide) ?_
      refine az_icmp_eq C 67 dX4_partsFor_49 (by decide) (fun _ => ?_) (fun q => absurd (by decide) q)
      refine az_aload_n C 3 dX4_partsFor_67 rfl ?_
      refine az_iload_n C 1 dX4_partsFor_68 rfl ?_
      refine az_callV C Y_X4_tells cX4 2 0 [.int (nI n9)] [] wm_X4_125 wi_X4_tells wse_X4_tells dX4_partsFor_69 rfl rfl rfl (Mtells hG (nI n9)) rfl (Nat.le_of_ble_eq_true rfl) (Nat.le_of_ble_eq_true rfl) (Nat.le_of_ble_eq_true rfl) (Nat.le_of_ble_eq_true rfl) (Nat.le_of_ble_eq_true rfl) (az_k1 rfl rfl ?_) (az_k0 rfl)
      exact az_iret C rfl dX4_partsFor_72 (Nat.le_of_ble_eq_true rfl) (Nat.le_of_ble_eq_true rfl) ⟨rfl, rfl, rfl⟩
    | cons b s9 =>
      have hb := hs.1
      refine az_iload C 0 dX4_partsFor_46 rfl ?_
      refine az_iconst C (v := (-1)) dX4_partsFor_48 (by decide) ?_
      refine az_icmp_eq C 67 dX4_partsFor_49 (by decide) (fun q => absurd q (nI_m1 hb)) (fun _ => ?_)
      refine az_iinc C 1 (v := nI (n9 + 1)) (lv' := [(3, .int (nI (n9 + 1))), (4, .int (nI b)), (2, .int (nI lk)), (0, .ref (ρ.1 100))]) dX4_partsFor_52 rfl (nI_1 n9) (by decide) rfl ?_
      refine az_aload_n C 3 dX4_partsFor_55 rfl ?_
      refine az_iload C 1 dX4_partsFor_56 rfl ?_
      refine az_iload_n C 2 dX4_partsFor_58 rfl ?_
      refine az_callV C Y_X4_endOfPart cX4 2 0 [.int (nI b), .int (nI lk)] [] wm_X4_177 wi_X4_endOfPart wse_X4_endOfPart dX4_partsFor_59 rfl rfl rfl (Mend hG lk b s9 hlk hs) rfl (Nat.le_of_ble_eq_true rfl) (Nat.le_of_ble_eq_true rfl) (Nat.le_of_ble_eq_true rfl) (Nat.le_of_ble_eq_true rfl) (Nat.le_of_ble_eq_true rfl) (az_k1 rfl rfl ?_) (az_k0 rfl)
      refine az_istore C (lv' := [(4, .int (hdI (epM m lk (b :: s9) 0))), (3, .int (nI (n9 + 1))), (2, .int (nI lk)), (0, .ref (ρ.1 100))]) dX4_partsFor_62 (by decide) rfl ?_
      refine az_goto C 46 dX4_partsFor_64 (by decide) ?_
      have e0 : epM m lk (b :: s9) 0 = epM m lk s9 (0 + m.1 14 b) := by
        rw [epM, if_neg]
        rw [Int32.zero_add]
        exact hf b List.mem_cons_self
      have hl := epM_len (m := m) (lk := lk) s9 (0 + m.1 14 b)
      rw [show n9 + ptM m lk (n + 1) (b :: s9) = n9 + 1 + ptM m lk n (epM m lk (b :: s9) 0) from by rw [ptM]; omega]
      refine az_lv [0, 1, 2, 3] rfl (ih (epM m lk (b :: s9) 0) (n9 + 1) (epM_suf _ _ hs) (by rw [e0]; rw [List.length_cons] at hn; omega) ?_)
      exact fun d hd => hf d (epM_mem _ _ _ hd)

set_option maxHeartbeats 4000000 in
set_option maxRecDepth 100000 in
theorem MpartsFor2 (hG : az_okS l G) (nb b : Nat) (hb : m.1 0 12 = nI nb) (hn : nb ≤ 8) (hk : b + 1 ≤ nb) (nr lk : Nat) (hr : m.1 0 1 = nI nr) (hn6 : nr ≤ 6) (hk2 : lk + 2 ≤ nr) (r : List Nat) (f : Nat) (t : List Nat) (hc : MCv m b r f t) (hf : ∀ d ∈ f :: t, ¬ m.1 8 lk < m.1 14 d) (h0 : tlM m lk (f :: t) 0 = 0) : az_M l G yX4_partsFor (az_ws yX4_partsFor cX4_partsFor 5 (Option.some FieldType.int)) 3 [.ref (ρ.1 100), .int (nI b), .int (nI lk)] (AD ρ) (KK G ρ x m ou) 0 0 (az_r (some (.int (nI (ptM m lk (t.length + 1) (f :: t))))) (AD ρ) (KK G ρ x (mI m 0 0 0) ou)) := by
  refine az_start hG.1 (by decide +kernel) (Nat.le_of_ble_eq_true rfl) ?_
  intro p e s mm args below meth c C hnm
  show az_W l G 5 _ p e _ s mm args below meth c _ _ 0 0 0 [(0, .ref (ρ.1 100)), (1, .int (nI b)), (2, .int (nI lk))] []
  refine az_aload_n C 0 dX4_partsFor_0 rfl ?_
  refine az_iload_n C 1 dX4_partsFor_1 rfl ?_
  refine az_callV C Y_X4_isBarge cX4 2 0 [.int (nI b)] [] wm_X4_161 wi_X4_isBarge wse_X4_isBarge dX4_partsFor_2 rfl rfl rfl (Mb1 hG nb b hb hn hk) rfl (Nat.le_of_ble_eq_true rfl) (Nat.le_of_ble_eq_true rfl) (Nat.le_of_ble_eq_true rfl) (Nat.le_of_ble_eq_true rfl) (Nat.le_of_ble_eq_true rfl) (az_k1 rfl rfl ?_) (az_k0 rfl)
  refine az_if_eq C 16 dX4_partsFor_5 (by decide) (fun q => absurd q (by decide)) (fun _ => ?_)
  refine az_aload_n C 0 dX4_partsFor_8 rfl ?_
  refine az_iload_n C 2 dX4_partsFor_9 rfl ?_
  refine az_callV C Y_X4_isLock cX4 2 0 [.int (nI lk)] [] wm_X4_138 wi_X4_isLock wse_X4_isLock dX4_partsFor_10 rfl rfl rfl (Ml1 hG nr lk hr hn6 hk2) rfl (Nat.le_of_ble_eq_true rfl) (Nat.le_of_ble_eq_true rfl) (Nat.le_of_ble_eq_true rfl) (Nat.le_of_ble_eq_true rfl) (Nat.le_of_ble_eq_true rfl) (az_k1 rfl rfl ?_) (az_k0 rfl)
  refine az_if_ne C 22 dX4_partsFor_13 (by decide) (fun _ => ?_) (fun q => absurd q (by decide))
  refine az_aload_n C 0 dX4_partsFor_22 rfl ?_
  refine az_iload_n C 1 dX4_partsFor_23 rfl ?_
  refine az_iload_n C 2 dX4_partsFor_24 rfl ?_
  refine az_callV C Y_X4_isTooLong cX4 2 0 [.int (nI b), .int (nI lk)] [] wm_X4_173 wi_X4_isTooLong wse_X4_isTooLong dX4_partsFor_25 rfl rfl rfl (Mtl hG lk (by omega) b _ f t hc) rfl (Nat.le_of_ble_eq_true rfl) (Nat.le_of_ble_eq_true rfl) (Nat.le_of_ble_eq_true rfl) (Nat.le_of_ble_eq_true rfl) (Nat.le_of_ble_eq_true rfl) (az_k1 rfl rfl ?_) (az_k0 rfl)
  refine az_if_eq C 37 dX4_partsFor_28 (by decide) (fun _ => ?_) (fun q => absurd h0 q)
  refine az_iconst C (v := 0) dX4_partsFor_37 (by decide) ?_
  refine az_istore_n C (lv' := [(3, .int 0), (0, .ref (ρ.1 100)), (1, .int (nI b)), (2, .int (nI lk))]) (j := 3) rfl dX4_partsFor_38 (by decide) rfl ?_
  refine az_aload_n C 1 dX4_partsFor_39 rfl ?_
  refine az_iload_n C 2 dX4_partsFor_40 rfl ?_
  refine az_callV C Y_X4_first cX4 2 0 [.int (nI b)] [] wm_X4_167 wi_X4_first wse_X4_first dX4_partsFor_41 rfl rfl rfl (Mfirst2 hG b _ f _ hc) rfl (Nat.le_of_ble_eq_true rfl) (Nat.le_of_ble_eq_true rfl) (Nat.le_of_ble_eq_true rfl) (Nat.le_of_ble_eq_true rfl) (Nat.le_of_ble_eq_true rfl) (az_k1 rfl rfl ?_) (az_k0 rfl)
  refine az_istore C (lv' := [(4, .int (nI f)), (3, .int 0), (0, .ref (ρ.1 100)), (1, .int (nI b)), (2, .int (nI lk))]) dX4_partsFor_44 (by decide) rfl ?_
  rw [show ptM m lk (t.length + 1) (f :: t) = 0 + ptM m lk (t.length + 1) (f :: t) from by rw [Nat.zero_add]]
  exact az_lv [0, 1, 4, 2] rfl (Mparts_l hG C lk (by omega) (t.length + 1) (f :: t) 0 hc.2.2 (Nat.le_refl _) hf)

set_option maxHeartbeats 4000000 in
set_option maxRecDepth 100000 in
theorem MpartsFor1 (hG : az_okS l G) (nb b : Nat) (hb : m.1 0 12 = nI nb) (hn : nb ≤ 8) (hk : b + 1 ≤ nb) (nr lk : Nat) (hr : m.1 0 1 = nI nr) (hn6 : nr ≤ 6) (hk2 : lk + 2 ≤ nr) (r : List Nat) (f : Nat) (t : List Nat) (hc : MCv m b r f t) (h0 : ¬ tlM m lk (f :: t) 0 = 0) : az_M l G yX4_partsFor (az_ws yX4_partsFor cX4_partsFor 5 (Option.some FieldType.int)) 3 [.ref (ρ.1 100), .int (nI b), .int (nI lk)] (AD ρ) (KK G ρ x m ou) 0 0 (az_r (some (.int 0)) (AD ρ) (KK G ρ x (mI m 0 0 2) ou)) := by
  refine az_start hG.1 (by decide +kernel) (Nat.le_of_ble_eq_true rfl) ?_
  intro p e s mm args below meth c C hnm
  show az_W l G 5 _ p e _ s mm args below meth c _ _ 0 0 0 [(0, .ref (ρ.1 100)), (1, .int (nI b)), (2, .int (nI lk))] []
  refine az_aload_n C 0 dX4_partsFor_0 rfl ?_
  refine az_iload_n C 1 dX4_partsFor_1 rfl ?_
  refine az_callV C Y_X4_isBarge cX4 2 0 [.int (nI b)] [] wm_X4_161 wi_X4_isBarge wse_X4_isBarge dX4_partsFor_2 rfl rfl rfl (Mb1 hG nb b hb hn hk) rfl (Nat.le_of_ble_eq_true rfl) (Nat.le_of_ble_eq_true rfl) (Nat.le_of_ble_eq_true rfl) (Nat.le_of_ble_eq_true rfl) (Nat.le_of_ble_eq_true rfl) (az_k1 rfl rfl ?_) (az_k0 rfl)
  refine az_if_eq C 16 dX4_partsFor_5 (by decide) (fun q => absurd q (by decide)) (fun _ => ?_)
  refine az_aload_n C 0 dX4_partsFor_8 rfl ?_
  refine az_iload_n C 2 dX4_partsFor_9 rfl ?_
  refine az_callV C Y_X4_isLock cX4 2 0 [.int (nI lk)] [] wm_X4_138 wi_X4_isLock wse_X4_isLock dX4_partsFor_10 rfl rfl rfl (Ml1 hG nr lk hr hn6 hk2) rfl (Nat.le_of_ble_eq_true rfl) (Nat.le_of_ble_eq_true rfl) (Nat.le_of_ble_eq_true rfl) (Nat.le_of_ble_eq_true rfl) (Nat.le_of_ble_eq_true rfl) (az_k1 rfl rfl ?_) (az_k0 rfl)
  refine az_if_ne C 22 dX4_partsFor_13 (by decide) (fun _ => ?_) (fun q => absurd q (by decide))
  refine az_aload_n C 0 dX4_partsFor_22 rfl ?_
  refine az_iload_n C 1 dX4_partsFor_23 rfl ?_
  refine az_iload_n C 2 dX4_partsFor_24 rfl ?_
  refine az_callV C Y_X4_isTooLong cX4 2 0 [.int (nI b), .int (nI lk)] [] wm_X4_173 wi_X4_isTooLong wse_X4_isTooLong dX4_partsFor_25 rfl rfl rfl (Mtl hG lk (by omega) b _ f t hc) rfl (Nat.le_of_ble_eq_true rfl) (Nat.le_of_ble_eq_true rfl) (Nat.le_of_ble_eq_true rfl) (Nat.le_of_ble_eq_true rfl) (Nat.le_of_ble_eq_true rfl) (az_k1 rfl rfl ?_) (az_k0 rfl)
  refine az_if_eq C 37 dX4_partsFor_28 (by decide) (fun q => absurd q h0) (fun _ => ?_)
  refine az_aload_n C 0 dX4_partsFor_31 rfl ?_
  refine az_iconst C (v := 2) dX4_partsFor_32 (by decide) ?_
  refine az_callV C Y_X4_fails cX4 2 0 [.int 2] [] wm_X4_121 wi_X4_fails wse_X4_fails dX4_partsFor_33 rfl rfl rfl (Mfails hG (2)) rfl (Nat.le_of_ble_eq_true rfl) (Nat.le_of_ble_eq_true rfl) (Nat.le_of_ble_eq_true rfl) (Nat.le_of_ble_eq_true rfl) (Nat.le_of_ble_eq_true rfl) (az_k1 rfl rfl ?_) (az_k0 rfl)
  exact az_iret C rfl dX4_partsFor_36 (Nat.le_of_ble_eq_true rfl) (Nat.le_of_ble_eq_true rfl) ⟨rfl, rfl, rfl⟩

set_option maxHeartbeats 4000000 in
set_option maxRecDepth 100000 in
theorem MpartsFor0 (hG : az_okS l G) (nb : Nat) (v u : Int32) (hb : m.1 0 12 = nI nb) (hn : nb ≤ 8) (hv : oo nb v) : az_M l G yX4_partsFor (az_ws yX4_partsFor cX4_partsFor 5 (Option.some FieldType.int)) 3 [.ref (ρ.1 100), .int v, .int u] (AD ρ) (KK G ρ x m ou) 0 0 (az_r (some (.int 0)) (AD ρ) (KK G ρ x (mI m 0 0 1) ou)) := by
  refine az_start hG.1 (by decide +kernel) (Nat.le_of_ble_eq_true rfl) ?_
  intro p e s mm args below meth c C hnm
  show az_W l G 5 _ p e _ s mm args below meth c _ _ 0 0 0 [(0, .ref (ρ.1 100)), (1, .int v), (2, .int u)] []
  refine az_aload_n C 0 dX4_partsFor_0 rfl ?_
  refine az_iload_n C 1 dX4_partsFor_1 rfl ?_
  refine az_callV C Y_X4_isBarge cX4 2 0 [.int v] [] wm_X4_161 wi_X4_isBarge wse_X4_isBarge dX4_partsFor_2 rfl rfl rfl (Mb0 hG nb v hb hn (by omega) hv) rfl (Nat.le_of_ble_eq_true rfl) (Nat.le_of_ble_eq_true rfl) (Nat.le_of_ble_eq_true rfl) (Nat.le_of_ble_eq_true rfl) (Nat.le_of_ble_eq_true rfl) (az_k1 rfl rfl ?_) (az_k0 rfl)
  refine az_if_eq C 16 dX4_partsFor_5 (by decide) (fun _ => ?_) (fun q => absurd (by decide) q)
  refine az_aload_n C 0 dX4_partsFor_16 rfl ?_
  refine az_iconst C (v := 1) dX4_partsFor_17 (by decide) ?_
  refine az_callV C Y_X4_fails cX4 2 0 [.int 1] [] wm_X4_121 wi_X4_fails wse_X4_fails dX4_partsFor_18 rfl rfl rfl (Mfails hG (1)) rfl (Nat.le_of_ble_eq_true rfl) (Nat.le_of_ble_eq_true rfl) (Nat.le_of_ble_eq_true rfl) (Nat.le_of_ble_eq_true rfl) (Nat.le_of_ble_eq_true rfl) (az_k1 rfl rfl ?_) (az_k0 rfl)
  exact az_iret C rfl dX4_partsFor_21 (Nat.le_of_ble_eq_true rfl) (Nat.le_of_ble_eq_true rfl) ⟨rfl, rfl, rfl⟩

set_option maxHeartbeats 4000000 in
set_option maxRecDepth 100000 in
theorem MpartsFor00 (hG : az_okS l G) (nb b : Nat) (hb : m.1 0 12 = nI nb) (hn : nb ≤ 8) (hk : b + 1 ≤ nb) (nr : Nat) (v : Int32) (hr : m.1 0 1 = nI nr) (hn6 : nr ≤ 6) (h1 : 1 ≤ nr) (hv : oo (nr - 1) v) : az_M l G yX4_partsFor (az_ws yX4_partsFor cX4_partsFor 5 (Option.some FieldType.int)) 3 [.ref (ρ.1 100), .int (nI b), .int v] (AD ρ) (KK G ρ x m ou) 0 0 (az_r (some (.int 0)) (AD ρ) (KK G ρ x (mI m 0 0 1) ou)) := by
  refine az_start hG.1 (by decide +kernel) (Nat.le_of_ble_eq_true rfl) ?_
  intro p e s mm args below meth c C hnm
  show az_W l G 5 _ p e _ s mm args below meth c _ _ 0 0 0 [(0, .ref (ρ.1 100)), (1, .int (nI b)), (2, .int v)] []
  refine az_aload_n C 0 dX4_partsFor_0 rfl ?_
  refine az_iload_n C 1 dX4_partsFor_1 rfl ?_
  refine az_callV C Y_X4_isBarge cX4 2 0 [.int (nI b)] [] wm_X4_161 wi_X4_isBarge wse_X4_isBarge dX4_partsFor_2 rfl rfl rfl (Mb1 hG nb b hb hn hk) rfl (Nat.le_of_ble_eq_true rfl) (Nat.le_of_ble_eq_true rfl) (Nat.le_of_ble_eq_true rfl) (Nat.le_of_ble_eq_true rfl) (Nat.le_of_ble_eq_true rfl) (az_k1 rfl rfl ?_) (az_k0 rfl)
  refine az_if_eq C 16 dX4_partsFor_5 (by decide) (fun q => absurd q (by decide)) (fun _ => ?_)
  refine az_aload_n C 0 dX4_partsFor_8 rfl ?_
  refine az_iload_n C 2 dX4_partsFor_9 rfl ?_
  refine az_callV C Y_X4_isLock cX4 2 0 [.int v] [] wm_X4_138 wi_X4_isLock wse_X4_isLock dX4_partsFor_10 rfl rfl rfl (Ml0 hG nr v hr hn6 (by omega) hv) rfl (Nat.le_of_ble_eq_true rfl) (Nat.le_of_ble_eq_true rfl) (Nat.le_of_ble_eq_true rfl) (Nat.le_of_ble_eq_true rfl) (Nat.le_of_ble_eq_true rfl) (az_k1 rfl rfl ?_) (az_k0 rfl)
  refine az_if_ne C 22 dX4_partsFor_13 (by decide) (fun q => absurd (by decide) q) (fun _ => ?_)
  refine az_aload_n C 0 dX4_partsFor_16 rfl ?_
  refine az_iconst C (v := 1) dX4_partsFor_17 (by decide) ?_
  refine az_callV C Y_X4_fails cX4 2 0 [.int 1] [] wm_X4_121 wi_X4_fails wse_X4_fails dX4_partsFor_18 rfl rfl rfl (Mfails hG (1)) rfl (Nat.le_of_ble_eq_true rfl) (Nat.le_of_ble_eq_true rfl) (Nat.le_of_ble_eq_true rfl) (Nat.le_of_ble_eq_true rfl) (Nat.le_of_ble_eq_true rfl) (az_k1 rfl rfl ?_) (az_k0 rfl)
  exact az_iret C rfl dX4_partsFor_21 (Nat.le_of_ble_eq_true rfl) (Nat.le_of_ble_eq_true rfl) ⟨rfl, rfl, rfl⟩

end
