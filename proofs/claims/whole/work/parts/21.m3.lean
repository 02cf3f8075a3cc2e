section
variable {l : Launch} {G : az_G} {ρ : Rp} {x : Xs} {m : Ms} {ou : Nat → Int64}
/-- how many movements the reference has recorded -/
def mvN (m : Ms) : Nat := (m.1 0 24).toNatClampNeg
def mvok (m : Ms) (t : Nat) : Prop := m.1 0 24 = nI (mvN m) ∧ mvN m + t < 100000
def recM (m : Ms) (f t u : Int32) : Ms := if u < 1 then m else mI (mI (mI (mI m 25 (mvN m) f) 26 (mvN m) t) 27 (mvN m) u) 0 24 (nI (mvN m) + 1)
theorem recM_p {m : Ms} {f t u : Int32} {p k : Nat} (h0 : p ≠ 0) (h1 : p ≠ 25) (h2 : p ≠ 26) (h3 : p ≠ 27) : (recM m f t u).1 p k = m.1 p k := by
  unfold recM; split
  · rfl
  · simp only [mI]
    rw [up2_p h0, up2_p h3, up2_p h2, up2_p h1]
theorem recM_0 {m : Ms} {f t u : Int32} {k : Nat} (h : k ≠ 24) : (recM m f t u).1 0 k = m.1 0 k := by
  unfold recM; split
  · rfl
  · simp only [mI]
    rw [up2_k h, up2_p (by decide), up2_p (by decide), up2_p (by decide)]
theorem recM_2 {m : Ms} {f t u : Int32} : (recM m f t u).2 = m.2 := by unfold recM; split <;> rfl
theorem recM_n {m : Ms} {f t u : Int32} (h : m.1 0 24 = nI (mvN m)) (hb : mvN m < 2 ^ 30) : mvN (recM m f t u) = if u < 1 then mvN m else mvN m + 1 := by
  unfold recM; split
  · rfl
  · simp only [mI, mvN]
    rw [up2_s, nI_1, nI_clamp (by unfold mvN at hb; omega)]
theorem recM_ok {m : Ms} {f t u : Int32} {z : Nat} (h : mvok m (z + 1)) : mvok (recM m f t u) z := by
  have h1 := recM_n (f := f) (t := t) (u := u) h.1 (by have := h.2; omega)
  have h2 := h.2
  constructor
  · rw [h1]
    unfold recM; split
    · exact h.1
    · simp only [mI]
      rw [up2_s, nI_1]
  · rw [h1]; split <;> omega
theorem mvok.le {m : Ms} {a b : Nat} (h : mvok m a) (hb : b ≤ a) : mvok m b := ⟨h.1, by have := h.2; omega⟩
theorem mvok.eq {m m' : Ms} {a : Nat} (h : mvok m a) (e : m'.1 0 24 = m.1 0 24) : mvok m' a := by
  unfold mvok mvN at *; rw [e]; exact h
set_option maxHeartbeats 4000000 in
set_option maxRecDepth 100000 in
theorem Mrecords (hG : az_okS l G) (f t u : Int32) (hm : mvok m 0) : az_M l G yX4_records (az_ws yX4_records cX4_records 4 (Option.none : Option FieldType)) 1 [.ref (ρ.1 100), .int f, .int t, .int u] (AD ρ) (KK G ρ x m ou) 0 0 (az_r none (AD ρ) (KK G ρ x (recM m f t u) ou)) := by
  refine az_start hG.1 (by decide +kernel) (Nat.le_of_ble_eq_true rfl) ?_
  intro p e s mm args below meth c C hnm
  show az_W l G 4 _ p e _ s mm args below meth c _ _ 0 0 0 [(0, .ref (ρ.1 100)), (1, .int f), (2, .int t), (3, .int u)] []
  refine az_iload_n C 3 dX4_records_0 rfl ?_
  refine az_iconst C (v := 1) dX4_records_1 (by decide) ?_
  refine az_icmp_ge C 6 dX4_records_2 (by decide) (fun c1 => ?_) (fun c1 => ?_)
  · refine az_aload_n C 0 dX4_records_6 rfl ?_
    refine az_get C cX4 2 0 25 (v := .ref (ρ.1 125)) wl_X4_76 dX4_records_7 rfl rfl rfl (by decide) ?_
    refine az_aload_n C 0 dX4_records_10 rfl ?_
    refine az_get C cX4 2 0 24 (v := .int (m.1 0 24)) wl_X4_72 dX4_records_11 rfl rfl rfl (by decide) ?_
    refine az_top (nI (mvN m)) hm.1 ?_
    refine az_iload_n C 1 dX4_records_14 rfl ?_
    refine az_iastN C 2 25 ((mvN m)) dX4_records_15 rfl rfl (by have := hm.2; omega) (by decide) (az_to rfl (K' := (KK G ρ x (mI m 25 ((mvN m)) f) ou)) (KK_M rfl) ?_)
    refine az_aload_n C 0 dX4_records_16 rfl ?_
    refine az_get C cX4 2 0 26 (v := .ref (ρ.1 126)) wl_X4_79 dX4_records_17 rfl rfl rfl (by decide) ?_
    refine az_aload_n C 0 dX4_records_20 rfl ?_
    refine az_get C cX4 2 0 24 (v := .int (m.1 0 24)) wl_X4_72 dX4_records_21 rfl rfl rfl (by decide) ?_
    refine az_top (nI (mvN m)) hm.1 ?_
    refine az_iload_n C 2 dX4_records_24 rfl ?_
    refine az_iastN C 2 26 ((mvN m)) dX4_records_25 rfl rfl (by have := hm.2; omega) (by decide) (az_to rfl (K' := (KK G ρ x (mI (mI m 25 ((mvN m)) f) 26 ((mvN m)) t) ou)) (KK_M rfl) ?_)
    refine az_aload_n C 0 dX4_records_26 rfl ?_
    refine az_get C cX4 2 0 27 (v := .ref (ρ.1 127)) wl_X4_82 dX4_records_27 rfl rfl rfl (by decide) ?_
    refine az_aload_n C 0 dX4_records_30 rfl ?_
    refine az_get C cX4 2 0 24 (v := .int (m.1 0 24)) wl_X4_72 dX4_records_31 rfl rfl rfl (by decide) ?_
    refine az_top (nI (mvN m)) hm.1 ?_
    refine az_iload_n C 3 dX4_records_34 rfl ?_
    refine az_iastN C 2 27 ((mvN m)) dX4_records_35 rfl rfl (by have := hm.2; omega) (by decide) (az_to rfl (K' := (KK G ρ x (mI (mI (mI m 25 ((mvN m)) f) 26 ((mvN m)) t) 27 ((mvN m)) u) ou)) (KK_M rfl) ?_)
    refine az_aload_n C 0 dX4_records_36 rfl ?_
    refine az_dup C dX4_records_37 rfl ?_
    refine az_get C cX4 2 0 24 (v := .int (m.1 0 24)) wl_X4_72 dX4_records_38 rfl rfl rfl (by decide) ?_
    refine az_top (nI (mvN m)) hm.1 ?_
    refine az_iconst C (v := 1) dX4_records_41 (by decide) ?_
    refine az_iadd C dX4_records_42 ?_
    refine az_put C cX4 2 0 24 wl_X4_72 dX4_records_43 rfl rfl (by decide) (Nat.le_of_ble_eq_true rfl) rfl rfl rfl (az_to rfl (K' := (KK G ρ x (mI (mI (mI (mI m 25 ((mvN m)) f) 26 ((mvN m)) t) 27 ((mvN m)) u) 0 24 ((nI (mvN m) + 1))) ou)) (KK_M rfl) ?_)
    exact az_vret C rfl dX4_records_46 (Nat.le_of_ble_eq_true rfl) (Nat.le_of_ble_eq_true rfl) ⟨rfl, rfl, (by unfold recM; rw [if_neg (Int32.not_lt.mpr c1)])⟩
  · exact az_vret C rfl dX4_records_5 (Nat.le_of_ble_eq_true rfl) (Nat.le_of_ble_eq_true rfl) ⟨rfl, rfl, (by unfold recM; rw [if_pos (Int32.not_le.mp c1)])⟩

/-- what a step of 'comes' makes of the water of reach k -/
def cstep (m : Ms) (src : Int32) (k : Nat) (left : Int32) : Ms := mI (recM m src (nI k) left) 4 k ((recM m src (nI k) left).1 4 k + left)
def cleft (m : Ms) (src : Int32) (k : Nat) (left : Int32) : Int32 := (cstep m src k left).1 4 k - 60 * (recM m src (nI k) left).1 3 k
def cnext (m : Ms) (src : Int32) (k : Nat) (left : Int32) : Ms := if cleft m src k left ≤ 0 then cstep m src k left else mI (cstep m src k left) 4 k ((cstep m src k left).1 4 k - cleft m src k left)
def comesM : Nat → Ms → Nat → Int32 → Nat → Int32 → Ms
  | 0, m, _, _, _, _ => m
  | n + 1, m, nr, src, k, left => if left ≤ 0 then m else if ¬ nI k = nI nr then comesM n (cnext m src k left) nr (nI k) (k + 1) (cleft m src k left) else mI (recM m src (-2) left) 0 22 ((recM m src (-2) left).1 0 22 + left)
theorem cnext_p {m : Ms} {src left : Int32} {k p j : Nat} (h0 : p ≠ 0) (h4 : p ≠ 4) (h1 : p ≠ 25) (h2 : p ≠ 26) (h3 : p ≠ 27) : (cnext m src k left).1 p j = m.1 p j := by
  have e : (cstep m src k left).1 p j = m.1 p j := by
    simp only [cstep, mI]
    rw [up2_p h4]; exact recM_p h0 h1 h2 h3
  unfold cnext; split
  · exact e
  · simp only [mI]
    rw [up2_p h4]; exact e
theorem cnext_0 {m : Ms} {src left : Int32} {k j : Nat} (h : j ≠ 24) : (cnext m src k left).1 0 j = m.1 0 j := by
  have e : (cstep m src k left).1 0 j = m.1 0 j := recM_0 h
  unfold cnext; split <;> exact e
theorem cnext_ok {m : Ms} {src left : Int32} {k z : Nat} (h : mvok m (z + 1)) : mvok (cnext m src k left) z := by
  have e : mvok (cstep m src k left) z := (recM_ok (f := src) (t := nI k) (u := left) h).eq rfl
  unfold cnext; split
  · exact e
  · exact e.eq rfl
set_option maxHeartbeats 4000000 in
set_option maxRecDepth 100000 in
theorem Mcomes_l (hG : az_okS l G) {p : Program} {e : Env} {s : State} {mm : MethodId} {args : Array Value} {below : List Frame} {meth : Method} {c : Code} (C : az_C l G p s mm args meth c cX4_comes yX4_comes.cls 7 (Option.none : Option FieldType) []) : ∀ (nr : Nat) (h6 : nr ≤ 6) (n : Nat) (m : Ms) (src : Int32) (k : Nat) (left : Int32) (hr : m.1 0 1 = nI nr) (hk : k ≤ nr) (hn : nr < n + k) (hm : mvok m (nr + 1 - k)), az_W l G 7 (az_Q G (az_r none (AD ρ) (KK G ρ x (comesM n m nr src k left) ou)) below args s 0 0) p e (az_rm 3 0 0) s mm args below meth c (AD ρ) (KK G ρ x m ou) 0 0 9 [(6, .int (nI k)), (5, .int left), (4, .int src), (0, .ref (ρ.1 100))] [] := by
  intro nr h6 n
  induction n with
  | zero =>
    intro m src k left hr hk hn
    omega
  | succ n ih =>
    intro m src k left hr hk hn hm
    refine az_iload C 1 dX4_comes_9 rfl ?_
    refine az_if_le C 114 dX4_comes_11 (by decide) (fun c1 => ?_) (fun c1 => ?_)
    · exact az_vret C rfl dX4_comes_114 (Nat.le_of_ble_eq_true rfl) (Nat.le_of_ble_eq_true rfl) ⟨rfl, rfl, (by simp only [comesM, c1, if_true])⟩
    · refine az_iload C 0 dX4_comes_14 rfl ?_
      refine az_aload_n C 3 dX4_comes_16 rfl ?_
      refine az_get C cX4 2 0 1 (v := .int (m.1 0 1)) wl_X4_7 dX4_comes_17 rfl rfl rfl (by decide) ?_
      refine az_top (nI nr) hr ?_
      refine az_icmp_ne C 45 dX4_comes_20 (by decide) (fun c2 => ?_) (fun c2 => ?_)
      · have hkn : k < nr := by have z : k ≠ nr := fun z => c2 (by rw [z]); omega
        refine az_aload_n C 3 dX4_comes_45 rfl ?_
        refine az_iload C 2 dX4_comes_46 rfl ?_
        refine az_iload C 0 dX4_comes_48 rfl ?_
        refine az_iload C 1 dX4_comes_50 rfl ?_
        refine az_callV C Y_X4_records cX4 2 0 [.int src, .int (nI k), .int left] [] wm_X4_111 wi_X4_records wse_X4_records dX4_comes_52 rfl rfl rfl (Mrecords hG (src) (nI k) (left) (hm.le (by omega))) rfl (Nat.le_of_ble_eq_true rfl) (Nat.le_of_ble_eq_true rfl) (Nat.le_of_ble_eq_true rfl) (Nat.le_of_ble_eq_true rfl) (Nat.le_of_ble_eq_true rfl) (az_k1 rfl rfl ?_) (az_k0 rfl)
        refine az_aload_n C 3 dX4_comes_55 rfl ?_
        refine az_get C cX4 2 0 4 (v := .ref (ρ.1 104)) wl_X4_17 dX4_comes_56 rfl rfl rfl (by decide) ?_
        refine az_iload C 0 dX4_comes_59 rfl ?_
        refine az_dup2 C dX4_comes_61 rfl rfl ?_
        refine az_ialdN C 2 4 k (v := (recM m src (nI k) left).1 4 k) dX4_comes_62 rfl rfl (by omega) (by decide) rfl ?_
        refine az_iload C 1 dX4_comes_63 rfl ?_
        refine az_iadd C dX4_comes_65 ?_
        refine az_iastN C 2 4 k dX4_comes_66 rfl rfl (by omega) (by decide) (az_to rfl (K' := (KK G ρ x (mI (recM m src (nI k) left) 4 k (((recM m src (nI k) left).1 4 k + left))) ou)) (KK_M rfl) ?_)
        refine az_iload C 0 dX4_comes_67 rfl ?_
        refine az_istore C (lv' := [(4, .int (nI k)), (6, .int (nI k)), (5, .int left), (0, .ref (ρ.1 100))]) dX4_comes_69 (by decide) rfl ?_
        refine az_aload_n C 3 dX4_comes_71 rfl ?_
        refine az_get C cX4 2 0 4 (v := .ref (ρ.1 104)) wl_X4_17 dX4_comes_72 rfl rfl rfl (by decide) ?_
        refine az_iload C 1 dX4_comes_75 rfl ?_
        refine az_ialdN C 2 4 k (v := ((mI (recM m src (nI k) left) 4 k (((recM m src (nI k) left).1 4 k + left)))).1 4 k) dX4_comes_77 rfl rfl (by omega) (by decide) rfl ?_
        refine az_bipush C (v := 60) dX4_comes_78 (by decide) ?_
        refine az_aload_n C 3 dX4_comes_80 rfl ?_
        refine az_get C cX4 2 0 3 (v := .ref (ρ.1 103)) wl_X4_13 dX4_comes_81 rfl rfl rfl (by decide) ?_
        refine az_iload C 1 dX4_comes_84 rfl ?_
        refine az_ialdN C 2 3 k (v := (recM m src (nI k) left).1 3 k) dX4_comes_86 rfl rfl (by omega) (by decide) rfl ?_
        refine az_imul C dX4_comes_87 ?_
        refine az_isub C dX4_comes_88 ?_
        refine az_istore C (lv' := [(5, .int ((((mI (recM m src (nI k) left) 4 k (((recM m src (nI k) left).1 4 k + left)))).1 4 k - (60 * (recM m src (nI k) left).1 3 k)))), (4, .int (nI k)), (6, .int (nI k)), (0, .ref (ρ.1 100))]) dX4_comes_89 (by decide) rfl ?_
        refine az_iload C 0 dX4_comes_91 rfl ?_
        suffices J3 : az_W l G 7 _ p e _ s mm args below meth c (AD ρ) (KK G ρ x (if (((mI (recM m src (nI k) left) 4 k (((recM m src (nI k) left).1 4 k + left)))).1 4 k - (60 * (recM m src (nI k) left).1 3 k)) ≤ 0 then (mI (recM m src (nI k) left) 4 k (((recM m src (nI k) left).1 4 k + left))) else (mI (mI (recM m src (nI k) left) 4 k (((recM m src (nI k) left).1 4 k + left))) 4 k ((((mI (recM m src (nI k) left) 4 k (((recM m src (nI k) left).1 4 k + left)))).1 4 k - (((mI (recM m src (nI k) left) 4 k (((recM m src (nI k) left).1 4 k + left)))).1 4 k - (60 * (recM m src (nI k) left).1 3 k)))))) ou) _ _ 108 [(5, .int ((((mI (recM m src (nI k) left) 4 k (((recM m src (nI k) left).1 4 k + left)))).1 4 k - (60 * (recM m src (nI k) left).1 3 k)))), (4, .int (nI k)), (6, .int (nI k)), (0, .ref (ρ.1 100))] [] by
          refine az_if_le C 108 dX4_comes_93 (by decide) (fun c4 => ?_) (fun c4 => ?_)
          · first | rw [if_pos (show (((mI (recM m src (nI k) left) 4 k (((recM m src (nI k) left).1 4 k + left)))).1 4 k - (60 * (recM m src (nI k) left).1 3 k)) ≤ 0 from c4)] at J3 ⊢ | rw [if_pos (show (((mI (recM m src (nI k) left) 4 k (((recM m src (nI k) left).1 4 k + left)))).1 4 k - (60 * (recM m src (nI k) left).1 3 k)) ≤ 0 from c4)] at J3
            exact az_lv [0, 1, 2, 3] rfl J3
          · refine az_aload_n C 3 dX4_comes_96 rfl ?_
            refine az_get C cX4 2 0 4 (v := .ref (ρ.1 104)) wl_X4_17 dX4_comes_97 rfl rfl rfl (by decide) ?_
            refine az_iload C 2 dX4_comes_100 rfl ?_
            refine az_dup2 C dX4_comes_102 rfl rfl ?_
            refine az_ialdN C 2 4 k (v := ((mI (recM m src (nI k) left) 4 k (((recM m src (nI k) left).1 4 k + left)))).1 4 k) dX4_comes_103 rfl rfl (by omega) (by decide) rfl ?_
            refine az_iload C 0 dX4_comes_104 rfl ?_
            refine az_isub C dX4_comes_106 ?_
            refine az_iastN C 2 4 k dX4_comes_107 rfl rfl (by omega) (by decide) (az_to rfl (K' := (KK G ρ x (mI (mI (recM m src (nI k) left) 4 k (((recM m src (nI k) left).1 4 k + left))) 4 k ((((mI (recM m src (nI k) left) 4 k (((recM m src (nI k) left).1 4 k + left)))).1 4 k - (((mI (recM m src (nI k) left) 4 k (((recM m src (nI k) left).1 4 k + left)))).1 4 k - (60 * (recM m src (nI k) left).1 3 k))))) ou)) (KK_M rfl) ?_)
            first | rw [if_neg (show ¬ ((((mI (recM m src (nI k) left) 4 k (((recM m src (nI k) left).1 4 k + left)))).1 4 k - (60 * (recM m src (nI k) left).1 3 k)) ≤ 0) from c4)] at J3 ⊢ | rw [if_neg (show ¬ ((((mI (recM m src (nI k) left) 4 k (((recM m src (nI k) left).1 4 k + left)))).1 4 k - (60 * (recM m src (nI k) left).1 3 k)) ≤ 0) from c4)] at J3
            exact az_lv [0, 1, 2, 3] rfl J3
        refine az_iinc C 2 (v := nI (k + 1)) (lv' := [(6, .int (nI (k + 1))), (5, .int ((((mI (recM m src (nI k) left) 4 k (((recM m src (nI k) left).1 4 k + left)))).1 4 k - (60 * (recM m src (nI k) left).1 3 k)))), (4, .int (nI k)), (0, .ref (ρ.1 100))]) dX4_comes_108 rfl (nI_1 k) (by decide) rfl ?_
        refine az_goto C 9 dX4_comes_111 (by decide) ?_
        rw [show comesM (n + 1) m nr src k left = comesM n (cnext m src k left) nr (nI k) (k + 1) (cleft m src k left) from by simp only [comesM, c1, c2, if_true, if_false, not_true_eq_false, not_false_eq_true]]
        exact ih (cnext m src k left) (nI k) (k + 1) (cleft m src k left) ((cnext_0 (by decide)).trans hr) (by omega) (by omega) (cnext_ok (hm.le (by omega)))
      · refine az_aload_n C 3 dX4_comes_23 rfl ?_
        refine az_iload C 2 dX4_comes_24 rfl ?_
        refine az_bipush C (v := (-2)) dX4_comes_26 (by decide) ?_
        refine az_iload C 1 dX4_comes_28 rfl ?_
        refine az_callV C Y_X4_records cX4 2 0 [.int src, .int ((-2)), .int left] [] wm_X4_111 wi_X4_records wse_X4_records dX4_comes_30 rfl rfl rfl (Mrecords hG (src) ((-2)) (left) (hm.le (by omega))) rfl (Nat.le_of_ble_eq_true rfl) (Nat.le_of_ble_eq_true rfl) (Nat.le_of_ble_eq_true rfl) (Nat.le_of_ble_eq_true rfl) (Nat.le_of_ble_eq_true rfl) (az_k1 rfl rfl ?_) (az_k0 rfl)
        refine az_aload_n C 3 dX4_comes_33 rfl ?_
        refine az_dup C dX4_comes_34 rfl ?_
        refine az_get C cX4 2 0 22 (v := .int ((recM m src ((-2)) left).1 0 22)) wl_X4_115 dX4_comes_35 rfl rfl rfl (by decide) ?_
        refine az_iload C 1 dX4_comes_38 rfl ?_
        refine az_iadd C dX4_comes_40 ?_
        refine az_put C cX4 2 0 22 wl_X4_115 dX4_comes_41 rfl rfl (by decide) (Nat.le_of_ble_eq_true rfl) rfl rfl rfl (az_to rfl (K' := (KK G ρ x (mI (recM m src ((-2)) left) 0 22 (((recM m src ((-2)) left).1 0 22 + left))) ou)) (KK_M rfl) ?_)
        exact az_vret C rfl dX4_comes_44 (Nat.le_of_ble_eq_true rfl) (Nat.le_of_ble_eq_true rfl) ⟨rfl, rfl, (by simp only [comesM, c1, c2, if_true, if_false, not_true_eq_false, not_false_eq_true])⟩

end
