section
variable {l : Launch} {G : az_G} {ρ : Rp} {x : Xs} {m : Mz} {ou : Nat → Int64}
def Xew2Fx (m : Mz) (x : Xs) (a : Int32) (k : Nat) : Xs := (xI (xI x 11 k (cpX (x.1 11 k) (x.1 12 k) (x.1 4 (k + 3) / x.1 2 k))) 12 k (x.1 4 (k + 3) / x.1 2 k))
def Xew2Fa (m : Mz) (x : Xs) (a : Int32) (k : Nat) : Int32 := (if ((xI x 11 k (cpX (x.1 11 k) (x.1 12 k) (x.1 4 (k + 3) / x.1 2 k)))).1 11 k ≤ x.1 11 k then a else (a + 1))
def Xew2F : Nat → Mz → Xs → Int32 → Nat → Xs × Int32
  | 0, m, x, a, _ => (x, a)
  | n + 1, m, x, a, k => Xew2F n m (Xew2Fx m x a k) (Xew2Fa m x a k) (k + 1)
set_option maxHeartbeats 4000000 in
set_option maxRecDepth 100000 in
theorem Xew2 (hG : az_okS l G) {p : Program} {e : Env} {s : State} {mm : MethodId} {args : Array Value} {below : List Frame} {meth : Method} {c : Code} (C : az_C l G p s mm args meth c cX3_endWeek yX3_endWeek.cls 5 (Option.some FieldType.int) []) {Qx : State → Prop} {k9 n9 mc ms : Nat} (hk9 : k9 ≤ mc) (hn9 : n9 ≤ ms) (nr : Nat) (hn : nr ≤ 6) : ∀ (n : Nat) (m : Mz) (x : Xs) (a : Int32) (k : Nat) (hk : k + n = nr) (hr : x.1 1 8 = nI nr) (ha : ∀ k, k < nr → ¬ x.1 2 k < 1), az_W l G 5 Qx p e (az_rm 6 mc ms) s mm args below meth c (AD ρ) (KK G ρ (Xew2F n m x a k).1 m ou) k9 n9 126 [(2, .int (nI nr)), (1, .int ((Xew2F n m x a k).2)), (0, .ref (ρ.1 0))] [] → az_W l G 5 Qx p e (az_rm 6 mc ms) s mm args below meth c (AD ρ) (KK G ρ x m ou) k9 n9 53 [(2, .int (nI k)), (1, .int a), (0, .ref (ρ.1 0))] [] := by
  intro n
  induction n with
  | zero =>
    intro m x a k hk hr ha hx
    have hkk : k = nr := by omega
    rw [hkk]
    refine az_iload_n C 0 dX3_endWeek_53 rfl ?_
    refine az_aload_n C 2 dX3_endWeek_54 rfl ?_
    refine az_get C cX3 0 0 0 (v := .ref (ρ.1 1)) wl_X3_12 dX3_endWeek_55 rfl rfl rfl (by decide) ?_
    refine az_getN C cX2 0 1 8 (v := .int (x.1 1 8)) (az_bw C hG nx_X3_67 rfl) dX3_endWeek_58 rfl rfl rfl (by decide) ?_
    refine az_top (nI nr) hr ?_
    refine az_icmp_ge C 126 dX3_endWeek_61 (by decide) (fun _ => ?_) (fun q => absurd (Int32.le_refl _) q)
    exact az_lv [0, 1, 2] rfl hx
  | succ n ih =>
    intro m x a k hk hr ha hx
    refine az_iload_n C 0 dX3_endWeek_53 rfl ?_
    refine az_aload_n C 2 dX3_endWeek_54 rfl ?_
    refine az_get C cX3 0 0 0 (v := .ref (ρ.1 1)) wl_X3_12 dX3_endWeek_55 rfl rfl rfl (by decide) ?_
    refine az_getN C cX2 0 1 8 (v := .int (x.1 1 8)) (az_bw C hG nx_X3_67 rfl) dX3_endWeek_58 rfl rfl rfl (by decide) ?_
    refine az_top (nI nr) hr ?_
    refine az_icmp_ge C 126 dX3_endWeek_61 (by decide) (fun q => absurd q (nlt_nle (show k < nr by omega) (by omega))) (fun _ => ?_)
    refine az_aload_n C 2 dX3_endWeek_64 rfl ?_
    refine az_get C cX3 0 0 3 (v := .ref (ρ.1 11)) wl_X3_23 dX3_endWeek_65 rfl rfl rfl (by decide) ?_
    refine az_iload_n C 0 dX3_endWeek_68 rfl ?_
    refine az_ialdN C 0 11 k (v := x.1 11 k) dX3_endWeek_69 rfl rfl (by omega) (by decide) rfl ?_
    refine az_istore_n C (lv' := [(3, .int (x.1 11 k)), (2, .int (nI k)), (1, .int a), (0, .ref (ρ.1 0))]) (j := 3) rfl dX3_endWeek_70 (by decide) rfl ?_
    refine az_aload_n C 3 dX3_endWeek_71 rfl ?_
    refine az_get C cX3 0 0 0 (v := .ref (ρ.1 1)) wl_X3_12 dX3_endWeek_72 rfl rfl rfl (by decide) ?_
    refine az_iload_n C 1 dX3_endWeek_75 rfl ?_
    refine az_callV C Y_X2_level cX2 0 1 [.int (nI k)] [] wm_X3_98 wi_X2_level wse_X2_level dX3_endWeek_76 rfl rfl rfl (klevel hG k (by omega) (ha k (by omega))) rfl (Nat.le_of_ble_eq_true rfl) (Nat.le_of_ble_eq_true rfl) (Nat.le_of_ble_eq_true rfl) (Nat.le_trans (Nat.le_of_eq (Nat.add_zero _)) hk9) (Nat.le_trans (Nat.le_of_eq (Nat.add_zero _)) hn9) (az_k1 rfl rfl ?_) (az_k0 rfl)
    refine az_istore C (lv' := [(4, .int (x.1 4 (k + 3) / x.1 2 k)), (3, .int (x.1 11 k)), (2, .int (nI k)), (1, .int a), (0, .ref (ρ.1 0))]) dX3_endWeek_79 (by decide) rfl ?_
    refine az_aload_n C 4 dX3_endWeek_81 rfl ?_
    refine az_get C cX3 0 0 3 (v := .ref (ρ.1 11)) wl_X3_23 dX3_endWeek_82 rfl rfl rfl (by decide) ?_
    refine az_iload_n C 2 dX3_endWeek_85 rfl ?_
    refine az_iload_n C 1 dX3_endWeek_86 rfl ?_
    refine az_aload_n C 4 dX3_endWeek_87 rfl ?_
    refine az_get C cX3 0 0 4 (v := .ref (ρ.1 12)) wl_X3_26 dX3_endWeek_88 rfl rfl rfl (by decide) ?_
    refine az_iload_n C 2 dX3_endWeek_91 rfl ?_
    refine az_ialdN C 0 12 k (v := x.1 12 k) dX3_endWeek_92 rfl rfl (by omega) (by decide) rfl ?_
    refine az_iload C 0 dX3_endWeek_93 rfl ?_
    refine az_callS C Y_X3_changedPrice [.int (x.1 11 k), .int (x.1 12 k), .int (x.1 4 (k + 3) / x.1 2 k)] [.int (nI k), .ref (ρ.1 11)] wm_X3_136 wst_X3_changedPrice dX3_endWeek_95 rfl (XcP hG (x.1 11 k) (x.1 12 k) (x.1 4 (k + 3) / x.1 2 k)) rfl (Nat.le_of_ble_eq_true rfl) (Nat.le_of_ble_eq_true rfl) (Nat.le_of_ble_eq_true rfl) (Nat.le_trans (Nat.le_of_eq (Nat.add_zero _)) hk9) (Nat.le_trans (Nat.le_of_eq (Nat.add_zero _)) hn9) (az_k1 rfl rfl ?_) (az_k0 rfl)
    refine az_iastN C 0 11 k dX3_endWeek_98 rfl rfl (by omega) (by decide) (az_to rfl (K' := (KK G ρ (xI x 11 k (cpX (x.1 11 k) (x.1 12 k) (x.1 4 (k + 3) / x.1 2 k))) m ou)) (KK_X rfl) ?_)
    refine az_aload_n C 4 dX3_endWeek_99 rfl ?_
    refine az_get C cX3 0 0 4 (v := .ref (ρ.1 12)) wl_X3_26 dX3_endWeek_100 rfl rfl rfl (by decide) ?_
    refine az_iload_n C 2 dX3_endWeek_103 rfl ?_
    refine az_iload C 0 dX3_endWeek_104 rfl ?_
    refine az_iastN C 0 12 k dX3_endWeek_106 rfl rfl (by omega) (by decide) (az_to rfl (K' := (KK G ρ (xI (xI x 11 k (cpX (x.1 11 k) (x.1 12 k) (x.1 4 (k + 3) / x.1 2 k))) 12 k (x.1 4 (k + 3) / x.1 2 k)) m ou)) (KK_X rfl) ?_)
    refine az_aload_n C 4 dX3_endWeek_107 rfl ?_
    refine az_get C cX3 0 0 3 (v := .ref (ρ.1 11)) wl_X3_23 dX3_endWeek_108 rfl rfl rfl (by decide) ?_
    refine az_iload_n C 2 dX3_endWeek_111 rfl ?_
    refine az_ialdN C 0 11 k (v := ((xI x 11 k (cpX (x.1 11 k) (x.1 12 k) (x.1 4 (k + 3) / x.1 2 k)))).1 11 k) dX3_endWeek_112 rfl rfl (by omega) (by decide) rfl ?_
    refine az_iload_n C 1 dX3_endWeek_113 rfl ?_
    suffices J1 : az_W l G 5 _ p e _ s mm args below meth c (AD ρ) (KK G ρ (xI (xI x 11 k (cpX (x.1 11 k) (x.1 12 k) (x.1 4 (k + 3) / x.1 2 k))) 12 k (x.1 4 (k + 3) / x.1 2 k)) m ou) _ _ 120 [(4, .int (x.1 4 (k + 3) / x.1 2 k)), (3, .int (x.1 11 k)), (2, .int (nI k)), (1, .int ((if ((xI x 11 k (cpX (x.1 11 k) (x.1 12 k) (x.1 4 (k + 3) / x.1 2 k)))).1 11 k ≤ x.1 11 k then a else (a + 1)))), (0, .ref (ρ.1 0))] [] by
      refine az_icmp_le C 120 dX3_endWeek_114 (by decide) (fun c2 => ?_) (fun c2 => ?_)
      · first | rw [if_pos (show ((xI x 11 k (cpX (x.1 11 k) (x.1 12 k) (x.1 4 (k + 3) / x.1 2 k)))).1 11 k ≤ x.1 11 k from c2)] at J1 ⊢ | rw [if_pos (show ((xI x 11 k (cpX (x.1 11 k) (x.1 12 k) (x.1 4 (k + 3) / x.1 2 k)))).1 11 k ≤ x.1 11 k from c2)] at J1
        exact az_lv [0, 1, 2, 3, 4] rfl J1
      · refine az_iinc C 3 (v := (a + 1)) (lv' := [(1, .int ((a + 1))), (4, .int (x.1 4 (k + 3) / x.1 2 k)), (3, .int (x.1 11 k)), (2, .int (nI k)), (0, .ref (ρ.1 0))]) dX3_endWeek_117 rfl rfl (by decide) rfl ?_
        first | rw [if_neg (show ¬ (((xI x 11 k (cpX (x.1 11 k) (x.1 12 k) (x.1 4 (k + 3) / x.1 2 k)))).1 11 k ≤ x.1 11 k) from c2)] at J1 ⊢ | rw [if_neg (show ¬ (((xI x 11 k (cpX (x.1 11 k) (x.1 12 k) (x.1 4 (k + 3) / x.1 2 k)))).1 11 k ≤ x.1 11 k) from c2)] at J1
        exact az_lv [1, 2, 3, 0, 4] rfl J1
    refine az_iinc C 2 (v := nI (k + 1)) (lv' := [(2, .int (nI (k + 1))), (4, .int (x.1 4 (k + 3) / x.1 2 k)), (3, .int (x.1 11 k)), (1, .int ((if ((xI x 11 k (cpX (x.1 11 k) (x.1 12 k) (x.1 4 (k + 3) / x.1 2 k)))).1 11 k ≤ x.1 11 k then a else (a + 1)))), (0, .ref (ρ.1 0))]) dX3_endWeek_120 rfl (nI_1 k) (by decide) rfl ?_
    refine az_goto C 53 dX3_endWeek_123 (by decide) ?_
    exact az_lv [0, 3, 4] rfl (ih m (Xew2Fx m x a k) (Xew2Fa m x a k) (k + 1) (by omega) hr (fun j hj => ha j hj) hx)

theorem ewS_p {p j : Nat} (h4 : p ≠ 4) (h8 : p ≠ 8) (h0 : p ≠ 20) (h1 : p ≠ 21) (h2 : p ≠ 22) : ∀ (f : Nat) (x : Xs) (n k : Nat), (ewS f x n k).1.1 p j = x.1 p j
  | 0, _, _, _ => rfl
  | f + 1, x, n, k => by
    rw [ewS, ewS_p h4 h8 h0 h1 h2 f]
    exact sendO_1 h4 h8 h0 h1 h2
def ewX (x : Xs) (m : Mz) (n nr : Nat) : Xs × Int32 := Xew2F nr m (ewS nr x n 0).1 0 0
def endWeekX (x : Xs) (m : Mz) (n nr : Nat) : Xs := xI (ewX x m n nr).1 0 8 ((ewX x m n nr).1.1 0 8 + 1)
set_option maxHeartbeats 4000000 in
set_option maxRecDepth 100000 in
theorem XendWeek (hG : az_okS l G) (nr : Nat) (hr : x.1 1 8 = nI nr) (hn : nr ≤ 6) (ha : ∀ k, k < nr → ¬ x.1 2 k < 1) (n : Nat) (hv : MvX ρ x n nr) : az_M l G yX3_endWeek (az_ws yX3_endWeek cX3_endWeek 5 (Option.some FieldType.int)) 6 [.ref (ρ.1 0)] (AD ρ) (KK G ρ x m ou) (capT ρ.2.2.2.1 (ewS nr x n 0).2 - ρ.2.2.2.1) (6 * (capT ρ.2.2.2.1 (ewS nr x n 0).2 - ρ.2.2.2.1)) (az_g G (some (.int (ewX x m n nr).2)) ρ (capT ρ.2.2.2.1 (ewS nr x n 0).2) (endWeekX x m n nr) m ou) := by
  refine az_start hG.1 (by decide +kernel) (Nat.le_of_ble_eq_true rfl) ?_
  intro p e s mm args below meth c C hnm
  show az_W l G 5 _ p e _ s mm args below meth c _ _ 0 0 0 [(0, .ref (ρ.1 0))] []
  refine az_iconst C (v := 0) dX3_endWeek_0 (by decide) ?_
  refine az_istore_n C (lv' := [(1, .int 0), (0, .ref (ρ.1 0))]) (j := 1) rfl dX3_endWeek_1 (by decide) rfl ?_
  refine az_lv [0, 1] rfl (Xew1 hG C nr hn nr 0 0 n 0 (by omega) hr hv (Nat.le_of_eq (Nat.zero_add _)) (Nat.le_of_eq (Nat.zero_add _)) (fun a9 ha9 => ?_))
  refine az_iconst C (v := 0) dX3_endWeek_49 (by decide) ?_
  refine az_istore_n C (lv' := [(1, .int 0), (0, .ref (ρ.1 0))]) (j := 1) rfl dX3_endWeek_50 (by decide) rfl ?_
  refine az_iconst C (v := 0) dX3_endWeek_51 (by decide) ?_
  refine az_istore_n C (lv' := [(2, .int 0), (1, .int 0), (0, .ref (ρ.1 0))]) (j := 2) rfl dX3_endWeek_52 (by decide) rfl ?_
  refine az_lv [0, 1, 2] rfl (Xew2 (ρ := (gR ρ a9 (capT ρ.2.2.2.1 (ewS nr x n 0).2))) hG C (Nat.le_of_eq (Nat.zero_add _)) (Nat.le_of_eq (Nat.zero_add _)) nr hn nr m (ewS nr x n 0).1 0 0 (by omega) ((ewS_p (by decide) (by decide) (by decide) (by decide) (by decide) nr x n 0).trans hr) (fun j hj z => ha j hj (lt1e (ewS_p (by decide) (by decide) (by decide) (by decide) (by decide) nr x n 0) z)) ?_)
  refine az_aload_n C 2 dX3_endWeek_126 rfl ?_
  refine az_dup C dX3_endWeek_127 rfl ?_
  refine az_get C cX3 0 0 8 (v := .int ((ewX x m n nr).1.1 0 8)) wl_X3_140 dX3_endWeek_128 rfl rfl rfl (by decide) ?_
  refine az_iconst C (v := 1) dX3_endWeek_131 (by decide) ?_
  refine az_iadd C dX3_endWeek_132 ?_
  refine az_put C cX3 0 0 8 wl_X3_140 dX3_endWeek_133 rfl rfl (by decide) (Nat.le_of_ble_eq_true rfl) rfl rfl rfl (az_to rfl (K' := (KK G (gR ρ a9 (capT ρ.2.2.2.1 (ewS nr x n 0).2)) (xI (ewX x m n nr).1 0 8 (((ewX x m n nr).1.1 0 8 + 1))) m ou)) (KK_X rfl) ?_)
  refine az_iload_n C 1 dX3_endWeek_136 rfl ?_
  exact az_iret C rfl dX3_endWeek_137 (Nat.le_of_eq (Nat.zero_add _)) (Nat.le_of_eq (Nat.zero_add _)) ⟨a9, ha9, rfl, rfl, rfl⟩

end
