section
variable {l : Launch} {G : az_G} {ρ : Rp} {x : Xs} {m : Mz} {ou : Nat → Int64}
theorem Kt_conv {F : Rp → Nat → Nat → Prop} {a9 : Nat → Nat} {N1 N2 k9 n9 : Nat} (ha : a9 23 = ρ.2.1 23) (h1 : N1 ≤ N2) (h2 : N2 ≤ 2 * ρ.2.2.2.1) (h : ∀ a8 : Nat → Nat, a8 23 = ρ.2.1 23 → F (gR ρ a8 (capT ρ.2.2.2.1 N2)) (k9 + (capT ρ.2.2.2.1 N2 - ρ.2.2.2.1)) (n9 + 6 * (capT ρ.2.2.2.1 N2 - ρ.2.2.2.1))) : ∀ a8 : Nat → Nat, a8 23 = a9 23 → F (gR ρ a8 (capT (capT ρ.2.2.2.1 N1) N2)) (k9 + (capT ρ.2.2.2.1 N1 - ρ.2.2.2.1) + (capT (capT ρ.2.2.2.1 N1) N2 - capT ρ.2.2.2.1 N1)) (n9 + 6 * (capT ρ.2.2.2.1 N1 - ρ.2.2.2.1) + 6 * (capT (capT ρ.2.2.2.1 N1) N2 - capT ρ.2.2.2.1 N1)) := by
  intro a8 h8
  have h9 := h a8 (h8.trans ha)
  have c0 : ρ.2.2.2.1 ≤ capT ρ.2.2.2.1 N1 := capT_ge
  have c1 : capT ρ.2.2.2.1 N1 ≤ capT ρ.2.2.2.1 N2 := capT_le h1
  rw [capT_c h1 h2, show k9 + (capT ρ.2.2.2.1 N1 - ρ.2.2.2.1) + (capT ρ.2.2.2.1 N2 - capT ρ.2.2.2.1 N1) = k9 + (capT ρ.2.2.2.1 N2 - ρ.2.2.2.1) from by omega, show n9 + 6 * (capT ρ.2.2.2.1 N1 - ρ.2.2.2.1) + 6 * (capT ρ.2.2.2.1 N2 - capT ρ.2.2.2.1 N1) = n9 + 6 * (capT ρ.2.2.2.1 N2 - ρ.2.2.2.1) from by omega]
  exact h9
theorem Kt_0 {F : Rp → Nat → Nat → Prop} {N k9 n9 : Nat} (hn : N ≤ ρ.2.2.2.1) (h : ∀ a8 : Nat → Nat, a8 23 = ρ.2.1 23 → F (gR ρ a8 (capT ρ.2.2.2.1 N)) (k9 + (capT ρ.2.2.2.1 N - ρ.2.2.2.1)) (n9 + 6 * (capT ρ.2.2.2.1 N - ρ.2.2.2.1))) : F ρ k9 n9 := by
  have h9 := h ρ.2.1 rfl
  rw [capT_self hn, Nat.sub_self] at h9
  exact h9
/-- what a passage does before it fills, what it fills, what it empties at the end -/
def tpA (x : Xs) (n nr lk : Nat) (dn : Bool) : Xs × Nat := if dn = false ∧ ¬ x.1 4 (lk + 13) ≤ 0 then emptyX x n nr lk else (x, n)
def tpB (x : Xs) (n lk : Nat) : Xs × Nat := if x.1 4 (lk + 13) ≤ 0 then fillX x n lk else (x, n)
def tpC (x : Xs) (n nr lk : Nat) (dn : Bool) : Xs × Nat := if dn = true then emptyX x n nr lk else (x, n)
set_option maxHeartbeats 2000000 in
set_option maxRecDepth 100000 in
theorem XtpA0 (hG : az_okS l G) {p : Program} {e : Env} {s : State} {mm : MethodId} {args : Array Value} {below : List Frame} {meth : Method} {c : Code} (C : az_C l G p s mm args meth c cX3_tryPassage yX3_tryPassage.cls 9 (Option.some FieldType.int) []) {Qx : State → Prop} {mc ms k9 n9 : Nat} (nr lk : Nat) (hn6 : nr ≤ 6) (hk : lk + 2 ≤ nr) (hr : x.1 1 8 = nI nr) (n : Nat) (hv : MvX ρ x n (nr + 1)) (dr L : Int32) (b ro ri a1 : Nat)  (hcl : k9 + (capT ρ.2.2.2.1 (tpA x n nr lk false).2 - ρ.2.2.2.1) ≤ mc) (hsl : n9 + 6 * (capT ρ.2.2.2.1 (tpA x n nr lk false).2 - ρ.2.2.2.1) ≤ ms) (hx : ∀ a9 : Nat → Nat, a9 23 = ρ.2.1 23 → az_W l G 9 Qx p e (az_rm 6 mc ms) s mm args below meth c (AD (gR ρ a9 (capT ρ.2.2.2.1 (tpA x n nr lk false).2))) (KK G (gR ρ a9 (capT ρ.2.2.2.1 (tpA x n nr lk false).2)) (tpA x n nr lk false).1 m ou) (k9 + (capT ρ.2.2.2.1 (tpA x n nr lk false).2 - ρ.2.2.2.1)) (n9 + 6 * (capT ρ.2.2.2.1 (tpA x n nr lk false).2 - ρ.2.2.2.1)) 122 [(8, .int dr), (7, .ref (ρ.2.2.1 b)), (6, .int (nI ro)), (5, .int (nI ri)), (4, .int L), (3, .int 0), (2, .int (nI lk)), (1, .ref a1), (0, .ref (ρ.1 0))] []) : az_W l G 9 Qx p e (az_rm 6 mc ms) s mm args below meth c (AD ρ) (KK G ρ x m ou) k9 n9 99 [(8, .int dr), (7, .ref (ρ.2.2.1 b)), (6, .int (nI ro)), (5, .int (nI ri)), (4, .int L), (3, .int 0), (2, .int (nI lk)), (1, .ref a1), (0, .ref (ρ.1 0))] [] := by
  by_cases hf : x.1 4 (lk + 13) ≤ 0
  · have hE : tpA x n nr lk false = (x, n) := if_neg (fun z => z.2 hf)
    rw [hE] at hcl hsl hx
    have c0 := capT_self hv.2.2.1
    refine az_iload_n C 5 dX3_tryPassage_99 rfl ?_
    refine az_if_ne C 122 dX3_tryPassage_100 (by decide) (fun q => absurd (by decide) q) (fun _ => ?_)
    refine az_aload_n C 8 dX3_tryPassage_103 rfl ?_
    refine az_get C cX3 0 0 0 (v := .ref (ρ.1 1)) wl_X3_12 dX3_tryPassage_104 rfl rfl rfl (by decide) ?_
    refine az_iload_n C 6 dX3_tryPassage_107 rfl ?_
    refine az_callV C Y_X2_hasFullChamber cX2 0 1 [.int (nI lk)] [] wm_X3_104 wi_X2_hasFullChamber wse_X2_hasFullChamber dX3_tryPassage_108 rfl rfl rfl (kfull hG lk (by omega)) rfl (Nat.le_of_ble_eq_true rfl) (Nat.le_of_ble_eq_true rfl) (Nat.le_of_ble_eq_true rfl) (by show k9 + 0 ≤ mc; omega) (by show n9 + 0 ≤ ms; omega) (az_k1 rfl rfl ?_) (az_k0 rfl)
    refine az_top (0) (if_pos hf) ?_
    refine az_if_eq C 122 dX3_tryPassage_111 (by decide) (fun _ => ?_) (fun q => absurd (by decide) q)
    exact az_lv [0, 1, 2, 3, 4, 5, 6, 7, 8] rfl (Kt_0 (F := fun ρ9 k8 n8 => az_W l G 9 Qx p e (az_rm 6 mc ms) s mm args below meth c (AD ρ9) (KK G ρ9 x m ou) k8 n8 122 [(8, .int dr), (7, .ref (ρ.2.2.1 b)), (6, .int (nI ro)), (5, .int (nI ri)), (4, .int L), (3, .int 0), (2, .int (nI lk)), (1, .ref a1), (0, .ref (ρ.1 0))] []) hv.2.2.1 hx)
  · have hE : tpA x n nr lk false = emptyX x n nr lk := if_pos ⟨rfl, hf⟩
    rw [hE] at hcl hsl hx
    refine az_iload_n C 5 dX3_tryPassage_99 rfl ?_
    refine az_if_ne C 122 dX3_tryPassage_100 (by decide) (fun q => absurd (by decide) q) (fun _ => ?_)
    refine az_aload_n C 8 dX3_tryPassage_103 rfl ?_
    refine az_get C cX3 0 0 0 (v := .ref (ρ.1 1)) wl_X3_12 dX3_tryPassage_104 rfl rfl rfl (by decide) ?_
    refine az_iload_n C 6 dX3_tryPassage_107 rfl ?_
    refine az_callV C Y_X2_hasFullChamber cX2 0 1 [.int (nI lk)] [] wm_X3_104 wi_X2_hasFullChamber wse_X2_hasFullChamber dX3_tryPassage_108 rfl rfl rfl (kfull hG lk (by omega)) rfl (Nat.le_of_ble_eq_true rfl) (Nat.le_of_ble_eq_true rfl) (Nat.le_of_ble_eq_true rfl) (by show k9 + 0 ≤ mc; omega) (by show n9 + 0 ≤ ms; omega) (az_k1 rfl rfl ?_) (az_k0 rfl)
    refine az_top (1) (if_neg hf) ?_
    refine az_if_eq C 122 dX3_tryPassage_111 (by decide) (fun q => absurd q (by decide)) (fun _ => ?_)
    refine az_aload_n C 8 dX3_tryPassage_114 rfl ?_
    refine az_get C cX3 0 0 0 (v := .ref (ρ.1 1)) wl_X3_12 dX3_tryPassage_115 rfl rfl rfl (by decide) ?_
    refine az_iload_n C 6 dX3_tryPassage_118 rfl ?_
    refine az_callV C Y_X2_empty cX2 0 1 [.int (nI lk)] [] wm_X3_108 wi_X2_empty wse_X2_empty dX3_tryPassage_119 rfl rfl rfl (Xempty hG nr lk hn6 hk hr n hv) rfl (Nat.le_of_ble_eq_true rfl) (Nat.le_of_ble_eq_true rfl) (Nat.le_of_ble_eq_true rfl) hcl hsl ?_ (by rintro E ad9 K9 ⟨q9, -, h9, -⟩; cases h9)
    rintro v9 ad9 K9 ⟨a9, ha9, h9, rfl, rfl⟩
    cases h9
    exact az_lv [0, 1, 2, 3, 4, 5, 6, 7, 8] rfl (hx a9 ha9)
set_option maxHeartbeats 2000000 in
set_option maxRecDepth 100000 in
theorem XtpB1 (hG : az_okS l G) {p : Program} {e : Env} {s : State} {mm : MethodId} {args : Array Value} {below : List Frame} {meth : Method} {c : Code} (C : az_C l G p s mm args meth c cX3_tryPassage yX3_tryPassage.cls 9 (Option.some FieldType.int) []) {Qx : State → Prop} {mc ms k9 n9 : Nat} (nr lk : Nat) (hn6 : nr ≤ 6) (hk : lk + 2 ≤ nr) (hr : x.1 1 8 = nI nr) (n : Nat) (hv : MvX ρ x n 1) (dr L : Int32) (b ro ri a1 : Nat) (hw : x.1 4 (lk + 13) ≤ 0 → ¬ x.1 4 (lk + 3) < x.1 3 lk) (hcl : k9 + (capT ρ.2.2.2.1 (tpB x n lk).2 - ρ.2.2.2.1) ≤ mc) (hsl : n9 + 6 * (capT ρ.2.2.2.1 (tpB x n lk).2 - ρ.2.2.2.1) ≤ ms) (hx : ∀ a9 : Nat → Nat, a9 23 = ρ.2.1 23 → az_W l G 9 Qx p e (az_rm 6 mc ms) s mm args below meth c (AD (gR ρ a9 (capT ρ.2.2.2.1 (tpB x n lk).2))) (KK G (gR ρ a9 (capT ρ.2.2.2.1 (tpB x n lk).2)) (tpB x n lk).1 m ou) (k9 + (capT ρ.2.2.2.1 (tpB x n lk).2 - ρ.2.2.2.1)) (n9 + 6 * (capT ρ.2.2.2.1 (tpB x n lk).2 - ρ.2.2.2.1)) 154 [(8, .int dr), (7, .ref (ρ.2.2.1 b)), (6, .int (nI ro)), (5, .int (nI ri)), (4, .int L), (3, .int 1), (2, .int (nI lk)), (1, .ref a1), (0, .ref (ρ.1 0))] []) : az_W l G 9 Qx p e (az_rm 6 mc ms) s mm args below meth c (AD ρ) (KK G ρ x m ou) k9 n9 122 [(8, .int dr), (7, .ref (ρ.2.2.1 b)), (6, .int (nI ro)), (5, .int (nI ri)), (4, .int L), (3, .int 1), (2, .int (nI lk)), (1, .ref a1), (0, .ref (ρ.1 0))] [] := by
  by_cases hf : x.1 4 (lk + 13) ≤ 0
  · have hE : tpB x n lk = fillX x n lk := if_pos hf
    rw [hE] at hcl hsl hx
    refine az_aload_n C 8 dX3_tryPassage_122 rfl ?_
    refine az_get C cX3 0 0 0 (v := .ref (ρ.1 1)) wl_X3_12 dX3_tryPassage_123 rfl rfl rfl (by decide) ?_
    refine az_iload_n C 6 dX3_tryPassage_126 rfl ?_
    refine az_callV C Y_X2_hasFullChamber cX2 0 1 [.int (nI lk)] [] wm_X3_104 wi_X2_hasFullChamber wse_X2_hasFullChamber dX3_tryPassage_127 rfl rfl rfl (kfull hG lk (by omega)) rfl (Nat.le_of_ble_eq_true rfl) (Nat.le_of_ble_eq_true rfl) (Nat.le_of_ble_eq_true rfl) (by show k9 + 0 ≤ mc; omega) (by show n9 + 0 ≤ ms; omega) (az_k1 rfl rfl ?_) (az_k0 rfl)
    refine az_top (0) (if_pos hf) ?_
    refine az_if_ne C 154 dX3_tryPassage_130 (by decide) (fun q => absurd (by decide) q) (fun _ => ?_)
    refine az_aload_n C 8 dX3_tryPassage_133 rfl ?_
    refine az_get C cX3 0 0 0 (v := .ref (ρ.1 1)) wl_X3_12 dX3_tryPassage_134 rfl rfl rfl (by decide) ?_
    refine az_iload_n C 6 dX3_tryPassage_137 rfl ?_
    refine az_callV C Y_X2_canFill cX2 0 1 [.int (nI lk)] [] wm_X3_111 wi_X2_canFill wse_X2_canFill dX3_tryPassage_138 rfl rfl rfl (XcanFill hG lk (by omega)) rfl (Nat.le_of_ble_eq_true rfl) (Nat.le_of_ble_eq_true rfl) (Nat.le_of_ble_eq_true rfl) (by show k9 + 0 ≤ mc; omega) (by show n9 + 0 ≤ ms; omega) (az_k1 rfl rfl ?_) (az_k0 rfl)
    refine az_top (1) (if_neg (hw hf)) ?_
    refine az_if_ne C 146 dX3_tryPassage_141 (by decide) (fun _ => ?_) (fun q => absurd q (by decide))
    refine az_aload_n C 8 dX3_tryPassage_146 rfl ?_
    refine az_get C cX3 0 0 0 (v := .ref (ρ.1 1)) wl_X3_12 dX3_tryPassage_147 rfl rfl rfl (by decide) ?_
    refine az_iload_n C 6 dX3_tryPassage_150 rfl ?_
    refine az_callV C Y_X2_fill cX2 0 1 [.int (nI lk)] [] wm_X3_119 wi_X2_fill wse_X2_fill dX3_tryPassage_151 rfl rfl rfl (Xfill hG nr lk hn6 (by omega) hr n hv) rfl (Nat.le_of_ble_eq_true rfl) (Nat.le_of_ble_eq_true rfl) (Nat.le_of_ble_eq_true rfl) hcl hsl ?_ (by rintro E ad9 K9 ⟨q9, -, h9, -⟩; cases h9)
    rintro v9 ad9 K9 ⟨a9, ha9, h9, rfl, rfl⟩
    cases h9
    exact az_lv [0, 1, 2, 3, 4, 5, 6, 7, 8] rfl (hx a9 ha9)
  · have hE : tpB x n lk = (x, n) := if_neg hf
    rw [hE] at hcl hsl hx
    have c0 := capT_self hv.2.2.1
    refine az_aload_n C 8 dX3_tryPassage_122 rfl ?_
    refine az_get C cX3 0 0 0 (v := .ref (ρ.1 1)) wl_X3_12 dX3_tryPassage_123 rfl rfl rfl (by decide) ?_
    refine az_iload_n C 6 dX3_tryPassage_126 rfl ?_
    refine az_callV C Y_X2_hasFullChamber cX2 0 1 [.int (nI lk)] [] wm_X3_104 wi_X2_hasFullChamber wse_X2_hasFullChamber dX3_tryPassage_127 rfl rfl rfl (kfull hG lk (by omega)) rfl (Nat.le_of_ble_eq_true rfl) (Nat.le_of_ble_eq_true rfl) (Nat.le_of_ble_eq_true rfl) (by show k9 + 0 ≤ mc; omega) (by show n9 + 0 ≤ ms; omega) (az_k1 rfl rfl ?_) (az_k0 rfl)
    refine az_top (1) (if_neg hf) ?_
    refine az_if_ne C 154 dX3_tryPassage_130 (by decide) (fun _ => ?_) (fun q => absurd q (by decide))
    exact az_lv [0, 1, 2, 3, 4, 5, 6, 7, 8] rfl (Kt_0 (F := fun ρ9 k8 n8 => az_W l G 9 Qx p e (az_rm 6 mc ms) s mm args below meth c (AD ρ9) (KK G ρ9 x m ou) k8 n8 154 [(8, .int dr), (7, .ref (ρ.2.2.1 b)), (6, .int (nI ro)), (5, .int (nI ri)), (4, .int L), (3, .int 1), (2, .int (nI lk)), (1, .ref a1), (0, .ref (ρ.1 0))] []) hv.2.2.1 hx)
set_option maxHeartbeats 2000000 in
set_option maxRecDepth 100000 in
theorem XtpB0 (hG : az_okS l G) {p : Program} {e : Env} {s : State} {mm : MethodId} {args : Array Value} {below : List Frame} {meth : Method} {c : Code} (C : az_C l G p s mm args meth c cX3_tryPassage yX3_tryPassage.cls 9 (Option.some FieldType.int) []) {Qx : State → Prop} {mc ms k9 n9 : Nat} (nr lk : Nat) (hn6 : nr ≤ 6) (hk : lk + 2 ≤ nr) (hr : x.1 1 8 = nI nr) (n : Nat) (hv : MvX ρ x n 1) (dr L : Int32) (b ro ri a1 : Nat) (hw : x.1 4 (lk + 13) ≤ 0 → ¬ x.1 4 (lk + 3) < x.1 3 lk) (hcl : k9 + (capT ρ.2.2.2.1 (tpB x n lk).2 - ρ.2.2.2.1) ≤ mc) (hsl : n9 + 6 * (capT ρ.2.2.2.1 (tpB x n lk).2 - ρ.2.2.2.1) ≤ ms) (hx : ∀ a9 : Nat → Nat, a9 23 = ρ.2.1 23 → az_W l G 9 Qx p e (az_rm 6 mc ms) s mm args below meth c (AD (gR ρ a9 (capT ρ.2.2.2.1 (tpB x n lk).2))) (KK G (gR ρ a9 (capT ρ.2.2.2.1 (tpB x n lk).2)) (tpB x n lk).1 m ou) (k9 + (capT ρ.2.2.2.1 (tpB x n lk).2 - ρ.2.2.2.1)) (n9 + 6 * (capT ρ.2.2.2.1 (tpB x n lk).2 - ρ.2.2.2.1)) 154 [(8, .int dr), (7, .ref (ρ.2.2.1 b)), (6, .int (nI ro)), (5, .int (nI ri)), (4, .int L), (3, .int 0), (2, .int (nI lk)), (1, .ref a1), (0, .ref (ρ.1 0))] []) : az_W l G 9 Qx p e (az_rm 6 mc ms) s mm args below meth c (AD ρ) (KK G ρ x m ou) k9 n9 122 [(8, .int dr), (7, .ref (ρ.2.2.1 b)), (6, .int (nI ro)), (5, .int (nI ri)), (4, .int L), (3, .int 0), (2, .int (nI lk)), (1, .ref a1), (0, .ref (ρ.1 0))] [] := by
  by_cases hf : x.1 4 (lk + 13) ≤ 0
  · have hE : tpB x n lk = fillX x n lk := if_pos hf
    rw [hE] at hcl hsl hx
    refine az_aload_n C 8 dX3_tryPassage_122 rfl ?_
    refine az_get C cX3 0 0 0 (v := .ref (ρ.1 1)) wl_X3_12 dX3_tryPassage_123 rfl rfl rfl (by decide) ?_
    refine az_iload_n C 6 dX3_tryPassage_126 rfl ?_
    refine az_callV C Y_X2_hasFullChamber cX2 0 1 [.int (nI lk)] [] wm_X3_104 wi_X2_hasFullChamber wse_X2_hasFullChamber dX3_tryPassage_127 rfl rfl rfl (kfull hG lk (by omega)) rfl (Nat.le_of_ble_eq_true rfl) (Nat.le_of_ble_eq_true rfl) (Nat.le_of_ble_eq_true rfl) (by show k9 + 0 ≤ mc; omega) (by show n9 + 0 ≤ ms; omega) (az_k1 rfl rfl ?_) (az_k0 rfl)
    refine az_top (0) (if_pos hf) ?_
    refine az_if_ne C 154 dX3_tryPassage_130 (by decide) (fun q => absurd (by decide) q) (fun _ => ?_)
    refine az_aload_n C 8 dX3_tryPassage_133 rfl ?_
    refine az_get C cX3 0 0 0 (v := .ref (ρ.1 1)) wl_X3_12 dX3_tryPassage_134 rfl rfl rfl (by decide) ?_
    refine az_iload_n C 6 dX3_tryPassage_137 rfl ?_
    refine az_callV C Y_X2_canFill cX2 0 1 [.int (nI lk)] [] wm_X3_111 wi_X2_canFill wse_X2_canFill dX3_tryPassage_138 rfl rfl rfl (XcanFill hG lk (by omega)) rfl (Nat.le_of_ble_eq_true rfl) (Nat.le_of_ble_eq_true rfl) (Nat.le_of_ble_eq_true rfl) (by show k9 + 0 ≤ mc; omega) (by show n9 + 0 ≤ ms; omega) (az_k1 rfl rfl ?_) (az_k0 rfl)
    refine az_top (1) (if_neg (hw hf)) ?_
    refine az_if_ne C 146 dX3_tryPassage_141 (by decide) (fun _ => ?_) (fun q => absurd q (by decide))
    refine az_aload_n C 8 dX3_tryPassage_146 rfl ?_
    refine az_get C cX3 0 0 0 (v := .ref (ρ.1 1)) wl_X3_12 dX3_tryPassage_147 rfl rfl rfl (by decide) ?_
    refine az_iload_n C 6 dX3_tryPassage_150 rfl ?_
    refine az_callV C Y_X2_fill cX2 0 1 [.int (nI lk)] [] wm_X3_119 wi_X2_fill wse_X2_fill dX3_tryPassage_151 rfl rfl rfl (Xfill hG nr lk hn6 (by omega) hr n hv) rfl (Nat.le_of_ble_eq_true rfl) (Nat.le_of_ble_eq_true rfl) (Nat.le_of_ble_eq_true rfl) hcl hsl ?_ (by rintro E ad9 K9 ⟨q9, -, h9, -⟩; cases h9)
    rintro v9 ad9 K9 ⟨a9, ha9, h9, rfl, rfl⟩
    cases h9
    exact az_lv [0, 1, 2, 3, 4, 5, 6, 7, 8] rfl (hx a9 ha9)
  · have hE : tpB x n lk = (x, n) := if_neg hf
    rw [hE] at hcl hsl hx
    have c0 := capT_self hv.2.2.1
    refine az_aload_n C 8 dX3_tryPassage_122 rfl ?_
    refine az_get C cX3 0 0 0 (v := .ref (ρ.1 1)) wl_X3_12 dX3_tryPassage_123 rfl rfl rfl (by decide) ?_
    refine az_iload_n C 6 dX3_tryPassage_126 rfl ?_
    refine az_callV C Y_X2_hasFullChamber cX2 0 1 [.int (nI lk)] [] wm_X3_104 wi_X2_hasFullChamber wse_X2_hasFullChamber dX3_tryPassage_127 rfl rfl rfl (kfull hG lk (by omega)) rfl (Nat.le_of_ble_eq_true rfl) (Nat.le_of_ble_eq_true rfl) (Nat.le_of_ble_eq_true rfl) (by show k9 + 0 ≤ mc; omega) (by show n9 + 0 ≤ ms; omega) (az_k1 rfl rfl ?_) (az_k0 rfl)
    refine az_top (1) (if_neg hf) ?_
    refine az_if_ne C 154 dX3_tryPassage_130 (by decide) (fun _ => ?_) (fun q => absurd q (by decide))
    exact az_lv [0, 1, 2, 3, 4, 5, 6, 7, 8] rfl (Kt_0 (F := fun ρ9 k8 n8 => az_W l G 9 Qx p e (az_rm 6 mc ms) s mm args below meth c (AD ρ9) (KK G ρ9 x m ou) k8 n8 154 [(8, .int dr), (7, .ref (ρ.2.2.1 b)), (6, .int (nI ro)), (5, .int (nI ri)), (4, .int L), (3, .int 0), (2, .int (nI lk)), (1, .ref a1), (0, .ref (ρ.1 0))] []) hv.2.2.1 hx)
set_option maxHeartbeats 2000000 in
set_option maxRecDepth 100000 in
theorem XtpC1 (hG : az_okS l G) {p : Program} {e : Env} {s : State} {mm : MethodId} {args : Array Value} {below : List Frame} {meth : Method} {c : Code} (C : az_C l G p s mm args meth c cX3_tryPassage yX3_tryPassage.cls 9 (Option.some FieldType.int) []) {Qx : State → Prop} {mc ms k9 n9 : Nat} (nr lk : Nat) (hn6 : nr ≤ 6) (hk : lk + 2 ≤ nr) (hr : x.1 1 8 = nI nr) (n : Nat) (hv : MvX ρ x n (nr + 1)) (dr L : Int32) (b ro ri a1 : Nat)  (hcl : k9 + (capT ρ.2.2.2.1 (tpC x n nr lk true).2 - ρ.2.2.2.1) ≤ mc) (hsl : n9 + 6 * (capT ρ.2.2.2.1 (tpC x n nr lk true).2 - ρ.2.2.2.1) ≤ ms) (hx : ∀ a9 : Nat → Nat, a9 23 = ρ.2.1 23 → az_W l G 9 Qx p e (az_rm 6 mc ms) s mm args below meth c (AD (gR ρ a9 (capT ρ.2.2.2.1 (tpC x n nr lk true).2))) (KK G (gR ρ a9 (capT ρ.2.2.2.1 (tpC x n nr lk true).2)) (tpC x n nr lk true).1 m ou) (k9 + (capT ρ.2.2.2.1 (tpC x n nr lk true).2 - ρ.2.2.2.1)) (n9 + 6 * (capT ρ.2.2.2.1 (tpC x n nr lk true).2 - ρ.2.2.2.1)) 166 [(8, .int dr), (7, .ref (ρ.2.2.1 b)), (6, .int (nI ro)), (5, .int (nI ri)), (4, .int L), (3, .int 1), (2, .int (nI lk)), (1, .ref a1), (0, .ref (ρ.1 0))] []) : az_W l G 9 Qx p e (az_rm 6 mc ms) s mm args below meth c (AD ρ) (KK G ρ x m ou) k9 n9 154 [(8, .int dr), (7, .ref (ρ.2.2.1 b)), (6, .int (nI ro)), (5, .int (nI ri)), (4, .int L), (3, .int 1), (2, .int (nI lk)), (1, .ref a1), (0, .ref (ρ.1 0))] [] := by
  refine az_iload_n C 5 dX3_tryPassage_154 rfl ?_
  refine az_if_eq C 166 dX3_tryPassage_155 (by decide) (fun q => absurd q (by decide)) (fun _ => ?_)
  refine az_aload_n C 8 dX3_tryPassage_158 rfl ?_
  refine az_get C cX3 0 0 0 (v := .ref (ρ.1 1)) wl_X3_12 dX3_tryPassage_159 rfl rfl rfl (by decide) ?_
  refine az_iload_n C 6 dX3_tryPassage_162 rfl ?_
  refine az_callV C Y_X2_empty cX2 0 1 [.int (nI lk)] [] wm_X3_108 wi_X2_empty wse_X2_empty dX3_tryPassage_163 rfl rfl rfl (Xempty hG nr lk hn6 hk hr n hv) rfl (Nat.le_of_ble_eq_true rfl) (Nat.le_of_ble_eq_true rfl) (Nat.le_of_ble_eq_true rfl) hcl hsl ?_ (by rintro E ad9 K9 ⟨q9, -, h9, -⟩; cases h9)
  rintro v9 ad9 K9 ⟨a9, ha9, h9, rfl, rfl⟩
  cases h9
  exact az_lv [0, 1, 2, 3, 4, 5, 6, 7, 8] rfl (hx a9 ha9)
end
