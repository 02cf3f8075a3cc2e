section
variable {l : Launch} {G : az_G} {ρ : Rp} {x : Xs} {m : Mz} {ou : Nat → Int64}
theorem MvX_sd {n t : Nat} {u v w : Int32} {a b : Nat} {a9 : Nat → Nat} (h : MvX ρ x n (t + 1)) : MvX (gR ρ a9 (capT ρ.2.2.2.1 (n + 1))) (sdX x n u a v b w) (n + 1) t := by
  obtain ⟨h1, h2, h3, h4, h5, h6, h7⟩ := h
  have c1 : ρ.2.2.2.1 ≤ capT ρ.2.2.2.1 (n + 1) := capT_ge
  have c2 : n + 1 ≤ capT ρ.2.2.2.1 (n + 1) := capT_n (by omega)
  have c3 : capT ρ.2.2.2.1 (n + 1) ≤ 131072 := by unfold capT; split <;> omega
  exact ⟨rfl, by omega, c2, (by show n + 1 + t ≤ 2 * capT ρ.2.2.2.1 (n + 1); omega), (by show 256 ≤ capT ρ.2.2.2.1 (n + 1); omega), c3, RowZ_sd h7 h3 (by omega)⟩
theorem MvX_le {n t t' : Nat} (h : MvX ρ x n t) (ht : t' ≤ t) : MvX ρ x n t' := ⟨h.1, by have := h.2.1; omega, h.2.2.1, by have := h.2.2.2.1; omega, h.2.2.2.2⟩
theorem MvX_0 {n t : Nat} {a9 : Nat → Nat} (h : MvX ρ x n t) : MvX (gR ρ a9 (capT ρ.2.2.2.1 n)) x n t := by
  rw [capT_self h.2.2.1]; exact h
theorem MvX_O {n t : Nat} {u v w : Int32} {a b : Nat} {a9 : Nat → Nat} (h : MvX ρ x n (t + 1)) : MvX (gR ρ a9 (capT ρ.2.2.2.1 (sendO x n u a v b w).2)) (sendO x n u a v b w).1 (sendO x n u a v b w).2 t := by
  unfold sendO; split
  · exact MvX_0 (MvX_le h (by omega))
  · exact MvX_sd h
theorem sendO_ge {n : Nat} {u v w : Int32} {a b : Nat} : n ≤ (sendO x n u a v b w).2 ∧ (sendO x n u a v b w).2 ≤ n + 1 := by
  unfold sendO; split
  · exact ⟨Nat.le_refl n, Nat.le_succ n⟩
  · exact ⟨Nat.le_succ n, Nat.le_refl _⟩
theorem sendO_1 {n p j : Nat} {u v w : Int32} {a b : Nat} (h4 : p ≠ 4) (h8 : p ≠ 8) (h0 : p ≠ 20) (h1 : p ≠ 21) (h2 : p ≠ 22) : (sendO x n u a v b w).1.1 p j = x.1 p j := by
  unfold sendO; split
  · rfl
  · simp only [sdX, addX, xI]
    rw [up2_p h8, up2_p h2, up2_p h1, up2_p h0, up2_p h4, up2_p h4]
def ewU (x : Xs) (k : Nat) : Int32 := if x.1 4 (k + 3) < x.1 2 k then x.1 4 (k + 3) else x.1 2 k
def ewS : Nat → Xs → Nat → Nat → Xs × Nat
  | 0, x, n, _ => (x, n)
  | f + 1, x, n, k => ewS f (sendO x n (nI k) (k + 3) (-3) 0 (ewU x k)).1 (sendO x n (nI k) (k + 3) (-3) 0 (ewU x k)).2 (k + 1)
theorem ewS_ge : ∀ (f : Nat) (x : Xs) (n k : Nat), n ≤ (ewS f x n k).2 ∧ (ewS f x n k).2 ≤ n + f
  | 0, _, n, _ => ⟨Nat.le_refl n, Nat.le_refl n⟩
  | f + 1, x, n, k => by
    rw [ewS]
    have h1 := sendO_ge (x := x) (n := n) (u := nI k) (a := k + 3) (v := -3) (b := 0) (w := ewU x k)
    have h2 := ewS_ge f (sendO x n (nI k) (k + 3) (-3) 0 (ewU x k)).1 (sendO x n (nI k) (k + 3) (-3) 0 (ewU x k)).2 (k + 1)
    omega
set_option maxHeartbeats 2000000 in
set_option maxRecDepth 100000 in
theorem Xew1 (hG : az_okS l G) {p : Program} {e : Env} {s : State} {mm : MethodId} {args : Array Value} {below : List Frame} {meth : Method} {c : Code} (C : az_C l G p s mm args meth c cX3_endWeek yX3_endWeek.cls 5 (Option.some FieldType.int) []) {Qx : State → Prop} {mc ms : Nat} (nr : Nat) (hn6 : nr ≤ 6) : ∀ (f : Nat) {ρ : Rp} {x : Xs} (k9 n9 n k : Nat) (hk : k + f = nr) (hr : x.1 1 8 = nI nr) (hv : MvX ρ x n f) (hcl : k9 + ((capT ρ.2.2.2.1 (ewS f x n k).2) - ρ.2.2.2.1) ≤ mc) (hsl : n9 + 6 * ((capT ρ.2.2.2.1 (ewS f x n k).2) - ρ.2.2.2.1) ≤ ms) (hx : ∀ a9 : Nat → Nat, a9 23 = ρ.2.1 23 → az_W l G 5 Qx p e (az_rm 6 mc ms) s mm args below meth c (AD (gR ρ a9 (capT ρ.2.2.2.1 (ewS f x n k).2))) (KK G (gR ρ a9 (capT ρ.2.2.2.1 (ewS f x n k).2)) (ewS f x n k).1 m ou) (k9 + ((capT ρ.2.2.2.1 (ewS f x n k).2) - ρ.2.2.2.1)) (n9 + 6 * ((capT ρ.2.2.2.1 (ewS f x n k).2) - ρ.2.2.2.1)) 49 [(0, .ref (ρ.1 0))] []), az_W l G 5 Qx p e (az_rm 6 mc ms) s mm args below meth c (AD ρ) (KK G ρ x m ou) k9 n9 2 [(1, .int (nI k)), (0, .ref (ρ.1 0))] [] := by
  intro f
  induction f with
  | zero =>
    intro ρ x k9 n9 n k hk hr hv hcl hsl hx
    obtain rfl : k = nr := by omega
    have h9 := hx ρ.2.1 rfl
    have hC0 : capT ρ.2.2.2.1 (ewS 0 x n k).2 = ρ.2.2.2.1 := capT_self hv.2.2.1
    rw [hC0, Nat.sub_self] at h9
    refine az_iload_n C 0 dX3_endWeek_2 rfl ?_
    refine az_aload_n C 1 dX3_endWeek_3 rfl ?_
    refine az_get C cX3 0 0 0 (v := .ref (ρ.1 1)) wl_X3_12 dX3_endWeek_4 rfl rfl rfl (by decide) ?_
    refine az_getN C cX2 0 1 8 (v := .int (x.1 1 8)) (az_bw C hG nx_X3_67 rfl) dX3_endWeek_7 rfl rfl rfl (by decide) ?_
    refine az_top (nI k) hr ?_
    refine az_icmp_ge C 49 dX3_endWeek_10 (by decide) (fun _ => ?_) (fun q => absurd (Int32.le_refl _) q)
    exact az_lv [1] rfl h9
  | succ f ih =>
    intro ρ x k9 n9 n k hk hr hv hcl hsl hx
    have h1 := sendO_ge (x := x) (n := n) (u := nI k) (a := k + 3) (v := -3) (b := 0) (w := ewU x k)
    have h2 := ewS_ge f (sendO x n (nI k) (k + 3) (-3) 0 (ewU x k)).1 (sendO x n (nI k) (k + 3) (-3) 0 (ewU x k)).2 (k + 1)
    have hE : ewS (f + 1) x n k = ewS f (sendO x n (nI k) (k + 3) (-3) 0 (ewU x k)).1 (sendO x n (nI k) (k + 3) (-3) 0 (ewU x k)).2 (k + 1) := rfl
    have c0 : ρ.2.2.2.1 ≤ capT ρ.2.2.2.1 (sendO x n (nI k) (k + 3) (-3) 0 (ewU x k)).2 := capT_ge
    have c1 := capT_le (c := ρ.2.2.2.1) h2.1
    have c2 : capT (capT ρ.2.2.2.1 (sendO x n (nI k) (k + 3) (-3) 0 (ewU x k)).2) (ewS f (sendO x n (nI k) (k + 3) (-3) 0 (ewU x k)).1 (sendO x n (nI k) (k + 3) (-3) 0 (ewU x k)).2 (k + 1)).2 = capT ρ.2.2.2.1 (ewS f (sendO x n (nI k) (k + 3) (-3) 0 (ewU x k)).1 (sendO x n (nI k) (k + 3) (-3) 0 (ewU x k)).2 (k + 1)).2 := capT_c h2.1 (by have := hv.2.2.2.1; omega)
    rw [hE] at hcl hsl hx
    refine az_iload_n C 0 dX3_endWeek_2 rfl ?_
    refine az_aload_n C 1 dX3_endWeek_3 rfl ?_
    refine az_get C cX3 0 0 0 (v := .ref (ρ.1 1)) wl_X3_12 dX3_endWeek_4 rfl rfl rfl (by decide) ?_
    refine az_getN C cX2 0 1 8 (v := .int (x.1 1 8)) (az_bw C hG nx_X3_67 rfl) dX3_endWeek_7 rfl rfl rfl (by decide) ?_
    refine az_top (nI nr) hr ?_
    refine az_icmp_ge C 49 dX3_endWeek_10 (by decide) (fun q => absurd q (nlt_nle (show k < nr by omega) (by omega))) (fun _ => ?_)
    refine az_aload_n C 1 dX3_endWeek_13 rfl ?_
    refine az_get C cX3 0 0 0 (v := .ref (ρ.1 1)) wl_X3_12 dX3_endWeek_14 rfl rfl rfl (by decide) ?_
    refine az_iload_n C 0 dX3_endWeek_17 rfl ?_
    refine az_bipush C (v := (-3)) dX3_endWeek_18 (by decide) ?_
    refine az_aload_n C 1 dX3_endWeek_20 rfl ?_
    refine az_get C cX3 0 0 0 (v := .ref (ρ.1 1)) wl_X3_12 dX3_endWeek_21 rfl rfl rfl (by decide) ?_
    refine az_getN C cX2 0 1 0 (v := .ref (ρ.1 2)) (az_bw C hG nx_X3_82 rfl) dX3_endWeek_24 rfl rfl rfl (by decide) ?_
    refine az_iload_n C 0 dX3_endWeek_27 rfl ?_
    refine az_ialdN C 0 2 k (v := x.1 2 k) dX3_endWeek_28 rfl rfl (by omega) (by decide) rfl ?_
    refine az_aload_n C 1 dX3_endWeek_29 rfl ?_
    refine az_get C cX3 0 0 0 (v := .ref (ρ.1 1)) wl_X3_12 dX3_endWeek_30 rfl rfl rfl (by decide) ?_
    refine az_iload_n C 0 dX3_endWeek_33 rfl ?_
    refine az_callV C Y_X2_at cX2 0 1 [.int (nI k)] [.int (x.1 2 k), .int ((-3)), .int (nI k), .ref (ρ.1 1)] wm_X3_85 wi_X2_at wse_X2_at dX3_endWeek_34 rfl rfl rfl (kat hG (nI k) (k + 3) (nI_m3 k) (by omega)) rfl (Nat.le_of_ble_eq_true rfl) (Nat.le_of_ble_eq_true rfl) (Nat.le_of_ble_eq_true rfl) (by show k9 + 0 ≤ mc; omega) (by show n9 + 0 ≤ ms; omega) (az_k1 rfl rfl ?_) (az_k0 rfl)
    refine az_mmin C wm_X3_131 wst_min wini_Math wc_min (Nat.le_of_ble_eq_true rfl) (Nat.le_of_ble_eq_true rfl) (by show k9 + 0 ≤ mc; omega) (by show n9 + 0 ≤ ms; omega) dX3_endWeek_37 ?_
    refine az_top (ewU x k) rfl ?_
    refine az_callV C Y_X2_send cX2 0 1 [.int (nI k), .int ((-3)), .int (ewU x k)] [] wm_X3_127 wi_X2_send wse_X2_send dX3_endWeek_40 rfl rfl rfl (Xsend_a hG nr hn6 hr n (MvX_le hv (by omega)) (nI k) (k + 3) (nI_m3 k) (by omega) (ewU x k)) rfl (Nat.le_of_ble_eq_true rfl) (Nat.le_of_ble_eq_true rfl) (Nat.le_of_ble_eq_true rfl) (by show _ ≤ mc; omega) (by show _ ≤ ms; omega) ?_ (by rintro E ad9 K9 ⟨q9, -, h9, -⟩; cases h9)
    rintro v9 ad9 K9 ⟨a9, ha9, h9, rfl, rfl⟩
    cases h9
    refine az_iinc C 0 (v := nI (k + 1)) (lv' := [(1, .int (nI (k + 1))), (0, .ref (ρ.1 0))]) dX3_endWeek_43 rfl (nI_1 k) (by decide) rfl ?_
    refine az_goto C 2 dX3_endWeek_46 (by decide) ?_
    refine az_lv [0, 1] rfl (ih (ρ := gR ρ a9 (capT ρ.2.2.2.1 (sendO x n (nI k) (k + 3) (-3) 0 (ewU x k)).2)) (x := (sendO x n (nI k) (k + 3) (-3) 0 (ewU x k)).1) _ _ (sendO x n (nI k) (k + 3) (-3) 0 (ewU x k)).2 (k + 1) (by omega) ((sendO_1 (by decide) (by decide) (by decide) (by decide) (by decide)).trans hr) (MvX_O (MvX_le hv (by omega))) (by show _ + (capT (capT ρ.2.2.2.1 (sendO x n (nI k) (k + 3) (-3) 0 (ewU x k)).2) _ - capT ρ.2.2.2.1 (sendO x n (nI k) (k + 3) (-3) 0 (ewU x k)).2) ≤ mc; rw [c2]; exact kcap c0 c1 hcl) (by show _ + 6 * (capT (capT ρ.2.2.2.1 (sendO x n (nI k) (k + 3) (-3) 0 (ewU x k)).2) _ - capT ρ.2.2.2.1 (sendO x n (nI k) (k + 3) (-3) 0 (ewU x k)).2) ≤ ms; rw [c2]; exact ncap c0 c1 hsl) (fun a8 ha8 => ?_))
    have h9 := hx a8 (ha8.trans ha9)
    show az_W l G 5 Qx p e (az_rm 6 mc ms) s mm args below meth c (AD (gR ρ a8 (capT (capT ρ.2.2.2.1 (sendO x n (nI k) (k + 3) (-3) 0 (ewU x k)).2) _))) (KK G (gR ρ a8 (capT (capT ρ.2.2.2.1 (sendO x n (nI k) (k + 3) (-3) 0 (ewU x k)).2) _)) _ m ou) (k9 + (capT ρ.2.2.2.1 (sendO x n (nI k) (k + 3) (-3) 0 (ewU x k)).2 - ρ.2.2.2.1) + (capT (capT ρ.2.2.2.1 (sendO x n (nI k) (k + 3) (-3) 0 (ewU x k)).2) _ - capT ρ.2.2.2.1 (sendO x n (nI k) (k + 3) (-3) 0 (ewU x k)).2)) (n9 + 6 * (capT ρ.2.2.2.1 (sendO x n (nI k) (k + 3) (-3) 0 (ewU x k)).2 - ρ.2.2.2.1) + 6 * (capT (capT ρ.2.2.2.1 (sendO x n (nI k) (k + 3) (-3) 0 (ewU x k)).2) _ - capT ρ.2.2.2.1 (sendO x n (nI k) (k + 3) (-3) 0 (ewU x k)).2)) 49 _ _
    rw [c2, show k9 + (capT ρ.2.2.2.1 (sendO x n (nI k) (k + 3) (-3) 0 (ewU x k)).2 - ρ.2.2.2.1) + (capT ρ.2.2.2.1 (ewS f (sendO x n (nI k) (k + 3) (-3) 0 (ewU x k)).1 (sendO x n (nI k) (k + 3) (-3) 0 (ewU x k)).2 (k + 1)).2 - capT ρ.2.2.2.1 (sendO x n (nI k) (k + 3) (-3) 0 (ewU x k)).2) = k9 + (capT ρ.2.2.2.1 (ewS f (sendO x n (nI k) (k + 3) (-3) 0 (ewU x k)).1 (sendO x n (nI k) (k + 3) (-3) 0 (ewU x k)).2 (k + 1)).2 - ρ.2.2.2.1) from by omega, show n9 + 6 * (capT ρ.2.2.2.1 (sendO x n (nI k) (k + 3) (-3) 0 (ewU x k)).2 - ρ.2.2.2.1) + 6 * (capT ρ.2.2.2.1 (ewS f (sendO x n (nI k) (k + 3) (-3) 0 (ewU x k)).1 (sendO x n (nI k) (k + 3) (-3) 0 (ewU x k)).2 (k + 1)).2 - capT ρ.2.2.2.1 (sendO x n (nI k) (k + 3) (-3) 0 (ewU x k)).2) = n9 + 6 * (capT ρ.2.2.2.1 (ewS f (sendO x n (nI k) (k + 3) (-3) 0 (ewU x k)).1 (sendO x n (nI k) (k + 3) (-3) 0 (ewU x k)).2 (k + 1)).2 - ρ.2.2.2.1) from by omega]
    exact h9
end
