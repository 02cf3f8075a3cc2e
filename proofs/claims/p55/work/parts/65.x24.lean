section
variable {l : Launch} {G : az_G} {ρ : Rp} {x : Xs} {m : Mz} {ou : Nat → Int64}
theorem levX9_eq {r : Nat} : levX9 x r = x.1 4 (r + 3) / x.1 2 r := rfl
theorem tpB_ge {n lk : Nat} : n ≤ (tpB x n lk).2 ∧ (tpB x n lk).2 ≤ n + 1 := by
  unfold tpB; split
  · exact sendO_ge
  · exact ⟨Nat.le_refl n, Nat.le_succ n⟩
theorem MvX_tpB {n lk t : Nat} {a9 : Nat → Nat} (h : MvX ρ x n (t + 1)) : MvX (gR ρ a9 (capT ρ.2.2.2.1 (tpB x n lk).2)) (tpB x n lk).1 (tpB x n lk).2 t := by
  unfold tpB; split
  · exact MvX_fi h
  · exact MvX_0 (MvX_le h (by omega))
theorem tpA_ge {n nr lk : Nat} {dn : Bool} (hk : lk + 1 ≤ nr) : n ≤ (tpA x n nr lk dn).2 ∧ (tpA x n nr lk dn).2 ≤ n + (if dn = false then nr else 0) := by
  unfold tpA; split
  · rename_i h
    rw [if_pos h.1]; exact em_ge hk
  · exact ⟨Nat.le_refl n, Nat.le_add_right n _⟩
theorem tpC_ge {n nr lk : Nat} {dn : Bool} (hk : lk + 1 ≤ nr) : n ≤ (tpC x n nr lk dn).2 ∧ (tpC x n nr lk dn).2 ≤ n + (if dn = false then 0 else nr) := by
  unfold tpC; split
  · rename_i h
    rw [if_neg (by rw [h]; decide)]; exact em_ge hk
  · exact ⟨Nat.le_refl n, Nat.le_add_right n _⟩
theorem tpX_ge {nr lk : Nat} {dn : Bool} (hk : lk + 1 ≤ nr) : ∀ (f : Nat) (x : Xs) (n : Nat) (s9 : List Nat), n ≤ (tpX nr lk dn f x n s9).1.2 ∧ (tpX nr lk dn f x n s9).1.2 ≤ n + f * (nr + 2)
  | 0, _, n, _ => ⟨Nat.le_refl n, Nat.le_add_right n _⟩
  | f + 1, _, n, [] => ⟨Nat.le_refl n, Nat.le_add_right n _⟩
  | f + 1, x, n, b :: r => by
    have hm : (f + 1) * (nr + 2) = f * (nr + 2) + (nr + 2) := by rw [Nat.add_mul f 1, Nat.one_mul]
    have gA := tpA_ge (x := x) (n := n) (dn := dn) hk
    have gB := tpB_ge (x := (tpA x n nr lk dn).1) (n := (tpA x n nr lk dn).2) (lk := lk)
    have gC := tpC_ge (x := (tpB (tpA x n nr lk dn).1 (tpA x n nr lk dn).2 lk).1) (n := (tpB (tpA x n nr lk dn).1 (tpA x n nr lk dn).2 lk).2) (dn := dn) hk
    have hs : (if dn = false then nr else 0) + (if dn = false then 0 else nr) = nr := by cases dn <;> simp
    rw [tpX]
    split
    · exact ⟨Nat.le_refl n, Nat.le_add_right n _⟩
    · split
      · exact ⟨gA.1, by show (tpA x n nr lk dn).2 ≤ _; omega⟩
      · split
        · exact ⟨by show n ≤ (tpC _ _ nr lk dn).2; omega, by show (tpC _ _ nr lk dn).2 ≤ _; omega⟩
        · have g := tpX_ge (dn := dn) hk f (tpC (tpB (tpA x n nr lk dn).1 (tpA x n nr lk dn).2 lk).1 (tpB (tpA x n nr lk dn).1 (tpA x n nr lk dn).2 lk).2 nr lk dn).1 (tpC (tpB (tpA x n nr lk dn).1 (tpA x n nr lk dn).2 lk).1 (tpB (tpA x n nr lk dn).1 (tpA x n nr lk dn).2 lk).2 nr lk dn).2 (epX x (x.1 9 lk) r (x.2.1 b 1))
          omega
set_option maxHeartbeats 4000000 in
theorem Xtp_l1 (hG : az_okS l G) {p : Program} {e : Env} {s : State} {mm : MethodId} {args : Array Value} {below : List Frame} {meth : Method} {c : Code} (C : az_C l G p s mm args meth c cX3_tryPassage yX3_tryPassage.cls 9 (Option.some FieldType.int) []) {mc ms : Nat} (nr lk a1 : Nat) (hn6 : nr ≤ 6) (hk : lk + 2 ≤ nr) : ∀ (f : Nat) {ρ : Rp} {x : Xs} (k9 n9 n : Nat) (s9 : List Nat) (L : Int32) (hL : x.1 9 lk = L) (hl : s9.length ≤ f) (hr : x.1 1 8 = nI nr) (har : ∀ k, k < nr → ¬ x.1 2 k < 1) (hs : XSuf ρ.2.2.2.2.2 x s9) (hnd : s9.Nodup) (ht : ∀ d ∈ s9, ¬ x.2.1 d 3 < 1) (hv : MvX ρ x n (f * (nr + 2))) (hcl : k9 + (capT ρ.2.2.2.1 (tpX nr lk true f x n s9).1.2 - ρ.2.2.2.1) ≤ mc) (hsl : n9 + 6 * (capT ρ.2.2.2.1 (tpX nr lk true f x n s9).1.2 - ρ.2.2.2.1) ≤ ms), az_W l G 9 (az_Q G (az_g G (some (.int (tpX nr lk true f x n s9).2)) ρ (capT ρ.2.2.2.1 (tpX nr lk true f x n s9).1.2) (tpX nr lk true f x n s9).1.1 m ou) below args s mc ms) p e (az_rm 6 mc ms) s mm args below meth c (AD ρ) (KK G ρ x m ou) k9 n9 64 [(7, va_rf ((s9).head?.map ρ.2.2.1)), (6, .int (nI ((lk + 1)))), (5, .int (nI lk)), (4, .int L), (3, .int 1), (2, .int (nI lk)), (1, .ref a1), (0, .ref (ρ.1 0))] [] := by
  intro f
  induction f with
  | zero =>
    intro ρ x k9 n9 n s9 L hL hl hr har hs hnd ht hv hcl hsl
    obtain rfl : s9 = [] := List.length_eq_zero_iff.mp (by omega)
    exact Xtp7_n hG C (by omega) (by omega) lk (lk + 1) lk a1 L 1 ⟨ρ.2.1, rfl, rfl, by rw [show capT ρ.2.2.2.1 (tpX nr lk true 0 x n []).1.2 = ρ.2.2.2.1 from capT_self hv.2.2.1], by rw [show capT ρ.2.2.2.1 (tpX nr lk true 0 x n []).1.2 = ρ.2.2.2.1 from capT_self hv.2.2.1]; rfl⟩
  | succ f ih =>
    intro ρ x k9 n9 n s9 L hL hl hr har hs hnd ht hv hcl hsl
    cases s9 with
    | nil => exact Xtp7_n hG C (by omega) (by omega) lk (lk + 1) lk a1 L 1 ⟨ρ.2.1, rfl, rfl, by rw [show capT ρ.2.2.2.1 (tpX nr lk true (f + 1) x n []).1.2 = ρ.2.2.2.1 from capT_self hv.2.2.1], by rw [show capT ρ.2.2.2.1 (tpX nr lk true (f + 1) x n []).1.2 = ρ.2.2.2.1 from capT_self hv.2.2.1]; rfl⟩
    | cons b r =>
      subst hL
      have hn1 : 1 ≤ (f + 1) * (nr + 2) := Nat.one_le_iff_ne_zero.mpr (by rw [Nat.add_mul]; omega)
      have hA : tpA x n nr lk true = (x, n) := if_neg (fun z => by cases z.1)
      by_cases h3 : levX9 x lk ≤ (mxD x (b :: paX x (x.1 9 lk) r (x.2.1 b 1)) 0)
      · have hT : tpX nr lk true (f + 1) x n (b :: r) = ((x, n), 3) := by rw [tpX]; exact if_pos h3
        rw [hT] at hcl hsl ⊢
        exact Xtp3_1 hG C (by omega) (by omega) lk (lk + 1) lk a1 (by omega) (har lk (by omega)) _ b r hs ht hnd (Int32.not_lt.mpr h3) ⟨ρ.2.1, rfl, rfl, by rw [show capT ρ.2.2.2.1 ((x, n), (3 : Int32)).1.2 = ρ.2.2.2.1 from capT_self hv.2.2.1], by rw [show capT ρ.2.2.2.1 ((x, n), (3 : Int32)).1.2 = ρ.2.2.2.1 from capT_self hv.2.2.1]⟩
      · refine Xtp1_1 hG C lk (lk + 1) lk a1 (by omega) (har lk (by omega)) _ b r hs ht hnd (by omega) (by omega) (Int32.not_le.mp h3) (Xtp9_1 hG C (by omega) (by omega) lk (lk + 1) lk a1 b _ _ ?_)
        by_cases h4 : x.1 4 (lk + 13) ≤ 0 ∧ x.1 4 (lk + 3) < x.1 3 lk
        · have hT : tpX nr lk true (f + 1) x n (b :: r) = ((x, n), 4) := by
            rw [tpX, hA, if_neg (show ¬ levX9 x (rIn true lk) ≤ (mxD x (b :: paX x (x.1 9 lk) r (x.2.1 b 1)) 0) from h3)]; exact if_pos h4
          rw [hT] at hcl hsl ⊢
          exact Xtp4_1 hG C (by omega) (by omega) lk (lk + 1) lk a1 b _ _ (by omega) h4.1 h4.2 ⟨ρ.2.1, rfl, rfl, by rw [show capT ρ.2.2.2.1 ((x, n), (4 : Int32)).1.2 = ρ.2.2.2.1 from capT_self hv.2.2.1], by rw [show capT ρ.2.2.2.1 ((x, n), (4 : Int32)).1.2 = ρ.2.2.2.1 from capT_self hv.2.2.1]⟩
        · have hw : x.1 4 (lk + 13) ≤ 0 → ¬ x.1 4 (lk + 3) < x.1 3 lk := fun z1 z2 => h4 ⟨z1, z2⟩
          have hm : (f + 1) * (nr + 2) = f * (nr + 2) + (nr + 2) := by rw [Nat.add_mul f 1, Nat.one_mul]
          have hvn := hv.2.2.2.1
          have gB := tpB_ge (x := x) (n := n) (lk := lk)
          have hCe : (tpC (tpB x n lk).1 (tpB x n lk).2 nr lk true) = emptyX (tpB x n lk).1 (tpB x n lk).2 nr lk := if_pos rfl
          have gC : (tpB x n lk).2 ≤ (tpC (tpB x n lk).1 (tpB x n lk).2 nr lk true).2 ∧ (tpC (tpB x n lk).1 (tpB x n lk).2 nr lk true).2 ≤ (tpB x n lk).2 + nr := by rw [hCe]; exact em_ge (by omega)
          have hvB : ∀ a9 : Nat → Nat, MvX (gR ρ a9 (capT ρ.2.2.2.1 (tpB x n lk).2)) (tpB x n lk).1 (tpB x n lk).2 (nr + 1 + f * (nr + 2)) := fun a9 => MvX_tpB (MvX_le hv (by omega))
          have c01 : capT (capT ρ.2.2.2.1 (tpB x n lk).2) (tpC (tpB x n lk).1 (tpB x n lk).2 nr lk true).2 = capT ρ.2.2.2.1 (tpC (tpB x n lk).1 (tpB x n lk).2 nr lk true).2 := capT_c gC.1 (by omega)
          have hx2 : (tpC (tpB x n lk).1 (tpB x n lk).2 nr lk true).1.2 = x.2 := tpC_x.trans tpB_x
          have m0 : ρ.2.2.2.1 ≤ (capT ρ.2.2.2.1 (tpB x n lk).2) := capT_ge
          have m1 : (capT ρ.2.2.2.1 (tpB x n lk).2) ≤ capT ρ.2.2.2.1 (tpC (tpB x n lk).1 (tpB x n lk).2 nr lk true).2 := capT_le gC.1
          have fr2 : (tpC (tpB x n lk).1 (tpB x n lk).2 nr lk true).1.1 2 (lk + 1) = x.1 2 (lk + 1) := (tpC_1 (by decide) (by decide) (by decide) (by decide) (by decide) (by decide)).trans (tpB_1 (by decide) (by decide) (by decide) (by decide) (by decide))
          by_cases h5 : levX9 (tpC (tpB x n lk).1 (tpB x n lk).2 nr lk true).1 (lk + 1) ≤ (mxD x (b :: paX x (x.1 9 lk) r (x.2.1 b 1)) 0)
          · have hT : tpX nr lk true (f + 1) x n (b :: r) = ((tpC (tpB x n lk).1 (tpB x n lk).2 nr lk true), 5) := by
              rw [tpX, hA, if_neg (show ¬ levX9 x (rIn true lk) ≤ (mxD x (b :: paX x (x.1 9 lk) r (x.2.1 b 1)) 0) from h3), if_neg (show ¬ ((x, n).1.1 4 (lk + 13) ≤ 0 ∧ (x, n).1.1 4 (lk + 3) < (x, n).1.1 3 lk) from h4)]; exact if_pos h5
            rw [hT] at hcl hsl ⊢
            have hcl' : k9 + (capT ρ.2.2.2.1 (tpC (tpB x n lk).1 (tpB x n lk).2 nr lk true).2 - ρ.2.2.2.1) ≤ mc := hcl
            have hsl' : n9 + 6 * (capT ρ.2.2.2.1 (tpC (tpB x n lk).1 (tpB x n lk).2 nr lk true).2 - ρ.2.2.2.1) ≤ ms := hsl
            refine XtpB1 hG C nr lk hn6 hk hr n (MvX_le hv hn1) (mxD x (b :: paX x (x.1 9 lk) r (x.2.1 b 1)) 0) _ b (lk + 1) lk a1 hw (by omega) (by omega) (fun a9 ha9 => ?_)
            refine XtpC1 (ρ := gR ρ a9 (capT ρ.2.2.2.1 (tpB x n lk).2)) (x := (tpB x n lk).1) hG C nr lk hn6 hk ((tpB_1 (by decide) (by decide) (by decide) (by decide) (by decide)).trans hr) (tpB x n lk).2 (MvX_le (hvB a9) (by omega)) (mxD x (b :: paX x (x.1 9 lk) r (x.2.1 b 1)) 0) _ b (lk + 1) lk a1 (by show _ + (capT (capT ρ.2.2.2.1 (tpB x n lk).2) (tpC (tpB x n lk).1 (tpB x n lk).2 nr lk true).2 - (capT ρ.2.2.2.1 (tpB x n lk).2)) ≤ mc; rw [c01]; exact kcap m0 m1 hcl') (by show _ + 6 * (capT (capT ρ.2.2.2.1 (tpB x n lk).2) (tpC (tpB x n lk).1 (tpB x n lk).2 nr lk true).2 - (capT ρ.2.2.2.1 (tpB x n lk).2)) ≤ ms; rw [c01]; exact ncap m0 m1 hsl') ?_
            refine Kt_conv (ρ := ρ) (a9 := a9) (N1 := (tpB x n lk).2) (N2 := (tpC (tpB x n lk).1 (tpB x n lk).2 nr lk true).2) (k9 := k9) (n9 := n9) (F := fun ρ9 k8 n8 => az_W l G 9 (az_Q G (az_g G (some (.int ((tpC (tpB x n lk).1 (tpB x n lk).2 nr lk true), (5 : Int32)).2)) ρ (capT ρ.2.2.2.1 ((tpC (tpB x n lk).1 (tpB x n lk).2 nr lk true), (5 : Int32)).1.2) ((tpC (tpB x n lk).1 (tpB x n lk).2 nr lk true), (5 : Int32)).1.1 m ou) below args s mc ms) p e (az_rm 6 mc ms) s mm args below meth c (AD ρ9) (KK G ρ9 (tpC (tpB x n lk).1 (tpB x n lk).2 nr lk true).1 m ou) k8 n8 166 [(8, .int (mxD x (b :: paX x (x.1 9 lk) r (x.2.1 b 1)) 0)), (7, .ref (ρ.2.2.1 b)), (6, .int (nI (lk + 1))), (5, .int (nI lk)), (4, .int (x.1 9 lk)), (3, .int 1), (2, .int (nI lk)), (1, .ref a1), (0, .ref (ρ.1 0))] []) ha9 gC.1 (by omega) (fun a8 ha8 => ?_)
            exact Xtp5_1 (ρ := gR ρ a8 (capT ρ.2.2.2.1 (tpC (tpB x n lk).1 (tpB x n lk).2 nr lk true).2)) (x := (tpC (tpB x n lk).1 (tpB x n lk).2 nr lk true).1) hG C hcl' hsl' lk (lk + 1) lk a1 b (mxD x (b :: paX x (x.1 9 lk) r (x.2.1 b 1)) 0) _ (by omega) (fun z => har (lk + 1) (by omega) (lt1e fr2 z)) (Int32.not_lt.mpr h5) ⟨a8, ha8, rfl, rfl, rfl⟩
          · have hT : tpX nr lk true (f + 1) x n (b :: r) = tpX nr lk true f (tpC (tpB x n lk).1 (tpB x n lk).2 nr lk true).1 (tpC (tpB x n lk).1 (tpB x n lk).2 nr lk true).2 (epX x (x.1 9 lk) r (x.2.1 b 1)) := by
              rw [tpX, hA, if_neg (show ¬ levX9 x (rIn true lk) ≤ (mxD x (b :: paX x (x.1 9 lk) r (x.2.1 b 1)) 0) from h3), if_neg (show ¬ ((x, n).1.1 4 (lk + 13) ≤ 0 ∧ (x, n).1.1 4 (lk + 3) < (x, n).1.1 3 lk) from h4)]; exact if_neg h5
            rw [hT] at hcl hsl ⊢
            have gT := tpX_ge (nr := nr) (lk := lk) (dn := true) (by omega) f (tpC (tpB x n lk).1 (tpB x n lk).2 nr lk true).1 (tpC (tpB x n lk).1 (tpB x n lk).2 nr lk true).2 (epX x (x.1 9 lk) r (x.2.1 b 1))
            have m2 : capT ρ.2.2.2.1 (tpC (tpB x n lk).1 (tpB x n lk).2 nr lk true).2 ≤ capT ρ.2.2.2.1 (tpX nr lk true f (tpC (tpB x n lk).1 (tpB x n lk).2 nr lk true).1 (tpC (tpB x n lk).1 (tpB x n lk).2 nr lk true).2 (epX x (x.1 9 lk) r (x.2.1 b 1))).1.2 := capT_le gT.1
            have c02 : capT (capT ρ.2.2.2.1 (tpC (tpB x n lk).1 (tpB x n lk).2 nr lk true).2) (tpX nr lk true f (tpC (tpB x n lk).1 (tpB x n lk).2 nr lk true).1 (tpC (tpB x n lk).1 (tpB x n lk).2 nr lk true).2 (epX x (x.1 9 lk) r (x.2.1 b 1))).1.2 = capT ρ.2.2.2.1 (tpX nr lk true f (tpC (tpB x n lk).1 (tpB x n lk).2 nr lk true).1 (tpC (tpB x n lk).1 (tpB x n lk).2 nr lk true).2 (epX x (x.1 9 lk) r (x.2.1 b 1))).1.2 := capT_c gT.1 (by omega)
            have mC : ρ.2.2.2.1 ≤ capT ρ.2.2.2.1 (tpC (tpB x n lk).1 (tpB x n lk).2 nr lk true).2 := capT_ge
            have hclC : k9 + (capT ρ.2.2.2.1 (tpC (tpB x n lk).1 (tpB x n lk).2 nr lk true).2 - ρ.2.2.2.1) ≤ mc := by omega
            have hslC : n9 + 6 * (capT ρ.2.2.2.1 (tpC (tpB x n lk).1 (tpB x n lk).2 nr lk true).2 - ρ.2.2.2.1) ≤ ms := by omega
            have hep : epX (tpC (tpB x n lk).1 (tpB x n lk).2 nr lk true).1 (x.1 9 lk) r ((tpC (tpB x n lk).1 (tpB x n lk).2 nr lk true).1.2.1 b 1) = (epX x (x.1 9 lk) r (x.2.1 b 1)) := by rw [epX_w hx2, hx2]
            have hap : paX x (x.1 9 lk) r (x.2.1 b 1) ++ (epX x (x.1 9 lk) r (x.2.1 b 1)) = r := paX_ep r _
            have hndr : (paX x (x.1 9 lk) r (x.2.1 b 1) ++ (epX x (x.1 9 lk) r (x.2.1 b 1))).Nodup := by rw [hap]; exact (List.nodup_cons.mp hnd).2
            refine XtpB1 hG C nr lk hn6 hk hr n (MvX_le hv hn1) (mxD x (b :: paX x (x.1 9 lk) r (x.2.1 b 1)) 0) _ b (lk + 1) lk a1 hw (by omega) (by omega) (fun a9 ha9 => ?_)
            refine XtpC1 (ρ := gR ρ a9 (capT ρ.2.2.2.1 (tpB x n lk).2)) (x := (tpB x n lk).1) hG C nr lk hn6 hk ((tpB_1 (by decide) (by decide) (by decide) (by decide) (by decide)).trans hr) (tpB x n lk).2 (MvX_le (hvB a9) (by omega)) (mxD x (b :: paX x (x.1 9 lk) r (x.2.1 b 1)) 0) _ b (lk + 1) lk a1 (by show _ + (capT (capT ρ.2.2.2.1 (tpB x n lk).2) (tpC (tpB x n lk).1 (tpB x n lk).2 nr lk true).2 - (capT ρ.2.2.2.1 (tpB x n lk).2)) ≤ mc; rw [c01]; exact kcap m0 m1 hclC) (by show _ + 6 * (capT (capT ρ.2.2.2.1 (tpB x n lk).2) (tpC (tpB x n lk).1 (tpB x n lk).2 nr lk true).2 - (capT ρ.2.2.2.1 (tpB x n lk).2)) ≤ ms; rw [c01]; exact ncap m0 m1 hslC) ?_
            refine Kt_conv (ρ := ρ) (a9 := a9) (N1 := (tpB x n lk).2) (N2 := (tpC (tpB x n lk).1 (tpB x n lk).2 nr lk true).2) (k9 := k9) (n9 := n9) (F := fun ρ9 k8 n8 => az_W l G 9 (az_Q G (az_g G (some (.int (tpX nr lk true f (tpC (tpB x n lk).1 (tpB x n lk).2 nr lk true).1 (tpC (tpB x n lk).1 (tpB x n lk).2 nr lk true).2 (epX x (x.1 9 lk) r (x.2.1 b 1))).2)) ρ (capT ρ.2.2.2.1 (tpX nr lk true f (tpC (tpB x n lk).1 (tpB x n lk).2 nr lk true).1 (tpC (tpB x n lk).1 (tpB x n lk).2 nr lk true).2 (epX x (x.1 9 lk) r (x.2.1 b 1))).1.2) (tpX nr lk true f (tpC (tpB x n lk).1 (tpB x n lk).2 nr lk true).1 (tpC (tpB x n lk).1 (tpB x n lk).2 nr lk true).2 (epX x (x.1 9 lk) r (x.2.1 b 1))).1.1 m ou) below args s mc ms) p e (az_rm 6 mc ms) s mm args below meth c (AD ρ9) (KK G ρ9 (tpC (tpB x n lk).1 (tpB x n lk).2 nr lk true).1 m ou) k8 n8 166 [(8, .int (mxD x (b :: paX x (x.1 9 lk) r (x.2.1 b 1)) 0)), (7, .ref (ρ.2.2.1 b)), (6, .int (nI (lk + 1))), (5, .int (nI lk)), (4, .int (x.1 9 lk)), (3, .int 1), (2, .int (nI lk)), (1, .ref a1), (0, .ref (ρ.1 0))] []) ha9 gC.1 (by omega) (fun a8 ha8 => ?_)
            refine Xtp6_1 (ρ := gR ρ a8 (capT ρ.2.2.2.1 (tpC (tpB x n lk).1 (tpB x n lk).2 nr lk true).2)) (x := (tpC (tpB x n lk).1 (tpB x n lk).2 nr lk true).1) hG C hclC hslC lk (lk + 1) lk a1 b r (mxD x (b :: paX x (x.1 9 lk) r (x.2.1 b 1)) 0) _ (XSuf_x hx2 hs) (by omega) (fun z => har (lk + 1) (by omega) (lt1e fr2 z)) (Int32.not_le.mp h5) ?_
            have hvC : MvX (gR ρ a8 (capT ρ.2.2.2.1 (tpC (tpB x n lk).1 (tpB x n lk).2 nr lk true).2)) (tpC (tpB x n lk).1 (tpB x n lk).2 nr lk true).1 (tpC (tpB x n lk).1 (tpB x n lk).2 nr lk true).2 (f * (nr + 2)) := by
              have h9 : MvX (gR ρ a8 (capT (capT ρ.2.2.2.1 (tpB x n lk).2) (emptyX (tpB x n lk).1 (tpB x n lk).2 nr lk).2)) (emptyX (tpB x n lk).1 (tpB x n lk).2 nr lk).1 (emptyX (tpB x n lk).1 (tpB x n lk).2 nr lk).2 (f * (nr + 2)) := MvX_em (a9 := a8) (by omega) (MvX_le (hvB a8) (by omega))
              rw [← hCe, c01] at h9
              exact h9
            rw [hep, ← az_gg (ρ := ρ) (a9 := a8) (C' := capT ρ.2.2.2.1 (tpC (tpB x n lk).1 (tpB x n lk).2 nr lk true).2) ha8, ← c02]
            exact ih (ρ := gR ρ a8 (capT ρ.2.2.2.1 (tpC (tpB x n lk).1 (tpB x n lk).2 nr lk true).2)) (x := (tpC (tpB x n lk).1 (tpB x n lk).2 nr lk true).1) _ _ (tpC (tpB x n lk).1 (tpB x n lk).2 nr lk true).2 (epX x (x.1 9 lk) r (x.2.1 b 1)) (x.1 9 lk) ((tpC_1 (by decide) (by decide) (by decide) (by decide) (by decide) (by decide)).trans (tpB_1 (by decide) (by decide) (by decide) (by decide) (by decide))) (by have := epX_len (x := x) (L := x.1 9 lk) r (x.2.1 b 1); rw [List.length_cons] at hl; omega) ((tpC_1 (by decide) (by decide) (by decide) (by decide) (by decide) (by decide)).trans ((tpB_1 (by decide) (by decide) (by decide) (by decide) (by decide)).trans hr)) (fun k hk z => har k hk (lt1e ((tpC_1 (by decide) (by decide) (by decide) (by decide) (by decide) (by decide)).trans (tpB_1 (by decide) (by decide) (by decide) (by decide) (by decide))) z)) (XSuf_x hx2 (epX_suf _ _ hs.2.2)) (List.nodup_append.mp hndr).2.1 (fun d hd => by rw [hx2]; exact ht d (List.mem_cons_of_mem _ (hap ▸ List.mem_append_right _ hd))) hvC (by show _ + (capT (capT ρ.2.2.2.1 (tpC (tpB x n lk).1 (tpB x n lk).2 nr lk true).2) _ - capT ρ.2.2.2.1 (tpC (tpB x n lk).1 (tpB x n lk).2 nr lk true).2) ≤ mc; rw [c02]; exact kcap mC m2 hcl) (by show _ + 6 * (capT (capT ρ.2.2.2.1 (tpC (tpB x n lk).1 (tpB x n lk).2 nr lk true).2) _ - capT ρ.2.2.2.1 (tpC (tpB x n lk).1 (tpB x n lk).2 nr lk true).2) ≤ ms; rw [c02]; exact ncap mC m2 hsl)
end
