section
variable {l : Launch} {G : az_G} {ρ : Rp} {x : Xs} {m : Ms} {ou : Nat → Int64}
theorem MSuf_lt {m : Ms} : ∀ {z : List Nat}, MSuf m z → ∀ d ∈ z, d < 8
  | [], _, _, h => by cases h
  | b :: z, h, d, hd => by
    rcases List.mem_cons.mp hd with rfl | hd
    · exact h.1
    · exact MSuf_lt h.2.2 d hd
def canR (m : Ms) (nr f : Nat) (t : List Nat) (r dst : Nat) : Ms × Int32 := if r = dst then (m, 1) else (canS m nr f t r dst, canV m nr f t r dst)
theorem SlOK.can {m : Ms} {nr r b : Nat} {rl : List Nat} {f : Nat} {t : List Nat} {dst : Nat} (h : SlOK m nr r b rl f t) : SlOK (canR m nr f t r dst).1 nr r b rl f t := by
  unfold canR; split
  · exact h
  · have q : ∀ p j : Nat, (p = 3 ∨ p = 16 ∨ p = 18 ∨ p = 19) → (canS m nr f t r dst).1 p j = m.1 p j := fun p j hp => by
      rcases hp with rfl | rfl | rfl | rfl <;> exact canS_p (by decide) (by decide) (by decide) (by decide) (by decide) (by decide) (by decide) (by decide) (by decide) (by decide) (by decide) (by decide)
    refine ⟨(canS_0 (by decide) (by decide) (by decide) (by decide) (by decide) (by decide)).trans h.1, h.2.1, h.2.2.1, fun k hk z => h.2.2.2.1 k hk ((q 3 k (by decide)).symm.trans z), MCv_w (fun j => q 18 j (by decide)) (fun j => q 19 j (by decide)) h.2.2.2.2.1, h.2.2.2.2.2.1, ?_, h.2.2.2.2.2.2.2⟩
    intro d hd
    have h8 := MSuf_lt h.2.2.2.2.1.2.2 d hd
    exact ⟨(canS_13 h8).trans (h.2.2.2.2.2.2.1 d hd).1, fun z => (h.2.2.2.2.2.2.1 d hd).2 ((q 16 d (by decide)).symm.trans z)⟩
theorem canR_ok {m : Ms} {nr f r dst z : Nat} {t : List Nat} (h : mvok m z) : mvok (canR m nr f t r dst).1 z := by
  unfold canR; split
  · exact h
  · exact h.eq canS_24
theorem canR_12 {m : Ms} {nr f r dst : Nat} {t : List Nat} : (canR m nr f t r dst).1.1 0 12 = m.1 0 12 := by
  unfold canR; split
  · rfl
  · exact canS_0 (by decide) (by decide) (by decide) (by decide) (by decide) (by decide)
/-- the word for a reach or none -/
def bw : Option Nat → Int32
  | none => -1
  | some j => nI j
def betM (m : Ms) (b : Nat) (o : Option Nat) (k : Nat) : Prop := ∀ j, o = some j → ¬ m.1 17 b * m.1 6 k ≤ m.1 17 b * m.1 6 j
def bestL (nr f : Nat) (t : List Nat) (r b : Nat) : Nat → Ms → Option Nat → Nat → Ms × Option Nat
  | 0, m, o, _ => (m, o)
  | n + 1, m, none, k => bestL nr f t r b n (canR m nr f t r k).1 (if (canR m nr f t r k).2 = 0 then none else some k) (k + 1)
  | n + 1, m, some j, k => if m.1 17 b * m.1 6 k ≤ m.1 17 b * m.1 6 j then bestL nr f t r b n m (some j) (k + 1) else bestL nr f t r b n (canR m nr f t r k).1 (if (canR m nr f t r k).2 = 0 then some j else some k) (k + 1)
theorem Mcan (hG : az_okS l G) (nr r b : Nat) (rl : List Nat) (f : Nat) (t : List Nat) (dst : Nat) (hdst : dst < nr) (hs : SlOK m nr r b rl f t) (hm : mvok m (6 * ((t.length + 1) * (2 * nr + 1)))) : az_M l G yX4_can (az_ws yX4_can cX4_can 4 (Option.some FieldType.boolean)) 8 [.ref (ρ.1 100), .int (nI b), .int (nI dst)] (AD ρ) (KK G ρ x m ou) 0 0 (az_r (some (.int (canR m nr f t r dst).2)) (AD ρ) (KK G ρ x (canR m nr f t r dst).1 ou)) := by
  by_cases h : r = dst
  · rw [show canR m nr f t r dst = (m, 1) from if_pos h]; exact Mcan1 hG nr r b rl f t dst hdst hs hm h
  · rw [show canR m nr f t r dst = (canS m nr f t r dst, canV m nr f t r dst) from if_neg h]; exact Mcan0 hG nr r b rl f t dst hdst hs hm h
set_option maxHeartbeats 4000000 in
set_option maxRecDepth 100000 in
theorem Mbest_l (hG : az_okS l G) {p : Program} {e : Env} {s : State} {mm : MethodId} {args : Array Value} {below : List Frame} {meth : Method} {c : Code} (C : az_C l G p s mm args meth c cX4_bestReach yX4_bestReach.cls 4 (Option.some FieldType.int) []) : ∀ (nr r b : Nat) (rl : List Nat) (f : Nat) (t : List Nat) (nb : Nat) (hnr : nr ≤ 6) (n : Nat) (m : Ms) (o : Option Nat) (k : Nat) (hk : k + n = nr) (ho : ∀ j, o = some j → j < nr) (hs : SlOK m nr r b rl f t) (hm : mvok m (6 * ((t.length + 1) * (2 * nr + 1)))) (hbn : m.1 0 12 = nI nb), az_W l G 4 (az_Q G (az_r (some (.int (bw (bestL nr f t r b n m o k).2))) (AD ρ) (KK G ρ x (mI (bestL nr f t r b n m o k).1 0 0 0) ou)) below args s 0 0) p e (az_rm 9 0 0) s mm args below meth c (AD ρ) (KK G ρ x m ou) 0 0 18 [(3, .int (nI k)), (2, .int (bw o)), (1, .int (nI b)), (0, .ref (ρ.1 100))] [] := by
  intro nr r b rl f t nb hnr n
  induction n with
  | zero =>
    intro m o k hk ho hs hm hbn
    obtain rfl : k = nr := by omega
    refine az_iload_n C 0 dX4_bestReach_18 rfl ?_
    refine az_aload_n C 3 dX4_bestReach_19 rfl ?_
    refine az_get C cX4 2 0 1 (v := .int (m.1 0 1)) wl_X4_7 dX4_bestReach_20 rfl rfl rfl (by decide) ?_
    refine az_top (nI k) hs.1 ?_
    refine az_icmp_ge C 77 dX4_bestReach_23 (by decide) (fun _ => ?_) (fun q => absurd (Int32.le_refl _) q)
    refine az_aload_n C 3 dX4_bestReach_77 rfl ?_
    refine az_iload_n C 1 dX4_bestReach_78 rfl ?_
    refine az_callV C Y_X4_tells cX4 2 0 [.int (bw o)] [] wm_X4_125 wi_X4_tells wse_X4_tells dX4_bestReach_79 rfl rfl rfl (Mtells hG (bw o)) rfl (Nat.le_of_ble_eq_true rfl) (Nat.le_of_ble_eq_true rfl) (Nat.le_of_ble_eq_true rfl) (Nat.le_of_ble_eq_true rfl) (Nat.le_of_ble_eq_true rfl) (az_k1 rfl rfl ?_) (az_k0 rfl)
    exact az_iret C rfl dX4_bestReach_82 (Nat.le_of_ble_eq_true rfl) (Nat.le_of_ble_eq_true rfl) ⟨rfl, rfl, rfl⟩
  | succ n ih =>
    intro m o k hk ho hs hm hbn
    have hb8 : b < 8 := hs.2.2.2.2.1.1.1
    cases o with
    | none =>
      by_cases hc : (canR m nr f t r k).2 = 0
      · have e : (bestL nr f t r b (n + 1) m none k) = bestL nr f t r b n (canR m nr f t r k).1 none (k + 1) := by rw [bestL, if_pos hc]
        rw [e]
        refine az_iload_n C 0 dX4_bestReach_18 rfl ?_
        refine az_aload_n C 3 dX4_bestReach_19 rfl ?_
        refine az_get C cX4 2 0 1 (v := .int (m.1 0 1)) wl_X4_7 dX4_bestReach_20 rfl rfl rfl (by decide) ?_
        refine az_top (nI nr) hs.1 ?_
        refine az_icmp_ge C 77 dX4_bestReach_23 (by decide) (fun q => absurd q (nlt_nle (show k < nr by omega) (by omega))) (fun _ => ?_)
        refine az_iload_n C 1 dX4_bestReach_26 rfl ?_
        refine az_iconst C (v := (-1)) dX4_bestReach_27 (by decide) ?_
        refine az_icmp_eq C 60 dX4_bestReach_28 (by decide) (fun _ => ?_) (fun q => absurd (by decide) q)
        refine az_aload_n C 3 dX4_bestReach_60 rfl ?_
        refine az_iload_n C 2 dX4_bestReach_61 rfl ?_
        refine az_iload_n C 0 dX4_bestReach_62 rfl ?_
        refine az_callV C Y_X4_can cX4 2 0 [.int (nI b), .int (nI k)] [] wm_X4_222 wi_X4_can wse_X4_can dX4_bestReach_63 rfl rfl rfl (Mcan hG nr r b rl f t k (by omega) hs hm) rfl (Nat.le_of_ble_eq_true rfl) (Nat.le_of_ble_eq_true rfl) (Nat.le_of_ble_eq_true rfl) (Nat.le_of_ble_eq_true rfl) (Nat.le_of_ble_eq_true rfl) (az_k1 rfl rfl ?_) (az_k0 rfl)
        refine az_if_eq C 71 dX4_bestReach_66 (by decide) (fun _ => ?_) (fun q => absurd hc q)
        refine az_iinc C 0 (v := nI (k + 1)) (lv' := [(3, .int (nI (k + 1))), (2, .int ((-1))), (1, .int (nI b)), (0, .ref (ρ.1 100))]) dX4_bestReach_71 rfl (nI_1 k) (by decide) rfl ?_
        refine az_goto C 18 dX4_bestReach_74 (by decide) ?_
        exact az_lv [0, 1, 2, 3] rfl (ih (canR m nr f t r k).1 none (k + 1) (by omega) (fun j z => by cases z) hs.can (canR_ok hm) (canR_12.trans hbn))
      · have e : (bestL nr f t r b (n + 1) m none k) = bestL nr f t r b n (canR m nr f t r k).1 (some k) (k + 1) := by rw [bestL, if_neg hc]
        rw [e]
        refine az_iload_n C 0 dX4_bestReach_18 rfl ?_
        refine az_aload_n C 3 dX4_bestReach_19 rfl ?_
        refine az_get C cX4 2 0 1 (v := .int (m.1 0 1)) wl_X4_7 dX4_bestReach_20 rfl rfl rfl (by decide) ?_
        refine az_top (nI nr) hs.1 ?_
        refine az_icmp_ge C 77 dX4_bestReach_23 (by decide) (fun q => absurd q (nlt_nle (show k < nr by omega) (by omega))) (fun _ => ?_)
        refine az_iload_n C 1 dX4_bestReach_26 rfl ?_
        refine az_iconst C (v := (-1)) dX4_bestReach_27 (by decide) ?_
        refine az_icmp_eq C 60 dX4_bestReach_28 (by decide) (fun _ => ?_) (fun q => absurd (by decide) q)
        refine az_aload_n C 3 dX4_bestReach_60 rfl ?_
        refine az_iload_n C 2 dX4_bestReach_61 rfl ?_
        refine az_iload_n C 0 dX4_bestReach_62 rfl ?_
        refine az_callV C Y_X4_can cX4 2 0 [.int (nI b), .int (nI k)] [] wm_X4_222 wi_X4_can wse_X4_can dX4_bestReach_63 rfl rfl rfl (Mcan hG nr r b rl f t k (by omega) hs hm) rfl (Nat.le_of_ble_eq_true rfl) (Nat.le_of_ble_eq_true rfl) (Nat.le_of_ble_eq_true rfl) (Nat.le_of_ble_eq_true rfl) (Nat.le_of_ble_eq_true rfl) (az_k1 rfl rfl ?_) (az_k0 rfl)
        refine az_if_eq C 71 dX4_bestReach_66 (by decide) (fun q => absurd q hc) (fun _ => ?_)
        refine az_iload_n C 0 dX4_bestReach_69 rfl ?_
        refine az_istore_n C (lv' := [(2, .int (nI k)), (3, .int (nI k)), (1, .int (nI b)), (0, .ref (ρ.1 100))]) (j := 2) rfl dX4_bestReach_70 (by decide) rfl ?_
        refine az_iinc C 1 (v := nI (k + 1)) (lv' := [(3, .int (nI (k + 1))), (2, .int (nI k)), (1, .int (nI b)), (0, .ref (ρ.1 100))]) dX4_bestReach_71 rfl (nI_1 k) (by decide) rfl ?_
        refine az_goto C 18 dX4_bestReach_74 (by decide) ?_
        exact az_lv [0, 1, 2, 3] rfl (ih (canR m nr f t r k).1 (some k) (k + 1) (by omega) (fun j z => by cases z; omega) hs.can (canR_ok hm) (canR_12.trans hbn))
    | some j =>
      have hj := ho j rfl
      by_cases hw : m.1 17 b * m.1 6 k ≤ m.1 17 b * m.1 6 j
      · have e : (bestL nr f t r b (n + 1) m (some j) k) = bestL nr f t r b n m (some j) (k + 1) := by rw [bestL, if_pos hw]
        rw [e]
        refine az_iload_n C 0 dX4_bestReach_18 rfl ?_
        refine az_aload_n C 3 dX4_bestReach_19 rfl ?_
        refine az_get C cX4 2 0 1 (v := .int (m.1 0 1)) wl_X4_7 dX4_bestReach_20 rfl rfl rfl (by decide) ?_
        refine az_top (nI nr) hs.1 ?_
        refine az_icmp_ge C 77 dX4_bestReach_23 (by decide) (fun q => absurd q (nlt_nle (show k < nr by omega) (by omega))) (fun _ => ?_)
        refine az_iload_n C 1 dX4_bestReach_26 rfl ?_
        refine az_iconst C (v := (-1)) dX4_bestReach_27 (by decide) ?_
        refine az_icmp_eq C 60 dX4_bestReach_28 (by decide) (fun q => absurd q (nI_m1 (show j < 8 by have := ho j rfl; omega))) (fun _ => ?_)
        refine az_aload_n C 3 dX4_bestReach_31 rfl ?_
        refine az_get C cX4 2 0 17 (v := .ref (ρ.1 117)) wl_X4_54 dX4_bestReach_32 rfl rfl rfl (by decide) ?_
        refine az_iload_n C 2 dX4_bestReach_35 rfl ?_
        refine az_ialdN C 2 17 b (v := m.1 17 b) dX4_bestReach_36 rfl rfl (by omega) (by decide) rfl ?_
        refine az_aload_n C 3 dX4_bestReach_37 rfl ?_
        refine az_get C cX4 2 0 6 (v := .ref (ρ.1 106)) wl_X4_23 dX4_bestReach_38 rfl rfl rfl (by decide) ?_
        refine az_iload_n C 0 dX4_bestReach_41 rfl ?_
        refine az_ialdN C 2 6 k (v := m.1 6 k) dX4_bestReach_42 rfl rfl (by omega) (by decide) rfl ?_
        refine az_imul C dX4_bestReach_43 ?_
        refine az_aload_n C 3 dX4_bestReach_44 rfl ?_
        refine az_get C cX4 2 0 17 (v := .ref (ρ.1 117)) wl_X4_54 dX4_bestReach_45 rfl rfl rfl (by decide) ?_
        refine az_iload_n C 2 dX4_bestReach_48 rfl ?_
        refine az_ialdN C 2 17 b (v := m.1 17 b) dX4_bestReach_49 rfl rfl (by omega) (by decide) rfl ?_
        refine az_aload_n C 3 dX4_bestReach_50 rfl ?_
        refine az_get C cX4 2 0 6 (v := .ref (ρ.1 106)) wl_X4_23 dX4_bestReach_51 rfl rfl rfl (by decide) ?_
        refine az_iload_n C 1 dX4_bestReach_54 rfl ?_
        refine az_ialdN C 2 6 j (v := m.1 6 j) dX4_bestReach_55 rfl rfl (by have := ho j rfl; omega) (by decide) rfl ?_
        refine az_imul C dX4_bestReach_56 ?_
        refine az_icmp_le C 71 dX4_bestReach_57 (by decide) (fun _ => ?_) (fun q => absurd hw q)
        refine az_iinc C 0 (v := nI (k + 1)) (lv' := [(3, .int (nI (k + 1))), (2, .int (nI j)), (1, .int (nI b)), (0, .ref (ρ.1 100))]) dX4_bestReach_71 rfl (nI_1 k) (by decide) rfl ?_
        refine az_goto C 18 dX4_bestReach_74 (by decide) ?_
        exact az_lv [0, 1, 2, 3] rfl (ih m (some j) (k + 1) (by omega) ho hs hm hbn)
      · by_cases hc : (canR m nr f t r k).2 = 0
        · have e : (bestL nr f t r b (n + 1) m (some j) k) = bestL nr f t r b n (canR m nr f t r k).1 (some j) (k + 1) := by rw [bestL, if_neg hw, if_pos hc]
          rw [e]
          refine az_iload_n C 0 dX4_bestReach_18 rfl ?_
          refine az_aload_n C 3 dX4_bestReach_19 rfl ?_
          refine az_get C cX4 2 0 1 (v := .int (m.1 0 1)) wl_X4_7 dX4_bestReach_20 rfl rfl rfl (by decide) ?_
          refine az_top (nI nr) hs.1 ?_
          refine az_icmp_ge C 77 dX4_bestReach_23 (by decide) (fun q => absurd q (nlt_nle (show k < nr by omega) (by omega))) (fun _ => ?_)
          refine az_iload_n C 1 dX4_bestReach_26 rfl ?_
          refine az_iconst C (v := (-1)) dX4_bestReach_27 (by decide) ?_
          refine az_icmp_eq C 60 dX4_bestReach_28 (by decide) (fun q => absurd q (nI_m1 (show j < 8 by have := ho j rfl; omega))) (fun _ => ?_)
          refine az_aload_n C 3 dX4_bestReach_31 rfl ?_
          refine az_get C cX4 2 0 17 (v := .ref (ρ.1 117)) wl_X4_54 dX4_bestReach_32 rfl rfl rfl (by decide) ?_
          refine az_iload_n C 2 dX4_bestReach_35 rfl ?_
          refine az_ialdN C 2 17 b (v := m.1 17 b) dX4_bestReach_36 rfl rfl (by omega) (by decide) rfl ?_
          refine az_aload_n C 3 dX4_bestReach_37 rfl ?_
          refine az_get C cX4 2 0 6 (v := .ref (ρ.1 106)) wl_X4_23 dX4_bestReach_38 rfl rfl rfl (by decide) ?_
          refine az_iload_n C 0 dX4_bestReach_41 rfl ?_
          refine az_ialdN C 2 6 k (v := m.1 6 k) dX4_bestReach_42 rfl rfl (by omega) (by decide) rfl ?_
          refine az_imul C dX4_bestReach_43 ?_
          refine az_aload_n C 3 dX4_bestReach_44 rfl ?_
          refine az_get C cX4 2 0 17 (v := .ref (ρ.1 117)) wl_X4_54 dX4_bestReach_45 rfl rfl rfl (by decide) ?_
          refine az_iload_n C 2 dX4_bestReach_48 rfl ?_
          refine az_ialdN C 2 17 b (v := m.1 17 b) dX4_bestReach_49 rfl rfl (by omega) (by decide) rfl ?_
          refine az_aload_n C 3 dX4_bestReach_50 rfl ?_
          refine az_get C cX4 2 0 6 (v := .ref (ρ.1 106)) wl_X4_23 dX4_bestReach_51 rfl rfl rfl (by decide) ?_
          refine az_iload_n C 1 dX4_bestReach_54 rfl ?_
          refine az_ialdN C 2 6 j (v := m.1 6 j) dX4_bestReach_55 rfl rfl (by have := ho j rfl; omega) (by decide) rfl ?_
          refine az_imul C dX4_bestReach_56 ?_
          refine az_icmp_le C 71 dX4_bestReach_57 (by decide) (fun q => absurd q hw) (fun _ => ?_)
          refine az_aload_n C 3 dX4_bestReach_60 rfl ?_
          refine az_iload_n C 2 dX4_bestReach_61 rfl ?_
          refine az_iload_n C 0 dX4_bestReach_62 rfl ?_
          refine az_callV C Y_X4_can cX4 2 0 [.int (nI b), .int (nI k)] [] wm_X4_222 wi_X4_can wse_X4_can dX4_bestReach_63 rfl rfl rfl (Mcan hG nr r b rl f t k (by omega) hs hm) rfl (Nat.le_of_ble_eq_true rfl) (Nat.le_of_ble_eq_true rfl) (Nat.le_of_ble_eq_true rfl) (Nat.le_of_ble_eq_true rfl) (Nat.le_of_ble_eq_true rfl) (az_k1 rfl rfl ?_) (az_k0 rfl)
          refine az_if_eq C 71 dX4_bestReach_66 (by decide) (fun _ => ?_) (fun q => absurd hc q)
          refine az_iinc C 0 (v := nI (k + 1)) (lv' := [(3, .int (nI (k + 1))), (2, .int (nI j)), (1, .int (nI b)), (0, .ref (ρ.1 100))]) dX4_bestReach_71 rfl (nI_1 k) (by decide) rfl ?_
          refine az_goto C 18 dX4_bestReach_74 (by decide) ?_
          exact az_lv [0, 1, 2, 3] rfl (ih (canR m nr f t r k).1 (some j) (k + 1) (by omega) ho hs.can (canR_ok hm) (canR_12.trans hbn))
        · have e : (bestL nr f t r b (n + 1) m (some j) k) = bestL nr f t r b n (canR m nr f t r k).1 (some k) (k + 1) := by rw [bestL, if_neg hw, if_neg hc]
          rw [e]
          refine az_iload_n C 0 dX4_bestReach_18 rfl ?_
          refine az_aload_n C 3 dX4_bestReach_19 rfl ?_
          refine az_get C cX4 2 0 1 (v := .int (m.1 0 1)) wl_X4_7 dX4_bestReach_20 rfl rfl rfl (by decide) ?_
          refine az_top (nI nr) hs.1 ?_
          refine az_icmp_ge C 77 dX4_bestReach_23 (by decide) (fun q => absurd q (nlt_nle (show k < nr by omega) (by omega))) (fun _ => ?_)
          refine az_iload_n C 1 dX4_bestReach_26 rfl ?_
          refine az_iconst C (v := (-1)) dX4_bestReach_27 (by decide) ?_
          refine az_icmp_eq C 60 dX4_bestReach_28 (by decide) (fun q => absurd q (nI_m1 (show j < 8 by have := ho j rfl; omega))) (fun _ => ?_)
          refine az_aload_n C 3 dX4_bestReach_31 rfl ?_
          refine az_get C cX4 2 0 17 (v := .ref (ρ.1 117)) wl_X4_54 dX4_bestReach_32 rfl rfl rfl (by decide) ?_
          refine az_iload_n C 2 dX4_bestReach_35 rfl ?_
          refine az_ialdN C 2 17 b (v := m.1 17 b) dX4_bestReach_36 rfl rfl (by omega) (by decide) rfl ?_
          refine az_aload_n C 3 dX4_bestReach_37 rfl ?_
          refine az_get C cX4 2 0 6 (v := .ref (ρ.1 106)) wl_X4_23 dX4_bestReach_38 rfl rfl rfl (by decide) ?_
          refine az_iload_n C 0 dX4_bestReach_41 rfl ?_
          refine az_ialdN C 2 6 k (v := m.1 6 k) dX4_bestReach_42 rfl rfl (by omega) (by decide) rfl ?_
          refine az_imul C dX4_bestReach_43 ?_
          refine az_aload_n C 3 dX4_bestReach_44 rfl ?_
          refine az_get C cX4 2 0 17 (v := .ref (ρ.1 117)) wl_X4_54 dX4_bestReach_45 rfl rfl rfl (by decide) ?_
          refine az_iload_n C 2 dX4_bestReach_48 rfl ?_
          refine az_ialdN C 2 17 b (v := m.1 17 b) dX4_bestReach_49 rfl rfl (by omega) (by decide) rfl ?_
          refine az_aload_n C 3 dX4_bestReach_50 rfl ?_
          refine az_get C cX4 2 0 6 (v := .ref (ρ.1 106)) wl_X4_23 dX4_bestReach_51 rfl rfl rfl (by decide) ?_
          refine az_iload_n C 1 dX4_bestReach_54 rfl ?_
          refine az_ialdN C 2 6 j (v := m.1 6 j) dX4_bestReach_55 rfl rfl (by have := ho j rfl; omega) (by decide) rfl ?_
          refine az_imul C dX4_bestReach_56 ?_
          refine az_icmp_le C 71 dX4_bestReach_57 (by decide) (fun q => absurd q hw) (fun _ => ?_)
          refine az_aload_n C 3 dX4_bestReach_60 rfl ?_
          refine az_iload_n C 2 dX4_bestReach_61 rfl ?_
          refine az_iload_n C 0 dX4_bestReach_62 rfl ?_
          refine az_callV C Y_X4_can cX4 2 0 [.int (nI b), .int (nI k)] [] wm_X4_222 wi_X4_can wse_X4_can dX4_bestReach_63 rfl rfl rfl (Mcan hG nr r b rl f t k (by omega) hs hm) rfl (Nat.le_of_ble_eq_true rfl) (Nat.le_of_ble_eq_true rfl) (Nat.le_of_ble_eq_true rfl) (Nat.le_of_ble_eq_true rfl) (Nat.le_of_ble_eq_true rfl) (az_k1 rfl rfl ?_) (az_k0 rfl)
          refine az_if_eq C 71 dX4_bestReach_66 (by decide) (fun q => absurd q hc) (fun _ => ?_)
          refine az_iload_n C 0 dX4_bestReach_69 rfl ?_
          refine az_istore_n C (lv' := [(2, .int (nI k)), (3, .int (nI k)), (1, .int (nI b)), (0, .ref (ρ.1 100))]) (j := 2) rfl dX4_bestReach_70 (by decide) rfl ?_
          refine az_iinc C 1 (v := nI (k + 1)) (lv' := [(3, .int (nI (k + 1))), (2, .int (nI k)), (1, .int (nI b)), (0, .ref (ρ.1 100))]) dX4_bestReach_71 rfl (nI_1 k) (by decide) rfl ?_
          refine az_goto C 18 dX4_bestReach_74 (by decide) ?_
          exact az_lv [0, 1, 2, 3] rfl (ih (canR m nr f t r k).1 (some k) (k + 1) (by omega) (fun j z => by cases z; omega) hs.can (canR_ok hm) (canR_12.trans hbn))

set_option maxHeartbeats 4000000 in
set_option maxRecDepth 100000 in
theorem MbestReach1 (hG : az_okS l G) (nr r b : Nat) (rl : List Nat) (f : Nat) (t : List Nat) (hs : SlOK m nr r b rl f t) (hm : mvok m (6 * ((t.length + 1) * (2 * nr + 1)))) (nb : Nat) (hb : m.1 0 12 = nI nb) (hnb : nb ≤ 8) (hbk : b + 1 ≤ nb) : az_M l G yX4_bestReach (az_ws yX4_bestReach cX4_bestReach 4 (Option.some FieldType.int)) 9 [.ref (ρ.1 100), .int (nI b)] (AD ρ) (KK G ρ x m ou) 0 0 (az_r (some (.int (bw (bestL nr f t r b nr m none 0).2))) (AD ρ) (KK G ρ x (mI (bestL nr f t r b nr m none 0).1 0 0 0) ou)) := by
  refine az_start hG.1 (by decide +kernel) (Nat.le_of_ble_eq_true rfl) ?_
  intro p e s mm args below meth c C hnm
  show az_W l G 4 _ p e _ s mm args below meth c _ _ 0 0 0 [(0, .ref (ρ.1 100)), (1, .int (nI b))] []
  refine az_aload_n C 0 dX4_bestReach_0 rfl ?_
  refine az_iload_n C 1 dX4_bestReach_1 rfl ?_
  refine az_callV C Y_X4_isBarge cX4 2 0 [.int (nI b)] [] wm_X4_161 wi_X4_isBarge wse_X4_isBarge dX4_bestReach_2 rfl rfl rfl (Mb1 hG nb b hb hnb hbk) rfl (Nat.le_of_ble_eq_true rfl) (Nat.le_of_ble_eq_true rfl) (Nat.le_of_ble_eq_true rfl) (Nat.le_of_ble_eq_true rfl) (Nat.le_of_ble_eq_true rfl) (az_k1 rfl rfl ?_) (az_k0 rfl)
  refine az_if_ne C 14 dX4_bestReach_5 (by decide) (fun _ => ?_) (fun q => absurd q (by decide))
  refine az_iconst C (v := (-1)) dX4_bestReach_14 (by decide) ?_
  refine az_istore_n C (lv' := [(2, .int ((-1))), (0, .ref (ρ.1 100)), (1, .int (nI b))]) (j := 2) rfl dX4_bestReach_15 (by decide) rfl ?_
  refine az_iconst C (v := 0) dX4_bestReach_16 (by decide) ?_
  refine az_istore_n C (lv' := [(3, .int 0), (2, .int ((-1))), (0, .ref (ρ.1 100)), (1, .int (nI b))]) (j := 3) rfl dX4_bestReach_17 (by decide) rfl ?_
  exact az_lv [0, 1, 3, 2] rfl (Mbest_l hG C nr r b rl f t nb hs.2.1 nr m none 0 (by omega) (fun j z => by cases z) hs hm hb)

set_option maxHeartbeats 4000000 in
set_option maxRecDepth 100000 in
theorem MbestReach0 (hG : az_okS l G) (nb : Nat) (v : Int32) (hb : m.1 0 12 = nI nb) (hn : nb ≤ 8) (hv : oo nb v) : az_M l G yX4_bestReach (az_ws yX4_bestReach cX4_bestReach 4 (Option.some FieldType.int)) 9 [.ref (ρ.1 100), .int v] (AD ρ) (KK G ρ x m ou) 0 0 (az_r (some (.int 0)) (AD ρ) (KK G ρ x (mI m 0 0 1) ou)) := by
  refine az_start hG.1 (by decide +kernel) (Nat.le_of_ble_eq_true rfl) ?_
  intro p e s mm args below meth c C hnm
  show az_W l G 4 _ p e _ s mm args below meth c _ _ 0 0 0 [(0, .ref (ρ.1 100)), (1, .int v)] []
  refine az_aload_n C 0 dX4_bestReach_0 rfl ?_
  refine az_iload_n C 1 dX4_bestReach_1 rfl ?_
  refine az_callV C Y_X4_isBarge cX4 2 0 [.int v] [] wm_X4_161 wi_X4_isBarge wse_X4_isBarge dX4_bestReach_2 rfl rfl rfl (Mb0 hG nb v hb hn (by omega) hv) rfl (Nat.le_of_ble_eq_true rfl) (Nat.le_of_ble_eq_true rfl) (Nat.le_of_ble_eq_true rfl) (Nat.le_of_ble_eq_true rfl) (Nat.le_of_ble_eq_true rfl) (az_k1 rfl rfl ?_) (az_k0 rfl)
  refine az_if_ne C 14 dX4_bestReach_5 (by decide) (fun q => absurd (by decide) q) (fun _ => ?_)
  refine az_aload_n C 0 dX4_bestReach_8 rfl ?_
  refine az_iconst C (v := 1) dX4_bestReach_9 (by decide) ?_
  refine az_callV C Y_X4_fails cX4 2 0 [.int 1] [] wm_X4_121 wi_X4_fails wse_X4_fails dX4_bestReach_10 rfl rfl rfl (Mfails hG (1)) rfl (Nat.le_of_ble_eq_true rfl) (Nat.le_of_ble_eq_true rfl) (Nat.le_of_ble_eq_true rfl) (Nat.le_of_ble_eq_true rfl) (Nat.le_of_ble_eq_true rfl) (az_k1 rfl rfl ?_) (az_k0 rfl)
  exact az_iret C rfl dX4_bestReach_13 (Nat.le_of_ble_eq_true rfl) (Nat.le_of_ble_eq_true rfl) ⟨rfl, rfl, rfl⟩

end
