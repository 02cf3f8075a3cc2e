section
variable {l : Launch} {G : az_G} {ρ : Rp} {x : Xs} {m : Mz} {ou : Nat → Int64}
set_option maxRecDepth 100000 in
theorem Xsend_e (hG : az_okS l G) {p : Program} {e : Env} {s : State} {mm : MethodId} {args : Array Value} {below : List Frame} {meth : Method} {c : Code} (C : az_C l G p s mm args meth c cX2_send yX2_send.cls 8 (Option.none : Option FieldType) []) {post : az_O → az_A → az_K → Prop} {k9 n9 mc ms : Nat} (s9 : Nat) (w v u : Int32) (hw : w ≤ 0) (hk9 : k9 ≤ mc) (hn9 : n9 ≤ ms) (hp : post (.inl none) (AD ρ) (KK G ρ x m ou)) : az_W l G 8 (az_Q G post below args s mc ms) p e (az_rm 4 mc ms) s mm args below meth c (AD ρ) (KK G ρ x m ou) k9 n9 12 [(7, .int (nI s9)), (6, .int w), (5, .int v), (4, .int u), (0, .ref (ρ.1 1))] [] := by
  refine az_iload C 0 dX2_send_12 rfl ?_
  refine az_bipush C (v := 6) dX2_send_14 (by decide) ?_
  refine az_icmp_gt C 107 dX2_send_16 (by decide) (fun c1 => ?_) (fun c1 => ?_)
  · exact az_vret C rfl dX2_send_107 hk9 hn9 hp
  · refine az_iload C 1 dX2_send_19 rfl ?_
    refine az_if_le C 107 dX2_send_21 (by decide) (fun _ => ?_) (fun q => absurd hw q)
    exact az_vret C rfl dX2_send_107 hk9 hn9 hp
theorem az_gg {v : Option Value} {a9 : Nat → Nat} {C C' : Nat} (h : a9 23 = ρ.2.1 23) : az_g G v (gR ρ a9 C') C x m ou = az_g G v ρ C x m ou := by
  funext o ad' K'
  unfold az_g
  show (∃ a : Nat → Nat, a 23 = a9 23 ∧ _) = _
  rw [h]
/-- water into a reach, and what it cannot hold further down: the state and how many movements stand there then -/
def sendR (nr : Nat) : Nat → Xs → Nat → Int32 → Nat → Nat → Int32 → Xs × Nat
  | 0, x, n, _, _, _, _ => (x, n)
  | f + 1, x, n, u, a, k, w =>
    if w ≤ 0 then (x, n)
    else if k + 1 < nr then sendR nr f (sdX x n u a (nI k) (k + 3) w) (n + 1) (nI k) (k + 3) (k + 1) ((sdX x n u a (nI k) (k + 3) w).1 4 (k + 3) - 60 * (sdX x n u a (nI k) (k + 3) w).1 2 k)
    else if (sdX x n u a (nI k) (k + 3) w).1 4 (k + 3) - 60 * (sdX x n u a (nI k) (k + 3) w).1 2 k ≤ 0 then (sdX x n u a (nI k) (k + 3) w, n + 1)
    else (sdX (sdX x n u a (nI k) (k + 3) w) (n + 1) (nI k) (k + 3) (-2) 1 ((sdX x n u a (nI k) (k + 3) w).1 4 (k + 3) - 60 * (sdX x n u a (nI k) (k + 3) w).1 2 k), n + 2)
theorem sendR_ge {nr : Nat} : ∀ (f : Nat) (x : Xs) (n : Nat) (u : Int32) (a k : Nat) (w : Int32), n ≤ (sendR nr f x n u a k w).2
  | 0, _, n, _, _, _, _ => Nat.le_refl n
  | f + 1, x, n, u, a, k, w => by
    rw [sendR]
    split
    · exact Nat.le_refl n
    · split
      · exact Nat.le_trans (Nat.le_succ n) (sendR_ge f _ (n + 1) _ _ _ _)
      · split
        · exact Nat.le_succ n
        · exact Nat.le_add_right n 2
theorem sendR_le {nr : Nat} : ∀ (f : Nat) (x : Xs) (n : Nat) (u : Int32) (a k : Nat) (w : Int32), (sendR nr f x n u a k w).2 ≤ n + f + 1
  | 0, _, n, _, _, _, _ => Nat.le_succ n
  | f + 1, x, n, u, a, k, w => by
    rw [sendR]
    split
    · show n ≤ _; omega
    · split
      · exact Nat.le_trans (sendR_le f _ (n + 1) _ _ _ _) (by omega)
      · split
        · show n + 1 ≤ _; omega
        · show n + 2 ≤ _; omega
theorem RowZ_sd {n : Nat} {u v w : Int32} {a9 : Nat → Nat} {a b : Nat} (h : RowZ ρ x) (hn : n ≤ ρ.2.2.2.1) (h0 : 0 < ρ.2.2.2.1) : RowZ (gR ρ a9 (capT ρ.2.2.2.1 (n + 1))) (sdX x n u a v b w) :=
  RowZ_add (RowZ_w h (fun _ => rfl) (fun _ => rfl) (fun _ => rfl)) hn h0
theorem capT_self {c N : Nat} (h : N ≤ c) : capT c N = c := if_pos h
theorem kcap {k C1 c CN mc : Nat} (h1 : c ≤ C1) (h2 : C1 ≤ CN) (h : k + (CN - c) ≤ mc) : k + (C1 - c) + (CN - C1) ≤ mc := by omega
theorem ncap {k C1 c CN mc : Nat} (h1 : c ≤ C1) (h2 : C1 ≤ CN) (h : k + 6 * (CN - c) ≤ mc) : k + 6 * (C1 - c) + 6 * (CN - C1) ≤ mc := by omega
set_option maxHeartbeats 2000000 in
theorem Xsend_l (hG : az_okS l G) {p : Program} {e : Env} {s : State} {mm : MethodId} {args : Array Value} {below : List Frame} {meth : Method} {c : Code} (C : az_C l G p s mm args meth c cX2_send yX2_send.cls 8 (Option.none : Option FieldType) []) {mc ms : Nat} (nr : Nat) (hn6 : nr ≤ 6) : ∀ (f : Nat) {ρ : Rp} {x : Xs} (k9 n9 s9 n : Nat) (u : Int32) (a k : Nat) (w : Int32) (hf : k + f = nr) (hf1 : 1 ≤ f) (hs : s9 + f ≤ 6) (hm : x.1 8 3 = nI n) (hn : n + f + 1 < 65536) (hc : n ≤ ρ.2.2.2.1) (hcc : n + f + 1 ≤ 2 * ρ.2.2.2.1) (hc2 : capT ρ.2.2.2.1 (sendR nr f x n u a k w).2 < 2 ^ 20) (h256 : 256 ≤ ρ.2.2.2.1) (hz : RowZ ρ x) (hu : u - (-3) = nI a) (ha : a < 18) (hr : x.1 1 8 = nI nr) (hcl : k9 + (capT ρ.2.2.2.1 (sendR nr f x n u a k w).2 - ρ.2.2.2.1) ≤ mc) (hsl : n9 + 6 * (capT ρ.2.2.2.1 (sendR nr f x n u a k w).2 - ρ.2.2.2.1) ≤ ms), az_W l G 8 (az_Q G (az_g G none ρ (capT ρ.2.2.2.1 (sendR nr f x n u a k w).2) (sendR nr f x n u a k w).1 m ou) below args s mc ms) p e (az_rm 4 mc ms) s mm args below meth c (AD ρ) (KK G ρ x m ou) k9 n9 12 [(7, .int (nI s9)), (6, .int w), (5, .int (nI k)), (4, .int u), (0, .ref (ρ.1 1))] [] := by
  intro f
  induction f with
  | zero => intro ρ x k9 n9 s9 n u a k w hf hf1; exact absurd hf1 (by decide)
  | succ f ih =>
    intro ρ x k9 n9 s9 n u a k w hf hf1 hs hm hn hc hcc hc2 h256 hz hu ha hr hcl hsl
    by_cases hw : w ≤ 0
    · have hE : sendR nr (f + 1) x n u a k w = (x, n) := by rw [sendR, if_pos hw]
      rw [hE] at hcl hsl hc2 ⊢
      refine Xsend_e hG C s9 w (nI k) u hw (by omega) (by omega) ⟨ρ.2.1, rfl, rfl, ?_, ?_⟩ <;> rw [capT_self hc]
    · have hw2 : 0 < w := Int32.not_le.mp hw
      have hC1 : capT ρ.2.2.2.1 (n + 1) ≤ capT ρ.2.2.2.1 (sendR nr (f + 1) x n u a k w).2 ∨ True := Or.inr trivial
      by_cases hk : k + 1 < nr
      · have hE : sendR nr (f + 1) x n u a k w = sendR nr f (sdX x n u a (nI k) (k + 3) w) (n + 1) (nI k) (k + 3) (k + 1) ((sdX x n u a (nI k) (k + 3) w).1 4 (k + 3) - 60 * (sdX x n u a (nI k) (k + 3) w).1 2 k) := by rw [sendR, if_neg hw, if_pos hk]
        rw [hE] at hcl hsl hc2 ⊢
        have hge := sendR_ge (nr := nr) f (sdX x n u a (nI k) (k + 3) w) (n + 1) (nI k) (k + 3) (k + 1) ((sdX x n u a (nI k) (k + 3) w).1 4 (k + 3) - 60 * (sdX x n u a (nI k) (k + 3) w).1 2 k)
        have hle := sendR_le (nr := nr) f (sdX x n u a (nI k) (k + 3) w) (n + 1) (nI k) (k + 3) (k + 1) ((sdX x n u a (nI k) (k + 3) w).1 4 (k + 3) - 60 * (sdX x n u a (nI k) (k + 3) w).1 2 k)
        have h1 := capT_le (c := ρ.2.2.2.1) hge
        have h2 : ρ.2.2.2.1 ≤ capT ρ.2.2.2.1 (n + 1) := capT_ge
        have h3 := capT_c (c := ρ.2.2.2.1) hge (by omega)
        refine Xst_r1 hG C s9 (by omega) n hm (by omega) hc h256 (by omega) hz u a hu ha nr hr hn6 k hk w hw2 (by omega) (by omega) (fun a9 ha9 => ?_)
        rw [← az_gg (ρ := ρ) (a9 := a9) (C' := capT ρ.2.2.2.1 (n + 1)) ha9, ← h3]
        refine ih (ρ := gR ρ a9 (capT ρ.2.2.2.1 (n + 1))) _ _ (s9 + 1) (n + 1) (nI k) (k + 3) (k + 1) _ (by omega) (by omega) (by omega) rfl (by omega) (capT_n (by omega)) (by show n + 1 + f + 1 ≤ 2 * capT ρ.2.2.2.1 (n + 1); omega) (by show capT (capT ρ.2.2.2.1 (n + 1)) _ < _; rw [h3]; exact hc2) (by show 256 ≤ capT ρ.2.2.2.1 (n + 1); omega) (RowZ_sd hz hc (by omega)) (nI_m3 k) (by omega) hr ?_ ?_
        · show _ + (capT (capT ρ.2.2.2.1 (n + 1)) _ - capT ρ.2.2.2.1 (n + 1)) ≤ mc
          rw [h3]; exact kcap h2 h1 hcl
        · show _ + 6 * (capT (capT ρ.2.2.2.1 (n + 1)) _ - capT ρ.2.2.2.1 (n + 1)) ≤ ms
          rw [h3]; exact ncap h2 h1 hsl
      · have hk2 : k + 1 = nr := by omega
        by_cases hw3 : ((sdX x n u a (nI k) (k + 3) w).1 4 (k + 3) - 60 * (sdX x n u a (nI k) (k + 3) w).1 2 k) ≤ 0
        · have hE : sendR nr (f + 1) x n u a k w = ((sdX x n u a (nI k) (k + 3) w), n + 1) := by rw [sendR, if_neg hw, if_neg hk, if_pos hw3]
          rw [hE] at hcl hsl hc2 ⊢
          have h2 : ρ.2.2.2.1 ≤ capT ρ.2.2.2.1 (n + 1) := capT_ge
          have hc3 : capT ρ.2.2.2.1 (n + 1) < 2 ^ 20 := hc2
          refine Xst_r2 hG C s9 (by omega) n hm (by omega) hc h256 (by omega) hz u a hu ha nr hr hn6 k hk2 w hw2 hcl hsl (fun a9 ha9 => ?_)
          exact Xsend_e hG C (s9 + 1) _ _ (nI k) hw3 hcl hsl ⟨a9, ha9, rfl, rfl, rfl⟩
        · have hE : sendR nr (f + 1) x n u a k w = ((sdX (sdX x n u a (nI k) (k + 3) w) (n + 1) (nI k) (k + 3) (-2) 1 ((sdX x n u a (nI k) (k + 3) w).1 4 (k + 3) - 60 * (sdX x n u a (nI k) (k + 3) w).1 2 k)), n + 2) := by rw [sendR, if_neg hw, if_neg hk, if_neg hw3]
          rw [hE] at hcl hsl hc2 ⊢
          have h1 : capT ρ.2.2.2.1 (n + 1) ≤ capT ρ.2.2.2.1 (n + 2) := capT_le (by omega)
          have h2 : ρ.2.2.2.1 ≤ capT ρ.2.2.2.1 (n + 1) := capT_ge
          have h3 : capT (capT ρ.2.2.2.1 (n + 1)) (n + 2) = capT ρ.2.2.2.1 (n + 2) := capT_c (by omega) (by omega)
          have hc3 : capT ρ.2.2.2.1 (n + 2) < 2 ^ 20 := hc2
          have hcl' : k9 + (capT ρ.2.2.2.1 (n + 2) - ρ.2.2.2.1) ≤ mc := hcl
          have hsl' : n9 + 6 * (capT ρ.2.2.2.1 (n + 2) - ρ.2.2.2.1) ≤ ms := hsl
          refine Xst_r2 hG C s9 (by omega) n hm (by omega) hc h256 (by omega) hz u a hu ha nr hr hn6 k hk2 w hw2 (by omega) (by omega) (fun a9 ha9 => ?_)
          have h4 : capT (capT ρ.2.2.2.1 (n + 1)) (n + 1 + 1) = capT ρ.2.2.2.1 (n + 2) := h3
          refine Xst_s (ρ := gR ρ a9 (capT ρ.2.2.2.1 (n + 1))) hG C (s9 + 1) (by omega) (n + 1) rfl (by omega) (capT_n (by omega)) (by show 256 ≤ capT ρ.2.2.2.1 (n + 1); omega) (by show capT ρ.2.2.2.1 (n + 1) < 2 ^ 20; omega) (RowZ_sd hz hc (by omega)) (nI k) (k + 3) (nI_m3 k) (by omega) nr hr hn6 _ (Int32.not_le.mp hw3) (by show _ + (capT (capT ρ.2.2.2.1 (n + 1)) (n + 1 + 1) - capT ρ.2.2.2.1 (n + 1)) ≤ mc; rw [h4]; exact kcap h2 h1 hcl') (by show _ + 6 * (capT (capT ρ.2.2.2.1 (n + 1)) (n + 1 + 1) - capT ρ.2.2.2.1 (n + 1)) ≤ ms; rw [h4]; exact ncap h2 h1 hsl') (fun a8 ha8 => ?_)
          show az_W l G 8 _ p e _ s mm args below meth c (AD (gR ρ a8 (capT (capT ρ.2.2.2.1 (n + 1)) (n + 1 + 1)))) (KK G (gR ρ a8 (capT (capT ρ.2.2.2.1 (n + 1)) (n + 1 + 1))) _ m ou) (_ + (capT (capT ρ.2.2.2.1 (n + 1)) (n + 1 + 1) - capT ρ.2.2.2.1 (n + 1))) (_ + 6 * (capT (capT ρ.2.2.2.1 (n + 1)) (n + 1 + 1) - capT ρ.2.2.2.1 (n + 1))) _ _ _
          rw [h4]
          exact Xsend_e hG C (s9 + 1 + 1) 0 (-1) (-2) (Int32.le_refl _) (kcap h2 h1 hcl') (ncap h2 h1 hsl') ⟨a8, ha8.trans ha9, rfl, rfl, rfl⟩
end
