section
variable {l : Launch} {G : az_G} {ρ : Rp} {x : Xs} {m : Ms} {ou : Nat → Int64}
theorem passL_ind (P : Ms → Prop) {nr lk : Nat} {dn : Bool} (hE : ∀ m, P m → P (emptiesM m nr lk)) (hF : ∀ m, P m → P (fillsM m lk)) (hM : ∀ v m q, P m → P (movesM v m q)) (hR : ∀ m u v, P m → P (refM m u v)) : ∀ (n : Nat) (m : Ms) (s9 : List Nat) (n9 : Nat), P m → P (passL nr lk dn n m s9 n9).1
  | 0, _, _, _, h => h
  | n + 1, _, [], _, h => h
  | n + 1, m, b :: r, n9, h => by
    rw [passL]
    have hl := lockM_ind P (nr := nr) (lk := lk) (dn := dn) (q := paM m lk (b :: r) 0) hE hF (fun v m => hM v m _) h
    split
    · exact passL_ind P hE hF hM hR n _ _ _ hl
    · exact hR _ _ _ hl
theorem passM_ind (P : Ms → Prop) {nr lk : Nat} {dn : Bool} {f : Nat} {t : List Nat} (hE : ∀ m, P m → P (emptiesM m nr lk)) (hF : ∀ m, P m → P (fillsM m lk)) (hM : ∀ v m q, P m → P (movesM v m q)) (hR : ∀ m u v, P m → P (refM m u v)) {m : Ms} (h : P m) : P (passM m nr lk dn f t).1 := by
  unfold passM; split
  · split
    · exact hR _ _ _ h
    · exact passL_ind P hE hF hM hR _ _ _ _ h
  · exact hR _ _ _ h
theorem refM_p {m : Ms} {u v : Int32} {p j : Nat} (h : p ≠ 0) : (refM m u v).1 p j = m.1 p j := by
  simp only [refM, mI]; rw [up2_p h, up2_p h]
theorem refM_0 {m : Ms} {u v : Int32} {j : Nat} (h : j ≠ 28) (h2 : j ≠ 29) : (refM m u v).1 0 j = m.1 0 j := by
  simp only [refM, mI]; rw [up2_k h2, up2_k h]
theorem passM_p {m : Ms} {nr lk p j f : Nat} {dn : Bool} {t : List Nat} (h0 : p ≠ 0) (h4 : p ≠ 4) (h10 : p ≠ 10) (h11 : p ≠ 11) (h13 : p ≠ 13) (h1 : p ≠ 25) (h2 : p ≠ 26) (h3 : p ≠ 27) : (passM m nr lk dn f t).1.1 p j = m.1 p j :=
  passM_ind (fun m' => m'.1 p j = m.1 p j) (fun m' h => (emptiesM_p h0 h4 h10 h11 h1 h2 h3).trans h) (fun m' h => (fillsM_p h0 h4 h11 h1 h2 h3).trans h) (fun v m' q h => (movesM_p h13 _ _).trans h) (fun m' u v h => (refM_p h0).trans h) rfl
theorem passM_0 {m : Ms} {nr lk j f : Nat} {dn : Bool} {t : List Nat} (h : j ≠ 24) (h22 : j ≠ 22) (h28 : j ≠ 28) (h29 : j ≠ 29) : (passM m nr lk dn f t).1.1 0 j = m.1 0 j :=
  passM_ind (fun m' => m'.1 0 j = m.1 0 j) (fun m' z => (emptiesM_0 h h22).trans z) (fun m' z => (fillsM_0 h).trans z) (fun v m' q z => (movesM_p (by decide) _ _).trans z) (fun m' u v z => (refM_0 h28 h29).trans z) rfl
theorem passL_ok {nr lk : Nat} {dn : Bool} (hk : lk + 1 ≤ nr) : ∀ (n : Nat) (m : Ms) (s9 : List Nat) (n9 z : Nat), mvok m (n * (2 * nr + 1) + z) → mvok (passL nr lk dn n m s9 n9).1 z
  | 0, _, _, _, z, h => h.le (by omega)
  | n + 1, _, [], _, z, h => h.le (Nat.le_add_left _ _)
  | n + 1, m, b :: r, n9, z, h => by
    rw [passL]
    have h2 : mvok m (2 * nr + 1 + (n * (2 * nr + 1) + z)) := h.le (Nat.le_of_eq (by rw [Nat.add_mul n 1, Nat.one_mul, ← Nat.add_assoc, Nat.add_comm (2 * nr + 1)]))
    have hl := lockM_ok (dn := dn) (q := paM m lk (b :: r) 0) hk h2
    split
    · exact passL_ok hk n _ _ _ z hl
    · exact (hl.le (Nat.le_add_left _ _)).eq (refM_0 (by decide) (by decide))
theorem passM_ok {m : Ms} {nr lk f z : Nat} {dn : Bool} {t : List Nat} (hk : lk + 1 ≤ nr) (h : mvok m ((t.length + 1) * (2 * nr + 1) + z)) : mvok (passM m nr lk dn f t).1 z := by
  unfold passM; split
  · split
    · exact (h.le (Nat.le_add_left _ _)).eq (refM_0 (by decide) (by decide))
    · exact passL_ok hk _ _ _ _ z h
  · exact (h.le (Nat.le_add_left _ _)).eq (refM_0 (by decide) (by decide))
theorem lockM_at {m : Ms} {nr lk : Nat} {dn : Bool} {q : List Nat} (h : (lockM m nr lk dn q).2 = 0) {d : Nat} (hd : d ∈ q) : (lockM m nr lk dn q).1.1 13 d = nI (rOut dn lk) := by
  unfold lockM at h ⊢
  split at h
  · exact absurd (show (3 : Int32) = 0 from h) (by decide)
  · split at h
    · exact absurd (show (4 : Int32) = 0 from h) (by decide)
    · rename_i h1 h2
      rw [if_neg h1, if_neg h2]
      exact movesM_i _ _ hd
theorem PsOK.inv {m : Ms} {nr lk : Nat} {dn : Bool} {q : List Nat} (h : PsOK m nr lk dn q) : PsOK m nr lk dn (paM m lk q 0 ++ epM m lk q 0) := by rw [pa_ep]; exact h
theorem passL_13 {nr lk j : Nat} {dn : Bool} : ∀ (n : Nat) (m : Ms) (s9 : List Nat) (n9 : Nat), j ∉ s9 → (passL nr lk dn n m s9 n9).1.1 13 j = m.1 13 j
  | 0, _, _, _, _ => rfl
  | n + 1, _, [], _, _ => rfl
  | n + 1, m, b :: r, n9, h => by
    have e := pa_ep (m := m) (lk := lk) (b :: r) 0
    have h1 : j ∉ paM m lk (b :: r) 0 := fun z => h (e ▸ List.mem_append_left _ z)
    have h2 : j ∉ epM m lk (b :: r) 0 := fun z => h (e ▸ List.mem_append_right _ z)
    rw [passL]
    split
    · exact (passL_13 n _ _ _ h2).trans (lockM_13 h1)
    · exact (refM_p (by decide)).trans (lockM_13 h1)
theorem nI_nz {k : Nat} (h : k < 2 ^ 30) (h0 : nI k = 0) : k = 0 := by
  have z : nI k = nI 0 := h0
  rw [nI_eq (by omega) (by omega)] at z; exact z
/-- after all parts have gone through, each barge lies beyond the lock -/
theorem passL_at {nr lk : Nat} {dn : Bool} : ∀ (n : Nat) (m : Ms) (s9 : List Nat) (n9 : Nat), PsOK m nr lk dn s9 → s9.length ≤ n → ¬ (passL nr lk dn n m s9 n9).2 = 0 → ∀ d ∈ s9, (passL nr lk dn n m s9 n9).1.1 13 d = nI (rOut dn lk)
  | 0, _, s9, _, _, hl, _, d, hd => by
    rw [List.length_eq_zero_iff.mp (Nat.le_zero.mp hl)] at hd; cases hd
  | n + 1, _, [], _, _, _, _, d, hd => by cases hd
  | n + 1, m, b :: r, n9, hp, hl, h, d, hd => by
    have e := pa_ep (m := m) (lk := lk) (b :: r) 0
    have hx := hp.inv
    have hfit := hp.2.2.2.2.2.2.2 b List.mem_cons_self
    have hep : (epM m lk (b :: r) 0).length ≤ r.length := by rw [epM, if_neg (by rw [Int32.zero_add]; exact hfit)]; exact epM_len _ _
    have hnd := List.nodup_append.mp hx.2.2.2.2.2.1
    rw [passL] at h ⊢
    split at h
    · rename_i hc
      rw [if_pos hc]
      rcases List.mem_append.mp (e.symm ▸ hd) with h1 | h1
      · exact (passL_13 n _ _ _ (fun z => hnd.2.2 d h1 d z rfl)).trans (lockM_at hc h1)
      · exact passL_at n _ _ _ hx.step (by rw [List.length_cons] at hl; omega) h d h1
    · exact absurd rfl h
theorem passM_13 {m : Ms} {nr lk j f : Nat} {dn : Bool} {t : List Nat} (h : j ∉ f :: t) : (passM m nr lk dn f t).1.1 13 j = m.1 13 j := by
  unfold passM; split
  · split
    · exact refM_p (by decide)
    · exact passL_13 _ _ _ _ h
  · exact refM_p (by decide)
/-- all that a way from reach to reach needs -/
def SlOK (m : Ms) (nr r b : Nat) (rl : List Nat) (f : Nat) (t : List Nat) : Prop := m.1 0 1 = nI nr ∧ nr ≤ 6 ∧ r < nr ∧ MAr m nr ∧ MCv m b rl f t ∧ (f :: t).Nodup ∧ PtOK m r (f :: t) ∧ b ∈ f :: t
theorem passM_at {m : Ms} {nr lk f : Nat} {dn : Bool} {t : List Nat} (hp : tlM m lk (f :: t) 0 = 0 → PsOK m nr lk dn (f :: t)) (h : ¬ (passM m nr lk dn f t).2 = 0) : ∀ d ∈ f :: t, (passM m nr lk dn f t).1.1 13 d = nI (rOut dn lk) := by
  unfold passM at h ⊢
  split at h
  · rename_i h1
    split at h
    · exact absurd rfl h
    · rename_i h2
      rw [if_pos h1, if_neg h2]
      exact passL_at _ _ _ _ (hp h1) (Nat.le_refl _) h
  · exact absurd rfl h
theorem MPre_w {m m' : Ms} (h : ∀ b, m'.1 18 b = m.1 18 b) : ∀ {s : List Nat}, MPre m s → MPre m' s
  | [], _ => trivial
  | _ :: _, hs => ⟨hs.1, (h _).trans hs.2.1, MPre_w h hs.2.2⟩
theorem MCv_w {m m' : Ms} {b : Nat} {r : List Nat} {f : Nat} {t : List Nat} (h18 : ∀ b, m'.1 18 b = m.1 18 b) (h19 : ∀ b, m'.1 19 b = m.1 19 b) (h : MCv m b r f t) : MCv m' b r f t := ⟨MPre_w h18 h.1, h.2.1, MSuf_w h19 h.2.2⟩
theorem SlOK.ps {m : Ms} {nr b : Nat} {rl : List Nat} {f : Nat} {t : List Nat} {lk : Nat} {dn : Bool} (h : SlOK m nr (rIn dn lk) b rl f t) (hk : lk + 2 ≤ nr) (h1 : tlM m lk (f :: t) 0 = 0) : PsOK m nr lk dn (f :: t) := ⟨h.1, h.2.1, hk, h.2.2.2.1, h.2.2.2.2.1.2.2, h.2.2.2.2.2.1, h.2.2.2.2.2.2.1, tlM_0 _ h1⟩
theorem SlOK.step {m : Ms} {nr b : Nat} {rl : List Nat} {f : Nat} {t : List Nat} {lk : Nat} {dn : Bool} (h : SlOK m nr (rIn dn lk) b rl f t) (hk : lk + 2 ≤ nr) (hz : ¬ (passM m nr lk dn f t).2 = 0) : SlOK (passM m nr lk dn f t).1 nr (rOut dn lk) b rl f t := by
  have hat := passM_at (fun h1 => h.ps hk h1) hz
  refine ⟨(passM_0 (by decide) (by decide) (by decide) (by decide)).trans h.1, h.2.1, by unfold rOut; split <;> omega, fun k q z => h.2.2.2.1 k q ((passM_p (by decide) (by decide) (by decide) (by decide) (by decide) (by decide) (by decide) (by decide)).symm.trans z), MCv_w (fun _ => passM_p (by decide) (by decide) (by decide) (by decide) (by decide) (by decide) (by decide) (by decide)) (fun _ => passM_p (by decide) (by decide) (by decide) (by decide) (by decide) (by decide) (by decide) (by decide)) h.2.2.2.2.1, h.2.2.2.2.2.1, fun d hd => ⟨hat d hd, fun z => (h.2.2.2.2.2.2.1 d hd).2 ((passM_p (by decide) (by decide) (by decide) (by decide) (by decide) (by decide) (by decide) (by decide)).symm.trans z)⟩, h.2.2.2.2.2.2.2⟩
/-- lock by lock to a reach -/
def sailM (nr f : Nat) (t : List Nat) (dst : Nat) : Nat → Ms → Nat → Int32 → Ms × Int32
  | 0, m, _, acc => (m, acc)
  | k + 1, m, r, acc => if r = dst then (m, acc) else if r < dst then (if (passM m nr r true f t).2 = 0 then ((passM m nr r true f t).1, 0) else sailM nr f t dst k (passM m nr r true f t).1 (r + 1) (acc + (passM m nr r true f t).2)) else (if (passM m nr (r - 1) false f t).2 = 0 then ((passM m nr (r - 1) false f t).1, 0) else sailM nr f t dst k (passM m nr (r - 1) false f t).1 (r - 1) (acc + (passM m nr (r - 1) false f t).2))
theorem nI_leT {a b : Nat} (h : a ≤ b) (hb : b < 2 ^ 30) : nI a ≤ nI b := by
  rw [Int32.le_iff_toInt_le, nI_toInt (by omega), nI_toInt (by omega)]
  omega
set_option maxHeartbeats 4000000 in
set_option maxRecDepth 100000 in
theorem Msails_l (hG : az_okS l G) {p : Program} {e : Env} {s : State} {mm : MethodId} {args : Array Value} {below : List Frame} {meth : Method} {c : Code} (C : az_C l G p s mm args meth c cX4_sails yX4_sails.cls 5 (Option.some FieldType.int) []) : ∀ (nr b : Nat) (rl : List Nat) (f : Nat) (t : List Nat) (dst : Nat) (hdst : dst < nr) (hnr : nr ≤ 6) (k : Nat) {m : Ms} (r : Nat) (acc : Int32) (hm : mvok m (k * ((t.length + 1) * (2 * nr + 1)))) (hs : SlOK m nr r b rl f t) (hd : r + 1 ≤ dst + k ∧ dst + 1 ≤ r + k), az_W l G 5 (az_Q G (az_r (some (.int (sailM nr f t dst k m r acc).2)) (AD ρ) (KK G ρ x (sailM nr f t dst k m r acc).1 ou)) below args s 0 0) p e (az_rm 7 0 0) s mm args below meth c (AD ρ) (KK G ρ x m ou) 0 0 2 [(3, .int acc), (2, .int (nI dst)), (1, .int (nI b)), (0, .ref (ρ.1 100))] [] := by
  intro nr b rl f t dst hdst hnr k
  induction k with
  | zero =>
    intro m r acc hm hs hd
    exact absurd hd (by omega)
  | succ k ih =>
    intro m r acc hm hs hd
    have hb8 : b < 8 := hs.2.2.2.2.1.1.1
    have hrn := hs.2.2.1
    by_cases hrd : r = dst
    · subst hrd
      have e : sailM nr f t r (k + 1) m r acc = (m, acc) := by rw [sailM, if_pos rfl]
      rw [e]
      refine az_aload_n C 3 dX4_sails_2 rfl ?_
      refine az_get C cX4 2 0 13 (v := .ref (ρ.1 113)) wl_X4_42 dX4_sails_3 rfl rfl rfl (by decide) ?_
      refine az_iload_n C 2 dX4_sails_6 rfl ?_
      refine az_ialdN C 2 13 b (v := m.1 13 b) dX4_sails_7 rfl rfl (by omega) (by decide) rfl ?_
      refine az_top (nI r) (hs.2.2.2.2.2.2.1 b hs.2.2.2.2.2.2.2).1 ?_
      refine az_iload_n C 1 dX4_sails_8 rfl ?_
      refine az_icmp_eq C 49 dX4_sails_9 (by decide) (fun _ => ?_) (fun q => absurd rfl q)
      refine az_iload_n C 0 dX4_sails_49 rfl ?_
      exact az_iret C rfl dX4_sails_50 (Nat.le_of_ble_eq_true rfl) (Nat.le_of_ble_eq_true rfl) ⟨rfl, rfl, rfl⟩
    by_cases hlt : r < dst
    · by_cases hz : (passM m nr r true f t).2 = 0
      · have e : (sailM nr f t dst (k + 1) m r acc) = ((passM m nr r true f t).1, 0) := by rw [sailM, if_neg hrd, if_pos hlt, if_pos hz]
        rw [e]
        refine az_aload_n C 3 dX4_sails_2 rfl ?_
        refine az_get C cX4 2 0 13 (v := .ref (ρ.1 113)) wl_X4_42 dX4_sails_3 rfl rfl rfl (by decide) ?_
        refine az_iload_n C 2 dX4_sails_6 rfl ?_
        refine az_ialdN C 2 13 b (v := m.1 13 b) dX4_sails_7 rfl rfl (by omega) (by decide) rfl ?_
        refine az_top (nI r) (hs.2.2.2.2.2.2.1 b hs.2.2.2.2.2.2.2).1 ?_
        refine az_iload_n C 1 dX4_sails_8 rfl ?_
        refine az_icmp_eq C 49 dX4_sails_9 (by decide) (fun q => absurd q (fun z => hrd (by have := hs.2.2.1; rw [nI_eq (by omega) (by omega)] at z; exact z))) (fun _ => ?_)
        refine az_aload_n C 3 dX4_sails_12 rfl ?_
        refine az_iload_n C 2 dX4_sails_13 rfl ?_
        refine az_aload_n C 3 dX4_sails_14 rfl ?_
        refine az_get C cX4 2 0 13 (v := .ref (ρ.1 113)) wl_X4_42 dX4_sails_15 rfl rfl rfl (by decide) ?_
        refine az_iload_n C 2 dX4_sails_18 rfl ?_
        refine az_ialdN C 2 13 b (v := m.1 13 b) dX4_sails_19 rfl rfl (by omega) (by decide) rfl ?_
        refine az_top (nI r) (hs.2.2.2.2.2.2.1 b hs.2.2.2.2.2.2.2).1 ?_
        refine az_iload_n C 1 dX4_sails_20 rfl ?_
        refine az_icmp_ge C 28 dX4_sails_21 (by decide) (fun q => absurd q (nlt_nle hlt (by omega))) (fun _ => ?_)
        refine az_iconst C (v := 1) dX4_sails_24 (by decide) ?_
        refine az_goto C 29 dX4_sails_25 (by decide) ?_
        refine az_callV C Y_X4_passes cX4 2 0 [.int (nI b), .int 1] [] wm_X4_200 wi_X4_passes wse_X4_passes dX4_sails_29 rfl rfl rfl (Mpasses1 hG nr r b rl f t hs.2.2.2.2.1 hs.1 hs.2.1 (by have := hs.2.2.1; omega) hs.2.2.2.1 hs.2.2.2.2.2.1 hs.2.2.2.2.2.2.1 (hs.2.2.2.2.2.2.1 b hs.2.2.2.2.2.2.2).1 (hm.le (by rw [Nat.add_mul k 1, Nat.one_mul]; exact Nat.le_add_left _ _))) rfl (Nat.le_of_ble_eq_true rfl) (Nat.le_of_ble_eq_true rfl) (Nat.le_of_ble_eq_true rfl) (Nat.le_of_ble_eq_true rfl) (Nat.le_of_ble_eq_true rfl) (az_k1 rfl rfl ?_) (az_k0 rfl)
        refine az_istore C (lv' := [(4, .int ((passM m nr r true f t).2)), (3, .int acc), (2, .int (nI dst)), (1, .int (nI b)), (0, .ref (ρ.1 100))]) dX4_sails_32 (by decide) rfl ?_
        refine az_iload C 0 dX4_sails_34 rfl ?_
        refine az_if_ne C 41 dX4_sails_36 (by decide) (fun q => absurd hz q) (fun _ => ?_)
        refine az_iconst C (v := 0) dX4_sails_39 (by decide) ?_
        exact az_iret C rfl dX4_sails_40 (Nat.le_of_ble_eq_true rfl) (Nat.le_of_ble_eq_true rfl) ⟨rfl, rfl, rfl⟩
      · have e : (sailM nr f t dst (k + 1) m r acc) = sailM nr f t dst k (passM m nr r true f t).1 (r + 1) (acc + (passM m nr r true f t).2) := by rw [sailM, if_neg hrd, if_pos hlt, if_neg hz]
        rw [e]
        refine az_aload_n C 3 dX4_sails_2 rfl ?_
        refine az_get C cX4 2 0 13 (v := .ref (ρ.1 113)) wl_X4_42 dX4_sails_3 rfl rfl rfl (by decide) ?_
        refine az_iload_n C 2 dX4_sails_6 rfl ?_
        refine az_ialdN C 2 13 b (v := m.1 13 b) dX4_sails_7 rfl rfl (by omega) (by decide) rfl ?_
        refine az_top (nI r) (hs.2.2.2.2.2.2.1 b hs.2.2.2.2.2.2.2).1 ?_
        refine az_iload_n C 1 dX4_sails_8 rfl ?_
        refine az_icmp_eq C 49 dX4_sails_9 (by decide) (fun q => absurd q (fun z => hrd (by have := hs.2.2.1; rw [nI_eq (by omega) (by omega)] at z; exact z))) (fun _ => ?_)
        refine az_aload_n C 3 dX4_sails_12 rfl ?_
        refine az_iload_n C 2 dX4_sails_13 rfl ?_
        refine az_aload_n C 3 dX4_sails_14 rfl ?_
        refine az_get C cX4 2 0 13 (v := .ref (ρ.1 113)) wl_X4_42 dX4_sails_15 rfl rfl rfl (by decide) ?_
        refine az_iload_n C 2 dX4_sails_18 rfl ?_
        refine az_ialdN C 2 13 b (v := m.1 13 b) dX4_sails_19 rfl rfl (by omega) (by decide) rfl ?_
        refine az_top (nI r) (hs.2.2.2.2.2.2.1 b hs.2.2.2.2.2.2.2).1 ?_
        refine az_iload_n C 1 dX4_sails_20 rfl ?_
        refine az_icmp_ge C 28 dX4_sails_21 (by decide) (fun q => absurd q (nlt_nle hlt (by omega))) (fun _ => ?_)
        refine az_iconst C (v := 1) dX4_sails_24 (by decide) ?_
        refine az_goto C 29 dX4_sails_25 (by decide) ?_
        refine az_callV C Y_X4_passes cX4 2 0 [.int (nI b), .int 1] [] wm_X4_200 wi_X4_passes wse_X4_passes dX4_sails_29 rfl rfl rfl (Mpasses1 hG nr r b rl f t hs.2.2.2.2.1 hs.1 hs.2.1 (by have := hs.2.2.1; omega) hs.2.2.2.1 hs.2.2.2.2.2.1 hs.2.2.2.2.2.2.1 (hs.2.2.2.2.2.2.1 b hs.2.2.2.2.2.2.2).1 (hm.le (by rw [Nat.add_mul k 1, Nat.one_mul]; exact Nat.le_add_left _ _))) rfl (Nat.le_of_ble_eq_true rfl) (Nat.le_of_ble_eq_true rfl) (Nat.le_of_ble_eq_true rfl) (Nat.le_of_ble_eq_true rfl) (Nat.le_of_ble_eq_true rfl) (az_k1 rfl rfl ?_) (az_k0 rfl)
        refine az_istore C (lv' := [(4, .int ((passM m nr r true f t).2)), (3, .int acc), (2, .int (nI dst)), (1, .int (nI b)), (0, .ref (ρ.1 100))]) dX4_sails_32 (by decide) rfl ?_
        refine az_iload C 0 dX4_sails_34 rfl ?_
        refine az_if_ne C 41 dX4_sails_36 (by decide) (fun _ => ?_) (fun q => absurd q hz)
        refine az_iload_n C 1 dX4_sails_41 rfl ?_
        refine az_iload C 0 dX4_sails_42 rfl ?_
        refine az_iadd C dX4_sails_44 ?_
        refine az_istore_n C (lv' := [(3, .int ((acc + (passM m nr r true f t).2))), (4, .int ((passM m nr r true f t).2)), (2, .int (nI dst)), (1, .int (nI b)), (0, .ref (ρ.1 100))]) (j := 3) rfl dX4_sails_45 (by decide) rfl ?_
        refine az_goto C 2 dX4_sails_46 (by decide) ?_
        have hm2 : mvok m ((t.length + 1) * (2 * nr + 1) + k * ((t.length + 1) * (2 * nr + 1))) := hm.le (Nat.le_of_eq (by rw [Nat.add_mul k 1, Nat.one_mul]; exact Nat.add_comm _ _))
        exact az_lv [0, 2, 3, 4] rfl (ih (r + 1) _ (passM_ok (by omega) hm2) (SlOK.step (lk := r) (dn := true) hs (by omega) hz) (by omega))
    · have hr0 : r - 1 + 1 = r := by omega
      have hs2 : SlOK m nr (rIn false (r - 1)) b rl f t := by unfold rIn; rw [if_neg (by decide), hr0]; exact hs
      by_cases hz : (passM m nr (r - 1) false f t).2 = 0
      · have e : (sailM nr f t dst (k + 1) m r acc) = ((passM m nr (r - 1) false f t).1, 0) := by rw [sailM, if_neg hrd, if_neg hlt, if_pos hz]
        rw [e]
        refine az_aload_n C 3 dX4_sails_2 rfl ?_
        refine az_get C cX4 2 0 13 (v := .ref (ρ.1 113)) wl_X4_42 dX4_sails_3 rfl rfl rfl (by decide) ?_
        refine az_iload_n C 2 dX4_sails_6 rfl ?_
        refine az_ialdN C 2 13 b (v := m.1 13 b) dX4_sails_7 rfl rfl (by omega) (by decide) rfl ?_
        refine az_top (nI r) (hs.2.2.2.2.2.2.1 b hs.2.2.2.2.2.2.2).1 ?_
        refine az_iload_n C 1 dX4_sails_8 rfl ?_
        refine az_icmp_eq C 49 dX4_sails_9 (by decide) (fun q => absurd q (fun z => hrd (by have := hs.2.2.1; rw [nI_eq (by omega) (by omega)] at z; exact z))) (fun _ => ?_)
        refine az_aload_n C 3 dX4_sails_12 rfl ?_
        refine az_iload_n C 2 dX4_sails_13 rfl ?_
        refine az_aload_n C 3 dX4_sails_14 rfl ?_
        refine az_get C cX4 2 0 13 (v := .ref (ρ.1 113)) wl_X4_42 dX4_sails_15 rfl rfl rfl (by decide) ?_
        refine az_iload_n C 2 dX4_sails_18 rfl ?_
        refine az_ialdN C 2 13 b (v := m.1 13 b) dX4_sails_19 rfl rfl (by omega) (by decide) rfl ?_
        refine az_top (nI r) (hs.2.2.2.2.2.2.1 b hs.2.2.2.2.2.2.2).1 ?_
        refine az_iload_n C 1 dX4_sails_20 rfl ?_
        refine az_icmp_ge C 28 dX4_sails_21 (by decide) (fun _ => ?_) (fun q => absurd (nI_leT (by omega) (by omega)) q)
        refine az_iconst C (v := 0) dX4_sails_28 (by decide) ?_
        refine az_callV C Y_X4_passes cX4 2 0 [.int (nI b), .int 0] [] wm_X4_200 wi_X4_passes wse_X4_passes dX4_sails_29 rfl rfl rfl (Mpasses0 hG nr (r - 1) b rl f t hs.2.2.2.2.1 hs.1 hs.2.1 (by have := hs.2.2.1; omega) hs.2.2.2.1 hs.2.2.2.2.2.1 hs2.2.2.2.2.2.2.1 (hs2.2.2.2.2.2.2.1 b hs.2.2.2.2.2.2.2).1 (hm.le (by rw [Nat.add_mul k 1, Nat.one_mul]; exact Nat.le_add_left _ _))) rfl (Nat.le_of_ble_eq_true rfl) (Nat.le_of_ble_eq_true rfl) (Nat.le_of_ble_eq_true rfl) (Nat.le_of_ble_eq_true rfl) (Nat.le_of_ble_eq_true rfl) (az_k1 rfl rfl ?_) (az_k0 rfl)
        refine az_istore C (lv' := [(4, .int ((passM m nr (r - 1) false f t).2)), (3, .int acc), (2, .int (nI dst)), (1, .int (nI b)), (0, .ref (ρ.1 100))]) dX4_sails_32 (by decide) rfl ?_
        refine az_iload C 0 dX4_sails_34 rfl ?_
        refine az_if_ne C 41 dX4_sails_36 (by decide) (fun q => absurd hz q) (fun _ => ?_)
        refine az_iconst C (v := 0) dX4_sails_39 (by decide) ?_
        exact az_iret C rfl dX4_sails_40 (Nat.le_of_ble_eq_true rfl) (Nat.le_of_ble_eq_true rfl) ⟨rfl, rfl, rfl⟩
      · have e : (sailM nr f t dst (k + 1) m r acc) = sailM nr f t dst k (passM m nr (r - 1) false f t).1 (r - 1) (acc + (passM m nr (r - 1) false f t).2) := by rw [sailM, if_neg hrd, if_neg hlt, if_neg hz]
        rw [e]
        refine az_aload_n C 3 dX4_sails_2 rfl ?_
        refine az_get C cX4 2 0 13 (v := .ref (ρ.1 113)) wl_X4_42 dX4_sails_3 rfl rfl rfl (by decide) ?_
        refine az_iload_n C 2 dX4_sails_6 rfl ?_
        refine az_ialdN C 2 13 b (v := m.1 13 b) dX4_sails_7 rfl rfl (by omega) (by decide) rfl ?_
        refine az_top (nI r) (hs.2.2.2.2.2.2.1 b hs.2.2.2.2.2.2.2).1 ?_
        refine az_iload_n C 1 dX4_sails_8 rfl ?_
        refine az_icmp_eq C 49 dX4_sails_9 (by decide) (fun q => absurd q (fun z => hrd (by have := hs.2.2.1; rw [nI_eq (by omega) (by omega)] at z; exact z))) (fun _ => ?_)
        refine az_aload_n C 3 dX4_sails_12 rfl ?_
        refine az_iload_n C 2 dX4_sails_13 rfl ?_
        refine az_aload_n C 3 dX4_sails_14 rfl ?_
        refine az_get C cX4 2 0 13 (v := .ref (ρ.1 113)) wl_X4_42 dX4_sails_15 rfl rfl rfl (by decide) ?_
        refine az_iload_n C 2 dX4_sails_18 rfl ?_
        refine az_ialdN C 2 13 b (v := m.1 13 b) dX4_sails_19 rfl rfl (by omega) (by decide) rfl ?_
        refine az_top (nI r) (hs.2.2.2.2.2.2.1 b hs.2.2.2.2.2.2.2).1 ?_
        refine az_iload_n C 1 dX4_sails_20 rfl ?_
        refine az_icmp_ge C 28 dX4_sails_21 (by decide) (fun _ => ?_) (fun q => absurd (nI_leT (by omega) (by omega)) q)
        refine az_iconst C (v := 0) dX4_sails_28 (by decide) ?_
        refine az_callV C Y_X4_passes cX4 2 0 [.int (nI b), .int 0] [] wm_X4_200 wi_X4_passes wse_X4_passes dX4_sails_29 rfl rfl rfl (Mpasses0 hG nr (r - 1) b rl f t hs.2.2.2.2.1 hs.1 hs.2.1 (by have := hs.2.2.1; omega) hs.2.2.2.1 hs.2.2.2.2.2.1 hs2.2.2.2.2.2.2.1 (hs2.2.2.2.2.2.2.1 b hs.2.2.2.2.2.2.2).1 (hm.le (by rw [Nat.add_mul k 1, Nat.one_mul]; exact Nat.le_add_left _ _))) rfl (Nat.le_of_ble_eq_true rfl) (Nat.le_of_ble_eq_true rfl) (Nat.le_of_ble_eq_true rfl) (Nat.le_of_ble_eq_true rfl) (Nat.le_of_ble_eq_true rfl) (az_k1 rfl rfl ?_) (az_k0 rfl)
        refine az_istore C (lv' := [(4, .int ((passM m nr (r - 1) false f t).2)), (3, .int acc), (2, .int (nI dst)), (1, .int (nI b)), (0, .ref (ρ.1 100))]) dX4_sails_32 (by decide) rfl ?_
        refine az_iload C 0 dX4_sails_34 rfl ?_
        refine az_if_ne C 41 dX4_sails_36 (by decide) (fun _ => ?_) (fun q => absurd q hz)
        refine az_iload_n C 1 dX4_sails_41 rfl ?_
        refine az_iload C 0 dX4_sails_42 rfl ?_
        refine az_iadd C dX4_sails_44 ?_
        refine az_istore_n C (lv' := [(3, .int ((acc + (passM m nr (r - 1) false f t).2))), (4, .int ((passM m nr (r - 1) false f t).2)), (2, .int (nI dst)), (1, .int (nI b)), (0, .ref (ρ.1 100))]) (j := 3) rfl dX4_sails_45 (by decide) rfl ?_
        refine az_goto C 2 dX4_sails_46 (by decide) ?_
        have hm2 : mvok m ((t.length + 1) * (2 * nr + 1) + k * ((t.length + 1) * (2 * nr + 1))) := hm.le (Nat.le_of_eq (by rw [Nat.add_mul k 1, Nat.one_mul]; exact Nat.add_comm _ _))
        exact az_lv [0, 2, 3, 4] rfl (ih (r - 1) _ (passM_ok (by omega) hm2) (SlOK.step (lk := r - 1) (dn := false) hs2 (by omega) hz) (by omega))

set_option maxHeartbeats 4000000 in
set_option maxRecDepth 100000 in
theorem Msails (hG : az_okS l G) (nr r b : Nat) (rl : List Nat) (f : Nat) (t : List Nat) (dst : Nat) (hdst : dst < nr) (hs : SlOK m nr r b rl f t) (hm : mvok m (6 * ((t.length + 1) * (2 * nr + 1)))) : az_M l G yX4_sails (az_ws yX4_sails cX4_sails 5 (Option.some FieldType.int)) 7 [.ref (ρ.1 100), .int (nI b), .int (nI dst)] (AD ρ) (KK G ρ x m ou) 0 0 (az_r (some (.int (sailM nr f t dst 6 m r 0).2)) (AD ρ) (KK G ρ x (sailM nr f t dst 6 m r 0).1 ou)) := by
  refine az_start hG.1 (by decide +kernel) (Nat.le_of_ble_eq_true rfl) ?_
  intro p e s mm args below meth c C hnm
  show az_W l G 5 _ p e _ s mm args below meth c _ _ 0 0 0 [(0, .ref (ρ.1 100)), (1, .int (nI b)), (2, .int (nI dst))] []
  refine az_iconst C (v := 0) dX4_sails_0 (by decide) ?_
  refine az_istore_n C (lv' := [(3, .int 0), (0, .ref (ρ.1 100)), (1, .int (nI b)), (2, .int (nI dst))]) (j := 3) rfl dX4_sails_1 (by decide) rfl ?_
  exact az_lv [0, 3, 2, 1] rfl (Msails_l hG C nr b rl f t dst hdst hs.2.1 6 r 0 hm hs (by have := hs.2.1; have := hs.2.2.1; omega))

theorem SlOK.keep {m : Ms} {nr r b : Nat} {rl : List Nat} {f : Nat} {t : List Nat} (h : SlOK m nr r b rl f t) : SlOK (keepsM m) nr r b rl f t :=
  ⟨h.1, h.2.1, h.2.2.1, h.2.2.2.1, MCv_w (m := m) (fun _ => rfl) (fun _ => rfl) h.2.2.2.2.1, h.2.2.2.2.2.1, h.2.2.2.2.2.2.1, h.2.2.2.2.2.2.2⟩
def canS (m : Ms) (nr f : Nat) (t : List Nat) (r dst : Nat) : Ms := backM (sailM nr f t dst 6 (keepsM m) r 0).1
def canV (m : Ms) (nr f : Nat) (t : List Nat) (r dst : Nat) : Int32 := if (sailM nr f t dst 6 (keepsM m) r 0).2 ≤ 0 then 0 else 1
set_option maxHeartbeats 4000000 in
set_option maxRecDepth 100000 in
theorem Mcan1 (hG : az_okS l G) (nr r b : Nat) (rl : List Nat) (f : Nat) (t : List Nat) (dst : Nat) (hdst : dst < nr) (hs : SlOK m nr r b rl f t) (hm : mvok m (6 * ((t.length + 1) * (2 * nr + 1)))) (hrd : r = dst) : az_M l G yX4_can (az_ws yX4_can cX4_can 4 (Option.some FieldType.boolean)) 8 [.ref (ρ.1 100), .int (nI b), .int (nI dst)] (AD ρ) (KK G ρ x m ou) 0 0 (az_r (some (.int 1)) (AD ρ) (KK G ρ x m ou)) := by
  refine az_start hG.1 (by decide +kernel) (Nat.le_of_ble_eq_true rfl) ?_
  intro p e s mm args below meth c C hnm
  show az_W l G 4 _ p e _ s mm args below meth c _ _ 0 0 0 [(0, .ref (ρ.1 100)), (1, .int (nI b)), (2, .int (nI dst))] []
  have hb8 : b < 8 := hs.2.2.2.2.1.1.1
  have hn6 : nr ≤ 6 := hs.2.1
  have hrn := hs.2.2.1
  refine az_aload_n C 0 dX4_can_0 rfl ?_
  refine az_get C cX4 2 0 13 (v := .ref (ρ.1 113)) wl_X4_42 dX4_can_1 rfl rfl rfl (by decide) ?_
  refine az_iload_n C 1 dX4_can_4 rfl ?_
  refine az_ialdN C 2 13 b (v := m.1 13 b) dX4_can_5 rfl rfl (by omega) (by decide) rfl ?_
  refine az_top (nI r) (hs.2.2.2.2.2.2.1 b hs.2.2.2.2.2.2.2).1 ?_
  refine az_iload_n C 2 dX4_can_6 rfl ?_
  refine az_icmp_ne C 12 dX4_can_7 (by decide) (fun q => absurd (by rw [hrd]) q) (fun _ => ?_)
  refine az_iconst C (v := 1) dX4_can_10 (by decide) ?_
  exact az_zret C .boolean rfl rfl dX4_can_11 (Nat.le_of_ble_eq_true rfl) (Nat.le_of_ble_eq_true rfl) ⟨rfl, rfl, rfl⟩

set_option maxHeartbeats 4000000 in
set_option maxRecDepth 100000 in
theorem Mcan0 (hG : az_okS l G) (nr r b : Nat) (rl : List Nat) (f : Nat) (t : List Nat) (dst : Nat) (hdst : dst < nr) (hs : SlOK m nr r b rl f t) (hm : mvok m (6 * ((t.length + 1) * (2 * nr + 1)))) (hrd : ¬ r = dst) : az_M l G yX4_can (az_ws yX4_can cX4_can 4 (Option.some FieldType.boolean)) 8 [.ref (ρ.1 100), .int (nI b), .int (nI dst)] (AD ρ) (KK G ρ x m ou) 0 0 (az_r (some (.int (canV m nr f t r dst))) (AD ρ) (KK G ρ x (canS m nr f t r dst) ou)) := by
  refine az_start hG.1 (by decide +kernel) (Nat.le_of_ble_eq_true rfl) ?_
  intro p e s mm args below meth c C hnm
  show az_W l G 4 _ p e _ s mm args below meth c _ _ 0 0 0 [(0, .ref (ρ.1 100)), (1, .int (nI b)), (2, .int (nI dst))] []
  have hb8 : b < 8 := hs.2.2.2.2.1.1.1
  have hn6 : nr ≤ 6 := hs.2.1
  have hrn := hs.2.2.1
  refine az_aload_n C 0 dX4_can_0 rfl ?_
  refine az_get C cX4 2 0 13 (v := .ref (ρ.1 113)) wl_X4_42 dX4_can_1 rfl rfl rfl (by decide) ?_
  refine az_iload_n C 1 dX4_can_4 rfl ?_
  refine az_ialdN C 2 13 b (v := m.1 13 b) dX4_can_5 rfl rfl (by omega) (by decide) rfl ?_
  refine az_top (nI r) (hs.2.2.2.2.2.2.1 b hs.2.2.2.2.2.2.2).1 ?_
  refine az_iload_n C 2 dX4_can_6 rfl ?_
  refine az_icmp_ne C 12 dX4_can_7 (by decide) (fun _ => ?_) (fun q => absurd q (fun z => hrd (by rw [nI_eq (by omega) (by omega)] at z; exact z)))
  refine az_aload_n C 0 dX4_can_12 rfl ?_
  refine az_callV C Y_X4_keeps cX4 2 0 [] [] wm_X4_213 wi_X4_keeps wse_X4_keeps dX4_can_13 rfl rfl rfl (Mkeeps hG) rfl (Nat.le_of_ble_eq_true rfl) (Nat.le_of_ble_eq_true rfl) (Nat.le_of_ble_eq_true rfl) (Nat.le_of_ble_eq_true rfl) (Nat.le_of_ble_eq_true rfl) (az_k1 rfl rfl ?_) (az_k0 rfl)
  refine az_aload_n C 0 dX4_can_16 rfl ?_
  refine az_iload_n C 1 dX4_can_17 rfl ?_
  refine az_iload_n C 2 dX4_can_18 rfl ?_
  refine az_callV C Y_X4_sails cX4 2 0 [.int (nI b), .int (nI dst)] [] wm_X4_219 wi_X4_sails wse_X4_sails dX4_can_19 rfl rfl rfl (Msails hG nr r b rl f t dst hdst hs.keep (hm.eq rfl)) rfl (Nat.le_of_ble_eq_true rfl) (Nat.le_of_ble_eq_true rfl) (Nat.le_of_ble_eq_true rfl) (Nat.le_of_ble_eq_true rfl) (Nat.le_of_ble_eq_true rfl) (az_k1 rfl rfl ?_) (az_k0 rfl)
  refine az_istore_n C (lv' := [(3, .int ((sailM nr f t dst 6 (keepsM m) r 0).2)), (0, .ref (ρ.1 100)), (1, .int (nI b)), (2, .int (nI dst))]) (j := 3) rfl dX4_can_22 (by decide) rfl ?_
  refine az_aload_n C 1 dX4_can_23 rfl ?_
  refine az_callV C Y_X4_takesBack cX4 2 0 [] [] wm_X4_204 wi_X4_takesBack wse_X4_takesBack dX4_can_24 rfl rfl rfl (MtakesBack hG) rfl (Nat.le_of_ble_eq_true rfl) (Nat.le_of_ble_eq_true rfl) (Nat.le_of_ble_eq_true rfl) (Nat.le_of_ble_eq_true rfl) (Nat.le_of_ble_eq_true rfl) (az_k1 rfl rfl ?_) (az_k0 rfl)
  refine az_iload_n C 0 dX4_can_27 rfl ?_
  suffices J1 : az_W l G 4 (az_Q G (az_r (some (.int (canV m nr f t r dst))) (AD ρ) (KK G ρ x (canS m nr f t r dst) ou)) below args s 0 0) p e _ s mm args below meth c (AD ρ) (KK G ρ x (backM (sailM nr f t dst 6 (keepsM m) r 0).1) ou) _ _ 36 [(3, .int ((sailM nr f t dst 6 (keepsM m) r 0).2)), (0, .ref (ρ.1 100)), (1, .int (nI b)), (2, .int (nI dst))] [.int ((if (sailM nr f t dst 6 (keepsM m) r 0).2 ≤ 0 then 0 else 1))] by
    refine az_if_le C 35 dX4_can_28 (by decide) (fun c2 => ?_) (fun c2 => ?_)
    · refine az_iconst C (v := 0) dX4_can_35 (by decide) ?_
      first | rw [if_pos (show (sailM nr f t dst 6 (keepsM m) r 0).2 ≤ 0 from c2)] at J1 ⊢ | rw [if_pos (show (sailM nr f t dst 6 (keepsM m) r 0).2 ≤ 0 from c2)] at J1
      exact az_lv [0, 1, 2, 3] rfl J1
    · refine az_iconst C (v := 1) dX4_can_31 (by decide) ?_
      refine az_goto C 36 dX4_can_32 (by decide) ?_
      first | rw [if_neg (show ¬ ((sailM nr f t dst 6 (keepsM m) r 0).2 ≤ 0) from c2)] at J1 ⊢ | rw [if_neg (show ¬ ((sailM nr f t dst 6 (keepsM m) r 0).2 ≤ 0) from c2)] at J1
      exact az_lv [0, 1, 2, 3] rfl J1
  exact az_zret C .boolean rfl (nar_01 _ _) dX4_can_36 (Nat.le_of_ble_eq_true rfl) (Nat.le_of_ble_eq_true rfl) ⟨rfl, rfl, rfl⟩

set_option maxHeartbeats 4000000 in
set_option maxRecDepth 100000 in
theorem Mvoyage0 (hG : az_okS l G) (nb : Nat) (v u : Int32) (hb : m.1 0 12 = nI nb) (hn : nb ≤ 8) (hv : oo nb v) : az_M l G yX4_voyage (az_ws yX4_voyage cX4_voyage 3 (Option.some FieldType.int)) 8 [.ref (ρ.1 100), .int v, .int u] (AD ρ) (KK G ρ x m ou) 0 0 (az_r (some (.int 0)) (AD ρ) (KK G ρ x (mI m 0 0 1) ou)) := by
  refine az_start hG.1 (by decide +kernel) (Nat.le_of_ble_eq_true rfl) ?_
  intro p e s mm args below meth c C hnm
  show az_W l G 3 _ p e _ s mm args below meth c _ _ 0 0 0 [(0, .ref (ρ.1 100)), (1, .int v), (2, .int u)] []
  refine az_aload_n C 0 dX4_voyage_0 rfl ?_
  refine az_iload_n C 1 dX4_voyage_1 rfl ?_
  refine az_callV C Y_X4_isBarge cX4 2 0 [.int v] [] wm_X4_161 wi_X4_isBarge wse_X4_isBarge dX4_voyage_2 rfl rfl rfl (Mb0 hG nb v hb hn (by omega) hv) rfl (Nat.le_of_ble_eq_true rfl) (Nat.le_of_ble_eq_true rfl) (Nat.le_of_ble_eq_true rfl) (Nat.le_of_ble_eq_true rfl) (Nat.le_of_ble_eq_true rfl) (az_k1 rfl rfl ?_) (az_k0 rfl)
  refine az_if_eq C 16 dX4_voyage_5 (by decide) (fun _ => ?_) (fun q => absurd (by decide) q)
  refine az_aload_n C 0 dX4_voyage_16 rfl ?_
  refine az_iconst C (v := 1) dX4_voyage_17 (by decide) ?_
  refine az_callV C Y_X4_fails cX4 2 0 [.int 1] [] wm_X4_121 wi_X4_fails wse_X4_fails dX4_voyage_18 rfl rfl rfl (Mfails hG (1)) rfl (Nat.le_of_ble_eq_true rfl) (Nat.le_of_ble_eq_true rfl) (Nat.le_of_ble_eq_true rfl) (Nat.le_of_ble_eq_true rfl) (Nat.le_of_ble_eq_true rfl) (az_k1 rfl rfl ?_) (az_k0 rfl)
  exact az_iret C rfl dX4_voyage_21 (Nat.le_of_ble_eq_true rfl) (Nat.le_of_ble_eq_true rfl) ⟨rfl, rfl, rfl⟩

set_option maxHeartbeats 4000000 in
set_option maxRecDepth 100000 in
theorem Mvoyage00 (hG : az_okS l G) (nb b : Nat) (hb : m.1 0 12 = nI nb) (hn : nb ≤ 8) (hk : b + 1 ≤ nb) (nr : Nat) (v : Int32) (hr : m.1 0 1 = nI nr) (hn6 : nr ≤ 6) (hv : oo nr v) : az_M l G yX4_voyage (az_ws yX4_voyage cX4_voyage 3 (Option.some FieldType.int)) 8 [.ref (ρ.1 100), .int (nI b), .int v] (AD ρ) (KK G ρ x m ou) 0 0 (az_r (some (.int 0)) (AD ρ) (KK G ρ x (mI m 0 0 1) ou)) := by
  refine az_start hG.1 (by decide +kernel) (Nat.le_of_ble_eq_true rfl) ?_
  intro p e s mm args below meth c C hnm
  show az_W l G 3 _ p e _ s mm args below meth c _ _ 0 0 0 [(0, .ref (ρ.1 100)), (1, .int (nI b)), (2, .int v)] []
  refine az_aload_n C 0 dX4_voyage_0 rfl ?_
  refine az_iload_n C 1 dX4_voyage_1 rfl ?_
  refine az_callV C Y_X4_isBarge cX4 2 0 [.int (nI b)] [] wm_X4_161 wi_X4_isBarge wse_X4_isBarge dX4_voyage_2 rfl rfl rfl (Mb1 hG nb b hb hn hk) rfl (Nat.le_of_ble_eq_true rfl) (Nat.le_of_ble_eq_true rfl) (Nat.le_of_ble_eq_true rfl) (Nat.le_of_ble_eq_true rfl) (Nat.le_of_ble_eq_true rfl) (az_k1 rfl rfl ?_) (az_k0 rfl)
  refine az_if_eq C 16 dX4_voyage_5 (by decide) (fun q => absurd q (by decide)) (fun _ => ?_)
  refine az_aload_n C 0 dX4_voyage_8 rfl ?_
  refine az_iload_n C 2 dX4_voyage_9 rfl ?_
  refine az_callV C Y_X4_isReach cX4 2 0 [.int v] [] wm_X4_128 wi_X4_isReach wse_X4_isReach dX4_voyage_10 rfl rfl rfl (Mr0 hG nr v hr hn6 (by omega) hv) rfl (Nat.le_of_ble_eq_true rfl) (Nat.le_of_ble_eq_true rfl) (Nat.le_of_ble_eq_true rfl) (Nat.le_of_ble_eq_true rfl) (Nat.le_of_ble_eq_true rfl) (az_k1 rfl rfl ?_) (az_k0 rfl)
  refine az_if_ne C 22 dX4_voyage_13 (by decide) (fun q => absurd (by decide) q) (fun _ => ?_)
  refine az_aload_n C 0 dX4_voyage_16 rfl ?_
  refine az_iconst C (v := 1) dX4_voyage_17 (by decide) ?_
  refine az_callV C Y_X4_fails cX4 2 0 [.int 1] [] wm_X4_121 wi_X4_fails wse_X4_fails dX4_voyage_18 rfl rfl rfl (Mfails hG (1)) rfl (Nat.le_of_ble_eq_true rfl) (Nat.le_of_ble_eq_true rfl) (Nat.le_of_ble_eq_true rfl) (Nat.le_of_ble_eq_true rfl) (Nat.le_of_ble_eq_true rfl) (az_k1 rfl rfl ?_) (az_k0 rfl)
  exact az_iret C rfl dX4_voyage_21 (Nat.le_of_ble_eq_true rfl) (Nat.le_of_ble_eq_true rfl) ⟨rfl, rfl, rfl⟩

set_option maxHeartbeats 4000000 in
set_option maxRecDepth 100000 in
theorem Mvoyage1 (hG : az_okS l G) (nr r b : Nat) (rl : List Nat) (f : Nat) (t : List Nat) (dst : Nat) (hdst : dst < nr) (hs : SlOK m nr r b rl f t) (hm : mvok m (6 * ((t.length + 1) * (2 * nr + 1)))) (nb : Nat) (hb : m.1 0 12 = nI nb) (hnb : nb ≤ 8) (hbk : b + 1 ≤ nb) (hrd : r = dst) : az_M l G yX4_voyage (az_ws yX4_voyage cX4_voyage 3 (Option.some FieldType.int)) 8 [.ref (ρ.1 100), .int (nI b), .int (nI dst)] (AD ρ) (KK G ρ x m ou) 0 0 (az_r (some (.int 0)) (AD ρ) (KK G ρ x (mI m 0 0 2) ou)) := by
  refine az_start hG.1 (by decide +kernel) (Nat.le_of_ble_eq_true rfl) ?_
  intro p e s mm args below meth c C hnm
  show az_W l G 3 _ p e _ s mm args below meth c _ _ 0 0 0 [(0, .ref (ρ.1 100)), (1, .int (nI b)), (2, .int (nI dst))] []
  have hb8 : b < 8 := hs.2.2.2.2.1.1.1
  have hn6 : nr ≤ 6 := hs.2.1
  have hrn := hs.2.2.1
  refine az_aload_n C 0 dX4_voyage_0 rfl ?_
  refine az_iload_n C 1 dX4_voyage_1 rfl ?_
  refine az_callV C Y_X4_isBarge cX4 2 0 [.int (nI b)] [] wm_X4_161 wi_X4_isBarge wse_X4_isBarge dX4_voyage_2 rfl rfl rfl (Mb1 hG nb b hb hnb hbk) rfl (Nat.le_of_ble_eq_true rfl) (Nat.le_of_ble_eq_true rfl) (Nat.le_of_ble_eq_true rfl) (Nat.le_of_ble_eq_true rfl) (Nat.le_of_ble_eq_true rfl) (az_k1 rfl rfl ?_) (az_k0 rfl)
  refine az_if_eq C 16 dX4_voyage_5 (by decide) (fun q => absurd q (by decide)) (fun _ => ?_)
  refine az_aload_n C 0 dX4_voyage_8 rfl ?_
  refine az_iload_n C 2 dX4_voyage_9 rfl ?_
  refine az_callV C Y_X4_isReach cX4 2 0 [.int (nI dst)] [] wm_X4_128 wi_X4_isReach wse_X4_isReach dX4_voyage_10 rfl rfl rfl (Mr1 hG nr dst hs.1 hs.2.1 (by omega)) rfl (Nat.le_of_ble_eq_true rfl) (Nat.le_of_ble_eq_true rfl) (Nat.le_of_ble_eq_true rfl) (Nat.le_of_ble_eq_true rfl) (Nat.le_of_ble_eq_true rfl) (az_k1 rfl rfl ?_) (az_k0 rfl)
  refine az_if_ne C 22 dX4_voyage_13 (by decide) (fun _ => ?_) (fun q => absurd q (by decide))
  refine az_aload_n C 0 dX4_voyage_22 rfl ?_
  refine az_get C cX4 2 0 13 (v := .ref (ρ.1 113)) wl_X4_42 dX4_voyage_23 rfl rfl rfl (by decide) ?_
  refine az_iload_n C 1 dX4_voyage_26 rfl ?_
  refine az_ialdN C 2 13 b (v := m.1 13 b) dX4_voyage_27 rfl rfl (by omega) (by decide) rfl ?_
  refine az_top (nI r) (hs.2.2.2.2.2.2.1 b hs.2.2.2.2.2.2.2).1 ?_
  refine az_iload_n C 2 dX4_voyage_28 rfl ?_
  refine az_icmp_ne C 38 dX4_voyage_29 (by decide) (fun q => absurd (by rw [hrd]) q) (fun _ => ?_)
  refine az_aload_n C 0 dX4_voyage_32 rfl ?_
  refine az_iconst C (v := 2) dX4_voyage_33 (by decide) ?_
  refine az_callV C Y_X4_fails cX4 2 0 [.int 2] [] wm_X4_121 wi_X4_fails wse_X4_fails dX4_voyage_34 rfl rfl rfl (Mfails hG (2)) rfl (Nat.le_of_ble_eq_true rfl) (Nat.le_of_ble_eq_true rfl) (Nat.le_of_ble_eq_true rfl) (Nat.le_of_ble_eq_true rfl) (Nat.le_of_ble_eq_true rfl) (az_k1 rfl rfl ?_) (az_k0 rfl)
  exact az_iret C rfl dX4_voyage_37 (Nat.le_of_ble_eq_true rfl) (Nat.le_of_ble_eq_true rfl) ⟨rfl, rfl, rfl⟩

set_option maxHeartbeats 4000000 in
set_option maxRecDepth 100000 in
theorem Mvoyage2 (hG : az_okS l G) (nr r b : Nat) (rl : List Nat) (f : Nat) (t : List Nat) (dst : Nat) (hdst : dst < nr) (hs : SlOK m nr r b rl f t) (hm : mvok m (6 * ((t.length + 1) * (2 * nr + 1)))) (nb : Nat) (hb : m.1 0 12 = nI nb) (hnb : nb ≤ 8) (hbk : b + 1 ≤ nb) (hrd : ¬ r = dst) (hp : 0 < (sailM nr f t dst 6 (keepsM m) r 0).2) : az_M l G yX4_voyage (az_ws yX4_voyage cX4_voyage 3 (Option.some FieldType.int)) 8 [.ref (ρ.1 100), .int (nI b), .int (nI dst)] (AD ρ) (KK G ρ x m ou) 0 0 (az_r (some (.int (sailM nr f t dst 6 (keepsM m) r 0).2)) (AD ρ) (KK G ρ x (mI (sailM nr f t dst 6 (keepsM m) r 0).1 0 0 0) ou)) := by
  refine az_start hG.1 (by decide +kernel) (Nat.le_of_ble_eq_true rfl) ?_
  intro p e s mm args below meth c C hnm
  show az_W l G 3 _ p e _ s mm args below meth c _ _ 0 0 0 [(0, .ref (ρ.1 100)), (1, .int (nI b)), (2, .int (nI dst))] []
  have hb8 : b < 8 := hs.2.2.2.2.1.1.1
  have hn6 : nr ≤ 6 := hs.2.1
  have hrn := hs.2.2.1
  refine az_aload_n C 0 dX4_voyage_0 rfl ?_
  refine az_iload_n C 1 dX4_voyage_1 rfl ?_
  refine az_callV C Y_X4_isBarge cX4 2 0 [.int (nI b)] [] wm_X4_161 wi_X4_isBarge wse_X4_isBarge dX4_voyage_2 rfl rfl rfl (Mb1 hG nb b hb hnb hbk) rfl (Nat.le_of_ble_eq_true rfl) (Nat.le_of_ble_eq_true rfl) (Nat.le_of_ble_eq_true rfl) (Nat.le_of_ble_eq_true rfl) (Nat.le_of_ble_eq_true rfl) (az_k1 rfl rfl ?_) (az_k0 rfl)
  refine az_if_eq C 16 dX4_voyage_5 (by decide) (fun q => absurd q (by decide)) (fun _ => ?_)
  refine az_aload_n C 0 dX4_voyage_8 rfl ?_
  refine az_iload_n C 2 dX4_voyage_9 rfl ?_
  refine az_callV C Y_X4_isReach cX4 2 0 [.int (nI dst)] [] wm_X4_128 wi_X4_isReach wse_X4_isReach dX4_voyage_10 rfl rfl rfl (Mr1 hG nr dst hs.1 hs.2.1 (by omega)) rfl (Nat.le_of_ble_eq_true rfl) (Nat.le_of_ble_eq_true rfl) (Nat.le_of_ble_eq_true rfl) (Nat.le_of_ble_eq_true rfl) (Nat.le_of_ble_eq_true rfl) (az_k1 rfl rfl ?_) (az_k0 rfl)
  refine az_if_ne C 22 dX4_voyage_13 (by decide) (fun _ => ?_) (fun q => absurd q (by decide))
  refine az_aload_n C 0 dX4_voyage_22 rfl ?_
  refine az_get C cX4 2 0 13 (v := .ref (ρ.1 113)) wl_X4_42 dX4_voyage_23 rfl rfl rfl (by decide) ?_
  refine az_iload_n C 1 dX4_voyage_26 rfl ?_
  refine az_ialdN C 2 13 b (v := m.1 13 b) dX4_voyage_27 rfl rfl (by omega) (by decide) rfl ?_
  refine az_top (nI r) (hs.2.2.2.2.2.2.1 b hs.2.2.2.2.2.2.2).1 ?_
  refine az_iload_n C 2 dX4_voyage_28 rfl ?_
  refine az_icmp_ne C 38 dX4_voyage_29 (by decide) (fun _ => ?_) (fun q => absurd q (fun z => hrd (by rw [nI_eq (by omega) (by omega)] at z; exact z)))
  refine az_aload_n C 0 dX4_voyage_38 rfl ?_
  refine az_callV C Y_X4_keeps cX4 2 0 [] [] wm_X4_213 wi_X4_keeps wse_X4_keeps dX4_voyage_39 rfl rfl rfl (Mkeeps hG) rfl (Nat.le_of_ble_eq_true rfl) (Nat.le_of_ble_eq_true rfl) (Nat.le_of_ble_eq_true rfl) (Nat.le_of_ble_eq_true rfl) (Nat.le_of_ble_eq_true rfl) (az_k1 rfl rfl ?_) (az_k0 rfl)
  refine az_aload_n C 0 dX4_voyage_42 rfl ?_
  refine az_aload_n C 0 dX4_voyage_43 rfl ?_
  refine az_iload_n C 1 dX4_voyage_44 rfl ?_
  refine az_iload_n C 2 dX4_voyage_45 rfl ?_
  refine az_callV C Y_X4_sails cX4 2 0 [.int (nI b), .int (nI dst)] [.ref (ρ.1 100)] wm_X4_219 wi_X4_sails wse_X4_sails dX4_voyage_46 rfl rfl rfl (Msails hG nr r b rl f t dst hdst hs.keep (hm.eq rfl)) rfl (Nat.le_of_ble_eq_true rfl) (Nat.le_of_ble_eq_true rfl) (Nat.le_of_ble_eq_true rfl) (Nat.le_of_ble_eq_true rfl) (Nat.le_of_ble_eq_true rfl) (az_k1 rfl rfl ?_) (az_k0 rfl)
  refine az_iconst C (v := 3) dX4_voyage_49 (by decide) ?_
  refine az_callV C Y_X4_ends cX4 2 0 [.int ((sailM nr f t dst 6 (keepsM m) r 0).2), .int 3] [] wm_X4_216 wi_X4_ends wse_X4_ends dX4_voyage_50 rfl rfl rfl (Mends1 hG ((sailM nr f t dst 6 (keepsM m) r 0).2) 3 hp) rfl (Nat.le_of_ble_eq_true rfl) (Nat.le_of_ble_eq_true rfl) (Nat.le_of_ble_eq_true rfl) (Nat.le_of_ble_eq_true rfl) (Nat.le_of_ble_eq_true rfl) (az_k1 rfl rfl ?_) (az_k0 rfl)
  exact az_iret C rfl dX4_voyage_53 (Nat.le_of_ble_eq_true rfl) (Nat.le_of_ble_eq_true rfl) ⟨rfl, rfl, rfl⟩

set_option maxHeartbeats 4000000 in
set_option maxRecDepth 100000 in
theorem Mvoyage3 (hG : az_okS l G) (nr r b : Nat) (rl : List Nat) (f : Nat) (t : List Nat) (dst : Nat) (hdst : dst < nr) (hs : SlOK m nr r b rl f t) (hm : mvok m (6 * ((t.length + 1) * (2 * nr + 1)))) (nb : Nat) (hb : m.1 0 12 = nI nb) (hnb : nb ≤ 8) (hbk : b + 1 ≤ nb) (hrd : ¬ r = dst) (hp : (sailM nr f t dst 6 (keepsM m) r 0).2 = 0) : az_M l G yX4_voyage (az_ws yX4_voyage cX4_voyage 3 (Option.some FieldType.int)) 8 [.ref (ρ.1 100), .int (nI b), .int (nI dst)] (AD ρ) (KK G ρ x m ou) 0 0 (az_r (some (.int 0)) (AD ρ) (KK G ρ x (endsM (sailM nr f t dst 6 (keepsM m) r 0).1 3) ou)) := by
  refine az_start hG.1 (by decide +kernel) (Nat.le_of_ble_eq_true rfl) ?_
  intro p e s mm args below meth c C hnm
  show az_W l G 3 _ p e _ s mm args below meth c _ _ 0 0 0 [(0, .ref (ρ.1 100)), (1, .int (nI b)), (2, .int (nI dst))] []
  have hb8 : b < 8 := hs.2.2.2.2.1.1.1
  have hn6 : nr ≤ 6 := hs.2.1
  have hrn := hs.2.2.1
  refine az_aload_n C 0 dX4_voyage_0 rfl ?_
  refine az_iload_n C 1 dX4_voyage_1 rfl ?_
  refine az_callV C Y_X4_isBarge cX4 2 0 [.int (nI b)] [] wm_X4_161 wi_X4_isBarge wse_X4_isBarge dX4_voyage_2 rfl rfl rfl (Mb1 hG nb b hb hnb hbk) rfl (Nat.le_of_ble_eq_true rfl) (Nat.le_of_ble_eq_true rfl) (Nat.le_of_ble_eq_true rfl) (Nat.le_of_ble_eq_true rfl) (Nat.le_of_ble_eq_true rfl) (az_k1 rfl rfl ?_) (az_k0 rfl)
  refine az_if_eq C 16 dX4_voyage_5 (by decide) (fun q => absurd q (by decide)) (fun _ => ?_)
  refine az_aload_n C 0 dX4_voyage_8 rfl ?_
  refine az_iload_n C 2 dX4_voyage_9 rfl ?_
  refine az_callV C Y_X4_isReach cX4 2 0 [.int (nI dst)] [] wm_X4_128 wi_X4_isReach wse_X4_isReach dX4_voyage_10 rfl rfl rfl (Mr1 hG nr dst hs.1 hs.2.1 (by omega)) rfl (Nat.le_of_ble_eq_true rfl) (Nat.le_of_ble_eq_true rfl) (Nat.le_of_ble_eq_true rfl) (Nat.le_of_ble_eq_true rfl) (Nat.le_of_ble_eq_true rfl) (az_k1 rfl rfl ?_) (az_k0 rfl)
  refine az_if_ne C 22 dX4_voyage_13 (by decide) (fun _ => ?_) (fun q => absurd q (by decide))
  refine az_aload_n C 0 dX4_voyage_22 rfl ?_
  refine az_get C cX4 2 0 13 (v := .ref (ρ.1 113)) wl_X4_42 dX4_voyage_23 rfl rfl rfl (by decide) ?_
  refine az_iload_n C 1 dX4_voyage_26 rfl ?_
  refine az_ialdN C 2 13 b (v := m.1 13 b) dX4_voyage_27 rfl rfl (by omega) (by decide) rfl ?_
  refine az_top (nI r) (hs.2.2.2.2.2.2.1 b hs.2.2.2.2.2.2.2).1 ?_
  refine az_iload_n C 2 dX4_voyage_28 rfl ?_
  refine az_icmp_ne C 38 dX4_voyage_29 (by decide) (fun _ => ?_) (fun q => absurd q (fun z => hrd (by rw [nI_eq (by omega) (by omega)] at z; exact z)))
  refine az_aload_n C 0 dX4_voyage_38 rfl ?_
  refine az_callV C Y_X4_keeps cX4 2 0 [] [] wm_X4_213 wi_X4_keeps wse_X4_keeps dX4_voyage_39 rfl rfl rfl (Mkeeps hG) rfl (Nat.le_of_ble_eq_true rfl) (Nat.le_of_ble_eq_true rfl) (Nat.le_of_ble_eq_true rfl) (Nat.le_of_ble_eq_true rfl) (Nat.le_of_ble_eq_true rfl) (az_k1 rfl rfl ?_) (az_k0 rfl)
  refine az_aload_n C 0 dX4_voyage_42 rfl ?_
  refine az_aload_n C 0 dX4_voyage_43 rfl ?_
  refine az_iload_n C 1 dX4_voyage_44 rfl ?_
  refine az_iload_n C 2 dX4_voyage_45 rfl ?_
  refine az_callV C Y_X4_sails cX4 2 0 [.int (nI b), .int (nI dst)] [.ref (ρ.1 100)] wm_X4_219 wi_X4_sails wse_X4_sails dX4_voyage_46 rfl rfl rfl (Msails hG nr r b rl f t dst hdst hs.keep (hm.eq rfl)) rfl (Nat.le_of_ble_eq_true rfl) (Nat.le_of_ble_eq_true rfl) (Nat.le_of_ble_eq_true rfl) (Nat.le_of_ble_eq_true rfl) (Nat.le_of_ble_eq_true rfl) (az_k1 rfl rfl ?_) (az_k0 rfl)
  refine az_top (0) hp ?_
  refine az_iconst C (v := 3) dX4_voyage_49 (by decide) ?_
  refine az_callV C Y_X4_ends cX4 2 0 [.int 0, .int 3] [] wm_X4_216 wi_X4_ends wse_X4_ends dX4_voyage_50 rfl rfl rfl (Mends0 hG 3) rfl (Nat.le_of_ble_eq_true rfl) (Nat.le_of_ble_eq_true rfl) (Nat.le_of_ble_eq_true rfl) (Nat.le_of_ble_eq_true rfl) (Nat.le_of_ble_eq_true rfl) (az_k1 rfl rfl ?_) (az_k0 rfl)
  exact az_iret C rfl dX4_voyage_53 (Nat.le_of_ble_eq_true rfl) (Nat.le_of_ble_eq_true rfl) ⟨rfl, rfl, rfl⟩

set_option maxHeartbeats 4000000 in
set_option maxRecDepth 100000 in
theorem MisPossible0 (hG : az_okS l G) (nb : Nat) (v u : Int32) (hb : m.1 0 12 = nI nb) (hn : nb ≤ 8) (hv : oo nb v) : az_M l G yX4_isPossible (az_ws yX4_isPossible cX4_isPossible 4 (Option.some FieldType.boolean)) 9 [.ref (ρ.1 100), .int v, .int u] (AD ρ) (KK G ρ x m ou) 0 0 (az_r (some (.int 0)) (AD ρ) (KK G ρ x (mI m 0 0 1) ou)) := by
  refine az_start hG.1 (by decide +kernel) (Nat.le_of_ble_eq_true rfl) ?_
  intro p e s mm args below meth c C hnm
  show az_W l G 4 _ p e _ s mm args below meth c _ _ 0 0 0 [(0, .ref (ρ.1 100)), (1, .int v), (2, .int u)] []
  refine az_aload_n C 0 dX4_isPossible_0 rfl ?_
  refine az_iload_n C 1 dX4_isPossible_1 rfl ?_
  refine az_callV C Y_X4_isBarge cX4 2 0 [.int v] [] wm_X4_161 wi_X4_isBarge wse_X4_isBarge dX4_isPossible_2 rfl rfl rfl (Mb0 hG nb v hb hn (by omega) hv) rfl (Nat.le_of_ble_eq_true rfl) (Nat.le_of_ble_eq_true rfl) (Nat.le_of_ble_eq_true rfl) (Nat.le_of_ble_eq_true rfl) (Nat.le_of_ble_eq_true rfl) (az_k1 rfl rfl ?_) (az_k0 rfl)
  refine az_if_eq C 20 dX4_isPossible_5 (by decide) (fun _ => ?_) (fun q => absurd (by decide) q)
  refine az_iconst C (v := 0) dX4_isPossible_20 (by decide) ?_
  refine az_istore_n C (lv' := [(3, .int 0), (0, .ref (ρ.1 100)), (1, .int v), (2, .int u)]) (j := 3) rfl dX4_isPossible_21 (by decide) rfl ?_
  refine az_aload_n C 1 dX4_isPossible_22 rfl ?_
  refine az_iload_n C 0 dX4_isPossible_23 rfl ?_
  refine az_if_eq C 31 dX4_isPossible_24 (by decide) (fun _ => ?_) (fun q => absurd (by decide) q)
  refine az_iconst C (v := 1) dX4_isPossible_31 (by decide) ?_
  refine az_iload_n C 0 dX4_isPossible_32 rfl ?_
  refine az_if_eq C 49 dX4_isPossible_33 (by decide) (fun _ => ?_) (fun q => absurd (by decide) q)
  refine az_iconst C (v := 0) dX4_isPossible_49 (by decide) ?_
  refine az_callV C Y_X4_asks cX4 2 0 [.int 1, .int 0] [] wm_X4_141 wi_X4_asks wse_X4_asks dX4_isPossible_50 rfl rfl rfl (Masks hG 1 0) rfl (Nat.le_of_ble_eq_true rfl) (Nat.le_of_ble_eq_true rfl) (Nat.le_of_ble_eq_true rfl) (Nat.le_of_ble_eq_true rfl) (Nat.le_of_ble_eq_true rfl) (az_k1 (by rw [show (if ¬ (1 : Int32) = 0 then (0 : Int32) else if (0 : Int32) = 0 then 0 else 1) = 0 from by decide]) rfl ?_) (az_k0 rfl)
  exact az_zret C .boolean rfl rfl dX4_isPossible_53 (Nat.le_of_ble_eq_true rfl) (Nat.le_of_ble_eq_true rfl) ⟨rfl, rfl, rfl⟩

set_option maxHeartbeats 4000000 in
set_option maxRecDepth 100000 in
theorem MisPossible00 (hG : az_okS l G) (nb b : Nat) (hb : m.1 0 12 = nI nb) (hn : nb ≤ 8) (hk : b + 1 ≤ nb) (nr : Nat) (v : Int32) (hr : m.1 0 1 = nI nr) (hn6 : nr ≤ 6) (hv : oo nr v) : az_M l G yX4_isPossible (az_ws yX4_isPossible cX4_isPossible 4 (Option.some FieldType.boolean)) 9 [.ref (ρ.1 100), .int (nI b), .int v] (AD ρ) (KK G ρ x m ou) 0 0 (az_r (some (.int 0)) (AD ρ) (KK G ρ x (mI m 0 0 1) ou)) := by
  refine az_start hG.1 (by decide +kernel) (Nat.le_of_ble_eq_true rfl) ?_
  intro p e s mm args below meth c C hnm
  show az_W l G 4 _ p e _ s mm args below meth c _ _ 0 0 0 [(0, .ref (ρ.1 100)), (1, .int (nI b)), (2, .int v)] []
  refine az_aload_n C 0 dX4_isPossible_0 rfl ?_
  refine az_iload_n C 1 dX4_isPossible_1 rfl ?_
  refine az_callV C Y_X4_isBarge cX4 2 0 [.int (nI b)] [] wm_X4_161 wi_X4_isBarge wse_X4_isBarge dX4_isPossible_2 rfl rfl rfl (Mb1 hG nb b hb hn hk) rfl (Nat.le_of_ble_eq_true rfl) (Nat.le_of_ble_eq_true rfl) (Nat.le_of_ble_eq_true rfl) (Nat.le_of_ble_eq_true rfl) (Nat.le_of_ble_eq_true rfl) (az_k1 rfl rfl ?_) (az_k0 rfl)
  refine az_if_eq C 20 dX4_isPossible_5 (by decide) (fun q => absurd q (by decide)) (fun _ => ?_)
  refine az_aload_n C 0 dX4_isPossible_8 rfl ?_
  refine az_iload_n C 2 dX4_isPossible_9 rfl ?_
  refine az_callV C Y_X4_isReach cX4 2 0 [.int v] [] wm_X4_128 wi_X4_isReach wse_X4_isReach dX4_isPossible_10 rfl rfl rfl (Mr0 hG nr v hr hn6 (by omega) hv) rfl (Nat.le_of_ble_eq_true rfl) (Nat.le_of_ble_eq_true rfl) (Nat.le_of_ble_eq_true rfl) (Nat.le_of_ble_eq_true rfl) (Nat.le_of_ble_eq_true rfl) (az_k1 rfl rfl ?_) (az_k0 rfl)
  refine az_if_eq C 20 dX4_isPossible_13 (by decide) (fun _ => ?_) (fun q => absurd (by decide) q)
  refine az_iconst C (v := 0) dX4_isPossible_20 (by decide) ?_
  refine az_istore_n C (lv' := [(3, .int 0), (0, .ref (ρ.1 100)), (1, .int (nI b)), (2, .int v)]) (j := 3) rfl dX4_isPossible_21 (by decide) rfl ?_
  refine az_aload_n C 1 dX4_isPossible_22 rfl ?_
  refine az_iload_n C 0 dX4_isPossible_23 rfl ?_
  refine az_if_eq C 31 dX4_isPossible_24 (by decide) (fun _ => ?_) (fun q => absurd (by decide) q)
  refine az_iconst C (v := 1) dX4_isPossible_31 (by decide) ?_
  refine az_iload_n C 0 dX4_isPossible_32 rfl ?_
  refine az_if_eq C 49 dX4_isPossible_33 (by decide) (fun _ => ?_) (fun q => absurd (by decide) q)
  refine az_iconst C (v := 0) dX4_isPossible_49 (by decide) ?_
  refine az_callV C Y_X4_asks cX4 2 0 [.int 1, .int 0] [] wm_X4_141 wi_X4_asks wse_X4_asks dX4_isPossible_50 rfl rfl rfl (Masks hG 1 0) rfl (Nat.le_of_ble_eq_true rfl) (Nat.le_of_ble_eq_true rfl) (Nat.le_of_ble_eq_true rfl) (Nat.le_of_ble_eq_true rfl) (Nat.le_of_ble_eq_true rfl) (az_k1 (by rw [show (if ¬ (1 : Int32) = 0 then (0 : Int32) else if (0 : Int32) = 0 then 0 else 1) = 0 from by decide]) rfl ?_) (az_k0 rfl)
  exact az_zret C .boolean rfl rfl dX4_isPossible_53 (Nat.le_of_ble_eq_true rfl) (Nat.le_of_ble_eq_true rfl) ⟨rfl, rfl, rfl⟩

set_option maxHeartbeats 4000000 in
set_option maxRecDepth 100000 in
theorem MisPossible1 (hG : az_okS l G) (nr r b : Nat) (rl : List Nat) (f : Nat) (t : List Nat) (dst : Nat) (hdst : dst < nr) (hs : SlOK m nr r b rl f t) (hm : mvok m (6 * ((t.length + 1) * (2 * nr + 1)))) (nb : Nat) (hb : m.1 0 12 = nI nb) (hnb : nb ≤ 8) (hbk : b + 1 ≤ nb) (hrd : r = dst) : az_M l G yX4_isPossible (az_ws yX4_isPossible cX4_isPossible 4 (Option.some FieldType.boolean)) 9 [.ref (ρ.1 100), .int (nI b), .int (nI dst)] (AD ρ) (KK G ρ x m ou) 0 0 (az_r (some (.int 1)) (AD ρ) (KK G ρ x (mI m 0 0 0) ou)) := by
  refine az_start hG.1 (by decide +kernel) (Nat.le_of_ble_eq_true rfl) ?_
  intro p e s mm args below meth c C hnm
  show az_W l G 4 _ p e _ s mm args below meth c _ _ 0 0 0 [(0, .ref (ρ.1 100)), (1, .int (nI b)), (2, .int (nI dst))] []
  have hb8 : b < 8 := hs.2.2.2.2.1.1.1
  have hn6 : nr ≤ 6 := hs.2.1
  have hrn := hs.2.2.1
  refine az_aload_n C 0 dX4_isPossible_0 rfl ?_
  refine az_iload_n C 1 dX4_isPossible_1 rfl ?_
  refine az_callV C Y_X4_isBarge cX4 2 0 [.int (nI b)] [] wm_X4_161 wi_X4_isBarge wse_X4_isBarge dX4_isPossible_2 rfl rfl rfl (Mb1 hG nb b hb hnb hbk) rfl (Nat.le_of_ble_eq_true rfl) (Nat.le_of_ble_eq_true rfl) (Nat.le_of_ble_eq_true rfl) (Nat.le_of_ble_eq_true rfl) (Nat.le_of_ble_eq_true rfl) (az_k1 rfl rfl ?_) (az_k0 rfl)
  refine az_if_eq C 20 dX4_isPossible_5 (by decide) (fun q => absurd q (by decide)) (fun _ => ?_)
  refine az_aload_n C 0 dX4_isPossible_8 rfl ?_
  refine az_iload_n C 2 dX4_isPossible_9 rfl ?_
  refine az_callV C Y_X4_isReach cX4 2 0 [.int (nI dst)] [] wm_X4_128 wi_X4_isReach wse_X4_isReach dX4_isPossible_10 rfl rfl rfl (Mr1 hG nr dst hs.1 hs.2.1 (by omega)) rfl (Nat.le_of_ble_eq_true rfl) (Nat.le_of_ble_eq_true rfl) (Nat.le_of_ble_eq_true rfl) (Nat.le_of_ble_eq_true rfl) (Nat.le_of_ble_eq_true rfl) (az_k1 rfl rfl ?_) (az_k0 rfl)
  refine az_if_eq C 20 dX4_isPossible_13 (by decide) (fun q => absurd q (by decide)) (fun _ => ?_)
  refine az_iconst C (v := 1) dX4_isPossible_16 (by decide) ?_
  refine az_goto C 21 dX4_isPossible_17 (by decide) ?_
  refine az_istore_n C (lv' := [(3, .int 1), (0, .ref (ρ.1 100)), (1, .int (nI b)), (2, .int (nI dst))]) (j := 3) rfl dX4_isPossible_21 (by decide) rfl ?_
  refine az_aload_n C 1 dX4_isPossible_22 rfl ?_
  refine az_iload_n C 0 dX4_isPossible_23 rfl ?_
  refine az_if_eq C 31 dX4_isPossible_24 (by decide) (fun q => absurd q (by decide)) (fun _ => ?_)
  refine az_iconst C (v := 0) dX4_isPossible_27 (by decide) ?_
  refine az_goto C 32 dX4_isPossible_28 (by decide) ?_
  refine az_iload_n C 0 dX4_isPossible_32 rfl ?_
  refine az_if_eq C 49 dX4_isPossible_33 (by decide) (fun q => absurd q (by decide)) (fun _ => ?_)
  refine az_aload_n C 1 dX4_isPossible_36 rfl ?_
  refine az_iload_n C 2 dX4_isPossible_37 rfl ?_
  refine az_iload_n C 3 dX4_isPossible_38 rfl ?_
  refine az_callV C Y_X4_can cX4 2 0 [.int (nI b), .int (nI dst)] [.int 0, .ref (ρ.1 100)] wm_X4_222 wi_X4_can wse_X4_can dX4_isPossible_39 rfl rfl rfl (Mcan1 hG nr r b rl f t dst hdst hs hm hrd) rfl (Nat.le_of_ble_eq_true rfl) (Nat.le_of_ble_eq_true rfl) (Nat.le_of_ble_eq_true rfl) (Nat.le_of_ble_eq_true rfl) (Nat.le_of_ble_eq_true rfl) (az_k1 rfl rfl ?_) (az_k0 rfl)
  refine az_if_eq C 49 dX4_isPossible_42 (by decide) (fun q => absurd q (by decide)) (fun _ => ?_)
  refine az_iconst C (v := 1) dX4_isPossible_45 (by decide) ?_
  refine az_goto C 50 dX4_isPossible_46 (by decide) ?_
  refine az_callV C Y_X4_asks cX4 2 0 [.int 0, .int 1] [] wm_X4_141 wi_X4_asks wse_X4_asks dX4_isPossible_50 rfl rfl rfl (Masks hG 0 1) rfl (Nat.le_of_ble_eq_true rfl) (Nat.le_of_ble_eq_true rfl) (Nat.le_of_ble_eq_true rfl) (Nat.le_of_ble_eq_true rfl) (Nat.le_of_ble_eq_true rfl) (az_k1 (by rw [show (if ¬ (0 : Int32) = 0 then (0 : Int32) else if (1 : Int32) = 0 then 0 else 1) = 1 from by decide]) rfl ?_) (az_k0 rfl)
  exact az_zret C .boolean rfl rfl dX4_isPossible_53 (Nat.le_of_ble_eq_true rfl) (Nat.le_of_ble_eq_true rfl) ⟨rfl, rfl, rfl⟩

set_option maxHeartbeats 4000000 in
set_option maxRecDepth 100000 in
theorem MisPossible2 (hG : az_okS l G) (nr r b : Nat) (rl : List Nat) (f : Nat) (t : List Nat) (dst : Nat) (hdst : dst < nr) (hs : SlOK m nr r b rl f t) (hm : mvok m (6 * ((t.length + 1) * (2 * nr + 1)))) (nb : Nat) (hb : m.1 0 12 = nI nb) (hnb : nb ≤ 8) (hbk : b + 1 ≤ nb) (hrd : ¬ r = dst) : az_M l G yX4_isPossible (az_ws yX4_isPossible cX4_isPossible 4 (Option.some FieldType.boolean)) 9 [.ref (ρ.1 100), .int (nI b), .int (nI dst)] (AD ρ) (KK G ρ x m ou) 0 0 (az_r (some (.int (if (if canV m nr f t r dst = 0 then (0 : Int32) else 1) = 0 then 0 else 1))) (AD ρ) (KK G ρ x (mI (canS m nr f t r dst) 0 0 0) ou)) := by
  refine az_start hG.1 (by decide +kernel) (Nat.le_of_ble_eq_true rfl) ?_
  intro p e s mm args below meth c C hnm
  show az_W l G 4 _ p e _ s mm args below meth c _ _ 0 0 0 [(0, .ref (ρ.1 100)), (1, .int (nI b)), (2, .int (nI dst))] []
  have hb8 : b < 8 := hs.2.2.2.2.1.1.1
  have hn6 : nr ≤ 6 := hs.2.1
  have hrn := hs.2.2.1
  refine az_aload_n C 0 dX4_isPossible_0 rfl ?_
  refine az_iload_n C 1 dX4_isPossible_1 rfl ?_
  refine az_callV C Y_X4_isBarge cX4 2 0 [.int (nI b)] [] wm_X4_161 wi_X4_isBarge wse_X4_isBarge dX4_isPossible_2 rfl rfl rfl (Mb1 hG nb b hb hnb hbk) rfl (Nat.le_of_ble_eq_true rfl) (Nat.le_of_ble_eq_true rfl) (Nat.le_of_ble_eq_true rfl) (Nat.le_of_ble_eq_true rfl) (Nat.le_of_ble_eq_true rfl) (az_k1 rfl rfl ?_) (az_k0 rfl)
  refine az_if_eq C 20 dX4_isPossible_5 (by decide) (fun q => absurd q (by decide)) (fun _ => ?_)
  refine az_aload_n C 0 dX4_isPossible_8 rfl ?_
  refine az_iload_n C 2 dX4_isPossible_9 rfl ?_
  refine az_callV C Y_X4_isReach cX4 2 0 [.int (nI dst)] [] wm_X4_128 wi_X4_isReach wse_X4_isReach dX4_isPossible_10 rfl rfl rfl (Mr1 hG nr dst hs.1 hs.2.1 (by omega)) rfl (Nat.le_of_ble_eq_true rfl) (Nat.le_of_ble_eq_true rfl) (Nat.le_of_ble_eq_true rfl) (Nat.le_of_ble_eq_true rfl) (Nat.le_of_ble_eq_true rfl) (az_k1 rfl rfl ?_) (az_k0 rfl)
  refine az_if_eq C 20 dX4_isPossible_13 (by decide) (fun q => absurd q (by decide)) (fun _ => ?_)
  refine az_iconst C (v := 1) dX4_isPossible_16 (by decide) ?_
  refine az_goto C 21 dX4_isPossible_17 (by decide) ?_
  refine az_istore_n C (lv' := [(3, .int 1), (0, .ref (ρ.1 100)), (1, .int (nI b)), (2, .int (nI dst))]) (j := 3) rfl dX4_isPossible_21 (by decide) rfl ?_
  refine az_aload_n C 1 dX4_isPossible_22 rfl ?_
  refine az_iload_n C 0 dX4_isPossible_23 rfl ?_
  refine az_if_eq C 31 dX4_isPossible_24 (by decide) (fun q => absurd q (by decide)) (fun _ => ?_)
  refine az_iconst C (v := 0) dX4_isPossible_27 (by decide) ?_
  refine az_goto C 32 dX4_isPossible_28 (by decide) ?_
  refine az_iload_n C 0 dX4_isPossible_32 rfl ?_
  refine az_if_eq C 49 dX4_isPossible_33 (by decide) (fun q => absurd q (by decide)) (fun _ => ?_)
  refine az_aload_n C 1 dX4_isPossible_36 rfl ?_
  refine az_iload_n C 2 dX4_isPossible_37 rfl ?_
  refine az_iload_n C 3 dX4_isPossible_38 rfl ?_
  refine az_callV C Y_X4_can cX4 2 0 [.int (nI b), .int (nI dst)] [.int 0, .ref (ρ.1 100)] wm_X4_222 wi_X4_can wse_X4_can dX4_isPossible_39 rfl rfl rfl (Mcan0 hG nr r b rl f t dst hdst hs hm hrd) rfl (Nat.le_of_ble_eq_true rfl) (Nat.le_of_ble_eq_true rfl) (Nat.le_of_ble_eq_true rfl) (Nat.le_of_ble_eq_true rfl) (Nat.le_of_ble_eq_true rfl) (az_k1 rfl rfl ?_) (az_k0 rfl)
  suffices J1 : az_W l G 4 (az_Q G (az_r (some (.int (if (if canV m nr f t r dst = 0 then (0 : Int32) else 1) = 0 then 0 else 1))) (AD ρ) (KK G ρ x (mI (canS m nr f t r dst) 0 0 0) ou)) below args s 0 0) p e _ s mm args below meth c (AD ρ) (KK G ρ x (canS m nr f t r dst) ou) _ _ 50 [(3, .int 1), (0, .ref (ρ.1 100)), (1, .int (nI b)), (2, .int (nI dst))] [.int ((if canV m nr f t r dst = 0 then 0 else 1)), .int 0, .ref (ρ.1 100)] by
    refine az_if_eq C 49 dX4_isPossible_42 (by decide) (fun c2 => ?_) (fun c2 => ?_)
    · refine az_iconst C (v := 0) dX4_isPossible_49 (by decide) ?_
      first | rw [if_pos (show canV m nr f t r dst = 0 from c2)] at J1 ⊢ | rw [if_pos (show canV m nr f t r dst = 0 from c2)] at J1
      exact az_lv [0, 1, 2, 3] rfl J1
    · refine az_iconst C (v := 1) dX4_isPossible_45 (by decide) ?_
      refine az_goto C 50 dX4_isPossible_46 (by decide) ?_
      first | rw [if_neg (show ¬ (canV m nr f t r dst = 0) from c2)] at J1 ⊢ | rw [if_neg (show ¬ (canV m nr f t r dst = 0) from c2)] at J1
      exact az_lv [0, 1, 2, 3] rfl J1
  refine az_callV C Y_X4_asks cX4 2 0 [.int 0, .int ((if canV m nr f t r dst = 0 then 0 else 1))] [] wm_X4_141 wi_X4_asks wse_X4_asks dX4_isPossible_50 rfl rfl rfl (Masks hG 0 ((if canV m nr f t r dst = 0 then 0 else 1))) rfl (Nat.le_of_ble_eq_true rfl) (Nat.le_of_ble_eq_true rfl) (Nat.le_of_ble_eq_true rfl) (Nat.le_of_ble_eq_true rfl) (Nat.le_of_ble_eq_true rfl) (az_k1 (by rw [if_neg (show ¬ ¬ (0 : Int32) = 0 by decide)]) rfl ?_) (az_k0 rfl)
  exact az_zret C .boolean rfl (nar_01 _ _) dX4_isPossible_53 (Nat.le_of_ble_eq_true rfl) (Nat.le_of_ble_eq_true rfl) ⟨rfl, rfl, rfl⟩

end
