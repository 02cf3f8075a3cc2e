section
variable {l : Launch} {G : az_G} {ρ : Rp} {x x' : Xs} {m : Mz} {M M' : Ms} {ou : Nat → Int64} {n nr nb c N f r dst k lk : Nat} {t : List Nat} {cs : List (List Nat)}
theorem ST.rN {i q : Nat} (S : ST c ρ x M n nr nb cs) : ST c (rN ρ i q) x M n nr nb cs := S
theorem ST.at4 (S : ST c ρ x M n nr nb cs) (hk : k < nb) : x.2.1 k 4 = M.1 13 k := (S.1.1.2.2.2.1 k hk).1
theorem ST.lks (S : ST c ρ x M n nr nb cs) (hk : k < 5) : x.1 3 k = M.1 7 k ∧ x.1 9 k = M.1 8 k ∧ x.1 10 k = M.1 9 k ∧ x.1 5 k = M.1 10 k := by
  have L := S.1.1.1.1.2.2.2.2.2.2.2.2 k hk
  exact ⟨L.1, L.2.1, L.2.2.1, L.2.2.2.1⟩
def fuM (M : Ms) (k : Nat) : Int32 := if M.1 11 k = 0 then 0 else 1
theorem ST.fu (S : ST c ρ x M n nr nb cs) (hk : k + 1 < nr) : fuX x k = fuM M k := by
  unfold fuX fuM
  by_cases z : M.1 11 k = 0
  · rw [if_pos ((ch_le S.1.1.1 hk).mpr z), if_pos z]
  · rw [if_neg (fun w => z ((ch_le S.1.1.1 hk).mp w)), if_neg z]
theorem fuM_01 : fuM M k = 0 ∨ fuM M k = 1 := by
  unfold fuM
  split
  · exact Or.inl rfl
  · exact Or.inr rfl
def stM (M : Ms) (nr nb n : Nat) : Nat → Int32 := upd (upd (upL (fun k => M.1 13 k) 11 nb (upL (fun k => fuM M k + 2 * M.1 10 k) 6 (nr - 1) (upL (fun k => M.1 4 k) 0 nr (fun _ => 0) 0) 0) 0) 19 (nI n)) 20 (M.1 0 22)
theorem ST.st (S : ST c ρ x M n nr nb cs) : stA x nr nb n = stM M nr nb n := by
  have h6 := S.1.n6
  unfold stA stM
  rw [upL_eq nr (w := fun k => M.1 4 k) _ 0 (fun j _ hj => x4_eq S.1.1.1 (by omega)), upL_eq (nr - 1) (w := fun k => fuM M k + 2 * M.1 10 k) _ 0 (fun j _ hj => by show fuX x j + 2 * x.1 5 j = _; rw [S.fu (by omega), (S.lks (by omega)).2.2.2]), upL_eq nb (w := fun k => M.1 13 k) _ 0 (fun j _ hj => S.at4 (by omega)), (x210_eq S.1.1.1).2.1]
theorem S_state0 (hG : az_okS l G) (hc : c ≤ 64) (S : ST c ρ x M n nr nb cs) : az_M l G yL_state (az_ws yL_state cL_state 3 (Option.some (.array .int))) 11 [.ref (ρ.1 0)] (AD ρ) (KK G ρ x m ou) 1 24 (fun o ad' K' => ∃ q : Nat, o = .inl (some (.ref ((rN ρ 0 q).1 100))) ∧ ad' = AD (rN ρ 0 q) ∧ K' = KK G (rN ρ 0 q) x (zP m 0 (stM M nr nb n)) ou) := by
  have h := S.1
  obtain ⟨b1, b2, b3⟩ := h.nlt (by omega)
  have g := Xstate0 (m := m) (ou := ou) hG nr h.n6 h.n1 h.xr (fun k hk => h.xa hk) n h.xn b1 b2 b3 nb h.xb h.eb h.b8
  rw [S.st] at g
  exact g
theorem S_state1 (hG : az_okS l G) (hc : c ≤ 64) (S : ST c ρ x M n nr nb cs) : az_M l G yL_state (az_ws yL_state cL_state 3 (Option.some (.array .int))) 11 [.ref (ρ.1 0)] (AD ρ) (KK G ρ x m ou) 1 24 (fun o ad' K' => ∃ q : Nat, o = .inl (some (.ref ((rN ρ 1 q).1 101))) ∧ ad' = AD (rN ρ 1 q) ∧ K' = KK G (rN ρ 1 q) x (zP m 1 (stM M nr nb n)) ou) := by
  have h := S.1
  obtain ⟨b1, b2, b3⟩ := h.nlt (by omega)
  have g := Xstate1 (m := m) (ou := ou) hG nr h.n6 h.n1 h.xr (fun k hk => h.xa hk) n h.xn b1 b2 b3 nb h.xb h.eb h.b8
  rw [S.st] at g
  exact g
theorem S_reachOf (hG : az_okS l G) (hc : c ≤ 64) (S : ST c ρ x M n nr nb cs) (hk : k < nb) (hat : M.1 13 k = nI r) : az_M l G yL_reachOf (az_wsH yL_reachOf cL_reachOf 3 (some FieldType.int) [(0, 5, 6, 28)]) 10 [.ref (ρ.1 0), .int (nI k)] (AD ρ) (KK G ρ x m ou) 0 0 (az_r (some (.int (nI r))) (AD ρ) (KK G ρ x m ou)) := by
  have h := S.1
  have h6 := h.n6
  have h1 := h.n1
  have g := H_reachOf (ρ := ρ) (x := x) (m := m) (ou := ou) hG (nI k) (by decide) (XreachOf1 hG nb k h.xb h.eb h.b8 hk) hq_v (fun _ _ _ h => hq_x h)
  rw [S.at4 hk, hat] at g
  exact g
theorem S_volumeOf (hG : az_okS l G) (hc : c ≤ 64) (S : ST c ρ x M n nr nb cs) (hk : k < nr) : az_M l G yL_volumeOf (az_wsH yL_volumeOf cL_volumeOf 3 (some FieldType.int) [(0, 5, 6, 28)]) 10 [.ref (ρ.1 0), .int (nI k)] (AD ρ) (KK G ρ x m ou) 0 0 (az_r (some (.int (M.1 4 k))) (AD ρ) (KK G ρ x m ou)) := by
  have h := S.1
  have h6 := h.n6
  have h1 := h.n1
  have g := H_volumeOf (ρ := ρ) (x := x) (m := m) (ou := ou) hG (nI k) (by decide) (XvolumeOf1 hG nr k h.xr h6 hk) hq_v (fun _ _ _ h => hq_x h)
  rw [x4_eq S.1.1.1 hk] at g
  exact g
theorem S_lockfulOf (hG : az_okS l G) (hc : c ≤ 64) (S : ST c ρ x M n nr nb cs) (hk : k + 1 < nr) : az_M l G yL_lockfulOf (az_wsH yL_lockfulOf cL_lockfulOf 3 (some FieldType.int) [(0, 5, 6, 28)]) 10 [.ref (ρ.1 0), .int (nI k)] (AD ρ) (KK G ρ x m ou) 0 0 (az_r (some (.int (M.1 7 k))) (AD ρ) (KK G ρ x m ou)) := by
  have h := S.1
  have h6 := h.n6
  have h1 := h.n1
  have g := H_lockfulOf (ρ := ρ) (x := x) (m := m) (ou := ou) hG (nI k) (by decide) (XlockfulOf1 hG nr k h.xr h6 (by omega)) hq_v (fun _ _ _ h => hq_x h)
  rw [(S.lks (by omega)).1] at g
  exact g
theorem S_waterThrough (hG : az_okS l G) (hc : c ≤ 64) (S : ST c ρ x M n nr nb cs) (hk : k + 1 < nr) : az_M l G yL_waterThrough (az_wsH yL_waterThrough cL_waterThrough 3 (some FieldType.int) [(0, 5, 6, 28)]) 10 [.ref (ρ.1 0), .int (nI k)] (AD ρ) (KK G ρ x m ou) 0 0 (az_r (some (.int (M.1 10 k))) (AD ρ) (KK G ρ x m ou)) := by
  have h := S.1
  have h6 := h.n6
  have h1 := h.n1
  have g := H_waterThrough (ρ := ρ) (x := x) (m := m) (ou := ou) hG (nI k) (by decide) (XwaterThrough1 hG nr k h.xr h6 (by omega)) hq_v (fun _ _ _ h => hq_x h)
  rw [(S.lks (by omega)).2.2.2] at g
  exact g
theorem S_isFull (hG : az_okS l G) (hc : c ≤ 64) (S : ST c ρ x M n nr nb cs) (hk : k + 1 < nr) : az_M l G yL_isFull (az_wsH yL_isFull cL_isFull 3 (some FieldType.int) [(0, 13, 14, 28)]) 10 [.ref (ρ.1 0), .int (nI k)] (AD ρ) (KK G ρ x m ou) 0 0 (az_r (some (.int (fuM M k))) (AD ρ) (KK G ρ x m ou)) := by
  have h := S.1
  have h6 := h.n6
  have h1 := h.n1
  have g := H_isFull (ρ := ρ) (x := x) (m := m) (ou := ou) hG (nI k) (by decide) (XisFull1 hG nr k h.xr h6 (by omega)) (hq_b fuX_01) (fun _ _ _ h => hq_x h)
  rw [show (if x.1 4 (k + 13) ≤ 0 then (0 : Int32) else 1) = fuX x k from rfl, S.fu hk] at g
  exact g
theorem S_draughtOf (hG : az_okS l G) (hc : c ≤ 64) (S : ST c ρ x M n nr nb cs) (hk : k < nb) : az_M l G yL_draughtOf (az_wsH yL_draughtOf cL_draughtOf 3 (some FieldType.int) [(0, 5, 6, 28)]) 10 [.ref (ρ.1 0), .int (nI k)] (AD ρ) (KK G ρ x m ou) 0 0 (az_r (some (.int (deepM M k))) (AD ρ) (KK G ρ x m ou)) := by
  have h := S.1
  have h6 := h.n6
  have h1 := h.n1
  have g := H_draughtOf (ρ := ρ) (x := x) (m := m) (ou := ou) hG (nI k) (by decide) (XdraughtOf1 hG nb k h.xb h.eb h.b8 hk (h.xt hk)) hq_v (fun _ _ _ h => hq_x h)
  rw [deep_eq S.1.1.2.2.1 hk] at g
  exact g
theorem S_worthIn (hG : az_okS l G) (hc : c ≤ 64) (S : ST c ρ x M n nr nb cs) (hk : k < nb) (hr : r < nr) : az_M l G yL_worthIn (az_wsH yL_worthIn cL_worthIn 4 (some FieldType.int) [(0, 6, 7, 28)]) 10 [.ref (ρ.1 0), .int (nI k), .int (nI r)] (AD ρ) (KK G ρ x m ou) 0 0 (az_r (some (.int (M.1 17 k * M.1 6 r))) (AD ρ) (KK G ρ x m ou)) := by
  have h := S.1
  have h6 := h.n6
  have h1 := h.n1
  have g := H_worthIn (ρ := ρ) (x := x) (m := m) (ou := ou) hG (nI k) (nI r) (by decide) (XworthIn1 hG nb k h.xb h.eb h.b8 hk nr h.xr h6 r hr) hq_v (fun _ _ _ h => hq_x h)
  rw [(wor_i S.1.1.2.2.1 S.1.1.2.1 hk hr).1] at g
  exact g
theorem S_convoySize (hG : az_okS l G) (hc : c ≤ 64) (S : ST c ρ x M n nr nb cs) (hk : k < nb) (hcs : (f :: t) ∈ cs) (hin : k ∈ f :: t) (hrn : r < nr) (hat : M.1 13 k = nI r) : az_M l G yL_convoySize (az_wsH yL_convoySize cL_convoySize 3 (some FieldType.int) [(0, 5, 6, 28)]) 10 [.ref (ρ.1 0), .int (nI k)] (AD ρ) (KK G ρ x m ou) 0 0 (az_r (some (.int (nI (t.length + 1)))) (AD ρ) (KK G ρ x m ou)) := by
  have h := S.1
  have h6 := h.n6
  have h1 := h.n1
  obtain ⟨rl, aC, aP, ef, ek, h4, hnd, hq, hat2, hs⟩ := h.voyF hk hcs hin hrn hat
  have g := H_convoySize (ρ := ρ) (x := x) (m := m) (ou := ou) hG (nI k) (by decide) (XconvoySize1 hG nb k h.xb h.eb h.b8 hk rl f t aC) hq_v (fun _ _ _ h => hq_x h)
  exact g
theorem S_convoyAt (hG : az_okS l G) (hc : c ≤ 64) (S : ST c ρ x M n nr nb cs) (hk : k < nb) (hcs : (f :: t) ∈ cs) (hin : k ∈ f :: t) (hrn : r < nr) (hat : M.1 13 k = nI r) {i d : Nat} (hi : (f :: t)[i]? = some d) : az_M l G yL_convoyAt (az_wsH yL_convoyAt cL_convoyAt 4 (some FieldType.int) [(0, 6, 7, 28), (0, 6, 12, 92)]) 10 [.ref (ρ.1 0), .int (nI k), .int (nI i)] (AD ρ) (KK G ρ x m ou) 0 0 (az_r (some (.int (nI d))) (AD ρ) (KK G ρ x m ou)) := by
  have h := S.1
  have h6 := h.n6
  have h1 := h.n1
  obtain ⟨rl, aC, aP, ef, ek, h4, hnd, hq, hat2, hs⟩ := h.voyF hk hcs hin hrn hat
  have g := H_convoyAt (ρ := ρ) (x := x) (m := m) (ou := ou) hG (nI k) (nI i) (by decide) (XcAt2 hG nb k h.xb h.eb h.b8 hk rl f t aC (nI i) i d rfl hi (by omega)) hq_v (fun _ _ _ h => hq_x h)
  exact g
theorem S_parts2 (hG : az_okS l G) (hc : c ≤ 64) (S : ST c ρ x M n nr nb cs) (hk : k < nb) (hcs : (f :: t) ∈ cs) (hin : k ∈ f :: t) (hrn : r < nr) (hat : M.1 13 k = nI r) (hlk : lk + 1 < nr) (hL : ∀ d ∈ f :: t, M.1 14 d ≤ M.1 8 lk) : az_M l G yL_partsFor (az_wsH yL_partsFor cL_partsFor 4 (some FieldType.int) [(0, 6, 7, 28), (0, 6, 12, 55)]) 10 [.ref (ρ.1 0), .int (nI k), .int (nI lk)] (AD ρ) (KK G ρ x m ou) 0 0 (az_r (some (.int (nI (ptM M lk (t.length + 1) (f :: t))))) (AD ρ) (KK G ρ x m ou)) := by
  have h := S.1
  have h6 := h.n6
  have h1 := h.n1
  obtain ⟨rl, aC, aP, ef, ek, h4, hnd, hq, hat2, hs⟩ := h.voyF hk hcs hin hrn hat
  have e9 := (S.lks (k := lk) (by omega)).2.1
  have g0 : 0 ≤ M.1 8 lk := by
    have L := (S.1.1.1.1.2.2.2.2.2.2.2.2 lk (by omega)).2.2.2.2.2.1 hlk
    rw [i_le, i_0]
    omega
  have hm : mxL x (f :: t) 0 ≤ x.1 9 lk := by
    rw [e9]
    exact (mxL_le S.1.1.2.2.1 (f :: t) 0 hq).mpr ⟨g0, hL⟩
  have g := H_partsFor (ρ := ρ) (x := x) (m := m) (ou := ou) hG (nI k) (nI lk) (by decide) (XpartsFor2 hG nb k h.xb h.eb h.b8 hk rl f t aC nr lk h.xr h6 hlk hm) hq_v (fun _ _ _ h => hq_x h)
  rw [pt_eq S.1.1.2.2.1 e9 (t.length + 1) (f :: t) hq hL] at g
  exact g
theorem S_parts1 (hG : az_okS l G) (hc : c ≤ 64) (S : ST c ρ x M n nr nb cs) (hk : k < nb) (hcs : (f :: t) ∈ cs) (hin : k ∈ f :: t) (hrn : r < nr) (hat : M.1 13 k = nI r) (hlk : lk + 1 < nr) (hL : ¬ ∀ d ∈ f :: t, M.1 14 d ≤ M.1 8 lk) : az_M l G yL_partsFor (az_wsH yL_partsFor cL_partsFor 4 (some FieldType.int) [(0, 6, 7, 28), (0, 6, 12, 55)]) 10 [.ref (ρ.1 0), .int (nI k), .int (nI lk)] (AD ρ) (KK G ρ x m ou) 1 6 (az_r (some (.int (-1002))) (AD ρ) (KK G ρ x m ou)) := by
  have h := S.1
  have h6 := h.n6
  have h1 := h.n1
  obtain ⟨rl, aC, aP, ef, ek, h4, hnd, hq, hat2, hs⟩ := h.voyF hk hcs hin hrn hat
  have e9 := (S.lks (k := lk) (by omega)).2.1
  have hm : ¬ mxL x (f :: t) 0 ≤ x.1 9 lk := fun z => hL (by
    rw [e9] at z
    exact ((mxL_le S.1.1.2.2.1 (f :: t) 0 hq).mp z).2)
  have g := H_partsFor (ρ := ρ) (x := x) (m := m) (ou := ou) hG (nI k) (nI lk) (by decide) (XpartsFor1 hG nb k h.xb h.eb h.b8 hk rl f t aC nr lk h.xr h6 hlk hm) (fun _ _ _ h => hx_v h) (fun _ _ _ h => Or.inr (hx_e h))
  exact g
theorem S_refusalReason (hG : az_okS l G) {u : Int32} (h0 : ¬ x.1 0 12 = 0) (hu : x.1 0 12 = u) : az_M l G yL_refusalReason (az_wsH yL_refusalReason cL_refusalReason 2 (some FieldType.int) [(0, 4, 5, 92)]) 10 [.ref (ρ.1 0)] (AD ρ) (KK G ρ x m ou) 0 0 (az_r (some (.int u)) (AD ρ) (KK G ρ x m ou)) := by
  have g := H_refusalReason (m := m) (ou := ou) (ρ := ρ) (x := x) hG (by decide) (XrefusalReason1 hG h0) hq_v (fun _ _ _ h => hq_x h)
  rw [hu] at g
  exact g
theorem S_refusalLock (hG : az_okS l G) {u : Int32} (h0 : ¬ x.1 0 12 = 0) (hu : x.1 0 13 = u) : az_M l G yL_refusalLock (az_wsH yL_refusalLock cL_refusalLock 2 (some FieldType.int) [(0, 4, 5, 92)]) 10 [.ref (ρ.1 0)] (AD ρ) (KK G ρ x m ou) 0 0 (az_r (some (.int u)) (AD ρ) (KK G ρ x m ou)) := by
  have g := H_refusalLock (m := m) (ou := ou) (ρ := ρ) (x := x) hG (by decide) (XrefusalLock1 hG h0) hq_v (fun _ _ _ h => hq_x h)
  rw [hu] at g
  exact g
theorem zP_0 {A B : Nat → Int32} : (zP (zP m 0 A) 1 B).1 0 = A ∧ (zP (zP m 0 A) 1 B).1 1 = B ∧ (zP (zP m 0 A) 1 B).2 0 = true ∧ (zP (zP m 0 A) 1 B).2 1 = true := ⟨rfl, rfl, rfl, rfl⟩
/-- same(before, now) where both rows are one -/
theorem S_same (hG : az_okS l G) {A : Nat → Int32} : az_M l G yL_same (az_ws yL_same cL_same 4 (Option.some FieldType.boolean)) 1 [.ref (ρ.1 100), .ref (ρ.1 101)] (AD ρ) (KK G ρ x (zP (zP m 0 A) 1 A) ou) 0 0 (az_r (some (.int 1)) (AD ρ) (KK G ρ x (zP (zP m 0 A) 1 A) ou)) := Xsame hG rfl rfl (fun _ _ => rfl)
/-- after a lock's passage its chamber is empty or full -/
theorem passL_fl {dn : Bool} : ∀ (k : Nat) (m : Ms) (q : List Nat) (n9 : Nat), (((dn = true → m.1 11 lk = 0) ∧ (dn = false → ¬ m.1 11 lk = 0)) ∨ (q ≠ [] ∧ 0 < k)) → ¬ (passL nr lk dn k m q n9).2 = 0 → ((dn = true → (passL nr lk dn k m q n9).1.1 11 lk = 0) ∧ (dn = false → ¬ (passL nr lk dn k m q n9).1.1 11 lk = 0))
  | 0, m, q, n9, h, _ => by
    rcases h with h | ⟨_, h⟩
    · exact h
    · omega
  | k + 1, m, [], n9, h, _ => by
    rcases h with h | ⟨h, _⟩
    · exact h
    · exact absurd rfl h
  | k + 1, m, b :: r, n9, _, hz => by
    rw [passL] at hz ⊢
    by_cases z : (lockM m nr lk dn (paM m lk (b :: r) 0)).2 = 0
    · rw [if_pos z] at hz ⊢
      refine passL_fl k _ _ _ (Or.inl ?_) hz
      have e : (lockM m nr lk dn (paM m lk (b :: r) 0)).1 = lkD m nr lk dn (paM m lk (b :: r) 0) := by
        unfold lockM at z ⊢
        split at z
        · exact absurd (show (3 : Int32) = 0 from z) (by decide)
        · rename_i h1
          rw [if_neg h1]
          split at z
          · exact absurd (show (4 : Int32) = 0 from z) (by decide)
          · rename_i h2
            rw [if_neg h2]
      rw [e]
      unfold lkD
      rw [movesM_p (by decide)]
      refine ⟨fun hd => ?_, fun hd => ?_⟩
      · subst hd
        unfold lkC
        rw [if_pos rfl]
        unfold emptiesM
        rw [comesM_p (by decide) (by decide) (by decide) (by decide) (by decide), mI_p (by decide), mI_s]
        exact vn_0
      · subst hd
        unfold lkC
        rw [if_neg (by decide)]
        unfold lkB
        by_cases w : (lkA m nr lk false).1 11 lk = 0
        · rw [if_pos w]
          unfold fillsM
          rw [mI_s, vn_1]
          exact one_ne
        · rw [if_neg w]; exact w
    · rw [if_neg z] at hz
      exact absurd rfl hz
theorem passM_fl {dn : Bool} (hz : ¬ (passM M nr lk dn f t).2 = 0) : (dn = true → (passM M nr lk dn f t).1.1 11 lk = 0) ∧ (dn = false → ¬ (passM M nr lk dn f t).1.1 11 lk = 0) := by
  unfold passM at hz ⊢
  split at hz
  · rename_i h1
    rw [if_pos h1]
    split at hz
    · exact absurd rfl hz
    · rename_i h2
      rw [if_neg h2]
      exact passL_fl _ _ _ _ (Or.inr ⟨List.cons_ne_nil _ _, Nat.succ_pos _⟩) hz
  · exact absurd rfl hz
theorem passM_le {dn : Bool} (hz : ¬ (passM M nr lk dn f t).2 = 0) : ∀ d ∈ f :: t, M.1 14 d ≤ M.1 8 lk := by
  unfold passM at hz
  split at hz
  · rename_i h1
    exact (tl_iff (f :: t)).mp h1
  · exact absurd rfl hz
end
