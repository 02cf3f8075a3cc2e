section
variable {x x' : Xs} {m m' : Ms} {n n' nr nb lk f : Nat} {dn : Bool} {t : List Nat}
theorem nI_ad9 (a b : Nat) : nI a + nI b = nI (a + b) := (Int32.ofNat_add a b).symm
theorem TieB.pass (T : TieB x m nb) : TieB x (passM m nr lk dn f t).1 nb := T.meq (fun p hp j => passM_p (by omega) (by omega) (by omega) (by omega) (by omega) (by omega) (by omega) (by omega))
theorem TieW.refM (T : TieW x n m nr) {u v : Int32} : TieW x n (mI (mI m 0 28 u) 0 29 v) nr := (T.f0 (by decide)).f0 (by decide)
theorem ptM_le {lk : Nat} : ∀ (k : Nat) (q : List Nat), ptM m lk k q ≤ k
  | 0, _ => Nat.le_refl 0
  | _ + 1, [] => Nat.zero_le _
  | k + 1, b :: r => by
    show 1 + ptM m lk k (epM m lk (b :: r) 0) ≤ k + 1
    have := ptM_le (lk := lk) k (epM m lk (b :: r) 0)
    omega
/-- a convoy through a lock: class and reference -/
theorem Tie_P (T : TieW x n m nr) (B : TieB x m nb) (hk : lk + 1 < nr) (hq : ∀ d ∈ f :: t, d < nb) (hn : n + t.length * 20 + 80 < 2 ^ 30) :
    ((tryP x n nr lk dn f t).2 = 0 → (passM m nr lk dn f t).2 = nI (ptM m lk (t.length + 1) (f :: t)) ∧ TieW (tryP x n nr lk dn f t).1.1 (tryP x n nr lk dn f t).1.2 (passM m nr lk dn f t).1 nr) ∧
    (¬ (tryP x n nr lk dn f t).2 = 0 → (passM m nr lk dn f t).2 = 0 ∧ ∃ m' : Ms, (passM m nr lk dn f t).1 = refM m' (tryP x n nr lk dn f t).2 (nI lk) ∧ TieW (tryP x n nr lk dn f t).1.1 (tryP x n nr lk dn f t).1.2 m' nr) := by
  have h6 := T.1.2.2.2.1
  obtain ⟨u1, e9, e10, u4, u5, u6, u7⟩ := T.1.2.2.2.2.2.2.2.2 lk (by omega)
  have u6 := u6 hk
  have a1 : mxL x (f :: t) 0 ≤ x.1 9 lk ↔ tlM m lk (f :: t) 0 = 0 := by
    rw [mxL_le B _ _ hq, tl_iff, e9]
    exact ⟨fun z => z.2, fun z => ⟨i_le.mpr (by rw [i_0]; omega), z⟩⟩
  have a2 : mxD x (f :: t) 0 ≤ x.1 10 lk ↔ ¬ sillI m lk (f :: t) = 0 := by
    rw [mxD_le B _ _ hq, sill_iff, e10]
    exact ⟨fun z y => y z.2, fun z => ⟨i_le.mpr (by rw [i_0]; omega), Classical.not_not.mp z⟩⟩
  unfold tryP passM
  by_cases c1 : tlM m lk (f :: t) 0 = 0
  · rw [if_pos c1, if_pos (a1.mpr c1)]
    by_cases c2 : sillI m lk (f :: t) = 0
    · rw [if_pos c2, if_neg (fun z => a2.mp z c2)]
      exact ⟨fun z => absurd z (show ¬ (2 : Int32) = 0 by decide), fun _ => ⟨rfl, m, rfl, T⟩⟩
    · rw [if_neg c2, if_pos (a2.mpr c2)]
      have h := Tie_tp (dn := dn) hk (t.length + 1) x n m (f :: t) 0 T B hq (tl_iff _ |>.mp c1) (by omega)
      rw [Nat.zero_add] at h
      exact h
  · rw [if_neg c1, if_neg (fun z => c1 (a1.mp z))]
    exact ⟨fun z => absurd z (show ¬ (1 : Int32) = 0 by decide), fun _ => ⟨rfl, m, rfl, T⟩⟩
def smD (m : Ms) (f : Nat) (t : List Nat) : Nat → Nat → Nat
  | 0, _ => 0
  | k + 1, r => ptM m r (t.length + 1) (f :: t) + smD m f t k (r + 1)
def smU (m : Ms) (f : Nat) (t : List Nat) : Nat → Nat → Nat
  | 0, _ => 0
  | k + 1, r => ptM m (r - 1) (t.length + 1) (f :: t) + smU m f t k (r - 1)
theorem sm_eq (h8 : ∀ j, m'.1 8 j = m.1 8 j) (h14 : ∀ d, m'.1 14 d = m.1 14 d) : ∀ k r, smD m' f t k r = smD m f t k r ∧ smU m' f t k r = smU m f t k r
  | 0, _ => ⟨rfl, rfl⟩
  | k + 1, r => by
    unfold smD smU
    rw [ptM_eq (h8 _) h14, ptM_eq (h8 _) h14, (sm_eq h8 h14 k _).1, (sm_eq h8 h14 k _).2]
    exact ⟨rfl, rfl⟩
/-- what a voyage comes to: class (y, code) and reference (M) -/
def VoyT (y : (Xs × Nat) × Int32) (M : Ms × Int32) (nr s : Nat) : Prop := (y.2 = 1 → M.2 = nI s ∧ TieW y.1.1 y.1.2 M.1 nr) ∧ (¬ y.2 = 1 → y.2 = 0 ∧ M.2 = 0 ∧ ∃ m' : Ms, M.1 = refM m' (y.1.1.1 0 10) (y.1.1.1 0 11) ∧ TieW y.1.1 y.1.2 m' nr)
theorem nI_nz9 {a : Nat} (h : 0 < a) (hb : a < 2 ^ 30) : ¬ nI a = 0 := fun z => nI_ne h hb z.symm
theorem ptM_pos {lk k b : Nat} {r : List Nat} : 0 < ptM m lk (k + 1) (b :: r) := by
  show 0 < 1 + ptM m lk k (epM m lk (b :: r) 0)
  omega
theorem Tie_D {dst : Nat} (hd : dst < nr) (ht : t.length < 20) (hq : ∀ d ∈ f :: t, d < nb) : ∀ (k fu : Nat) (x : Xs) (n : Nat) (m : Ms) (r a : Nat), r + k = dst → k < fu → TieW x n m nr → TieB x m nb → n + k * 10000 + 1000 < 2 ^ 29 → VoyT (tvD nr f t k x n r) (sailM nr f t dst fu m r (nI a)) nr (a + smD m f t k r)
  | 0, fu + 1, x, n, m, r, a, h1, _, T, B, _ => by
    have e : sailM nr f t dst (fu + 1) m r (nI a) = (m, nI a) := if_pos (by omega)
    rw [e]
    exact ⟨fun _ => ⟨rfl, T⟩, fun z => absurd rfl z⟩
  | k + 1, fu + 1, x, n, m, r, a, h1, h2, T, B, hn => by
    have h6 := T.1.2.2.2.1
    have e : sailM nr f t dst (fu + 1) m r (nI a) = (if (passM m nr r true f t).2 = 0 then ((passM m nr r true f t).1, 0) else sailM nr f t dst fu (passM m nr r true f t).1 (r + 1) (nI a + (passM m nr r true f t).2)) := by
      show (if r = dst then _ else if r < dst then _ else _) = _
      rw [if_neg (by omega), if_pos (by omega)]
    have e2 : tvD nr f t (k + 1) x n r = (if (tryP x n nr r true f t).2 = 0 then tvD nr f t k (tryP x n nr r true f t).1.1 (tryP x n nr r true f t).1.2 (r + 1) else ((xI (xI (tryP x n nr r true f t).1.1 0 10 (tryP x n nr r true f t).2) 0 11 (nI r), (tryP x n nr r true f t).1.2), 0)) := rfl
    rw [e, e2]
    obtain ⟨p1, p2⟩ := Tie_P (dn := true) T B (show r + 1 < nr by omega) hq (by omega)
    have hg := tryP_ge (x := x) (n := n) (nr := nr) (lk := r) (f := f) (dn := true) (t := t) (by omega)
    have hm : (t.length + 1) * (nr + 2) ≤ 20 * 8 := Nat.mul_le_mul (by omega) (by omega)
    by_cases c : (tryP x n nr r true f t).2 = 0
    · obtain ⟨q1, q2⟩ := p1 c
      have hz := nI_nz9 (ptM_pos (m := m) (lk := r) (k := t.length) (b := f) (r := t)) (by have := ptM_le (m := m) (lk := r) (t.length + 1) (f :: t); omega)
      rw [if_pos c, if_neg (by rw [q1]; exact hz), q1, nI_ad9]
      have ih := Tie_D hd ht hq k fu (tryP x n nr r true f t).1.1 (tryP x n nr r true f t).1.2 (passM m nr r true f t).1 (r + 1) (a + ptM m r (t.length + 1) (f :: t)) (by omega) (by omega) q2 (B.pass.xeq (by rw [tryP_x]) (by rw [tryP_x])) (by omega)
      rw [(sm_eq (m' := (passM m nr r true f t).1) (m := m) (fun j => passM_p (by decide) (by decide) (by decide) (by decide) (by decide) (by decide) (by decide) (by decide)) (fun j => passM_p (by decide) (by decide) (by decide) (by decide) (by decide) (by decide) (by decide) (by decide)) k (r + 1)).1, Nat.add_assoc] at ih
      exact ih
    · obtain ⟨q1, m9, q2, q3⟩ := p2 c
      rw [if_neg c, if_pos q1]
      refine ⟨fun z => absurd z (show ¬ (0 : Int32) = 1 by decide), fun _ => ⟨rfl, rfl, m9, ?_, q3.xeq (by rw [xI_p (by decide), xI_p (by decide)]) (by rw [xI_p (by decide), xI_p (by decide)]) (fun p hp => by rw [xI_row (by unfold xW at hp; omega), xI_row (by unfold xW at hp; omega)])⟩⟩
      show (passM m nr r true f t).1 = _
      rw [q2, xI_k (by decide), xI_s, xI_s]
theorem Tie_U {dst : Nat} (hr : ∀ r, r < nr → r < nr) (ht : t.length < 20) (hq : ∀ d ∈ f :: t, d < nb) : ∀ (k fu : Nat) (x : Xs) (n : Nat) (m : Ms) (r a : Nat), dst + k = r → r < nr → k < fu → TieW x n m nr → TieB x m nb → n + k * 10000 + 1000 < 2 ^ 29 → VoyT (tvU nr f t k x n r) (sailM nr f t dst fu m r (nI a)) nr (a + smU m f t k r)
  | 0, fu + 1, x, n, m, r, a, h1, _, _, T, B, _ => by
    have e : sailM nr f t dst (fu + 1) m r (nI a) = (m, nI a) := if_pos (by omega)
    rw [e]
    exact ⟨fun _ => ⟨rfl, T⟩, fun z => absurd rfl z⟩
  | k + 1, fu + 1, x, n, m, r, a, h1, hrn, h2, T, B, hn => by
    have h6 := T.1.2.2.2.1
    have e : sailM nr f t dst (fu + 1) m r (nI a) = (if (passM m nr (r - 1) false f t).2 = 0 then ((passM m nr (r - 1) false f t).1, 0) else sailM nr f t dst fu (passM m nr (r - 1) false f t).1 (r - 1) (nI a + (passM m nr (r - 1) false f t).2)) := by
      show (if r = dst then _ else if r < dst then _ else _) = _
      rw [if_neg (by omega), if_neg (by omega)]
    have e2 : tvU nr f t (k + 1) x n r = (if (tryP x n nr (r - 1) false f t).2 = 0 then tvU nr f t k (tryP x n nr (r - 1) false f t).1.1 (tryP x n nr (r - 1) false f t).1.2 (r - 1) else ((xI (xI (tryP x n nr (r - 1) false f t).1.1 0 10 (tryP x n nr (r - 1) false f t).2) 0 11 (nI (r - 1)), (tryP x n nr (r - 1) false f t).1.2), 0)) := rfl
    rw [e, e2]
    obtain ⟨p1, p2⟩ := Tie_P (dn := false) T B (show (r - 1) + 1 < nr by omega) hq (by omega)
    have hg := tryP_ge (x := x) (n := n) (nr := nr) (lk := r - 1) (f := f) (dn := false) (t := t) (by omega)
    have hm : (t.length + 1) * (nr + 2) ≤ 20 * 8 := Nat.mul_le_mul (by omega) (by omega)
    by_cases c : (tryP x n nr (r - 1) false f t).2 = 0
    · obtain ⟨q1, q2⟩ := p1 c
      have hz := nI_nz9 (ptM_pos (m := m) (lk := r - 1) (k := t.length) (b := f) (r := t)) (by have := ptM_le (m := m) (lk := r - 1) (t.length + 1) (f :: t); omega)
      rw [if_pos c, if_neg (by rw [q1]; exact hz), q1, nI_ad9]
      have ih := Tie_U (dst := dst) hr ht hq k fu (tryP x n nr (r - 1) false f t).1.1 (tryP x n nr (r - 1) false f t).1.2 (passM m nr (r - 1) false f t).1 (r - 1) (a + ptM m (r - 1) (t.length + 1) (f :: t)) (by omega) (by omega) (by omega) q2 (B.pass.xeq (by rw [tryP_x]) (by rw [tryP_x])) (by omega)
      rw [(sm_eq (m' := (passM m nr (r - 1) false f t).1) (m := m) (fun j => passM_p (by decide) (by decide) (by decide) (by decide) (by decide) (by decide) (by decide) (by decide)) (fun j => passM_p (by decide) (by decide) (by decide) (by decide) (by decide) (by decide) (by decide) (by decide)) k (r - 1)).2, Nat.add_assoc] at ih
      exact ih
    · obtain ⟨q1, m9, q2, q3⟩ := p2 c
      rw [if_neg c, if_pos q1]
      refine ⟨fun z => absurd z (show ¬ (0 : Int32) = 1 by decide), fun _ => ⟨rfl, rfl, m9, ?_, q3.xeq (by rw [xI_p (by decide), xI_p (by decide)]) (by rw [xI_p (by decide), xI_p (by decide)]) (fun p hp => by rw [xI_row (by unfold xW at hp; omega), xI_row (by unfold xW at hp; omega)])⟩⟩
      show (passM m nr (r - 1) false f t).1 = _
      rw [q2, xI_k (by decide), xI_s, xI_s]
end
