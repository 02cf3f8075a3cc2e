/-! 98.e0 -/
/-! THE OPERATIONS: class's contract and reference's, out of the tie. -/
section
variable {l : Launch} {G : az_G} {ρ ρ' : Rp} {x x' : Xs} {m m' : Ms} {ou : Nat → Int64}
/-- a contract whose end is said by another word -/
def az_N (l : Launch) (G : az_G) (y : MethodName) (ws : List Cond) (d : Nat) (av : List Value) (ad : az_A) (K : az_K) (mc ms : Nat) (P : az_O → az_A → az_K → Prop) : Prop := ∃ post : az_O → az_A → az_K → Prop, az_M l G y ws d av ad K mc ms post ∧ ∀ (o : az_O) (ad' : az_A) (K' : az_K), post o ad' K' → P o ad' K'
/-- what stands between two calls of the law, c of them done -/
def NX (c : Nat) (ρ : Rp) (x : Xs) (m : Ms) (n nr nb N : Nat) (cs : List (List Nat)) : Prop := Tie x n m nr nb N cs ∧ n ≤ 1 + 100 * c ∧ (n ≤ ρ.2.2.2.1 ∧ 256 ≤ ρ.2.2.2.1 ∧ ρ.2.2.2.1 ≤ 131072 ∧ RowZ ρ x) ∧ TxOK ρ x N ∧ nb = ρ.2.2.2.2.2
def cvI (v : Value) (w : Int64) : Prop := ∃ u : Int32, v = .int u ∧ w = u.toInt64
def cvZ (v : Value) (w : Int64) : Prop := ∃ u : Int32, v = .int u ∧ w = if u = 0 then 0 else 1
def cvJ (v : Value) (w : Int64) : Prop := v = .long w
abbrev OpR : Type := Int32 → Rp → Xs → (Nat → Int64) → Prop
/-- how much was made: the rows' growth, and a little -/
def Grw (ρ ρ' : Rp) (mc ms : Nat) : Prop := ρ.2.2.2.1 + ρ.2.2.2.2.1 + mc ≤ ρ'.2.2.2.1 + ρ'.2.2.2.2.1 + 2 ∧ 6 * ρ.2.2.2.1 + 2 * ρ.2.2.2.2.1 + ms ≤ 6 * ρ'.2.2.2.1 + 2 * ρ'.2.2.2.2.1 + 20 ∧ ρ'.2.2.2.1 ≤ 131072 ∧ ρ'.2.2.2.2.1 ≤ 34
def Grm (ρ : Rp) (mc ms : Nat) : Prop := ρ.2.2.2.1 + ρ.2.2.2.2.1 + mc ≤ 131200 ∧ 6 * ρ.2.2.2.1 + 2 * ρ.2.2.2.2.1 + ms ≤ 786600
theorem NX.le {c c' n nr nb N : Nat} {cs : List (List Nat)} (h : NX c ρ x m n nr nb N cs) (hc : c ≤ c') : NX c' ρ x m n nr nb N cs := ⟨h.1, by have := h.2.1; omega, h.2.2⟩
section
variable {c n nr nb N : Nat} {cs : List (List Nat)}
theorem NX.cap (h : NX c ρ x m n nr nb N cs) : ρ.2.2.2.1 ≤ 131072 ∧ ρ.2.2.2.2.1 ≤ 34 := ⟨h.2.2.1.2.2.1, by have := h.2.2.2.1.2.2.2.1; omega⟩
theorem NX.xr (h : NX c ρ x m n nr nb N cs) : x.1 1 8 = nI nr := h.1.1.1.1
theorem NX.mr (h : NX c ρ x m n nr nb N cs) : m.1 0 1 = nI nr := h.1.1.1.2.1
theorem NX.n1 (h : NX c ρ x m n nr nb N cs) : 1 ≤ nr := h.1.1.1.2.2.1
theorem NX.n6 (h : NX c ρ x m n nr nb N cs) : nr ≤ 6 := h.1.1.1.2.2.2.1
theorem NX.xb (h : NX c ρ x m n nr nb N cs) : x.1 0 7 = nI nb := h.1.2.2.2.2.2.1.2.1
theorem NX.mb (h : NX c ρ x m n nr nb N cs) : m.1 0 12 = nI nb := h.1.2.2.2.2.2.1.2.2.1
theorem NX.b8 (h : NX c ρ x m n nr nb N cs) : nb ≤ 8 := h.1.2.2.1.1
theorem NX.eb (h : NX c ρ x m n nr nb N cs) : nb = ρ.2.2.2.2.2 := h.2.2.2.2
theorem NX.xn (h : NX c ρ x m n nr nb N cs) : x.1 8 3 = nI n := h.1.1.1.2.2.2.2.2.2.2.1.1
theorem NX.mn (h : NX c ρ x m n nr nb N cs) : m.1 0 24 = nI n := h.1.1.1.2.2.2.2.2.2.2.1.2.1
theorem NX.a2 (h : NX c ρ x m n nr nb N cs) {k : Nat} (hk : k < 6) : x.1 2 k = m.1 3 k := h.1.1.1.2.2.2.2.1 k hk
theorem NX.ma (h : NX c ρ x m n nr nb N cs) {k : Nat} (hk : k < nr) : ¬ m.1 3 k = 0 := fun z => by
  have g := (h.1.1.1.2.2.2.2.2.1 k hk).1
  rw [z] at g
  exact absurd g (by decide)
theorem NX.xa (h : NX c ρ x m n nr nb N cs) {k : Nat} (hk : k < nr) : ¬ x.1 2 k < 1 := fun z => by
  have g := (h.1.1.1.2.2.2.2.2.1 k hk).1
  have z2 := lt1e (h.a2 (k := k) (by have := h.n6; omega)) z
  rw [Int32.lt_iff_toInt_lt, show (1 : Int32).toInt = 1 from rfl] at z2
  omega
theorem NX.mt (h : NX c ρ x m n nr nb N cs) {k : Nat} (hk : k < nb) : ¬ m.1 16 k = 0 := fun z => by
  have g := (h.1.2.2.1.2 k hk).2.2.2.2.1.2.2.2.2.1
  rw [z] at g
  exact absurd g (by decide)
theorem NX.xt (h : NX c ρ x m n nr nb N cs) {k : Nat} (hk : k < nb) : ¬ x.2.1 k 3 < 1 := fun z => by
  have g := (h.1.2.2.1.2 k hk).2.2.2.2.1.2.2.2.2.1
  have z2 := lt1e (h.1.2.2.1.2 k hk).2.2.1 z
  rw [Int32.lt_iff_toInt_lt, show (1 : Int32).toInt = 1 from rfl] at z2
  omega
theorem NX.pl (h : NX c ρ x m n nr nb N cs) {k : Nat} (hk : k < nb) : ∃ r, r < nr ∧ x.2.1 k 4 = nI r ∧ m.1 13 k = nI r := by
  obtain ⟨e, r, hr, g⟩ := h.1.2.2.2.1 k hk
  exact ⟨r, hr, e.trans g, g⟩
theorem NX.mv (h : NX c ρ x m n nr nb N cs) {t : Nat} (hc : c < 512) (ht : t ≤ 200) : MvX ρ x n t := ⟨h.xn, by have := h.2.1; omega, h.2.2.1.1, by have := h.2.2.1.1; have := h.2.2.1.2.1; omega, h.2.2.1.2.1, h.2.2.1.2.2.1, h.2.2.1.2.2.2⟩
theorem NX.nlt (h : NX c ρ x m n nr nb N cs) (hc : c < 512) : n < 100000 ∧ n ≤ ρ.2.2.2.1 ∧ ρ.2.2.2.1 < 2 ^ 31 := ⟨by have := h.2.1; omega, h.2.2.1.1, by have := h.2.2.1.2.2.1; omega⟩
end
section
variable {y : MethodName} {b : ByteArray} {nL d c : Nat} {ret : Option FieldType} {As : List Value} {cv : Value → Int64 → Prop} {v : Value} {w : Int64} {k : Int32} {MT : OpR} {ls : List (String × Int32)} {E : String}
theorem Grw_0 {mc ms : Nat} (hC : ρ.2.2.2.1 ≤ 131072 ∧ ρ.2.2.2.2.1 ≤ 34) (h1 : mc ≤ 2) (h2 : ms ≤ 20) : Grw ρ ρ mc ms := ⟨by omega, by omega, hC⟩
theorem Grm_0 {mc ms : Nat} (hC : ρ.2.2.2.1 ≤ 131072 ∧ ρ.2.2.2.2.1 ≤ 34) (h1 : mc ≤ 2) (h2 : ms ≤ 20) : Grm ρ mc ms := ⟨by omega, by omega⟩
theorem Grw_g {C : Nat} {a : Nat → Nat} {mc ms : Nat} (hC : ρ.2.2.2.1 ≤ 131072 ∧ ρ.2.2.2.2.1 ≤ 34) (h1 : ρ.2.2.2.1 ≤ C) (h2 : C ≤ 131072) (h3 : mc ≤ 2) (h4 : ms ≤ 20) : Grw ρ (gR ρ a C) (C - ρ.2.2.2.1 + mc) (6 * (C - ρ.2.2.2.1) + ms) := by
  refine ⟨?_, ?_, h2, hC.2⟩
  · show ρ.2.2.2.1 + ρ.2.2.2.2.1 + (C - ρ.2.2.2.1 + mc) ≤ C + ρ.2.2.2.2.1 + 2
    omega
  · show 6 * ρ.2.2.2.1 + 2 * ρ.2.2.2.2.1 + (6 * (C - ρ.2.2.2.1) + ms) ≤ 6 * C + 2 * ρ.2.2.2.2.1 + 20
    omega
theorem Grm_g {C : Nat} {mc ms : Nat} (hC : ρ.2.2.2.1 ≤ 131072 ∧ ρ.2.2.2.2.1 ≤ 34) (h2 : C ≤ 131072) (h3 : mc ≤ 2) (h4 : ms ≤ 20) : Grm ρ (C - ρ.2.2.2.1 + mc) (6 * (C - ρ.2.2.2.1) + ms) := ⟨by omega, by omega⟩
end
end

/-! 98.g2 -/
section
variable {l : Launch} {G : az_G} {ρ : Rp} {x : Xs} {m : Ms} {ou : Nat → Int64}
theorem NX.cv {c n nr nb N : Nat} {cs : List (List Nat)} (h : NX c ρ x m n nr nb N cs) {k : Nat} (hk : k < nb) : ∃ (rl : List Nat) (f : Nat) (t : List Nat), XCv ρ.2.2.2.2.2 x k rl f t ∧ MCv m k rl f t ∧ (f :: t).Nodup ∧ t.length < 4 ∧ k ∈ f :: t ∧ (f :: t) ∈ cs ∧ (∀ d ∈ f :: t, d < nb) ∧ ∀ d ∈ f :: t, x.2.1 d 4 = x.2.1 f 4 := by
  obtain ⟨rl, f, t, a1, a2, a3, a4, a5, a6⟩ := CsT.cv h.1.2.2.2.2.1 hk
  have B := h.1.2.2.1
  refine ⟨rl, f, t, by rw [← h.eb]; exact a1, ⟨Pre_M B _ a1.1, a1.2.1, Suf_M B _ a1.2.2⟩, a2, ?_, a4, a5, Suf_lt _ a1.2.2, a6⟩
  have e : (f :: t).length = t.length + 1 := rfl
  omega
theorem fl_0 {n nr nb k r : Nat} (T : TieW x n m nr) (B : TieB x m nb) (hk : k < nb) (hr : r < 6) : floatX x k r 0 = floatsI m k r := by
  rw [float_eq T B hk hr]
  have e17 : (buyC m k 0).1 17 k = m.1 17 k := by rw [buyC_17, if_pos rfl, Int32.add_zero]
  have ed : deepM (buyC m k 0) k = deepM m k := by
    unfold deepM
    rw [buyC_p (p := 15) (by decide), e17, buyC_p (p := 16) (by decide)]
  have el : levM (buyC m k 0) r = levM m r := by
    unfold levM
    rw [buyC_p (by decide), buyC_p (by decide)]
  unfold floatsI
  rw [el, ed]
theorem fI_01 {k r : Nat} : floatsI m k r = 0 ∨ floatsI m k r = 1 := by
  unfold floatsI
  split
  · exact Or.inl rfl
  · exact Or.inr rfl
end

/-! 98.g3 -/
section
variable {l : Launch} {G : az_G} {ρ : Rp} {x : Xs} {m : Ms} {ou : Nat → Int64}
theorem NX.tie {c n nr nb N : Nat} {cs cs' : List (List Nat)} {x' : Xs} {m' : Ms} (h : NX c ρ x m n nr nb N cs) (T' : Tie x' n m' nr nb N cs') (hx : x'.1 = x.1) : NX c ρ x' m' n nr nb N cs' := by
  obtain ⟨-, a2, ⟨a3, a4, a5, a6⟩, a7, a8⟩ := h
  refine ⟨T', a2, ⟨a3, a4, a5, ?_⟩, ?_, a8⟩
  · unfold RowZ at a6 ⊢
    rw [hx]
    exact a6
  · unfold TxOK at a7 ⊢
    rw [hx]
    exact a7
theorem flX_01 {k r : Nat} {u : Int32} : floatX x k r u = 0 ∨ floatX x k r u = 1 := by
  unfold floatX
  split
  · exact Or.inl rfl
  · exact Or.inr rfl
end

/-! 98.g4 -/
section
variable {l : Launch} {G : az_G} {ρ : Rp} {x : Xs} {m : Ms} {ou : Nat → Int64}
theorem lst_mid : ∀ (p s : List Nat) (f a : Nat) (t : List Nat), f :: t = p ++ a :: s → lst f t = lst a s
  | [], s, f, a, t, e => by
    cases e
    rfl
  | b :: p, s, f, a, t, e => by
    obtain ⟨rfl, e2⟩ := List.cons.inj e
    match t, e2 with
    | [], e2 => exact absurd e2.symm (by simp)
    | f2 :: t2, e2 => exact lst_mid p s f2 a t2 e2
theorem nI_inj8 {a b : Nat} (ha : a < 8) (hb : b < 8) (e : nI a = nI b) : a = b := by
  rcases Nat.lt_trichotomy a b with z | z | z
  · exact absurd e (nI_ne z (by omega))
  · exact z
  · exact absurd e.symm (nI_ne z (by omega))
theorem TieB.d0 {nb : Nat} {v : Int32} (B : TieB x (mI m 0 0 v) nb) : TieB x m nb := B.meq (fun p hp j => (mI_p (by omega)).symm)
theorem le4_iff {a b : Nat} (ha : a ≤ 8) (hb : b ≤ 8) : nI a + nI b ≤ 4 ↔ a + b ≤ 4 := by
  rw [nI_ad9]
  constructor
  · intro q
    rcases Nat.lt_or_ge 4 (a + b) with z | z
    · exact absurd q (show ¬ nI (a + b) ≤ nI 4 from nlt_nle z (by omega))
    · exact z
  · intro q
    exact show nI (a + b) ≤ nI 4 from nI_leT q (by omega)
end

/-! 98.g5 -/
section
variable {l : Launch} {G : az_G} {ρ : Rp} {x x' : Xs} {m m' : Ms} {ou : Nat → Int64}
theorem capT_131 {c N : Nat} (hc : c ≤ 131072) (hN : N ≤ 65536) : capT c N ≤ 131072 := by
  unfold capT
  split <;> omega
/-- the rows may have grown: n' movements stand there -/
theorem NX.gr {c n n' nr nr' nb N : Nat} {cs : List (List Nat)} {a : Nat → Nat} {C : Nat} (h : NX c ρ x m n nr nb N cs) (T : Tie x' n' m' nr' nb N cs) (hn : n' ≤ n + 100) (hv : MvX (gR ρ a C) x' n' 0) (h1 : ∀ j, x'.1 14 j = x.1 14 j) (h2 : ∀ j, x'.1 23 j = x.1 23 j) : NX (c + 1) (gR ρ a C) x' m' n' nr' nb N cs := by
  obtain ⟨-, a2, -, a7, a8⟩ := h
  refine ⟨T, by omega, ⟨hv.2.2.1, hv.2.2.2.2.1, hv.2.2.2.2.2.1, hv.2.2.2.2.2.2⟩, ⟨(h1 1).trans a7.1, (h1 3).trans a7.2.1, a7.2.2.1, a7.2.2.2.1, fun j hj => (h2 j).trans (a7.2.2.2.2 j hj)⟩, a8⟩
theorem NX.c1 {c n nr nb N : Nat} {cs : List (List Nat)} (h : NX c ρ x m n nr nb N cs) (hc : c < 512) {n' : Nat} (hn : n' ≤ n + 200) : ρ.2.2.2.1 ≤ capT ρ.2.2.2.1 n' ∧ capT ρ.2.2.2.1 n' ≤ 131072 := ⟨capT_ge, capT_131 h.2.2.1.2.2.1 (by have := h.2.1; omega)⟩
theorem em_le {n nr k : Nat} (hk : k + 1 ≤ nr) : (emptyX x n nr k).2 ≤ n + (nr - k) := by
  have h2 := sendR_le (nr := nr) (nr - (k + 1)) (xI x 5 k (x.1 5 k + x.1 3 k)) n (10 + nI k) (k + 13) (k + 1) ((xI x 5 k (x.1 5 k + x.1 3 k)).1 3 k)
  unfold emptyX
  omega
theorem fi_le {n k : Nat} : (fillX x n k).2 ≤ n + 1 := sendO_ge.2
theorem MvX_open {n nr : Nat} {a1 a2 a3 a4 a5 : Int32} {a : Nat → Nat} (hv : MvX ρ x n 10) : MvX (gR ρ a (capT ρ.2.2.2.1 (addReachX x n nr a1 a2 a3 a4 a5).2)) (addReachX x n nr a1 a2 a3 a4 a5).1 (addReachX x n nr a1 a2 a3 a4 a5).2 0 := by
  have h0 : MvX ρ (bedX (xI (xI (xI x 3 (nr - 1) a3) 9 (nr - 1) a4) 10 (nr - 1) a5) nr a1) n 10 := by
    refine MvX_w hv ?_ (fun j => ?_) (fun j => ?_) (fun j => ?_)
    all_goals
      unfold bedX
      rw [xI_p (by decide), xI_p (by decide), xI_p (by decide), xI_p (by decide), xI_p (by decide)]
  have h1 := MvX_R (nr := nr + 1) (nr + 1 - nr) (bedX (xI (xI (xI x 3 (nr - 1) a3) 9 (nr - 1) a4) 10 (nr - 1) a5) nr a1) n 0 (-1) 2 nr (a1 * a2) a (MvX_le h0 (by omega))
  unfold addReachX openX
  exact MvX_w h1 (by rw [xI_p (by decide), xI_p (by decide)]) (fun j => by rw [xI_p (by decide), xI_p (by decide)]) (fun j => by rw [xI_p (by decide), xI_p (by decide)]) (fun j => by rw [xI_p (by decide), xI_p (by decide)])
theorem op_le {n nr : Nat} {a1 a2 a3 a4 a5 : Int32} : (addReachX x n nr a1 a2 a3 a4 a5).2 ≤ n + 2 := by
  have h1 := sendR_le (nr := nr + 1) (nr + 1 - nr) (bedX (xI (xI (xI x 3 (nr - 1) a3) 9 (nr - 1) a4) 10 (nr - 1) a5) nr a1) n (-1) 2 nr (a1 * a2)
  unfold addReachX openX
  show (sendR (nr + 1) (nr + 1 - nr) _ n _ _ _ _).2 ≤ _
  omega
end

/-! 98.g6 -/
section
variable {l : Launch} {G : az_G} {ρ : Rp} {x x' : Xs} {m m' : Ms} {m9 : Mz} {ou : Nat → Int64}
theorem b_6 {a nr : Nat} (h4 : a < 4) (h6 : nr ≤ 6) : 6 * ((a + 1) * (nr + 2)) ≤ 200 := by
  have := Nat.mul_le_mul (show a + 1 ≤ 4 by omega) (show nr + 2 ≤ 8 by omega)
  omega
theorem b_7 {a nr : Nat} (h4 : a < 4) (h6 : nr ≤ 6) : 6 * ((a + 1) * (2 * nr + 1)) ≤ 400 := by
  have := Nat.mul_le_mul (show a + 1 ≤ 4 by omega) (show 2 * nr + 1 ≤ 13 by omega)
  omega
theorem b_8 {a nr : Nat} (h4 : a < 4) (h6 : nr ≤ 6) : (a + 1) * (2 * nr + 1) ≤ 400 := by
  have := Nat.mul_le_mul (show a + 1 ≤ 4 by omega) (show 2 * nr + 1 ≤ 13 by omega)
  omega
theorem tpA_le {n nr lk : Nat} {dn : Bool} (hk : lk + 1 ≤ nr) : (tpA x n nr lk dn).2 ≤ n + (if dn = false then nr - lk else 0) := by
  unfold tpA; split
  · rename_i h9
    rw [if_pos h9.1]; exact em_le hk
  · exact Nat.le_add_right n _
theorem tpC_le {n nr lk : Nat} {dn : Bool} (hk : lk + 1 ≤ nr) : (tpC x n nr lk dn).2 ≤ n + (if dn = false then 0 else nr - lk) := by
  unfold tpC; split
  · rename_i h9
    rw [if_neg (by rw [h9]; decide)]; exact em_le hk
  · exact Nat.le_add_right n _
theorem tpX_le {nr lk : Nat} {dn : Bool} (hk : lk + 1 ≤ nr) : ∀ (f : Nat) (x : Xs) (n : Nat) (s9 : List Nat), (tpX nr lk dn f x n s9).1.2 ≤ n + f * (nr - lk + 1)
  | 0, _, n, _ => Nat.le_add_right n _
  | f + 1, _, n, [] => Nat.le_add_right n _
  | f + 1, x, n, b :: r => by
    have hm : (f + 1) * (nr - lk + 1) = f * (nr - lk + 1) + (nr - lk + 1) := by rw [Nat.add_mul f 1, Nat.one_mul]
    have gA := tpA_le (x := x) (n := n) (dn := dn) hk
    have gB := tpB_ge (x := (tpA x n nr lk dn).1) (n := (tpA x n nr lk dn).2) (lk := lk)
    have gC := tpC_le (x := (tpB (tpA x n nr lk dn).1 (tpA x n nr lk dn).2 lk).1) (n := (tpB (tpA x n nr lk dn).1 (tpA x n nr lk dn).2 lk).2) (dn := dn) hk
    have hs : (if dn = false then nr - lk else 0) + (if dn = false then 0 else nr - lk) = nr - lk := by cases dn <;> simp
    rw [tpX]
    split
    · exact Nat.le_add_right n _
    · split
      · show (tpA x n nr lk dn).2 ≤ _
        omega
      · split
        · show (tpC _ _ nr lk dn).2 ≤ _
          omega
        · have g := tpX_le (dn := dn) hk f (tpC (tpB (tpA x n nr lk dn).1 (tpA x n nr lk dn).2 lk).1 (tpB (tpA x n nr lk dn).1 (tpA x n nr lk dn).2 lk).2 nr lk dn).1 (tpC (tpB (tpA x n nr lk dn).1 (tpA x n nr lk dn).2 lk).1 (tpB (tpA x n nr lk dn).1 (tpA x n nr lk dn).2 lk).2 nr lk dn).2 (epX x (x.1 9 lk) r (x.2.1 b 1))
          omega
theorem tryP_le {n nr lk f : Nat} {dn : Bool} {t : List Nat} (hk : lk + 1 ≤ nr) : (tryP x n nr lk dn f t).1.2 ≤ n + (t.length + 1) * (nr - lk + 1) := by
  unfold tryP; split
  · split
    · exact tpX_le hk _ _ _ _
    · exact Nat.le_add_right n _
  · exact Nat.le_add_right n _
def sD (nr : Nat) : Nat → Nat → Nat
  | 0, _ => 0
  | k + 1, r => (nr - r + 1) + sD nr k (r + 1)
def sU (nr : Nat) : Nat → Nat → Nat
  | 0, _ => 0
  | k + 1, r => (nr - (r - 1) + 1) + sU nr k (r - 1)
theorem sD_25 : ∀ nr, nr < 7 → ∀ k, k < 7 → ∀ r, r < 7 → r + k < nr → sD nr k r ≤ 25 := by decide +kernel
theorem sU_25 : ∀ nr, nr < 7 → ∀ k, k < 7 → ∀ r, r < 7 → k ≤ r → r < nr → sU nr k r ≤ 25 := by decide +kernel
theorem tvD_le {nr f : Nat} {t : List Nat} : ∀ (k : Nat) (x : Xs) (n r : Nat), r + k < nr → (tvD nr f t k x n r).1.2 ≤ n + (t.length + 1) * sD nr k r
  | 0, _, n, _, _ => Nat.le_add_right n _
  | k + 1, x, n, r, hc => by
    have hm : (t.length + 1) * sD nr (k + 1) r = (t.length + 1) * (nr - r + 1) + (t.length + 1) * sD nr k (r + 1) := by rw [sD, Nat.mul_add]
    have g := tryP_le (x := x) (n := n) (nr := nr) (lk := r) (dn := true) (f := f) (t := t) (by omega)
    rw [tvD]
    split
    · have g2 := tvD_le (nr := nr) (f := f) (t := t) k (tryP x n nr r true f t).1.1 (tryP x n nr r true f t).1.2 (r + 1) (by omega)
      omega
    · show (tryP x n nr r true f t).1.2 ≤ _
      omega
theorem tvU_le {nr f : Nat} {t : List Nat} : ∀ (k : Nat) (x : Xs) (n r : Nat), k ≤ r ∧ r < nr → (tvU nr f t k x n r).1.2 ≤ n + (t.length + 1) * sU nr k r
  | 0, _, n, _, _ => Nat.le_add_right n _
  | k + 1, x, n, r, hc => by
    have hm : (t.length + 1) * sU nr (k + 1) r = (t.length + 1) * (nr - (r - 1) + 1) + (t.length + 1) * sU nr k (r - 1) := by rw [sU, Nat.mul_add]
    have g := tryP_le (x := x) (n := n) (nr := nr) (lk := r - 1) (dn := false) (f := f) (t := t) (by omega)
    rw [tvU]
    split
    · have g2 := tvU_le (nr := nr) (f := f) (t := t) k (tryP x n nr (r - 1) false f t).1.1 (tryP x n nr (r - 1) false f t).1.2 (r - 1) (by omega)
      omega
    · show (tryP x n nr (r - 1) false f t).1.2 ≤ _
      omega
theorem tvX_le {n nr f r dst : Nat} {t : List Nat} (h6 : nr ≤ 6) (hr : r < nr) (hd : dst < nr) (h4 : t.length < 4) : (tvX x n nr f t r dst).1.2 ≤ n + 100 := by
  unfold tvX; split
  · have g := tvD_le (nr := nr) (f := f) (t := t) (dst - r) x n r (by omega)
    have g2 := sD_25 nr (by omega) (dst - r) (by omega) r (by omega) (by omega)
    have g3 := Nat.mul_le_mul (show t.length + 1 ≤ 4 by omega) g2
    omega
  · have g := tvU_le (nr := nr) (f := f) (t := t) (r - dst) x n r (by omega)
    have g2 := sU_25 nr (by omega) (r - dst) (by omega) r (by omega) (by omega) (by omega)
    have g3 := Nat.mul_le_mul (show t.length + 1 ≤ 4 by omega) g2
    omega
theorem NX.voy {c n nr nb N : Nat} {cs : List (List Nat)} (h : NX c ρ x m n nr nb N cs) {k : Nat} (hk : k < nb) : ∃ (rl : List Nat) (f : Nat) (t : List Nat) (r : Nat), XCv ρ.2.2.2.2.2 x k rl f t ∧ SlOK m nr r k rl f t ∧ PvX ρ.2.2.2.2.2 x nr f t ∧ x.2.1 f 4 = nI r ∧ x.2.1 k 4 = nI r ∧ r < nr ∧ t.length < 4 ∧ (f :: t).Nodup ∧ (f :: t) ∈ cs ∧ (∀ d ∈ f :: t, d < nb) ∧ (∀ d ∈ f :: t, m.1 13 d = nI r) ∧ XSuf nb x (f :: t) := by
  obtain ⟨rl, f, t, a1, a2, a3, a4, a5, a6, a7, a8⟩ := h.cv hk
  obtain ⟨r, hr, e1, e2⟩ := h.pl hk
  have ef : x.2.1 f 4 = nI r := (a8 k a5).symm.trans e1
  have em : ∀ d ∈ f :: t, m.1 13 d = nI r := fun d hd => ((h.1.2.2.2.1 d (a7 d hd)).1.symm.trans (a8 d hd)).trans ef
  refine ⟨rl, f, t, r, a1, ⟨h.mr, h.n6, hr, fun k hk => h.ma hk, a2, a3, fun d hd => ⟨em d hd, h.mt (a7 d hd)⟩, a5⟩, ⟨h.xr, h.n6, fun k hk => h.xa hk, a1.2.2, a3, fun d hd => h.xt (a7 d hd)⟩, ef, e1, hr, a4, a3, a6, a7, em, ?_⟩
  rw [h.eb]
  exact a1.2.2
theorem tvS_o {n nr f r dst p j : Nat} {t : List Nat} (hp : p = 9 ∨ p = 11 ∨ p = 12 ∨ p = 14 ∨ p = 23) : (tvX (saveX x) n nr f t r dst).1.1.1 p j = x.1 p j := (tvX_1 (by omega) (by omega) (by omega) (by omega) (by omega) (by omega) (by omega)).trans (sav_p (by omega) (by omega) (by omega))
theorem MvX_s {n t9 : Nat} (h : MvX ρ x n t9) : MvX ρ (saveX x) n t9 := MvX_w h rfl (fun _ => rfl) (fun _ => rfl) (fun _ => rfl)
/-- how many lockings: the sum of the parts -/
theorem car_V {c n nr nb N f r dst lo hi : Nat} {t : List Nat} {cs : List (List Nat)} (h : NX c ρ x m n nr nb N cs) (hq : ∀ d ∈ f :: t, d < nb) (hr : r < nr) (hd : dst < nr) (h1 : (tvX (saveX x) n nr f t r dst).2 = 1) (hl : lo = min r dst) (hh : hi = max r dst) : Xcar1F f t (hi - lo) m9 (tvX (saveX x) n nr f t r dst).1.1 0 lo = nI (smV m f t r dst) := by
  have h6 := h.n6
  have hx : (tvX (saveX x) n nr f t r dst).1.1.2 = x.2 := tvX_x.trans rfl
  have Bt : TieB (tvX (saveX x) n nr f t r dst).1.1 m nb := h.1.2.2.1.xeq (by rw [hx]) (by rw [hx])
  have key : ∀ i, i < hi - lo → (tvX (saveX x) n nr f t r dst).1.1.1 9 (lo + i) = m.1 8 (lo + i) ∧ mxL (tvX (saveX x) n nr f t r dst).1.1 (f :: t) 0 ≤ (tvX (saveX x) n nr f t r dst).1.1.1 9 (lo + i) := fun i hi2 => by
    have e9 : (tvX (saveX x) n nr f t r dst).1.1.1 9 (lo + i) = x.1 9 (lo + i) := tvS_o (by omega)
    refine ⟨e9.trans (h.1.1.1.2.2.2.2.2.2.2.2 (lo + i) (by omega)).2.1, ?_⟩
    rw [e9, mxL_x hx, ← mxL_x (x := x) (x' := saveX x) rfl, ← sav_p (x := x) (p := 9) (j := lo + i) (by decide) (by decide) (by decide)]
    unfold tvX at h1
    by_cases z : r < dst
    · rw [if_pos z] at h1
      have g := tvD_len (dst - r) (saveX x) n r h1 i (by omega)
      rw [show lo = r by omega]
      exact g
    · rw [if_neg z] at h1
      have g := tvU_len (r - dst) (saveX x) n r h1 (by omega) i (by omega)
      rw [show lo = r - (r - dst) by omega]
      exact g
  have e := car_eq (m9 := m9) Bt hq (hi - lo) 0 lo key
  rw [nI_0, Nat.zero_add] at e
  rw [e]
  congr 1
  unfold smV
  by_cases z : r < dst
  · rw [if_pos z, show hi - lo = dst - r by omega, show lo = r by omega]
  · rw [if_neg z, smU_D (r - dst) r (by omega), show hi - lo = r - dst by omega, show lo = r - (r - dst) by omega]
theorem crX_g {n nr f r dst : Nat} {t : List Nat} {a : Nat → Nat} (h6 : nr ≤ 6) (hr : r < nr) (hd : dst < nr) (h4 : t.length < 4) (h : MvX ρ x n 200) : MvX (gR ρ a (capT ρ.2.2.2.1 (tvX (saveX x) n nr f t r dst).1.2)) (crX x n nr f t r dst) n 0 := MvX_le (MvX_cr (z := 0) h6 hr hd (MvX_le h (by have := b_6 h4 h6; omega))) (Nat.zero_le _)
theorem Tie_canS {n nr nb N f r dst : Nat} {t : List Nat} {cs : List (List Nat)} (h : Tie x n m nr nb N cs) (c3 : TieW (crX x n nr f t r dst) n (canS m nr f t r dst) nr) : Tie (crX x n nr f t r dst) n (canS m nr f t r dst) nr nb N cs := by
  obtain ⟨T, R, B, A, C, F, X, h8, h9, h10⟩ := h
  obtain ⟨f1, f2, f3, f4, f5, f6, f7, f8⟩ := F
  have hx : (crX x n nr f t r dst).2 = x.2 := crX_x
  have hb := B.1
  have cp : ∀ p j, (p = 5 ∨ p = 6 ∨ p = 14 ∨ p = 15 ∨ p = 16 ∨ p = 17 ∨ p = 18 ∨ p = 19 ∨ p = 38) → (canS m nr f t r dst).1 p j = m.1 p j := fun p j hp => canS_p (by omega) (by omega) (by omega) (by omega) (by omega) (by omega) (by omega) (by omega) (by omega) (by omega) (by omega) (by omega)
  have c0 : ∀ j, (j = 2 ∨ j = 12 ∨ j = 30 ∨ j = 31 ∨ j = 39) → (canS m nr f t r dst).1 0 j = m.1 0 j := fun j hj => canS_0 (by omega) (by omega) (by omega) (by omega) (by omega) (by omega)
  have m2 : (canS m nr f t r dst).2 = m.2 := (sail_m2 (m := keepsM m)).trans rfl
  refine ⟨c3, fun k hk => ?_, (B.meq (fun p hp j => cp p j (by omega))).xeq (by rw [hx]) (by rw [hx]), A.xeq (fun _ _ => by rw [hx]) (fun b hb' => canS_13 (by omega)), C.xeq (fun _ _ => by rw [hx]) (by rw [hx]), ⟨?_, ?_, ?_, ?_, ?_, ?_, fun w c hw => by rw [hx]; exact f7 w c hw, fun c h1 h2 => (cp 17 c (by omega)).trans (f8 c h1 h2)⟩, ⟨(c0 39 (by omega)).trans X.1, X.2.1, fun i hi => ?_⟩, fun j => ?_, (crX_o (by omega)).trans h9, (crX_o (by omega)).trans h10⟩
  · rw [crX_o (by omega), crX_o (by omega), cp 6 k (by omega), cp 5 k (by omega)]; exact R k hk
  · rw [crX_0 (by decide) (by decide), c0 2 (by omega)]; exact f1
  · rw [crX_0 (by decide) (by decide)]; exact f2
  · rw [c0 12 (by omega)]; exact f3
  · rw [hx, m2]; exact f4
  · rw [crX_0 (by decide) (by decide), c0 30 (by omega)]; exact f5
  · rw [crX_0 (by decide) (by decide), c0 31 (by omega)]; exact f6
  · rw [crX_o (by omega), cp 38 i (by omega)]; exact X.2.2 i hi
  · rw [crX_o (by omega)]; exact h8 j
/-- the water of a voyage that is only tried: the same change in both -/
theorem voy_all {c n nr nb N f r dst : Nat} {t : List Nat} {cs : List (List Nat)} (h : NX c ρ x m n nr nb N cs) (hc : c < 512) (hq : ∀ d ∈ f :: t, d < nb) (hr : r < nr) (hd : dst < nr) (h4 : t.length < 4) : allX (tvX (saveX x) n nr f t r dst).1.1 - allX x = allM (sailM nr f t dst 6 (keepsM m) r 0).1 - allM m ∧ Tie (crX x n nr f t r dst) n (canS m nr f t r dst) nr nb N cs := by
  have h6 := h.n6
  have hn2 := h.2.1
  have V : ∃ s, VoyT (tvX (saveX x) n nr f t r dst) (sailM nr f t dst 6 (keepsM m) r 0) nr s := by
    by_cases z : r = dst
    · subst z
      have e1 : sailM nr f t r 6 (keepsM m) r 0 = (keepsM m, 0) := if_pos rfl
      rw [e1, tv_rr]
      exact ⟨0, fun _ => ⟨nI_0.symm, h.1.1.keeps⟩, fun w => absurd rfl w⟩
    · exact ⟨_, Tie_V h.1.1 h.1.2.2.1 hr hd z (by omega) hq (by omega)⟩
  obtain ⟨s, V⟩ := V
  have hge := (tvS_le (x := x) (n := n) (f := f) (t := t) h6 hr hd).1
  exact ⟨by rw [allX_eq V.tie, allX_eq h.1.1], Tie_canS h.1 (Tie_cr h.1.1 hr hd V hge)⟩
end

/-! 98.g7 -/
section
variable {l : Launch} {G : az_G} {ρ : Rp} {x x' : Xs} {m m' : Ms} {ou : Nat → Int64}
theorem lo_hi {r dst : Nat} (h1 : r < 6) (h2 : dst < 6) : (if nI dst < nI r then nI dst else nI r) = nI (min r dst) ∧ (if nI r < nI dst then nI dst else nI r) = nI (max r dst) := by
  rcases Nat.lt_trichotomy r dst with z | z | z
  · rw [if_neg (fun q => nlt_nle z (by omega) (Int32.le_of_lt q)), if_pos (Int32.not_le.mp (nlt_nle z (by omega))), show min r dst = r by omega, show max r dst = dst by omega]
    exact ⟨rfl, rfl⟩
  · subst z
    rw [if_neg (Int32.lt_irrefl (a := nI r)), Nat.min_self, Nat.max_self]
    exact ⟨rfl, rfl⟩
  · rw [if_neg (fun q => nlt_nle z (by omega) (Int32.le_of_lt q)), if_pos (Int32.not_le.mp (nlt_nle z (by omega))), show min r dst = dst by omega, show max r dst = r by omega]
    exact ⟨rfl, rfl⟩
theorem one_ne : ¬ (1 : Int32) = 0 := by decide
end

/-! 98.g8 -/
section
variable {l : Launch} {G : az_G} {ρ : Rp} {x x' : Xs} {m m' : Ms} {ou : Nat → Int64}
theorem MvX_best {nr f r b n : Nat} {t : List Nat} (h6 : nr ≤ 6) (hr : r < nr) (a : Nat → Nat) : ∀ (q : Nat) {ρ : Rp} (x : Xs) (best most : Int32) (i : Nat), i + q ≤ nr → MvX ρ x n (6 * ((t.length + 1) * (nr + 2)) + 0) → MvX (gR ρ a (capT ρ.2.2.2.1 (bestX nr f t r b n q x best most i).1.2)) (bestX nr f t r b n q x best most i).1.1 n 0
  | 0, ρ, x, best, most, i, hi, h => MvX_0 (MvX_le h (Nat.zero_le _))
  | q + 1, ρ, x, best, most, i, hi, h => by
    have two : ∀ (bb mm : Int32), MvX (gR ρ a (capT ρ.2.2.2.1 (max (tvX (saveX x) n nr f t r i).1.2 (bestX nr f t r b n q (crX x n nr f t r i) bb mm (i + 1)).1.2))) (bestX nr f t r b n q (crX x n nr f t r i) bb mm (i + 1)).1.1 n 0 := fun bb mm => by
      have g := MvX_best (f := f) (b := b) h6 hr a q (ρ := gR ρ a (capT ρ.2.2.2.1 (tvX (saveX x) n nr f t r i).1.2)) (crX x n nr f t r i) bb mm (i + 1) (by omega) (MvX_cr h6 hr (by omega) h)
      have g2 := (bestX_le (f := f) (t := t) (k := b) (n := n) h6 hr q (crX x n nr f t r i) bb mm (i + 1) (by omega)).2
      have e : capT (capT ρ.2.2.2.1 (tvX (saveX x) n nr f t r i).1.2) (bestX nr f t r b n q (crX x n nr f t r i) bb mm (i + 1)).1.2 = capT ρ.2.2.2.1 (max (tvX (saveX x) n nr f t r i).1.2 (bestX nr f t r b n q (crX x n nr f t r i) bb mm (i + 1)).1.2) := capT_mx (by have := h.2.2.2.1; omega)
      rw [← e]
      exact g
    rw [bestX]
    split
    · exact MvX_best h6 hr a q x best most (i + 1) (by omega) h
    · split
      · exact two best most
      · exact two (nI i) (x.2.1 b 5 * x.1 11 i)
end

/-! 98.ga -/
/-- a mean of whole numbers is a number -/
theorem dd_out {k : Nat} (h0 : 0 < k) (h6 : k ≤ 6) (v : Int32) : vf_n64 (FP.ddiv (FP.i2d v) (FP.i2d (nI k))) := by
  have hz : ¬ Jvm.FP.Core.DZero (Jvm.FP.Core.i2d (nI k)) := fun z => absurd ((Jvm.FP.Core.zero_bits2 _).mp z) (Jvm.FP.Core.i2d_ne_zero (nI_nz9 h0 (by omega)))
  have hn := Jvm.FP.Core.ddiv_out (Jvm.FP.Core.DFin.notNaN (Jvm.FP.Core.i2d_fin v)) (Jvm.FP.Core.i2d_fin (nI k)) hz
  have hb : (FP.ddiv (FP.i2d v) (FP.i2d (nI k))).toNat % 2 ^ 63 ≤ 9218868437227405312 := (Jvm.FP.Core.ne_nan _).mp ((Jvm.FP.Core.notNaN_iff _).mp hn)
  have e : (0x7fffffffffffffff : UInt64).toNat = 2 ^ 63 - 1 := by decide
  have e2 : (0x7ff0000000000000 : UInt64).toNat = 9218868437227405312 := by decide
  unfold vf_n64
  rw [UInt64.le_iff_toNat_le, UInt64.toNat_and, e, Nat.and_two_pow_sub_one_eq_mod, e2]
  exact hb

/-! 98.gb -/
section
variable {l : Launch} {G : az_G} {ρ : Rp} {x x' : Xs} {m m' : Ms} {ou : Nat → Int64}
section
variable {y : MethodName} {b : ByteArray} {nL d c : Nat} {ret : Option FieldType} {v : Value} {MT : Rp → Xs → (Nat → Int64) → Prop}
end
theorem MvX_ew {a : Nat → Nat} : ∀ (f : Nat) {ρ : Rp} (x : Xs) (n k t : Nat), MvX ρ x n (f + t) → MvX (gR ρ a (capT ρ.2.2.2.1 (ewS f x n k).2)) (ewS f x n k).1 (ewS f x n k).2 t
  | 0, ρ, x, n, k, t, h => MvX_0 (MvX_le h (by omega))
  | f + 1, ρ, x, n, k, t, h => by
    have h1 := MvX_O (u := nI k) (a := k + 3) (v := -3) (b := 0) (w := ewU x k) (a9 := a) (t := f + t) (MvX_le h (show f + t + 1 ≤ f + 1 + t by omega))
    have g := MvX_ew (a := a) f (sendO x n (nI k) (k + 3) (-3) 0 (ewU x k)).1 (sendO x n (nI k) (k + 3) (-3) 0 (ewU x k)).2 (k + 1) t h1
    have g1 := ewS_ge f (sendO x n (nI k) (k + 3) (-3) 0 (ewU x k)).1 (sendO x n (nI k) (k + 3) (-3) 0 (ewU x k)).2 (k + 1)
    have g2 := (sendO_ge (x := x) (n := n) (u := nI k) (a := k + 3) (v := -3) (b := 0) (w := ewU x k)).2
    have g3 := h.2.2.2.1
    have g4 := MvX_two g g1.1 (show (ewS f (sendO x n (nI k) (k + 3) (-3) 0 (ewU x k)).1 (sendO x n (nI k) (k + 3) (-3) 0 (ewU x k)).2 (k + 1)).2 ≤ 2 * ρ.2.2.2.1 by omega)
    exact g4
end

