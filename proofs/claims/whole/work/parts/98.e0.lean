/-! THE OPERATIONS: class's contract and reference's, out of the tie. -/
section
variable {l : Launch} {G : az_G} {ρ ρ' : Rp} {x x' : Xs} {m m' : Ms} {ou : Nat → Int64}
/-- a contract whose end is said by another word -/
def az_N (l : Launch) (G : az_G) (y : MethodName) (ws : List Cond) (d : Nat) (av : List Value) (ad : az_A) (K : az_K) (mc ms : Nat) (P : az_O → az_A → az_K → Prop) : Prop := ∃ post : az_O → az_A → az_K → Prop, az_M l G y ws d av ad K mc ms post ∧ ∀ (o : az_O) (ad' : az_A) (K' : az_K), post o ad' K' → P o ad' K'
/-- what stands between two calls of the law, c of them done -/
def NX (c : Nat) (ρ : Rp) (x : Xs) (m : Ms) (n nr nb N : Nat) (cs : List (List Nat)) : Prop := Tie x n m nr nb N cs ∧ n ≤ 1 + 100 * c ∧ (n ≤ ρ.2.2.2.1 ∧ 256 ≤ ρ.2.2.2.1 ∧ ρ.2.2.2.1 ≤ 131072 ∧ RowZ ρ x) ∧ TxOK ρ x N ∧ nb = ρ.2.2.2.2.2
def Nx (c : Nat) (ρ : Rp) (x : Xs) (m : Ms) : Prop := ∃ (n nr nb N : Nat) (cs : List (List Nat)), NX c ρ x m n nr nb N cs
def cvI (v : Value) (w : Int64) : Prop := ∃ u : Int32, v = .int u ∧ w = u.toInt64
def cvZ (v : Value) (w : Int64) : Prop := ∃ u : Int32, v = .int u ∧ w = if u = 0 then 0 else 1
def cvJ (v : Value) (w : Int64) : Prop := v = .long w
abbrev OpR : Type := Int32 → Rp → Xs → (Nat → Int64) → Prop
def OpM (G : az_G) (c : Nat) (cv : Value → Int64 → Prop) (k : Int32) (ρ : Rp) (x : Xs) (ou : Nat → Int64) : az_O → az_A → az_K → Prop := fun o ad' K' => ∃ (b : Value) (w : Int64) (m' : Ms), o = .inl (some b) ∧ cv b w ∧ ad' = AD ρ ∧ K' = KK G ρ x m' ou ∧ m'.1 0 0 = k ∧ (k = 0 → ou 0 = w) ∧ Nx c ρ x m'
/-- the reference's method at these places: code k, its answer what stands in the row where k is 0 -/
def MO (l : Launch) (G : az_G) (y : MethodName) (b : ByteArray) (nL : Nat) (ret : Option FieldType) (As : List Value) (cv : Value → Int64 → Prop) (c : Nat) (m : Ms) (k : Int32) (ρ : Rp) (x : Xs) (ou : Nat → Int64) : Prop := ∃ d, d ≤ 11 ∧ az_N l G y (az_ws y b nL ret) d (.ref (ρ.1 100) :: As) (AD ρ) (KK G ρ x m ou) 0 0 (OpM G c cv k ρ x ou)
/-- how much was made: the rows' growth, and a little -/
def Grw (ρ ρ' : Rp) (mc ms : Nat) : Prop := ρ.2.2.2.1 + ρ.2.2.2.2.1 + mc ≤ ρ'.2.2.2.1 + ρ'.2.2.2.2.1 + 2 ∧ 6 * ρ.2.2.2.1 + 2 * ρ.2.2.2.2.1 + ms ≤ 6 * ρ'.2.2.2.1 + 2 * ρ'.2.2.2.2.1 + 20 ∧ ρ'.2.2.2.1 ≤ 131072 ∧ ρ'.2.2.2.2.1 ≤ 34
def Grm (ρ : Rp) (mc ms : Nat) : Prop := ρ.2.2.2.1 + ρ.2.2.2.2.1 + mc ≤ 131200 ∧ 6 * ρ.2.2.2.1 + 2 * ρ.2.2.2.2.1 + ms ≤ 786600
def OpX (G : az_G) (ρ : Rp) (m : Ms) (ou : Nat → Int64) (mc ms : Nat) (ls : List (String × Int32)) (cv : Value → Int64 → Prop) (MT : OpR) : az_O → az_A → az_K → Prop := fun o ad' K' => ∃ (ρ' : Rp) (x' : Xs), ad' = AD ρ' ∧ K' = KK G ρ' x' m ou ∧ ρ'.1 = ρ.1 ∧ Grw ρ ρ' mc ms ∧ ((∃ (v : Value) (w : Int64), o = .inl (some v) ∧ cv v w ∧ ∀ ou' : Nat → Int64, ou' 0 = w → MT 0 ρ' x' ou') ∨ ∃ (E : String) (k : Int32), o = .inr E ∧ (E, k) ∈ ls ∧ ∀ ou' : Nat → Int64, MT k ρ' x' ou')
/-- the class's method at these places: behind it the reference's -/
def XO (l : Launch) (G : az_G) (ρ : Rp) (x : Xs) (m : Ms) (y : MethodName) (b : ByteArray) (nL : Nat) (ret : Option FieldType) (As : List Value) (ls : List (String × Int32)) (cv : Value → Int64 → Prop) (MT : OpR) : Prop := ∀ ou : Nat → Int64, ∃ mc ms d : Nat, d ≤ 9 ∧ Grm ρ mc ms ∧ az_N l G y (az_ws y b nL ret) d (.ref (ρ.1 0) :: As) (AD ρ) (KK G ρ x m ou) mc ms (OpX G ρ m ou mc ms ls cv MT)
theorem NX.f0 {c n nr nb N : Nat} {cs : List (List Nat)} (h : NX c ρ x m n nr nb N cs) {v : Int32} : NX c ρ x (mI m 0 0 v) n nr nb N cs := ⟨h.1.f0, h.2⟩
theorem NX.le {c c' n nr nb N : Nat} {cs : List (List Nat)} (h : NX c ρ x m n nr nb N cs) (hc : c ≤ c') : NX c' ρ x m n nr nb N cs := ⟨h.1, by have := h.2.1; omega, h.2.2⟩
theorem NX.nx {c n nr nb N : Nat} {cs : List (List Nat)} (h : NX c ρ x m n nr nb N cs) : Nx c ρ x m := ⟨n, nr, nb, N, cs, h⟩
theorem NX.n0 {c n nr nb N : Nat} {cs : List (List Nat)} (h : NX c ρ x m n nr nb N cs) {v : Int32} : Nx (c + 1) ρ x (mI m 0 0 v) := (h.f0.le (Nat.le_succ c)).nx
section
variable {c n nr nb N : Nat} {cs : List (List Nat)}
theorem NX.cap (h : NX c ρ x m n nr nb N cs) : ρ.2.2.2.1 ≤ 131072 ∧ ρ.2.2.2.2.1 ≤ 34 := ⟨h.2.2.1.2.2.1, by have := h.2.2.2.1.2.2.2.1; omega⟩
theorem NX.xr (h : NX c ρ x m n nr nb N cs) : x.1 1 8 = nI nr := h.1.1.1.1
theorem NX.mr (h : NX c ρ x m n nr nb N cs) : m.1 0 1 = nI nr := h.1.1.1.2.1
theorem NX.n1 (h : NX c ρ x m n nr nb N cs) : 1 ≤ nr := h.1.1.1.2.2.1
theorem NX.n6 (h : NX c ρ x m n nr nb N cs) : nr ≤ 6 := h.1.1.1.2.2.2.1
theorem NX.xb (h : NX c ρ x m n nr nb N cs) : x.1 0 7 = nI nb := h.1.2.2.2.2.2.1.2.1
theorem NX.mb (h : NX c ρ x m n nr nb N cs) : m.1 0 12 = nI nb := h.1.2.2.2.2.2.1.2.2.1
theorem NX.b8 (h : NX c ρ x m n nr nb N cs) : nb ≤ 8 := h.1.2.2.1.1
theorem NX.eb (h : NX c ρ x m n nr nb N cs) : nb = ρ.2.2.2.2.2 := h.2.2.2.2
theorem NX.xn (h : NX c ρ x m n nr nb N cs) : x.1 8 3 = nI n := h.1.1.1.2.2.2.2.2.2.2.1.1
theorem NX.mn (h : NX c ρ x m n nr nb N cs) : m.1 0 24 = nI n := h.1.1.1.2.2.2.2.2.2.2.1.2.1
theorem NX.a2 (h : NX c ρ x m n nr nb N cs) {k : Nat} (hk : k < 6) : x.1 2 k = m.1 3 k := h.1.1.1.2.2.2.2.1 k hk
theorem NX.ma (h : NX c ρ x m n nr nb N cs) {k : Nat} (hk : k < nr) : ¬ m.1 3 k = 0 := fun z => by
  have g := (h.1.1.1.2.2.2.2.2.1 k hk).1
  rw [z] at g
  exact absurd g (by decide)
theorem NX.xa (h : NX c ρ x m n nr nb N cs) {k : Nat} (hk : k < nr) : ¬ x.1 2 k < 1 := fun z => by
  have g := (h.1.1.1.2.2.2.2.2.1 k hk).1
  have z2 := lt1e (h.a2 (k := k) (by have := h.n6; omega)) z
  rw [Int32.lt_iff_toInt_lt, show (1 : Int32).toInt = 1 from rfl] at z2
  omega
theorem NX.mt (h : NX c ρ x m n nr nb N cs) {k : Nat} (hk : k < nb) : ¬ m.1 16 k = 0 := fun z => by
  have g := (h.1.2.2.1.2 k hk).2.2.2.2.1.2.2.2.2.1
  rw [z] at g
  exact absurd g (by decide)
theorem NX.xt (h : NX c ρ x m n nr nb N cs) {k : Nat} (hk : k < nb) : ¬ x.2.1 k 3 < 1 := fun z => by
  have g := (h.1.2.2.1.2 k hk).2.2.2.2.1.2.2.2.2.1
  have z2 := lt1e (h.1.2.2.1.2 k hk).2.2.1 z
  rw [Int32.lt_iff_toInt_lt, show (1 : Int32).toInt = 1 from rfl] at z2
  omega
theorem NX.pl (h : NX c ρ x m n nr nb N cs) {k : Nat} (hk : k < nb) : ∃ r, r < nr ∧ x.2.1 k 4 = nI r ∧ m.1 13 k = nI r := by
  obtain ⟨e, r, hr, g⟩ := h.1.2.2.2.1 k hk
  exact ⟨r, hr, e.trans g, g⟩
theorem NX.mv (h : NX c ρ x m n nr nb N cs) {t : Nat} (hc : c < 512) (ht : t ≤ 200) : MvX ρ x n t := ⟨h.xn, by have := h.2.1; omega, h.2.2.1.1, by have := h.2.2.1.1; have := h.2.2.1.2.1; omega, h.2.2.1.2.1, h.2.2.1.2.2.1, h.2.2.1.2.2.2⟩
theorem NX.mok (h : NX c ρ x m n nr nb N cs) {t : Nat} (hc : c < 512) (ht : t ≤ 400) : mvok m t := by
  have e := mvN_n h.1.1.1.2.2.2.2.2.2.2.1
  exact ⟨by rw [e]; exact h.mn, by rw [e]; have := h.2.1; omega⟩
theorem NX.nlt (h : NX c ρ x m n nr nb N cs) (hc : c < 512) : n < 100000 ∧ n ≤ ρ.2.2.2.1 ∧ ρ.2.2.2.1 < 2 ^ 31 := ⟨by have := h.2.1; omega, h.2.2.1.1, by have := h.2.2.1.2.2.1; omega⟩
end
section
variable {y : MethodName} {b : ByteArray} {nL d c : Nat} {ret : Option FieldType} {As : List Value} {cv : Value → Int64 → Prop} {v : Value} {w : Int64} {k : Int32} {MT : OpR} {ls : List (String × Int32)} {E : String}
theorem Grw_0 {mc ms : Nat} (hC : ρ.2.2.2.1 ≤ 131072 ∧ ρ.2.2.2.2.1 ≤ 34) (h1 : mc ≤ 2) (h2 : ms ≤ 20) : Grw ρ ρ mc ms := ⟨by omega, by omega, hC⟩
theorem Grm_0 {mc ms : Nat} (hC : ρ.2.2.2.1 ≤ 131072 ∧ ρ.2.2.2.2.1 ≤ 34) (h1 : mc ≤ 2) (h2 : ms ≤ 20) : Grm ρ mc ms := ⟨by omega, by omega⟩
/-- the reference answers -/
theorem mo_r (h : az_M l G y (az_ws y b nL ret) d (.ref (ρ.1 100) :: As) (AD ρ) (KK G ρ x m ou) 0 0 (az_r (some v) (AD ρ) (KK G ρ x m' ou))) (hd : d ≤ 11) (hc : cv v w) (hk : m'.1 0 0 = k) (hw : k = 0 → ou 0 = w) (hN : Nx c ρ x m') : MO l G y b nL ret As cv c m k ρ x ou := ⟨d, hd, _, h, by rintro o ad' K' ⟨rfl, rfl, rfl⟩; exact ⟨v, w, m', rfl, hc, rfl, rfl, hk, hw, hN⟩⟩
/-- the class answers, nothing made -/
theorem xo_r (h : ∀ ou : Nat → Int64, az_M l G y (az_ws y b nL ret) d (.ref (ρ.1 0) :: As) (AD ρ) (KK G ρ x m ou) 0 0 (az_r (some v) (AD ρ) (KK G ρ x' m ou))) (hd : d ≤ 9) (hC : ρ.2.2.2.1 ≤ 131072 ∧ ρ.2.2.2.2.1 ≤ 34) (hc : cv v w) (hM : ∀ ou' : Nat → Int64, ou' 0 = w → MT 0 ρ x' ou') : XO l G ρ x m y b nL ret As ls cv MT := fun ou => ⟨0, 0, d, hd, Grm_0 hC (by decide) (by decide), _, h ou, by rintro o ad' K' ⟨rfl, rfl, rfl⟩; exact ⟨ρ, x', rfl, rfl, rfl, Grw_0 hC (by decide) (by decide), Or.inl ⟨v, w, rfl, hc, hM⟩⟩⟩
/-- the class throws -/
theorem xo_x (h : ∀ ou : Nat → Int64, az_M l G y (az_ws y b nL ret) d (.ref (ρ.1 0) :: As) (AD ρ) (KK G ρ x m ou) 1 6 (az_x E (AD ρ) (KK G ρ x' m ou))) (hd : d ≤ 9) (hC : ρ.2.2.2.1 ≤ 131072 ∧ ρ.2.2.2.2.1 ≤ 34) (hc : (E, k) ∈ ls) (hM : ∀ ou' : Nat → Int64, MT k ρ x' ou') : XO l G ρ x m y b nL ret As ls cv MT := fun ou => ⟨1, 6, d, hd, Grm_0 hC (by decide) (by decide), _, h ou, by rintro o ad' K' ⟨rfl, rfl, rfl⟩; exact ⟨ρ, x', rfl, rfl, rfl, Grw_0 hC (by decide) (by decide), Or.inr ⟨E, k, rfl, hc, hM⟩⟩⟩
theorem Grw_g {C : Nat} {a : Nat → Nat} {mc ms : Nat} (hC : ρ.2.2.2.1 ≤ 131072 ∧ ρ.2.2.2.2.1 ≤ 34) (h1 : ρ.2.2.2.1 ≤ C) (h2 : C ≤ 131072) (h3 : mc ≤ 2) (h4 : ms ≤ 20) : Grw ρ (gR ρ a C) (C - ρ.2.2.2.1 + mc) (6 * (C - ρ.2.2.2.1) + ms) := by
  refine ⟨?_, ?_, h2, hC.2⟩
  · show ρ.2.2.2.1 + ρ.2.2.2.2.1 + (C - ρ.2.2.2.1 + mc) ≤ C + ρ.2.2.2.2.1 + 2
    omega
  · show 6 * ρ.2.2.2.1 + 2 * ρ.2.2.2.2.1 + (6 * (C - ρ.2.2.2.1) + ms) ≤ 6 * C + 2 * ρ.2.2.2.2.1 + 20
    omega
theorem Grm_g {C : Nat} {mc ms : Nat} (hC : ρ.2.2.2.1 ≤ 131072 ∧ ρ.2.2.2.2.1 ≤ 34) (h2 : C ≤ 131072) (h3 : mc ≤ 2) (h4 : ms ≤ 20) : Grm ρ (C - ρ.2.2.2.1 + mc) (6 * (C - ρ.2.2.2.1) + ms) := ⟨by omega, by omega⟩
/-- the class answers, its rows may grow -/
theorem xo_g {C : Nat} (h : ∀ ou : Nat → Int64, az_M l G y (az_ws y b nL ret) d (.ref (ρ.1 0) :: As) (AD ρ) (KK G ρ x m ou) (C - ρ.2.2.2.1) (6 * (C - ρ.2.2.2.1)) (az_g G (some v) ρ C x' m ou)) (hd : d ≤ 9) (hC : ρ.2.2.2.1 ≤ 131072 ∧ ρ.2.2.2.2.1 ≤ 34) (h1 : ρ.2.2.2.1 ≤ C) (h2 : C ≤ 131072) (hc : cv v w) (hM : ∀ (a : Nat → Nat) (ou' : Nat → Int64), ou' 0 = w → MT 0 (gR ρ a C) x' ou') : XO l G ρ x m y b nL ret As ls cv MT := fun ou => ⟨C - ρ.2.2.2.1, 6 * (C - ρ.2.2.2.1), d, hd, Grm_g (mc := 0) (ms := 0) hC h2 (by decide) (by decide), _, h ou, by rintro o ad' K' ⟨a, -, rfl, rfl, rfl⟩; exact ⟨gR ρ a C, x', rfl, rfl, rfl, Grw_g (mc := 0) (ms := 0) hC h1 h2 (by decide) (by decide), Or.inl ⟨v, w, rfl, hc, hM a⟩⟩⟩
theorem xo_gx {C : Nat} (h : ∀ ou : Nat → Int64, az_M l G y (az_ws y b nL ret) d (.ref (ρ.1 0) :: As) (AD ρ) (KK G ρ x m ou) (C - ρ.2.2.2.1 + 1) (6 * (C - ρ.2.2.2.1) + 6) (az_gx G E ρ C x' m ou)) (hd : d ≤ 9) (hC : ρ.2.2.2.1 ≤ 131072 ∧ ρ.2.2.2.2.1 ≤ 34) (h1 : ρ.2.2.2.1 ≤ C) (h2 : C ≤ 131072) (hc : (E, k) ∈ ls) (hM : ∀ (a : Nat → Nat) (ou' : Nat → Int64), MT k (gR ρ a C) x' ou') : XO l G ρ x m y b nL ret As ls cv MT := fun ou => ⟨C - ρ.2.2.2.1 + 1, 6 * (C - ρ.2.2.2.1) + 6, d, hd, Grm_g hC h2 (by decide) (by decide), _, h ou, by rintro o ad' K' ⟨a, -, rfl, rfl, rfl⟩; exact ⟨gR ρ a C, x', rfl, rfl, rfl, Grw_g hC h1 h2 (by decide) (by decide), Or.inr ⟨E, k, rfl, hc, hM a⟩⟩⟩
end
end
