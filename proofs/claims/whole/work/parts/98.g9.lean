section
variable {l : Launch} {G : az_G} {ρ : Rp} {x x' : Xs} {m m' : Ms} {ou : Nat → Int64}
theorem nd_len : ∀ (n : Nat) (l : List Nat), l.Nodup → (∀ d ∈ l, d < n) → l.length ≤ n
  | 0, [], _, _ => Nat.le_refl 0
  | 0, d :: l, _, h => absurd (h d List.mem_cons_self) (Nat.not_lt_zero d)
  | n + 1, l, hd, h => by
    by_cases z : n ∈ l
    · have g := nd_len n (l.erase n) (hd.erase n) (fun d hm => by
        have q := hd.mem_erase_iff.mp hm
        have := h d q.2
        omega)
      have e := List.length_erase_of_mem z
      omega
    · have g := nd_len n l hd (fun d hm => by
        have := h d hm
        have ne : d ≠ n := fun e => z (e ▸ hm)
        omega)
      omega
/-- the barges of the row's convoys, one behind the other -/
def blT (x : Xs) (v : Int32) (ch : Nat → List Nat) : Nat → Nat → List Nat
  | 0, _ => []
  | j + 1, k => (if x.2.1 k 4 = v then (if x.2.2.1 0 k = none then k :: ch k else []) else []) ++ blT x v ch j (k + 1)
theorem blT_len {v : Int32} {ch : Nat → List Nat} : ∀ j i, (rowsT x v ch j i).length = 2 * (blT x v ch j i).length
  | 0, _ => rfl
  | j + 1, i => by
    show (rowT x v ch i ++ rowsT x v ch j (i + 1)).length = 2 * (_ ++ blT x v ch j (i + 1)).length
    rw [List.length_append, List.length_append, blT_len j (i + 1)]
    unfold rowT
    by_cases z : x.2.1 i 4 = v
    · rw [if_pos z, if_pos z]
      by_cases z2 : x.2.2.1 0 i = none
      · rw [if_pos z2, if_pos z2, List.length_cons, List.length_cons, List.length_cons, chT_len]
        omega
      · rw [if_neg z2, if_neg z2, List.length_nil]
        omega
    · rw [if_neg z, if_neg z, List.length_nil]
      omega
theorem blT_mem {v : Int32} {ch : Nat → List Nat} : ∀ j i, ∀ d ∈ blT x v ch j i, ∃ k, i ≤ k ∧ k < i + j ∧ x.2.2.1 0 k = none ∧ d ∈ k :: ch k
  | 0, _, d, h => by cases h
  | j + 1, i, d, h => by
    rcases List.mem_append.mp h with q | q
    · by_cases z : x.2.1 i 4 = v
      · rw [if_pos z] at q
        by_cases z2 : x.2.2.1 0 i = none
        · rw [if_pos z2] at q
          exact ⟨i, Nat.le_refl i, by omega, z2, q⟩
        · rw [if_neg z2] at q
          cases q
      · rw [if_neg z] at q
        cases q
    · obtain ⟨k, k1, k2, k3, k4⟩ := blT_mem j (i + 1) d q
      exact ⟨k, by omega, by omega, k3, k4⟩
theorem blT_nd {v : Int32} {ch : Nat → List Nat} {cs : List (List Nat)} {nb : Nat} (hf : cs.flatten.Nodup) (hc : ∀ k, k < nb → x.2.2.1 0 k = none → (k :: ch k) ∈ cs) : ∀ j i, i + j ≤ nb → (blT x v ch j i).Nodup
  | 0, _, _ => List.nodup_nil
  | j + 1, i, hi => by
    refine List.nodup_append.mpr ⟨?_, blT_nd hf hc j (i + 1) (by omega), fun a ha b hb e => ?_⟩
    · by_cases z : x.2.1 i 4 = v
      · rw [if_pos z]
        by_cases z2 : x.2.2.1 0 i = none
        · rw [if_pos z2]
          exact fl_nd cs hf _ (hc i (by omega) z2)
        · rw [if_neg z2]
          exact List.nodup_nil
      · rw [if_neg z]
        exact List.nodup_nil
    · subst e
      by_cases z : x.2.1 i 4 = v
      · rw [if_pos z] at ha
        by_cases z2 : x.2.2.1 0 i = none
        · rw [if_pos z2] at ha
          obtain ⟨k, k1, k2, k3, k4⟩ := blT_mem j (i + 1) a hb
          have q := fl_dj cs hf _ (hc i (by omega) z2) _ (hc k (by omega) k3) a ha k4
          have := (List.cons.inj q).1
          omega
        · rw [if_neg z2] at ha
          cases ha
      · rw [if_neg z] at ha
        cases ha
theorem digT_len9 {L : Nat} : (digT L).length ≤ 2 := by
  unfold digT
  split <;> simp
theorem digT_lt9 {L : Nat} (h : L < 100) : ∀ v ∈ digT L, v < 128 := by
  unfold digT
  split
  · intro v hv
    rcases List.mem_cons.mp hv with q | q
    · omega
    · cases q
  · intro v hv
    rcases List.mem_cons.mp hv with q | q
    · omega
    · rcases List.mem_cons.mp q with q | q
      · omega
      · cases q
theorem chT_lt9 : ∀ t : List Nat, (∀ d ∈ t, d < 80) → ∀ v ∈ chT t, v < 128
  | [], _, v, h => by cases h
  | d :: t, ht, v, h => by
    rcases List.mem_cons.mp h with q | q
    · omega
    · rcases List.mem_cons.mp q with q | q
      · have := ht d List.mem_cons_self
        omega
      · exact chT_lt9 t (fun d hd => ht d (List.mem_cons_of_mem _ hd)) v q
theorem rowsT_lt {v0 : Int32} {ch : Nat → List Nat} {nb : Nat} (h8 : nb ≤ 8) (hd : ∀ k, k < nb → ∀ d ∈ ch k, d < 80) : ∀ j i, i + j ≤ nb → ∀ v ∈ rowsT x v0 ch j i, v < 128
  | 0, _, _, v, h => by cases h
  | j + 1, i, hi, v, h => by
    rcases List.mem_append.mp h with q | q
    · unfold rowT at q
      by_cases z : x.2.1 i 4 = v0
      · rw [if_pos z] at q
        by_cases z2 : x.2.2.1 0 i = none
        · rw [if_pos z2] at q
          rcases List.mem_cons.mp q with q | q
          · omega
          · rcases List.mem_cons.mp q with q | q
            · omega
            · exact chT_lt9 (ch i) (hd i (by omega)) v q
        · rw [if_neg z2] at q
          cases q
      · rw [if_neg z] at q
        cases q
    · exact rowsT_lt h8 hd j (i + 1) (by omega) v q
theorem lineL_lt {r L nb : Nat} {ch : Nat → List Nat} (h8 : nb ≤ 8) (hr : r < 6) (hL : L < 100) (hd : ∀ k, k < nb → ∀ d ∈ ch k, d < 80) : ∀ v ∈ lineL x r L nb ch, v < 128 := fun v hv => by
  unfold lineL at hv
  rcases List.mem_append.mp hv with q | q
  · rcases List.mem_append.mp q with q | q
    · rcases List.mem_append.mp q with q | q
      · rcases List.mem_append.mp q with q | q
        · rcases List.mem_cons.mp q with q | q
          · omega
          · cases q
        · rcases List.mem_cons.mp q with q | q
          · omega
          · rcases List.mem_cons.mp q with q | q
            · omega
            · cases q
      · exact digT_lt9 hL v q
    · rcases List.mem_cons.mp q with q | q
      · omega
      · rcases List.mem_cons.mp q with q | q
        · omega
        · cases q
  · exact rowsT_lt h8 hd nb 0 (by omega) v q
theorem CsT.ch {nb : Nat} {cs : List (List Nat)} (C : CsT x nb cs) : ∃ ch : Nat → List Nat, ∀ k, k < nb → x.2.2.1 0 k = none → (k :: ch k) ∈ cs := by
  have key : ∀ k : Nat, ∃ s : List Nat, k < nb → x.2.2.1 0 k = none → (k :: s) ∈ cs := fun k => by
    by_cases hk : k < nb
    · obtain ⟨L, hL, hkL⟩ := List.mem_flatten.mp ((C.2.1 k).mp hk)
      obtain ⟨p, s, hs⟩ := List.append_of_mem hkL
      refine ⟨s, fun _ hn => ?_⟩
      have hah := (C.2.2 L hL).2.2.2.1
      rw [hs] at hah
      have hx := (ah_split p none hah).2.1
      rcases List.eq_nil_or_concat p with z | ⟨p2, d, z⟩
      · subst z
        rw [hs] at hL
        exact hL
      · have z2 : p = p2 ++ [d] := by rw [z, List.concat_eq_append]
        rw [z2, List.getLast?_concat, hn] at hx
        cases hx
    · exact ⟨[], fun h => absurd h hk⟩
  obtain ⟨ch, h⟩ := Classical.skolem.mp key
  exact ⟨ch, h⟩
theorem xo_t {y : MethodName} {b : ByteArray} {nL d C : Nat} {ret : Option FieldType} {As : List Value} {cv : Value → Int64 → Prop} {v : Value} {w : Int64} {MT : OpR} {ls : List (String × Int32)} (h : ∀ ou : Nat → Int64, az_M l G y (az_ws y b nL ret) d (.ref (ρ.1 0) :: As) (AD ρ) (KK G ρ x m ou) (C - ρ.2.2.2.2.1) (2 * (C - ρ.2.2.2.2.1)) (az_tx G (some v) ρ C x' m ou)) (hd : d ≤ 9) (hC : ρ.2.2.2.1 ≤ 131072 ∧ ρ.2.2.2.2.1 ≤ 34) (h1 : ρ.2.2.2.2.1 ≤ C) (h2 : C ≤ 34) (hc : cv v w) (hM : ∀ (a : Nat → Nat) (ou' : Nat → Int64), ou' 0 = w → MT 0 (tR ρ a C) x' ou') : XO l G ρ x m y b nL ret As ls cv MT := fun ou => ⟨C - ρ.2.2.2.2.1, 2 * (C - ρ.2.2.2.2.1), d, hd, ⟨by omega, by omega⟩, _, h ou, by
  rintro o ad' K' ⟨a, -, rfl, rfl, rfl⟩
  refine ⟨tR ρ a C, x', rfl, rfl, rfl, ⟨?_, ?_, hC.1, h2⟩, Or.inl ⟨v, w, rfl, hc, hM a⟩⟩
  · show ρ.2.2.2.1 + ρ.2.2.2.2.1 + (C - ρ.2.2.2.2.1) ≤ ρ.2.2.2.1 + C + 2
    omega
  · show 6 * ρ.2.2.2.1 + 2 * ρ.2.2.2.2.1 + 2 * (C - ρ.2.2.2.2.1) ≤ 6 * ρ.2.2.2.1 + 2 * C + 20
    omega⟩
theorem wrM_p {k nb p j : Nat} {ch : Nat → List Nat} (h : p ≠ 38) (h0 : p ≠ 0) : (mI (writeM m k nb ch) 0 0 0).1 p j = m.1 p j := by
  rw [mI_p h0]
  unfold writeM
  rw [wrL_p h h0, mI_p h0]
theorem wrM_0 {k nb j : Nat} {ch : Nat → List Nat} (h : j ≠ 39) (h0 : j ≠ 0) : (mI (writeM m k nb ch) 0 0 0).1 0 j = m.1 0 j := by
  rw [mI_k h0]
  unfold writeM
  rw [wrL_0 h, mI_k h]
theorem wrL_2 : ∀ (cs : List Int32) (m : Ms) (n : Nat), (wrL m n cs).2 = m.2
  | [], _, _ => rfl
  | c :: cs, m, n => by rw [wrL, wrL_2 cs]; rfl
/-- a line written: class and reference -/
theorem Tie_textT {n nr nb N r L : Nat} {cs : List (List Nat)} {ch : Nat → List Nat} (h : Tie x n m nr nb N cs) (hr : r < 6) (hL : L < 100) (hl : levM m r = nI L) (hd : ∀ k, k < nb → ∀ d ∈ ch k, d < 80) (hlen : (lineL x r L nb ch).length ≤ 34) : Tie (txA (setX x N) 0 (lineL x r L nb ch)) n (mI (writeM m r nb ch) 0 0 0) nr nb (lineL x r L nb ch).length cs ∧ (lineM m r nb ch).length = (lineL x r L nb ch).length := by
  obtain ⟨T, R, B, A, C, F, X, h8, h9, h10⟩ := h
  obtain ⟨f1, f2, f3, f4, f5, f6, f7, f8⟩ := F
  have hv := lineL_lt (x := x) B.1 hr hL hd
  obtain ⟨W1, W2⟩ := TxT_write (n := N) B A (show r < 80 by omega) hL hl hd hv hlen
  have hx2 : (txA (setX x N) 0 (lineL x r L nb ch)).2 = x.2 := (show (txA (setX x N) 0 (lineL x r L nb ch)).2 = (setX x N).2 from rfl).trans setX_2
  have xo : ∀ p j, p ≠ 14 → p ≠ 23 → (txA (setX x N) 0 (lineL x r L nb ch)).1 p j = x.1 p j := fun p j a b => (txA_p a b).trans (setX_p a)
  have mo : ∀ p j, p ≠ 38 → p ≠ 0 → (mI (writeM m r nb ch) 0 0 0).1 p j = m.1 p j := fun p j a b => wrM_p a b
  have m2 : (mI (writeM m r nb ch) 0 0 0).2 = m.2 := wrL_2 _ _ _
  refine ⟨⟨(T.xeq (x' := txA (setX x N) 0 (lineL x r L nb ch)) (xo 1 8 (by decide) (by decide)) (xo 8 3 (by decide) (by decide)) (fun p hp => funext fun j => xo p j (by unfold xW at hp; omega) (by unfold xW at hp; omega))).meq (wrM_0 (by decide) (by decide)) (wrM_0 (by decide) (by decide)) ⟨wrM_0 (by decide) (by decide), wrM_0 (by decide) (by decide), wrM_0 (by decide) (by decide)⟩ (fun p hp => funext fun j => mo p j (by unfold mW at hp; omega) (by unfold mW at hp; omega)), fun k hk => ?_, (B.meq (fun p hp j => mo p j (by omega) (by omega))).xeq (by rw [hx2]) (by rw [hx2]), A.xeq (fun _ _ => by rw [hx2]) (fun _ _ => mo 13 _ (by decide) (by decide)), C.xeq (fun _ _ => by rw [hx2]) (by rw [hx2]), ⟨?_, ?_, ?_, ?_, ?_, ?_, fun w c hw => by rw [hx2]; exact f7 w c hw, fun c z1 z2 => (mo 17 c (by decide) (by decide)).trans (f8 c z1 z2)⟩, W1, ?_, ?_, ?_⟩, W2⟩
  · rw [xo 11 k (by decide) (by decide), xo 12 k (by decide) (by decide), mo 6 k (by decide) (by decide), mo 5 k (by decide) (by decide)]; exact R k hk
  · rw [xo 0 8 (by decide) (by decide), wrM_0 (by decide) (by decide)]; exact f1
  · rw [xo 0 7 (by decide) (by decide)]; exact f2
  · rw [wrM_0 (by decide) (by decide)]; exact f3
  · rw [hx2, m2]; exact f4
  · rw [xo 0 12 (by decide) (by decide), wrM_0 (by decide) (by decide)]; exact f5
  · rw [xo 0 13 (by decide) (by decide), wrM_0 (by decide) (by decide)]; exact f6
  · exact TxB_A (TxB_set h8) hv
  · rw [txA_14 (by decide), setX_1]; exact h9
  · rw [txA_3, Nat.zero_add]
theorem O_writeReach (hG : az_okS l G) {A : Nat × Nat × Nat × Nat} (hT : az_okT G A) {c : Nat} (hc : c < 512) (h : Nx c ρ x m) (p0 : Int32) : XO l G ρ x m yX3_writeReach cX3_writeReach 6 (some FieldType.int) [.int p0] [("java/lang/IndexOutOfBoundsException", 1)] cvI (MO l G yX4_writeReach cX4_writeReach 4 (some FieldType.int) [.int p0] cvI (c + 1) m) := by
  obtain ⟨n, nr, nb, N, cs, h⟩ := h
  have h6 := h.n6
  have h1 := h.n1
  have hb8 := h.b8
  rcases oo_or nr (by omega) p0 with hv | ⟨k, hk, rfl⟩
  · exact xo_x (k := 1) (fun ou => XwriteReach0 hG nr p0 h.xr h.n6 hv) (by decide) h.cap List.mem_cons_self (fun ou' => mo_r (k := 1) (w := (0 : Int64)) (MwriteReach0 hG nr p0 h.mr h.n6 hv) (by decide) ⟨0, rfl, rfl⟩ mI_s (fun z => absurd z (by decide)) (h.n0))
  · obtain ⟨ch, hch⟩ := h.1.2.2.2.2.1.ch
    have C := h.1.2.2.2.2.1
    have B := h.1.2.2.1
    have hlt : ∀ j, j < nb → x.2.2.1 0 j = none → ∀ d ∈ j :: ch j, d < nb := fun j hj hn d hd => (C.2.1 d).mpr (List.mem_flatten.mpr ⟨_, hch j hj hn, hd⟩)
    obtain ⟨ch', hch'⟩ : ∃ ch' : Nat → List Nat, (∀ j, j < nb → x.2.2.1 0 j = none → (j :: ch' j) ∈ cs) ∧ ∀ j, j < nb → ∀ d ∈ ch' j, d < 80 := by
      refine ⟨fun j => if x.2.2.1 0 j = none then ch j else [], fun j hj hn => ?_, fun j hj d hd => ?_⟩
      · show (j :: (if x.2.2.1 0 j = none then ch j else [])) ∈ cs
        rw [if_pos hn]
        exact hch j hj hn
      · by_cases hn : x.2.2.1 0 j = none
        · have hd2 : d ∈ (if x.2.2.1 0 j = none then ch j else []) := hd
          rw [if_pos hn] at hd2
          have := hlt j hj hn d (List.mem_cons_of_mem _ hd2)
          omega
        · have hd2 : d ∈ (if x.2.2.1 0 j = none then ch j else []) := hd
          rw [if_neg hn] at hd2
          cases hd2
    obtain ⟨hcs, hd80⟩ := hch'
    have lv := lev_i (T := h.1.1) hk
    obtain ⟨L, hL, hLe⟩ : ∃ L : Nat, L < 100 ∧ levM m k = nI L := by
      refine ⟨(levM m k).toInt.toNat, by omega, i_eq.mpr ?_⟩
      rw [i_nI (by omega)]
      omega
    have hlen : (lineL x k L nb ch').length ≤ 34 := by
      have e1 := blT_len (x := x) (v := nI k) (ch := ch') nb 0
      have e2 := nd_len nb (blT x (nI k) ch' nb 0) (blT_nd C.1 hcs nb 0 (by omega)) (fun d hd => by
        obtain ⟨j, j1, j2, j3, j4⟩ := blT_mem nb 0 d hd
        exact (C.2.1 d).mpr (List.mem_flatten.mpr ⟨_, hcs j (by omega) j3, j4⟩))
      have e3 := digT_len9 (L := L)
      unfold lineL
      rw [List.length_append, List.length_append, List.length_append, List.length_append, e1]
      show 1 + 2 + (digT L).length + 2 + _ ≤ 34
      omega
    obtain ⟨TT, hW⟩ := Tie_textT h.1 (show k < 6 by omega) hL hLe hd80 hlen
    have hsuf : ∀ j, j < nb → x.2.1 j 4 = nI k → x.2.2.1 0 j = none → XSuf ρ.2.2.2.2.2 x (j :: ch' j) := fun j hj _ hn => by
      rw [← h.eb]
      exact (C.2.2 _ (hcs j hj hn)).2.2.1
    have hmc : MCh m (nI k) nb ch' := fun j hj e13 e18 => by
      have hn : x.2.2.1 0 j = none := by
        have b9 := (B.2 j hj).2.2.2.2.2.1
        rw [e18] at b9
        cases hl : x.2.2.1 0 j with
        | none => rfl
        | some q =>
          rw [hl] at b9
          have hq := (B.2 j hj).2.2.2.2.2.2.2 0 q hl
          have z := congrArg Int32.toInt b9
          rw [show (lkI (some q)).toInt = q from i_nI (by omega)] at z
          have e : (-1 : Int32).toInt = -1 := rfl
          omega
      have hnd := fl_nd cs C.1 _ (hcs j hj hn)
      exact ⟨Suf_M B _ (C.2.2 _ (hcs j hj hn)).2.2.1, fun d hd e => (List.nodup_cons.mp hnd).1 (e ▸ hd)⟩
    have hX := fun ou : Nat → Int64 => XwriteReach1 (m := m) (ou := ou) hG hT nr k h.xr h.n6 hk (h.xa hk) L hL ((lev_eq h.1.1 (by omega)).trans hLe) N h.2.2.2.1 h.1.2.2.2.2.2.2.2.1 nb h.xb h.eb h.b8 ch' hsuf (by rw [Nat.zero_add]; exact hlen)
    have hC := h.cap
    have hOK := h.2.2.2.1
    refine xo_t hX (by decide) hC (tcT_ge hOK.2.2.2.1) (by have := tcT_o (N := 0 + (lineL x k L nb ch').length) hOK.2.2.2.1; show tcT ρ.2.2.2.2.1 (0 + (lineL x k L nb ch').length) ≤ 34; omega) ⟨_, rfl, rfl⟩ (fun a ou' hw => ?_)
    have hN : Nx (c + 1) (tR ρ a (tcT ρ.2.2.2.2.1 (0 + (lineL x k L nb ch').length))) (txA (setX x N) 0 (lineL x k L nb ch')) (mI (writeM m k nb ch') 0 0 0) := by
      have hOK2 := TxOK_A (a := a) (cs := lineL x k L nb ch') (TxOK_set hOK) (by rw [Nat.zero_add]; exact hlen)
      obtain ⟨-, a2, ⟨a3, a4, a5, a6⟩, -, a8⟩ := h
      refine ⟨n, nr, nb, (lineL x k L nb ch').length, cs, TT, by omega, ⟨a3, a4, a5, fun j hj => ?_⟩, ?_, a8⟩
      · have g := a6 j hj
        rw [txA_p (by decide) (by decide), txA_p (by decide) (by decide), txA_p (by decide) (by decide), setX_p (by decide), setX_p (by decide), setX_p (by decide)]
        exact g
      · rw [Nat.zero_add] at hOK2 ⊢
        exact hOK2
    by_cases z : levM m k ≤ 9
    · refine mo_r (k := 0) (MwriteReach1 hG nr k h.mr h.n6 hk (h.ma hk) nb h.mb h.b8 ch' hmc (by omega) z) (by decide) ⟨_, rfl, rfl⟩ mI_s (fun _ => hw.trans ?_) hN
      rw [hW, ← Nat.zero_add (lineL x k L nb ch').length]
      rfl
    · refine mo_r (k := 0) (MwriteReach2 hG nr k h.mr h.n6 hk (h.ma hk) nb h.mb h.b8 ch' hmc (by omega) (Int32.not_le.mp z)) (by decide) ⟨_, rfl, rfl⟩ mI_s (fun _ => hw.trans ?_) hN
      rw [hW, ← Nat.zero_add (lineL x k L nb ch').length]
      rfl
theorem O_lineAt (hG : az_okS l G) {A : Nat × Nat × Nat × Nat} (hT : az_okT G A) {c : Nat} (hc : c < 512) (h : Nx c ρ x m) (p0 : Int32) : XO l G ρ x m yX3_lineAt cX3_lineAt 2 (some FieldType.char) [.int p0] [("java/lang/IndexOutOfBoundsException", 1)] cvI (MO l G yX4_lineAt cX4_lineAt 2 (some FieldType.char) [.int p0] cvI (c + 1) m) := by
  obtain ⟨n, nr, nb, N, cs, h⟩ := h
  have h6 := h.n6
  have h1 := h.n1
  have hb8 := h.b8
  have X := h.1.2.2.2.2.2.2.1
  have hN := X.2.1
  rcases oo_or N (by omega) p0 with hv | ⟨k, hk, rfl⟩
  · exact xo_x (k := 1) (fun ou => XlineAt0 hG hT N h.2.2.2.1 p0 hv) (by decide) h.cap List.mem_cons_self (fun ou' => mo_r (k := 1) (w := (32 : Int32).toInt64) (MlineAt0 hG N X.1 (by omega) p0 hv) (by decide) ⟨32, rfl, rfl⟩ mI_s (fun z => absurd z (by decide)) h.n0)
  · have g := TxT_at X hk
    refine xo_r (fun ou => XlineAt1 hG hT N h.2.2.2.1 k hk) (by decide) h.cap ⟨_, rfl, rfl⟩ (fun ou' hw => mo_r (MlineAt1 hG N X.1 (by omega) k hk g.2) (by decide) ⟨_, rfl, rfl⟩ mI_s (fun _ => hw.trans ?_) (h.n0))
    rw [g.1]
end
