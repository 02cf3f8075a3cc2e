section
variable {l : Launch} {G : az_G} {nL : Nat} {Q : State → Prop} {p : Program} {e : Env} {R : Room} {s : State} {mm : MethodId} {args : Array Value} {below : List Frame} {meth : Method} {c : Code} {k0 n0 pc : Nat} {lv : List (Nat × Value)} {ρ : Rp} {x : Xs} {m : Ms} {ou : Nat → Int64}
theorem az_txx {v : Option Value} {a : Nat → Nat} {C C' : Nat} (h : ∀ i, i ≠ 23 → a i = ρ.2.1 i) : az_tx G v (tR ρ a C) C' x m ou = az_tx G v ρ C' x m ou := by
  funext o ad' K'
  apply propext
  constructor
  · rintro ⟨a', h1, h2, h3, h4⟩
    exact ⟨a', fun i hi => (h1 i hi).trans (h i hi), h2, h3, h4⟩
  · rintro ⟨a', h1, h2, h3, h4⟩
    exact ⟨a', fun i hi => (h1 i hi).trans (h i hi).symm, h2, h3, h4⟩
/-- behind an append: cs stood there, ds came -/
theorem az_tk {v : Option Value} {a : Nat → Nat} {n : Nat} {cs ds : List Nat} {post : az_O → az_A → az_K → Prop} {rest st1 : List Value} (htc : ρ.2.2.2.2.1 = 16 ∨ ρ.2.2.2.2.1 = 34) (ha : ∀ i, i ≠ 23 → a i = ρ.2.1 i) (hL : n + (cs ++ ds).length ≤ 34)
    (hp : post = az_tx G v (tR ρ a (tcT ρ.2.2.2.2.1 (n + cs.length))) (tcT (tcT ρ.2.2.2.2.1 (n + cs.length)) (n + cs.length + ds.length)) (txA (txA x n cs) (n + cs.length) ds) m ou) (hst : v.toList ++ rest = st1)
    (kk : ∀ a' : Nat → Nat, (∀ i, i ≠ 23 → a' i = ρ.2.1 i) → az_W l G nL Q p e R s mm args below meth c (AD (tR ρ a' (tcT ρ.2.2.2.2.1 (n + (cs ++ ds).length)))) (KK G (tR ρ a' (tcT ρ.2.2.2.2.1 (n + (cs ++ ds).length))) (txA x n (cs ++ ds)) m ou) (k0 + (tcT ρ.2.2.2.2.1 (n + (cs ++ ds).length) - ρ.2.2.2.2.1)) (n0 + 2 * (tcT ρ.2.2.2.2.1 (n + (cs ++ ds).length) - ρ.2.2.2.2.1)) pc lv st1) :
    ∀ (v' : Option Value) (ad' : az_A) (K' : az_K), post (.inl v') ad' K' → az_W l G nL Q p e R s mm args below meth c ad' K' (k0 + (tcT ρ.2.2.2.2.1 (n + cs.length) - ρ.2.2.2.2.1) + (tcT (tcT ρ.2.2.2.2.1 (n + cs.length)) (n + cs.length + ds.length) - tcT ρ.2.2.2.2.1 (n + cs.length))) (n0 + 2 * (tcT ρ.2.2.2.2.1 (n + cs.length) - ρ.2.2.2.2.1) + 2 * (tcT (tcT ρ.2.2.2.2.1 (n + cs.length)) (n + cs.length + ds.length) - tcT ρ.2.2.2.2.1 (n + cs.length))) pc lv (v'.toList ++ rest) := by
  subst hp; subst hst
  rintro v' ad' K' ⟨a', h1, h2, rfl, rfl⟩
  cases h2
  have hl : n + cs.length + ds.length = n + (cs ++ ds).length := by rw [List.length_append]; omega
  have e1 : tcT (tcT ρ.2.2.2.2.1 (n + cs.length)) (n + cs.length + ds.length) = tcT ρ.2.2.2.2.1 (n + (cs ++ ds).length) := by rw [hl]; exact tcT_c (by rw [← hl]; omega) hL
  have m1 : ρ.2.2.2.2.1 ≤ tcT ρ.2.2.2.2.1 (n + cs.length) := tcT_ge htc
  have m2 : tcT ρ.2.2.2.2.1 (n + cs.length) ≤ tcT ρ.2.2.2.2.1 (n + (cs ++ ds).length) := tcT_le (by rw [← hl]; omega) htc
  have h9 := kk a' (fun i hi => (h1 i hi).trans (ha i hi))
  show az_W l G nL Q p e R s mm args below meth c (AD (tR ρ a' (tcT (tcT ρ.2.2.2.2.1 (n + cs.length)) (n + cs.length + ds.length)))) (KK G (tR ρ a' (tcT (tcT ρ.2.2.2.2.1 (n + cs.length)) (n + cs.length + ds.length))) (txA (txA x n cs) (n + cs.length) ds) m ou) _ _ pc lv _
  rw [txA_txA, e1, show k0 + (tcT ρ.2.2.2.2.1 (n + cs.length) - ρ.2.2.2.2.1) + (tcT ρ.2.2.2.2.1 (n + (cs ++ ds).length) - tcT ρ.2.2.2.2.1 (n + cs.length)) = k0 + (tcT ρ.2.2.2.2.1 (n + (cs ++ ds).length) - ρ.2.2.2.2.1) from by omega, show n0 + 2 * (tcT ρ.2.2.2.2.1 (n + cs.length) - ρ.2.2.2.2.1) + 2 * (tcT ρ.2.2.2.2.1 (n + (cs ++ ds).length) - tcT ρ.2.2.2.2.1 (n + cs.length)) = n0 + 2 * (tcT ρ.2.2.2.2.1 (n + (cs ++ ds).length) - ρ.2.2.2.2.1) from by omega]
  exact h9
theorem az_tk0 {v : Option Value} {C' k n : Nat} {ρ' : Rp} {X : Xs} {post : az_O → az_A → az_K → Prop} (hp : post = az_tx G v ρ' C' X m ou) : ∀ (E : String) (ad' : az_A) (K' : az_K), post (.inr E) ad' K' → az_X l G nL Q p e R s mm args below meth c ad' K' k n pc lv E := by
  subst hp
  rintro E ad' K' ⟨a, -, h, -⟩
  cases h
theorem az_tc1 {n : Nat} {cs ds : List Nat} {mc : Nat} (htc : ρ.2.2.2.2.1 = 16 ∨ ρ.2.2.2.2.1 = 34) (hL : n + (cs ++ ds).length ≤ 34) (h : k0 + (tcT ρ.2.2.2.2.1 (n + (cs ++ ds).length) - ρ.2.2.2.2.1) ≤ mc) : k0 + (tcT ρ.2.2.2.2.1 (n + cs.length) - ρ.2.2.2.2.1) + (tcT (tcT ρ.2.2.2.2.1 (n + cs.length)) (n + cs.length + ds.length) - tcT ρ.2.2.2.2.1 (n + cs.length)) ≤ mc := by
  have hl : n + cs.length + ds.length = n + (cs ++ ds).length := by rw [List.length_append]; omega
  have e1 : tcT (tcT ρ.2.2.2.2.1 (n + cs.length)) (n + cs.length + ds.length) = tcT ρ.2.2.2.2.1 (n + (cs ++ ds).length) := by rw [hl]; exact tcT_c (by rw [← hl]; omega) hL
  have m1 : ρ.2.2.2.2.1 ≤ tcT ρ.2.2.2.2.1 (n + cs.length) := tcT_ge htc
  have m2 : tcT ρ.2.2.2.2.1 (n + cs.length) ≤ tcT ρ.2.2.2.2.1 (n + (cs ++ ds).length) := tcT_le (by rw [← hl]; omega) htc
  rw [e1]; omega
theorem az_tc2 {n : Nat} {cs ds : List Nat} {mc : Nat} (htc : ρ.2.2.2.2.1 = 16 ∨ ρ.2.2.2.2.1 = 34) (hL : n + (cs ++ ds).length ≤ 34) (h : n0 + 2 * (tcT ρ.2.2.2.2.1 (n + (cs ++ ds).length) - ρ.2.2.2.2.1) ≤ mc) : n0 + 2 * (tcT ρ.2.2.2.2.1 (n + cs.length) - ρ.2.2.2.2.1) + 2 * (tcT (tcT ρ.2.2.2.2.1 (n + cs.length)) (n + cs.length + ds.length) - tcT ρ.2.2.2.2.1 (n + cs.length)) ≤ mc := by
  have hl : n + cs.length + ds.length = n + (cs ++ ds).length := by rw [List.length_append]; omega
  have e1 : tcT (tcT ρ.2.2.2.2.1 (n + cs.length)) (n + cs.length + ds.length) = tcT ρ.2.2.2.2.1 (n + (cs ++ ds).length) := by rw [hl]; exact tcT_c (by rw [← hl]; omega) hL
  have m1 : ρ.2.2.2.2.1 ≤ tcT ρ.2.2.2.2.1 (n + cs.length) := tcT_ge htc
  have m2 : tcT ρ.2.2.2.2.1 (n + cs.length) ≤ tcT ρ.2.2.2.2.1 (n + (cs ++ ds).length) := tcT_le (by rw [← hl]; omega) htc
  rw [e1]; omega
/-- room for the letters cs, when there is room for full, which begins with them -/
theorem az_tbd {n mc ms : Nat} {full : List Nat} (htc : ρ.2.2.2.2.1 = 16 ∨ ρ.2.2.2.2.1 = 34) (hL : n + full.length ≤ 34) (hc : k0 + (tcT ρ.2.2.2.2.1 (n + full.length) - ρ.2.2.2.2.1) ≤ mc) (hs : n0 + 2 * (tcT ρ.2.2.2.2.1 (n + full.length) - ρ.2.2.2.2.1) ≤ ms) (cs : List Nat) (h : ∃ es, cs ++ es = full) : n + cs.length ≤ 34 ∧ k0 + (tcT ρ.2.2.2.2.1 (n + cs.length) - ρ.2.2.2.2.1) ≤ mc ∧ n0 + 2 * (tcT ρ.2.2.2.2.1 (n + cs.length) - ρ.2.2.2.2.1) ≤ ms := by
  obtain ⟨es, rfl⟩ := h
  have hle : n + cs.length ≤ n + (cs ++ es).length := by rw [List.length_append]; omega
  have m2 : tcT ρ.2.2.2.2.1 (n + cs.length) ≤ tcT ρ.2.2.2.2.1 (n + (cs ++ es).length) := tcT_le hle htc
  exact ⟨by omega, by omega, by omega⟩
theorem txA_nil {n : Nat} (h : x.1 14 3 = nI n) : txA x n [] = x := by
  refine Xs_ext (fun p k => ?_) rfl
  by_cases h14 : p = 14
  · subst h14
    by_cases h3 : k = 3
    · subst h3; exact h.symm
    · exact txA_14 h3
  · by_cases h23 : p = 23
    · subst h23
      rw [txA_23, if_neg (by simp)]
    · exact txA_p h14 h23
def chT : List Nat → List Nat
  | [] => []
  | d :: r => 43 :: (48 + d) :: chT r
theorem chT_len : ∀ t, (chT t).length = 2 * t.length
  | [] => rfl
  | _ :: t => by show (chT t).length + 1 + 1 = _; rw [chT_len t, List.length_cons]; omega
theorem TxOK_A' {n : Nat} {cs : List Nat} {a : Nat → Nat} (h : TxOK ρ x n) (hl : n + cs.length ≤ 34) : TxOK (tR ρ a (tcT ρ.2.2.2.2.1 (n + cs.length))) (txA x n cs) (n + cs.length) := TxOK_A h hl
end
section
variable {l : Launch} {G : az_G} {ρ : Rp} {x : Xs} {m : Ms} {ou : Nat → Int64}
set_option maxHeartbeats 4000000 in
set_option maxRecDepth 100000 in
theorem Xapv_l (hG : az_okS l G) {A : Nat × Nat × Nat × Nat} (hT : az_okT G A) {p : Program} {e : Env} {s : State} {mm : MethodId} {args : Array Value} {below : List Frame} {meth : Method} {c : Code} (C : az_C l G p s mm args meth c cX3_appendConvoy yX3_appendConvoy.cls 3 (Option.none : Option FieldType) []) {mc ms : Nat} (n : Nat) (h : TxOK ρ x n) (hb : TxB x) (a1 : Nat) (hn8 : ρ.2.2.2.2.2 ≤ 10) : ∀ (s9 cs : List Nat) (a : Nat → Nat) (ha : ∀ i, i ≠ 23 → a i = ρ.2.1 i) (hlt : ∀ v ∈ cs, v < 128) (hs : XSuf ρ.2.2.2.2.2 x s9) (hL : n + (cs ++ chT s9).length ≤ 34) (hcl : 0 + ((tcT ρ.2.2.2.2.1 (n + (cs ++ chT s9).length)) - ρ.2.2.2.2.1) ≤ mc) (hsl : 0 + 2 * ((tcT ρ.2.2.2.2.1 (n + (cs ++ chT s9).length)) - ρ.2.2.2.2.1) ≤ ms), az_W l G 3 (az_Q G (az_tx G none ρ (tcT ρ.2.2.2.2.1 (n + (cs ++ chT s9).length)) (txA x n (cs ++ chT s9)) m ou) below args s mc ms) p e (az_rm 7 mc ms) s mm args below meth c (AD (tR ρ a (tcT ρ.2.2.2.2.1 (n + cs.length)))) (KK G (tR ρ a (tcT ρ.2.2.2.2.1 (n + cs.length))) (txA x n cs) m ou) (0 + ((tcT ρ.2.2.2.2.1 (n + cs.length)) - ρ.2.2.2.2.1)) (0 + 2 * ((tcT ρ.2.2.2.2.1 (n + cs.length)) - ρ.2.2.2.2.1)) 17 [(2, va_rf ((s9).head?.map ρ.2.2.1)), (1, .ref a1), (0, .ref (ρ.1 0))] [] := by
  have htc := h.2.2.2.1
  intro s9
  induction s9 with
  | nil =>
    intro cs a ha hlt hs hL hcl hsl
    rw [show cs ++ chT [] = cs from List.append_nil cs] at hL hcl hsl ⊢
    refine az_aload_nN C 0 dX3_appendConvoy_17 rfl ?_
    refine az_ifnullN C 46 dX3_appendConvoy_18 (by decide) ?_
    exact az_vret C rfl dX3_appendConvoy_46 hcl hsl ⟨a, ha, rfl, rfl, rfl⟩
  | cons d r ih =>
    intro cs a ha hlt hs hL hcl hsl
    have hbd := fun es he => az_tbd (k0 := 0) (n0 := 0) htc hL hcl hsl es he
    have hd10 : d < 10 := by have := hs.1; omega
    refine az_aload_n C 0 dX3_appendConvoy_17 rfl ?_
    refine az_ifnull C dX3_appendConvoy_18 ?_
    refine az_aload_n C 2 dX3_appendConvoy_21 rfl ?_
    refine az_get C cX3 0 0 6 (v := .ref ((tR ρ a (tcT ρ.2.2.2.2.1 (n + cs.length))).1 14)) wl_X3_38 dX3_appendConvoy_22 rfl rfl rfl (by decide) ?_
    refine az_bipush C (v := 43) dX3_appendConvoy_25 (by decide) ?_
    have hB1 := hbd (cs ++ [43]) (by exact ⟨(48 + d) :: chT r, by simp [chT]⟩)
    have hM1 := XTc (ρ := (tR ρ a (tcT ρ.2.2.2.2.1 (n + cs.length)))) (x := (txA x n cs)) (m := m) (ou := ou) hG hT (n + cs.length) (TxOK_A h (hbd cs ⟨chT (d :: r), rfl⟩).1) (TxB_A hb hlt) 43 (by decide) (by have z := hB1.1; simp at z ⊢; omega)
    refine az_callV C Y_J4_append_cf468 cJ4 0 14 [.int 43] [] wm_X3_314 wi_J4_append_cf468 wse_J4_append_cf468 dX3_appendConvoy_27 rfl rfl rfl hM1 rfl (Nat.le_of_ble_eq_true rfl) (Nat.le_of_ble_eq_true rfl) (Nat.le_of_ble_eq_true rfl) (az_tc1 (k0 := 0) (n := n) (cs := cs) (ds := [43]) (ρ := ρ) htc hB1.1 hB1.2.1) (az_tc2 (n0 := 0) (n := n) (cs := cs) (ds := [43]) (ρ := ρ) htc hB1.1 hB1.2.2) (az_tk (k0 := 0) (n0 := 0) (st1 := [.ref (ρ.1 14)]) (n := n) (cs := cs) (ds := [43]) (ρ := ρ) (x := x) htc ha hB1.1 rfl rfl (fun a1_ ha1_ => ?_)) (az_tk0 rfl)
    refine az_aload_n C 0 dX3_appendConvoy_30 rfl ?_
    refine az_getN C cX0 1 d 0 (v := .int (nI d)) (az_bw C hG nx_X3_196 rfl) dX3_appendConvoy_31 rfl (KK_b hs.1) rfl (by decide) ?_
    have hlt1 : ∀ v ∈ cs ++ [43], v < 128 := fun v hv => by rcases List.mem_append.mp hv with z | z; exact hlt v z; simp at z; omega
    have hB2 := hbd ((cs ++ [43]) ++ [48 + d]) (by exact ⟨chT r, by simp [chT]⟩)
    have hM2 := XTi1 (ρ := (tR ρ a1_ (tcT ρ.2.2.2.2.1 (n + (cs ++ [43]).length)))) (x := (txA x n (cs ++ [43]))) (m := m) (ou := ou) hG hT (n + (cs ++ [43]).length) (TxOK_A h hB1.1) (TxB_A hb hlt1) d hd10 (by have z := hB2.1; simp at z ⊢; omega)
    refine az_callV C Y_J4_append_bf812 cJ4 0 14 [.int (nI d)] [] wm_X3_303 wi_J4_append_bf812 wse_J4_append_bf812 dX3_appendConvoy_34 rfl rfl rfl hM2 rfl (Nat.le_of_ble_eq_true rfl) (Nat.le_of_ble_eq_true rfl) (Nat.le_of_ble_eq_true rfl) (az_tc1 (k0 := 0) (n := n) (cs := (cs ++ [43])) (ds := [48 + d]) (ρ := ρ) htc hB2.1 hB2.2.1) (az_tc2 (n0 := 0) (n := n) (cs := (cs ++ [43])) (ds := [48 + d]) (ρ := ρ) htc hB2.1 hB2.2.2) (az_tk (k0 := 0) (n0 := 0) (st1 := [.ref (ρ.1 14)]) (n := n) (cs := (cs ++ [43])) (ds := [48 + d]) (ρ := ρ) (x := x) htc ha1_ hB2.1 rfl rfl (fun a2_ ha2_ => ?_)) (az_tk0 rfl)
    refine az_pop C dX3_appendConvoy_37 rfl ?_
    refine az_aload_n C 0 dX3_appendConvoy_38 rfl ?_
    refine az_getN C cX0 1 d 7 (v := va_rf (((txA x n ((cs ++ [43]) ++ [48 + d])).2.2.1 1 d).map (tR ρ a2_ (tcT ρ.2.2.2.2.1 (n + ((cs ++ [43]) ++ [48 + d]).length))).2.2.1)) (az_bw C hG nx_X3_187 rfl) dX3_appendConvoy_39 rfl (KK_b hs.1) rfl (by decide) ?_
    refine az_st [va_rf ((r).head?.map ρ.2.2.1)] (by show [va_rf ((x.2.2.1 1 d).map ρ.2.2.1)] = _; rw [hs.2.1]) ?_
    refine az_astore_nO C (lv' := [(2, va_rf ((r).head?.map ρ.2.2.1)), (1, .ref a1), (0, .ref (ρ.1 0))]) (j := 2) rfl dX3_appendConvoy_42 (by decide) rfl ?_
    refine az_goto C 17 dX3_appendConvoy_43 (by decide) ?_
    have e9 : cs ++ [43] ++ [48 + d] ++ chT r = cs ++ chT (d :: r) := by simp [chT]
    rw [← e9] at hL hcl hsl ⊢
    exact az_lv [0, 1, 2] rfl (ih (cs ++ [43] ++ [48 + d]) _ ha2_ (fun v hv => by rcases List.mem_append.mp hv with z | z; exact hlt1 v z; simp at z; omega) hs.2.2 hL hcl hsl)
set_option maxHeartbeats 4000000 in
set_option maxRecDepth 100000 in
theorem XapConv (hG : az_okS l G) {A : Nat × Nat × Nat × Nat} (hT : az_okT G A) (b : Nat) (r : List Nat) (hs : XSuf ρ.2.2.2.2.2 x (b :: r)) (hn8 : ρ.2.2.2.2.2 ≤ 10) (n : Nat) (h : TxOK ρ x n) (hb : TxB x) (hL : n + ((48 + b) :: chT r).length ≤ 34) : az_M l G yX3_appendConvoy (az_ws yX3_appendConvoy cX3_appendConvoy 3 (Option.none : Option FieldType)) 7 [.ref (ρ.1 0), .ref (ρ.2.2.1 b)] (AD ρ) (KK G ρ x m ou) ((tcT ρ.2.2.2.2.1 (n + ((48 + b) :: chT r).length)) - ρ.2.2.2.2.1) (2 * ((tcT ρ.2.2.2.2.1 (n + ((48 + b) :: chT r).length)) - ρ.2.2.2.2.1)) (az_tx G none ρ (tcT ρ.2.2.2.2.1 (n + ((48 + b) :: chT r).length)) (txA x n ((48 + b) :: chT r)) m ou) := by
  refine az_start hG.1 (by decide +kernel) (Nat.le_of_ble_eq_true rfl) ?_
  intro p e s mm args below meth c C hnm
  show az_W l G 3 _ p e _ s mm args below meth c _ _ 0 0 0 [(0, .ref (ρ.1 0)), (1, .ref (ρ.2.2.1 b))] []
  have htc := h.2.2.2.1
  have hbd := fun es he => az_tbd (ρ := ρ) (k0 := 0) (n0 := 0) (n := n) (mc := (tcT ρ.2.2.2.2.1 (n + ((48 + b) :: chT r).length)) - ρ.2.2.2.2.1) (ms := 2 * ((tcT ρ.2.2.2.2.1 (n + ((48 + b) :: chT r).length)) - ρ.2.2.2.2.1)) (full := ((48 + b) :: chT r)) htc hL (by omega) (by omega) es he
  have hb10 : b < 10 := by have := hs.1; omega
  have hC0 : tcT ρ.2.2.2.2.1 (n + ([] : List Nat).length) = ρ.2.2.2.2.1 := tcT_self h.2.2.1
  have hx0 : txA x n [] = x := txA_nil h.2.1
  refine az_to (ad' := AD (tR ρ ρ.2.1 (tcT ρ.2.2.2.2.1 (n + ([] : List Nat).length)))) (K' := KK G (tR ρ ρ.2.1 (tcT ρ.2.2.2.2.1 (n + ([] : List Nat).length))) (txA x n []) m ou) (by rw [hC0]) (by rw [hC0, hx0]) ?_
  refine az_kn (0 + ((tcT ρ.2.2.2.2.1 (n + ([] : List Nat).length)) - ρ.2.2.2.2.1)) (0 + 2 * ((tcT ρ.2.2.2.2.1 (n + ([] : List Nat).length)) - ρ.2.2.2.2.1)) (Nat.zero_le _) (Nat.zero_le _) ?_
  refine az_aload_n C 0 dX3_appendConvoy_0 rfl ?_
  refine az_get C cX3 0 0 6 (v := .ref ((tR ρ ρ.2.1 (tcT ρ.2.2.2.2.1 (n + ([] : List Nat).length))).1 14)) wl_X3_38 dX3_appendConvoy_1 rfl rfl rfl (by decide) ?_
  refine az_aload_n C 1 dX3_appendConvoy_4 rfl ?_
  refine az_getN C cX0 1 b 0 (v := .int (nI b)) (az_bw C hG nx_X3_196 rfl) dX3_appendConvoy_5 rfl (KK_b hs.1) rfl (by decide) ?_
  have hB1 := hbd ([] ++ [48 + b]) (by exact ⟨chT r, rfl⟩)
  have hM1 := XTi1 (ρ := (tR ρ ρ.2.1 (tcT ρ.2.2.2.2.1 (n + ([] : List Nat).length)))) (x := (txA x n [])) (m := m) (ou := ou) hG hT (n + ([] : List Nat).length) (TxOK_A h (hbd [] ⟨_, rfl⟩).1) (TxB_A hb (fun _ z => by cases z)) b hb10 (by have z := hB1.1; simp at z ⊢; omega)
  refine az_callV C Y_J4_append_bf812 cJ4 0 14 [.int (nI b)] [] wm_X3_303 wi_J4_append_bf812 wse_J4_append_bf812 dX3_appendConvoy_8 rfl rfl rfl hM1 rfl (Nat.le_of_ble_eq_true rfl) (Nat.le_of_ble_eq_true rfl) (Nat.le_of_ble_eq_true rfl) (az_tc1 (k0 := 0) (n := n) (cs := []) (ds := [48 + b]) (ρ := ρ) htc hB1.1 hB1.2.1) (az_tc2 (n0 := 0) (n := n) (cs := []) (ds := [48 + b]) (ρ := ρ) htc hB1.1 hB1.2.2) (az_tk (k0 := 0) (n0 := 0) (st1 := [.ref (ρ.1 14)]) (n := n) (cs := []) (ds := [48 + b]) (ρ := ρ) (x := x) htc (fun _ _ => rfl) hB1.1 rfl rfl (fun a1_ ha1_ => ?_)) (az_tk0 rfl)
  refine az_pop C dX3_appendConvoy_11 rfl ?_
  refine az_aload_n C 1 dX3_appendConvoy_12 rfl ?_
  refine az_getN C cX0 1 b 7 (v := va_rf (((txA x n ([] ++ [48 + b])).2.2.1 1 b).map (tR ρ a1_ (tcT ρ.2.2.2.2.1 (n + ([] ++ [48 + b]).length))).2.2.1)) (az_bw C hG nx_X3_187 rfl) dX3_appendConvoy_13 rfl (KK_b hs.1) rfl (by decide) ?_
  refine az_st [va_rf ((r).head?.map ρ.2.2.1)] (by show [va_rf ((x.2.2.1 1 b).map ρ.2.2.1)] = _; rw [hs.2.1]) ?_
  refine az_astore_nO C (lv' := [(2, va_rf ((r).head?.map ρ.2.2.1)), (0, .ref (ρ.1 0)), (1, .ref (ρ.2.2.1 b))]) (j := 2) rfl dX3_appendConvoy_16 (by decide) rfl ?_
  exact az_lv [0, 2, 1] rfl (Xapv_l hG hT C n h hb (ρ.2.2.1 b) hn8 r [48 + b] a1_ ha1_ (fun v hv => by simp at hv; omega) hs.2.2 hL (by show 0 + ((tcT ρ.2.2.2.2.1 (n + ((48 + b) :: chT r).length)) - ρ.2.2.2.2.1) ≤ (tcT ρ.2.2.2.2.1 (n + ((48 + b) :: chT r).length)) - ρ.2.2.2.2.1; omega) (by show 0 + 2 * ((tcT ρ.2.2.2.2.1 (n + ((48 + b) :: chT r).length)) - ρ.2.2.2.2.1) ≤ 2 * ((tcT ρ.2.2.2.2.1 (n + ((48 + b) :: chT r).length)) - ρ.2.2.2.2.1); omega))

end
