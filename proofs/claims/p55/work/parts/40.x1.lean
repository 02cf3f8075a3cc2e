section AZO
variable {l : Launch} {G : az_G} {nL : Nat} {Q : State → Prop} {p : Program} {e : Env} {R : Room} {s : State} {m : MethodId} {args : Array Value} {below : List Frame} {meth : Method} {c : Code} {ad : az_A} {K : az_K} {k n pc : Nat} {lv : List (Nat × Value)} {st : List Value}
variable {cc : ByteArray} {own : String} {ret : Option FieldType} {tab : List ExceptionTableEntry}
theorem az_aload_nO (C : az_C l G p s m args meth c cc own nL ret tab) {j : Fin 4} {o : Option Nat} (z : Nat) (d : decode cc pc = .ok (.aload_n j, 1)) (hl0 : lv[z]? = some ((j : Nat), va_rf o)) (kk : az_W l G nL Q p e R s m args below meth c ad K k n (pc + 1) lv (va_rf o :: st)) : az_W l G nL Q p e R s m args below meth c ad K k n pc lv st := by
  cases o with
  | none => exact az_aload_nN C z d hl0 kk
  | some q => exact az_aload_n C z d hl0 kk
theorem az_aloadO (C : az_C l G p s m args meth c cc own nL ret tab) {j : Nat} {o : Option Nat} (z : Nat) (d : decode cc pc = .ok (.aload j, 2)) (hl0 : lv[z]? = some (j, va_rf o)) (kk : az_W l G nL Q p e R s m args below meth c ad K k n (pc + 2) lv (va_rf o :: st)) : az_W l G nL Q p e R s m args below meth c ad K k n pc lv st := by
  cases o with
  | none => exact az_aloadN C z d hl0 kk
  | some q => exact az_aload C z d hl0 kk
theorem az_astore_nO (C : az_C l G p s m args meth c cc own nL ret tab) {i : Fin 4} {j : Nat} {o : Option Nat} (hi : (i : Nat) = j) {lv' : List (Nat × Value)} (d : decode cc pc = .ok (.astore_n i, 1)) (hn : j < nL) (hl1 : (j, va_rf o) :: lv.filter (fun q => !(q.1 == j) && !(q.1 + 1 == j && q.2.category == 2)) = lv') (kk : az_W l G nL Q p e R s m args below meth c ad K k n (pc + 1) lv' st) : az_W l G nL Q p e R s m args below meth c ad K k n pc lv (va_rf o :: st) := by
  cases o with
  | none => exact az_astore_nN C hi d hn hl1 kk
  | some q => exact az_astore_n C hi d hn hl1 kk
theorem az_astoreO (C : az_C l G p s m args meth c cc own nL ret tab) {j : Nat} {o : Option Nat} {lv' : List (Nat × Value)} (d : decode cc pc = .ok (.astore j, 2)) (hn : j < nL) (hl1 : (j, va_rf o) :: lv.filter (fun q => !(q.1 == j) && !(q.1 + 1 == j && q.2.category == 2)) = lv') (kk : az_W l G nL Q p e R s m args below meth c ad K k n (pc + 2) lv' st) : az_W l G nL Q p e R s m args below meth c ad K k n pc lv (va_rf o :: st) := by
  cases o with
  | none => exact az_astoreN C d hn hl1 kk
  | some q => exact az_astore C d hn hl1 kk
theorem rfO (o : Option Nat) : va_rf o = .null ∨ ∃ a, va_rf o = .ref a := by
  cases o with
  | none => exact Or.inl rfl
  | some q => exact Or.inr ⟨q, rfl⟩
/-- no two barges lie at one address -/
def BI (ρ : Rp) : Prop := ∀ i j : Nat, i < ρ.2.2.2.2.2 → j < ρ.2.2.2.2.2 → ρ.2.2.1 i = ρ.2.2.1 j → i = j
theorem az_BI {ρ : Rp} {x : Xs} {ms : Mz} {ou : Nat → Int64} (kk : BI ρ → az_W l G nL Q p e R s m args below meth c (AD ρ) (KK G ρ x ms ou) k n pc lv st) : az_W l G nL Q p e R s m args below meth c (AD ρ) (KK G ρ x ms ou) k n pc lv st := fun H locs ls hP hS hl => kk (fun i j hi hj h => (hP.2 1 i 1 j _ _ (KK_b hi) (KK_b hj) h).2) H locs ls hP hS hl
end AZO
section
variable {l : Launch} {G : az_G} {ρ : Rp} {x : Xs} {m : Mz} {ou : Nat → Int64}
/-- the barges from one on, backwards -/
def XSuf (nb : Nat) (x : Xs) : List Nat → Prop
  | [] => True
  | b :: r => b < nb ∧ x.2.2.1 1 b = r.head? ∧ XSuf nb x r
/-- the barges from one on, forwards -/
def XPre (nb : Nat) (x : Xs) : List Nat → Prop
  | [] => True
  | b :: r => b < nb ∧ x.2.2.1 0 b = r.head? ∧ XPre nb x r
theorem XSuf_app {nb : Nat} {x : Xs} {rest : List Nat} : ∀ {z : List Nat}, XSuf nb x (z ++ rest) → XSuf nb x rest
  | [], h => h
  | _ :: z, h => XSuf_app (z := z) h.2.2
theorem XSuf_lt {nb : Nat} {x : Xs} : ∀ {z : List Nat}, XSuf nb x z → ∀ d ∈ z, d < nb
  | [], _, _, h => by cases h
  | b :: z, h, d, hd => by
    rcases List.mem_cons.mp hd with rfl | hd
    · exact h.1
    · exact XSuf_lt h.2.2 d hd
theorem XSuf_w {nb : Nat} {x x' : Xs} (h : ∀ b, x'.2.2.1 1 b = x.2.2.1 1 b) : ∀ {s : List Nat}, XSuf nb x s → XSuf nb x' s
  | [], _ => trivial
  | _ :: _, hs => ⟨hs.1, (h _).trans hs.2.1, XSuf_w h hs.2.2⟩
def deepX (x : Xs) (b : Nat) (v : Int32) : Int32 := x.2.1 b 2 + (((v + x.2.1 b 3) - 1) / x.2.1 b 3)
set_option maxHeartbeats 4000000 in
set_option maxRecDepth 100000 in
theorem Xwith (hG : az_okS l G) (b : Nat) (hb : b < ρ.2.2.2.2.2) (v : Int32) (ht : ¬ x.2.1 b 3 < 1) : az_M l G yX0_draughtWith (az_ws yX0_draughtWith cX0_draughtWith 2 (Option.some FieldType.int)) 1 [.ref (ρ.2.2.1 b), .int v] (AD ρ) (KK G ρ x m ou) 0 0 (az_r (some (.int (deepX x b v))) (AD ρ) (KK G ρ x m ou)) := by
  refine az_start hG.1 (by decide +kernel) (Nat.le_of_ble_eq_true rfl) ?_
  intro p e s mm args below meth c C hnm
  show az_W l G 2 _ p e _ s mm args below meth c _ _ 0 0 0 [(0, .ref (ρ.2.2.1 b)), (1, .int v)] []
  refine az_aload_n C 0 dX0_draughtWith_0 rfl ?_
  refine az_get C cX0 1 b 3 (v := .int (x.2.1 b 3)) wl_X0_22 dX0_draughtWith_1 rfl (KK_b hb) rfl (by decide) ?_
  refine az_iconst C (v := 1) dX0_draughtWith_4 (by decide) ?_
  refine az_icmp_ge C 13 dX0_draughtWith_5 (by decide) (fun _ => ?_) (fun q => absurd (Int32.not_lt.mp ht) q)
  refine az_aload_n C 0 dX0_draughtWith_13 rfl ?_
  refine az_get C cX0 1 b 2 (v := .int (x.2.1 b 2)) wl_X0_19 dX0_draughtWith_14 rfl (KK_b hb) rfl (by decide) ?_
  refine az_iload_n C 1 dX0_draughtWith_17 rfl ?_
  refine az_aload_n C 0 dX0_draughtWith_18 rfl ?_
  refine az_get C cX0 1 b 3 (v := .int (x.2.1 b 3)) wl_X0_22 dX0_draughtWith_19 rfl (KK_b hb) rfl (by decide) ?_
  refine az_iadd C dX0_draughtWith_22 ?_
  refine az_iconst C (v := 1) dX0_draughtWith_23 (by decide) ?_
  refine az_isub C dX0_draughtWith_24 ?_
  refine az_aload_n C 0 dX0_draughtWith_25 rfl ?_
  refine az_get C cX0 1 b 3 (v := .int (x.2.1 b 3)) wl_X0_22 dX0_draughtWith_26 rfl (KK_b hb) rfl (by decide) ?_
  refine az_idiv C dX0_draughtWith_29 (nlt1 ht) ?_
  refine az_iadd C dX0_draughtWith_30 ?_
  exact az_iret C rfl dX0_draughtWith_31 (Nat.le_of_ble_eq_true rfl) (Nat.le_of_ble_eq_true rfl) ⟨rfl, rfl, rfl⟩

set_option maxHeartbeats 4000000 in
set_option maxRecDepth 100000 in
theorem Xdraught (hG : az_okS l G) (b : Nat) (hb : b < ρ.2.2.2.2.2) (ht : ¬ x.2.1 b 3 < 1) : az_M l G yX0_draught (az_ws yX0_draught cX0_draught 1 (Option.some FieldType.int)) 2 [.ref (ρ.2.2.1 b)] (AD ρ) (KK G ρ x m ou) 0 0 (az_r (some (.int (deepX x b (x.2.1 b 5)))) (AD ρ) (KK G ρ x m ou)) := by
  refine az_start hG.1 (by decide +kernel) (Nat.le_of_ble_eq_true rfl) ?_
  intro p e s mm args below meth c C hnm
  show az_W l G 1 _ p e _ s mm args below meth c _ _ 0 0 0 [(0, .ref (ρ.2.2.1 b))] []
  refine az_aload_n C 0 dX0_draught_0 rfl ?_
  refine az_aload_n C 0 dX0_draught_1 rfl ?_
  refine az_get C cX0 1 b 5 (v := .int (x.2.1 b 5)) wl_X0_25 dX0_draught_2 rfl (KK_b hb) rfl (by decide) ?_
  refine az_callV C Y_X0_draughtWith cX0 1 b [.int (x.2.1 b 5)] [] wm_X0_28 wi_X0_draughtWith wse_X0_draughtWith dX0_draught_5 rfl (KK_b hb) rfl (Xwith hG b hb (x.2.1 b 5) ht) rfl (Nat.le_of_ble_eq_true rfl) (Nat.le_of_ble_eq_true rfl) (Nat.le_of_ble_eq_true rfl) (Nat.le_of_ble_eq_true rfl) (Nat.le_of_ble_eq_true rfl) (az_k1 rfl rfl ?_) (az_k0 rfl)
  exact az_iret C rfl dX0_draught_8 (Nat.le_of_ble_eq_true rfl) (Nat.le_of_ble_eq_true rfl) ⟨rfl, rfl, rfl⟩

set_option maxHeartbeats 4000000 in
set_option maxRecDepth 100000 in
theorem XgCargo (hG : az_okS l G) (b : Nat) (hb : b < ρ.2.2.2.2.2) (v : Int32) : az_M l G yX0_greatestCargo (az_ws yX0_greatestCargo cX0_greatestCargo 2 (Option.some FieldType.int)) 1 [.ref (ρ.2.2.1 b), .int v] (AD ρ) (KK G ρ x m ou) 0 0 (az_r (some (.int ((v - x.2.1 b 2) * x.2.1 b 3))) (AD ρ) (KK G ρ x m ou)) := by
  refine az_start hG.1 (by decide +kernel) (Nat.le_of_ble_eq_true rfl) ?_
  intro p e s mm args below meth c C hnm
  show az_W l G 2 _ p e _ s mm args below meth c _ _ 0 0 0 [(0, .ref (ρ.2.2.1 b)), (1, .int v)] []
  refine az_iload_n C 1 dX0_greatestCargo_0 rfl ?_
  refine az_aload_n C 0 dX0_greatestCargo_1 rfl ?_
  refine az_get C cX0 1 b 2 (v := .int (x.2.1 b 2)) wl_X0_19 dX0_greatestCargo_2 rfl (KK_b hb) rfl (by decide) ?_
  refine az_isub C dX0_greatestCargo_5 ?_
  refine az_aload_n C 0 dX0_greatestCargo_6 rfl ?_
  refine az_get C cX0 1 b 3 (v := .int (x.2.1 b 3)) wl_X0_22 dX0_greatestCargo_7 rfl (KK_b hb) rfl (by decide) ?_
  refine az_imul C dX0_greatestCargo_10 ?_
  exact az_iret C rfl dX0_greatestCargo_11 (Nat.le_of_ble_eq_true rfl) (Nat.le_of_ble_eq_true rfl) ⟨rfl, rfl, rfl⟩

set_option maxHeartbeats 4000000 in
set_option maxRecDepth 100000 in
theorem Xfirst_l (hG : az_okS l G) {p : Program} {e : Env} {s : State} {mm : MethodId} {args : Array Value} {below : List Frame} {meth : Method} {c : Code} (C : az_C l G p s mm args meth c cX0_first yX0_first.cls 2 (Option.some (FieldType.object "BargeRiver$Barge")) []) : ∀ (a0 : Nat) (r : List Nat) (b : Nat) (hp : XPre ρ.2.2.2.2.2 x (b :: r)), az_W l G 2 (az_Q G (az_r (some (.ref (ρ.2.2.1 (lst b r)))) (AD ρ) (KK G ρ x m ou)) below args s 0 0) p e (az_rm 1 0 0) s mm args below meth c (AD ρ) (KK G ρ x m ou) 0 0 2 [(1, .ref (ρ.2.2.1 b)), (0, .ref a0)] [] := by
  intro a0 r
  induction r with
  | nil =>
    intro b hp
    refine az_aload_n C 0 dX0_first_2 rfl ?_
    refine az_get C cX0 1 b 6 (v := va_rf ((x.2.2.1 0 b).map ρ.2.2.1)) wl_X0_32 dX0_first_3 rfl (KK_b hp.1) rfl (by decide) ?_
    refine az_st [.null] (by rw [show x.2.2.1 0 b = none from hp.2.1] <;> rfl) ?_
    refine az_ifnullN C 17 dX0_first_6 (by decide) ?_
    refine az_aload_n C 0 dX0_first_17 rfl ?_
    exact az_aret C (.object "BargeRiver$Barge") rfl (Or.inl ⟨_, rfl⟩) (Or.inr ⟨_, rfl⟩) dX0_first_18 (Nat.le_of_ble_eq_true rfl) (Nat.le_of_ble_eq_true rfl) ⟨rfl, rfl, rfl⟩
  | cons d r ih =>
    intro b hp
    refine az_aload_n C 0 dX0_first_2 rfl ?_
    refine az_get C cX0 1 b 6 (v := va_rf ((x.2.2.1 0 b).map ρ.2.2.1)) wl_X0_32 dX0_first_3 rfl (KK_b hp.1) rfl (by decide) ?_
    refine az_st [.ref (ρ.2.2.1 d)] (by rw [show x.2.2.1 0 b = some d from hp.2.1] <;> rfl) ?_
    refine az_ifnull C dX0_first_6 ?_
    refine az_aload_n C 0 dX0_first_9 rfl ?_
    refine az_get C cX0 1 b 6 (v := va_rf ((x.2.2.1 0 b).map ρ.2.2.1)) wl_X0_32 dX0_first_10 rfl (KK_b hp.1) rfl (by decide) ?_
    refine az_st [.ref (ρ.2.2.1 d)] (by rw [show x.2.2.1 0 b = some d from hp.2.1] <;> rfl) ?_
    refine az_astore_n C (lv' := [(1, .ref (ρ.2.2.1 d)), (0, .ref a0)]) (j := 1) rfl dX0_first_13 (by decide) rfl ?_
    refine az_goto C 2 dX0_first_14 (by decide) ?_
    exact az_lv [0, 1] rfl (ih d hp.2.2)

set_option maxHeartbeats 4000000 in
set_option maxRecDepth 100000 in
theorem Xfirst (hG : az_okS l G) (b : Nat) (r : List Nat) (hp : XPre ρ.2.2.2.2.2 x (b :: r)) : az_M l G yX0_first (az_ws yX0_first cX0_first 2 (Option.some (FieldType.object "BargeRiver$Barge"))) 1 [.ref (ρ.2.2.1 b)] (AD ρ) (KK G ρ x m ou) 0 0 (az_r (some (.ref (ρ.2.2.1 (lst b r)))) (AD ρ) (KK G ρ x m ou)) := by
  refine az_start hG.1 (by decide +kernel) (Nat.le_of_ble_eq_true rfl) ?_
  intro p e s mm args below meth c C hnm
  show az_W l G 2 _ p e _ s mm args below meth c _ _ 0 0 0 [(0, .ref (ρ.2.2.1 b))] []
  refine az_aload_n C 0 dX0_first_0 rfl ?_
  refine az_astore_n C (lv' := [(1, .ref (ρ.2.2.1 b)), (0, .ref (ρ.2.2.1 b))]) (j := 1) rfl dX0_first_1 (by decide) rfl ?_
  exact az_lv [0, 1] rfl (Xfirst_l hG C _ r b hp)

set_option maxHeartbeats 4000000 in
set_option maxRecDepth 100000 in
theorem Xlast_l (hG : az_okS l G) {p : Program} {e : Env} {s : State} {mm : MethodId} {args : Array Value} {below : List Frame} {meth : Method} {c : Code} (C : az_C l G p s mm args meth c cX0_last yX0_last.cls 2 (Option.some (FieldType.object "BargeRiver$Barge")) []) : ∀ (a0 : Nat) (r : List Nat) (b : Nat) (hp : XSuf ρ.2.2.2.2.2 x (b :: r)), az_W l G 2 (az_Q G (az_r (some (.ref (ρ.2.2.1 (lst b r)))) (AD ρ) (KK G ρ x m ou)) below args s 0 0) p e (az_rm 1 0 0) s mm args below meth c (AD ρ) (KK G ρ x m ou) 0 0 2 [(1, .ref (ρ.2.2.1 b)), (0, .ref a0)] [] := by
  intro a0 r
  induction r with
  | nil =>
    intro b hp
    refine az_aload_n C 0 dX0_last_2 rfl ?_
    refine az_get C cX0 1 b 7 (v := va_rf ((x.2.2.1 1 b).map ρ.2.2.1)) wl_X0_36 dX0_last_3 rfl (KK_b hp.1) rfl (by decide) ?_
    refine az_st [.null] (by rw [show x.2.2.1 1 b = none from hp.2.1] <;> rfl) ?_
    refine az_ifnullN C 17 dX0_last_6 (by decide) ?_
    refine az_aload_n C 0 dX0_last_17 rfl ?_
    exact az_aret C (.object "BargeRiver$Barge") rfl (Or.inl ⟨_, rfl⟩) (Or.inr ⟨_, rfl⟩) dX0_last_18 (Nat.le_of_ble_eq_true rfl) (Nat.le_of_ble_eq_true rfl) ⟨rfl, rfl, rfl⟩
  | cons d r ih =>
    intro b hp
    refine az_aload_n C 0 dX0_last_2 rfl ?_
    refine az_get C cX0 1 b 7 (v := va_rf ((x.2.2.1 1 b).map ρ.2.2.1)) wl_X0_36 dX0_last_3 rfl (KK_b hp.1) rfl (by decide) ?_
    refine az_st [.ref (ρ.2.2.1 d)] (by rw [show x.2.2.1 1 b = some d from hp.2.1] <;> rfl) ?_
    refine az_ifnull C dX0_last_6 ?_
    refine az_aload_n C 0 dX0_last_9 rfl ?_
    refine az_get C cX0 1 b 7 (v := va_rf ((x.2.2.1 1 b).map ρ.2.2.1)) wl_X0_36 dX0_last_10 rfl (KK_b hp.1) rfl (by decide) ?_
    refine az_st [.ref (ρ.2.2.1 d)] (by rw [show x.2.2.1 1 b = some d from hp.2.1] <;> rfl) ?_
    refine az_astore_n C (lv' := [(1, .ref (ρ.2.2.1 d)), (0, .ref a0)]) (j := 1) rfl dX0_last_13 (by decide) rfl ?_
    refine az_goto C 2 dX0_last_14 (by decide) ?_
    exact az_lv [0, 1] rfl (ih d hp.2.2)

set_option maxHeartbeats 4000000 in
set_option maxRecDepth 100000 in
theorem Xlast (hG : az_okS l G) (b : Nat) (r : List Nat) (hp : XSuf ρ.2.2.2.2.2 x (b :: r)) : az_M l G yX0_last (az_ws yX0_last cX0_last 2 (Option.some (FieldType.object "BargeRiver$Barge"))) 1 [.ref (ρ.2.2.1 b)] (AD ρ) (KK G ρ x m ou) 0 0 (az_r (some (.ref (ρ.2.2.1 (lst b r)))) (AD ρ) (KK G ρ x m ou)) := by
  refine az_start hG.1 (by decide +kernel) (Nat.le_of_ble_eq_true rfl) ?_
  intro p e s mm args below meth c C hnm
  show az_W l G 2 _ p e _ s mm args below meth c _ _ 0 0 0 [(0, .ref (ρ.2.2.1 b))] []
  refine az_aload_n C 0 dX0_last_0 rfl ?_
  refine az_astore_n C (lv' := [(1, .ref (ρ.2.2.1 b)), (0, .ref (ρ.2.2.1 b))]) (j := 1) rfl dX0_last_1 (by decide) rfl ?_
  exact az_lv [0, 1] rfl (Xlast_l hG C _ r b hp)

set_option maxHeartbeats 4000000 in
set_option maxRecDepth 100000 in
theorem XchainSize_l (hG : az_okS l G) {p : Program} {e : Env} {s : State} {mm : MethodId} {args : Array Value} {below : List Frame} {meth : Method} {c : Code} (C : az_C l G p s mm args meth c cX0_chainSize yX0_chainSize.cls 3 (Option.some FieldType.int) []) : ∀ (a0 : Nat) (s9 : List Nat) (n9 : Nat) (hs : XSuf ρ.2.2.2.2.2 x s9), az_W l G 3 (az_Q G (az_r (some (.int (nI (n9 + s9.length)))) (AD ρ) (KK G ρ x m ou)) below args s 0 0) p e (az_rm 1 0 0) s mm args below meth c (AD ρ) (KK G ρ x m ou) 0 0 4 [(2, va_rf ((s9).head?.map ρ.2.2.1)), (1, .int (nI n9)), (0, .ref a0)] [] := by
  intro a0 s9
  induction s9 with
  | nil =>
    intro n9 hs
    refine az_aload_nN C 0 dX0_chainSize_4 rfl ?_
    refine az_ifnullN C 19 dX0_chainSize_5 (by decide) ?_
    refine az_iload_n C 1 dX0_chainSize_19 rfl ?_
    exact az_iret C rfl dX0_chainSize_20 (Nat.le_of_ble_eq_true rfl) (Nat.le_of_ble_eq_true rfl) ⟨rfl, rfl, rfl⟩
  | cons b s9 ih =>
    intro n9 hs
    refine az_aload_n C 0 dX0_chainSize_4 rfl ?_
    refine az_ifnull C dX0_chainSize_5 ?_
    refine az_iinc C 1 (v := nI (n9 + 1)) (lv' := [(1, .int (nI (n9 + 1))), (2, .ref (ρ.2.2.1 b)), (0, .ref a0)]) dX0_chainSize_8 rfl (nI_1 n9) (by decide) rfl ?_
    refine az_aload_n C 1 dX0_chainSize_11 rfl ?_
    refine az_get C cX0 1 b 7 (v := va_rf ((x.2.2.1 1 b).map ρ.2.2.1)) wl_X0_36 dX0_chainSize_12 rfl (KK_b hs.1) rfl (by decide) ?_
    refine az_st [va_rf ((s9).head?.map ρ.2.2.1)] (by rw [hs.2.1] <;> rfl) ?_
    refine az_astore_nO C (lv' := [(2, va_rf ((s9).head?.map ρ.2.2.1)), (1, .int (nI (n9 + 1))), (0, .ref a0)]) (j := 2) rfl dX0_chainSize_15 (by decide) rfl ?_
    refine az_goto C 4 dX0_chainSize_16 (by decide) ?_
    rw [show n9 + (b :: s9).length = n9 + 1 + s9.length from by rw [List.length_cons]; omega]
    exact az_lv [0, 1, 2] rfl (ih (n9 + 1) hs.2.2)

set_option maxHeartbeats 4000000 in
set_option maxRecDepth 100000 in
theorem XchainSize (hG : az_okS l G) (b : Nat) (r : List Nat) (hs : XSuf ρ.2.2.2.2.2 x (b :: r)) : az_M l G yX0_chainSize (az_ws yX0_chainSize cX0_chainSize 3 (Option.some FieldType.int)) 1 [.ref (ρ.2.2.1 b)] (AD ρ) (KK G ρ x m ou) 0 0 (az_r (some (.int (nI (r.length + 1)))) (AD ρ) (KK G ρ x m ou)) := by
  refine az_start hG.1 (by decide +kernel) (Nat.le_of_ble_eq_true rfl) ?_
  intro p e s mm args below meth c C hnm
  show az_W l G 3 _ p e _ s mm args below meth c _ _ 0 0 0 [(0, .ref (ρ.2.2.1 b))] []
  refine az_iconst C (v := 0) dX0_chainSize_0 (by decide) ?_
  refine az_istore_n C (lv' := [(1, .int 0), (0, .ref (ρ.2.2.1 b))]) (j := 1) rfl dX0_chainSize_1 (by decide) rfl ?_
  refine az_aload_n C 1 dX0_chainSize_2 rfl ?_
  refine az_astore_n C (lv' := [(2, .ref (ρ.2.2.1 b)), (1, .int 0), (0, .ref (ρ.2.2.1 b))]) (j := 2) rfl dX0_chainSize_3 (by decide) rfl ?_
  rw [show r.length + 1 = 0 + (b :: r).length from by rw [List.length_cons]; omega]
  exact az_lv [0, 1, 2] rfl (XchainSize_l hG C _ (b :: r) 0 hs)

/-- Math.max, as the machine's own row says it -/
def mx (u v : Int32) : Int32 := if u < v then v else u
def mxL (x : Xs) : List Nat → Int32 → Int32
  | [], acc => acc
  | b :: r, acc => mxL x r (mx acc (x.2.1 b 1))
def mxD (x : Xs) : List Nat → Int32 → Int32
  | [], acc => acc
  | b :: r, acc => mxD x r (mx acc (deepX x b (x.2.1 b 5)))
set_option maxHeartbeats 4000000 in
set_option maxRecDepth 100000 in
theorem XgLength_l (hG : az_okS l G) {p : Program} {e : Env} {s : State} {mm : MethodId} {args : Array Value} {below : List Frame} {meth : Method} {c : Code} (C : az_C l G p s mm args meth c cX0_greatestLength yX0_greatestLength.cls 3 (Option.some FieldType.int) []) : ∀ (a0 : Nat) (s9 : List Nat) (acc : Int32) (hs : XSuf ρ.2.2.2.2.2 x s9), az_W l G 3 (az_Q G (az_r (some (.int (mxL x s9 acc))) (AD ρ) (KK G ρ x m ou)) below args s 0 0) p e (az_rm 1 0 0) s mm args below meth c (AD ρ) (KK G ρ x m ou) 0 0 4 [(2, va_rf ((s9).head?.map ρ.2.2.1)), (1, .int acc), (0, .ref a0)] [] := by
  intro a0 s9
  induction s9 with
  | nil =>
    intro acc hs
    refine az_aload_nN C 0 dX0_greatestLength_4 rfl ?_
    refine az_ifnullN C 25 dX0_greatestLength_5 (by decide) ?_
    refine az_iload_n C 1 dX0_greatestLength_25 rfl ?_
    exact az_iret C rfl dX0_greatestLength_26 (Nat.le_of_ble_eq_true rfl) (Nat.le_of_ble_eq_true rfl) ⟨rfl, rfl, rfl⟩
  | cons b s9 ih =>
    intro acc hs
    refine az_aload_n C 0 dX0_greatestLength_4 rfl ?_
    refine az_ifnull C dX0_greatestLength_5 ?_
    refine az_iload_n C 1 dX0_greatestLength_8 rfl ?_
    refine az_aload_n C 0 dX0_greatestLength_9 rfl ?_
    refine az_get C cX0 1 b 1 (v := .int (x.2.1 b 1)) wl_X0_16 dX0_greatestLength_10 rfl (KK_b hs.1) rfl (by decide) ?_
    refine az_mmax C wm_X0_39 wst_max wini_Math wc_max (Nat.le_of_ble_eq_true rfl) (Nat.le_of_ble_eq_true rfl) (Nat.le_of_ble_eq_true rfl) (Nat.le_of_ble_eq_true rfl) dX0_greatestLength_13 ?_
    refine az_istore_n C (lv' := [(1, .int ((if acc < x.2.1 b 1 then x.2.1 b 1 else acc))), (2, .ref (ρ.2.2.1 b)), (0, .ref a0)]) (j := 1) rfl dX0_greatestLength_16 (by decide) rfl ?_
    refine az_aload_n C 1 dX0_greatestLength_17 rfl ?_
    refine az_get C cX0 1 b 7 (v := va_rf ((x.2.2.1 1 b).map ρ.2.2.1)) wl_X0_36 dX0_greatestLength_18 rfl (KK_b hs.1) rfl (by decide) ?_
    refine az_st [va_rf ((s9).head?.map ρ.2.2.1)] (by rw [hs.2.1] <;> rfl) ?_
    refine az_astore_nO C (lv' := [(2, va_rf ((s9).head?.map ρ.2.2.1)), (1, .int ((if acc < x.2.1 b 1 then x.2.1 b 1 else acc))), (0, .ref a0)]) (j := 2) rfl dX0_greatestLength_21 (by decide) rfl ?_
    refine az_goto C 4 dX0_greatestLength_22 (by decide) ?_
    exact az_lv [0, 1, 2] rfl (ih _ hs.2.2)

set_option maxHeartbeats 4000000 in
set_option maxRecDepth 100000 in
theorem XgLength (hG : az_okS l G) (b : Nat) (r : List Nat) (hs : XSuf ρ.2.2.2.2.2 x (b :: r)) : az_M l G yX0_greatestLength (az_ws yX0_greatestLength cX0_greatestLength 3 (Option.some FieldType.int)) 1 [.ref (ρ.2.2.1 b)] (AD ρ) (KK G ρ x m ou) 0 0 (az_r (some (.int (mxL x (b :: r) 0))) (AD ρ) (KK G ρ x m ou)) := by
  refine az_start hG.1 (by decide +kernel) (Nat.le_of_ble_eq_true rfl) ?_
  intro p e s mm args below meth c C hnm
  show az_W l G 3 _ p e _ s mm args below meth c _ _ 0 0 0 [(0, .ref (ρ.2.2.1 b))] []
  refine az_iconst C (v := 0) dX0_greatestLength_0 (by decide) ?_
  refine az_istore_n C (lv' := [(1, .int 0), (0, .ref (ρ.2.2.1 b))]) (j := 1) rfl dX0_greatestLength_1 (by decide) rfl ?_
  refine az_aload_n C 1 dX0_greatestLength_2 rfl ?_
  refine az_astore_n C (lv' := [(2, .ref (ρ.2.2.1 b)), (1, .int 0), (0, .ref (ρ.2.2.1 b))]) (j := 2) rfl dX0_greatestLength_3 (by decide) rfl ?_
  exact az_lv [0, 1, 2] rfl (XgLength_l hG C _ (b :: r) 0 hs)

end
