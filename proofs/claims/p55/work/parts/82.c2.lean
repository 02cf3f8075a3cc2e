section
variable {l : Launch} {G : az_G} {nL : Nat} {Q : State → Prop} {p : Program} {e : Env} {R : Room} {s : State} {m : MethodId} {args : Array Value} {below : List Frame} {meth : Method} {c : Code} {ad : az_A} {K : az_K} {k n pc : Nat} {lv : List (Nat × Value)} {st : List Value}
variable {cc : ByteArray} {own : String} {ret : Option FieldType} {tab : List ExceptionTableEntry}
/-- new of a nest mate: its private constructor -/
theorem az_callIN (C : az_C l G p s m args meth c cc own nL ret tab) {y : MethodName} {b : ByteArray} {nY kY d' idx mc ms : Nat} {host : String} {post : az_O → az_A → az_K → Prop} (Y : az_Y y b nY none kY) {a : Nat} (As rest : List Value) (hy1 : y.name = "<init>") (hw : (Cond.methodLinkNest own idx y host).before args s = true) (hi : Cond.instanceMethod y ∈ lw_tbl) (d : decode cc pc = .ok (.invokespecial idx, 3)) (hst : st = As.reverse ++ .ref a :: rest) (hM : az_M l G y (az_ws y b nY none) d' (.ref a :: As) ad K mc ms post) (hn : As.length = kY) (hW : (rest.map fun v => v.category).sum ≤ 8) (hfr : d' + 1 ≤ R.frames) (hlo : 19 + nY + 40 * d' ≤ R.locals) (hc : k + mc ≤ R.cells) (hs : n + ms ≤ R.slots)
    (kk : ∀ (v : Option Value) (ad' : az_A) (K' : az_K), post (.inl v) ad' K' → az_W l G nL Q p e R s m args below meth c ad' K' (k + mc) (n + ms) (pc + 3) lv (v.toList ++ rest))
    (kx : ∀ (E : String) (ad' : az_A) (K' : az_K), post (.inr E) ad' K' → az_X l G nL Q p e R s m args below meth c ad' K' (k + mc) (n + ms) pc lv E) : az_W l G nL Q p e R s m args below meth c ad K k n pc lv st := by
  intro H locs ls hP hS hl
  obtain ⟨y1, y2, y3, y4⟩ := Y
  have hB : va_CN R s args own idx y host b nY none (az_ws y b nY none) (az_rm d' mc ms) mc ms kY := by
    refine ⟨⟨rfl, rfl, hfr, ?_, fun w hw9 a' U hW => ?_, List.mem_cons_self⟩, C.hw y1 rfl, C.hw y2 rfl, y3, fun sig h => ?_, hw⟩
    · show 8 + (nY + 11) + 40 * d' ≤ R.locals
      omega
    · rcases List.mem_cons.mp hw9 with h | h
      · subst h
        exact word_at hW (good_of_word rfl) (C.hw y1 rfl)
      · exact word_at hW (good_of_word (List.mem_filter.mp h).2) (C.hts w h)
    · rw [h] at y4
      exact (Option.some.inj y4).symm
  exact az_run (vx_runIN (As := As) (rest := rest) (b := a) ⟨C.1, C.2.1, C.2.2.1, C.2.2.2.1, C.hts⟩ hM ⟨hB, hy1, C.hw hi rfl⟩ ⟨az_blind C.hG, az_here C hP hS⟩ rfl hn hl.1 hst (lv_room hW) d ⟨hc, hs⟩) hS hl kk kx
/-- an answer after which it goes on; no throw -/
theorem az_c1 {post : az_O → az_A → az_K → Prop} {rest : List Value} {P : az_A → az_K → Prop} (hp : ∀ o ad' K', post o ad' K' → o = .inl none ∧ P ad' K') (kk : ∀ ad' K', P ad' K' → az_W l G nL Q p e R s m args below meth c ad' K' k n pc lv rest) : ∀ (v : Option Value) (ad' : az_A) (K' : az_K), post (.inl v) ad' K' → az_W l G nL Q p e R s m args below meth c ad' K' k n pc lv (v.toList ++ rest) := by
  intro v ad' K' h
  obtain ⟨h1, h2⟩ := hp _ _ _ h
  cases h1
  exact kk ad' K' h2
theorem az_c0 {post : az_O → az_A → az_K → Prop} {P : az_A → az_K → Prop} (hp : ∀ o ad' K', post o ad' K' → o = .inl none ∧ P ad' K') : ∀ (E : String) (ad' : az_A) (K' : az_K), post (.inr E) ad' K' → az_X l G nL Q p e R s m args below meth c ad' K' k n pc lv E := by
  intro E ad' K' h
  cases (hp _ _ _ h).1
end
section
variable {l : Launch} {G : az_G} {ad : az_A} {K : az_K}
def j4K (G : az_G) (K : az_K) (q0 : Nat) : az_K := az_u (az_u K 0 23 (.inl (G.2.2.1 3, 16, .inl (fun _ => 0)))) 0 14 (.inr (0, [.ref q0, .int 0, .int 0, .int 0]))
def j4P (G : az_G) (ad : az_A) (K : az_K) : az_A → az_K → Prop := fun ad' K' => ∃ q0 : Nat, ad' = az_ua ad 0 23 q0 ∧ K' = j4K G K q0
def m1P (G : az_G) (ad : az_A) (K : az_K) : az_A → az_K → Prop := fun ad' K' => ∃ q0 q1 q2 : Nat, ad' = m1A ad q0 q1 q2 ∧ K' = m1K G K q0 q1 q2
theorem m1_p : ∀ (o : az_O) (ad' : az_A) (K' : az_K), (fun o ad' K' => ∃ q0 q1 q2 : Nat, o = .inl none ∧ ad' = m1A ad q0 q1 q2 ∧ K' = m1K G K q0 q1 q2) o ad' K' → o = .inl none ∧ m1P G ad K ad' K' := by
  rintro o ad' K' ⟨q0, q1, q2, h, h1, h2⟩
  exact ⟨h, q0, q1, q2, h1, h2⟩
set_option maxHeartbeats 4000000 in
set_option maxRecDepth 100000 in
theorem J5init (hG : az_okS l G) {q : Nat} (ha : ad 0 14 = q) (hk : K 0 14 = some (.inr (0, [.null, .int 0, .int 0, .int 0]))) : az_M l G yJ5_init_d00df (az_ws yJ5_init_d00df cJ5_init_d00df 2 (Option.none : Option FieldType)) 1 [.ref q, .int 16] ad K 1 16 (fun o ad' K' => o = .inl none ∧ j4P G ad K ad' K') := by
  refine az_start hG.1 (by decide +kernel) (Nat.le_of_ble_eq_true rfl) ?_
  intro p e s mm args below meth c C hnm
  show az_W l G 2 _ p e _ s mm args below meth c _ _ 0 0 0 [(0, .ref q), (1, .int 16)] []
  refine az_aload_n C 0 dJ5_init_d00df_0 rfl ?_
  refine az_obj C wm_J5_3 wi_obj wc_obj dJ5_init_d00df_1 (Nat.le_of_ble_eq_true rfl) (Nat.le_of_ble_eq_true rfl) ?_
  refine az_gets C (hG.2 _ _ C.hO).2.2.2.2.2.2.1 wl_J5_18 dJ5_init_d00df_4 ?_
  refine az_if_eq C 25 dJ5_init_d00df_7 (by decide) (fun q => absurd q (by decide)) (fun _ => ?_)
  refine az_aload_n C 0 dJ5_init_d00df_10 rfl ?_
  refine az_iload_n C 1 dJ5_init_d00df_11 rfl ?_
  refine az_newa C 3 .byte rfl rfl (fun U cA h => va_nm_byte h) 0 23 16 (16, (.inl (fun _ => 0))) (fun cA => rfl) wa_byte (by decide) (by decide) (by decide) (Nat.le_of_ble_eq_true rfl) (Nat.le_of_ble_eq_true rfl) dJ5_init_d00df_12 (fun q0 => ?_)
  refine az_put C cJ4 0 14 0 (fs := [.null, .int 0, .int 0, .int 0]) wl_J5_15 dJ5_init_d00df_14 ha hk (by decide) (Nat.le_of_ble_eq_true rfl) rfl rfl rfl ?_
  refine az_aload_n C 0 dJ5_init_d00df_17 rfl ?_
  refine az_iconst C (v := 0) dJ5_init_d00df_18 (by decide) ?_
  refine az_put C cJ4 0 14 1 (fs := [.ref q0, .int 0, .int 0, .int 0]) wl_J5_22 dJ5_init_d00df_19 ha rfl (by decide) (Nat.le_of_ble_eq_true rfl) rfl rfl rfl ?_
  refine az_to rfl az_uu ?_
  refine az_goto C 38 dJ5_init_d00df_22 (by decide) ?_
  exact az_vret C rfl dJ5_init_d00df_38 (Nat.le_of_ble_eq_true rfl) (Nat.le_of_ble_eq_true rfl) ⟨rfl, q0, rfl, rfl⟩
set_option maxHeartbeats 4000000 in
set_option maxRecDepth 100000 in
theorem J4init (hG : az_okS l G) {q : Nat} (ha : ad 0 14 = q) (hk : K 0 14 = some (.inr (0, [.null, .int 0, .int 0, .int 0]))) : az_M l G yJ4_init_da8c8 (az_ws yJ4_init_da8c8 cJ4_init_da8c8 1 (Option.none : Option FieldType)) 2 [.ref q] ad K 1 16 (fun o ad' K' => o = .inl none ∧ j4P G ad K ad' K') := by
  refine az_start hG.1 (by decide +kernel) (Nat.le_of_ble_eq_true rfl) ?_
  intro p e s mm args below meth c C hnm
  show az_W l G 1 _ p e _ s mm args below meth c _ _ 0 0 0 [(0, .ref q)] []
  refine az_aload_n C 0 dJ4_init_da8c8_0 rfl ?_
  refine az_bipush C (v := 16) dJ4_init_da8c8_1 (by decide) ?_
  refine az_callI C Y_J5_init_d00df (a := q) [.int 16] [] rfl wm_J4_1 wi_J5_init_d00df dJ4_init_da8c8_3 rfl (J5init hG ha hk) rfl (Nat.le_of_ble_eq_true rfl) (Nat.le_of_ble_eq_true rfl) (Nat.le_of_ble_eq_true rfl) (Nat.le_of_ble_eq_true rfl) (Nat.le_of_ble_eq_true rfl) (az_c1 (fun _ _ _ h => h) ?_) (az_c0 (fun _ _ _ h => h))
  rintro ad' K' ⟨q0, rfl, rfl⟩
  exact az_vret C rfl dJ4_init_da8c8_6 (Nat.le_of_ble_eq_true rfl) (Nat.le_of_ble_eq_true rfl) ⟨rfl, q0, rfl, rfl⟩
def m2K0 (G : az_G) (K : az_K) (q0 q1 q2 q3 q4 q5 : Nat) : az_K := az_u (az_u (az_u (az_u (az_u (az_u (az_u (az_u K 0 2 (.inl (G.2.2.1 0, 6, .inl (fun _ => 0)))) 0 3 (.inl (G.2.2.1 0, 5, .inl (fun _ => 0)))) 0 4 (.inl (G.2.2.1 0, 18, .inl (fun _ => 0)))) 0 5 (.inl (G.2.2.1 0, 5, .inl (fun _ => 0)))) 0 6 (.inl (G.2.2.1 0, 18, .inl (fun _ => 0)))) 0 7 (.inl (G.2.2.1 0, 5, .inl (fun _ => 0)))) 0 1 (.inr (3, [.ref q0, .ref q1, .ref q2, .ref q3, .ref q4, .ref q5, .null, .int 0, .int 0]))) 0 8 (.inr (2, [.null, .null, .null, .int 0]))
def m2A0 (ad : az_A) (q0 q1 q2 q3 q4 q5 q6 : Nat) : az_A := az_ua (az_ua (az_ua (az_ua (az_ua (az_ua (az_ua ad 0 2 q0) 0 3 q1) 0 4 q2) 0 5 q3) 0 6 q4) 0 7 q5) 0 8 q6
def m2P (G : az_G) (ad : az_A) (K : az_K) : az_A → az_K → Prop := fun ad' K' => ∃ q0 q1 q2 q3 q4 q5 q6 r0 r1 r2 : Nat, ad' = m1A (m2A0 ad q0 q1 q2 q3 q4 q5 q6) r0 r1 r2 ∧ K' = az_u (m1K G (m2K0 G K q0 q1 q2 q3 q4 q5) r0 r1 r2) 0 1 (.inr (3, [.ref q0, .ref q1, .ref q2, .ref q3, .ref q4, .ref q5, .ref q6, .int 0, .int 0]))
theorem dfM : ∀ j, j < 4 → defaultValue (tyX1 j) = vp_V [.null, .null, .null, .int 0] j := fun j hj => by
  match j, hj with
  | 0, _ => rfl
  | 1, _ => rfl
  | 2, _ => rfl
  | 3, _ => rfl
set_option maxHeartbeats 4000000 in
set_option maxRecDepth 100000 in
theorem X2init (hG : az_okS l G) {q : Nat} (ha : ad 0 1 = q) (hk : K 0 1 = some (.inr (3, [.null, .null, .null, .null, .null, .null, .null, .int 0, .int 0]))) : az_M l G yX2_init (az_ws yX2_init cX2_init 1 (Option.none : Option FieldType)) 2 [.ref q] ad K 10 840 (fun o ad' K' => o = .inl none ∧ m2P G ad K ad' K') := by
  refine az_start hG.1 (by decide +kernel) (Nat.le_of_ble_eq_true rfl) ?_
  intro p e s mm args below meth c C hnm
  show az_W l G 1 _ p e _ s mm args below meth c _ _ 0 0 0 [(0, .ref q)] []
  refine az_aload_n C 0 dX2_init_0 rfl ?_
  refine az_obj C wm_X2_3 wi_obj wc_obj dX2_init_1 (Nat.le_of_ble_eq_true rfl) (Nat.le_of_ble_eq_true rfl) ?_
  refine az_aload_n C 0 dX2_init_4 rfl ?_
  refine az_bipush C (v := 6) dX2_init_5 (by decide) ?_
  refine az_newa C 0 .int rfl rfl (fun U cA h => va_nm_int h) 0 2 6 (6, (.inl (fun _ => 0))) (fun cA => rfl) wa_int (by decide) (by decide) (by decide) (Nat.le_of_ble_eq_true rfl) (Nat.le_of_ble_eq_true rfl) dX2_init_7 (fun q0 => ?_)
  refine az_putF C cX2 0 1 0 hnm (fs := [.null, .null, .null, .null, .null, .null, .null, .int 0, .int 0]) wl_X2_9 dX2_init_9 ha hk (by decide) (Nat.le_of_ble_eq_true rfl) rfl rfl rfl rfl ?_
  refine az_aload_n C 0 dX2_init_12 rfl ?_
  refine az_iconst C (v := 5) dX2_init_13 (by decide) ?_
  refine az_newa C 0 .int rfl rfl (fun U cA h => va_nm_int h) 0 3 5 (5, (.inl (fun _ => 0))) (fun cA => rfl) wa_int (by decide) (by decide) (by decide) (Nat.le_of_ble_eq_true rfl) (Nat.le_of_ble_eq_true rfl) dX2_init_14 (fun q1 => ?_)
  refine az_putF C cX2 0 1 1 hnm (fs := [.ref q0, .null, .null, .null, .null, .null, .null, .int 0, .int 0]) wl_X2_15 dX2_init_16 ha rfl (by decide) (Nat.le_of_ble_eq_true rfl) rfl rfl rfl rfl ?_
  refine az_to rfl (az_u3 (by decide)) ?_
  refine az_aload_n C 0 dX2_init_19 rfl ?_
  refine az_bipush C (v := 18) dX2_init_20 (by decide) ?_
  refine az_newa C 0 .int rfl rfl (fun U cA h => va_nm_int h) 0 4 18 (18, (.inl (fun _ => 0))) (fun cA => rfl) wa_int (by decide) (by decide) (by decide) (Nat.le_of_ble_eq_true rfl) (Nat.le_of_ble_eq_true rfl) dX2_init_22 (fun q2 => ?_)
  refine az_putF C cX2 0 1 2 hnm (fs := [.ref q0, .ref q1, .null, .null, .null, .null, .null, .int 0, .int 0]) wl_X2_18 dX2_init_24 ha rfl (by decide) (Nat.le_of_ble_eq_true rfl) rfl rfl rfl rfl ?_
  refine az_to rfl (az_u3 (by decide)) ?_
  refine az_aload_n C 0 dX2_init_27 rfl ?_
  refine az_iconst C (v := 5) dX2_init_28 (by decide) ?_
  refine az_newa C 0 .int rfl rfl (fun U cA h => va_nm_int h) 0 5 5 (5, (.inl (fun _ => 0))) (fun cA => rfl) wa_int (by decide) (by decide) (by decide) (Nat.le_of_ble_eq_true rfl) (Nat.le_of_ble_eq_true rfl) dX2_init_29 (fun q3 => ?_)
  refine az_putF C cX2 0 1 3 hnm (fs := [.ref q0, .ref q1, .ref q2, .null, .null, .null, .null, .int 0, .int 0]) wl_X2_21 dX2_init_31 ha rfl (by decide) (Nat.le_of_ble_eq_true rfl) rfl rfl rfl rfl ?_
  refine az_to rfl (az_u3 (by decide)) ?_
  refine az_aload_n C 0 dX2_init_34 rfl ?_
  refine az_bipush C (v := 18) dX2_init_35 (by decide) ?_
  refine az_newa C 0 .int rfl rfl (fun U cA h => va_nm_int h) 0 6 18 (18, (.inl (fun _ => 0))) (fun cA => rfl) wa_int (by decide) (by decide) (by decide) (Nat.le_of_ble_eq_true rfl) (Nat.le_of_ble_eq_true rfl) dX2_init_37 (fun q4 => ?_)
  refine az_putF C cX2 0 1 4 hnm (fs := [.ref q0, .ref q1, .ref q2, .ref q3, .null, .null, .null, .int 0, .int 0]) wl_X2_24 dX2_init_39 ha rfl (by decide) (Nat.le_of_ble_eq_true rfl) rfl rfl rfl rfl ?_
  refine az_to rfl (az_u3 (by decide)) ?_
  refine az_aload_n C 0 dX2_init_42 rfl ?_
  refine az_iconst C (v := 5) dX2_init_43 (by decide) ?_
  refine az_newa C 0 .int rfl rfl (fun U cA h => va_nm_int h) 0 7 5 (5, (.inl (fun _ => 0))) (fun cA => rfl) wa_int (by decide) (by decide) (by decide) (Nat.le_of_ble_eq_true rfl) (Nat.le_of_ble_eq_true rfl) dX2_init_44 (fun q5 => ?_)
  refine az_putF C cX2 0 1 5 hnm (fs := [.ref q0, .ref q1, .ref q2, .ref q3, .ref q4, .null, .null, .int 0, .int 0]) wl_X2_27 dX2_init_46 ha rfl (by decide) (Nat.le_of_ble_eq_true rfl) rfl rfl rfl rfl ?_
  refine az_to rfl (az_u3 (by decide)) ?_
  refine az_aload_n C 0 dX2_init_49 rfl ?_
  refine az_new C cX1 0 8 [.null, .null, .null, .int 0] wk_X2_30 wins_X1 wini_X1 dfM (Nat.le_of_ble_eq_true rfl) (Nat.le_of_ble_eq_true rfl) dX2_init_50 (fun q6 => ?_)
  refine az_dup C dX2_init_53 rfl ?_
  refine az_to (ad' := m2A0 ad q0 q1 q2 q3 q4 q5 q6) (K' := m2K0 G K q0 q1 q2 q3 q4 q5) rfl rfl ?_
  refine az_callIN C Y_X1_init (a := q6) [] [.ref q6, .ref q] rfl (az_bw C hG nx_X2_32 rfl) wi_X1_init dX2_init_54 rfl (X1init hG rfl rfl) rfl (Nat.le_of_ble_eq_true rfl) (Nat.le_of_ble_eq_true rfl) (Nat.le_of_ble_eq_true rfl) (Nat.le_of_ble_eq_true rfl) (Nat.le_of_ble_eq_true rfl) (az_c1 m1_p ?_) (az_c0 m1_p)
  rintro ad' K' ⟨r0, r1, r2, rfl, rfl⟩
  refine az_putF C cX2 0 1 6 hnm (fs := [.ref q0, .ref q1, .ref q2, .ref q3, .ref q4, .ref q5, .null, .int 0, .int 0]) wl_X2_33 dX2_init_57 ha rfl (by decide) (Nat.le_of_ble_eq_true rfl) rfl rfl rfl rfl ?_
  exact az_vret C rfl dX2_init_60 (Nat.le_of_ble_eq_true rfl) (Nat.le_of_ble_eq_true rfl) ⟨rfl, q0, q1, q2, q3, q4, q5, q6, r0, r1, r2, rfl, rfl⟩
end
