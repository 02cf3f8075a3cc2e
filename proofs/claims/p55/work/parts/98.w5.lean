section
variable {l : Launch} {G : az_G} {ρ : Rp} {x : Xs} {m : Mz} {M : Ms} {ou : Nat → Int64} {n nr nb sb L : Nat} {xs : Nat → Int32} {cs : List (List Nat)}
set_option maxHeartbeats 4000000 in
set_option maxRecDepth 100000 in
theorem Lnxt (hG : az_okS l G) {p : Program} {e : Env} {s : State} {mm : MethodId} {args : Array Value} {below : List Frame} {meth : Method} {c : Code} {tab : List ExceptionTableEntry} (C : az_C l G p s mm args meth c cL_law RL 14 (Option.some FieldType.boolean) tab) : ∀ {Qx : State → Prop} {c0 : Nat} (hc : c0 ≤ 64) (S : ST c0 ρ x M n nr nb cs) (i k9 n9 : Nat) (hk9 : k9 + 8 ≤ 600086) (hn9 : n9 + 48 ≤ 7301442) (hx : az_W l G 14 Qx p e room_1 s mm args below meth c (AD ρ) (KK G ρ x m ou) (k9 + 8) (n9 + 48) 191 [(3, .int (nI ((i + 1)))), (2, .int (nI nr)), (1, .ref (ρ.1 0)), (0, .ref sb)] []), az_W l G 14 Qx p e room_1 s mm args below meth c (AD ρ) (KK G ρ x m ou) k9 n9 743 [(10, .int 1), (3, .int (nI i)), (2, .int (nI nr)), (1, .ref (ρ.1 0)), (0, .ref sb)] [] := by
  intro Qx c0 hc S i k9 n9 hk9 hn9 hx
  refine az_iload C 0 dL_law_743 rfl ?_
  refine az_if_eq C 762 dL_law_745 (by decide) (fun q => absurd q (by decide)) (fun _ => ?_)
  refine az_aload_n C 3 dL_law_748 rfl ?_
  refine az_callS C Y_L_water [.ref (ρ.1 0)] [] wm_L_307 wst_L_water dL_law_749 rfl (water_ok (ρ := ρ) (x := x) (m := m) (ou := ou) hG hc S) rfl (Nat.le_of_ble_eq_true rfl) (Nat.le_of_ble_eq_true rfl) (Nat.le_of_ble_eq_true rfl) (by show _ ≤ 600086; omega) (by show _ ≤ 7301442; omega) (az_k1 rfl rfl ?_) (az_k0 rfl)
  refine az_if_eq C 762 dL_law_752 (by decide) (fun q => absurd q (by decide)) (fun _ => ?_)
  refine az_aload_n C 3 dL_law_755 rfl ?_
  refine az_callS C Y_L_convoys [.ref (ρ.1 0)] [] wm_L_311 wst_L_convoys dL_law_756 rfl (convoys_ok (ρ := ρ) (x := x) (m := m) (ou := ou) hG hc S) rfl (Nat.le_of_ble_eq_true rfl) (Nat.le_of_ble_eq_true rfl) (Nat.le_of_ble_eq_true rfl) (by show _ ≤ 600086; omega) (by show _ ≤ 7301442; omega) (az_k1 rfl rfl ?_) (az_k0 rfl)
  refine az_if_ne C 764 dL_law_759 (by decide) (fun _ => ?_) (fun q => absurd q (by decide))
  refine az_iinc C 1 (v := nI (i + 1)) (lv' := [(3, .int (nI (i + 1))), (10, .int 1), (2, .int (nI nr)), (1, .ref (ρ.1 0)), (0, .ref sb)]) dL_law_764 rfl (nI_1 i) (by decide) rfl ?_
  refine az_goto C 191 dL_law_767 (by decide) ?_
  exact az_lv [0, 2, 3, 4] rfl hx

set_option maxHeartbeats 4000000 in
set_option maxRecDepth 100000 in
theorem Lrun (hG : az_okS l G) {p : Program} {e : Env} {s : State} {mm : MethodId} {args : Array Value} {below : List Frame} {meth : Method} {c : Code} {tab : List ExceptionTableEntry} (C : az_C l G p s mm args meth c cL_law RL 14 (Option.some FieldType.boolean) tab) : ∀ {Qx : State → Prop} (hexit : ∀ (ad : az_A) (K : az_K) (k n : Nat) (lv : List (Nat × Value)), k ≤ 600086 → n ≤ 7301442 → az_W l G 14 Qx p e room_1 s mm args below meth c ad K k n 770 lv []) (hS : lwC G sb L xs) (hr2 : 2 ≤ nr) (f : Nat) {ρ : Rp} {x : Xs} {m : Mz} {M : Ms} {n c0 : Nat} {cs : List (List Nat)} (hc : c0 + f ≤ 60) (S : ST c0 ρ x M n nr nb cs) (i k9 n9 : Nat) (hif : i + f = 24) (hk9 : k9 + 17000 * f ≤ 600086) (hn9 : n9 + 100000 * f ≤ 7301442), az_W l G 14 Qx p e room_1 s mm args below meth c (AD ρ) (KK G ρ x m ou) k9 n9 191 [(3, .int (nI i)), (2, .int (nI nr)), (1, .ref (ρ.1 0)), (0, .ref sb)] [] := by
  intro Qx hexit hS hr2 f
  induction f with
  | zero =>
    intro ρ x m M n c0 cs hc S i k9 n9 hif hk9 hn9
    obtain rfl : i = 24 := by omega
    refine az_iload_n C 0 dL_law_191 rfl ?_
    refine az_bipush C (v := 24) dL_law_192 (by decide) ?_
    refine az_icmp_ge C 770 dL_law_194 (by decide) (fun _ => ?_) (fun q => absurd (by decide) q)
    exact hexit _ _ _ _ _ (by omega) (by omega)
  | succ f ih =>
    intro ρ x m M n c0 cs hc S i k9 n9 hif hk9 hn9
    have hn6 := S.1.n6
    have hb8 := S.1.b8
    have q1 : k9 + 17000 ≤ 600086 := by omega
    have q2 : n9 + 100000 ≤ 7301442 := Nat.le_trans (Nat.add_le_add_left (Nat.le_mul_of_pos_right 100000 (Nat.succ_pos f)) n9) hn9
    have q3 : c0 ≤ 60 := by omega
    refine az_iload_n C 0 dL_law_191 rfl ?_
    refine az_bipush C (v := 24) dL_law_192 (by decide) ?_
    refine az_icmp_ge C 770 dL_law_194 (by decide) (fun q => absurd q (show ¬ nI 24 ≤ nI i from nlt_nle (by omega) (by omega))) (fun _ => ?_)
    refine az_aload_n C 2 dL_law_197 rfl ?_
    refine az_callV C Y_X3_bargeCount cX3 0 0 [] [] wm_L_167 wi_X3_bargeCount wse_X3_bargeCount dL_law_198 rfl rfl rfl (XbargeCount hG) rfl (Nat.le_of_ble_eq_true rfl) (Nat.le_of_ble_eq_true rfl) (Nat.le_of_ble_eq_true rfl) (by show _ ≤ 600086; omega) (by show _ ≤ 7301442; omega) (az_k1 rfl rfl ?_) (az_k0 rfl)
    refine az_top (nI nb) S.1.xb ?_
    refine az_if_le C 770 dL_law_201 (by decide) (fun c1 => ?_) (fun c1 => ?_)
    · exact hexit _ _ _ _ _ (by omega) (by omega)
    · have hb1 : 1 ≤ nb := Nat.pos_of_ne_zero (fun z => c1 (by rw [z]; decide))
      refine az_aload_n C 3 dL_law_204 rfl ?_
      refine az_bipush C (v := 50) dL_law_205 (by decide) ?_
      refine az_iload_n C 0 dL_law_207 rfl ?_
      refine az_iadd C dL_law_208 ?_
      refine az_top (nI (50 + i)) (nI_ad9 50 i) ?_
      refine az_callS C Y_L_cell [.ref sb, .int (nI (50 + i))] [] wm_L_8 wst_L_cell dL_law_209 rfl (Xcell (ρ := ρ) (x := x) (m := m) (ou := ou) hG hS (k := 50 + i) (by omega)) rfl (Nat.le_of_ble_eq_true rfl) (Nat.le_of_ble_eq_true rfl) (Nat.le_of_ble_eq_true rfl) (by show _ ≤ 600086; omega) (by show _ ≤ 7301442; omega) ?_ (by rintro E ad9 K9 ⟨v9, h9, -⟩; cases h9)
      rintro v9 ad9 K9 ⟨u9, h9, rfl, rfl⟩
      cases h9
      obtain ⟨t9, ht9, et9⟩ := ushr1 u9
      refine az_iconst C (v := 1) dL_law_212 (by decide) ?_
      refine az_iushr C (v := (nI t9)) dL_law_213 et9 ?_
      refine az_istore C (lv' := [(4, .int ((nI t9))), (3, .int (nI i)), (2, .int (nI nr)), (1, .ref (ρ.1 0)), (0, .ref sb)]) dL_law_214 (by decide) rfl ?_
      refine az_iload C 0 dL_law_216 rfl ?_
      refine az_aload_n C 3 dL_law_218 rfl ?_
      refine az_callV C Y_X3_bargeCount cX3 0 0 [] [.int ((nI t9))] wm_L_167 wi_X3_bargeCount wse_X3_bargeCount dL_law_219 rfl rfl rfl (XbargeCount hG) rfl (Nat.le_of_ble_eq_true rfl) (Nat.le_of_ble_eq_true rfl) (Nat.le_of_ble_eq_true rfl) (by show _ ≤ 600086; omega) (by show _ ≤ 7301442; omega) (az_k1 rfl rfl ?_) (az_k0 rfl)
      refine az_top (nI nb) S.1.xb ?_
      refine az_irem C dL_law_222 (nz_nI hb1 (by omega)) ?_
      refine az_top (nI (t9 % nb)) (rem_nI (q := nb) (by omega) (by omega) (by omega)) ?_
      refine az_istore C (lv' := [(5, .int (nI (t9 % nb))), (4, .int ((nI t9))), (3, .int (nI i)), (2, .int (nI nr)), (1, .ref (ρ.1 0)), (0, .ref sb)]) dL_law_223 (by decide) rfl ?_
      refine az_iload C 1 dL_law_225 rfl ?_
      refine az_bipush C (v := 8) dL_law_227 (by decide) ?_
      refine az_idiv C dL_law_229 (by decide) ?_
      refine az_top (nI (t9 / 8)) (div_nI (q := 8) (by omega) (by decide) (by decide)) ?_
      refine az_aload_n C 4 dL_law_230 rfl ?_
      refine az_callV C Y_X3_bargeCount cX3 0 0 [] [.int (nI (t9 / 8))] wm_L_167 wi_X3_bargeCount wse_X3_bargeCount dL_law_231 rfl rfl rfl (XbargeCount hG) rfl (Nat.le_of_ble_eq_true rfl) (Nat.le_of_ble_eq_true rfl) (Nat.le_of_ble_eq_true rfl) (by show _ ≤ 600086; omega) (by show _ ≤ 7301442; omega) (az_k1 rfl rfl ?_) (az_k0 rfl)
      refine az_top (nI nb) S.1.xb ?_
      refine az_irem C dL_law_234 (nz_nI hb1 (by omega)) ?_
      refine az_top (nI (t9 / 8 % nb)) (rem_nI (q := nb) (by omega) (by omega) (by omega)) ?_
      refine az_istore C (lv' := [(6, .int (nI (t9 / 8 % nb))), (5, .int (nI (t9 % nb))), (4, .int ((nI t9))), (3, .int (nI i)), (2, .int (nI nr)), (1, .ref (ρ.1 0)), (0, .ref sb)]) dL_law_235 (by decide) rfl ?_
      refine az_iload C 2 dL_law_237 rfl ?_
      refine az_bipush C (v := 64) dL_law_239 (by decide) ?_
      refine az_idiv C dL_law_241 (by decide) ?_
      refine az_top (nI (t9 / 64)) (div_nI (q := 64) (by omega) (by decide) (by decide)) ?_
      refine az_iload_n C 4 dL_law_242 rfl ?_
      refine az_irem C dL_law_243 (nz_nI (by omega) (by omega)) ?_
      refine az_top (nI (t9 / 64 % nr)) (rem_nI (q := nr) (by omega) (by omega) (by omega)) ?_
      refine az_istore C (lv' := [(7, .int (nI (t9 / 64 % nr))), (6, .int (nI (t9 / 8 % nb))), (5, .int (nI (t9 % nb))), (4, .int ((nI t9))), (3, .int (nI i)), (2, .int (nI nr)), (1, .ref (ρ.1 0)), (0, .ref sb)]) dL_law_244 (by decide) rfl ?_
      refine az_iload C 3 dL_law_246 rfl ?_
      refine az_sipush C (v := 512) dL_law_248 (by decide) ?_
      refine az_idiv C dL_law_251 (by decide) ?_
      refine az_top (nI (t9 / 512)) (div_nI (q := 512) (by omega) (by decide) (by decide)) ?_
      refine az_bipush C (v := 16) dL_law_252 (by decide) ?_
      refine az_irem C dL_law_254 (by decide) ?_
      refine az_top (nI (t9 / 512 % 16)) (rem_nI (q := 16) (by omega) (by omega) (by omega)) ?_
      refine az_istore C (lv' := [(8, .int (nI (t9 / 512 % 16))), (7, .int (nI (t9 / 64 % nr))), (6, .int (nI (t9 / 8 % nb))), (5, .int (nI (t9 % nb))), (4, .int ((nI t9))), (3, .int (nI i)), (2, .int (nI nr)), (1, .ref (ρ.1 0)), (0, .ref sb)]) dL_law_255 (by decide) rfl ?_
      refine az_iload C 4 dL_law_257 rfl ?_
      refine az_sipush C (v := 8192) dL_law_259 (by decide) ?_
      refine az_idiv C dL_law_262 (by decide) ?_
      refine az_top (nI (t9 / 8192)) (div_nI (q := 8192) (by omega) (by decide) (by decide)) ?_
      refine az_sipush C (v := 300) dL_law_263 (by decide) ?_
      refine az_irem C dL_law_266 (by decide) ?_
      refine az_top (nI (t9 / 8192 % 300)) (rem_nI (q := 300) (by omega) (by omega) (by omega)) ?_
      refine az_iconst C (v := 1) dL_law_267 (by decide) ?_
      refine az_iadd C dL_law_268 ?_
      refine az_top (nI (t9 / 8192 % 300 + 1)) (nI_1 _) ?_
      refine az_istore C (lv' := [(9, .int (nI (t9 / 8192 % 300 + 1))), (8, .int (nI (t9 / 512 % 16))), (7, .int (nI (t9 / 64 % nr))), (6, .int (nI (t9 / 8 % nb))), (5, .int (nI (t9 % nb))), (4, .int ((nI t9))), (3, .int (nI i)), (2, .int (nI nr)), (1, .ref (ρ.1 0)), (0, .ref sb)]) dL_law_269 (by decide) rfl ?_
      refine az_iconst C (v := 1) dL_law_271 (by decide) ?_
      refine az_istore C (lv' := [(10, .int 1), (9, .int (nI (t9 / 8192 % 300 + 1))), (8, .int (nI (t9 / 512 % 16))), (7, .int (nI (t9 / 64 % nr))), (6, .int (nI (t9 / 8 % nb))), (5, .int (nI (t9 % nb))), (4, .int ((nI t9))), (3, .int (nI i)), (2, .int (nI nr)), (1, .ref (ρ.1 0)), (0, .ref sb)]) dL_law_272 (by decide) rfl ?_
      have hkb : t9 % nb < nb := Nat.mod_lt _ hb1
      have hkc : t9 / 8 % nb < nb := Nat.mod_lt _ hb1
      have hkr : t9 / 64 % nr < nr := Nat.mod_lt _ (by omega)
      have hka : 1 ≤ t9 / 8192 % 300 + 1 ∧ t9 / 8192 % 300 + 1 ≤ 300 := by omega
      have hx : ∀ (ρ' : Rp) (x' : Xs) (M' : Ms) (m' : Mz) (n' : Nat) (cs' : List (List Nat)), ρ'.1 0 = ρ.1 0 → ST (c0 + 1) ρ' x' M' n' nr nb cs' → ∀ k8 n8 : Nat, k8 ≤ k9 + 16600 → n8 ≤ n9 + 99600 → az_W l G 14 Qx p e room_1 s mm args below meth c (AD ρ') (KK G ρ' x' m' ou) k8 n8 743 [(10, .int 1), (3, .int (nI i)), (2, .int (nI nr)), (1, .ref (ρ'.1 0)), (0, .ref sb)] [] := fun ρ' x' M' m' n' cs' e0 S' k8 n8 h8 h9 => Lnxt hG C (by omega) S' i k8 n8 (by omega) (by omega) (ih (by omega) S' (i + 1) (k8 + 8) (n8 + 48) (by omega) (by omega) (by omega))
      refine az_kn k9 n9 (by omega) (by omega) ?_
      refine az_iload C 2 dL_law_274 rfl ?_
      refine az_iconst C (v := 4) dL_law_276 (by decide) ?_
      refine az_icmp_ge C 293 dL_law_277 (by decide) (fun c2 => ?_) (fun c2 => ?_)
      · refine az_iload C 2 dL_law_293 rfl ?_
        refine az_bipush C (v := 7) dL_law_295 (by decide) ?_
        refine az_icmp_ge C 326 dL_law_297 (by decide) (fun c3 => ?_) (fun c3 => ?_)
        · refine az_iload C 2 dL_law_326 rfl ?_
          refine az_bipush C (v := 9) dL_law_328 (by decide) ?_
          refine az_icmp_ge C 391 dL_law_330 (by decide) (fun c4 => ?_) (fun c4 => ?_)
          · refine az_iload C 2 dL_law_391 rfl ?_
            refine az_bipush C (v := 9) dL_law_393 (by decide) ?_
            refine az_icmp_ne C 478 dL_law_395 (by decide) (fun c5 => ?_) (fun c5 => ?_)
            · refine az_iload C 2 dL_law_478 rfl ?_
              refine az_bipush C (v := 12) dL_law_480 (by decide) ?_
              refine az_icmp_ge C 498 dL_law_482 (by decide) (fun c6 => ?_) (fun c6 => ?_)
              · refine az_iload C 2 dL_law_498 rfl ?_
                refine az_bipush C (v := 12) dL_law_500 (by decide) ?_
                refine az_icmp_ne C 526 dL_law_502 (by decide) (fun c7 => ?_) (fun c7 => ?_)
                · refine az_iload C 2 dL_law_526 rfl ?_
                  refine az_bipush C (v := 13) dL_law_528 (by decide) ?_
                  refine az_icmp_ne C 577 dL_law_530 (by decide) (fun c8 => ?_) (fun c8 => ?_)
                  · refine az_iload C 2 dL_law_577 rfl ?_
                    refine az_bipush C (v := 14) dL_law_579 (by decide) ?_
                    refine az_icmp_ne C 677 dL_law_581 (by decide) (fun c9 => ?_) (fun c9 => ?_)
                    · exact az_lv [1, 2, 3, 4, 5, 6, 7, 8, 9, 10] rfl (WayD hG C q3 S (t9 % nb) (t9 / 8 % nb) (t9 / 64 % nr) (t9 / 8192 % 300 + 1) t9 i (nI (t9 / 512 % 16)) hkb hkc hkr hka ht9 k9 n9 q1 q2 hx)
                    · exact az_lv [1, 2, 3, 4, 5, 6, 7, 8, 9, 10] rfl (WayG hG C q3 S (t9 % nb) (t9 / 8 % nb) (t9 / 64 % nr) (t9 / 8192 % 300 + 1) t9 i (nI (t9 / 512 % 16)) hkb hkc hkr hka ht9 hr2 k9 n9 q1 q2 hx)
                  · exact az_lv [1, 2, 3, 4, 5, 6, 7, 8, 9, 10] rfl (WayW hG C q3 S (t9 % nb) (t9 / 8 % nb) (t9 / 64 % nr) (t9 / 8192 % 300 + 1) t9 i (nI (t9 / 512 % 16)) hkb hkc hkr hka ht9 k9 n9 q1 q2 hx)
                · exact az_lv [1, 2, 3, 4, 5, 6, 7, 8, 9, 10] rfl (WayR hG C q3 S (t9 % nb) (t9 / 8 % nb) (t9 / 64 % nr) (t9 / 8192 % 300 + 1) t9 i (nI (t9 / 512 % 16)) hkb hkc hkr hka ht9 k9 n9 q1 q2 hx)
              · exact az_lv [1, 2, 3, 4, 5, 6, 7, 8, 9, 10] rfl (WayT hG C q3 S (t9 % nb) (t9 / 8 % nb) (t9 / 64 % nr) (t9 / 8192 % 300 + 1) t9 i (nI (t9 / 512 % 16)) hkb hkc hkr hka ht9 k9 n9 q1 q2 hx)
            · exact az_lv [1, 2, 3, 4, 5, 6, 7, 8, 9, 10] rfl (WayU hG C q3 S (t9 % nb) (t9 / 8 % nb) (t9 / 64 % nr) (t9 / 8192 % 300 + 1) t9 i (nI (t9 / 512 % 16)) hkb hkc hkr hka ht9 k9 n9 q1 q2 hx)
          · exact az_lv [1, 2, 3, 4, 5, 6, 7, 8, 9, 10] rfl (WayC hG C q3 S (t9 % nb) (t9 / 8 % nb) (t9 / 64 % nr) (t9 / 8192 % 300 + 1) t9 i (nI (t9 / 512 % 16)) hkb hkc hkr hka ht9 k9 n9 q1 q2 hx)
        · exact az_lv [1, 2, 3, 4, 5, 6, 7, 8, 9, 10] rfl (WayP hG C q3 S (t9 % nb) (t9 / 8 % nb) (t9 / 64 % nr) (t9 / 8192 % 300 + 1) t9 i (nI (t9 / 512 % 16)) hkb hkc hkr hka ht9 k9 n9 q1 q2 hx)
      · exact az_lv [1, 2, 3, 4, 5, 6, 7, 8, 9, 10] rfl (WayS hG C q3 S (t9 % nb) (t9 / 8 % nb) (t9 / 64 % nr) (t9 / 8192 % 300 + 1) t9 i (nI (t9 / 512 % 16)) hkb hkc hkr hka ht9 k9 n9 q1 q2 hx)

theorem bo_in {u q b : Nat} (h : u + q ≤ b) (hb : b < 2 ^ 30) : nI u ≤ nI (u + q) ∧ nI (u + q) ≤ nI b := ⟨nI_leT (by omega) (by omega), nI_leT h hb⟩
set_option maxHeartbeats 4000000 in
set_option maxRecDepth 100000 in
theorem Lab (hG : az_okS l G) {p : Program} {e : Env} {s : State} {mm : MethodId} {args : Array Value} {below : List Frame} {meth : Method} {c : Code} {tab : List ExceptionTableEntry} (C : az_C l G p s mm args meth c cL_law RL 14 (Option.some FieldType.boolean) tab) : ∀ {Qx : State → Prop} (hexit : ∀ (ad : az_A) (K : az_K) (k n : Nat) (lv : List (Nat × Value)), k ≤ 600086 → n ≤ 7301442 → az_W l G 14 Qx p e room_1 s mm args below meth c ad K k n 770 lv []) (hS : lwC G sb L xs) (hr2 : 2 ≤ nr) {c0 : Nat} (hc : c0 ≤ 30) (f : Nat) {ρ : Rp} {x : Xs} {m : Mz} {M : Ms} {n nb : Nat} {cs : List (List Nat)} (S : ST c0 ρ x M n nr nb cs) (i k9 n9 : Nat) (hif : i + f = 6) (hbi : nb ≤ i) (hk9 : k9 + f ≤ 190000) (hn9 : n9 + 8 * f ≤ 4000000), az_W l G 14 Qx p e room_1 s mm args below meth c (AD ρ) (KK G ρ x m ou) k9 n9 101 [(3, .int (nI i)), (2, .int (nI nr)), (1, .ref (ρ.1 0)), (0, .ref sb)] [] := by
  intro Qx hexit hS hr2 c0 hc f
  induction f with
  | zero =>
    intro ρ x m M n nb cs S i k9 n9 hif hbi hk9 hn9
    obtain rfl : i = 6 := by omega
    refine az_iload_n C 0 dL_law_101 rfl ?_
    refine az_bipush C (v := 6) dL_law_102 (by decide) ?_
    refine az_icmp_ge C 189 dL_law_104 (by decide) (fun _ => ?_) (fun q => absurd (by decide) q)
    refine az_iconst C (v := 0) dL_law_189 (by decide) ?_
    refine az_istore_n C (lv' := [(3, .int 0), (2, .int (nI nr)), (1, .ref (ρ.1 0)), (0, .ref sb)]) (j := 3) rfl dL_law_190 (by decide) rfl ?_
    exact az_lv [0, 1, 2, 3] rfl (Lrun hG C hexit hS hr2 24 (by omega) S 0 _ _ (by omega) (by omega) (by omega))
  | succ f ih =>
    intro ρ x m M n nb cs S i k9 n9 hif hbi hk9 hn9
    have hn6 := S.1.n6
    have hb8 := S.1.b8
    refine az_iload_n C 0 dL_law_101 rfl ?_
    refine az_bipush C (v := 6) dL_law_102 (by decide) ?_
    refine az_icmp_ge C 189 dL_law_104 (by decide) (fun q => absurd q (show ¬ nI 6 ≤ nI i from nlt_nle (by omega) (by omega))) (fun _ => ?_)
    refine az_aload_n C 3 dL_law_107 rfl ?_
    refine az_bipush C (v := 26) dL_law_108 (by decide) ?_
    refine az_iload_n C 0 dL_law_110 rfl ?_
    refine az_iadd C dL_law_111 ?_
    refine az_top (nI (26 + i)) (nI_ad9 26 (i)) ?_
    refine az_iload_n C 1 dL_law_112 rfl ?_
    refine az_callS C Y_L_pick [.ref sb, .int (nI (26 + i)), .int (nI nr)] [] wm_L_270 wst_L_pick dL_law_113 rfl (Xpick (ρ := ρ) (x := x) (m := m) (ou := ou) hG hS (k := 26 + i) (q := nr) (by omega) (by omega) (by omega)) rfl (Nat.le_of_ble_eq_true rfl) (Nat.le_of_ble_eq_true rfl) (Nat.le_of_ble_eq_true rfl) (by show _ ≤ 600086; omega) (by show _ ≤ 7301442; omega) ?_ (by rintro E ad9 K9 ⟨v9, -, h9, -⟩; cases h9)
    rintro v9 ad9 K9 ⟨tr, htr, h9, rfl, rfl⟩
    cases h9
    refine az_istore C (lv' := [(4, .int (nI tr)), (3, .int (nI i)), (2, .int (nI nr)), (1, .ref (ρ.1 0)), (0, .ref sb)]) dL_law_116 (by decide) rfl ?_
    refine az_aload_n C 3 dL_law_118 rfl ?_
    refine az_iload C 0 dL_law_119 rfl ?_
    refine az_iconst C (v := 5) dL_law_121 (by decide) ?_
    refine az_aload_n C 4 dL_law_122 rfl ?_
    refine az_bipush C (v := 32) dL_law_123 (by decide) ?_
    refine az_iload_n C 1 dL_law_125 rfl ?_
    refine az_iadd C dL_law_126 ?_
    refine az_top (nI (32 + i)) (nI_ad9 32 (i)) ?_
    refine az_bipush C (v := 40) dL_law_127 (by decide) ?_
    refine az_callS C Y_L_pick [.ref sb, .int (nI (32 + i)), .int 40] [.int 5, .int (nI tr), .ref (ρ.1 0)] wm_L_270 wst_L_pick dL_law_129 rfl (Xpick (ρ := ρ) (x := x) (m := m) (ou := ou) hG hS (k := 32 + i) (q := 40) (by omega) (by omega) (by omega)) rfl (Nat.le_of_ble_eq_true rfl) (Nat.le_of_ble_eq_true rfl) (Nat.le_of_ble_eq_true rfl) (by show _ ≤ 600086; omega) (by show _ ≤ 7301442; omega) ?_ (by rintro E ad9 K9 ⟨v9, -, h9, -⟩; cases h9)
    rintro v9 ad9 K9 ⟨tl, htl, h9, rfl, rfl⟩
    cases h9
    refine az_iadd C dL_law_132 ?_
    refine az_top (nI (5 + tl)) (nI_ad9 5 (tl)) ?_
    refine az_iconst C (v := 2) dL_law_133 (by decide) ?_
    refine az_aload_n C 4 dL_law_134 rfl ?_
    refine az_bipush C (v := 38) dL_law_135 (by decide) ?_
    refine az_iload_n C 1 dL_law_137 rfl ?_
    refine az_iadd C dL_law_138 ?_
    refine az_top (nI (38 + i)) (nI_ad9 38 (i)) ?_
    refine az_bipush C (v := 9) dL_law_139 (by decide) ?_
    refine az_callS C Y_L_pick [.ref sb, .int (nI (38 + i)), .int 9] [.int 2, .int (nI (5 + tl)), .int (nI tr), .ref (ρ.1 0)] wm_L_270 wst_L_pick dL_law_141 rfl (Xpick (ρ := ρ) (x := x) (m := m) (ou := ou) hG hS (k := 38 + i) (q := 9) (by omega) (by omega) (by omega)) rfl (Nat.le_of_ble_eq_true rfl) (Nat.le_of_ble_eq_true rfl) (Nat.le_of_ble_eq_true rfl) (by show _ ≤ 600086; omega) (by show _ ≤ 7301442; omega) ?_ (by rintro E ad9 K9 ⟨v9, -, h9, -⟩; cases h9)
    rintro v9 ad9 K9 ⟨td, htd, h9, rfl, rfl⟩
    cases h9
    refine az_iadd C dL_law_144 ?_
    refine az_top (nI (2 + td)) (nI_ad9 2 (td)) ?_
    refine az_iconst C (v := 1) dL_law_145 (by decide) ?_
    refine az_aload_n C 4 dL_law_146 rfl ?_
    refine az_bipush C (v := 44) dL_law_147 (by decide) ?_
    refine az_iload_n C 1 dL_law_149 rfl ?_
    refine az_iadd C dL_law_150 ?_
    refine az_top (nI (44 + i)) (nI_ad9 44 (i)) ?_
    refine az_bipush C (v := 20) dL_law_151 (by decide) ?_
    refine az_callS C Y_L_pick [.ref sb, .int (nI (44 + i)), .int 20] [.int 1, .int (nI (2 + td)), .int (nI (5 + tl)), .int (nI tr), .ref (ρ.1 0)] wm_L_270 wst_L_pick dL_law_153 rfl (Xpick (ρ := ρ) (x := x) (m := m) (ou := ou) hG hS (k := 44 + i) (q := 20) (by omega) (by omega) (by omega)) rfl (Nat.le_of_ble_eq_true rfl) (Nat.le_of_ble_eq_true rfl) (Nat.le_of_ble_eq_true rfl) (by show _ ≤ 600086; omega) (by show _ ≤ 7301442; omega) ?_ (by rintro E ad9 K9 ⟨v9, -, h9, -⟩; cases h9)
    rintro v9 ad9 K9 ⟨tt, htt, h9, rfl, rfl⟩
    cases h9
    refine az_iadd C dL_law_156 ?_
    refine az_top (nI (1 + tt)) (nI_ad9 1 (tt)) ?_
    obtain ⟨mc1, ms1, hm1, hm2, hP1⟩ := addB_ok (m := m) (ou := ou) hG S (show nb < 8 by omega) htr (bo_in (u := 5) (q := tl) (b := 80) (by omega) (by omega)) (bo_in (u := 2) (q := td) (b := 20) (by omega) (by omega)) (bo_in (u := 1) (q := tt) (b := 20) (by omega) (by omega))
    refine az_callH C Y_L_addBarge [.ref (ρ.1 0), .int (nI tr), .int (nI (5 + tl)), .int (nI (2 + td)), .int (nI (1 + tt))] [] wm_L_277 wst_L_addBarge dL_law_157 rfl (hP1) rfl (Nat.le_of_ble_eq_true rfl) (Nat.le_of_ble_eq_true rfl) (Nat.le_of_ble_eq_true rfl) (by show _ ≤ 600086; omega) (by show _ ≤ 7301442; omega) ?_ (by rintro E ad9 K9 ⟨_, _, _, h9, -⟩; cases h9)
    rintro v9 ad9 K9 ⟨ρ1, x1, v1, h9, rfl, rfl, e0, hP⟩
    cases h9
    rw [← e0]
    obtain ⟨nb1, M1, cs1, S1, hb1, hv⟩ : ∃ (nb1 : Nat) (M1 : Ms) (cs1 : List (List Nat)), ST c0 ρ1 x1 M1 n nr nb1 cs1 ∧ nb1 ≤ nb + 1 ∧ (v1 = nI nb1 - 1 ∨ v1 = -1004) := by
      rcases hP with ⟨z1, z2⟩ | ⟨z1, M2, z2⟩
      · exact ⟨nb, M, cs, z2, Nat.le_succ nb, Or.inr z1⟩
      · exact ⟨nb + 1, M2, _, z2, Nat.le_refl _, Or.inl (by rw [z1]; exact (pk_sub (a := nb + 1) (b := 1) (by omega)).symm)⟩
    refine az_istore C (lv' := [(5, .int v1), (4, .int (nI tr)), (3, .int (nI i)), (2, .int (nI nr)), (1, .ref (ρ1.1 0)), (0, .ref sb)]) dL_law_160 (by decide) rfl ?_
    refine az_iload C 0 dL_law_162 rfl ?_
    refine az_aload_n C 4 dL_law_164 rfl ?_
    refine az_callV C Y_X3_bargeCount cX3 0 0 [] [.int v1] wm_L_167 wi_X3_bargeCount wse_X3_bargeCount dL_law_165 rfl rfl rfl (XbargeCount hG) rfl (Nat.le_of_ble_eq_true rfl) (Nat.le_of_ble_eq_true rfl) (Nat.le_of_ble_eq_true rfl) (by show _ ≤ 600086; omega) (by show _ ≤ 7301442; omega) (az_k1 rfl rfl ?_) (az_k0 rfl)
    refine az_top (nI nb1) S1.1.xb ?_
    refine az_iconst C (v := 1) dL_law_168 (by decide) ?_
    refine az_isub C dL_law_169 ?_
    refine az_icmp_eq C 183 dL_law_170 (by decide) (fun c1 => ?_) (fun c1 => ?_)
    · refine az_iinc C 2 (v := nI (i + 1)) (lv' := [(3, .int (nI (i + 1))), (5, .int v1), (4, .int (nI tr)), (2, .int (nI nr)), (1, .ref (ρ1.1 0)), (0, .ref sb)]) dL_law_183 rfl (nI_1 i) (by decide) rfl ?_
      refine az_goto C 101 dL_law_186 (by decide) ?_
      exact az_lv [0, 3, 4, 5] rfl (ih S1 (i + 1) _ _ (by omega) (by omega) (by omega) (by omega))
    · refine az_iload C 0 dL_law_173 rfl ?_
      refine az_sipush C (v := (-1004)) dL_law_175 (by decide) ?_
      refine az_icmp_eq C 183 dL_law_178 (by decide) (fun _ => ?_) (fun q => absurd (hv.resolve_left c1) q)
      refine az_iinc C 2 (v := nI (i + 1)) (lv' := [(3, .int (nI (i + 1))), (5, .int v1), (4, .int (nI tr)), (2, .int (nI nr)), (1, .ref (ρ1.1 0)), (0, .ref sb)]) dL_law_183 rfl (nI_1 i) (by decide) rfl ?_
      refine az_goto C 101 dL_law_186 (by decide) ?_
      exact az_lv [0, 3, 4, 5] rfl (ih S1 (i + 1) _ _ (by omega) (by omega) (by omega) (by omega))

theorem bo_i2 {u q a b : Nat} (h1 : a ≤ u + q) (h : u + q ≤ b) (hb : b < 2 ^ 30) : nI a ≤ nI (u + q) ∧ nI (u + q) ≤ nI b := ⟨nI_leT h1 (by omega), nI_leT h hb⟩
set_option maxHeartbeats 4000000 in
set_option maxRecDepth 100000 in
theorem Lar (hG : az_okS l G) {p : Program} {e : Env} {s : State} {mm : MethodId} {args : Array Value} {below : List Frame} {meth : Method} {c : Code} {tab : List ExceptionTableEntry} (C : az_C l G p s mm args meth c cL_law RL 14 (Option.some FieldType.boolean) tab) : ∀ {Qx : State → Prop} (hexit : ∀ (ad : az_A) (K : az_K) (k n : Nat) (lv : List (Nat × Value)), k ≤ 600086 → n ≤ 7301442 → az_W l G 14 Qx p e room_1 s mm args below meth c ad K k n 770 lv []) (hS : lwC G sb L xs) {qq : Nat} (hq2 : 2 ≤ qq) (hq6 : qq ≤ 6) (f : Nat) {ρ : Rp} {x : Xs} {m : Mz} {M : Ms} {n c0 i : Nat} {cs : List (List Nat)} (hc : c0 + f ≤ 20) (S : ST c0 ρ x M n i 0 cs) (k9 n9 : Nat) (hif : i + f = qq) (hk9 : k9 + 16400 * f ≤ 180000) (hn9 : n9 + 98400 * f ≤ 3000000), az_W l G 14 Qx p e room_1 s mm args below meth c (AD ρ) (KK G ρ x m ou) k9 n9 19 [(3, .int (nI i)), (2, .int (nI qq)), (1, .ref (ρ.1 0)), (0, .ref sb)] [] := by
  intro Qx hexit hS qq hq2 hq6 f
  induction f with
  | zero =>
    intro ρ x m M n c0 i cs hc S k9 n9 hif hk9 hn9
    have ei : qq = i := by omega
    subst ei
    refine az_iload_n C 0 dL_law_19 rfl ?_
    refine az_iload_n C 1 dL_law_20 rfl ?_
    refine az_icmp_ge C 99 dL_law_21 (by decide) (fun _ => ?_) (fun q => absurd (Int32.le_refl _) q)
    refine az_iconst C (v := 0) dL_law_99 (by decide) ?_
    refine az_istore_n C (lv' := [(3, .int 0), (2, .int (nI qq)), (1, .ref (ρ.1 0)), (0, .ref sb)]) (j := 3) rfl dL_law_100 (by decide) rfl ?_
    exact az_lv [0, 1, 2, 3] rfl (Lab hG C hexit hS (by omega) (by omega) 6 S 0 _ _ (by omega) (by omega) (by omega) (by omega))
  | succ f ih =>
    intro ρ x m M n c0 i cs hc S k9 n9 hif hk9 hn9
    have hn1 := S.1.n1
    refine az_iload_n C 0 dL_law_19 rfl ?_
    refine az_iload_n C 1 dL_law_20 rfl ?_
    refine az_icmp_ge C 99 dL_law_21 (by decide) (fun q => absurd q (nlt_nle (show i < qq by omega) (by omega))) (fun _ => ?_)
    refine az_aload_n C 2 dL_law_24 rfl ?_
    refine az_iconst C (v := 1) dL_law_25 (by decide) ?_
    refine az_aload_n C 3 dL_law_26 rfl ?_
    refine az_iload_n C 0 dL_law_27 rfl ?_
    refine az_bipush C (v := 50) dL_law_28 (by decide) ?_
    refine az_callS C Y_L_pick [.ref sb, .int (nI i), .int 50] [.int 1, .ref (ρ.1 0)] wm_L_270 wst_L_pick dL_law_30 rfl (Xpick (ρ := ρ) (x := x) (m := m) (ou := ou) hG hS (k := i) (q := 50) (by omega) (by omega) (by omega)) rfl (Nat.le_of_ble_eq_true rfl) (Nat.le_of_ble_eq_true rfl) (Nat.le_of_ble_eq_true rfl) (by show _ ≤ 600086; omega) (by show _ ≤ 7301442; omega) ?_ (by rintro E ad9 K9 ⟨v9, -, h9, -⟩; cases h9)
    rintro v9 ad9 K9 ⟨ta, hta, h9, rfl, rfl⟩
    cases h9
    refine az_iadd C dL_law_33 ?_
    refine az_top (nI (1 + ta)) (nI_ad9 1 (ta)) ?_
    refine az_iconst C (v := 5) dL_law_34 (by decide) ?_
    refine az_aload_n C 3 dL_law_35 rfl ?_
    refine az_iconst C (v := 5) dL_law_36 (by decide) ?_
    refine az_iload_n C 0 dL_law_37 rfl ?_
    refine az_iadd C dL_law_38 ?_
    refine az_top (nI (5 + i)) (nI_ad9 5 (i)) ?_
    refine az_bipush C (v := 50) dL_law_39 (by decide) ?_
    refine az_callS C Y_L_pick [.ref sb, .int (nI (5 + i)), .int 50] [.int 5, .int (nI (1 + ta)), .ref (ρ.1 0)] wm_L_270 wst_L_pick dL_law_41 rfl (Xpick (ρ := ρ) (x := x) (m := m) (ou := ou) hG hS (k := 5 + i) (q := 50) (by omega) (by omega) (by omega)) rfl (Nat.le_of_ble_eq_true rfl) (Nat.le_of_ble_eq_true rfl) (Nat.le_of_ble_eq_true rfl) (by show _ ≤ 600086; omega) (by show _ ≤ 7301442; omega) ?_ (by rintro E ad9 K9 ⟨v9, -, h9, -⟩; cases h9)
    rintro v9 ad9 K9 ⟨tv, htv, h9, rfl, rfl⟩
    cases h9
    refine az_iadd C dL_law_44 ?_
    refine az_top (nI (5 + tv)) (nI_ad9 5 (tv)) ?_
    refine az_iconst C (v := 1) dL_law_45 (by decide) ?_
    refine az_aload_n C 3 dL_law_46 rfl ?_
    refine az_bipush C (v := 10) dL_law_47 (by decide) ?_
    refine az_iload_n C 0 dL_law_49 rfl ?_
    refine az_iadd C dL_law_50 ?_
    refine az_top (nI (10 + i)) (nI_ad9 10 (i)) ?_
    refine az_bipush C (v := 100) dL_law_51 (by decide) ?_
    refine az_callS C Y_L_pick [.ref sb, .int (nI (10 + i)), .int 100] [.int 1, .int (nI (5 + tv)), .int (nI (1 + ta)), .ref (ρ.1 0)] wm_L_270 wst_L_pick dL_law_53 rfl (Xpick (ρ := ρ) (x := x) (m := m) (ou := ou) hG hS (k := 10 + i) (q := 100) (by omega) (by omega) (by omega)) rfl (Nat.le_of_ble_eq_true rfl) (Nat.le_of_ble_eq_true rfl) (Nat.le_of_ble_eq_true rfl) (by show _ ≤ 600086; omega) (by show _ ≤ 7301442; omega) ?_ (by rintro E ad9 K9 ⟨v9, -, h9, -⟩; cases h9)
    rintro v9 ad9 K9 ⟨tf, htf, h9, rfl, rfl⟩
    cases h9
    refine az_iadd C dL_law_56 ?_
    refine az_top (nI (1 + tf)) (nI_ad9 1 (tf)) ?_
    refine az_bipush C (v := 20) dL_law_57 (by decide) ?_
    refine az_aload_n C 3 dL_law_59 rfl ?_
    refine az_bipush C (v := 15) dL_law_60 (by decide) ?_
    refine az_iload_n C 0 dL_law_62 rfl ?_
    refine az_iadd C dL_law_63 ?_
    refine az_top (nI (15 + i)) (nI_ad9 15 (i)) ?_
    refine az_sipush C (v := 130) dL_law_64 (by decide) ?_
    refine az_callS C Y_L_pick [.ref sb, .int (nI (15 + i)), .int 130] [.int 20, .int (nI (1 + tf)), .int (nI (5 + tv)), .int (nI (1 + ta)), .ref (ρ.1 0)] wm_L_270 wst_L_pick dL_law_67 rfl (Xpick (ρ := ρ) (x := x) (m := m) (ou := ou) hG hS (k := 15 + i) (q := 130) (by omega) (by omega) (by omega)) rfl (Nat.le_of_ble_eq_true rfl) (Nat.le_of_ble_eq_true rfl) (Nat.le_of_ble_eq_true rfl) (by show _ ≤ 600086; omega) (by show _ ≤ 7301442; omega) ?_ (by rintro E ad9 K9 ⟨v9, -, h9, -⟩; cases h9)
    rintro v9 ad9 K9 ⟨tl, htl, h9, rfl, rfl⟩
    cases h9
    refine az_iadd C dL_law_70 ?_
    refine az_top (nI (20 + tl)) (nI_ad9 20 (tl)) ?_
    refine az_bipush C (v := 8) dL_law_71 (by decide) ?_
    refine az_aload_n C 3 dL_law_73 rfl ?_
    refine az_bipush C (v := 20) dL_law_74 (by decide) ?_
    refine az_iload_n C 0 dL_law_76 rfl ?_
    refine az_iadd C dL_law_77 ?_
    refine az_top (nI (20 + i)) (nI_ad9 20 (i)) ?_
    refine az_bipush C (v := 40) dL_law_78 (by decide) ?_
    refine az_callS C Y_L_pick [.ref sb, .int (nI (20 + i)), .int 40] [.int 8, .int (nI (20 + tl)), .int (nI (1 + tf)), .int (nI (5 + tv)), .int (nI (1 + ta)), .ref (ρ.1 0)] wm_L_270 wst_L_pick dL_law_80 rfl (Xpick (ρ := ρ) (x := x) (m := m) (ou := ou) hG hS (k := 20 + i) (q := 40) (by omega) (by omega) (by omega)) rfl (Nat.le_of_ble_eq_true rfl) (Nat.le_of_ble_eq_true rfl) (Nat.le_of_ble_eq_true rfl) (by show _ ≤ 600086; omega) (by show _ ≤ 7301442; omega) ?_ (by rintro E ad9 K9 ⟨v9, -, h9, -⟩; cases h9)
    rintro v9 ad9 K9 ⟨ts, hts, h9, rfl, rfl⟩
    cases h9
    refine az_iadd C dL_law_83 ?_
    refine az_top (nI (8 + ts)) (nI_ad9 8 (ts)) ?_
    obtain ⟨mc1, ms1, hm1, hm2, hP1⟩ := addR_ok (m := m) (ou := ou) hG (by omega) S (show i < 6 by omega) (bo_in (u := 1) (q := ta) (b := 50) (by omega) (by omega)) (bo_i2 (u := 5) (q := tv) (a := 0) (b := 60) (by omega) (by omega) (by omega)) (bo_i2 (u := 1) (q := tf) (a := 1) (b := 200) (by omega) (by omega) (by omega)) (bo_i2 (u := 20) (q := tl) (a := 10) (b := 200) (by omega) (by omega) (by omega)) (bo_i2 (u := 8) (q := ts) (a := 5) (b := 60) (by omega) (by omega) (by omega))
    refine az_callH C Y_L_addReach [.ref (ρ.1 0), .int (nI (1 + ta)), .int (nI (5 + tv)), .int (nI (1 + tf)), .int (nI (20 + tl)), .int (nI (8 + ts))] [] wm_L_274 wst_L_addReach dL_law_84 rfl (hP1) rfl (Nat.le_of_ble_eq_true rfl) (Nat.le_of_ble_eq_true rfl) (Nat.le_of_ble_eq_true rfl) (by show _ ≤ 600086; omega) (by show _ ≤ 7301442; omega) ?_ (by rintro E ad9 K9 ⟨_, _, _, h9, -⟩; cases h9)
    rintro v9 ad9 K9 ⟨ρ1, x1, v1, h9, rfl, rfl, e0, hv1, M1, n1, S1⟩
    cases h9
    rw [← e0]
    refine az_iload_n C 0 dL_law_87 rfl ?_
    refine az_icmp_eq C 93 dL_law_88 (by decide) (fun _ => ?_) (fun q => absurd hv1 q)
    refine az_iinc C 0 (v := nI (i + 1)) (lv' := [(3, .int (nI (i + 1))), (2, .int (nI qq)), (1, .ref (ρ1.1 0)), (0, .ref sb)]) dL_law_93 rfl (nI_1 i) (by decide) rfl ?_
    refine az_goto C 19 dL_law_96 (by decide) ?_
    exact az_lv [0, 1, 2, 3] rfl (ih (by omega) S1 _ _ (by omega) (by omega) (by omega))

end
