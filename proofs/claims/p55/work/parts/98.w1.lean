section
variable {l : Launch} {G : az_G} {ρ : Rp} {x x' : Xs} {m : Mz} {M M' : Ms} {ou : Nat → Int64} {n nr nb c f r dst k lk N q i : Nat} {t : List Nat} {cs : List (List Nat)}
set_option maxHeartbeats 4000000 in
set_option maxRecDepth 100000 in
theorem Lsp (hG : az_okS l G) {p : Program} {e : Env} {s : State} {mm : MethodId} {args : Array Value} {below : List Frame} {meth : Method} {c : Code} (C : az_C l G p s mm args meth c cL_sails yL_sails.cls 12 (Option.some FieldType.boolean) []) : ∀ {Pq : az_O → az_A → az_K → Prop} {c0 : Nat} (hc : c0 ≤ 64) (S : ST c0 ρ x M n nr nb cs) (hk : k < nb) (hcs : (f :: t) ∈ cs) (hin : k ∈ f :: t) (hrn : r < nr) (hat : M.1 13 k = nI r) (hd : dst < nr) (w5 w6 w7 : Int32) (mc ms : Nat) (q i k9 n9 : Nat) (a9 : Int32) (hiq : i + q = max r dst) (hk0 : k9 + q ≤ mc) (hn0 : n9 + 6 * q ≤ ms) (hx : ∀ k8 n8 : Nat, k8 ≤ k9 + q → n8 ≤ n9 + 6 * q → az_W l G 12 (az_Q G (Pq) below args s mc ms) p e (az_rm 12 mc ms) s mm args below meth c (AD ρ) (KK G ρ x m ou) k8 n8 149 [(8, .int ((spM M f t q a9 i))), (7, .int w7), (6, .int w6), (5, .int w5), (4, .int (nI r)), (3, .ref (ρ.1 100)), (2, .int (nI dst)), (1, .int (nI k)), (0, .ref (ρ.1 0))] []), az_W l G 12 (az_Q G (Pq) below args s mc ms) p e (az_rm 12 mc ms) s mm args below meth c (AD ρ) (KK G ρ x m ou) k9 n9 120 [(9, .int (nI i)), (8, .int a9), (7, .int w7), (6, .int w6), (5, .int w5), (4, .int (nI r)), (3, .ref (ρ.1 100)), (2, .int (nI dst)), (1, .int (nI k)), (0, .ref (ρ.1 0))] [] := by
  intro Pq c0 hc S hk hcs hin hrn hat hd w5 w6 w7 mc ms q
  have hn6 := S.1.n6
  induction q with
  | zero =>
    intro i k9 n9 a9 hiq hk0 hn0 hx
    obtain rfl : i = max r dst := by omega
    refine az_iload C 0 dL_sails_120 rfl ?_
    refine az_iload C 5 dL_sails_122 rfl ?_
    refine az_iload_n C 7 dL_sails_124 rfl ?_
    refine az_mmax C wm_L_243 wst_max wini_Math wc_max (Nat.le_of_ble_eq_true rfl) (Nat.le_of_ble_eq_true rfl) (by show _ ≤ mc; omega) (by show _ ≤ ms; omega) dL_sails_125 ?_
    refine az_top (nI (max r dst)) (lo_hi (r := r) (dst := dst) (by omega) (by omega)).2 ?_
    refine az_icmp_ge C 149 dL_sails_128 (by decide) (fun _ => ?_) (fun q => absurd (Int32.le_refl _) q)
    exact az_lv [1, 2, 3, 4, 5, 6, 7, 8, 9] rfl (hx k9 n9 (Nat.le_refl _) (Nat.le_refl _))
  | succ q ih =>
    intro i k9 n9 a9 hiq hk0 hn0 hx
    by_cases hL : ∀ d ∈ f :: t, M.1 14 d ≤ M.1 8 i
    · have ev : pvM M f t i = nI (ptM M i (t.length + 1) (f :: t)) := if_pos hL
      refine az_iload C 0 dL_sails_120 rfl ?_
      refine az_iload C 5 dL_sails_122 rfl ?_
      refine az_iload_n C 7 dL_sails_124 rfl ?_
      refine az_mmax C wm_L_243 wst_max wini_Math wc_max (Nat.le_of_ble_eq_true rfl) (Nat.le_of_ble_eq_true rfl) (by show _ ≤ mc; omega) (by show _ ≤ ms; omega) dL_sails_125 ?_
      refine az_top (nI (max r dst)) (lo_hi (r := r) (dst := dst) (by omega) (by omega)).2 ?_
      refine az_icmp_ge C 149 dL_sails_128 (by decide) (fun q => absurd q (nlt_nle (show i < max r dst by omega) (by omega))) (fun _ => ?_)
      refine az_iload C 1 dL_sails_131 rfl ?_
      refine az_aload_n C 9 dL_sails_133 rfl ?_
      refine az_iload_n C 8 dL_sails_134 rfl ?_
      refine az_iload C 0 dL_sails_135 rfl ?_
      refine az_callH C Y_L_partsFor [.ref (ρ.1 0), .int (nI k), .int (nI i)] [.int a9] wm_L_246 wst_L_partsFor dL_sails_137 rfl (S_parts2 (ρ := ρ) (x := x) (m := m) (ou := ou) hG hc S hk hcs hin hrn hat (lk := i) (by omega) hL) rfl (Nat.le_of_ble_eq_true rfl) (Nat.le_of_ble_eq_true rfl) (Nat.le_of_ble_eq_true rfl) (by show _ ≤ mc; omega) (by show _ ≤ ms; omega) (az_k1 rfl rfl ?_) (az_k0 rfl)
      refine az_top (pvM M f t i) ev.symm ?_
      refine az_iadd C dL_sails_140 ?_
      refine az_istore C (lv' := [(8, .int ((a9 + pvM M f t i))), (9, .int (nI i)), (7, .int w7), (6, .int w6), (5, .int w5), (4, .int (nI r)), (3, .ref (ρ.1 100)), (2, .int (nI dst)), (1, .int (nI k)), (0, .ref (ρ.1 0))]) dL_sails_141 (by decide) rfl ?_
      refine az_iinc C 1 (v := nI (i + 1)) (lv' := [(9, .int (nI (i + 1))), (8, .int ((a9 + pvM M f t i))), (7, .int w7), (6, .int w6), (5, .int w5), (4, .int (nI r)), (3, .ref (ρ.1 100)), (2, .int (nI dst)), (1, .int (nI k)), (0, .ref (ρ.1 0))]) dL_sails_143 rfl (nI_1 i) (by decide) rfl ?_
      refine az_goto C 120 dL_sails_146 (by decide) ?_
      exact az_kn (k9 + 1) (n9 + 6) (by omega) (by omega) (az_lv [0, 1, 2, 3, 4, 5, 6, 7, 8, 9] rfl (ih (i + 1) (k9 + 1) (n9 + 6) (a9 + pvM M f t i) (by omega) (by omega) (by omega) (fun k8 n8 h1 h2 => hx k8 n8 (by omega) (by omega))))
    · have ev : pvM M f t i = -1002 := if_neg hL
      refine az_iload C 0 dL_sails_120 rfl ?_
      refine az_iload C 5 dL_sails_122 rfl ?_
      refine az_iload_n C 7 dL_sails_124 rfl ?_
      refine az_mmax C wm_L_243 wst_max wini_Math wc_max (Nat.le_of_ble_eq_true rfl) (Nat.le_of_ble_eq_true rfl) (by show _ ≤ mc; omega) (by show _ ≤ ms; omega) dL_sails_125 ?_
      refine az_top (nI (max r dst)) (lo_hi (r := r) (dst := dst) (by omega) (by omega)).2 ?_
      refine az_icmp_ge C 149 dL_sails_128 (by decide) (fun q => absurd q (nlt_nle (show i < max r dst by omega) (by omega))) (fun _ => ?_)
      refine az_iload C 1 dL_sails_131 rfl ?_
      refine az_aload_n C 9 dL_sails_133 rfl ?_
      refine az_iload_n C 8 dL_sails_134 rfl ?_
      refine az_iload C 0 dL_sails_135 rfl ?_
      refine az_callH C Y_L_partsFor [.ref (ρ.1 0), .int (nI k), .int (nI i)] [.int a9] wm_L_246 wst_L_partsFor dL_sails_137 rfl (S_parts1 (ρ := ρ) (x := x) (m := m) (ou := ou) hG hc S hk hcs hin hrn hat (lk := i) (by omega) hL) rfl (Nat.le_of_ble_eq_true rfl) (Nat.le_of_ble_eq_true rfl) (Nat.le_of_ble_eq_true rfl) (by show _ ≤ mc; omega) (by show _ ≤ ms; omega) (az_k1 rfl rfl ?_) (az_k0 rfl)
      refine az_top (pvM M f t i) ev.symm ?_
      refine az_iadd C dL_sails_140 ?_
      refine az_istore C (lv' := [(8, .int ((a9 + pvM M f t i))), (9, .int (nI i)), (7, .int w7), (6, .int w6), (5, .int w5), (4, .int (nI r)), (3, .ref (ρ.1 100)), (2, .int (nI dst)), (1, .int (nI k)), (0, .ref (ρ.1 0))]) dL_sails_141 (by decide) rfl ?_
      refine az_iinc C 1 (v := nI (i + 1)) (lv' := [(9, .int (nI (i + 1))), (8, .int ((a9 + pvM M f t i))), (7, .int w7), (6, .int w6), (5, .int w5), (4, .int (nI r)), (3, .ref (ρ.1 100)), (2, .int (nI dst)), (1, .int (nI k)), (0, .ref (ρ.1 0))]) dL_sails_143 rfl (nI_1 i) (by decide) rfl ?_
      refine az_goto C 120 dL_sails_146 (by decide) ?_
      exact az_kn (k9 + 1) (n9 + 6) (by omega) (by omega) (az_lv [0, 1, 2, 3, 4, 5, 6, 7, 8, 9] rfl (ih (i + 1) (k9 + 1) (n9 + 6) (a9 + pvM M f t i) (by omega) (by omega) (by omega) (fun k8 n8 h1 h2 => hx k8 n8 (by omega) (by omega))))

def LwtFth (M : Ms) (m : Mz) (th : Int32) (k : Nat) : Int32 := (th - (M.1 10 k))
def LwtF (M : Ms) : Nat → Mz → Int32 → Nat → Int32
  | 0, m, th, _ => th
  | n + 1, m, th, k => LwtF M n m (LwtFth M m th k) (k + 1)
set_option maxHeartbeats 4000000 in
set_option maxRecDepth 100000 in
theorem Lwt (hG : az_okS l G) {p : Program} {e : Env} {s : State} {mm : MethodId} {args : Array Value} {below : List Frame} {meth : Method} {c : Code} (C : az_C l G p s mm args meth c cL_sails yL_sails.cls 12 (Option.some FieldType.boolean) []) {Qx : State → Prop} {k9 n9 mc ms : Nat} (hk9 : k9 ≤ mc) (hn9 : n9 ≤ ms) {c0 nn : Nat} (h6 : nr ≤ 6) (hc : c0 ≤ 64) (S : ST c0 ρ x M nn nr nb cs) {w4 w5 w6 w7 w8 w1 w2 : Int32} : ∀ (n : Nat) (m : Mz) (th : Int32) (k : Nat) (hk : k + n = (nr - 1)), az_W l G 12 Qx p e (az_rm 12 mc ms) s mm args below meth c (AD ρ) (KK G ρ x m ou) k9 n9 183 [(10, .int (nI ((nr - 1)))), (9, .int ((LwtF M n m th k))), (8, .int w8), (7, .int w7), (6, .int w6), (5, .int w5), (4, .int w4), (3, .ref (ρ.1 100)), (2, .int w2), (1, .int w1), (0, .ref (ρ.1 0))] [] → az_W l G 12 Qx p e (az_rm 12 mc ms) s mm args below meth c (AD ρ) (KK G ρ x m ou) k9 n9 155 [(10, .int (nI k)), (9, .int th), (8, .int w8), (7, .int w7), (6, .int w6), (5, .int w5), (4, .int w4), (3, .ref (ρ.1 100)), (2, .int w2), (1, .int w1), (0, .ref (ρ.1 0))] [] := by
  intro n
  induction n with
  | zero =>
    intro m th k hk hx
    have hkk : k = (nr - 1) := by omega
    rw [hkk]
    refine az_iload C 0 dL_sails_155 rfl ?_
    refine az_aload_n C 10 dL_sails_157 rfl ?_
    refine az_callV C Y_X3_reachCount cX3 0 0 [] [.int (nI ((nr - 1)))] wm_L_157 wi_X3_reachCount wse_X3_reachCount dL_sails_158 rfl rfl rfl (XreachCount hG) rfl (Nat.le_of_ble_eq_true rfl) (Nat.le_of_ble_eq_true rfl) (Nat.le_of_ble_eq_true rfl) hk9 hn9 (az_k1 rfl rfl ?_) (az_k0 rfl)
    refine az_top (nI nr) S.1.xr ?_
    refine az_iconst C (v := 1) dL_sails_161 (by decide) ?_
    refine az_isub C dL_sails_162 ?_
    refine az_top (nI (nr - 1)) (show nI nr - 1 = nI (nr - 1) from pk_sub (b := 1) (by have := S.1.n1; omega)) ?_
    refine az_icmp_ge C 183 dL_sails_163 (by decide) (fun _ => ?_) (fun q => absurd (Int32.le_refl _) q)
    exact az_lv [0, 1, 2, 3, 4, 5, 6, 7, 8, 9, 10] rfl hx
  | succ n ih =>
    intro m th k hk hx
    refine az_iload C 0 dL_sails_155 rfl ?_
    refine az_aload_n C 10 dL_sails_157 rfl ?_
    refine az_callV C Y_X3_reachCount cX3 0 0 [] [.int (nI k)] wm_L_157 wi_X3_reachCount wse_X3_reachCount dL_sails_158 rfl rfl rfl (XreachCount hG) rfl (Nat.le_of_ble_eq_true rfl) (Nat.le_of_ble_eq_true rfl) (Nat.le_of_ble_eq_true rfl) hk9 hn9 (az_k1 rfl rfl ?_) (az_k0 rfl)
    refine az_top (nI nr) S.1.xr ?_
    refine az_iconst C (v := 1) dL_sails_161 (by decide) ?_
    refine az_isub C dL_sails_162 ?_
    refine az_top (nI (nr - 1)) (show nI nr - 1 = nI (nr - 1) from pk_sub (b := 1) (by have := S.1.n1; omega)) ?_
    refine az_icmp_ge C 183 dL_sails_163 (by decide) (fun q => absurd q (nlt_nle (show k < (nr - 1) by omega) (by omega))) (fun _ => ?_)
    refine az_iload C 1 dL_sails_166 rfl ?_
    refine az_aload_n C 10 dL_sails_168 rfl ?_
    refine az_iload C 0 dL_sails_169 rfl ?_
    refine az_callH C Y_L_waterThrough [.ref (ρ.1 0), .int (nI k)] [.int th] wm_L_165 wst_L_waterThrough dL_sails_171 rfl (S_waterThrough (ρ := ρ) (x := x) (m := m) (ou := ou) hG hc S (by omega)) rfl (Nat.le_of_ble_eq_true rfl) (Nat.le_of_ble_eq_true rfl) (Nat.le_of_ble_eq_true rfl) hk9 hn9 (az_k1 rfl rfl ?_) (az_k0 rfl)
    refine az_isub C dL_sails_174 ?_
    refine az_istore C (lv' := [(9, .int ((th - (M.1 10 k)))), (10, .int (nI k)), (8, .int w8), (7, .int w7), (6, .int w6), (5, .int w5), (4, .int w4), (3, .ref (ρ.1 100)), (2, .int w2), (1, .int w1), (0, .ref (ρ.1 0))]) dL_sails_175 (by decide) rfl ?_
    refine az_iinc C 1 (v := nI (k + 1)) (lv' := [(10, .int (nI (k + 1))), (9, .int ((th - (M.1 10 k)))), (8, .int w8), (7, .int w7), (6, .int w6), (5, .int w5), (4, .int w4), (3, .ref (ρ.1 100)), (2, .int w2), (1, .int w1), (0, .ref (ρ.1 0))]) dL_sails_177 rfl (nI_1 k) (by decide) rfl ?_
    refine az_goto C 155 dL_sails_180 (by decide) ?_
    exact az_lv [0, 1, 2, 3, 4, 5, 6, 7, 8, 9, 10] rfl (ih m (LwtFth M m th k) (k + 1) (by omega) hx)

def LwuFth (M : Ms) (m : Mz) (th : Int32) (k : Nat) : Int32 := (th + (M.1 10 k))
def LwuF (M : Ms) : Nat → Mz → Int32 → Nat → Int32
  | 0, m, th, _ => th
  | n + 1, m, th, k => LwuF M n m (LwuFth M m th k) (k + 1)
set_option maxHeartbeats 4000000 in
set_option maxRecDepth 100000 in
theorem Lwu (hG : az_okS l G) {p : Program} {e : Env} {s : State} {mm : MethodId} {args : Array Value} {below : List Frame} {meth : Method} {c : Code} (C : az_C l G p s mm args meth c cL_sails yL_sails.cls 12 (Option.some FieldType.boolean) []) {Qx : State → Prop} {k9 n9 mc ms : Nat} (hk9 : k9 ≤ mc) (hn9 : n9 ≤ ms) {c0 nn : Nat} (h6 : nr ≤ 6) (hc : c0 ≤ 64) (S : ST c0 ρ x M nn nr nb cs) {w4 w5 w6 w7 w8 w1 w2 : Int32} {w10 : Int32} : ∀ (n : Nat) (m : Mz) (th : Int32) (k : Nat) (hk : k + n = (nr - 1)), az_W l G 12 Qx p e (az_rm 12 mc ms) s mm args below meth c (AD ρ) (KK G ρ x m ou) k9 n9 324 [(11, .int (nI ((nr - 1)))), (9, .int ((LwuF M n m th k))), (10, .int w10), (8, .int w8), (7, .int w7), (6, .int w6), (5, .int w5), (4, .int w4), (3, .ref (ρ.1 100)), (2, .int w2), (1, .int w1), (0, .ref (ρ.1 0))] [] → az_W l G 12 Qx p e (az_rm 12 mc ms) s mm args below meth c (AD ρ) (KK G ρ x m ou) k9 n9 296 [(11, .int (nI k)), (9, .int th), (10, .int w10), (8, .int w8), (7, .int w7), (6, .int w6), (5, .int w5), (4, .int w4), (3, .ref (ρ.1 100)), (2, .int w2), (1, .int w1), (0, .ref (ρ.1 0))] [] := by
  intro n
  induction n with
  | zero =>
    intro m th k hk hx
    have hkk : k = (nr - 1) := by omega
    rw [hkk]
    refine az_iload C 0 dL_sails_296 rfl ?_
    refine az_aload_n C 11 dL_sails_298 rfl ?_
    refine az_callV C Y_X3_reachCount cX3 0 0 [] [.int (nI ((nr - 1)))] wm_L_157 wi_X3_reachCount wse_X3_reachCount dL_sails_299 rfl rfl rfl (XreachCount hG) rfl (Nat.le_of_ble_eq_true rfl) (Nat.le_of_ble_eq_true rfl) (Nat.le_of_ble_eq_true rfl) hk9 hn9 (az_k1 rfl rfl ?_) (az_k0 rfl)
    refine az_top (nI nr) S.1.xr ?_
    refine az_iconst C (v := 1) dL_sails_302 (by decide) ?_
    refine az_isub C dL_sails_303 ?_
    refine az_top (nI (nr - 1)) (show nI nr - 1 = nI (nr - 1) from pk_sub (b := 1) (by have := S.1.n1; omega)) ?_
    refine az_icmp_ge C 324 dL_sails_304 (by decide) (fun _ => ?_) (fun q => absurd (Int32.le_refl _) q)
    exact az_lv [0, 1, 2, 3, 4, 5, 6, 7, 8, 9, 10, 11] rfl hx
  | succ n ih =>
    intro m th k hk hx
    refine az_iload C 0 dL_sails_296 rfl ?_
    refine az_aload_n C 11 dL_sails_298 rfl ?_
    refine az_callV C Y_X3_reachCount cX3 0 0 [] [.int (nI k)] wm_L_157 wi_X3_reachCount wse_X3_reachCount dL_sails_299 rfl rfl rfl (XreachCount hG) rfl (Nat.le_of_ble_eq_true rfl) (Nat.le_of_ble_eq_true rfl) (Nat.le_of_ble_eq_true rfl) hk9 hn9 (az_k1 rfl rfl ?_) (az_k0 rfl)
    refine az_top (nI nr) S.1.xr ?_
    refine az_iconst C (v := 1) dL_sails_302 (by decide) ?_
    refine az_isub C dL_sails_303 ?_
    refine az_top (nI (nr - 1)) (show nI nr - 1 = nI (nr - 1) from pk_sub (b := 1) (by have := S.1.n1; omega)) ?_
    refine az_icmp_ge C 324 dL_sails_304 (by decide) (fun q => absurd q (nlt_nle (show k < (nr - 1) by omega) (by omega))) (fun _ => ?_)
    refine az_iload C 1 dL_sails_307 rfl ?_
    refine az_aload_n C 11 dL_sails_309 rfl ?_
    refine az_iload C 0 dL_sails_310 rfl ?_
    refine az_callH C Y_L_waterThrough [.ref (ρ.1 0), .int (nI k)] [.int th] wm_L_165 wst_L_waterThrough dL_sails_312 rfl (S_waterThrough (ρ := ρ) (x := x) (m := m) (ou := ou) hG hc S (by omega)) rfl (Nat.le_of_ble_eq_true rfl) (Nat.le_of_ble_eq_true rfl) (Nat.le_of_ble_eq_true rfl) hk9 hn9 (az_k1 rfl rfl ?_) (az_k0 rfl)
    refine az_iadd C dL_sails_315 ?_
    refine az_istore C (lv' := [(9, .int ((th + (M.1 10 k)))), (11, .int (nI k)), (10, .int w10), (8, .int w8), (7, .int w7), (6, .int w6), (5, .int w5), (4, .int w4), (3, .ref (ρ.1 100)), (2, .int w2), (1, .int w1), (0, .ref (ρ.1 0))]) dL_sails_316 (by decide) rfl ?_
    refine az_iinc C 1 (v := nI (k + 1)) (lv' := [(11, .int (nI (k + 1))), (9, .int ((th + (M.1 10 k)))), (10, .int w10), (8, .int w8), (7, .int w7), (6, .int w6), (5, .int w5), (4, .int w4), (3, .ref (ρ.1 100)), (2, .int w2), (1, .int w1), (0, .ref (ρ.1 0))]) dL_sails_318 rfl (nI_1 k) (by decide) rfl ?_
    refine az_goto C 296 dL_sails_321 (by decide) ?_
    exact az_lv [0, 1, 2, 3, 4, 5, 6, 7, 8, 9, 10, 11] rfl (ih m (LwuFth M m th k) (k + 1) (by omega) hx)

set_option maxHeartbeats 4000000 in
set_option maxRecDepth 100000 in
theorem Lcv (hG : az_okS l G) {p : Program} {e : Env} {s : State} {mm : MethodId} {args : Array Value} {below : List Frame} {meth : Method} {c : Code} (C : az_C l G p s mm args meth c cL_sails yL_sails.cls 12 (Option.some FieldType.boolean) []) : ∀ {Pq : az_O → az_A → az_K → Prop} {c0 : Nat} (hc : c0 ≤ 64) (S : ST c0 ρ x M n nr nb cs) (hk : k < nb) (hcs : (f :: t) ∈ cs) (hin : k ∈ f :: t) (hrn : r < nr) (hat : M.1 13 k = nI r) (w4 w5 w6 w7 w8 w9 w10 : Int32) (mc ms k9 n9 : Nat) (hk9 : k9 ≤ mc) (hn9 : n9 ≤ ms) (q i : Nat) (hiq : i + q = t.length + 1) (hx : az_W l G 12 (az_Q G (Pq) below args s mc ms) p e (az_rm 12 mc ms) s mm args below meth c (AD ρ) (KK G ρ x m ou) k9 n9 360 [(10, .int w10), (9, .int w9), (8, .int w8), (7, .int w7), (6, .int w6), (5, .int w5), (4, .int w4), (3, .ref (ρ.1 100)), (2, .int (nI r)), (1, .int (nI k)), (0, .ref (ρ.1 0))] []), az_W l G 12 (az_Q G (Pq) below args s mc ms) p e (az_rm 12 mc ms) s mm args below meth c (AD ρ) (KK G ρ x m ou) k9 n9 327 [(11, .int (nI i)), (10, .int w10), (9, .int w9), (8, .int w8), (7, .int w7), (6, .int w6), (5, .int w5), (4, .int w4), (3, .ref (ρ.1 100)), (2, .int (nI r)), (1, .int (nI k)), (0, .ref (ρ.1 0))] [] := by
  intro Pq c0 hc S hk hcs hin hrn hat w4 w5 w6 w7 w8 w9 w10 mc ms k9 n9 hk9 hn9 q
  obtain ⟨rl, aC, aP, ef, ek, h4, hnd, hq, hat2, hs⟩ := S.1.voyF hk hcs hin hrn hat
  induction q with
  | zero =>
    intro i hiq hx
    have ei : i = t.length + 1 := by omega
    refine az_iload C 0 dL_sails_327 rfl ?_
    refine az_aload_n C 11 dL_sails_329 rfl ?_
    refine az_iload_n C 10 dL_sails_330 rfl ?_
    refine az_callH C Y_L_convoySize [.ref (ρ.1 0), .int (nI k)] [.int (nI i)] wm_L_209 wst_L_convoySize dL_sails_331 rfl (S_convoySize (ρ := ρ) (x := x) (m := m) (ou := ou) hG hc S hk hcs hin hrn hat) rfl (Nat.le_of_ble_eq_true rfl) (Nat.le_of_ble_eq_true rfl) (Nat.le_of_ble_eq_true rfl) hk9 hn9 (az_k1 rfl rfl ?_) (az_k0 rfl)
    refine az_icmp_ge C 360 dL_sails_334 (by decide) (fun _ => ?_) (fun q => absurd (by rw [ei]; exact Int32.le_refl _) q)
    exact az_lv [1, 2, 3, 4, 5, 6, 7, 8, 9, 10, 11] rfl hx
  | succ q ih =>
    intro i hiq hx
    obtain ⟨d9, hi⟩ : ∃ d9, (f :: t)[i]? = some d9 := ⟨_, List.getElem?_eq_getElem (by rw [List.length_cons]; omega)⟩
    have hdm : d9 ∈ f :: t := List.mem_of_getElem? hi
    refine az_iload C 0 dL_sails_327 rfl ?_
    refine az_aload_n C 11 dL_sails_329 rfl ?_
    refine az_iload_n C 10 dL_sails_330 rfl ?_
    refine az_callH C Y_L_convoySize [.ref (ρ.1 0), .int (nI k)] [.int (nI i)] wm_L_209 wst_L_convoySize dL_sails_331 rfl (S_convoySize (ρ := ρ) (x := x) (m := m) (ou := ou) hG hc S hk hcs hin hrn hat) rfl (Nat.le_of_ble_eq_true rfl) (Nat.le_of_ble_eq_true rfl) (Nat.le_of_ble_eq_true rfl) hk9 hn9 (az_k1 rfl rfl ?_) (az_k0 rfl)
    refine az_icmp_ge C 360 dL_sails_334 (by decide) (fun q => absurd q (nlt_nle (show i < t.length + 1 by omega) (by omega))) (fun _ => ?_)
    refine az_aload_n C 11 dL_sails_337 rfl ?_
    refine az_aload_n C 11 dL_sails_338 rfl ?_
    refine az_iload_n C 10 dL_sails_339 rfl ?_
    refine az_iload C 0 dL_sails_340 rfl ?_
    refine az_callH C Y_L_convoyAt [.ref (ρ.1 0), .int (nI k), .int (nI i)] [.ref (ρ.1 0)] wm_L_211 wst_L_convoyAt dL_sails_342 rfl (S_convoyAt (ρ := ρ) (x := x) (m := m) (ou := ou) hG hc S hk hcs hin hrn hat hi) rfl (Nat.le_of_ble_eq_true rfl) (Nat.le_of_ble_eq_true rfl) (Nat.le_of_ble_eq_true rfl) hk9 hn9 (az_k1 rfl rfl ?_) (az_k0 rfl)
    refine az_callH C Y_L_reachOf [.ref (ρ.1 0), .int ((nI d9))] [] wm_L_170 wst_L_reachOf dL_sails_345 rfl (S_reachOf (ρ := ρ) (x := x) (m := m) (ou := ou) hG hc S (hq d9 hdm) (hat2 d9 hdm)) rfl (Nat.le_of_ble_eq_true rfl) (Nat.le_of_ble_eq_true rfl) (Nat.le_of_ble_eq_true rfl) hk9 hn9 (az_k1 rfl rfl ?_) (az_k0 rfl)
    refine az_iload_n C 9 dL_sails_348 rfl ?_
    refine az_icmp_eq C 354 dL_sails_349 (by decide) (fun _ => ?_) (fun q => absurd rfl q)
    refine az_iinc C 0 (v := nI (i + 1)) (lv' := [(11, .int (nI (i + 1))), (10, .int w10), (9, .int w9), (8, .int w8), (7, .int w7), (6, .int w6), (5, .int w5), (4, .int w4), (3, .ref (ρ.1 100)), (2, .int (nI r)), (1, .int (nI k)), (0, .ref (ρ.1 0))]) dL_sails_354 rfl (nI_1 i) (by decide) rfl ?_
    refine az_goto C 327 dL_sails_357 (by decide) ?_
    exact az_lv [0, 1, 2, 3, 4, 5, 6, 7, 8, 9, 10, 11] rfl (ih (i + 1) (by omega) hx)

theorem S_same2 (hG : az_okS l G) {A : Nat → Int32} : az_M l G yL_same (az_ws yL_same cL_same 4 (Option.some FieldType.boolean)) 1 [.ref (ρ.1 100), .ref (ρ.1 101)] (AD ρ) (KK G ρ x (zP (zP (zP m 0 A) 1 A) 1 A) ou) 0 0 (az_r (some (.int 1)) (AD ρ) (KK G ρ x (zP (zP (zP m 0 A) 1 A) 1 A) ou)) := Xsame hG rfl rfl (fun _ _ => rfl)
theorem wt_eq {u v : Int32} : 0 - u + v = v - u := by grind
theorem thr_sum {th : Int32} (h1 : 1 ≤ nr) (h6 : nr ≤ 6) (hz : ∀ k, k < 5 → nr ≤ k + 1 → M.1 10 k = 0) : LwtF M (nr - 1) m th 0 = th - allM M ∧ LwuF M (nr - 1) m th 0 = th + allM M := by
  have z : nr = 1 ∨ nr = 2 ∨ nr = 3 ∨ nr = 4 ∨ nr = 5 ∨ nr = 6 := by omega
  unfold allM
  rcases z with e | e | e | e | e | e <;> subst e
  · rw [hz 0 (by decide) (by decide), hz 1 (by decide) (by decide), hz 2 (by decide) (by decide), hz 3 (by decide) (by decide), hz 4 (by decide) (by decide)]
    clear hz
    exact ⟨show th = _ by grind, show th = _ by grind⟩
  · rw [hz 1 (by decide) (by decide), hz 2 (by decide) (by decide), hz 3 (by decide) (by decide), hz 4 (by decide) (by decide)]
    clear hz
    exact ⟨show th - M.1 10 0 = _ by grind, show th + M.1 10 0 = _ by grind⟩
  · rw [hz 2 (by decide) (by decide), hz 3 (by decide) (by decide), hz 4 (by decide) (by decide)]
    clear hz
    exact ⟨show th - M.1 10 0 - M.1 10 1 = _ by grind, show th + M.1 10 0 + M.1 10 1 = _ by grind⟩
  · rw [hz 3 (by decide) (by decide), hz 4 (by decide) (by decide)]
    clear hz
    exact ⟨show th - M.1 10 0 - M.1 10 1 - M.1 10 2 = _ by grind, show th + M.1 10 0 + M.1 10 1 + M.1 10 2 = _ by grind⟩
  · rw [hz 4 (by decide) (by decide)]
    clear hz
    exact ⟨show th - M.1 10 0 - M.1 10 1 - M.1 10 2 - M.1 10 3 = _ by grind, show th + M.1 10 0 + M.1 10 1 + M.1 10 2 + M.1 10 3 = _ by grind⟩
  · exact ⟨show th - M.1 10 0 - M.1 10 1 - M.1 10 2 - M.1 10 3 - M.1 10 4 = _ by grind, show th + M.1 10 0 + M.1 10 1 + M.1 10 2 + M.1 10 3 + M.1 10 4 = _ by grind⟩
theorem ST.z10 (S : ST c ρ x M n nr nb cs) : ∀ k, k < 5 → nr ≤ k + 1 → M.1 10 k = 0 := fun k hk h => ((S.1.1.1.1.2.2.2.2.2.2.2.2 k hk).2.2.2.2.2.2 h).2
theorem poss_e (hG : az_okS l G) (hc : c ≤ 64) (S : ST c ρ x M n nr nb cs) (hk : k < nb) (hcs : (f :: t) ∈ cs) (hin : k ∈ f :: t) (hr : r < nr) (hat : M.1 13 k = nI r) (hd : dst < nr) : ∃ (x9 : Xs) (mc ms : Nat), ρ.2.2.2.1 + mc ≤ 16385 ∧ 6 * ρ.2.2.2.1 + ms ≤ 98310 ∧ az_M l G yL_isPossible (az_wsH yL_isPossible cL_isPossible 4 (some FieldType.int) [(0, 14, 15, 28)]) 10 [.ref (ρ.1 0), .int (nI k), .int (nI dst)] (AD ρ) (KK G ρ x m ou) mc ms (QW G ρ m ou c x9 M n nr nb cs (canR M nr f t r dst).2 mc ms) := ⟨_, poss_ok hG hc S hk hcs hin hr hat hd⟩
theorem watf_e (hG : az_okS l G) (hc : c ≤ 64) (S : ST c ρ x M n nr nb cs) (hk : k < nb) (hcs : (f :: t) ∈ cs) (hin : k ∈ f :: t) (hr : r < nr) (hat : M.1 13 k = nI r) (hd : dst < nr) : ∃ (x9 : Xs) (mc ms : Nat), ρ.2.2.2.1 + mc ≤ 16385 ∧ 6 * ρ.2.2.2.1 + ms ≤ 98310 ∧ az_M l G yL_waterFor (az_wsH yL_waterFor cL_waterFor 4 (some FieldType.int) [(0, 6, 7, 28), (0, 6, 12, 55)]) 10 [.ref (ρ.1 0), .int (nI k), .int (nI dst)] (AD ρ) (KK G ρ x m ou) mc ms (QW G ρ m ou c x9 M n nr nb cs (if (canR M nr f t r dst).2 = 0 then -1002 else watM M nr f t r dst) mc ms) := ⟨_, watf_ok hG hc S hk hcs hin hr hat hd⟩
set_option maxHeartbeats 4000000 in
set_option maxRecDepth 100000 in
theorem XsaE (hG : az_okS l G) (hc : c ≤ 62) (S : ST c ρ x M n nr nb cs) (hk : k < nb) (hcs : (f :: t) ∈ cs) (hin : k ∈ f :: t) (hrn : r < nr) (hat : M.1 13 k = nI r) : az_M l G yL_sails (az_ws yL_sails cL_sails 12 (Option.some FieldType.boolean)) 12 [.ref (ρ.1 0), .int (nI k), .int (nI r)] (AD ρ) (KK G ρ x m ou) 16500 99500 (OkW G ρ ou c nr nb) := by
  refine az_start hG.1 (by decide +kernel) (Nat.le_of_ble_eq_true rfl) ?_
  intro p e s mm args below meth c C hnm
  show az_W l G 12 _ p e _ s mm args below meth c _ _ 0 0 0 [(0, .ref (ρ.1 0)), (1, .int (nI k)), (2, .int (nI r))] []
  have h := S.1
  have hn6 := h.n6
  have hn1 := h.n1
  have hr := h.xr
  obtain ⟨rl, aC, aP, ef, ek, h4, hnd, hq, hat2, hs⟩ := h.voyF hk hcs hin hrn hat
  have hz : ¬ (canR M nr f t r r).2 = 0 := by rw [canR_rr]; exact one_ne
  have hz1 : (canR M nr f t r r).2 = 1 := canR_rr
  refine az_aload_n C 0 dL_sails_0 rfl ?_
  refine az_callS C Y_L_state [.ref (ρ.1 0)] [] wm_L_222 wst_L_state dL_sails_1 rfl (S_state0 (ρ := ρ) (m := m) (ou := ou) hG (by omega) S) rfl (Nat.le_of_ble_eq_true rfl) (Nat.le_of_ble_eq_true rfl) (Nat.le_of_ble_eq_true rfl) (by show _ ≤ 16500; omega) (by show _ ≤ 99500; omega) ?_ (by rintro E ad9 K9 ⟨q9, h9, -⟩; cases h9)
  rintro v9 ad9 K9 ⟨q08, h9, rfl, rfl⟩
  cases h9
  refine az_astore_n C (lv' := [(3, .ref ((rN ρ 0 q08).1 100)), (0, .ref (ρ.1 0)), (1, .int (nI k)), (2, .int (nI r))]) (j := 3) rfl dL_sails_4 (by decide) rfl ?_
  refine az_aload_n C 1 dL_sails_5 rfl ?_
  refine az_iload_n C 2 dL_sails_6 rfl ?_
  refine az_callH C Y_L_reachOf [.ref (ρ.1 0), .int (nI k)] [] wm_L_170 wst_L_reachOf dL_sails_7 rfl (S_reachOf (ρ := (rN ρ 0 q08)) (x := x) (m := (zP m 0 (stM M nr nb n))) (ou := ou) hG (by omega) S.rN hk hat) rfl (Nat.le_of_ble_eq_true rfl) (Nat.le_of_ble_eq_true rfl) (Nat.le_of_ble_eq_true rfl) (by show _ ≤ 16500; omega) (by show _ ≤ 99500; omega) (az_k1 rfl rfl ?_) (az_k0 rfl)
  refine az_istore C (lv' := [(4, .int ((nI r))), (3, .ref ((rN ρ 0 q08).1 100)), (0, .ref (ρ.1 0)), (1, .int (nI k)), (2, .int (nI r))]) dL_sails_10 (by decide) rfl ?_
  refine az_aload_n C 2 dL_sails_12 rfl ?_
  refine az_iload_n C 3 dL_sails_13 rfl ?_
  refine az_iload_n C 4 dL_sails_14 rfl ?_
  obtain ⟨x1, mc1, ms1, b11, b12, hP1⟩  := watf_e (ρ := (rN ρ 0 q08)) (m := (zP m 0 (stM M nr nb n))) (ou := ou) hG (by omega) S.rN hk hcs hin hrn hat hrn
  replace b11 : ρ.2.2.2.1 + mc1 ≤ 16385 := b11
  replace b12 : 6 * ρ.2.2.2.1 + ms1 ≤ 98310 := b12
  refine az_callH C Y_L_waterFor [.ref (ρ.1 0), .int (nI k), .int (nI r)] [] wm_L_226 wst_L_waterFor dL_sails_15 rfl (hP1) rfl (Nat.le_of_ble_eq_true rfl) (Nat.le_of_ble_eq_true rfl) (Nat.le_of_ble_eq_true rfl) (by show _ ≤ 16500; omega) (by show _ ≤ 99500; omega) ?_ (by rintro E ad9 K9 ⟨a9, C9, h9, -⟩; cases h9)
  rintro v9 ad9 K9 ⟨a19, C19, h9, rfl, rfl, g11, g12, g13, S19⟩
  cases h9
  replace g11 : ρ.2.2.2.1 + mc1 ≤ C19 + 1 := g11
  replace g12 : 6 * ρ.2.2.2.1 + ms1 ≤ 6 * C19 + 6 := g12
  refine az_kn (C19 + 20) (6 * C19 + 200) (by omega) (by omega) ?_
  clear b11 b12 g11 g12
  refine az_top (0) ((if_neg hz).trans wat_rr) ?_
  refine az_istore C (lv' := [(5, .int 0), (4, .int ((nI r))), (3, .ref ((rN ρ 0 q08).1 100)), (0, .ref (ρ.1 0)), (1, .int (nI k)), (2, .int (nI r))]) dL_sails_18 (by decide) rfl ?_
  refine az_aload_n C 3 dL_sails_20 rfl ?_
  refine az_iload_n C 4 dL_sails_21 rfl ?_
  refine az_iload_n C 5 dL_sails_22 rfl ?_
  obtain ⟨x2, mc2, ms2, b21, b22, hP2⟩  := poss_e (ρ := (gR (rN ρ 0 q08) a19 C19)) (m := (zP m 0 (stM M nr nb n))) (ou := ou) hG (by omega) S19 hk hcs hin hrn hat hrn
  replace b21 : C19 + mc2 ≤ 16385 := b21
  replace b22 : 6 * C19 + ms2 ≤ 98310 := b22
  refine az_callH C Y_L_isPossible [.ref (ρ.1 0), .int (nI k), .int (nI r)] [] wm_L_228 wst_L_isPossible dL_sails_23 rfl (hP2) rfl (Nat.le_of_ble_eq_true rfl) (Nat.le_of_ble_eq_true rfl) (Nat.le_of_ble_eq_true rfl) (by show _ ≤ 16500; omega) (by show _ ≤ 99500; omega) ?_ (by rintro E ad9 K9 ⟨a9, C9, h9, -⟩; cases h9)
  rintro v9 ad9 K9 ⟨a29, C29, h9, rfl, rfl, g21, g22, g23, S29⟩
  cases h9
  replace g21 : C19 + mc2 ≤ C29 + 1 := g21
  replace g22 : 6 * C19 + ms2 ≤ 6 * C29 + 6 := g22
  refine az_kn (C29 + 40) (6 * C29 + 400) (by omega) (by omega) ?_
  clear b21 b22 g21 g22 g13
  refine az_top (1) hz1 ?_
  refine az_iconst C (v := 1) dL_sails_26 (by decide) ?_
  refine az_icmp_ne C 34 dL_sails_27 (by decide) (fun q => absurd (by decide) q) (fun _ => ?_)
  refine az_iconst C (v := 1) dL_sails_30 (by decide) ?_
  refine az_goto C 35 dL_sails_31 (by decide) ?_
  refine az_istore C (lv' := [(6, .int 1), (5, .int 0), (4, .int ((nI r))), (3, .ref ((rN ρ 0 q08).1 100)), (0, .ref (ρ.1 0)), (1, .int (nI k)), (2, .int (nI r))]) dL_sails_35 (by decide) rfl ?_
  refine az_aload_n C 4 dL_sails_37 rfl ?_
  refine az_iload_n C 5 dL_sails_38 rfl ?_
  obtain ⟨J9, x3, mc3, ms3, h31, h32, h33, b31, b32, hP3⟩ := bestR_ok (ρ := (gR (gR (rN ρ 0 q08) a19 C19) a29 C29)) (m := (zP m 0 (stM M nr nb n))) (ou := ou) hG (by omega) S29 hk hcs hin hrn hat
  replace b31 : C29 + mc3 ≤ 16385 := b31
  replace b32 : 6 * C29 + ms3 ≤ 98310 := b32
  refine az_callH C Y_L_bestReach [.ref (ρ.1 0), .int (nI k)] [] wm_L_230 wst_L_bestReach dL_sails_39 rfl (hP3) rfl (Nat.le_of_ble_eq_true rfl) (Nat.le_of_ble_eq_true rfl) (Nat.le_of_ble_eq_true rfl) (by show _ ≤ 16500; omega) (by show _ ≤ 99500; omega) ?_ (by rintro E ad9 K9 ⟨a9, C9, h9, -⟩; cases h9)
  rintro v9 ad9 K9 ⟨a39, C39, h9, rfl, rfl, g31, g32, g33, S39⟩
  cases h9
  replace g31 : C29 + mc3 ≤ C39 + 1 := g31
  replace g32 : 6 * C29 + ms3 ≤ 6 * C39 + 6 := g32
  refine az_kn (C39 + 60) (6 * C39 + 600) (by omega) (by omega) ?_
  clear b31 b32 g31 g32 g23
  refine az_istore C (lv' := [(7, .int ((nI J9))), (6, .int 1), (5, .int 0), (4, .int ((nI r))), (3, .ref ((rN ρ 0 q08).1 100)), (0, .ref (ρ.1 0)), (1, .int (nI k)), (2, .int (nI r))]) dL_sails_42 (by decide) rfl ?_
  refine az_aload_n C 4 dL_sails_44 rfl ?_
  refine az_aload_n C 5 dL_sails_45 rfl ?_
  refine az_callS C Y_L_state [.ref (ρ.1 0)] [.ref ((rN ρ 0 q08).1 100)] wm_L_222 wst_L_state dL_sails_46 rfl (S_state1 (ρ := (gR (gR (gR (rN ρ 0 q08) a19 C19) a29 C29) a39 C39)) (m := (zP m 0 (stM M nr nb n))) (ou := ou) hG (by omega) S39) rfl (Nat.le_of_ble_eq_true rfl) (Nat.le_of_ble_eq_true rfl) (Nat.le_of_ble_eq_true rfl) (by show _ ≤ 16500; omega) (by show _ ≤ 99500; omega) ?_ (by rintro E ad9 K9 ⟨q9, h9, -⟩; cases h9)
  rintro v9 ad9 K9 ⟨q18, h9, rfl, rfl⟩
  cases h9
  refine az_callS C Y_L_same [.ref ((rN ρ 0 q08).1 100), .ref ((rN (gR (gR (gR (rN ρ 0 q08) a19 C19) a29 C29) a39 C39) 1 q18).1 101)] [] wm_L_232 wst_L_same dL_sails_49 rfl (S_same (ρ := (rN (gR (gR (gR (rN ρ 0 q08) a19 C19) a29 C29) a39 C39) 1 q18)) (x := x3) (m := m) (ou := ou) (A := stM M nr nb n) hG) rfl (Nat.le_of_ble_eq_true rfl) (Nat.le_of_ble_eq_true rfl) (Nat.le_of_ble_eq_true rfl) (by show _ ≤ 16500; omega) (by show _ ≤ 99500; omega) (az_k1 rfl rfl ?_) (az_k0 rfl)
  refine az_if_eq C 107 dL_sails_52 (by decide) (fun q => absurd q (by decide)) (fun _ => ?_)
  refine az_iload C 1 dL_sails_55 rfl ?_
  refine az_iload C 2 dL_sails_57 rfl ?_
  refine az_if_lt C 66 dL_sails_59 (by decide) (fun q => absurd q (by decide)) (fun _ => ?_)
  refine az_iconst C (v := 1) dL_sails_62 (by decide) ?_
  refine az_goto C 67 dL_sails_63 (by decide) ?_
  refine az_icmp_ne C 107 dL_sails_67 (by decide) (fun q => absurd (by decide) q) (fun _ => ?_)
  refine az_iload C 0 dL_sails_70 rfl ?_
  refine az_if_lt C 107 dL_sails_72 (by decide) (fun q => absurd q (Int32.not_lt.mpr (nI_pos' (by omega)))) (fun _ => ?_)
  refine az_aload_n C 5 dL_sails_75 rfl ?_
  refine az_iload_n C 6 dL_sails_76 rfl ?_
  refine az_iload C 0 dL_sails_77 rfl ?_
  obtain ⟨x4, mc4, ms4, b41, b42, hP4⟩  := poss_e (ρ := (rN (gR (gR (gR (rN ρ 0 q08) a19 C19) a29 C29) a39 C39) 1 q18)) (m := (zP (zP m 0 (stM M nr nb n)) 1 (stM M nr nb n))) (ou := ou) hG (by omega) S39.rN hk hcs hin hrn hat h31
  replace b41 : C39 + mc4 ≤ 16385 := b41
  replace b42 : 6 * C39 + ms4 ≤ 98310 := b42
  refine az_callH C Y_L_isPossible [.ref (ρ.1 0), .int (nI k), .int ((nI J9))] [] wm_L_228 wst_L_isPossible dL_sails_79 rfl (hP4) rfl (Nat.le_of_ble_eq_true rfl) (Nat.le_of_ble_eq_true rfl) (Nat.le_of_ble_eq_true rfl) (by show _ ≤ 16500; omega) (by show _ ≤ 99500; omega) ?_ (by rintro E ad9 K9 ⟨a9, C9, h9, -⟩; cases h9)
  rintro v9 ad9 K9 ⟨a49, C49, h9, rfl, rfl, g41, g42, g43, S49⟩
  cases h9
  replace g41 : C39 + mc4 ≤ C49 + 1 := g41
  replace g42 : 6 * C39 + ms4 ≤ 6 * C49 + 6 := g42
  refine az_kn (C49 + 80) (6 * C49 + 800) (by omega) (by omega) ?_
  clear b41 b42 g41 g42 g33
  refine az_top (1) (canR_01.resolve_left h32) ?_
  refine az_iconst C (v := 1) dL_sails_82 (by decide) ?_
  refine az_icmp_ne C 107 dL_sails_83 (by decide) (fun q => absurd (by decide) q) (fun _ => ?_)
  refine az_iload C 1 dL_sails_86 rfl ?_
  refine az_if_eq C 109 dL_sails_88 (by decide) (fun q => absurd q (by decide)) (fun _ => ?_)
  refine az_aload_n C 5 dL_sails_91 rfl ?_
  refine az_iload_n C 6 dL_sails_92 rfl ?_
  refine az_iload_n C 7 dL_sails_93 rfl ?_
  refine az_callH C Y_L_worthIn [.ref (ρ.1 0), .int (nI k), .int (nI r)] [] wm_L_236 wst_L_worthIn dL_sails_94 rfl (S_worthIn (ρ := (gR (rN (gR (gR (gR (rN ρ 0 q08) a19 C19) a29 C29) a39 C39) 1 q18) a49 C49)) (x := x4) (m := (zP (zP m 0 (stM M nr nb n)) 1 (stM M nr nb n))) (ou := ou) hG (by omega) S49 hk hrn) rfl (Nat.le_of_ble_eq_true rfl) (Nat.le_of_ble_eq_true rfl) (Nat.le_of_ble_eq_true rfl) (by show _ ≤ 16500; omega) (by show _ ≤ 99500; omega) (az_k1 rfl rfl ?_) (az_k0 rfl)
  refine az_aload_n C 5 dL_sails_97 rfl ?_
  refine az_iload_n C 6 dL_sails_98 rfl ?_
  refine az_iload C 0 dL_sails_99 rfl ?_
  refine az_callH C Y_L_worthIn [.ref (ρ.1 0), .int (nI k), .int ((nI J9))] [.int ((M.1 17 k * M.1 6 r))] wm_L_236 wst_L_worthIn dL_sails_101 rfl (S_worthIn (ρ := (gR (rN (gR (gR (gR (rN ρ 0 q08) a19 C19) a29 C29) a39 C39) 1 q18) a49 C49)) (x := x4) (m := (zP (zP m 0 (stM M nr nb n)) 1 (stM M nr nb n))) (ou := ou) hG (by omega) S49 hk h31) rfl (Nat.le_of_ble_eq_true rfl) (Nat.le_of_ble_eq_true rfl) (Nat.le_of_ble_eq_true rfl) (by show _ ≤ 16500; omega) (by show _ ≤ 99500; omega) (az_k1 rfl rfl ?_) (az_k0 rfl)
  refine az_icmp_le C 109 dL_sails_104 (by decide) (fun _ => ?_) (fun q => absurd (h33 r hrn hz) q)
  refine az_iconst C (v := 0) dL_sails_109 (by decide) ?_
  refine az_istore C (lv' := [(8, .int 0), (7, .int ((nI J9))), (6, .int 1), (5, .int 0), (4, .int ((nI r))), (3, .ref ((rN ρ 0 q08).1 100)), (0, .ref (ρ.1 0)), (1, .int (nI k)), (2, .int (nI r))]) dL_sails_110 (by decide) rfl ?_
  refine az_iload C 4 dL_sails_112 rfl ?_
  refine az_iload_n C 8 dL_sails_114 rfl ?_
  refine az_mmin C wm_L_238 wst_min wini_Math wc_min (Nat.le_of_ble_eq_true rfl) (Nat.le_of_ble_eq_true rfl) (by show _ ≤ 16500; omega) (by show _ ≤ 99500; omega) dL_sails_115 ?_
  refine az_top (nI (min r r)) (lo_hi (r := r) (dst := r) (by omega) (by omega)).1 ?_
  refine az_istore C (lv' := [(9, .int (nI (min r r))), (8, .int 0), (7, .int ((nI J9))), (6, .int 1), (5, .int 0), (4, .int ((nI r))), (3, .ref ((rN ρ 0 q08).1 100)), (0, .ref (ρ.1 0)), (1, .int (nI k)), (2, .int (nI r))]) dL_sails_118 (by decide) rfl ?_
  refine az_lv [0, 1, 2, 3, 4, 5, 6, 9, 8, 7] rfl (Lsp hG C (dst := r) (by omega) S49 hk hcs hin hrn hat hrn _ _ _ 16500 99500 (max r r - min r r) (min r r) _ _ 0 (by omega) (by omega) (by omega) (fun k8 n8 hk8 hn8 => ?_))
  refine az_iconst C (v := 0) dL_sails_149 (by decide) ?_
  refine az_istore C (lv' := [(9, .int 0), (8, .int ((spM M f t (max r r - min r r) 0 (min r r)))), (7, .int ((nI J9))), (6, .int 1), (5, .int 0), (4, .int ((nI r))), (3, .ref ((rN ρ 0 q08).1 100)), (2, .int (nI r)), (1, .int (nI k)), (0, .ref (ρ.1 0))]) dL_sails_150 (by decide) rfl ?_
  refine az_iconst C (v := 0) dL_sails_152 (by decide) ?_
  refine az_istore C (lv' := [(10, .int 0), (9, .int 0), (8, .int ((spM M f t (max r r - min r r) 0 (min r r)))), (7, .int ((nI J9))), (6, .int 1), (5, .int 0), (4, .int ((nI r))), (3, .ref ((rN ρ 0 q08).1 100)), (2, .int (nI r)), (1, .int (nI k)), (0, .ref (ρ.1 0))]) dL_sails_153 (by decide) rfl ?_
  refine az_lv [0, 1, 2, 3, 4, 5, 6, 7, 8, 9, 10] rfl (Lwt hG C (by omega) (by omega) hn6 (by omega) S49 (nr - 1) (zP (zP m 0 (stM M nr nb n)) 1 (stM M nr nb n)) 0 0 (by omega)  ?_)
  refine az_aload_n C 10 dL_sails_183 rfl ?_
  refine az_iload_n C 9 dL_sails_184 rfl ?_
  refine az_iload_n C 8 dL_sails_185 rfl ?_
  refine az_callH C Y_L_voyage [.ref (ρ.1 0), .int (nI k), .int (nI r)] [] wm_L_248 wst_L_voyage dL_sails_186 rfl (voy1_ok (ρ := (gR (rN (gR (gR (gR (rN ρ 0 q08) a19 C19) a29 C29) a39 C39) 1 q18) a49 C49)) (x := x4) (m := (zP (zP m 0 (stM M nr nb n)) 1 (stM M nr nb n))) (ou := ou) hG S49 hk hcs hin hrn hat) rfl (Nat.le_of_ble_eq_true rfl) (Nat.le_of_ble_eq_true rfl) (Nat.le_of_ble_eq_true rfl) (by show _ ≤ 16500; omega) (by show _ ≤ 99500; omega) (az_k1 rfl rfl ?_) (az_k0 rfl)
  refine az_istore C (lv' := [(10, .int ((-1002))), (9, .int ((LwtF M (nr - 1) (zP (zP m 0 (stM M nr nb n)) 1 (stM M nr nb n)) 0 0))), (8, .int ((spM M f t (max r r - min r r) 0 (min r r)))), (7, .int ((nI J9))), (6, .int 1), (5, .int 0), (4, .int ((nI r))), (3, .ref ((rN ρ 0 q08).1 100)), (2, .int (nI r)), (1, .int (nI k)), (0, .ref (ρ.1 0))]) dL_sails_189 (by decide) rfl ?_
  refine az_iload C 6 dL_sails_191 rfl ?_
  refine az_iload_n C 8 dL_sails_193 rfl ?_
  refine az_icmp_ne C 221 dL_sails_194 (by decide) (fun q => absurd rfl q) (fun _ => ?_)
  refine az_iload C 0 dL_sails_197 rfl ?_
  refine az_sipush C (v := (-1002)) dL_sails_199 (by decide) ?_
  refine az_icmp_ne C 219 dL_sails_202 (by decide) (fun q => absurd (by decide) q) (fun _ => ?_)
  refine az_iload C 4 dL_sails_205 rfl ?_
  refine az_if_eq C 219 dL_sails_207 (by decide) (fun q => absurd q (by decide)) (fun _ => ?_)
  refine az_iload C 5 dL_sails_210 rfl ?_
  refine az_if_ne C 219 dL_sails_212 (by decide) (fun q => absurd (by decide) q) (fun _ => ?_)
  refine az_iconst C (v := 1) dL_sails_215 (by decide) ?_
  refine az_goto C 220 dL_sails_216 (by decide) ?_
  exact az_zret C .boolean rfl rfl dL_sails_220 (by show _ ≤ 16500; omega) (by show _ ≤ 99500; omega) ⟨_, _, _, _, _, _, rfl, rfl, rfl, rfl, S49⟩

set_option maxHeartbeats 4000000 in
set_option maxRecDepth 100000 in
theorem XsaR (hG : az_okS l G) (hc : c ≤ 62) (S : ST c ρ x M n nr nb cs) (hk : k < nb) (hcs : (f :: t) ∈ cs) (hin : k ∈ f :: t) (hrn : r < nr) (hat : M.1 13 k = nI r) (hd : dst < nr) (hne : ¬ r = dst) (hz : (canR M nr f t r dst).2 = 0) : az_M l G yL_sails (az_ws yL_sails cL_sails 12 (Option.some FieldType.boolean)) 12 [.ref (ρ.1 0), .int (nI k), .int (nI dst)] (AD ρ) (KK G ρ x m ou) 16500 99500 (OkW G ρ ou c nr nb) := by
  refine az_start hG.1 (by decide +kernel) (Nat.le_of_ble_eq_true rfl) ?_
  intro p e s mm args below meth c C hnm
  show az_W l G 12 _ p e _ s mm args below meth c _ _ 0 0 0 [(0, .ref (ρ.1 0)), (1, .int (nI k)), (2, .int (nI dst))] []
  have h := S.1
  have hn6 := h.n6
  have hn1 := h.n1
  have hr := h.xr
  obtain ⟨rl, aC, aP, ef, ek, h4, hnd, hq, hat2, hs⟩ := h.voyF hk hcs hin hrn hat
  refine az_aload_n C 0 dL_sails_0 rfl ?_
  refine az_callS C Y_L_state [.ref (ρ.1 0)] [] wm_L_222 wst_L_state dL_sails_1 rfl (S_state0 (ρ := ρ) (m := m) (ou := ou) hG (by omega) S) rfl (Nat.le_of_ble_eq_true rfl) (Nat.le_of_ble_eq_true rfl) (Nat.le_of_ble_eq_true rfl) (by show _ ≤ 16500; omega) (by show _ ≤ 99500; omega) ?_ (by rintro E ad9 K9 ⟨q9, h9, -⟩; cases h9)
  rintro v9 ad9 K9 ⟨q08, h9, rfl, rfl⟩
  cases h9
  refine az_astore_n C (lv' := [(3, .ref ((rN ρ 0 q08).1 100)), (0, .ref (ρ.1 0)), (1, .int (nI k)), (2, .int (nI dst))]) (j := 3) rfl dL_sails_4 (by decide) rfl ?_
  refine az_aload_n C 1 dL_sails_5 rfl ?_
  refine az_iload_n C 2 dL_sails_6 rfl ?_
  refine az_callH C Y_L_reachOf [.ref (ρ.1 0), .int (nI k)] [] wm_L_170 wst_L_reachOf dL_sails_7 rfl (S_reachOf (ρ := (rN ρ 0 q08)) (x := x) (m := (zP m 0 (stM M nr nb n))) (ou := ou) hG (by omega) S.rN hk hat) rfl (Nat.le_of_ble_eq_true rfl) (Nat.le_of_ble_eq_true rfl) (Nat.le_of_ble_eq_true rfl) (by show _ ≤ 16500; omega) (by show _ ≤ 99500; omega) (az_k1 rfl rfl ?_) (az_k0 rfl)
  refine az_istore C (lv' := [(4, .int ((nI r))), (3, .ref ((rN ρ 0 q08).1 100)), (0, .ref (ρ.1 0)), (1, .int (nI k)), (2, .int (nI dst))]) dL_sails_10 (by decide) rfl ?_
  refine az_aload_n C 2 dL_sails_12 rfl ?_
  refine az_iload_n C 3 dL_sails_13 rfl ?_
  refine az_iload_n C 4 dL_sails_14 rfl ?_
  obtain ⟨x1, mc1, ms1, b11, b12, hP1⟩  := watf_e (ρ := (rN ρ 0 q08)) (m := (zP m 0 (stM M nr nb n))) (ou := ou) hG (by omega) S.rN hk hcs hin hrn hat hd
  replace b11 : ρ.2.2.2.1 + mc1 ≤ 16385 := b11
  replace b12 : 6 * ρ.2.2.2.1 + ms1 ≤ 98310 := b12
  refine az_callH C Y_L_waterFor [.ref (ρ.1 0), .int (nI k), .int (nI dst)] [] wm_L_226 wst_L_waterFor dL_sails_15 rfl (hP1) rfl (Nat.le_of_ble_eq_true rfl) (Nat.le_of_ble_eq_true rfl) (Nat.le_of_ble_eq_true rfl) (by show _ ≤ 16500; omega) (by show _ ≤ 99500; omega) ?_ (by rintro E ad9 K9 ⟨a9, C9, h9, -⟩; cases h9)
  rintro v9 ad9 K9 ⟨a19, C19, h9, rfl, rfl, g11, g12, g13, S19⟩
  cases h9
  replace g11 : ρ.2.2.2.1 + mc1 ≤ C19 + 1 := g11
  replace g12 : 6 * ρ.2.2.2.1 + ms1 ≤ 6 * C19 + 6 := g12
  refine az_kn (C19 + 20) (6 * C19 + 200) (by omega) (by omega) ?_
  clear b11 b12 g11 g12
  refine az_top ((-1002)) (if_pos hz) ?_
  refine az_istore C (lv' := [(5, .int ((-1002))), (4, .int ((nI r))), (3, .ref ((rN ρ 0 q08).1 100)), (0, .ref (ρ.1 0)), (1, .int (nI k)), (2, .int (nI dst))]) dL_sails_18 (by decide) rfl ?_
  refine az_aload_n C 3 dL_sails_20 rfl ?_
  refine az_iload_n C 4 dL_sails_21 rfl ?_
  refine az_iload_n C 5 dL_sails_22 rfl ?_
  obtain ⟨x2, mc2, ms2, b21, b22, hP2⟩  := poss_e (ρ := (gR (rN ρ 0 q08) a19 C19)) (m := (zP m 0 (stM M nr nb n))) (ou := ou) hG (by omega) S19 hk hcs hin hrn hat hd
  replace b21 : C19 + mc2 ≤ 16385 := b21
  replace b22 : 6 * C19 + ms2 ≤ 98310 := b22
  refine az_callH C Y_L_isPossible [.ref (ρ.1 0), .int (nI k), .int (nI dst)] [] wm_L_228 wst_L_isPossible dL_sails_23 rfl (hP2) rfl (Nat.le_of_ble_eq_true rfl) (Nat.le_of_ble_eq_true rfl) (Nat.le_of_ble_eq_true rfl) (by show _ ≤ 16500; omega) (by show _ ≤ 99500; omega) ?_ (by rintro E ad9 K9 ⟨a9, C9, h9, -⟩; cases h9)
  rintro v9 ad9 K9 ⟨a29, C29, h9, rfl, rfl, g21, g22, g23, S29⟩
  cases h9
  replace g21 : C19 + mc2 ≤ C29 + 1 := g21
  replace g22 : 6 * C19 + ms2 ≤ 6 * C29 + 6 := g22
  refine az_kn (C29 + 40) (6 * C29 + 400) (by omega) (by omega) ?_
  clear b21 b22 g21 g22 g13
  refine az_top (0) hz ?_
  refine az_iconst C (v := 1) dL_sails_26 (by decide) ?_
  refine az_icmp_ne C 34 dL_sails_27 (by decide) (fun _ => ?_) (fun q => absurd q (by decide))
  refine az_iconst C (v := 0) dL_sails_34 (by decide) ?_
  refine az_istore C (lv' := [(6, .int 0), (5, .int ((-1002))), (4, .int ((nI r))), (3, .ref ((rN ρ 0 q08).1 100)), (0, .ref (ρ.1 0)), (1, .int (nI k)), (2, .int (nI dst))]) dL_sails_35 (by decide) rfl ?_
  refine az_aload_n C 4 dL_sails_37 rfl ?_
  refine az_iload_n C 5 dL_sails_38 rfl ?_
  obtain ⟨J9, x3, mc3, ms3, h31, h32, h33, b31, b32, hP3⟩ := bestR_ok (ρ := (gR (gR (rN ρ 0 q08) a19 C19) a29 C29)) (m := (zP m 0 (stM M nr nb n))) (ou := ou) hG (by omega) S29 hk hcs hin hrn hat
  replace b31 : C29 + mc3 ≤ 16385 := b31
  replace b32 : 6 * C29 + ms3 ≤ 98310 := b32
  refine az_callH C Y_L_bestReach [.ref (ρ.1 0), .int (nI k)] [] wm_L_230 wst_L_bestReach dL_sails_39 rfl (hP3) rfl (Nat.le_of_ble_eq_true rfl) (Nat.le_of_ble_eq_true rfl) (Nat.le_of_ble_eq_true rfl) (by show _ ≤ 16500; omega) (by show _ ≤ 99500; omega) ?_ (by rintro E ad9 K9 ⟨a9, C9, h9, -⟩; cases h9)
  rintro v9 ad9 K9 ⟨a39, C39, h9, rfl, rfl, g31, g32, g33, S39⟩
  cases h9
  replace g31 : C29 + mc3 ≤ C39 + 1 := g31
  replace g32 : 6 * C29 + ms3 ≤ 6 * C39 + 6 := g32
  refine az_kn (C39 + 60) (6 * C39 + 600) (by omega) (by omega) ?_
  clear b31 b32 g31 g32 g23
  refine az_istore C (lv' := [(7, .int ((nI J9))), (6, .int 0), (5, .int ((-1002))), (4, .int ((nI r))), (3, .ref ((rN ρ 0 q08).1 100)), (0, .ref (ρ.1 0)), (1, .int (nI k)), (2, .int (nI dst))]) dL_sails_42 (by decide) rfl ?_
  refine az_aload_n C 4 dL_sails_44 rfl ?_
  refine az_aload_n C 5 dL_sails_45 rfl ?_
  refine az_callS C Y_L_state [.ref (ρ.1 0)] [.ref ((rN ρ 0 q08).1 100)] wm_L_222 wst_L_state dL_sails_46 rfl (S_state1 (ρ := (gR (gR (gR (rN ρ 0 q08) a19 C19) a29 C29) a39 C39)) (m := (zP m 0 (stM M nr nb n))) (ou := ou) hG (by omega) S39) rfl (Nat.le_of_ble_eq_true rfl) (Nat.le_of_ble_eq_true rfl) (Nat.le_of_ble_eq_true rfl) (by show _ ≤ 16500; omega) (by show _ ≤ 99500; omega) ?_ (by rintro E ad9 K9 ⟨q9, h9, -⟩; cases h9)
  rintro v9 ad9 K9 ⟨q18, h9, rfl, rfl⟩
  cases h9
  refine az_callS C Y_L_same [.ref ((rN ρ 0 q08).1 100), .ref ((rN (gR (gR (gR (rN ρ 0 q08) a19 C19) a29 C29) a39 C39) 1 q18).1 101)] [] wm_L_232 wst_L_same dL_sails_49 rfl (S_same (ρ := (rN (gR (gR (gR (rN ρ 0 q08) a19 C19) a29 C29) a39 C39) 1 q18)) (x := x3) (m := m) (ou := ou) (A := stM M nr nb n) hG) rfl (Nat.le_of_ble_eq_true rfl) (Nat.le_of_ble_eq_true rfl) (Nat.le_of_ble_eq_true rfl) (by show _ ≤ 16500; omega) (by show _ ≤ 99500; omega) (az_k1 rfl rfl ?_) (az_k0 rfl)
  refine az_if_eq C 107 dL_sails_52 (by decide) (fun q => absurd q (by decide)) (fun _ => ?_)
  refine az_iload C 1 dL_sails_55 rfl ?_
  refine az_iload C 2 dL_sails_57 rfl ?_
  refine az_if_lt C 66 dL_sails_59 (by decide) (fun _ => ?_) (fun q => absurd (by decide) q)
  refine az_iconst C (v := 0) dL_sails_66 (by decide) ?_
  refine az_icmp_ne C 107 dL_sails_67 (by decide) (fun q => absurd (by decide) q) (fun _ => ?_)
  refine az_iload C 0 dL_sails_70 rfl ?_
  refine az_if_lt C 107 dL_sails_72 (by decide) (fun q => absurd q (Int32.not_lt.mpr (nI_pos' (by omega)))) (fun _ => ?_)
  refine az_aload_n C 5 dL_sails_75 rfl ?_
  refine az_iload_n C 6 dL_sails_76 rfl ?_
  refine az_iload C 0 dL_sails_77 rfl ?_
  obtain ⟨x4, mc4, ms4, b41, b42, hP4⟩  := poss_e (ρ := (rN (gR (gR (gR (rN ρ 0 q08) a19 C19) a29 C29) a39 C39) 1 q18)) (m := (zP (zP m 0 (stM M nr nb n)) 1 (stM M nr nb n))) (ou := ou) hG (by omega) S39.rN hk hcs hin hrn hat h31
  replace b41 : C39 + mc4 ≤ 16385 := b41
  replace b42 : 6 * C39 + ms4 ≤ 98310 := b42
  refine az_callH C Y_L_isPossible [.ref (ρ.1 0), .int (nI k), .int ((nI J9))] [] wm_L_228 wst_L_isPossible dL_sails_79 rfl (hP4) rfl (Nat.le_of_ble_eq_true rfl) (Nat.le_of_ble_eq_true rfl) (Nat.le_of_ble_eq_true rfl) (by show _ ≤ 16500; omega) (by show _ ≤ 99500; omega) ?_ (by rintro E ad9 K9 ⟨a9, C9, h9, -⟩; cases h9)
  rintro v9 ad9 K9 ⟨a49, C49, h9, rfl, rfl, g41, g42, g43, S49⟩
  cases h9
  replace g41 : C39 + mc4 ≤ C49 + 1 := g41
  replace g42 : 6 * C39 + ms4 ≤ 6 * C49 + 6 := g42
  refine az_kn (C49 + 80) (6 * C49 + 800) (by omega) (by omega) ?_
  clear b41 b42 g41 g42 g33
  refine az_top (1) (canR_01.resolve_left h32) ?_
  refine az_iconst C (v := 1) dL_sails_82 (by decide) ?_
  refine az_icmp_ne C 107 dL_sails_83 (by decide) (fun q => absurd (by decide) q) (fun _ => ?_)
  refine az_iload C 1 dL_sails_86 rfl ?_
  refine az_if_eq C 109 dL_sails_88 (by decide) (fun _ => ?_) (fun q => absurd (by decide) q)
  refine az_iconst C (v := 0) dL_sails_109 (by decide) ?_
  refine az_istore C (lv' := [(8, .int 0), (7, .int ((nI J9))), (6, .int 0), (5, .int ((-1002))), (4, .int ((nI r))), (3, .ref ((rN ρ 0 q08).1 100)), (0, .ref (ρ.1 0)), (1, .int (nI k)), (2, .int (nI dst))]) dL_sails_110 (by decide) rfl ?_
  refine az_iload C 4 dL_sails_112 rfl ?_
  refine az_iload_n C 8 dL_sails_114 rfl ?_
  refine az_mmin C wm_L_238 wst_min wini_Math wc_min (Nat.le_of_ble_eq_true rfl) (Nat.le_of_ble_eq_true rfl) (by show _ ≤ 16500; omega) (by show _ ≤ 99500; omega) dL_sails_115 ?_
  refine az_top (nI (min r dst)) (lo_hi (r := r) (dst := dst) (by omega) (by omega)).1 ?_
  refine az_istore C (lv' := [(9, .int (nI (min r dst))), (8, .int 0), (7, .int ((nI J9))), (6, .int 0), (5, .int ((-1002))), (4, .int ((nI r))), (3, .ref ((rN ρ 0 q08).1 100)), (0, .ref (ρ.1 0)), (1, .int (nI k)), (2, .int (nI dst))]) dL_sails_118 (by decide) rfl ?_
  refine az_lv [0, 1, 2, 3, 4, 5, 6, 9, 8, 7] rfl (Lsp hG C (dst := dst) (by omega) S49 hk hcs hin hrn hat hd _ _ _ 16500 99500 (max r dst - min r dst) (min r dst) _ _ 0 (by omega) (by omega) (by omega) (fun k8 n8 hk8 hn8 => ?_))
  refine az_iconst C (v := 0) dL_sails_149 (by decide) ?_
  refine az_istore C (lv' := [(9, .int 0), (8, .int ((spM M f t (max r dst - min r dst) 0 (min r dst)))), (7, .int ((nI J9))), (6, .int 0), (5, .int ((-1002))), (4, .int ((nI r))), (3, .ref ((rN ρ 0 q08).1 100)), (2, .int (nI dst)), (1, .int (nI k)), (0, .ref (ρ.1 0))]) dL_sails_150 (by decide) rfl ?_
  refine az_iconst C (v := 0) dL_sails_152 (by decide) ?_
  refine az_istore C (lv' := [(10, .int 0), (9, .int 0), (8, .int ((spM M f t (max r dst - min r dst) 0 (min r dst)))), (7, .int ((nI J9))), (6, .int 0), (5, .int ((-1002))), (4, .int ((nI r))), (3, .ref ((rN ρ 0 q08).1 100)), (2, .int (nI dst)), (1, .int (nI k)), (0, .ref (ρ.1 0))]) dL_sails_153 (by decide) rfl ?_
  refine az_lv [0, 1, 2, 3, 4, 5, 6, 7, 8, 9, 10] rfl (Lwt hG C (by omega) (by omega) hn6 (by omega) S49 (nr - 1) (zP (zP m 0 (stM M nr nb n)) 1 (stM M nr nb n)) 0 0 (by omega)  ?_)
  refine az_aload_n C 10 dL_sails_183 rfl ?_
  refine az_iload_n C 9 dL_sails_184 rfl ?_
  refine az_iload_n C 8 dL_sails_185 rfl ?_
  obtain ⟨mc5, ms5, b51, b52, hP5⟩ := voy0_ok (ρ := (gR (rN (gR (gR (gR (rN ρ 0 q08) a19 C19) a29 C29) a39 C39) 1 q18) a49 C49)) (m := (zP (zP m 0 (stM M nr nb n)) 1 (stM M nr nb n))) (ou := ou) hG (by omega) S49 hk hcs hin hrn hat hd hne hz
  replace b51 : C49 + mc5 ≤ 16385 := b51
  replace b52 : 6 * C49 + ms5 ≤ 98310 := b52
  refine az_callH C Y_L_voyage [.ref (ρ.1 0), .int (nI k), .int (nI dst)] [] wm_L_248 wst_L_voyage dL_sails_186 rfl (hP5) rfl (Nat.le_of_ble_eq_true rfl) (Nat.le_of_ble_eq_true rfl) (Nat.le_of_ble_eq_true rfl) (by show _ ≤ 16500; omega) (by show _ ≤ 99500; omega) ?_ (by rintro E ad9 K9 ⟨a9, C9, h9, -⟩; cases h9)
  rintro v9 ad9 K9 ⟨a59, C59, h9, rfl, rfl, g51, g52, g53, S59⟩
  cases h9
  replace g51 : C49 + mc5 ≤ C59 + 1 := g51
  replace g52 : 6 * C49 + ms5 ≤ 6 * C59 + 6 := g52
  refine az_kn (C59 + 100) (6 * C59 + 1000) (by omega) (by omega) ?_
  clear b51 b52 g51 g52 g43 hk8 hn8
  have ez : (tvX (saveX x4) n nr f t r dst).2 = 0 := (can_eq S49 (by omega) hrn hd h4 hq).trans hz
  obtain ⟨⟨w1, w2⟩, wi, w3, w4, w5⟩ := tvX_why ez hne
  obtain ⟨f1, f2⟩ := carR_f (y := (tvX (saveX x4) n nr f t r dst).1.1)
  obtain ⟨u8, hu⟩ : ∃ u : Int32, (carR (tvX (saveX x4) n nr f t r dst).1.1).1 0 12 = u := ⟨_, rfl⟩
  have hu8 : (tvX (saveX x4) n nr f t r dst).1.1.1 0 10 = u8 := f1.symm.trans hu
  rw [hu8] at w1 w2
  have h0 : ¬ (carR (tvX (saveX x4) n nr f t r dst).1.1).1 0 12 = 0 := fun z => by rw [hu] at z; rw [z] at w1; exact absurd w1 (by decide)
  have hlock : (carR (tvX (saveX x4) n nr f t r dst).1.1).1 0 13 = nI wi := f2.trans w5
  have eS := stM_ref (M := M) S49 hrn hd S59
  refine az_istore C (lv' := [(10, .int ((-1003))), (9, .int ((LwtF M (nr - 1) (zP (zP m 0 (stM M nr nb n)) 1 (stM M nr nb n)) 0 0))), (8, .int ((spM M f t (max r dst - min r dst) 0 (min r dst)))), (7, .int ((nI J9))), (6, .int 0), (5, .int ((-1002))), (4, .int ((nI r))), (3, .ref ((rN ρ 0 q08).1 100)), (2, .int (nI dst)), (1, .int (nI k)), (0, .ref (ρ.1 0))]) dL_sails_189 (by decide) rfl ?_
  refine az_iload C 6 dL_sails_191 rfl ?_
  refine az_iload_n C 8 dL_sails_193 rfl ?_
  refine az_icmp_ne C 221 dL_sails_194 (by decide) (fun _ => ?_) (fun q => absurd q (fun z => hne (nI_inj8 (by omega) (by omega) z)))
  refine az_iload C 4 dL_sails_221 rfl ?_
  refine az_if_ne C 293 dL_sails_223 (by decide) (fun q => absurd (by decide) q) (fun _ => ?_)
  refine az_iload C 0 dL_sails_226 rfl ?_
  refine az_sipush C (v := (-1003)) dL_sails_228 (by decide) ?_
  refine az_icmp_ne C 291 dL_sails_231 (by decide) (fun q => absurd (by decide) q) (fun _ => ?_)
  refine az_aload_n C 7 dL_sails_234 rfl ?_
  refine az_aload_n C 10 dL_sails_235 rfl ?_
  refine az_callS C Y_L_state [.ref (ρ.1 0)] [.ref ((rN ρ 0 q08).1 100)] wm_L_222 wst_L_state dL_sails_236 rfl (S_state1 (ρ := (gR (gR (rN (gR (gR (gR (rN ρ 0 q08) a19 C19) a29 C29) a39 C39) 1 q18) a49 C49) a59 C59)) (m := (zP (zP m 0 (stM M nr nb n)) 1 (stM M nr nb n))) (ou := ou) hG (by omega) S59) rfl (Nat.le_of_ble_eq_true rfl) (Nat.le_of_ble_eq_true rfl) (Nat.le_of_ble_eq_true rfl) (by show _ ≤ 16500; omega) (by show _ ≤ 99500; omega) ?_ (by rintro E ad9 K9 ⟨q9, h9, -⟩; cases h9)
  rintro v9 ad9 K9 ⟨q28, h9, rfl, rfl⟩
  cases h9
  rw [eS]
  refine az_callS C Y_L_same [.ref ((rN ρ 0 q08).1 100), .ref ((rN (gR (gR (rN (gR (gR (gR (rN ρ 0 q08) a19 C19) a29 C29) a39 C39) 1 q18) a49 C49) a59 C59) 1 q28).1 101)] [] wm_L_232 wst_L_same dL_sails_239 rfl (S_same2 (ρ := (rN (gR (gR (rN (gR (gR (gR (rN ρ 0 q08) a19 C19) a29 C29) a39 C39) 1 q18) a49 C49) a59 C59) 1 q28)) (x := (carR (tvX (saveX x4) n nr f t r dst).1.1)) (m := m) (ou := ou) (A := stM M nr nb n) hG) rfl (Nat.le_of_ble_eq_true rfl) (Nat.le_of_ble_eq_true rfl) (Nat.le_of_ble_eq_true rfl) (by show _ ≤ 16500; omega) (by show _ ≤ 99500; omega) (az_k1 rfl rfl ?_) (az_k0 rfl)
  refine az_if_eq C 291 dL_sails_242 (by decide) (fun q => absurd q (by decide)) (fun _ => ?_)
  refine az_aload_n C 10 dL_sails_245 rfl ?_
  refine az_callH C Y_L_refusalReason [.ref (ρ.1 0)] [] wm_L_250 wst_L_refusalReason dL_sails_246 rfl (S_refusalReason (ρ := (rN (gR (gR (rN (gR (gR (gR (rN ρ 0 q08) a19 C19) a29 C29) a39 C39) 1 q18) a49 C49) a59 C59) 1 q28)) (x := (carR (tvX (saveX x4) n nr f t r dst).1.1)) (m := (zP (zP (zP m 0 (stM M nr nb n)) 1 (stM M nr nb n)) 1 (stM M nr nb n))) (ou := ou) hG h0 hu) rfl (Nat.le_of_ble_eq_true rfl) (Nat.le_of_ble_eq_true rfl) (Nat.le_of_ble_eq_true rfl) (by show _ ≤ 16500; omega) (by show _ ≤ 99500; omega) (az_k1 rfl rfl ?_) (az_k0 rfl)
  refine az_iconst C (v := 1) dL_sails_249 (by decide) ?_
  refine az_icmp_lt C 291 dL_sails_250 (by decide) (fun q => absurd q (Int32.not_lt.mpr w1)) (fun _ => ?_)
  refine az_aload_n C 10 dL_sails_253 rfl ?_
  refine az_callH C Y_L_refusalReason [.ref (ρ.1 0)] [] wm_L_250 wst_L_refusalReason dL_sails_254 rfl (S_refusalReason (ρ := (rN (gR (gR (rN (gR (gR (gR (rN ρ 0 q08) a19 C19) a29 C29) a39 C39) 1 q18) a49 C49) a59 C59) 1 q28)) (x := (carR (tvX (saveX x4) n nr f t r dst).1.1)) (m := (zP (zP (zP m 0 (stM M nr nb n)) 1 (stM M nr nb n)) 1 (stM M nr nb n))) (ou := ou) hG h0 hu) rfl (Nat.le_of_ble_eq_true rfl) (Nat.le_of_ble_eq_true rfl) (Nat.le_of_ble_eq_true rfl) (by show _ ≤ 16500; omega) (by show _ ≤ 99500; omega) (az_k1 rfl rfl ?_) (az_k0 rfl)
  refine az_iconst C (v := 5) dL_sails_257 (by decide) ?_
  refine az_icmp_gt C 291 dL_sails_258 (by decide) (fun q => absurd q (Int32.not_lt.mpr w2)) (fun _ => ?_)
  refine az_aload_n C 10 dL_sails_261 rfl ?_
  refine az_callH C Y_L_refusalLock [.ref (ρ.1 0)] [] wm_L_253 wst_L_refusalLock dL_sails_262 rfl (S_refusalLock (ρ := (rN (gR (gR (rN (gR (gR (gR (rN ρ 0 q08) a19 C19) a29 C29) a39 C39) 1 q18) a49 C49) a59 C59) 1 q28)) (x := (carR (tvX (saveX x4) n nr f t r dst).1.1)) (m := (zP (zP (zP m 0 (stM M nr nb n)) 1 (stM M nr nb n)) 1 (stM M nr nb n))) (ou := ou) hG h0 hlock) rfl (Nat.le_of_ble_eq_true rfl) (Nat.le_of_ble_eq_true rfl) (Nat.le_of_ble_eq_true rfl) (by show _ ≤ 16500; omega) (by show _ ≤ 99500; omega) (az_k1 rfl rfl ?_) (az_k0 rfl)
  refine az_iload C 6 dL_sails_265 rfl ?_
  refine az_iload_n C 8 dL_sails_267 rfl ?_
  refine az_mmin C wm_L_238 wst_min wini_Math wc_min (Nat.le_of_ble_eq_true rfl) (Nat.le_of_ble_eq_true rfl) (by show _ ≤ 16500; omega) (by show _ ≤ 99500; omega) dL_sails_268 ?_
  refine az_top (nI (min r dst)) (lo_hi (r := r) (dst := dst) (by omega) (by omega)).1 ?_
  refine az_icmp_lt C 291 dL_sails_271 (by decide) (fun q => absurd q (Int32.not_lt.mpr (nI_leT w3 (by omega)))) (fun _ => ?_)
  refine az_aload_n C 10 dL_sails_274 rfl ?_
  refine az_callH C Y_L_refusalLock [.ref (ρ.1 0)] [] wm_L_253 wst_L_refusalLock dL_sails_275 rfl (S_refusalLock (ρ := (rN (gR (gR (rN (gR (gR (gR (rN ρ 0 q08) a19 C19) a29 C29) a39 C39) 1 q18) a49 C49) a59 C59) 1 q28)) (x := (carR (tvX (saveX x4) n nr f t r dst).1.1)) (m := (zP (zP (zP m 0 (stM M nr nb n)) 1 (stM M nr nb n)) 1 (stM M nr nb n))) (ou := ou) hG h0 hlock) rfl (Nat.le_of_ble_eq_true rfl) (Nat.le_of_ble_eq_true rfl) (Nat.le_of_ble_eq_true rfl) (by show _ ≤ 16500; omega) (by show _ ≤ 99500; omega) (az_k1 rfl rfl ?_) (az_k0 rfl)
  refine az_iload C 6 dL_sails_278 rfl ?_
  refine az_iload_n C 8 dL_sails_280 rfl ?_
  refine az_mmax C wm_L_243 wst_max wini_Math wc_max (Nat.le_of_ble_eq_true rfl) (Nat.le_of_ble_eq_true rfl) (by show _ ≤ 16500; omega) (by show _ ≤ 99500; omega) dL_sails_281 ?_
  refine az_top (nI (max r dst)) (lo_hi (r := r) (dst := dst) (by omega) (by omega)).2 ?_
  refine az_icmp_ge C 291 dL_sails_284 (by decide) (fun q => absurd q (nlt_nle w4 (by omega))) (fun _ => ?_)
  refine az_iconst C (v := 1) dL_sails_287 (by decide) ?_
  refine az_goto C 292 dL_sails_288 (by decide) ?_
  exact az_zret C .boolean rfl rfl dL_sails_292 (by show _ ≤ 16500; omega) (by show _ ≤ 99500; omega) ⟨_, _, _, _, _, _, rfl, rfl, rfl, rfl, S59.rN⟩

set_option maxHeartbeats 4000000 in
set_option maxRecDepth 100000 in
theorem XsaD (hG : az_okS l G) (hc : c ≤ 62) (S : ST c ρ x M n nr nb cs) (hk : k < nb) (hcs : (f :: t) ∈ cs) (hin : k ∈ f :: t) (hrn : r < nr) (hat : M.1 13 k = nI r) (hd : dst < nr) (hne : ¬ r = dst) (hz : ¬ (canR M nr f t r dst).2 = 0) : az_M l G yL_sails (az_ws yL_sails cL_sails 12 (Option.some FieldType.boolean)) 12 [.ref (ρ.1 0), .int (nI k), .int (nI dst)] (AD ρ) (KK G ρ x m ou) 16500 99500 (OkW G ρ ou (c + 1) nr nb) := by
  refine az_start hG.1 (by decide +kernel) (Nat.le_of_ble_eq_true rfl) ?_
  intro p e s mm args below meth c C hnm
  show az_W l G 12 _ p e _ s mm args below meth c _ _ 0 0 0 [(0, .ref (ρ.1 0)), (1, .int (nI k)), (2, .int (nI dst))] []
  have h := S.1
  have hn6 := h.n6
  have hn1 := h.n1
  have hr := h.xr
  obtain ⟨rl, aC, aP, ef, ek, h4, hnd, hq, hat2, hs⟩ := h.voyF hk hcs hin hrn hat
  have hz1 : (canR M nr f t r dst).2 = 1 := canR_01.resolve_left hz
  have hwg := wat_ge (f := f) S hrn hd h4
  refine az_aload_n C 0 dL_sails_0 rfl ?_
  refine az_callS C Y_L_state [.ref (ρ.1 0)] [] wm_L_222 wst_L_state dL_sails_1 rfl (S_state0 (ρ := ρ) (m := m) (ou := ou) hG (by omega) S) rfl (Nat.le_of_ble_eq_true rfl) (Nat.le_of_ble_eq_true rfl) (Nat.le_of_ble_eq_true rfl) (by show _ ≤ 16500; omega) (by show _ ≤ 99500; omega) ?_ (by rintro E ad9 K9 ⟨q9, h9, -⟩; cases h9)
  rintro v9 ad9 K9 ⟨q08, h9, rfl, rfl⟩
  cases h9
  refine az_astore_n C (lv' := [(3, .ref ((rN ρ 0 q08).1 100)), (0, .ref (ρ.1 0)), (1, .int (nI k)), (2, .int (nI dst))]) (j := 3) rfl dL_sails_4 (by decide) rfl ?_
  refine az_aload_n C 1 dL_sails_5 rfl ?_
  refine az_iload_n C 2 dL_sails_6 rfl ?_
  refine az_callH C Y_L_reachOf [.ref (ρ.1 0), .int (nI k)] [] wm_L_170 wst_L_reachOf dL_sails_7 rfl (S_reachOf (ρ := (rN ρ 0 q08)) (x := x) (m := (zP m 0 (stM M nr nb n))) (ou := ou) hG (by omega) S.rN hk hat) rfl (Nat.le_of_ble_eq_true rfl) (Nat.le_of_ble_eq_true rfl) (Nat.le_of_ble_eq_true rfl) (by show _ ≤ 16500; omega) (by show _ ≤ 99500; omega) (az_k1 rfl rfl ?_) (az_k0 rfl)
  refine az_istore C (lv' := [(4, .int ((nI r))), (3, .ref ((rN ρ 0 q08).1 100)), (0, .ref (ρ.1 0)), (1, .int (nI k)), (2, .int (nI dst))]) dL_sails_10 (by decide) rfl ?_
  refine az_aload_n C 2 dL_sails_12 rfl ?_
  refine az_iload_n C 3 dL_sails_13 rfl ?_
  refine az_iload_n C 4 dL_sails_14 rfl ?_
  obtain ⟨x1, mc1, ms1, b11, b12, hP1⟩  := watf_e (ρ := (rN ρ 0 q08)) (m := (zP m 0 (stM M nr nb n))) (ou := ou) hG (by omega) S.rN hk hcs hin hrn hat hd
  replace b11 : ρ.2.2.2.1 + mc1 ≤ 16385 := b11
  replace b12 : 6 * ρ.2.2.2.1 + ms1 ≤ 98310 := b12
  refine az_callH C Y_L_waterFor [.ref (ρ.1 0), .int (nI k), .int (nI dst)] [] wm_L_226 wst_L_waterFor dL_sails_15 rfl (hP1) rfl (Nat.le_of_ble_eq_true rfl) (Nat.le_of_ble_eq_true rfl) (Nat.le_of_ble_eq_true rfl) (by show _ ≤ 16500; omega) (by show _ ≤ 99500; omega) ?_ (by rintro E ad9 K9 ⟨a9, C9, h9, -⟩; cases h9)
  rintro v9 ad9 K9 ⟨a19, C19, h9, rfl, rfl, g11, g12, g13, S19⟩
  cases h9
  replace g11 : ρ.2.2.2.1 + mc1 ≤ C19 + 1 := g11
  replace g12 : 6 * ρ.2.2.2.1 + ms1 ≤ 6 * C19 + 6 := g12
  refine az_kn (C19 + 20) (6 * C19 + 200) (by omega) (by omega) ?_
  clear b11 b12 g11 g12
  refine az_top ((watM M nr f t r dst)) (if_neg hz) ?_
  refine az_istore C (lv' := [(5, .int ((watM M nr f t r dst))), (4, .int ((nI r))), (3, .ref ((rN ρ 0 q08).1 100)), (0, .ref (ρ.1 0)), (1, .int (nI k)), (2, .int (nI dst))]) dL_sails_18 (by decide) rfl ?_
  refine az_aload_n C 3 dL_sails_20 rfl ?_
  refine az_iload_n C 4 dL_sails_21 rfl ?_
  refine az_iload_n C 5 dL_sails_22 rfl ?_
  obtain ⟨x2, mc2, ms2, b21, b22, hP2⟩  := poss_e (ρ := (gR (rN ρ 0 q08) a19 C19)) (m := (zP m 0 (stM M nr nb n))) (ou := ou) hG (by omega) S19 hk hcs hin hrn hat hd
  replace b21 : C19 + mc2 ≤ 16385 := b21
  replace b22 : 6 * C19 + ms2 ≤ 98310 := b22
  refine az_callH C Y_L_isPossible [.ref (ρ.1 0), .int (nI k), .int (nI dst)] [] wm_L_228 wst_L_isPossible dL_sails_23 rfl (hP2) rfl (Nat.le_of_ble_eq_true rfl) (Nat.le_of_ble_eq_true rfl) (Nat.le_of_ble_eq_true rfl) (by show _ ≤ 16500; omega) (by show _ ≤ 99500; omega) ?_ (by rintro E ad9 K9 ⟨a9, C9, h9, -⟩; cases h9)
  rintro v9 ad9 K9 ⟨a29, C29, h9, rfl, rfl, g21, g22, g23, S29⟩
  cases h9
  replace g21 : C19 + mc2 ≤ C29 + 1 := g21
  replace g22 : 6 * C19 + ms2 ≤ 6 * C29 + 6 := g22
  refine az_kn (C29 + 40) (6 * C29 + 400) (by omega) (by omega) ?_
  clear b21 b22 g21 g22 g13
  refine az_top (1) hz1 ?_
  refine az_iconst C (v := 1) dL_sails_26 (by decide) ?_
  refine az_icmp_ne C 34 dL_sails_27 (by decide) (fun q => absurd (by decide) q) (fun _ => ?_)
  refine az_iconst C (v := 1) dL_sails_30 (by decide) ?_
  refine az_goto C 35 dL_sails_31 (by decide) ?_
  refine az_istore C (lv' := [(6, .int 1), (5, .int ((watM M nr f t r dst))), (4, .int ((nI r))), (3, .ref ((rN ρ 0 q08).1 100)), (0, .ref (ρ.1 0)), (1, .int (nI k)), (2, .int (nI dst))]) dL_sails_35 (by decide) rfl ?_
  refine az_aload_n C 4 dL_sails_37 rfl ?_
  refine az_iload_n C 5 dL_sails_38 rfl ?_
  obtain ⟨J9, x3, mc3, ms3, h31, h32, h33, b31, b32, hP3⟩ := bestR_ok (ρ := (gR (gR (rN ρ 0 q08) a19 C19) a29 C29)) (m := (zP m 0 (stM M nr nb n))) (ou := ou) hG (by omega) S29 hk hcs hin hrn hat
  replace b31 : C29 + mc3 ≤ 16385 := b31
  replace b32 : 6 * C29 + ms3 ≤ 98310 := b32
  refine az_callH C Y_L_bestReach [.ref (ρ.1 0), .int (nI k)] [] wm_L_230 wst_L_bestReach dL_sails_39 rfl (hP3) rfl (Nat.le_of_ble_eq_true rfl) (Nat.le_of_ble_eq_true rfl) (Nat.le_of_ble_eq_true rfl) (by show _ ≤ 16500; omega) (by show _ ≤ 99500; omega) ?_ (by rintro E ad9 K9 ⟨a9, C9, h9, -⟩; cases h9)
  rintro v9 ad9 K9 ⟨a39, C39, h9, rfl, rfl, g31, g32, g33, S39⟩
  cases h9
  replace g31 : C29 + mc3 ≤ C39 + 1 := g31
  replace g32 : 6 * C29 + ms3 ≤ 6 * C39 + 6 := g32
  refine az_kn (C39 + 60) (6 * C39 + 600) (by omega) (by omega) ?_
  clear b31 b32 g31 g32 g23
  refine az_istore C (lv' := [(7, .int ((nI J9))), (6, .int 1), (5, .int ((watM M nr f t r dst))), (4, .int ((nI r))), (3, .ref ((rN ρ 0 q08).1 100)), (0, .ref (ρ.1 0)), (1, .int (nI k)), (2, .int (nI dst))]) dL_sails_42 (by decide) rfl ?_
  refine az_aload_n C 4 dL_sails_44 rfl ?_
  refine az_aload_n C 5 dL_sails_45 rfl ?_
  refine az_callS C Y_L_state [.ref (ρ.1 0)] [.ref ((rN ρ 0 q08).1 100)] wm_L_222 wst_L_state dL_sails_46 rfl (S_state1 (ρ := (gR (gR (gR (rN ρ 0 q08) a19 C19) a29 C29) a39 C39)) (m := (zP m 0 (stM M nr nb n))) (ou := ou) hG (by omega) S39) rfl (Nat.le_of_ble_eq_true rfl) (Nat.le_of_ble_eq_true rfl) (Nat.le_of_ble_eq_true rfl) (by show _ ≤ 16500; omega) (by show _ ≤ 99500; omega) ?_ (by rintro E ad9 K9 ⟨q9, h9, -⟩; cases h9)
  rintro v9 ad9 K9 ⟨q18, h9, rfl, rfl⟩
  cases h9
  refine az_callS C Y_L_same [.ref ((rN ρ 0 q08).1 100), .ref ((rN (gR (gR (gR (rN ρ 0 q08) a19 C19) a29 C29) a39 C39) 1 q18).1 101)] [] wm_L_232 wst_L_same dL_sails_49 rfl (S_same (ρ := (rN (gR (gR (gR (rN ρ 0 q08) a19 C19) a29 C29) a39 C39) 1 q18)) (x := x3) (m := m) (ou := ou) (A := stM M nr nb n) hG) rfl (Nat.le_of_ble_eq_true rfl) (Nat.le_of_ble_eq_true rfl) (Nat.le_of_ble_eq_true rfl) (by show _ ≤ 16500; omega) (by show _ ≤ 99500; omega) (az_k1 rfl rfl ?_) (az_k0 rfl)
  refine az_if_eq C 107 dL_sails_52 (by decide) (fun q => absurd q (by decide)) (fun _ => ?_)
  refine az_iload C 1 dL_sails_55 rfl ?_
  refine az_iload C 2 dL_sails_57 rfl ?_
  refine az_if_lt C 66 dL_sails_59 (by decide) (fun q => absurd q (Int32.not_lt.mpr hwg)) (fun _ => ?_)
  refine az_iconst C (v := 1) dL_sails_62 (by decide) ?_
  refine az_goto C 67 dL_sails_63 (by decide) ?_
  refine az_icmp_ne C 107 dL_sails_67 (by decide) (fun q => absurd (by decide) q) (fun _ => ?_)
  refine az_iload C 0 dL_sails_70 rfl ?_
  refine az_if_lt C 107 dL_sails_72 (by decide) (fun q => absurd q (Int32.not_lt.mpr (nI_pos' (by omega)))) (fun _ => ?_)
  refine az_aload_n C 5 dL_sails_75 rfl ?_
  refine az_iload_n C 6 dL_sails_76 rfl ?_
  refine az_iload C 0 dL_sails_77 rfl ?_
  obtain ⟨x4, mc4, ms4, b41, b42, hP4⟩  := poss_e (ρ := (rN (gR (gR (gR (rN ρ 0 q08) a19 C19) a29 C29) a39 C39) 1 q18)) (m := (zP (zP m 0 (stM M nr nb n)) 1 (stM M nr nb n))) (ou := ou) hG (by omega) S39.rN hk hcs hin hrn hat h31
  replace b41 : C39 + mc4 ≤ 16385 := b41
  replace b42 : 6 * C39 + ms4 ≤ 98310 := b42
  refine az_callH C Y_L_isPossible [.ref (ρ.1 0), .int (nI k), .int ((nI J9))] [] wm_L_228 wst_L_isPossible dL_sails_79 rfl (hP4) rfl (Nat.le_of_ble_eq_true rfl) (Nat.le_of_ble_eq_true rfl) (Nat.le_of_ble_eq_true rfl) (by show _ ≤ 16500; omega) (by show _ ≤ 99500; omega) ?_ (by rintro E ad9 K9 ⟨a9, C9, h9, -⟩; cases h9)
  rintro v9 ad9 K9 ⟨a49, C49, h9, rfl, rfl, g41, g42, g43, S49⟩
  cases h9
  replace g41 : C39 + mc4 ≤ C49 + 1 := g41
  replace g42 : 6 * C39 + ms4 ≤ 6 * C49 + 6 := g42
  refine az_kn (C49 + 80) (6 * C49 + 800) (by omega) (by omega) ?_
  clear b41 b42 g41 g42 g33
  refine az_top (1) (canR_01.resolve_left h32) ?_
  refine az_iconst C (v := 1) dL_sails_82 (by decide) ?_
  refine az_icmp_ne C 107 dL_sails_83 (by decide) (fun q => absurd (by decide) q) (fun _ => ?_)
  refine az_iload C 1 dL_sails_86 rfl ?_
  refine az_if_eq C 109 dL_sails_88 (by decide) (fun q => absurd q (by decide)) (fun _ => ?_)
  refine az_aload_n C 5 dL_sails_91 rfl ?_
  refine az_iload_n C 6 dL_sails_92 rfl ?_
  refine az_iload_n C 7 dL_sails_93 rfl ?_
  refine az_callH C Y_L_worthIn [.ref (ρ.1 0), .int (nI k), .int (nI dst)] [] wm_L_236 wst_L_worthIn dL_sails_94 rfl (S_worthIn (ρ := (gR (rN (gR (gR (gR (rN ρ 0 q08) a19 C19) a29 C29) a39 C39) 1 q18) a49 C49)) (x := x4) (m := (zP (zP m 0 (stM M nr nb n)) 1 (stM M nr nb n))) (ou := ou) hG (by omega) S49 hk hd) rfl (Nat.le_of_ble_eq_true rfl) (Nat.le_of_ble_eq_true rfl) (Nat.le_of_ble_eq_true rfl) (by show _ ≤ 16500; omega) (by show _ ≤ 99500; omega) (az_k1 rfl rfl ?_) (az_k0 rfl)
  refine az_aload_n C 5 dL_sails_97 rfl ?_
  refine az_iload_n C 6 dL_sails_98 rfl ?_
  refine az_iload C 0 dL_sails_99 rfl ?_
  refine az_callH C Y_L_worthIn [.ref (ρ.1 0), .int (nI k), .int ((nI J9))] [.int ((M.1 17 k * M.1 6 dst))] wm_L_236 wst_L_worthIn dL_sails_101 rfl (S_worthIn (ρ := (gR (rN (gR (gR (gR (rN ρ 0 q08) a19 C19) a29 C29) a39 C39) 1 q18) a49 C49)) (x := x4) (m := (zP (zP m 0 (stM M nr nb n)) 1 (stM M nr nb n))) (ou := ou) hG (by omega) S49 hk h31) rfl (Nat.le_of_ble_eq_true rfl) (Nat.le_of_ble_eq_true rfl) (Nat.le_of_ble_eq_true rfl) (by show _ ≤ 16500; omega) (by show _ ≤ 99500; omega) (az_k1 rfl rfl ?_) (az_k0 rfl)
  refine az_icmp_le C 109 dL_sails_104 (by decide) (fun _ => ?_) (fun q => absurd (h33 dst hd hz) q)
  refine az_iconst C (v := 0) dL_sails_109 (by decide) ?_
  refine az_istore C (lv' := [(8, .int 0), (7, .int ((nI J9))), (6, .int 1), (5, .int ((watM M nr f t r dst))), (4, .int ((nI r))), (3, .ref ((rN ρ 0 q08).1 100)), (0, .ref (ρ.1 0)), (1, .int (nI k)), (2, .int (nI dst))]) dL_sails_110 (by decide) rfl ?_
  refine az_iload C 4 dL_sails_112 rfl ?_
  refine az_iload_n C 8 dL_sails_114 rfl ?_
  refine az_mmin C wm_L_238 wst_min wini_Math wc_min (Nat.le_of_ble_eq_true rfl) (Nat.le_of_ble_eq_true rfl) (by show _ ≤ 16500; omega) (by show _ ≤ 99500; omega) dL_sails_115 ?_
  refine az_top (nI (min r dst)) (lo_hi (r := r) (dst := dst) (by omega) (by omega)).1 ?_
  refine az_istore C (lv' := [(9, .int (nI (min r dst))), (8, .int 0), (7, .int ((nI J9))), (6, .int 1), (5, .int ((watM M nr f t r dst))), (4, .int ((nI r))), (3, .ref ((rN ρ 0 q08).1 100)), (0, .ref (ρ.1 0)), (1, .int (nI k)), (2, .int (nI dst))]) dL_sails_118 (by decide) rfl ?_
  refine az_lv [0, 1, 2, 3, 4, 5, 6, 9, 8, 7] rfl (Lsp hG C (dst := dst) (by omega) S49 hk hcs hin hrn hat hd _ _ _ 16500 99500 (max r dst - min r dst) (min r dst) _ _ 0 (by omega) (by omega) (by omega) (fun k8 n8 hk8 hn8 => ?_))
  refine az_iconst C (v := 0) dL_sails_149 (by decide) ?_
  refine az_istore C (lv' := [(9, .int 0), (8, .int ((spM M f t (max r dst - min r dst) 0 (min r dst)))), (7, .int ((nI J9))), (6, .int 1), (5, .int ((watM M nr f t r dst))), (4, .int ((nI r))), (3, .ref ((rN ρ 0 q08).1 100)), (2, .int (nI dst)), (1, .int (nI k)), (0, .ref (ρ.1 0))]) dL_sails_150 (by decide) rfl ?_
  refine az_iconst C (v := 0) dL_sails_152 (by decide) ?_
  refine az_istore C (lv' := [(10, .int 0), (9, .int 0), (8, .int ((spM M f t (max r dst - min r dst) 0 (min r dst)))), (7, .int ((nI J9))), (6, .int 1), (5, .int ((watM M nr f t r dst))), (4, .int ((nI r))), (3, .ref ((rN ρ 0 q08).1 100)), (2, .int (nI dst)), (1, .int (nI k)), (0, .ref (ρ.1 0))]) dL_sails_153 (by decide) rfl ?_
  refine az_lv [0, 1, 2, 3, 4, 5, 6, 7, 8, 9, 10] rfl (Lwt hG C (by omega) (by omega) hn6 (by omega) S49 (nr - 1) (zP (zP m 0 (stM M nr nb n)) 1 (stM M nr nb n)) 0 0 (by omega)  ?_)
  refine az_aload_n C 10 dL_sails_183 rfl ?_
  refine az_iload_n C 9 dL_sails_184 rfl ?_
  refine az_iload_n C 8 dL_sails_185 rfl ?_
  obtain ⟨mc5, ms5, b51, b52, hP5⟩ := voy2_ok (ρ := (gR (rN (gR (gR (gR (rN ρ 0 q08) a19 C19) a29 C29) a39 C39) 1 q18) a49 C49)) (m := (zP (zP m 0 (stM M nr nb n)) 1 (stM M nr nb n))) (ou := ou) hG (by omega) S49 hk hcs hin hrn hat hd hne hz
  replace b51 : C49 + mc5 ≤ 16385 := b51
  replace b52 : 6 * C49 + ms5 ≤ 98310 := b52
  refine az_callH C Y_L_voyage [.ref (ρ.1 0), .int (nI k), .int (nI dst)] [] wm_L_248 wst_L_voyage dL_sails_186 rfl (hP5) rfl (Nat.le_of_ble_eq_true rfl) (Nat.le_of_ble_eq_true rfl) (Nat.le_of_ble_eq_true rfl) (by show _ ≤ 16500; omega) (by show _ ≤ 99500; omega) ?_ (by rintro E ad9 K9 ⟨a9, C9, h9, -⟩; cases h9)
  rintro v9 ad9 K9 ⟨a59, C59, h9, rfl, rfl, g51, g52, g53, S59⟩
  cases h9
  replace g51 : C49 + mc5 ≤ C59 + 1 := g51
  replace g52 : 6 * C49 + ms5 ≤ 6 * C59 + 6 := g52
  refine az_kn (C59 + 100) (6 * C59 + 1000) (by omega) (by omega) ?_
  clear b51 b52 g51 g52 g43 hk8 hn8
  have hat' : (sailM nr f t dst 6 (keepsM M) r 0).1.1 13 k = nI dst := (S59.at4 hk).symm.trans (by rw [atX_4, if_pos ⟨rfl, hin⟩])
  have eP := sp_V S49 (by omega) hrn hd h4 hq hz
  have eT := (thr_sum (m := m) (th := 0) hn1 hn6 S.z10).1
  refine az_istore C (lv' := [(10, .int ((nI (smV M f t r dst)))), (9, .int ((LwtF M (nr - 1) (zP (zP m 0 (stM M nr nb n)) 1 (stM M nr nb n)) 0 0))), (8, .int ((spM M f t (max r dst - min r dst) 0 (min r dst)))), (7, .int ((nI J9))), (6, .int 1), (5, .int ((watM M nr f t r dst))), (4, .int ((nI r))), (3, .ref ((rN ρ 0 q08).1 100)), (2, .int (nI dst)), (1, .int (nI k)), (0, .ref (ρ.1 0))]) dL_sails_189 (by decide) rfl ?_
  refine az_iload C 6 dL_sails_191 rfl ?_
  refine az_iload_n C 8 dL_sails_193 rfl ?_
  refine az_icmp_ne C 221 dL_sails_194 (by decide) (fun _ => ?_) (fun q => absurd q (fun z => hne (nI_inj8 (by omega) (by omega) z)))
  refine az_iload C 4 dL_sails_221 rfl ?_
  refine az_if_ne C 293 dL_sails_223 (by decide) (fun _ => ?_) (fun q => absurd q (by decide))
  refine az_iconst C (v := 0) dL_sails_293 (by decide) ?_
  refine az_istore C (lv' := [(11, .int 0), (10, .int ((nI (smV M f t r dst)))), (9, .int ((LwtF M (nr - 1) (zP (zP m 0 (stM M nr nb n)) 1 (stM M nr nb n)) 0 0))), (8, .int ((spM M f t (max r dst - min r dst) 0 (min r dst)))), (7, .int ((nI J9))), (6, .int 1), (5, .int ((watM M nr f t r dst))), (4, .int ((nI r))), (3, .ref ((rN ρ 0 q08).1 100)), (2, .int (nI dst)), (1, .int (nI k)), (0, .ref (ρ.1 0))]) dL_sails_294 (by decide) rfl ?_
  refine az_lv [0, 2, 1, 3, 4, 5, 6, 7, 8, 9, 10, 11] rfl (Lwu hG C (by omega) (by omega) hn6 (by omega) S59 (nr - 1) (zP (zP m 0 (stM M nr nb n)) 1 (stM M nr nb n)) ((LwtF M (nr - 1) (zP (zP m 0 (stM M nr nb n)) 1 (stM M nr nb n)) 0 0)) 0 (by omega)  ?_)
  refine az_iconst C (v := 0) dL_sails_324 (by decide) ?_
  refine az_istore C (lv' := [(11, .int 0), (9, .int ((LwuF (sailM nr f t dst 6 (keepsM M) r 0).1 (nr - 1) (zP (zP m 0 (stM M nr nb n)) 1 (stM M nr nb n)) ((LwtF M (nr - 1) (zP (zP m 0 (stM M nr nb n)) 1 (stM M nr nb n)) 0 0)) 0))), (10, .int ((nI (smV M f t r dst)))), (8, .int ((spM M f t (max r dst - min r dst) 0 (min r dst)))), (7, .int ((nI J9))), (6, .int 1), (5, .int ((watM M nr f t r dst))), (4, .int ((nI r))), (3, .ref ((rN ρ 0 q08).1 100)), (2, .int (nI dst)), (1, .int (nI k)), (0, .ref (ρ.1 0))]) dL_sails_325 (by decide) rfl ?_
  refine az_lv [0, 2, 1, 3, 4, 5, 6, 7, 8, 9, 10, 11] rfl (Lcv hG C (by omega) S59 hk hcs hin hd hat' _ _ _ _ _ _ _ 16500 99500 _ _ (by omega) (by omega) (t.length + 1) 0 (by omega) ?_)
  refine az_iload C 0 dL_sails_360 rfl ?_
  refine az_iload C 2 dL_sails_362 rfl ?_
  refine az_icmp_ne C 378 dL_sails_364 (by decide) (fun q => absurd eP.symm q) (fun _ => ?_)
  refine az_iload C 1 dL_sails_367 rfl ?_
  refine az_iload C 5 dL_sails_369 rfl ?_
  refine az_icmp_ne C 378 dL_sails_371 (by decide) (fun q => absurd (by rw [(thr_sum hn1 hn6 S59.z10).2, (thr_sum hn1 hn6 S.z10).1]; exact wt_eq) q) (fun _ => ?_)
  refine az_iconst C (v := 1) dL_sails_374 (by decide) ?_
  refine az_goto C 379 dL_sails_375 (by decide) ?_
  exact az_zret C .boolean rfl rfl dL_sails_379 (by show _ ≤ 16500; omega) (by show _ ≤ 99500; omega) ⟨_, _, _, _, _, _, rfl, rfl, rfl, rfl, S59⟩

theorem sails_ok (hG : az_okS l G) (hc : c ≤ 60) (S : ST c ρ x M n nr nb cs) (hk : k < nb) (hd : dst < nr) : az_M l G yL_sails (az_ws yL_sails cL_sails 12 (Option.some FieldType.boolean)) 12 [.ref (ρ.1 0), .int (nI k), .int (nI dst)] (AD ρ) (KK G ρ x m ou) 16500 99500 (OkW G ρ ou (c + 1) nr nb) := by
  obtain ⟨rl, f, t, r, a1, a2, a3, a4, a5, hr, h4, hnd, hcs, hq, hat, hs⟩ := S.1.voy hk
  have hin : k ∈ f :: t := a2.2.2.2.2.2.2.2
  have hat' := hat k hin
  have S' := S.le (Nat.le_succ c)
  by_cases he : r = dst
  · subst he
    exact XsaE hG (by omega) S' hk hcs hin hr hat'
  · by_cases hz : (canR M nr f t r dst).2 = 0
    · exact XsaR hG (by omega) S' hk hcs hin hr hat' hd he hz
    · exact XsaD hG (by omega) S hk hcs hin hr hat' hd he hz
end
