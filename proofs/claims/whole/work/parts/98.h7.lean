section
variable {l : Launch} {G : az_G} {Q : State → Prop} {p : Program} {e : Env} {s : State} {mm : MethodId} {args : Array Value} {below : List Frame} {meth : Method} {cd : Code} {tab : List ExceptionTableEntry} {b L i qx qm qo : Nat} {xs : Nat → Int32}
variable {ρ : Rp} {x : Xs} {m : Ms} {ou : Nat → Int64}
set_option maxHeartbeats 4000000 in
set_option maxRecDepth 100000 in
theorem L_refusalLock (C : az_C l G p s mm args meth cd cL_law RL 9 (some FieldType.boolean) tab) (hG : az_okS l G) (S : lwS G b L xs s) (hi : i + 6 ≤ L) {c : Nat} (hc : c < 512) (h : Nx c ρ x m) (e0 : ρ.1 0 = qx) (e1 : ρ.1 100 = qm) (e2 : ρ.1 90 = qo) (kk : lwN l G Q p e s mm args below meth cd b i qx qm qo c) : az_W l G 9 Q p e room_1 s mm args below meth cd (AD ρ) (KK G ρ x m ou) (kB c ρ) (nB c ρ) 2040 (lvL b i qx qm qo) [] := by
  subst e0; subst e1; subst e2
  refine az_aload_n C 3 dL_law_2040 rfl ?_
  refine az_aload_n C 1 dL_law_2041 rfl ?_
  obtain ⟨mc, ms, hgm, hM⟩ := H_refusalLock hG  (O_refusalLock hG hc h ) ou
  have hr := room_k hgm hc
  refine az_callH C Y_L_refusalLock [.ref (ρ.1 0), .ref (ρ.1 90)] [] wm_L_261 wst_L_refusalLock dL_law_2042 rfl hM rfl (Nat.le_of_ble_eq_true rfl) (Nat.le_of_ble_eq_true rfl) (Nat.le_of_ble_eq_true rfl) hr.1 hr.2 (fun v ad9 K9 hp => ?_) (fun E ad9 K9 hp => ?_)
  · obtain ⟨k9, ρ', x', ou', h9, rfl, rfl, hρ, hgr, d, hd, post, hMM, hpost⟩ := hp
    cases h9
    rw [congrFun hρ 100] at hMM
    have hn := room_n (c := c) hgr
    refine az_istore C (lv' := [(5, .int k9), (4, .int (nI i)), (3, .ref (ρ.1 90)), (2, .ref (ρ.1 100)), (1, .ref (ρ.1 0)), (0, .ref b)]) dL_law_2045 (by decide) rfl ?_
    refine az_aload_n C 3 dL_law_2047 rfl ?_
    refine az_callV C Y_X4_refusalLock cX4 2 0 [] [] wm_L_263 wi_X4_refusalLock wse_X4_refusalLock dL_law_2048 (congrFun hρ 100) rfl rfl hMM rfl (Nat.le_of_ble_eq_true rfl) (by show d + 1 ≤ 2048; omega) (by show 19 + 1 + 40 * d ≤ 84000; omega) hr.1 hr.2 (fun v ad9 K9 hp2 => ?_) (fun E ad9 K9 hp2 => ?_)
    · obtain ⟨bv, w, m', h9, hcv, rfl, rfl, hk0, hw, hN⟩ := hpost _ _ _ hp2
      cases h9
      obtain ⟨u, rfl, rfl⟩ := hcv
      refine az_istore C (lv' := [(6, .int u), (5, .int k9), (4, .int (nI i)), (3, .ref (ρ.1 90)), (2, .ref (ρ.1 100)), (1, .ref (ρ.1 0)), (0, .ref b)]) dL_law_2051 (by decide) rfl ?_
      refine az_aload_n C 4 dL_law_2053 rfl ?_
      have gT := Mthrown (ρ := ρ') (x := x') (m := m') (ou := ou') hG
      rw [congrFun hρ 100] at gT
      refine az_callV C Y_X4_thrown cX4 2 0 [] [] wm_L_159 wi_X4_thrown wse_X4_thrown dL_law_2054 (congrFun hρ 100) rfl rfl gT rfl (Nat.le_of_ble_eq_true rfl) (Nat.le_of_ble_eq_true rfl) (Nat.le_of_ble_eq_true rfl) hr.1 hr.2 (az_k1 rfl rfl ?_) (az_k0 rfl)
      refine az_top k9 hk0 ?_
      refine az_iload C 1 dL_law_2057 rfl ?_
      refine az_icmp_eq C 2064 dL_law_2059 (by decide) (fun _ => ?_) (fun q => absurd rfl q)
      refine az_iload C 1 dL_law_2064 rfl ?_
      have fin : az_W l G 9 Q p e room_1 s mm args below meth cd (AD ρ') (KK G ρ' x' m' ou') (kB c ρ + mc + 0 + 0) (nB c ρ + ms + 0 + 0) 2081 [(6, .int u), (5, .int k9), (4, .int (nI i)), (3, .ref (ρ.1 90)), (2, .ref (ρ.1 100)), (1, .ref (ρ.1 0)), (0, .ref b)] [] := by
        refine az_goto C 2935 dL_law_2081 (by decide) ?_
        exact az_lv [2, 3, 4, 5, 6] rfl (az_kn _ _ hn.1 hn.2 (kk ρ' x' m' ou' (congrFun hρ 0) (congrFun hρ 100) (congrFun hρ 90) hN))
      refine az_if_ne C 2081 dL_law_2066 (by decide) (fun _ => fin) (fun h0 => ?_)
      refine az_aload_n C 3 dL_law_2069 rfl ?_
      refine az_iconst C (v := 0) dL_law_2070 (by decide) ?_
      refine az_lald C (N := 1) (f := ou') 3 0 dL_law_2071 (congrFun hρ 90) KK_3 vi_01 ?_
      refine az_iload C 0 dL_law_2072 rfl ?_
      refine az_i2l C dL_law_2074 ?_
      refine az_lcmp C dL_law_2075 ?_
      refine az_top 0 (by rw [show ou' (0 : Int32).toNatClampNeg = u.toInt64 from hw h0]; exact lgc_self _) ?_
      exact az_if_eq C 2081 dL_law_2076 (by decide) (fun _ => fin) (fun q => absurd rfl q)
    · obtain ⟨_, _, _, h9, _⟩ := hpost _ _ _ hp2
      cases h9
  · obtain ⟨_, _, _, _, h9, _⟩ := hp
    cases h9
set_option maxHeartbeats 4000000 in
set_option maxRecDepth 100000 in
theorem L_priceIn (C : az_C l G p s mm args meth cd cL_law RL 9 (some FieldType.boolean) tab) (hG : az_okS l G) (S : lwS G b L xs s) (hi : i + 6 ≤ L) {c : Nat} (hc : c < 512) (h : Nx c ρ x m) (e0 : ρ.1 0 = qx) (e1 : ρ.1 100 = qm) (e2 : ρ.1 90 = qo) (kk : lwN l G Q p e s mm args below meth cd b i qx qm qo c) : az_W l G 9 Q p e room_1 s mm args below meth cd (AD ρ) (KK G ρ x m ou) (kB c ρ) (nB c ρ) 2084 (lvL b i qx qm qo) [] := by
  subst e0; subst e1; subst e2
  refine az_aload_n C 3 dL_law_2084 rfl ?_
  refine az_arg C (i := i) (j := 1) (z0 := 4) (z4 := 0) S dL_law_2085 dL_law_2086 dL_law_2088 dL_law_2089 dL_law_2090 rfl rfl rfl (by omega) ?_
  refine az_aload_n C 1 dL_law_2091 rfl ?_
  obtain ⟨mc, ms, hgm, hM⟩ := H_priceIn hG (xs (i + 1)) (O_priceIn hG hc h (xs (i + 1))) ou
  have hr := room_k hgm hc
  refine az_callH C Y_L_priceIn [.ref (ρ.1 0), .int (xs (i + 1)), .ref (ρ.1 90)] [] wm_L_264 wst_L_priceIn dL_law_2092 rfl hM rfl (Nat.le_of_ble_eq_true rfl) (Nat.le_of_ble_eq_true rfl) (Nat.le_of_ble_eq_true rfl) hr.1 hr.2 (fun v ad9 K9 hp => ?_) (fun E ad9 K9 hp => ?_)
  · obtain ⟨k9, ρ', x', ou', h9, rfl, rfl, hρ, hgr, d, hd, post, hMM, hpost⟩ := hp
    cases h9
    rw [congrFun hρ 100] at hMM
    have hn := room_n (c := c) hgr
    refine az_istore C (lv' := [(5, .int k9), (4, .int (nI i)), (3, .ref (ρ.1 90)), (2, .ref (ρ.1 100)), (1, .ref (ρ.1 0)), (0, .ref b)]) dL_law_2095 (by decide) rfl ?_
    refine az_aload_n C 3 dL_law_2097 rfl ?_
    refine az_arg C (i := i) (j := 1) (z0 := 5) (z4 := 1) S dL_law_2098 dL_law_2099 dL_law_2101 dL_law_2102 dL_law_2103 rfl rfl rfl (by omega) ?_
    refine az_callV C Y_X4_priceIn cX4 2 0 [.int (xs (i + 1))] [] wm_L_266 wi_X4_priceIn wse_X4_priceIn dL_law_2104 (congrFun hρ 100) rfl rfl hMM rfl (Nat.le_of_ble_eq_true rfl) (by show d + 1 ≤ 2048; omega) (by show 19 + 2 + 40 * d ≤ 84000; omega) hr.1 hr.2 (fun v ad9 K9 hp2 => ?_) (fun E ad9 K9 hp2 => ?_)
    · obtain ⟨bv, w, m', h9, hcv, rfl, rfl, hk0, hw, hN⟩ := hpost _ _ _ hp2
      cases h9
      obtain ⟨u, rfl, rfl⟩ := hcv
      refine az_istore C (lv' := [(6, .int u), (5, .int k9), (4, .int (nI i)), (3, .ref (ρ.1 90)), (2, .ref (ρ.1 100)), (1, .ref (ρ.1 0)), (0, .ref b)]) dL_law_2107 (by decide) rfl ?_
      refine az_aload_n C 4 dL_law_2109 rfl ?_
      have gT := Mthrown (ρ := ρ') (x := x') (m := m') (ou := ou') hG
      rw [congrFun hρ 100] at gT
      refine az_callV C Y_X4_thrown cX4 2 0 [] [] wm_L_159 wi_X4_thrown wse_X4_thrown dL_law_2110 (congrFun hρ 100) rfl rfl gT rfl (Nat.le_of_ble_eq_true rfl) (Nat.le_of_ble_eq_true rfl) (Nat.le_of_ble_eq_true rfl) hr.1 hr.2 (az_k1 rfl rfl ?_) (az_k0 rfl)
      refine az_top k9 hk0 ?_
      refine az_iload C 1 dL_law_2113 rfl ?_
      refine az_icmp_eq C 2120 dL_law_2115 (by decide) (fun _ => ?_) (fun q => absurd rfl q)
      refine az_iload C 1 dL_law_2120 rfl ?_
      have fin : az_W l G 9 Q p e room_1 s mm args below meth cd (AD ρ') (KK G ρ' x' m' ou') (kB c ρ + mc + 0 + 0) (nB c ρ + ms + 0 + 0) 2137 [(6, .int u), (5, .int k9), (4, .int (nI i)), (3, .ref (ρ.1 90)), (2, .ref (ρ.1 100)), (1, .ref (ρ.1 0)), (0, .ref b)] [] := by
        refine az_goto C 2935 dL_law_2137 (by decide) ?_
        exact az_lv [2, 3, 4, 5, 6] rfl (az_kn _ _ hn.1 hn.2 (kk ρ' x' m' ou' (congrFun hρ 0) (congrFun hρ 100) (congrFun hρ 90) hN))
      refine az_if_ne C 2137 dL_law_2122 (by decide) (fun _ => fin) (fun h0 => ?_)
      refine az_aload_n C 3 dL_law_2125 rfl ?_
      refine az_iconst C (v := 0) dL_law_2126 (by decide) ?_
      refine az_lald C (N := 1) (f := ou') 3 0 dL_law_2127 (congrFun hρ 90) KK_3 vi_01 ?_
      refine az_iload C 0 dL_law_2128 rfl ?_
      refine az_i2l C dL_law_2130 ?_
      refine az_lcmp C dL_law_2131 ?_
      refine az_top 0 (by rw [show ou' (0 : Int32).toNatClampNeg = u.toInt64 from hw h0]; exact lgc_self _) ?_
      exact az_if_eq C 2137 dL_law_2132 (by decide) (fun _ => fin) (fun q => absurd rfl q)
    · obtain ⟨_, _, _, h9, _⟩ := hpost _ _ _ hp2
      cases h9
  · obtain ⟨_, _, _, _, h9, _⟩ := hp
    cases h9
set_option maxHeartbeats 4000000 in
set_option maxRecDepth 100000 in
theorem L_buy (C : az_C l G p s mm args meth cd cL_law RL 9 (some FieldType.boolean) tab) (hG : az_okS l G) (S : lwS G b L xs s) (hi : i + 6 ≤ L) {c : Nat} (hc : c < 512) (h : Nx c ρ x m) (e0 : ρ.1 0 = qx) (e1 : ρ.1 100 = qm) (e2 : ρ.1 90 = qo) (kk : lwN l G Q p e s mm args below meth cd b i qx qm qo c) : az_W l G 9 Q p e room_1 s mm args below meth cd (AD ρ) (KK G ρ x m ou) (kB c ρ) (nB c ρ) 2154 (lvL b i qx qm qo) [] := by
  subst e0; subst e1; subst e2
  refine az_aload_n C 3 dL_law_2154 rfl ?_
  refine az_arg C (i := i) (j := 1) (z0 := 4) (z4 := 0) S dL_law_2155 dL_law_2156 dL_law_2158 dL_law_2159 dL_law_2160 rfl rfl rfl (by omega) ?_
  refine az_arg C (i := i) (j := 2) (z0 := 4) (z4 := 0) S dL_law_2161 dL_law_2162 dL_law_2164 dL_law_2165 dL_law_2166 rfl rfl rfl (by omega) ?_
  refine az_aload_n C 1 dL_law_2167 rfl ?_
  obtain ⟨mc, ms, hgm, hM⟩ := H_buy hG (xs (i + 1)) (xs (i + 2)) (O_buy hG hc h (xs (i + 1)) (xs (i + 2))) ou
  have hr := room_k hgm hc
  refine az_callH C Y_L_buy [.ref (ρ.1 0), .int (xs (i + 1)), .int (xs (i + 2)), .ref (ρ.1 90)] [] wm_L_272 wst_L_buy dL_law_2168 rfl hM rfl (Nat.le_of_ble_eq_true rfl) (Nat.le_of_ble_eq_true rfl) (Nat.le_of_ble_eq_true rfl) hr.1 hr.2 (fun v ad9 K9 hp => ?_) (fun E ad9 K9 hp => ?_)
  · obtain ⟨k9, ρ', x', ou', h9, rfl, rfl, hρ, hgr, d, hd, post, hMM, hpost⟩ := hp
    cases h9
    rw [congrFun hρ 100] at hMM
    have hn := room_n (c := c) hgr
    refine az_istore C (lv' := [(5, .int k9), (4, .int (nI i)), (3, .ref (ρ.1 90)), (2, .ref (ρ.1 100)), (1, .ref (ρ.1 0)), (0, .ref b)]) dL_law_2171 (by decide) rfl ?_
    refine az_aload_n C 3 dL_law_2173 rfl ?_
    refine az_arg C (i := i) (j := 1) (z0 := 5) (z4 := 1) S dL_law_2174 dL_law_2175 dL_law_2177 dL_law_2178 dL_law_2179 rfl rfl rfl (by omega) ?_
    refine az_arg C (i := i) (j := 2) (z0 := 5) (z4 := 1) S dL_law_2180 dL_law_2181 dL_law_2183 dL_law_2184 dL_law_2185 rfl rfl rfl (by omega) ?_
    refine az_callV C Y_X4_buy cX4 2 0 [.int (xs (i + 1)), .int (xs (i + 2))] [] wm_L_274 wi_X4_buy wse_X4_buy dL_law_2186 (congrFun hρ 100) rfl rfl hMM rfl (Nat.le_of_ble_eq_true rfl) (by show d + 1 ≤ 2048; omega) (by show 19 + 6 + 40 * d ≤ 84000; omega) hr.1 hr.2 (fun v ad9 K9 hp2 => ?_) (fun E ad9 K9 hp2 => ?_)
    · obtain ⟨bv, w, m', h9, hcv, rfl, rfl, hk0, hw, hN⟩ := hpost _ _ _ hp2
      cases h9
      cases hcv
      refine az_lstore C (lv' := [(6, .long w), (5, .int k9), (4, .int (nI i)), (3, .ref (ρ.1 90)), (2, .ref (ρ.1 100)), (1, .ref (ρ.1 0)), (0, .ref b)]) dL_law_2189 (by decide) rfl ?_
      refine az_aload_n C 4 dL_law_2191 rfl ?_
      have gT := Mthrown (ρ := ρ') (x := x') (m := m') (ou := ou') hG
      rw [congrFun hρ 100] at gT
      refine az_callV C Y_X4_thrown cX4 2 0 [] [] wm_L_159 wi_X4_thrown wse_X4_thrown dL_law_2192 (congrFun hρ 100) rfl rfl gT rfl (Nat.le_of_ble_eq_true rfl) (Nat.le_of_ble_eq_true rfl) (Nat.le_of_ble_eq_true rfl) hr.1 hr.2 (az_k1 rfl rfl ?_) (az_k0 rfl)
      refine az_top k9 hk0 ?_
      refine az_iload C 1 dL_law_2195 rfl ?_
      refine az_icmp_eq C 2202 dL_law_2197 (by decide) (fun _ => ?_) (fun q => absurd rfl q)
      refine az_iload C 1 dL_law_2202 rfl ?_
      have fin : az_W l G 9 Q p e room_1 s mm args below meth cd (AD ρ') (KK G ρ' x' m' ou') (kB c ρ + mc + 0 + 0) (nB c ρ + ms + 0 + 0) 2218 [(6, .long w), (5, .int k9), (4, .int (nI i)), (3, .ref (ρ.1 90)), (2, .ref (ρ.1 100)), (1, .ref (ρ.1 0)), (0, .ref b)] [] := by
        refine az_goto C 2935 dL_law_2218 (by decide) ?_
        exact az_lv [2, 3, 4, 5, 6] rfl (az_kn _ _ hn.1 hn.2 (kk ρ' x' m' ou' (congrFun hρ 0) (congrFun hρ 100) (congrFun hρ 90) hN))
      refine az_if_ne C 2218 dL_law_2204 (by decide) (fun _ => fin) (fun h0 => ?_)
      refine az_aload_n C 3 dL_law_2207 rfl ?_
      refine az_iconst C (v := 0) dL_law_2208 (by decide) ?_
      refine az_lald C (N := 1) (f := ou') 3 0 dL_law_2209 (congrFun hρ 90) KK_3 vi_01 ?_
      refine az_lload C 0 dL_law_2210 rfl ?_
      refine az_lcmp C dL_law_2212 ?_
      refine az_top 0 (by rw [show ou' (0 : Int32).toNatClampNeg = w from hw h0]; exact lgc_self _) ?_
      exact az_if_eq C 2218 dL_law_2213 (by decide) (fun _ => fin) (fun q => absurd rfl q)
    · obtain ⟨_, _, _, h9, _⟩ := hpost _ _ _ hp2
      cases h9
  · obtain ⟨_, _, _, _, h9, _⟩ := hp
    cases h9
set_option maxHeartbeats 4000000 in
set_option maxRecDepth 100000 in
theorem L_sell (C : az_C l G p s mm args meth cd cL_law RL 9 (some FieldType.boolean) tab) (hG : az_okS l G) (S : lwS G b L xs s) (hi : i + 6 ≤ L) {c : Nat} (hc : c < 512) (h : Nx c ρ x m) (e0 : ρ.1 0 = qx) (e1 : ρ.1 100 = qm) (e2 : ρ.1 90 = qo) (kk : lwN l G Q p e s mm args below meth cd b i qx qm qo c) : az_W l G 9 Q p e room_1 s mm args below meth cd (AD ρ) (KK G ρ x m ou) (kB c ρ) (nB c ρ) 2221 (lvL b i qx qm qo) [] := by
  subst e0; subst e1; subst e2
  refine az_aload_n C 3 dL_law_2221 rfl ?_
  refine az_arg C (i := i) (j := 1) (z0 := 4) (z4 := 0) S dL_law_2222 dL_law_2223 dL_law_2225 dL_law_2226 dL_law_2227 rfl rfl rfl (by omega) ?_
  refine az_arg C (i := i) (j := 2) (z0 := 4) (z4 := 0) S dL_law_2228 dL_law_2229 dL_law_2231 dL_law_2232 dL_law_2233 rfl rfl rfl (by omega) ?_
  refine az_aload_n C 1 dL_law_2234 rfl ?_
  obtain ⟨mc, ms, hgm, hM⟩ := H_sell hG (xs (i + 1)) (xs (i + 2)) (O_sell hG hc h (xs (i + 1)) (xs (i + 2))) ou
  have hr := room_k hgm hc
  refine az_callH C Y_L_sell [.ref (ρ.1 0), .int (xs (i + 1)), .int (xs (i + 2)), .ref (ρ.1 90)] [] wm_L_275 wst_L_sell dL_law_2235 rfl hM rfl (Nat.le_of_ble_eq_true rfl) (Nat.le_of_ble_eq_true rfl) (Nat.le_of_ble_eq_true rfl) hr.1 hr.2 (fun v ad9 K9 hp => ?_) (fun E ad9 K9 hp => ?_)
  · obtain ⟨k9, ρ', x', ou', h9, rfl, rfl, hρ, hgr, d, hd, post, hMM, hpost⟩ := hp
    cases h9
    rw [congrFun hρ 100] at hMM
    have hn := room_n (c := c) hgr
    refine az_istore C (lv' := [(5, .int k9), (4, .int (nI i)), (3, .ref (ρ.1 90)), (2, .ref (ρ.1 100)), (1, .ref (ρ.1 0)), (0, .ref b)]) dL_law_2238 (by decide) rfl ?_
    refine az_aload_n C 3 dL_law_2240 rfl ?_
    refine az_arg C (i := i) (j := 1) (z0 := 5) (z4 := 1) S dL_law_2241 dL_law_2242 dL_law_2244 dL_law_2245 dL_law_2246 rfl rfl rfl (by omega) ?_
    refine az_arg C (i := i) (j := 2) (z0 := 5) (z4 := 1) S dL_law_2247 dL_law_2248 dL_law_2250 dL_law_2251 dL_law_2252 rfl rfl rfl (by omega) ?_
    refine az_callV C Y_X4_sell cX4 2 0 [.int (xs (i + 1)), .int (xs (i + 2))] [] wm_L_277 wi_X4_sell wse_X4_sell dL_law_2253 (congrFun hρ 100) rfl rfl hMM rfl (Nat.le_of_ble_eq_true rfl) (by show d + 1 ≤ 2048; omega) (by show 19 + 3 + 40 * d ≤ 84000; omega) hr.1 hr.2 (fun v ad9 K9 hp2 => ?_) (fun E ad9 K9 hp2 => ?_)
    · obtain ⟨bv, w, m', h9, hcv, rfl, rfl, hk0, hw, hN⟩ := hpost _ _ _ hp2
      cases h9
      cases hcv
      refine az_lstore C (lv' := [(6, .long w), (5, .int k9), (4, .int (nI i)), (3, .ref (ρ.1 90)), (2, .ref (ρ.1 100)), (1, .ref (ρ.1 0)), (0, .ref b)]) dL_law_2256 (by decide) rfl ?_
      refine az_aload_n C 4 dL_law_2258 rfl ?_
      have gT := Mthrown (ρ := ρ') (x := x') (m := m') (ou := ou') hG
      rw [congrFun hρ 100] at gT
      refine az_callV C Y_X4_thrown cX4 2 0 [] [] wm_L_159 wi_X4_thrown wse_X4_thrown dL_law_2259 (congrFun hρ 100) rfl rfl gT rfl (Nat.le_of_ble_eq_true rfl) (Nat.le_of_ble_eq_true rfl) (Nat.le_of_ble_eq_true rfl) hr.1 hr.2 (az_k1 rfl rfl ?_) (az_k0 rfl)
      refine az_top k9 hk0 ?_
      refine az_iload C 1 dL_law_2262 rfl ?_
      refine az_icmp_eq C 2269 dL_law_2264 (by decide) (fun _ => ?_) (fun q => absurd rfl q)
      refine az_iload C 1 dL_law_2269 rfl ?_
      have fin : az_W l G 9 Q p e room_1 s mm args below meth cd (AD ρ') (KK G ρ' x' m' ou') (kB c ρ + mc + 0 + 0) (nB c ρ + ms + 0 + 0) 2285 [(6, .long w), (5, .int k9), (4, .int (nI i)), (3, .ref (ρ.1 90)), (2, .ref (ρ.1 100)), (1, .ref (ρ.1 0)), (0, .ref b)] [] := by
        refine az_goto C 2935 dL_law_2285 (by decide) ?_
        exact az_lv [2, 3, 4, 5, 6] rfl (az_kn _ _ hn.1 hn.2 (kk ρ' x' m' ou' (congrFun hρ 0) (congrFun hρ 100) (congrFun hρ 90) hN))
      refine az_if_ne C 2285 dL_law_2271 (by decide) (fun _ => fin) (fun h0 => ?_)
      refine az_aload_n C 3 dL_law_2274 rfl ?_
      refine az_iconst C (v := 0) dL_law_2275 (by decide) ?_
      refine az_lald C (N := 1) (f := ou') 3 0 dL_law_2276 (congrFun hρ 90) KK_3 vi_01 ?_
      refine az_lload C 0 dL_law_2277 rfl ?_
      refine az_lcmp C dL_law_2279 ?_
      refine az_top 0 (by rw [show ou' (0 : Int32).toNatClampNeg = w from hw h0]; exact lgc_self _) ?_
      exact az_if_eq C 2285 dL_law_2280 (by decide) (fun _ => fin) (fun q => absurd rfl q)
    · obtain ⟨_, _, _, h9, _⟩ := hpost _ _ _ hp2
      cases h9
  · obtain ⟨_, _, _, _, h9, _⟩ := hp
    cases h9
set_option maxHeartbeats 4000000 in
set_option maxRecDepth 100000 in
theorem L_sellToDraught (C : az_C l G p s mm args meth cd cL_law RL 9 (some FieldType.boolean) tab) (hG : az_okS l G) (S : lwS G b L xs s) (hi : i + 6 ≤ L) {c : Nat} (hc : c < 512) (h : Nx c ρ x m) (e0 : ρ.1 0 = qx) (e1 : ρ.1 100 = qm) (e2 : ρ.1 90 = qo) (kk : lwN l G Q p e s mm args below meth cd b i qx qm qo c) : az_W l G 9 Q p e room_1 s mm args below meth cd (AD ρ) (KK G ρ x m ou) (kB c ρ) (nB c ρ) 2288 (lvL b i qx qm qo) [] := by
  subst e0; subst e1; subst e2
  refine az_aload_n C 3 dL_law_2288 rfl ?_
  refine az_arg C (i := i) (j := 1) (z0 := 4) (z4 := 0) S dL_law_2289 dL_law_2290 dL_law_2292 dL_law_2293 dL_law_2294 rfl rfl rfl (by omega) ?_
  refine az_arg C (i := i) (j := 2) (z0 := 4) (z4 := 0) S dL_law_2295 dL_law_2296 dL_law_2298 dL_law_2299 dL_law_2300 rfl rfl rfl (by omega) ?_
  refine az_aload_n C 1 dL_law_2301 rfl ?_
  obtain ⟨mc, ms, hgm, hM⟩ := H_sellToDraught hG (xs (i + 1)) (xs (i + 2)) (O_sellToDraught hG hc h (xs (i + 1)) (xs (i + 2))) ou
  have hr := room_k hgm hc
  refine az_callH C Y_L_sellToDraught [.ref (ρ.1 0), .int (xs (i + 1)), .int (xs (i + 2)), .ref (ρ.1 90)] [] wm_L_278 wst_L_sellToDraught dL_law_2302 rfl hM rfl (Nat.le_of_ble_eq_true rfl) (Nat.le_of_ble_eq_true rfl) (Nat.le_of_ble_eq_true rfl) hr.1 hr.2 (fun v ad9 K9 hp => ?_) (fun E ad9 K9 hp => ?_)
  · obtain ⟨k9, ρ', x', ou', h9, rfl, rfl, hρ, hgr, d, hd, post, hMM, hpost⟩ := hp
    cases h9
    rw [congrFun hρ 100] at hMM
    have hn := room_n (c := c) hgr
    refine az_istore C (lv' := [(5, .int k9), (4, .int (nI i)), (3, .ref (ρ.1 90)), (2, .ref (ρ.1 100)), (1, .ref (ρ.1 0)), (0, .ref b)]) dL_law_2305 (by decide) rfl ?_
    refine az_aload_n C 3 dL_law_2307 rfl ?_
    refine az_arg C (i := i) (j := 1) (z0 := 5) (z4 := 1) S dL_law_2308 dL_law_2309 dL_law_2311 dL_law_2312 dL_law_2313 rfl rfl rfl (by omega) ?_
    refine az_arg C (i := i) (j := 2) (z0 := 5) (z4 := 1) S dL_law_2314 dL_law_2315 dL_law_2317 dL_law_2318 dL_law_2319 rfl rfl rfl (by omega) ?_
    refine az_callV C Y_X4_sellToDraught cX4 2 0 [.int (xs (i + 1)), .int (xs (i + 2))] [] wm_L_280 wi_X4_sellToDraught wse_X4_sellToDraught dL_law_2320 (congrFun hρ 100) rfl rfl hMM rfl (Nat.le_of_ble_eq_true rfl) (by show d + 1 ≤ 2048; omega) (by show 19 + 4 + 40 * d ≤ 84000; omega) hr.1 hr.2 (fun v ad9 K9 hp2 => ?_) (fun E ad9 K9 hp2 => ?_)
    · obtain ⟨bv, w, m', h9, hcv, rfl, rfl, hk0, hw, hN⟩ := hpost _ _ _ hp2
      cases h9
      obtain ⟨u, rfl, rfl⟩ := hcv
      refine az_istore C (lv' := [(6, .int u), (5, .int k9), (4, .int (nI i)), (3, .ref (ρ.1 90)), (2, .ref (ρ.1 100)), (1, .ref (ρ.1 0)), (0, .ref b)]) dL_law_2323 (by decide) rfl ?_
      refine az_aload_n C 4 dL_law_2325 rfl ?_
      have gT := Mthrown (ρ := ρ') (x := x') (m := m') (ou := ou') hG
      rw [congrFun hρ 100] at gT
      refine az_callV C Y_X4_thrown cX4 2 0 [] [] wm_L_159 wi_X4_thrown wse_X4_thrown dL_law_2326 (congrFun hρ 100) rfl rfl gT rfl (Nat.le_of_ble_eq_true rfl) (Nat.le_of_ble_eq_true rfl) (Nat.le_of_ble_eq_true rfl) hr.1 hr.2 (az_k1 rfl rfl ?_) (az_k0 rfl)
      refine az_top k9 hk0 ?_
      refine az_iload C 1 dL_law_2329 rfl ?_
      refine az_icmp_eq C 2336 dL_law_2331 (by decide) (fun _ => ?_) (fun q => absurd rfl q)
      refine az_iload C 1 dL_law_2336 rfl ?_
      have fin : az_W l G 9 Q p e room_1 s mm args below meth cd (AD ρ') (KK G ρ' x' m' ou') (kB c ρ + mc + 0 + 0) (nB c ρ + ms + 0 + 0) 2353 [(6, .int u), (5, .int k9), (4, .int (nI i)), (3, .ref (ρ.1 90)), (2, .ref (ρ.1 100)), (1, .ref (ρ.1 0)), (0, .ref b)] [] := by
        refine az_goto C 2935 dL_law_2353 (by decide) ?_
        exact az_lv [2, 3, 4, 5, 6] rfl (az_kn _ _ hn.1 hn.2 (kk ρ' x' m' ou' (congrFun hρ 0) (congrFun hρ 100) (congrFun hρ 90) hN))
      refine az_if_ne C 2353 dL_law_2338 (by decide) (fun _ => fin) (fun h0 => ?_)
      refine az_aload_n C 3 dL_law_2341 rfl ?_
      refine az_iconst C (v := 0) dL_law_2342 (by decide) ?_
      refine az_lald C (N := 1) (f := ou') 3 0 dL_law_2343 (congrFun hρ 90) KK_3 vi_01 ?_
      refine az_iload C 0 dL_law_2344 rfl ?_
      refine az_i2l C dL_law_2346 ?_
      refine az_lcmp C dL_law_2347 ?_
      refine az_top 0 (by rw [show ou' (0 : Int32).toNatClampNeg = u.toInt64 from hw h0]; exact lgc_self _) ?_
      exact az_if_eq C 2353 dL_law_2348 (by decide) (fun _ => fin) (fun q => absurd rfl q)
    · obtain ⟨_, _, _, h9, _⟩ := hpost _ _ _ hp2
      cases h9
  · obtain ⟨_, _, _, _, h9, _⟩ := hp
    cases h9
set_option maxHeartbeats 4000000 in
set_option maxRecDepth 100000 in
theorem L_greatestLoad (C : az_C l G p s mm args meth cd cL_law RL 9 (some FieldType.boolean) tab) (hG : az_okS l G) (S : lwS G b L xs s) (hi : i + 6 ≤ L) {c : Nat} (hc : c < 512) (h : Nx c ρ x m) (e0 : ρ.1 0 = qx) (e1 : ρ.1 100 = qm) (e2 : ρ.1 90 = qo) (kk : lwN l G Q p e s mm args below meth cd b i qx qm qo c) : az_W l G 9 Q p e room_1 s mm args below meth cd (AD ρ) (KK G ρ x m ou) (kB c ρ) (nB c ρ) 2356 (lvL b i qx qm qo) [] := by
  subst e0; subst e1; subst e2
  refine az_aload_n C 3 dL_law_2356 rfl ?_
  refine az_arg C (i := i) (j := 1) (z0 := 4) (z4 := 0) S dL_law_2357 dL_law_2358 dL_law_2360 dL_law_2361 dL_law_2362 rfl rfl rfl (by omega) ?_
  refine az_aload_n C 1 dL_law_2363 rfl ?_
  obtain ⟨mc, ms, hgm, hM⟩ := H_greatestLoad hG (xs (i + 1)) (O_greatestLoad hG hc h (xs (i + 1))) ou
  have hr := room_k hgm hc
  refine az_callH C Y_L_greatestLoad [.ref (ρ.1 0), .int (xs (i + 1)), .ref (ρ.1 90)] [] wm_L_281 wst_L_greatestLoad dL_law_2364 rfl hM rfl (Nat.le_of_ble_eq_true rfl) (Nat.le_of_ble_eq_true rfl) (Nat.le_of_ble_eq_true rfl) hr.1 hr.2 (fun v ad9 K9 hp => ?_) (fun E ad9 K9 hp => ?_)
  · obtain ⟨k9, ρ', x', ou', h9, rfl, rfl, hρ, hgr, d, hd, post, hMM, hpost⟩ := hp
    cases h9
    rw [congrFun hρ 100] at hMM
    have hn := room_n (c := c) hgr
    refine az_istore C (lv' := [(5, .int k9), (4, .int (nI i)), (3, .ref (ρ.1 90)), (2, .ref (ρ.1 100)), (1, .ref (ρ.1 0)), (0, .ref b)]) dL_law_2367 (by decide) rfl ?_
    refine az_aload_n C 3 dL_law_2369 rfl ?_
    refine az_arg C (i := i) (j := 1) (z0 := 5) (z4 := 1) S dL_law_2370 dL_law_2371 dL_law_2373 dL_law_2374 dL_law_2375 rfl rfl rfl (by omega) ?_
    refine az_callV C Y_X4_greatestLoad cX4 2 0 [.int (xs (i + 1))] [] wm_L_283 wi_X4_greatestLoad wse_X4_greatestLoad dL_law_2376 (congrFun hρ 100) rfl rfl hMM rfl (Nat.le_of_ble_eq_true rfl) (by show d + 1 ≤ 2048; omega) (by show 19 + 3 + 40 * d ≤ 84000; omega) hr.1 hr.2 (fun v ad9 K9 hp2 => ?_) (fun E ad9 K9 hp2 => ?_)
    · obtain ⟨bv, w, m', h9, hcv, rfl, rfl, hk0, hw, hN⟩ := hpost _ _ _ hp2
      cases h9
      obtain ⟨u, rfl, rfl⟩ := hcv
      refine az_istore C (lv' := [(6, .int u), (5, .int k9), (4, .int (nI i)), (3, .ref (ρ.1 90)), (2, .ref (ρ.1 100)), (1, .ref (ρ.1 0)), (0, .ref b)]) dL_law_2379 (by decide) rfl ?_
      refine az_aload_n C 4 dL_law_2381 rfl ?_
      have gT := Mthrown (ρ := ρ') (x := x') (m := m') (ou := ou') hG
      rw [congrFun hρ 100] at gT
      refine az_callV C Y_X4_thrown cX4 2 0 [] [] wm_L_159 wi_X4_thrown wse_X4_thrown dL_law_2382 (congrFun hρ 100) rfl rfl gT rfl (Nat.le_of_ble_eq_true rfl) (Nat.le_of_ble_eq_true rfl) (Nat.le_of_ble_eq_true rfl) hr.1 hr.2 (az_k1 rfl rfl ?_) (az_k0 rfl)
      refine az_top k9 hk0 ?_
      refine az_iload C 1 dL_law_2385 rfl ?_
      refine az_icmp_eq C 2392 dL_law_2387 (by decide) (fun _ => ?_) (fun q => absurd rfl q)
      refine az_iload C 1 dL_law_2392 rfl ?_
      have fin : az_W l G 9 Q p e room_1 s mm args below meth cd (AD ρ') (KK G ρ' x' m' ou') (kB c ρ + mc + 0 + 0) (nB c ρ + ms + 0 + 0) 2409 [(6, .int u), (5, .int k9), (4, .int (nI i)), (3, .ref (ρ.1 90)), (2, .ref (ρ.1 100)), (1, .ref (ρ.1 0)), (0, .ref b)] [] := by
        refine az_goto C 2935 dL_law_2409 (by decide) ?_
        exact az_lv [2, 3, 4, 5, 6] rfl (az_kn _ _ hn.1 hn.2 (kk ρ' x' m' ou' (congrFun hρ 0) (congrFun hρ 100) (congrFun hρ 90) hN))
      refine az_if_ne C 2409 dL_law_2394 (by decide) (fun _ => fin) (fun h0 => ?_)
      refine az_aload_n C 3 dL_law_2397 rfl ?_
      refine az_iconst C (v := 0) dL_law_2398 (by decide) ?_
      refine az_lald C (N := 1) (f := ou') 3 0 dL_law_2399 (congrFun hρ 90) KK_3 vi_01 ?_
      refine az_iload C 0 dL_law_2400 rfl ?_
      refine az_i2l C dL_law_2402 ?_
      refine az_lcmp C dL_law_2403 ?_
      refine az_top 0 (by rw [show ou' (0 : Int32).toNatClampNeg = u.toInt64 from hw h0]; exact lgc_self _) ?_
      exact az_if_eq C 2409 dL_law_2404 (by decide) (fun _ => fin) (fun q => absurd rfl q)
    · obtain ⟨_, _, _, h9, _⟩ := hpost _ _ _ hp2
      cases h9
  · obtain ⟨_, _, _, _, h9, _⟩ := hp
    cases h9
set_option maxHeartbeats 4000000 in
set_option maxRecDepth 100000 in
theorem L_worthIn (C : az_C l G p s mm args meth cd cL_law RL 9 (some FieldType.boolean) tab) (hG : az_okS l G) (S : lwS G b L xs s) (hi : i + 6 ≤ L) {c : Nat} (hc : c < 512) (h : Nx c ρ x m) (e0 : ρ.1 0 = qx) (e1 : ρ.1 100 = qm) (e2 : ρ.1 90 = qo) (kk : lwN l G Q p e s mm args below meth cd b i qx qm qo c) : az_W l G 9 Q p e room_1 s mm args below meth cd (AD ρ) (KK G ρ x m ou) (kB c ρ) (nB c ρ) 2412 (lvL b i qx qm qo) [] := by
  subst e0; subst e1; subst e2
  refine az_aload_n C 3 dL_law_2412 rfl ?_
  refine az_arg C (i := i) (j := 1) (z0 := 4) (z4 := 0) S dL_law_2413 dL_law_2414 dL_law_2416 dL_law_2417 dL_law_2418 rfl rfl rfl (by omega) ?_
  refine az_arg C (i := i) (j := 2) (z0 := 4) (z4 := 0) S dL_law_2419 dL_law_2420 dL_law_2422 dL_law_2423 dL_law_2424 rfl rfl rfl (by omega) ?_
  refine az_aload_n C 1 dL_law_2425 rfl ?_
  obtain ⟨mc, ms, hgm, hM⟩ := H_worthIn hG (xs (i + 1)) (xs (i + 2)) (O_worthIn hG hc h (xs (i + 1)) (xs (i + 2))) ou
  have hr := room_k hgm hc
  refine az_callH C Y_L_worthIn [.ref (ρ.1 0), .int (xs (i + 1)), .int (xs (i + 2)), .ref (ρ.1 90)] [] wm_L_284 wst_L_worthIn dL_law_2426 rfl hM rfl (Nat.le_of_ble_eq_true rfl) (Nat.le_of_ble_eq_true rfl) (Nat.le_of_ble_eq_true rfl) hr.1 hr.2 (fun v ad9 K9 hp => ?_) (fun E ad9 K9 hp => ?_)
  · obtain ⟨k9, ρ', x', ou', h9, rfl, rfl, hρ, hgr, d, hd, post, hMM, hpost⟩ := hp
    cases h9
    rw [congrFun hρ 100] at hMM
    have hn := room_n (c := c) hgr
    refine az_istore C (lv' := [(5, .int k9), (4, .int (nI i)), (3, .ref (ρ.1 90)), (2, .ref (ρ.1 100)), (1, .ref (ρ.1 0)), (0, .ref b)]) dL_law_2429 (by decide) rfl ?_
    refine az_aload_n C 3 dL_law_2431 rfl ?_
    refine az_arg C (i := i) (j := 1) (z0 := 5) (z4 := 1) S dL_law_2432 dL_law_2433 dL_law_2435 dL_law_2436 dL_law_2437 rfl rfl rfl (by omega) ?_
    refine az_arg C (i := i) (j := 2) (z0 := 5) (z4 := 1) S dL_law_2438 dL_law_2439 dL_law_2441 dL_law_2442 dL_law_2443 rfl rfl rfl (by omega) ?_
    refine az_callV C Y_X4_worthIn cX4 2 0 [.int (xs (i + 1)), .int (xs (i + 2))] [] wm_L_286 wi_X4_worthIn wse_X4_worthIn dL_law_2444 (congrFun hρ 100) rfl rfl hMM rfl (Nat.le_of_ble_eq_true rfl) (by show d + 1 ≤ 2048; omega) (by show 19 + 3 + 40 * d ≤ 84000; omega) hr.1 hr.2 (fun v ad9 K9 hp2 => ?_) (fun E ad9 K9 hp2 => ?_)
    · obtain ⟨bv, w, m', h9, hcv, rfl, rfl, hk0, hw, hN⟩ := hpost _ _ _ hp2
      cases h9
      obtain ⟨u, rfl, rfl⟩ := hcv
      refine az_istore C (lv' := [(6, .int u), (5, .int k9), (4, .int (nI i)), (3, .ref (ρ.1 90)), (2, .ref (ρ.1 100)), (1, .ref (ρ.1 0)), (0, .ref b)]) dL_law_2447 (by decide) rfl ?_
      refine az_aload_n C 4 dL_law_2449 rfl ?_
      have gT := Mthrown (ρ := ρ') (x := x') (m := m') (ou := ou') hG
      rw [congrFun hρ 100] at gT
      refine az_callV C Y_X4_thrown cX4 2 0 [] [] wm_L_159 wi_X4_thrown wse_X4_thrown dL_law_2450 (congrFun hρ 100) rfl rfl gT rfl (Nat.le_of_ble_eq_true rfl) (Nat.le_of_ble_eq_true rfl) (Nat.le_of_ble_eq_true rfl) hr.1 hr.2 (az_k1 rfl rfl ?_) (az_k0 rfl)
      refine az_top k9 hk0 ?_
      refine az_iload C 1 dL_law_2453 rfl ?_
      refine az_icmp_eq C 2460 dL_law_2455 (by decide) (fun _ => ?_) (fun q => absurd rfl q)
      refine az_iload C 1 dL_law_2460 rfl ?_
      have fin : az_W l G 9 Q p e room_1 s mm args below meth cd (AD ρ') (KK G ρ' x' m' ou') (kB c ρ + mc + 0 + 0) (nB c ρ + ms + 0 + 0) 2477 [(6, .int u), (5, .int k9), (4, .int (nI i)), (3, .ref (ρ.1 90)), (2, .ref (ρ.1 100)), (1, .ref (ρ.1 0)), (0, .ref b)] [] := by
        refine az_goto C 2935 dL_law_2477 (by decide) ?_
        exact az_lv [2, 3, 4, 5, 6] rfl (az_kn _ _ hn.1 hn.2 (kk ρ' x' m' ou' (congrFun hρ 0) (congrFun hρ 100) (congrFun hρ 90) hN))
      refine az_if_ne C 2477 dL_law_2462 (by decide) (fun _ => fin) (fun h0 => ?_)
      refine az_aload_n C 3 dL_law_2465 rfl ?_
      refine az_iconst C (v := 0) dL_law_2466 (by decide) ?_
      refine az_lald C (N := 1) (f := ou') 3 0 dL_law_2467 (congrFun hρ 90) KK_3 vi_01 ?_
      refine az_iload C 0 dL_law_2468 rfl ?_
      refine az_i2l C dL_law_2470 ?_
      refine az_lcmp C dL_law_2471 ?_
      refine az_top 0 (by rw [show ou' (0 : Int32).toNatClampNeg = u.toInt64 from hw h0]; exact lgc_self _) ?_
      exact az_if_eq C 2477 dL_law_2472 (by decide) (fun _ => fin) (fun q => absurd rfl q)
    · obtain ⟨_, _, _, h9, _⟩ := hpost _ _ _ hp2
      cases h9
  · obtain ⟨_, _, _, _, h9, _⟩ := hp
    cases h9
set_option maxHeartbeats 4000000 in
set_option maxRecDepth 100000 in
theorem L_bestReach (C : az_C l G p s mm args meth cd cL_law RL 9 (some FieldType.boolean) tab) (hG : az_okS l G) (S : lwS G b L xs s) (hi : i + 6 ≤ L) {c : Nat} (hc : c < 512) (h : Nx c ρ x m) (e0 : ρ.1 0 = qx) (e1 : ρ.1 100 = qm) (e2 : ρ.1 90 = qo) (kk : lwN l G Q p e s mm args below meth cd b i qx qm qo c) : az_W l G 9 Q p e room_1 s mm args below meth cd (AD ρ) (KK G ρ x m ou) (kB c ρ) (nB c ρ) 2480 (lvL b i qx qm qo) [] := by
  subst e0; subst e1; subst e2
  refine az_aload_n C 3 dL_law_2480 rfl ?_
  refine az_arg C (i := i) (j := 1) (z0 := 4) (z4 := 0) S dL_law_2481 dL_law_2482 dL_law_2484 dL_law_2485 dL_law_2486 rfl rfl rfl (by omega) ?_
  refine az_aload_n C 1 dL_law_2487 rfl ?_
  obtain ⟨mc, ms, hgm, hM⟩ := H_bestReach hG (xs (i + 1)) (O_bestReach hG hc h (xs (i + 1))) ou
  have hr := room_k hgm hc
  refine az_callH C Y_L_bestReach [.ref (ρ.1 0), .int (xs (i + 1)), .ref (ρ.1 90)] [] wm_L_287 wst_L_bestReach dL_law_2488 rfl hM rfl (Nat.le_of_ble_eq_true rfl) (Nat.le_of_ble_eq_true rfl) (Nat.le_of_ble_eq_true rfl) hr.1 hr.2 (fun v ad9 K9 hp => ?_) (fun E ad9 K9 hp => ?_)
  · obtain ⟨k9, ρ', x', ou', h9, rfl, rfl, hρ, hgr, d, hd, post, hMM, hpost⟩ := hp
    cases h9
    rw [congrFun hρ 100] at hMM
    have hn := room_n (c := c) hgr
    refine az_istore C (lv' := [(5, .int k9), (4, .int (nI i)), (3, .ref (ρ.1 90)), (2, .ref (ρ.1 100)), (1, .ref (ρ.1 0)), (0, .ref b)]) dL_law_2491 (by decide) rfl ?_
    refine az_aload_n C 3 dL_law_2493 rfl ?_
    refine az_arg C (i := i) (j := 1) (z0 := 5) (z4 := 1) S dL_law_2494 dL_law_2495 dL_law_2497 dL_law_2498 dL_law_2499 rfl rfl rfl (by omega) ?_
    refine az_callV C Y_X4_bestReach cX4 2 0 [.int (xs (i + 1))] [] wm_L_289 wi_X4_bestReach wse_X4_bestReach dL_law_2500 (congrFun hρ 100) rfl rfl hMM rfl (Nat.le_of_ble_eq_true rfl) (by show d + 1 ≤ 2048; omega) (by show 19 + 4 + 40 * d ≤ 84000; omega) hr.1 hr.2 (fun v ad9 K9 hp2 => ?_) (fun E ad9 K9 hp2 => ?_)
    · obtain ⟨bv, w, m', h9, hcv, rfl, rfl, hk0, hw, hN⟩ := hpost _ _ _ hp2
      cases h9
      obtain ⟨u, rfl, rfl⟩ := hcv
      refine az_istore C (lv' := [(6, .int u), (5, .int k9), (4, .int (nI i)), (3, .ref (ρ.1 90)), (2, .ref (ρ.1 100)), (1, .ref (ρ.1 0)), (0, .ref b)]) dL_law_2503 (by decide) rfl ?_
      refine az_aload_n C 4 dL_law_2505 rfl ?_
      have gT := Mthrown (ρ := ρ') (x := x') (m := m') (ou := ou') hG
      rw [congrFun hρ 100] at gT
      refine az_callV C Y_X4_thrown cX4 2 0 [] [] wm_L_159 wi_X4_thrown wse_X4_thrown dL_law_2506 (congrFun hρ 100) rfl rfl gT rfl (Nat.le_of_ble_eq_true rfl) (Nat.le_of_ble_eq_true rfl) (Nat.le_of_ble_eq_true rfl) hr.1 hr.2 (az_k1 rfl rfl ?_) (az_k0 rfl)
      refine az_top k9 hk0 ?_
      refine az_iload C 1 dL_law_2509 rfl ?_
      refine az_icmp_eq C 2516 dL_law_2511 (by decide) (fun _ => ?_) (fun q => absurd rfl q)
      refine az_iload C 1 dL_law_2516 rfl ?_
      have fin : az_W l G 9 Q p e room_1 s mm args below meth cd (AD ρ') (KK G ρ' x' m' ou') (kB c ρ + mc + 0 + 0) (nB c ρ + ms + 0 + 0) 2533 [(6, .int u), (5, .int k9), (4, .int (nI i)), (3, .ref (ρ.1 90)), (2, .ref (ρ.1 100)), (1, .ref (ρ.1 0)), (0, .ref b)] [] := by
        refine az_goto C 2935 dL_law_2533 (by decide) ?_
        exact az_lv [2, 3, 4, 5, 6] rfl (az_kn _ _ hn.1 hn.2 (kk ρ' x' m' ou' (congrFun hρ 0) (congrFun hρ 100) (congrFun hρ 90) hN))
      refine az_if_ne C 2533 dL_law_2518 (by decide) (fun _ => fin) (fun h0 => ?_)
      refine az_aload_n C 3 dL_law_2521 rfl ?_
      refine az_iconst C (v := 0) dL_law_2522 (by decide) ?_
      refine az_lald C (N := 1) (f := ou') 3 0 dL_law_2523 (congrFun hρ 90) KK_3 vi_01 ?_
      refine az_iload C 0 dL_law_2524 rfl ?_
      refine az_i2l C dL_law_2526 ?_
      refine az_lcmp C dL_law_2527 ?_
      refine az_top 0 (by rw [show ou' (0 : Int32).toNatClampNeg = u.toInt64 from hw h0]; exact lgc_self _) ?_
      exact az_if_eq C 2533 dL_law_2528 (by decide) (fun _ => fin) (fun q => absurd rfl q)
    · obtain ⟨_, _, _, h9, _⟩ := hpost _ _ _ hp2
      cases h9
  · obtain ⟨_, _, _, _, h9, _⟩ := hp
    cases h9
set_option maxHeartbeats 4000000 in
set_option maxRecDepth 100000 in
theorem L_movementFrom (C : az_C l G p s mm args meth cd cL_law RL 9 (some FieldType.boolean) tab) (hG : az_okS l G) (S : lwS G b L xs s) (hi : i + 6 ≤ L) {c : Nat} (hc : c < 512) (h : Nx c ρ x m) (e0 : ρ.1 0 = qx) (e1 : ρ.1 100 = qm) (e2 : ρ.1 90 = qo) (kk : lwN l G Q p e s mm args below meth cd b i qx qm qo c) : az_W l G 9 Q p e room_1 s mm args below meth cd (AD ρ) (KK G ρ x m ou) (kB c ρ) (nB c ρ) 2601 (lvL b i qx qm qo) [] := by
  subst e0; subst e1; subst e2
  refine az_aload_n C 3 dL_law_2601 rfl ?_
  refine az_arg C (i := i) (j := 1) (z0 := 4) (z4 := 0) S dL_law_2602 dL_law_2603 dL_law_2605 dL_law_2606 dL_law_2607 rfl rfl rfl (by omega) ?_
  refine az_aload_n C 1 dL_law_2608 rfl ?_
  obtain ⟨mc, ms, hgm, hM⟩ := H_movementFrom hG (xs (i + 1)) (O_movementFrom hG hc h (xs (i + 1))) ou
  have hr := room_k hgm hc
  refine az_callH C Y_L_movementFrom [.ref (ρ.1 0), .int (xs (i + 1)), .ref (ρ.1 90)] [] wm_L_310 wst_L_movementFrom dL_law_2609 rfl hM rfl (Nat.le_of_ble_eq_true rfl) (Nat.le_of_ble_eq_true rfl) (Nat.le_of_ble_eq_true rfl) hr.1 hr.2 (fun v ad9 K9 hp => ?_) (fun E ad9 K9 hp => ?_)
  · obtain ⟨k9, ρ', x', ou', h9, rfl, rfl, hρ, hgr, d, hd, post, hMM, hpost⟩ := hp
    cases h9
    rw [congrFun hρ 100] at hMM
    have hn := room_n (c := c) hgr
    refine az_istore C (lv' := [(5, .int k9), (4, .int (nI i)), (3, .ref (ρ.1 90)), (2, .ref (ρ.1 100)), (1, .ref (ρ.1 0)), (0, .ref b)]) dL_law_2612 (by decide) rfl ?_
    refine az_aload_n C 3 dL_law_2614 rfl ?_
    refine az_arg C (i := i) (j := 1) (z0 := 5) (z4 := 1) S dL_law_2615 dL_law_2616 dL_law_2618 dL_law_2619 dL_law_2620 rfl rfl rfl (by omega) ?_
    refine az_callV C Y_X4_movementFrom cX4 2 0 [.int (xs (i + 1))] [] wm_L_312 wi_X4_movementFrom wse_X4_movementFrom dL_law_2621 (congrFun hρ 100) rfl rfl hMM rfl (Nat.le_of_ble_eq_true rfl) (by show d + 1 ≤ 2048; omega) (by show 19 + 2 + 40 * d ≤ 84000; omega) hr.1 hr.2 (fun v ad9 K9 hp2 => ?_) (fun E ad9 K9 hp2 => ?_)
    · obtain ⟨bv, w, m', h9, hcv, rfl, rfl, hk0, hw, hN⟩ := hpost _ _ _ hp2
      cases h9
      obtain ⟨u, rfl, rfl⟩ := hcv
      refine az_istore C (lv' := [(6, .int u), (5, .int k9), (4, .int (nI i)), (3, .ref (ρ.1 90)), (2, .ref (ρ.1 100)), (1, .ref (ρ.1 0)), (0, .ref b)]) dL_law_2624 (by decide) rfl ?_
      refine az_aload_n C 4 dL_law_2626 rfl ?_
      have gT := Mthrown (ρ := ρ') (x := x') (m := m') (ou := ou') hG
      rw [congrFun hρ 100] at gT
      refine az_callV C Y_X4_thrown cX4 2 0 [] [] wm_L_159 wi_X4_thrown wse_X4_thrown dL_law_2627 (congrFun hρ 100) rfl rfl gT rfl (Nat.le_of_ble_eq_true rfl) (Nat.le_of_ble_eq_true rfl) (Nat.le_of_ble_eq_true rfl) hr.1 hr.2 (az_k1 rfl rfl ?_) (az_k0 rfl)
      refine az_top k9 hk0 ?_
      refine az_iload C 1 dL_law_2630 rfl ?_
      refine az_icmp_eq C 2637 dL_law_2632 (by decide) (fun _ => ?_) (fun q => absurd rfl q)
      refine az_iload C 1 dL_law_2637 rfl ?_
      have fin : az_W l G 9 Q p e room_1 s mm args below meth cd (AD ρ') (KK G ρ' x' m' ou') (kB c ρ + mc + 0 + 0) (nB c ρ + ms + 0 + 0) 2654 [(6, .int u), (5, .int k9), (4, .int (nI i)), (3, .ref (ρ.1 90)), (2, .ref (ρ.1 100)), (1, .ref (ρ.1 0)), (0, .ref b)] [] := by
        refine az_goto C 2935 dL_law_2654 (by decide) ?_
        exact az_lv [2, 3, 4, 5, 6] rfl (az_kn _ _ hn.1 hn.2 (kk ρ' x' m' ou' (congrFun hρ 0) (congrFun hρ 100) (congrFun hρ 90) hN))
      refine az_if_ne C 2654 dL_law_2639 (by decide) (fun _ => fin) (fun h0 => ?_)
      refine az_aload_n C 3 dL_law_2642 rfl ?_
      refine az_iconst C (v := 0) dL_law_2643 (by decide) ?_
      refine az_lald C (N := 1) (f := ou') 3 0 dL_law_2644 (congrFun hρ 90) KK_3 vi_01 ?_
      refine az_iload C 0 dL_law_2645 rfl ?_
      refine az_i2l C dL_law_2647 ?_
      refine az_lcmp C dL_law_2648 ?_
      refine az_top 0 (by rw [show ou' (0 : Int32).toNatClampNeg = u.toInt64 from hw h0]; exact lgc_self _) ?_
      exact az_if_eq C 2654 dL_law_2649 (by decide) (fun _ => fin) (fun q => absurd rfl q)
    · obtain ⟨_, _, _, h9, _⟩ := hpost _ _ _ hp2
      cases h9
  · obtain ⟨_, _, _, _, h9, _⟩ := hp
    cases h9
set_option maxHeartbeats 4000000 in
set_option maxRecDepth 100000 in
theorem L_movementTo (C : az_C l G p s mm args meth cd cL_law RL 9 (some FieldType.boolean) tab) (hG : az_okS l G) (S : lwS G b L xs s) (hi : i + 6 ≤ L) {c : Nat} (hc : c < 512) (h : Nx c ρ x m) (e0 : ρ.1 0 = qx) (e1 : ρ.1 100 = qm) (e2 : ρ.1 90 = qo) (kk : lwN l G Q p e s mm args below meth cd b i qx qm qo c) : az_W l G 9 Q p e room_1 s mm args below meth cd (AD ρ) (KK G ρ x m ou) (kB c ρ) (nB c ρ) 2657 (lvL b i qx qm qo) [] := by
  subst e0; subst e1; subst e2
  refine az_aload_n C 3 dL_law_2657 rfl ?_
  refine az_arg C (i := i) (j := 1) (z0 := 4) (z4 := 0) S dL_law_2658 dL_law_2659 dL_law_2661 dL_law_2662 dL_law_2663 rfl rfl rfl (by omega) ?_
  refine az_aload_n C 1 dL_law_2664 rfl ?_
  obtain ⟨mc, ms, hgm, hM⟩ := H_movementTo hG (xs (i + 1)) (O_movementTo hG hc h (xs (i + 1))) ou
  have hr := room_k hgm hc
  refine az_callH C Y_L_movementTo [.ref (ρ.1 0), .int (xs (i + 1)), .ref (ρ.1 90)] [] wm_L_313 wst_L_movementTo dL_law_2665 rfl hM rfl (Nat.le_of_ble_eq_true rfl) (Nat.le_of_ble_eq_true rfl) (Nat.le_of_ble_eq_true rfl) hr.1 hr.2 (fun v ad9 K9 hp => ?_) (fun E ad9 K9 hp => ?_)
  · obtain ⟨k9, ρ', x', ou', h9, rfl, rfl, hρ, hgr, d, hd, post, hMM, hpost⟩ := hp
    cases h9
    rw [congrFun hρ 100] at hMM
    have hn := room_n (c := c) hgr
    refine az_istore C (lv' := [(5, .int k9), (4, .int (nI i)), (3, .ref (ρ.1 90)), (2, .ref (ρ.1 100)), (1, .ref (ρ.1 0)), (0, .ref b)]) dL_law_2668 (by decide) rfl ?_
    refine az_aload_n C 3 dL_law_2670 rfl ?_
    refine az_arg C (i := i) (j := 1) (z0 := 5) (z4 := 1) S dL_law_2671 dL_law_2672 dL_law_2674 dL_law_2675 dL_law_2676 rfl rfl rfl (by omega) ?_
    refine az_callV C Y_X4_movementTo cX4 2 0 [.int (xs (i + 1))] [] wm_L_315 wi_X4_movementTo wse_X4_movementTo dL_law_2677 (congrFun hρ 100) rfl rfl hMM rfl (Nat.le_of_ble_eq_true rfl) (by show d + 1 ≤ 2048; omega) (by show 19 + 2 + 40 * d ≤ 84000; omega) hr.1 hr.2 (fun v ad9 K9 hp2 => ?_) (fun E ad9 K9 hp2 => ?_)
    · obtain ⟨bv, w, m', h9, hcv, rfl, rfl, hk0, hw, hN⟩ := hpost _ _ _ hp2
      cases h9
      obtain ⟨u, rfl, rfl⟩ := hcv
      refine az_istore C (lv' := [(6, .int u), (5, .int k9), (4, .int (nI i)), (3, .ref (ρ.1 90)), (2, .ref (ρ.1 100)), (1, .ref (ρ.1 0)), (0, .ref b)]) dL_law_2680 (by decide) rfl ?_
      refine az_aload_n C 4 dL_law_2682 rfl ?_
      have gT := Mthrown (ρ := ρ') (x := x') (m := m') (ou := ou') hG
      rw [congrFun hρ 100] at gT
      refine az_callV C Y_X4_thrown cX4 2 0 [] [] wm_L_159 wi_X4_thrown wse_X4_thrown dL_law_2683 (congrFun hρ 100) rfl rfl gT rfl (Nat.le_of_ble_eq_true rfl) (Nat.le_of_ble_eq_true rfl) (Nat.le_of_ble_eq_true rfl) hr.1 hr.2 (az_k1 rfl rfl ?_) (az_k0 rfl)
      refine az_top k9 hk0 ?_
      refine az_iload C 1 dL_law_2686 rfl ?_
      refine az_icmp_eq C 2693 dL_law_2688 (by decide) (fun _ => ?_) (fun q => absurd rfl q)
      refine az_iload C 1 dL_law_2693 rfl ?_
      have fin : az_W l G 9 Q p e room_1 s mm args below meth cd (AD ρ') (KK G ρ' x' m' ou') (kB c ρ + mc + 0 + 0) (nB c ρ + ms + 0 + 0) 2710 [(6, .int u), (5, .int k9), (4, .int (nI i)), (3, .ref (ρ.1 90)), (2, .ref (ρ.1 100)), (1, .ref (ρ.1 0)), (0, .ref b)] [] := by
        refine az_goto C 2935 dL_law_2710 (by decide) ?_
        exact az_lv [2, 3, 4, 5, 6] rfl (az_kn _ _ hn.1 hn.2 (kk ρ' x' m' ou' (congrFun hρ 0) (congrFun hρ 100) (congrFun hρ 90) hN))
      refine az_if_ne C 2710 dL_law_2695 (by decide) (fun _ => fin) (fun h0 => ?_)
      refine az_aload_n C 3 dL_law_2698 rfl ?_
      refine az_iconst C (v := 0) dL_law_2699 (by decide) ?_
      refine az_lald C (N := 1) (f := ou') 3 0 dL_law_2700 (congrFun hρ 90) KK_3 vi_01 ?_
      refine az_iload C 0 dL_law_2701 rfl ?_
      refine az_i2l C dL_law_2703 ?_
      refine az_lcmp C dL_law_2704 ?_
      refine az_top 0 (by rw [show ou' (0 : Int32).toNatClampNeg = u.toInt64 from hw h0]; exact lgc_self _) ?_
      exact az_if_eq C 2710 dL_law_2705 (by decide) (fun _ => fin) (fun q => absurd rfl q)
    · obtain ⟨_, _, _, h9, _⟩ := hpost _ _ _ hp2
      cases h9
  · obtain ⟨_, _, _, _, h9, _⟩ := hp
    cases h9
set_option maxHeartbeats 4000000 in
set_option maxRecDepth 100000 in
theorem L_movementVolume (C : az_C l G p s mm args meth cd cL_law RL 9 (some FieldType.boolean) tab) (hG : az_okS l G) (S : lwS G b L xs s) (hi : i + 6 ≤ L) {c : Nat} (hc : c < 512) (h : Nx c ρ x m) (e0 : ρ.1 0 = qx) (e1 : ρ.1 100 = qm) (e2 : ρ.1 90 = qo) (kk : lwN l G Q p e s mm args below meth cd b i qx qm qo c) : az_W l G 9 Q p e room_1 s mm args below meth cd (AD ρ) (KK G ρ x m ou) (kB c ρ) (nB c ρ) 2713 (lvL b i qx qm qo) [] := by
  subst e0; subst e1; subst e2
  refine az_aload_n C 3 dL_law_2713 rfl ?_
  refine az_arg C (i := i) (j := 1) (z0 := 4) (z4 := 0) S dL_law_2714 dL_law_2715 dL_law_2717 dL_law_2718 dL_law_2719 rfl rfl rfl (by omega) ?_
  refine az_aload_n C 1 dL_law_2720 rfl ?_
  obtain ⟨mc, ms, hgm, hM⟩ := H_movementVolume hG (xs (i + 1)) (O_movementVolume hG hc h (xs (i + 1))) ou
  have hr := room_k hgm hc
  refine az_callH C Y_L_movementVolume [.ref (ρ.1 0), .int (xs (i + 1)), .ref (ρ.1 90)] [] wm_L_316 wst_L_movementVolume dL_law_2721 rfl hM rfl (Nat.le_of_ble_eq_true rfl) (Nat.le_of_ble_eq_true rfl) (Nat.le_of_ble_eq_true rfl) hr.1 hr.2 (fun v ad9 K9 hp => ?_) (fun E ad9 K9 hp => ?_)
  · obtain ⟨k9, ρ', x', ou', h9, rfl, rfl, hρ, hgr, d, hd, post, hMM, hpost⟩ := hp
    cases h9
    rw [congrFun hρ 100] at hMM
    have hn := room_n (c := c) hgr
    refine az_istore C (lv' := [(5, .int k9), (4, .int (nI i)), (3, .ref (ρ.1 90)), (2, .ref (ρ.1 100)), (1, .ref (ρ.1 0)), (0, .ref b)]) dL_law_2724 (by decide) rfl ?_
    refine az_aload_n C 3 dL_law_2726 rfl ?_
    refine az_arg C (i := i) (j := 1) (z0 := 5) (z4 := 1) S dL_law_2727 dL_law_2728 dL_law_2730 dL_law_2731 dL_law_2732 rfl rfl rfl (by omega) ?_
    refine az_callV C Y_X4_movementVolume cX4 2 0 [.int (xs (i + 1))] [] wm_L_318 wi_X4_movementVolume wse_X4_movementVolume dL_law_2733 (congrFun hρ 100) rfl rfl hMM rfl (Nat.le_of_ble_eq_true rfl) (by show d + 1 ≤ 2048; omega) (by show 19 + 2 + 40 * d ≤ 84000; omega) hr.1 hr.2 (fun v ad9 K9 hp2 => ?_) (fun E ad9 K9 hp2 => ?_)
    · obtain ⟨bv, w, m', h9, hcv, rfl, rfl, hk0, hw, hN⟩ := hpost _ _ _ hp2
      cases h9
      obtain ⟨u, rfl, rfl⟩ := hcv
      refine az_istore C (lv' := [(6, .int u), (5, .int k9), (4, .int (nI i)), (3, .ref (ρ.1 90)), (2, .ref (ρ.1 100)), (1, .ref (ρ.1 0)), (0, .ref b)]) dL_law_2736 (by decide) rfl ?_
      refine az_aload_n C 4 dL_law_2738 rfl ?_
      have gT := Mthrown (ρ := ρ') (x := x') (m := m') (ou := ou') hG
      rw [congrFun hρ 100] at gT
      refine az_callV C Y_X4_thrown cX4 2 0 [] [] wm_L_159 wi_X4_thrown wse_X4_thrown dL_law_2739 (congrFun hρ 100) rfl rfl gT rfl (Nat.le_of_ble_eq_true rfl) (Nat.le_of_ble_eq_true rfl) (Nat.le_of_ble_eq_true rfl) hr.1 hr.2 (az_k1 rfl rfl ?_) (az_k0 rfl)
      refine az_top k9 hk0 ?_
      refine az_iload C 1 dL_law_2742 rfl ?_
      refine az_icmp_eq C 2749 dL_law_2744 (by decide) (fun _ => ?_) (fun q => absurd rfl q)
      refine az_iload C 1 dL_law_2749 rfl ?_
      have fin : az_W l G 9 Q p e room_1 s mm args below meth cd (AD ρ') (KK G ρ' x' m' ou') (kB c ρ + mc + 0 + 0) (nB c ρ + ms + 0 + 0) 2766 [(6, .int u), (5, .int k9), (4, .int (nI i)), (3, .ref (ρ.1 90)), (2, .ref (ρ.1 100)), (1, .ref (ρ.1 0)), (0, .ref b)] [] := by
        refine az_goto C 2935 dL_law_2766 (by decide) ?_
        exact az_lv [2, 3, 4, 5, 6] rfl (az_kn _ _ hn.1 hn.2 (kk ρ' x' m' ou' (congrFun hρ 0) (congrFun hρ 100) (congrFun hρ 90) hN))
      refine az_if_ne C 2766 dL_law_2751 (by decide) (fun _ => fin) (fun h0 => ?_)
      refine az_aload_n C 3 dL_law_2754 rfl ?_
      refine az_iconst C (v := 0) dL_law_2755 (by decide) ?_
      refine az_lald C (N := 1) (f := ou') 3 0 dL_law_2756 (congrFun hρ 90) KK_3 vi_01 ?_
      refine az_iload C 0 dL_law_2757 rfl ?_
      refine az_i2l C dL_law_2759 ?_
      refine az_lcmp C dL_law_2760 ?_
      refine az_top 0 (by rw [show ou' (0 : Int32).toNatClampNeg = u.toInt64 from hw h0]; exact lgc_self _) ?_
      exact az_if_eq C 2766 dL_law_2761 (by decide) (fun _ => fin) (fun q => absurd rfl q)
    · obtain ⟨_, _, _, h9, _⟩ := hpost _ _ _ hp2
      cases h9
  · obtain ⟨_, _, _, _, h9, _⟩ := hp
    cases h9
set_option maxHeartbeats 4000000 in
set_option maxRecDepth 100000 in
theorem L_writeReach (C : az_C l G p s mm args meth cd cL_law RL 9 (some FieldType.boolean) tab) (hG : az_okS l G) {A : Nat × Nat × Nat × Nat} (hT : az_okT G A) (S : lwS G b L xs s) (hi : i + 6 ≤ L) {c : Nat} (hc : c < 512) (h : Nx c ρ x m) (e0 : ρ.1 0 = qx) (e1 : ρ.1 100 = qm) (e2 : ρ.1 90 = qo) (kk : lwN l G Q p e s mm args below meth cd b i qx qm qo c) : az_W l G 9 Q p e room_1 s mm args below meth cd (AD ρ) (KK G ρ x m ou) (kB c ρ) (nB c ρ) 2823 (lvL b i qx qm qo) [] := by
  subst e0; subst e1; subst e2
  refine az_aload_n C 3 dL_law_2823 rfl ?_
  refine az_arg C (i := i) (j := 1) (z0 := 4) (z4 := 0) S dL_law_2824 dL_law_2825 dL_law_2827 dL_law_2828 dL_law_2829 rfl rfl rfl (by omega) ?_
  refine az_aload_n C 1 dL_law_2830 rfl ?_
  obtain ⟨mc, ms, hgm, hM⟩ := H_writeReach hG (xs (i + 1)) (O_writeReach hG hT hc h (xs (i + 1))) ou
  have hr := room_k hgm hc
  refine az_callH C Y_L_writeReach [.ref (ρ.1 0), .int (xs (i + 1)), .ref (ρ.1 90)] [] wm_L_329 wst_L_writeReach dL_law_2831 rfl hM rfl (Nat.le_of_ble_eq_true rfl) (Nat.le_of_ble_eq_true rfl) (Nat.le_of_ble_eq_true rfl) hr.1 hr.2 (fun v ad9 K9 hp => ?_) (fun E ad9 K9 hp => ?_)
  · obtain ⟨k9, ρ', x', ou', h9, rfl, rfl, hρ, hgr, d, hd, post, hMM, hpost⟩ := hp
    cases h9
    rw [congrFun hρ 100] at hMM
    have hn := room_n (c := c) hgr
    refine az_istore C (lv' := [(5, .int k9), (4, .int (nI i)), (3, .ref (ρ.1 90)), (2, .ref (ρ.1 100)), (1, .ref (ρ.1 0)), (0, .ref b)]) dL_law_2834 (by decide) rfl ?_
    refine az_aload_n C 3 dL_law_2836 rfl ?_
    refine az_arg C (i := i) (j := 1) (z0 := 5) (z4 := 1) S dL_law_2837 dL_law_2838 dL_law_2840 dL_law_2841 dL_law_2842 rfl rfl rfl (by omega) ?_
    refine az_callV C Y_X4_writeReach cX4 2 0 [.int (xs (i + 1))] [] wm_L_331 wi_X4_writeReach wse_X4_writeReach dL_law_2843 (congrFun hρ 100) rfl rfl hMM rfl (Nat.le_of_ble_eq_true rfl) (by show d + 1 ≤ 2048; omega) (by show 19 + 4 + 40 * d ≤ 84000; omega) hr.1 hr.2 (fun v ad9 K9 hp2 => ?_) (fun E ad9 K9 hp2 => ?_)
    · obtain ⟨bv, w, m', h9, hcv, rfl, rfl, hk0, hw, hN⟩ := hpost _ _ _ hp2
      cases h9
      obtain ⟨u, rfl, rfl⟩ := hcv
      refine az_istore C (lv' := [(6, .int u), (5, .int k9), (4, .int (nI i)), (3, .ref (ρ.1 90)), (2, .ref (ρ.1 100)), (1, .ref (ρ.1 0)), (0, .ref b)]) dL_law_2846 (by decide) rfl ?_
      refine az_aload_n C 4 dL_law_2848 rfl ?_
      have gT := Mthrown (ρ := ρ') (x := x') (m := m') (ou := ou') hG
      rw [congrFun hρ 100] at gT
      refine az_callV C Y_X4_thrown cX4 2 0 [] [] wm_L_159 wi_X4_thrown wse_X4_thrown dL_law_2849 (congrFun hρ 100) rfl rfl gT rfl (Nat.le_of_ble_eq_true rfl) (Nat.le_of_ble_eq_true rfl) (Nat.le_of_ble_eq_true rfl) hr.1 hr.2 (az_k1 rfl rfl ?_) (az_k0 rfl)
      refine az_top k9 hk0 ?_
      refine az_iload C 1 dL_law_2852 rfl ?_
      refine az_icmp_eq C 2859 dL_law_2854 (by decide) (fun _ => ?_) (fun q => absurd rfl q)
      refine az_iload C 1 dL_law_2859 rfl ?_
      have fin : az_W l G 9 Q p e room_1 s mm args below meth cd (AD ρ') (KK G ρ' x' m' ou') (kB c ρ + mc + 0 + 0) (nB c ρ + ms + 0 + 0) 2876 [(6, .int u), (5, .int k9), (4, .int (nI i)), (3, .ref (ρ.1 90)), (2, .ref (ρ.1 100)), (1, .ref (ρ.1 0)), (0, .ref b)] [] := by
        refine az_goto C 2935 dL_law_2876 (by decide) ?_
        exact az_lv [2, 3, 4, 5, 6] rfl (az_kn _ _ hn.1 hn.2 (kk ρ' x' m' ou' (congrFun hρ 0) (congrFun hρ 100) (congrFun hρ 90) hN))
      refine az_if_ne C 2876 dL_law_2861 (by decide) (fun _ => fin) (fun h0 => ?_)
      refine az_aload_n C 3 dL_law_2864 rfl ?_
      refine az_iconst C (v := 0) dL_law_2865 (by decide) ?_
      refine az_lald C (N := 1) (f := ou') 3 0 dL_law_2866 (congrFun hρ 90) KK_3 vi_01 ?_
      refine az_iload C 0 dL_law_2867 rfl ?_
      refine az_i2l C dL_law_2869 ?_
      refine az_lcmp C dL_law_2870 ?_
      refine az_top 0 (by rw [show ou' (0 : Int32).toNatClampNeg = u.toInt64 from hw h0]; exact lgc_self _) ?_
      exact az_if_eq C 2876 dL_law_2871 (by decide) (fun _ => fin) (fun q => absurd rfl q)
    · obtain ⟨_, _, _, h9, _⟩ := hpost _ _ _ hp2
      cases h9
  · obtain ⟨_, _, _, _, h9, _⟩ := hp
    cases h9
set_option maxHeartbeats 4000000 in
set_option maxRecDepth 100000 in
theorem L_lineAt (C : az_C l G p s mm args meth cd cL_law RL 9 (some FieldType.boolean) tab) (hG : az_okS l G) {A : Nat × Nat × Nat × Nat} (hT : az_okT G A) (S : lwS G b L xs s) (hi : i + 6 ≤ L) {c : Nat} (hc : c < 512) (h : Nx c ρ x m) (e0 : ρ.1 0 = qx) (e1 : ρ.1 100 = qm) (e2 : ρ.1 90 = qo) (kk : lwN l G Q p e s mm args below meth cd b i qx qm qo c) : az_W l G 9 Q p e room_1 s mm args below meth cd (AD ρ) (KK G ρ x m ou) (kB c ρ) (nB c ρ) 2879 (lvL b i qx qm qo) [] := by
  subst e0; subst e1; subst e2
  refine az_aload_n C 3 dL_law_2879 rfl ?_
  refine az_arg C (i := i) (j := 1) (z0 := 4) (z4 := 0) S dL_law_2880 dL_law_2881 dL_law_2883 dL_law_2884 dL_law_2885 rfl rfl rfl (by omega) ?_
  refine az_aload_n C 1 dL_law_2886 rfl ?_
  obtain ⟨mc, ms, hgm, hM⟩ := H_lineAt hG (xs (i + 1)) (O_lineAt hG hT hc h (xs (i + 1))) ou
  have hr := room_k hgm hc
  refine az_callH C Y_L_lineAt [.ref (ρ.1 0), .int (xs (i + 1)), .ref (ρ.1 90)] [] wm_L_332 wst_L_lineAt dL_law_2887 rfl hM rfl (Nat.le_of_ble_eq_true rfl) (Nat.le_of_ble_eq_true rfl) (Nat.le_of_ble_eq_true rfl) hr.1 hr.2 (fun v ad9 K9 hp => ?_) (fun E ad9 K9 hp => ?_)
  · obtain ⟨k9, ρ', x', ou', h9, rfl, rfl, hρ, hgr, d, hd, post, hMM, hpost⟩ := hp
    cases h9
    rw [congrFun hρ 100] at hMM
    have hn := room_n (c := c) hgr
    refine az_istore C (lv' := [(5, .int k9), (4, .int (nI i)), (3, .ref (ρ.1 90)), (2, .ref (ρ.1 100)), (1, .ref (ρ.1 0)), (0, .ref b)]) dL_law_2890 (by decide) rfl ?_
    refine az_aload_n C 3 dL_law_2892 rfl ?_
    refine az_arg C (i := i) (j := 1) (z0 := 5) (z4 := 1) S dL_law_2893 dL_law_2894 dL_law_2896 dL_law_2897 dL_law_2898 rfl rfl rfl (by omega) ?_
    refine az_callV C Y_X4_lineAt cX4 2 0 [.int (xs (i + 1))] [] wm_L_334 wi_X4_lineAt wse_X4_lineAt dL_law_2899 (congrFun hρ 100) rfl rfl hMM rfl (Nat.le_of_ble_eq_true rfl) (by show d + 1 ≤ 2048; omega) (by show 19 + 2 + 40 * d ≤ 84000; omega) hr.1 hr.2 (fun v ad9 K9 hp2 => ?_) (fun E ad9 K9 hp2 => ?_)
    · obtain ⟨bv, w, m', h9, hcv, rfl, rfl, hk0, hw, hN⟩ := hpost _ _ _ hp2
      cases h9
      obtain ⟨u, rfl, rfl⟩ := hcv
      refine az_istore C (lv' := [(6, .int u), (5, .int k9), (4, .int (nI i)), (3, .ref (ρ.1 90)), (2, .ref (ρ.1 100)), (1, .ref (ρ.1 0)), (0, .ref b)]) dL_law_2902 (by decide) rfl ?_
      refine az_aload_n C 4 dL_law_2904 rfl ?_
      have gT := Mthrown (ρ := ρ') (x := x') (m := m') (ou := ou') hG
      rw [congrFun hρ 100] at gT
      refine az_callV C Y_X4_thrown cX4 2 0 [] [] wm_L_159 wi_X4_thrown wse_X4_thrown dL_law_2905 (congrFun hρ 100) rfl rfl gT rfl (Nat.le_of_ble_eq_true rfl) (Nat.le_of_ble_eq_true rfl) (Nat.le_of_ble_eq_true rfl) hr.1 hr.2 (az_k1 rfl rfl ?_) (az_k0 rfl)
      refine az_top k9 hk0 ?_
      refine az_iload C 1 dL_law_2908 rfl ?_
      refine az_icmp_eq C 2915 dL_law_2910 (by decide) (fun _ => ?_) (fun q => absurd rfl q)
      refine az_iload C 1 dL_law_2915 rfl ?_
      have fin : az_W l G 9 Q p e room_1 s mm args below meth cd (AD ρ') (KK G ρ' x' m' ou') (kB c ρ + mc + 0 + 0) (nB c ρ + ms + 0 + 0) 2932 [(6, .int u), (5, .int k9), (4, .int (nI i)), (3, .ref (ρ.1 90)), (2, .ref (ρ.1 100)), (1, .ref (ρ.1 0)), (0, .ref b)] [] := by
        refine az_goto C 2935 dL_law_2932 (by decide) ?_
        exact az_lv [2, 3, 4, 5, 6] rfl (az_kn _ _ hn.1 hn.2 (kk ρ' x' m' ou' (congrFun hρ 0) (congrFun hρ 100) (congrFun hρ 90) hN))
      refine az_if_ne C 2932 dL_law_2917 (by decide) (fun _ => fin) (fun h0 => ?_)
      refine az_aload_n C 3 dL_law_2920 rfl ?_
      refine az_iconst C (v := 0) dL_law_2921 (by decide) ?_
      refine az_lald C (N := 1) (f := ou') 3 0 dL_law_2922 (congrFun hρ 90) KK_3 vi_01 ?_
      refine az_iload C 0 dL_law_2923 rfl ?_
      refine az_i2l C dL_law_2925 ?_
      refine az_lcmp C dL_law_2926 ?_
      refine az_top 0 (by rw [show ou' (0 : Int32).toNatClampNeg = u.toInt64 from hw h0]; exact lgc_self _) ?_
      exact az_if_eq C 2932 dL_law_2927 (by decide) (fun _ => fin) (fun q => absurd rfl q)
    · obtain ⟨_, _, _, h9, _⟩ := hpost _ _ _ hp2
      cases h9
  · obtain ⟨_, _, _, _, h9, _⟩ := hp
    cases h9
end
