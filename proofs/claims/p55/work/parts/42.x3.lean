section THR
variable {l : Launch} {G : az_G} {nL : Nat} {Q : State → Prop} {p : Program} {e : Env} {R : Room} {s : State} {m : MethodId} {args : Array Value} {below : List Frame} {meth : Method} {c : Code} {ad : az_A} {K : az_K} {k n pc : Nat} {lv : List (Nat × Value)} {st : List Value}
variable {cc : ByteArray} {ret : Option FieldType} {post : az_O → az_A → az_K → Prop} {mc ms : Nat}
abbrev upRE : List String := ["java/lang/RuntimeException", "java/lang/Exception"]
theorem sp_IAE : ∀ w ∈ vx_atS RX3 64 "java/lang/IllegalArgumentException" upRE, (w ∈ lw_tbl ∧ goodWord w = true) ∨ (w ∈ az_bad ∧ w.onTables = true) := by decide +kernel
theorem gd_IAE : ∀ w ∈ Cond.classLink RX3 60 "java/lang/IllegalArgumentException" :: Cond.initialized "java/lang/IllegalArgumentException" :: vx_atS RX3 64 "java/lang/IllegalArgumentException" upRE, vx_ot w = true := by decide +kernel
theorem az_thrS_IAE (C : az_C l G p s m args meth c cc RX3 nL ret []) (hG : az_okS l G) {is : Nat} {text : String} (ht : (is, text) ∈ az_txt)
    (d0 : decode cc pc = .ok (.new 60, 3)) (d3 : decode cc (pc + 3) = .ok (.dup, 1)) (d4 : decode cc (pc + 4) = .ok (.ldc is, 2)) (d6 : decode cc (pc + 6) = .ok (.invokespecial 64, 3)) (d9 : decode cc (pc + 9) = .ok (.athrow, 1))
    (hfr : 5 < R.frames) (hlo : (st.map fun v => v.category).sum + 82 ≤ R.locals) (hc : k + 1 ≤ R.cells) (hs : n + 6 ≤ R.slots) (hc2 : k + 1 ≤ mc) (hs2 : n + 6 ≤ ms) (hp : post (.inr "java/lang/IllegalArgumentException") ad K) :
    az_W l G nL (az_Q G post below args s mc ms) p e R s m args below meth c ad K k n pc lv st := by
  have h := hG.2 _ _ C.hO
  obtain ⟨a, ha⟩ := h.2.2.1 _ ht
  refine az_throwS C (cls := "java/lang/IllegalArgumentException") (names := upRE) (by decide +kernel) (by decide +kernel) wk_X3_60 wini_IllegalArgumentException ha (fun w hw => ?_) gd_IAE h.1 h.2.1 d0 d3 d4 d6 d9 (fun _ h => by cases h) hfr hlo hc hs hc2 hs2 hp
  rcases sp_IAE w hw with ⟨h1, h2⟩ | ⟨h1, h2⟩
  · exact C.hw h1 h2
  · exact az_bw C hG h1 h2
theorem az_thrSW_IAE (C : az_C l G p s m args meth c cc RX3 nL ret []) (hG : az_okS l G) {is : Nat} {text : String} (ht : (is, text) ∈ az_txt)
    (d0 : decode cc pc = .ok (.new 60, 3)) (d3 : decode cc (pc + 3) = .ok (.dup, 1)) (d4 : decode cc (pc + 4) = .ok (.ldc_w is, 3)) (d6 : decode cc (pc + 7) = .ok (.invokespecial 64, 3)) (d9 : decode cc (pc + 10) = .ok (.athrow, 1))
    (hfr : 5 < R.frames) (hlo : (st.map fun v => v.category).sum + 82 ≤ R.locals) (hc : k + 1 ≤ R.cells) (hs : n + 6 ≤ R.slots) (hc2 : k + 1 ≤ mc) (hs2 : n + 6 ≤ ms) (hp : post (.inr "java/lang/IllegalArgumentException") ad K) :
    az_W l G nL (az_Q G post below args s mc ms) p e R s m args below meth c ad K k n pc lv st := by
  have h := hG.2 _ _ C.hO
  obtain ⟨a, ha⟩ := h.2.2.1 _ ht
  refine az_throwSW C (cls := "java/lang/IllegalArgumentException") (names := upRE) (by decide +kernel) (by decide +kernel) wk_X3_60 wini_IllegalArgumentException ha (fun w hw => ?_) gd_IAE h.1 h.2.1 d0 d3 d4 d6 d9 (fun _ h => by cases h) hfr hlo hc hs hc2 hs2 hp
  rcases sp_IAE w hw with ⟨h1, h2⟩ | ⟨h1, h2⟩
  · exact C.hw h1 h2
  · exact az_bw C hG h1 h2
theorem sp_ISE : ∀ w ∈ vx_atS RX3 74 "java/lang/IllegalStateException" upRE, (w ∈ lw_tbl ∧ goodWord w = true) ∨ (w ∈ az_bad ∧ w.onTables = true) := by decide +kernel
theorem gd_ISE : ∀ w ∈ Cond.classLink RX3 70 "java/lang/IllegalStateException" :: Cond.initialized "java/lang/IllegalStateException" :: vx_atS RX3 74 "java/lang/IllegalStateException" upRE, vx_ot w = true := by decide +kernel
theorem az_thrS_ISE (C : az_C l G p s m args meth c cc RX3 nL ret []) (hG : az_okS l G) {is : Nat} {text : String} (ht : (is, text) ∈ az_txt)
    (d0 : decode cc pc = .ok (.new 70, 3)) (d3 : decode cc (pc + 3) = .ok (.dup, 1)) (d4 : decode cc (pc + 4) = .ok (.ldc is, 2)) (d6 : decode cc (pc + 6) = .ok (.invokespecial 74, 3)) (d9 : decode cc (pc + 9) = .ok (.athrow, 1))
    (hfr : 5 < R.frames) (hlo : (st.map fun v => v.category).sum + 82 ≤ R.locals) (hc : k + 1 ≤ R.cells) (hs : n + 6 ≤ R.slots) (hc2 : k + 1 ≤ mc) (hs2 : n + 6 ≤ ms) (hp : post (.inr "java/lang/IllegalStateException") ad K) :
    az_W l G nL (az_Q G post below args s mc ms) p e R s m args below meth c ad K k n pc lv st := by
  have h := hG.2 _ _ C.hO
  obtain ⟨a, ha⟩ := h.2.2.1 _ ht
  refine az_throwS C (cls := "java/lang/IllegalStateException") (names := upRE) (by decide +kernel) (by decide +kernel) wk_X3_70 wini_IllegalStateException ha (fun w hw => ?_) gd_ISE h.1 h.2.1 d0 d3 d4 d6 d9 (fun _ h => by cases h) hfr hlo hc hs hc2 hs2 hp
  rcases sp_ISE w hw with ⟨h1, h2⟩ | ⟨h1, h2⟩
  · exact C.hw h1 h2
  · exact az_bw C hG h1 h2
theorem az_thrSW_ISE (C : az_C l G p s m args meth c cc RX3 nL ret []) (hG : az_okS l G) {is : Nat} {text : String} (ht : (is, text) ∈ az_txt)
    (d0 : decode cc pc = .ok (.new 70, 3)) (d3 : decode cc (pc + 3) = .ok (.dup, 1)) (d4 : decode cc (pc + 4) = .ok (.ldc_w is, 3)) (d6 : decode cc (pc + 7) = .ok (.invokespecial 74, 3)) (d9 : decode cc (pc + 10) = .ok (.athrow, 1))
    (hfr : 5 < R.frames) (hlo : (st.map fun v => v.category).sum + 82 ≤ R.locals) (hc : k + 1 ≤ R.cells) (hs : n + 6 ≤ R.slots) (hc2 : k + 1 ≤ mc) (hs2 : n + 6 ≤ ms) (hp : post (.inr "java/lang/IllegalStateException") ad K) :
    az_W l G nL (az_Q G post below args s mc ms) p e R s m args below meth c ad K k n pc lv st := by
  have h := hG.2 _ _ C.hO
  obtain ⟨a, ha⟩ := h.2.2.1 _ ht
  refine az_throwSW C (cls := "java/lang/IllegalStateException") (names := upRE) (by decide +kernel) (by decide +kernel) wk_X3_70 wini_IllegalStateException ha (fun w hw => ?_) gd_ISE h.1 h.2.1 d0 d3 d4 d6 d9 (fun _ h => by cases h) hfr hlo hc hs hc2 hs2 hp
  rcases sp_ISE w hw with ⟨h1, h2⟩ | ⟨h1, h2⟩
  · exact C.hw h1 h2
  · exact az_bw C hG h1 h2
theorem sp_UOE : ∀ w ∈ vx_atS RX3 118 "java/lang/UnsupportedOperationException" upRE, (w ∈ lw_tbl ∧ goodWord w = true) ∨ (w ∈ az_bad ∧ w.onTables = true) := by decide +kernel
theorem gd_UOE : ∀ w ∈ Cond.classLink RX3 114 "java/lang/UnsupportedOperationException" :: Cond.initialized "java/lang/UnsupportedOperationException" :: vx_atS RX3 118 "java/lang/UnsupportedOperationException" upRE, vx_ot w = true := by decide +kernel
theorem az_thrS_UOE (C : az_C l G p s m args meth c cc RX3 nL ret []) (hG : az_okS l G) {is : Nat} {text : String} (ht : (is, text) ∈ az_txt)
    (d0 : decode cc pc = .ok (.new 114, 3)) (d3 : decode cc (pc + 3) = .ok (.dup, 1)) (d4 : decode cc (pc + 4) = .ok (.ldc is, 2)) (d6 : decode cc (pc + 6) = .ok (.invokespecial 118, 3)) (d9 : decode cc (pc + 9) = .ok (.athrow, 1))
    (hfr : 5 < R.frames) (hlo : (st.map fun v => v.category).sum + 82 ≤ R.locals) (hc : k + 1 ≤ R.cells) (hs : n + 6 ≤ R.slots) (hc2 : k + 1 ≤ mc) (hs2 : n + 6 ≤ ms) (hp : post (.inr "java/lang/UnsupportedOperationException") ad K) :
    az_W l G nL (az_Q G post below args s mc ms) p e R s m args below meth c ad K k n pc lv st := by
  have h := hG.2 _ _ C.hO
  obtain ⟨a, ha⟩ := h.2.2.1 _ ht
  refine az_throwS C (cls := "java/lang/UnsupportedOperationException") (names := upRE) (by decide +kernel) (by decide +kernel) wk_X3_114 wini_UnsupportedOperationException ha (fun w hw => ?_) gd_UOE h.1 h.2.1 d0 d3 d4 d6 d9 (fun _ h => by cases h) hfr hlo hc hs hc2 hs2 hp
  rcases sp_UOE w hw with ⟨h1, h2⟩ | ⟨h1, h2⟩
  · exact C.hw h1 h2
  · exact az_bw C hG h1 h2
theorem az_thrSW_UOE (C : az_C l G p s m args meth c cc RX3 nL ret []) (hG : az_okS l G) {is : Nat} {text : String} (ht : (is, text) ∈ az_txt)
    (d0 : decode cc pc = .ok (.new 114, 3)) (d3 : decode cc (pc + 3) = .ok (.dup, 1)) (d4 : decode cc (pc + 4) = .ok (.ldc_w is, 3)) (d6 : decode cc (pc + 7) = .ok (.invokespecial 118, 3)) (d9 : decode cc (pc + 10) = .ok (.athrow, 1))
    (hfr : 5 < R.frames) (hlo : (st.map fun v => v.category).sum + 82 ≤ R.locals) (hc : k + 1 ≤ R.cells) (hs : n + 6 ≤ R.slots) (hc2 : k + 1 ≤ mc) (hs2 : n + 6 ≤ ms) (hp : post (.inr "java/lang/UnsupportedOperationException") ad K) :
    az_W l G nL (az_Q G post below args s mc ms) p e R s m args below meth c ad K k n pc lv st := by
  have h := hG.2 _ _ C.hO
  obtain ⟨a, ha⟩ := h.2.2.1 _ ht
  refine az_throwSW C (cls := "java/lang/UnsupportedOperationException") (names := upRE) (by decide +kernel) (by decide +kernel) wk_X3_114 wini_UnsupportedOperationException ha (fun w hw => ?_) gd_UOE h.1 h.2.1 d0 d3 d4 d6 d9 (fun _ h => by cases h) hfr hlo hc hs hc2 hs2 hp
  rcases sp_UOE w hw with ⟨h1, h2⟩ | ⟨h1, h2⟩
  · exact C.hw h1 h2
  · exact az_bw C hG h1 h2
theorem sp_IOB : ∀ w ∈ vx_atS RX3 328 "java/lang/IndexOutOfBoundsException" upRE, (w ∈ lw_tbl ∧ goodWord w = true) ∨ (w ∈ az_bad ∧ w.onTables = true) := by decide +kernel
theorem gd_IOB : ∀ w ∈ Cond.classLink RX3 324 "java/lang/IndexOutOfBoundsException" :: Cond.initialized "java/lang/IndexOutOfBoundsException" :: vx_atS RX3 328 "java/lang/IndexOutOfBoundsException" upRE, vx_ot w = true := by decide +kernel
theorem az_thrS_IOB (C : az_C l G p s m args meth c cc RX3 nL ret []) (hG : az_okS l G) {is : Nat} {text : String} (ht : (is, text) ∈ az_txt)
    (d0 : decode cc pc = .ok (.new 324, 3)) (d3 : decode cc (pc + 3) = .ok (.dup, 1)) (d4 : decode cc (pc + 4) = .ok (.ldc is, 2)) (d6 : decode cc (pc + 6) = .ok (.invokespecial 328, 3)) (d9 : decode cc (pc + 9) = .ok (.athrow, 1))
    (hfr : 5 < R.frames) (hlo : (st.map fun v => v.category).sum + 82 ≤ R.locals) (hc : k + 1 ≤ R.cells) (hs : n + 6 ≤ R.slots) (hc2 : k + 1 ≤ mc) (hs2 : n + 6 ≤ ms) (hp : post (.inr "java/lang/IndexOutOfBoundsException") ad K) :
    az_W l G nL (az_Q G post below args s mc ms) p e R s m args below meth c ad K k n pc lv st := by
  have h := hG.2 _ _ C.hO
  obtain ⟨a, ha⟩ := h.2.2.1 _ ht
  refine az_throwS C (cls := "java/lang/IndexOutOfBoundsException") (names := upRE) (by decide +kernel) (by decide +kernel) wk_X3_324 wini_IndexOutOfBoundsException ha (fun w hw => ?_) gd_IOB h.1 h.2.1 d0 d3 d4 d6 d9 (fun _ h => by cases h) hfr hlo hc hs hc2 hs2 hp
  rcases sp_IOB w hw with ⟨h1, h2⟩ | ⟨h1, h2⟩
  · exact C.hw h1 h2
  · exact az_bw C hG h1 h2
theorem az_thrSW_IOB (C : az_C l G p s m args meth c cc RX3 nL ret []) (hG : az_okS l G) {is : Nat} {text : String} (ht : (is, text) ∈ az_txt)
    (d0 : decode cc pc = .ok (.new 324, 3)) (d3 : decode cc (pc + 3) = .ok (.dup, 1)) (d4 : decode cc (pc + 4) = .ok (.ldc_w is, 3)) (d6 : decode cc (pc + 7) = .ok (.invokespecial 328, 3)) (d9 : decode cc (pc + 10) = .ok (.athrow, 1))
    (hfr : 5 < R.frames) (hlo : (st.map fun v => v.category).sum + 82 ≤ R.locals) (hc : k + 1 ≤ R.cells) (hs : n + 6 ≤ R.slots) (hc2 : k + 1 ≤ mc) (hs2 : n + 6 ≤ ms) (hp : post (.inr "java/lang/IndexOutOfBoundsException") ad K) :
    az_W l G nL (az_Q G post below args s mc ms) p e R s m args below meth c ad K k n pc lv st := by
  have h := hG.2 _ _ C.hO
  obtain ⟨a, ha⟩ := h.2.2.1 _ ht
  refine az_throwSW C (cls := "java/lang/IndexOutOfBoundsException") (names := upRE) (by decide +kernel) (by decide +kernel) wk_X3_324 wini_IndexOutOfBoundsException ha (fun w hw => ?_) gd_IOB h.1 h.2.1 d0 d3 d4 d6 d9 (fun _ h => by cases h) hfr hlo hc hs hc2 hs2 hp
  rcases sp_IOB w hw with ⟨h1, h2⟩ | ⟨h1, h2⟩
  · exact C.hw h1 h2
  · exact az_bw C hG h1 h2
end THR
