section THRN
variable {l : Launch} {G : az_G} {nL : Nat} {Q : State → Prop} {p : Program} {e : Env} {R : Room} {s : State} {m : MethodId} {args : Array Value} {below : List Frame} {meth : Method} {c : Code} {ad : az_A} {K : az_K} {k n pc : Nat} {lv : List (Nat × Value)} {st : List Value}
variable {cc : ByteArray} {ret : Option FieldType} {post : az_O → az_A → az_K → Prop} {mc ms : Nat}
theorem sp_NSE : ∀ w ∈ (nseAt RX3 203).filter vx_no, (w ∈ lw_tbl ∧ goodWord w = true) ∨ (w ∈ az_bad ∧ w.onTables = true) := by decide +kernel
theorem gd_NSE : ∀ w ∈ Cond.classLink RX3 199 nseN :: Cond.initialized nseN :: (nseAt RX3 203).filter vx_no, vx_ot w = true := by decide +kernel
theorem az_thrS_NSE (C : az_C l G p s m args meth c cc RX3 nL ret []) (hG : az_okS l G) {is : Nat} {text : String} (ht : (is, text) ∈ az_txt)
    (d0 : decode cc pc = .ok (.new 199, 3)) (d3 : decode cc (pc + 3) = .ok (.dup, 1)) (d4 : decode cc (pc + 4) = .ok (.ldc is, 2)) (d6 : decode cc (pc + 6) = .ok (.invokespecial 203, 3)) (d9 : decode cc (pc + 9) = .ok (.athrow, 1))
    (hfr : 5 < R.frames) (hlo : (st.map fun v => v.category).sum + 82 ≤ R.locals) (hc : k + 1 ≤ R.cells) (hs : n + 6 ≤ R.slots) (hc2 : k + 1 ≤ mc) (hs2 : n + 6 ≤ ms) (hp : post (.inr nseN) ad K) :
    az_W l G nL (az_Q G post below args s mc ms) p e R s m args below meth c ad K k n pc lv st := by
  have h := hG.2 _ _ C.hO
  obtain ⟨a, ha⟩ := h.2.2.1 _ ht
  have hat : ∀ w ∈ (nseAt RX3 203).filter vx_no, w.before args s = true := fun w hw => by
    rcases sp_NSE w hw with ⟨h1, h2⟩ | ⟨h1, h2⟩
    · exact C.hw h1 h2
    · exact az_bw C hG h1 h2
  exact fun H locs ls hP hS hl => nse_vx_throwS C.1 C.2.1 C.hG.2.2.2 C.2.2.2.1 (C.hw wk_X3_199 rfl) (C.hw wini_NoSuchElementException rfl) ha hat gd_NSE h.1 h.2.1 hS (by rw [C.2.2.1]; exact hl.1) d0 d3 d4 d6 d9 (by rw [C.htab]; exact fun _ h => by cases h) hfr hlo hc hs C.hlocks
    (fun t ha hz oq => ⟨⟨ad, K, hp, hP.kept oq⟩, Nat.le_trans hS.1 hz, fun q h1 h2 => (oq q (Nat.lt_of_lt_of_le h1 hS.1)).trans (hS.2.1 q h1 h2)⟩) hS.2.2 hc2 hs2
theorem az_thrSW_NSE (C : az_C l G p s m args meth c cc RX3 nL ret []) (hG : az_okS l G) {is : Nat} {text : String} (ht : (is, text) ∈ az_txt)
    (d0 : decode cc pc = .ok (.new 199, 3)) (d3 : decode cc (pc + 3) = .ok (.dup, 1)) (d4 : decode cc (pc + 4) = .ok (.ldc_w is, 3)) (d6 : decode cc (pc + 7) = .ok (.invokespecial 203, 3)) (d9 : decode cc (pc + 10) = .ok (.athrow, 1))
    (hfr : 5 < R.frames) (hlo : (st.map fun v => v.category).sum + 82 ≤ R.locals) (hc : k + 1 ≤ R.cells) (hs : n + 6 ≤ R.slots) (hc2 : k + 1 ≤ mc) (hs2 : n + 6 ≤ ms) (hp : post (.inr nseN) ad K) :
    az_W l G nL (az_Q G post below args s mc ms) p e R s m args below meth c ad K k n pc lv st := by
  have h := hG.2 _ _ C.hO
  obtain ⟨a, ha⟩ := h.2.2.1 _ ht
  have hat : ∀ w ∈ (nseAt RX3 203).filter vx_no, w.before args s = true := fun w hw => by
    rcases sp_NSE w hw with ⟨h1, h2⟩ | ⟨h1, h2⟩
    · exact C.hw h1 h2
    · exact az_bw C hG h1 h2
  exact fun H locs ls hP hS hl => nse_vx_throwSW C.1 C.2.1 C.hG.2.2.2 C.2.2.2.1 (C.hw wk_X3_199 rfl) (C.hw wini_NoSuchElementException rfl) ha hat gd_NSE h.1 h.2.1 hS (by rw [C.2.2.1]; exact hl.1) d0 d3 d4 d6 d9 (by rw [C.htab]; exact fun _ h => by cases h) hfr hlo hc hs C.hlocks
    (fun t ha hz oq => ⟨⟨ad, K, hp, hP.kept oq⟩, Nat.le_trans hS.1 hz, fun q h1 h2 => (oq q (Nat.lt_of_lt_of_le h1 hS.1)).trans (hS.2.1 q h1 h2)⟩) hS.2.2 hc2 hs2
end THRN
