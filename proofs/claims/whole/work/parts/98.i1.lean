/-! WHAT HOLDS AT THE START: the statics, the texts, the classes, out of the premises; and what of it is carried -/
abbrev lw_F : List Cond := flatC (Jvm.Cond.and given_1 narrow_1)
theorem lw_nA {s : State} : ∀ a : Nat, a < s.heap.size → ¬ (s.heap.size ≤ a) := fun _ h => Nat.not_le.mpr h
def lw_G (s : State) (D : va_G) (cs : Nat → ClassId) : az_G := (s.heap.size, D, cs, fun U H => s.WarmedH U.vm ∧ ∀ q : Nat, q < s.heap.size → H[q]? = s.heap[q]?)
theorem lw_ok {l : Launch} (hflags : l.flags = flags0) (s : State) (D : va_G) (cs : Nat → ClassId) : az_ok l (lw_G s D cs) := by
  refine ⟨fun s1 U H hW h => ⟨State.WarmedH.trans h.1 hW, h.2⟩, fun U H H1 hq h => ⟨h.1, fun q hq1 => ?_⟩, fun U H g mk a h => ⟨h.1, h.2⟩, ?_⟩
  · have e := h.2 q hq1
    have hl : q < H.size := by
      rw [Array.getElem?_eq_getElem hq1] at e
      exact (Array.getElem?_eq_some_iff.mp e).1
    rw [hq q hl hq1]
    exact e
  · show (!l.flags.contains Jvm.noTraceFlag) = false
    rw [hflags]
    decide +kernel
theorem lw_arr {args : Array Value} {s : State} {t : FieldType} (h : (Cond.arrayClass t).before args s = true) : ∃ cA, ArrOfT s cA t ∧ s.vm.findClass ("[" ++ t.toString) = some cA := by
  obtain ⟨cA, kA, comp, h1, h2, h3⟩ := Cond.arrayClass_spec h
  exact ⟨cA, fun n z => ⟨fun k h => (by cases h), kA, h2, comp, h3⟩, h1⟩
theorem lw_arrB {args : Array Value} {s : State} {C0 : String} (h : (Cond.arrayOver (.object C0)).before args s = true) : ∃ cA, ArrOfT s cA (.object C0) ∧ va_RA s cA (.object C0) := by
  obtain ⟨comp, cA, kA, hcomp, hidx, hkA, hkindA, hnameA⟩ := Cond.arrayOver_spec h
  exact ⟨cA, fun n z => ⟨fun k h => (by cases h), kA, hkA, comp, hkindA⟩, kA, comp, hkA, hkindA, hcomp, hnameA⟩
theorem lw_K {args : Array Value} {s : State} (T : ∀ w ∈ lw_tbl, w.before args s = true) : ∃ (D : va_G) (cs : Nat → ClassId), va_K D vwCl (az_tys cs) s := by
  obtain ⟨c0, i0, k0⟩ := u_known (C := RJ0) (T := TJ0) (N := 4) (n := 4) T (fun w hw => (cJ0.2.1 w hw).1) (T _ wins_J0)
  obtain ⟨c1, i1, k1⟩ := u_known (C := RJ4) (T := TJ4) (N := 4) (n := 4) T (fun w hw => (cJ4.2.1 w hw).1) (T _ wins_J4)
  obtain ⟨c2, i2, k2⟩ := u_known (C := RJx00060) (T := TJx00060) (N := 6) (n := 6) T (show ∀ w ∈ u_ws RJx00060 TJx00060 6, w ∈ lw_tbl from by decide +kernel) (T _ wins_Jx00060)
  obtain ⟨c3, i3, k3⟩ := u_known (C := RJx7c733) (T := TJx7c733) (N := 6) (n := 6) T (show ∀ w ∈ u_ws RJx7c733 TJx7c733 6, w ∈ lw_tbl from by decide +kernel) (T _ wins_Jx7c733)
  obtain ⟨c4, i4, k4⟩ := u_known (C := RX0) (T := TX0) (N := 8) (n := 8) T (fun w hw => (cX0.2.1 w hw).1) (T _ wins_X0)
  obtain ⟨c5, i5, k5⟩ := u_known (C := RX1) (T := TX1) (N := 4) (n := 4) T (fun w hw => (cX1.2.1 w hw).1) (T _ wins_X1)
  obtain ⟨c6, i6, k6⟩ := u_known (C := RX2) (T := TX2) (N := 9) (n := 9) T (fun w hw => (cX2.2.1 w hw).1) (T _ wins_X2)
  obtain ⟨c7, i7, k7⟩ := u_known (C := RX3) (T := TX3) (N := 14) (n := 14) T (fun w hw => (cX3.2.1 w hw).1) (T _ wins_X3)
  obtain ⟨c8, i8, k8⟩ := u_known (C := RX4) (T := TX4) (N := 40) (n := 40) T (fun w hw => (cX4.2.1 w hw).1) (T _ wins_X4)
  obtain ⟨a0, g0, n0⟩ := lw_arr (T _ wa_int)
  obtain ⟨a1, g1, n1⟩ := lw_arr (T _ wa_boolean)
  obtain ⟨a2, g2, n2⟩ := lw_arr (T _ wa_char)
  obtain ⟨a3, g3, n3⟩ := lw_arr (T _ wa_byte)
  obtain ⟨a4, g4, n4⟩ := lw_arr (T _ wa_long)
  obtain ⟨a5, g5, n5⟩ := lw_arrB (C0 := az_B) (T _ (az_t (i := 101) (by decide +kernel)))
  refine ⟨(fun k => match k with | 0 => c0 | 1 => c1 | 2 => c2 | 3 => c3 | 4 => c4 | 5 => c5 | 6 => c6 | 7 => c7 | _ => c8, fun k => match k with | 0 => i0 | 1 => i1 | 2 => i2 | 3 => i3 | 4 => i4 | 5 => i5 | 6 => i6 | 7 => i7 | _ => i8), fun k => match k with | 0 => a0 | 1 => a1 | 2 => a2 | 3 => a3 | 4 => a4 | _ => a5, fun k q hq => ?_, fun k q hq => ?_⟩
  · match k, hq with
    | 0, hq => cases hq; exact k0
    | 1, hq => cases hq; exact k1
    | 2, hq => cases hq; exact k2
    | 3, hq => cases hq; exact k3
    | 4, hq => cases hq; exact k4
    | 5, hq => cases hq; exact k5
    | 6, hq => cases hq; exact k6
    | 7, hq => cases hq; exact k7
    | 8, hq => cases hq; exact k8
    | k + 9, hq => exact absurd (List.getElem?_eq_some_iff.mp hq).1 (by show ¬ (k + 9 < 9); omega)
  · match k, hq with
    | 0, hq => cases hq; exact ⟨g0, n0⟩
    | 1, hq => cases hq; exact ⟨g1, n1⟩
    | 2, hq => cases hq; exact ⟨g2, n2⟩
    | 3, hq => cases hq; exact ⟨g3, n3⟩
    | 4, hq => cases hq; exact ⟨g4, n4⟩
    | 5, hq => cases hq; exact ⟨g5, n5⟩
    | k + 6, hq => exact absurd (List.getElem?_eq_some_iff.mp hq).1 (by show ¬ (k + 6 < 6); omega)
theorem f_ones : ∀ j, j < 100 → lw_F[14 + j]? = some (Cond.eq (.elem (.static "java/lang/Integer" "DigitOnes" "[B") (.int (Int32.ofNat j))) (.int (az_ones j))) := by decide +kernel
theorem f_tens : ∀ j, j < 100 → lw_F[117 + j]? = some (Cond.eq (.elem (.static "java/lang/Integer" "DigitTens" "[B") (.int (Int32.ofNat j))) (.int (az_tens j))) := by decide +kernel
theorem lw_ones {args : Array Value} {s : State} (F : ∀ c ∈ lw_F, c.before args s = true) (T : ∀ w ∈ lw_tbl, w.before args s = true) : az_tab s.heap.size "DigitOnes" az_ones s s.heap := by
  obtain ⟨t, h1, h2⟩ := va_Tof (A := fun q => s.heap.size ≤ q) (ty := .byte) (N := 100) (f := fun j => .int (az_ones j)) (tm := .static "java/lang/Integer" "DigitOnes" "[B") (by decide) (F _ (List.mem_of_getElem? (i := 12) (by decide +kernel))) (va_eqt (F _ (List.mem_of_getElem? (i := 13) (by decide +kernel)))) (fun j hj => va_eqt (F _ (List.mem_of_getElem? (f_ones j hj)))) lw_nA
  exact ⟨t, va_Zof (T _ (az_t (i := 1026) (by decide +kernel))) (T _ wini_J6) h1 lw_nA, h2⟩
theorem lw_tens {args : Array Value} {s : State} (F : ∀ c ∈ lw_F, c.before args s = true) (T : ∀ w ∈ lw_tbl, w.before args s = true) : az_tab s.heap.size "DigitTens" az_tens s s.heap := by
  obtain ⟨t, h1, h2⟩ := va_Tof (A := fun q => s.heap.size ≤ q) (ty := .byte) (N := 100) (f := fun j => .int (az_tens j)) (tm := .static "java/lang/Integer" "DigitTens" "[B") (by decide) (F _ (List.mem_of_getElem? (i := 115) (by decide +kernel))) (va_eqt (F _ (List.mem_of_getElem? (i := 116) (by decide +kernel)))) (fun j hj => va_eqt (F _ (List.mem_of_getElem? (f_tens j hj)))) lw_nA
  exact ⟨t, va_Zof (T _ (az_t (i := 1028) (by decide +kernel))) (T _ wini_J6) h1 lw_nA, h2⟩
theorem lw_str {args : Array Value} {s : State} {k : Nat} {tx : String} (h1 : (Cond.stringRef RX3 k tx).before args s = true) (h2 : (Cond.exactly (.string RX3 k) "java/lang/String").before args s = true) : ∃ a, vk_R RX3 k tx a s := by
  obtain ⟨a2, c, cA, kA, q1, -⟩ := Cond.exactly_spec (args := args) (first := s) (o := none) (s := s) (idx := []) (t := .string RX3 k) (cls := "java/lang/String") h2
  exact ⟨a2, vk_R.of h1 q1⟩
theorem lw_sAt {args : Array Value} {s : State} {k : Nat} {tx : String} {byt : List Int32} (h1 : (Cond.stringRef RX3 k tx).before args s = true) (h2 : (Cond.exactly (.string RX3 k) "java/lang/String").before args s = true) (h3 : (Cond.eq (.field (.string RX3 k) "java/lang/String" "coder" "B") (.int 0)).before args s = true) (h4 : (Cond.arrayOf (.field (.string RX3 k) "java/lang/String" "value" "[B") .byte).before args s = true) (h5 : (Cond.eq (.length (.field (.string RX3 k) "java/lang/String" "value" "[B")) (.int (Int32.ofNat 2))).before args s = true) (h6 : ∀ j, j < 2 → (Cond.eq (.elem (.field (.string RX3 k) "java/lang/String" "value" "[B") (.int (Int32.ofNat j))) (.int (byt.getD j 0))).before args s = true) : ∃ a v, az_sAt s.heap.size k tx byt a v s s.heap := by
  obtain ⟨a2, c, cA, kA, q1, -⟩ := Cond.exactly_spec (args := args) (first := s) (o := none) (s := s) (idx := []) (t := .string RX3 k) (cls := "java/lang/String") h2
  obtain ⟨v, g1, g2⟩ := va_Tof (A := fun q => s.heap.size ≤ q) (ty := .byte) (N := 2) (f := fun j => .int (byt.getD j 0)) (tm := .field (.string RX3 k) "java/lang/String" "value" "[B") (by decide) h4 (va_eqt h5) (fun j hj => va_eqt (h6 j hj)) lw_nA
  exact ⟨a2, v, vk_R.of h1 q1, va_Oof h2 q1 lw_nA, vk_OFof q1 (va_eqt h3) lw_nA, vk_OFof q1 g1 lw_nA, g2⟩
theorem lw_sTo {s U : State} {H : Heap} {k a v : Nat} {tx : String} {byt : List Int32} (hW : s.WarmedH U.vm) (kp : ∀ a : Nat, a < s.heap.size → ¬ (s.heap.size ≤ a) → H[a]? = s.heap[a]?) (h : az_sAt s.heap.size k tx byt a v s s.heap) : az_sAt s.heap.size k tx byt a v U H :=
  ⟨vk_R.warm hW h.1, va_O.kept (va_O.moved hW.alike h.2.1) kp, va_OF.kept (va_OF.moved hW.alike h.2.2.1) kp, va_OF.kept (va_OF.moved hW.alike h.2.2.2.1) kp, va_T.kept (va_T.moved hW.alike h.2.2.2.2) kp⟩
theorem f_s307 : ∀ j, j < 2 → lw_F[1206 + j]? = some (Cond.eq (.elem (.field (.string RX3 307) "java/lang/String" "value" "[B") (.int (Int32.ofNat j))) (.int (([58, 32] : List Int32).getD j 0))) := by decide +kernel
theorem lw_s307 {args : Array Value} {s : State} (F : ∀ c ∈ lw_F, c.before args s = true) (T : ∀ w ∈ lw_tbl, w.before args s = true) : ∃ a v, az_sAt s.heap.size 307 ": " [58, 32] a v s s.heap :=
  lw_sAt (T _ (az_t (i := 1153) (by decide +kernel))) (F _ (List.mem_of_getElem? (i := 1202) (by decide +kernel))) (F _ (List.mem_of_getElem? (i := 1203) (by decide +kernel))) (F _ (List.mem_of_getElem? (i := 1204) (by decide +kernel))) (F _ (List.mem_of_getElem? (i := 1205) (by decide +kernel))) (fun j hj => F _ (List.mem_of_getElem? (f_s307 j hj)))
theorem f_s312 : ∀ j, j < 2 → lw_F[1212 + j]? = some (Cond.eq (.elem (.field (.string RX3 312) "java/lang/String" "value" "[B") (.int (Int32.ofNat j))) (.int (([100, 109] : List Int32).getD j 0))) := by decide +kernel
theorem lw_s312 {args : Array Value} {s : State} (F : ∀ c ∈ lw_F, c.before args s = true) (T : ∀ w ∈ lw_tbl, w.before args s = true) : ∃ a v, az_sAt s.heap.size 312 "dm" [100, 109] a v s s.heap :=
  lw_sAt (T _ (az_t (i := 1155) (by decide +kernel))) (F _ (List.mem_of_getElem? (i := 1208) (by decide +kernel))) (F _ (List.mem_of_getElem? (i := 1209) (by decide +kernel))) (F _ (List.mem_of_getElem? (i := 1210) (by decide +kernel))) (F _ (List.mem_of_getElem? (i := 1211) (by decide +kernel))) (fun j hj => F _ (List.mem_of_getElem? (f_s312 j hj)))
theorem f_txt : az_txt.all (fun q => decide (Cond.stringRef RX3 q.1 q.2 ∈ lw_tbl) && decide (Cond.exactly (.string RX3 q.1) "java/lang/String" ∈ lw_F)) = true := by decide +kernel
theorem f_ncs : az_ncs.all (fun q => decide (Cond.not (.castable q.1 q.2) ∈ lw_F)) = true := by decide +kernel
theorem f_bad : az_bad.all (fun w => decide (w ∈ lw_tbl)) = true := by decide +kernel
theorem lw_txt {args : Array Value} {s : State} (F : ∀ c ∈ lw_F, c.before args s = true) (T : ∀ w ∈ lw_tbl, w.before args s = true) : ∀ q ∈ az_txt, ∃ a, vk_R RX3 q.1 q.2 a s := by
  intro q hq
  have h := List.all_eq_true.mp f_txt q hq
  rw [Bool.and_eq_true] at h
  exact lw_str (T _ (of_decide_eq_true h.1)) (F _ (of_decide_eq_true h.2))
theorem lw_badU {s U : State} (hW : s.WarmedH U.vm) : ∀ w ∈ az_bad, va_Nw w s → va_Nw w U := by
  intro w hw
  simp only [az_bad, List.mem_cons, List.not_mem_nil, or_false] at hw
  rcases hw with rfl | rfl | rfl | rfl | rfl | rfl | rfl | rfl | rfl | rfl | rfl | rfl | rfl | rfl | rfl | rfl | rfl | rfl | rfl | rfl | rfl | rfl | rfl | rfl | rfl | rfl
  all_goals first | exact fun h => va_Nw.warmF hW h | exact fun h => va_Nw.warmM hW h | exact fun h => va_Nw.warmC hW h | exact fun h => va_Nw.warmD hW h
theorem f_badT : az_bad.all (fun w => w.onTables) = true := by decide +kernel
theorem lw_okS {l : Launch} (hflags : l.flags = flags0) {args : Array Value} {s : State} (D : va_G) (cs : Nat → ClassId) (F : ∀ c ∈ lw_F, c.before args s = true) (T : ∀ w ∈ lw_tbl, w.before args s = true) : az_okS l (lw_G s D cs) := by
  refine ⟨lw_ok hflags s D cs, fun U H hO => ?_⟩
  have hW : s.WarmedH U.vm := hO.1
  have hal := hW.alike
  have kp : ∀ a : Nat, a < s.heap.size → ¬ (s.heap.size ≤ a) → H[a]? = s.heap[a]? := fun a h _ => hO.2 a h
  obtain ⟨t1, z1, z2⟩ := lw_tens F T
  obtain ⟨t2, z3, z4⟩ := lw_ones F T
  obtain ⟨a1, v1, s1⟩ := lw_s307 F T
  obtain ⟨a2, v2, s2⟩ := lw_s312 F T
  refine ⟨vx_Zq.kept (vx_Zq.moved hal (vx_Zqof (T _ (az_t (i := 319) (by decide +kernel))) (T _ (az_t (i := 12) (by decide +kernel))) (F _ (List.mem_of_getElem? (i := 5) (by decide +kernel))) lw_nA)) kp, vx_Zq.kept (vx_Zq.moved hal (vx_Zqof (T _ (az_t (i := 321) (by decide +kernel))) (T _ (az_t (i := 12) (by decide +kernel))) (F _ (List.mem_of_getElem? (i := 6) (by decide +kernel))) lw_nA)) kp, fun q hq => ?_, fun w hw => ?_, fun q hq => ?_, va_AO.moved hal (va_AO.of (T _ (az_t (i := 101) (by decide +kernel)))), va_Z.kept (va_Z.moved hal (va_Zof (T _ (az_t (i := 112) (by decide +kernel))) (T _ wini_J0) (va_eqi (F _ (List.mem_of_getElem? (i := 4) (by decide +kernel)))) lw_nA)) kp, ⟨t1, va_Z.kept (va_Z.moved hal z1) kp, va_T.kept (va_T.moved hal z2) kp⟩, ⟨t2, va_Z.kept (va_Z.moved hal z3) kp, va_T.kept (va_T.moved hal z4) kp⟩, ⟨a1, v1, lw_sTo hW kp s1⟩, ⟨a2, v2, lw_sTo hW kp s2⟩⟩
  · obtain ⟨a9, h9⟩ := lw_txt F T q hq
    exact ⟨a9, vk_R.warm hW h9⟩
  · have hm : w ∈ lw_tbl := of_decide_eq_true (List.all_eq_true.mp f_bad w hw)
    have ho : w.onTables = true := List.all_eq_true.mp f_badT w hw
    exact lw_badU hW w hw (va_Nw.of ho (T _ hm))
  · exact va_Nc.moved hal (va_Nc.of (F _ (of_decide_eq_true (List.all_eq_true.mp f_ncs q hq))))
theorem lw_up {w : Cond} {a : Array Value} {s U : State} (hr : Jvm.Free.Fmt.ridesM w = true) (hW : s.WarmedH U.vm) (h : w.before a s = true) : va_Nw w U := Jvm.Free.Fmt.rides_of_M w hr hW h
theorem f_selR : az_sel.all (fun w => Jvm.Free.Fmt.ridesM w) = true := by decide +kernel
theorem lw_sel {args : Array Value} {s : State} (T : ∀ w ∈ lw_tbl, w.before args s = true) : ∀ w ∈ az_sel, w.before args s = true := by
  have k : ∀ y : MethodName, y.cls = yJ5_isLatin1_aae02.cls → (y.cls ≠ "java/lang/invoke/MethodHandle" ∧ y.cls ≠ "java/lang/invoke/VarHandle") → (Cond.privateMethod y).before args s = true → (Cond.instanceMethod y).before args s = true → (Cond.selects RJ4 y y).before args s = true := fun y hc hy hp hi => az_selS (T _ wseJ4_J5_isLatin1_aae02) hc hy hp hi
  intro w hw
  simp only [az_sel, List.mem_cons, List.not_mem_nil, or_false] at hw
  rcases hw with rfl | rfl | rfl | rfl | rfl
  · exact k _ rfl (by decide +kernel) (T _ (az_t (i := 914) (by decide +kernel))) (T _ (az_t (i := 915) (by decide +kernel)))
  · exact k _ rfl (by decide +kernel) (T _ (az_t (i := 918) (by decide +kernel))) (T _ (az_t (i := 919) (by decide +kernel)))
  · exact k _ rfl (by decide +kernel) (T _ (az_t (i := 979) (by decide +kernel))) (T _ (az_t (i := 980) (by decide +kernel)))
  · exact k _ rfl (by decide +kernel) (T _ (az_t (i := 983) (by decide +kernel))) (T _ (az_t (i := 984) (by decide +kernel)))
  · exact (T _ (az_t (i := 133) (by decide +kernel)))
theorem lw_okT {args : Array Value} {s : State} (D : va_G) (cs : Nat → ClassId) (F : ∀ c ∈ lw_F, c.before args s = true) (T : ∀ w ∈ lw_tbl, w.before args s = true) : ∃ A, az_okT (lw_G s D cs) A := by
  obtain ⟨a1, v1, s1⟩ := lw_s307 F T
  obtain ⟨a2, v2, s2⟩ := lw_s312 F T
  refine ⟨(a1, v1, a2, v2), fun U H hO => ?_⟩
  have hW : s.WarmedH U.vm := hO.1
  have kp : ∀ a : Nat, a < s.heap.size → ¬ (s.heap.size ≤ a) → H[a]? = s.heap[a]? := fun a h _ => hO.2 a h
  exact ⟨fun w hw => lw_up (List.all_eq_true.mp f_selR w hw) hW (lw_sel T w hw), va_Zq.kept (va_Zq.moved hW.alike (va_Zqof (T _ (az_t (i := 956) (by decide +kernel))) (T _ wini_J3) (F _ (List.mem_of_getElem? (i := 7) (by decide +kernel))) lw_nA)) kp, lw_sTo hW kp s1, lw_sTo hW kp s2⟩
