section
variable {l : Launch} {G : az_G} {ρ : Rp} {x : Xs} {m : Ms} {ou : Nat → Int64}
theorem O_areaOf (hG : az_okS l G) {c : Nat} (hc : c < 512) (h : Nx c ρ x m) (p0 : Int32) : XO l G ρ x m yX3_areaOf cX3_areaOf 2 (some FieldType.int) [.int p0] [("java/lang/IndexOutOfBoundsException", 1)] cvI (MO l G yX4_areaOf cX4_areaOf 2 (some FieldType.int) [.int p0] cvI (c + 1) m) := by
  obtain ⟨n, nr, nb, N, cs, h⟩ := h
  have h6 := h.n6
  have h1 := h.n1
  have hb8 := h.b8
  rcases oo_or nr (by omega) p0 with hv | ⟨k, hk, rfl⟩
  · exact xo_x (k := 1) (fun ou => XareaOf0 hG nr p0 h.xr h.n6 hv) (by decide) h.cap List.mem_cons_self (fun ou' => mo_r (k := 1) (w := (0 : Int64)) (MareaOf0 hG nr p0 h.mr h.n6 hv) (by decide) ⟨0, rfl, rfl⟩ mI_s (fun z => absurd z (by decide)) h.n0)
  · refine xo_r (fun ou => XareaOf1 hG nr k h.xr h.n6 hk) (by decide) h.cap ⟨_, rfl, rfl⟩ (fun ou' hw => mo_r (MareaOf1 hG nr k h.mr h.n6 hk) (by decide) ⟨_, rfl, rfl⟩ mI_s (fun _ => hw.trans ?_) h.n0)
    rw [h.a2 (by omega)]
theorem O_volumeOf (hG : az_okS l G) {c : Nat} (hc : c < 512) (h : Nx c ρ x m) (p0 : Int32) : XO l G ρ x m yX3_volumeOf cX3_volumeOf 2 (some FieldType.int) [.int p0] [("java/lang/IndexOutOfBoundsException", 1)] cvI (MO l G yX4_volumeOf cX4_volumeOf 2 (some FieldType.int) [.int p0] cvI (c + 1) m) := by
  obtain ⟨n, nr, nb, N, cs, h⟩ := h
  have h6 := h.n6
  have h1 := h.n1
  have hb8 := h.b8
  rcases oo_or nr (by omega) p0 with hv | ⟨k, hk, rfl⟩
  · exact xo_x (k := 1) (fun ou => XvolumeOf0 hG nr p0 h.xr h.n6 hv) (by decide) h.cap List.mem_cons_self (fun ou' => mo_r (k := 1) (w := (0 : Int64)) (MvolumeOf0 hG nr p0 h.mr h.n6 hv) (by decide) ⟨0, rfl, rfl⟩ mI_s (fun z => absurd z (by decide)) h.n0)
  · refine xo_r (fun ou => XvolumeOf1 hG nr k h.xr h.n6 hk) (by decide) h.cap ⟨_, rfl, rfl⟩ (fun ou' hw => mo_r (MvolumeOf1 hG nr k h.mr h.n6 hk) (by decide) ⟨_, rfl, rfl⟩ mI_s (fun _ => hw.trans ?_) h.n0)
    rw [x4_eq h.1.1 hk]
theorem O_levelOf (hG : az_okS l G) {c : Nat} (hc : c < 512) (h : Nx c ρ x m) (p0 : Int32) : XO l G ρ x m yX3_levelOf cX3_levelOf 2 (some FieldType.int) [.int p0] [("java/lang/IndexOutOfBoundsException", 1)] cvI (MO l G yX4_levelOf cX4_levelOf 2 (some FieldType.int) [.int p0] cvI (c + 1) m) := by
  obtain ⟨n, nr, nb, N, cs, h⟩ := h
  have h6 := h.n6
  have h1 := h.n1
  have hb8 := h.b8
  rcases oo_or nr (by omega) p0 with hv | ⟨k, hk, rfl⟩
  · exact xo_x (k := 1) (fun ou => XlevelOf0 hG nr p0 h.xr h.n6 hv) (by decide) h.cap List.mem_cons_self (fun ou' => mo_r (k := 1) (w := (0 : Int64)) (MlevelOf0 hG nr p0 h.mr h.n6 hv) (by decide) ⟨0, rfl, rfl⟩ mI_s (fun z => absurd z (by decide)) h.n0)
  · refine xo_r (fun ou => XlevelOf1 hG nr k h.xr h.n6 hk (h.xa hk)) (by decide) h.cap ⟨_, rfl, rfl⟩ (fun ou' hw => mo_r (MlevelOf1 hG nr k h.mr h.n6 hk (h.ma hk)) (by decide) ⟨_, rfl, rfl⟩ mI_s (fun _ => hw.trans ?_) h.n0)
    rw [lev_eq h.1.1 (by omega)]
theorem O_priceIn (hG : az_okS l G) {c : Nat} (hc : c < 512) (h : Nx c ρ x m) (p0 : Int32) : XO l G ρ x m yX3_priceIn cX3_priceIn 2 (some FieldType.int) [.int p0] [("java/lang/IndexOutOfBoundsException", 1)] cvI (MO l G yX4_priceIn cX4_priceIn 2 (some FieldType.int) [.int p0] cvI (c + 1) m) := by
  obtain ⟨n, nr, nb, N, cs, h⟩ := h
  have h6 := h.n6
  have h1 := h.n1
  have hb8 := h.b8
  rcases oo_or nr (by omega) p0 with hv | ⟨k, hk, rfl⟩
  · exact xo_x (k := 1) (fun ou => XpriceIn0 hG nr p0 h.xr h.n6 hv) (by decide) h.cap List.mem_cons_self (fun ou' => mo_r (k := 1) (w := (0 : Int64)) (MpriceIn0 hG nr p0 h.mr h.n6 hv) (by decide) ⟨0, rfl, rfl⟩ mI_s (fun z => absurd z (by decide)) h.n0)
  · refine xo_r (fun ou => XpriceIn1 hG nr k h.xr h.n6 hk) (by decide) h.cap ⟨_, rfl, rfl⟩ (fun ou' hw => mo_r (MpriceIn1 hG nr k h.mr h.n6 hk) (by decide) ⟨_, rfl, rfl⟩ mI_s (fun _ => hw.trans ?_) h.n0)
    rw [(h.1.2.1 k hk).1]
theorem O_lockfulOf (hG : az_okS l G) {c : Nat} (hc : c < 512) (h : Nx c ρ x m) (p0 : Int32) : XO l G ρ x m yX3_lockfulOf cX3_lockfulOf 2 (some FieldType.int) [.int p0] [("java/lang/IndexOutOfBoundsException", 1)] cvI (MO l G yX4_lockfulOf cX4_lockfulOf 2 (some FieldType.int) [.int p0] cvI (c + 1) m) := by
  obtain ⟨n, nr, nb, N, cs, h⟩ := h
  have h6 := h.n6
  have h1 := h.n1
  have hb8 := h.b8
  rcases oo_or (nr - 1) (by omega) p0 with hv | ⟨k, hk, rfl⟩
  · exact xo_x (k := 1) (fun ou => XlockfulOf0 hG nr p0 h.xr h.n6 h.n1 hv) (by decide) h.cap List.mem_cons_self (fun ou' => mo_r (k := 1) (w := (0 : Int64)) (MlockfulOf0 hG nr p0 h.mr h.n6 h.n1 hv) (by decide) ⟨0, rfl, rfl⟩ mI_s (fun z => absurd z (by decide)) h.n0)
  · refine xo_r (fun ou => XlockfulOf1 hG nr k h.xr h.n6 (by omega)) (by decide) h.cap ⟨_, rfl, rfl⟩ (fun ou' hw => mo_r (MlockfulOf1 hG nr k h.mr h.n6 (by omega)) (by decide) ⟨_, rfl, rfl⟩ mI_s (fun _ => hw.trans ?_) h.n0)
    rw [(h.1.1.1.2.2.2.2.2.2.2.2 k (by omega)).1]
theorem O_lengthOf (hG : az_okS l G) {c : Nat} (hc : c < 512) (h : Nx c ρ x m) (p0 : Int32) : XO l G ρ x m yX3_lengthOf cX3_lengthOf 2 (some FieldType.int) [.int p0] [("java/lang/IndexOutOfBoundsException", 1)] cvI (MO l G yX4_lengthOf cX4_lengthOf 2 (some FieldType.int) [.int p0] cvI (c + 1) m) := by
  obtain ⟨n, nr, nb, N, cs, h⟩ := h
  have h6 := h.n6
  have h1 := h.n1
  have hb8 := h.b8
  rcases oo_or (nr - 1) (by omega) p0 with hv | ⟨k, hk, rfl⟩
  · exact xo_x (k := 1) (fun ou => XlengthOf0 hG nr p0 h.xr h.n6 h.n1 hv) (by decide) h.cap List.mem_cons_self (fun ou' => mo_r (k := 1) (w := (0 : Int64)) (MlengthOf0 hG nr p0 h.mr h.n6 h.n1 hv) (by decide) ⟨0, rfl, rfl⟩ mI_s (fun z => absurd z (by decide)) h.n0)
  · refine xo_r (fun ou => XlengthOf1 hG nr k h.xr h.n6 (by omega)) (by decide) h.cap ⟨_, rfl, rfl⟩ (fun ou' hw => mo_r (MlengthOf1 hG nr k h.mr h.n6 (by omega)) (by decide) ⟨_, rfl, rfl⟩ mI_s (fun _ => hw.trans ?_) h.n0)
    rw [(h.1.1.1.2.2.2.2.2.2.2.2 k (by omega)).2.1]
theorem O_sillOf (hG : az_okS l G) {c : Nat} (hc : c < 512) (h : Nx c ρ x m) (p0 : Int32) : XO l G ρ x m yX3_sillOf cX3_sillOf 2 (some FieldType.int) [.int p0] [("java/lang/IndexOutOfBoundsException", 1)] cvI (MO l G yX4_sillOf cX4_sillOf 2 (some FieldType.int) [.int p0] cvI (c + 1) m) := by
  obtain ⟨n, nr, nb, N, cs, h⟩ := h
  have h6 := h.n6
  have h1 := h.n1
  have hb8 := h.b8
  rcases oo_or (nr - 1) (by omega) p0 with hv | ⟨k, hk, rfl⟩
  · exact xo_x (k := 1) (fun ou => XsillOf0 hG nr p0 h.xr h.n6 h.n1 hv) (by decide) h.cap List.mem_cons_self (fun ou' => mo_r (k := 1) (w := (0 : Int64)) (MsillOf0 hG nr p0 h.mr h.n6 h.n1 hv) (by decide) ⟨0, rfl, rfl⟩ mI_s (fun z => absurd z (by decide)) h.n0)
  · refine xo_r (fun ou => XsillOf1 hG nr k h.xr h.n6 (by omega)) (by decide) h.cap ⟨_, rfl, rfl⟩ (fun ou' hw => mo_r (MsillOf1 hG nr k h.mr h.n6 (by omega)) (by decide) ⟨_, rfl, rfl⟩ mI_s (fun _ => hw.trans ?_) h.n0)
    rw [(h.1.1.1.2.2.2.2.2.2.2.2 k (by omega)).2.2.1]
theorem O_waterThrough (hG : az_okS l G) {c : Nat} (hc : c < 512) (h : Nx c ρ x m) (p0 : Int32) : XO l G ρ x m yX3_waterThrough cX3_waterThrough 2 (some FieldType.int) [.int p0] [("java/lang/IndexOutOfBoundsException", 1)] cvI (MO l G yX4_waterThrough cX4_waterThrough 2 (some FieldType.int) [.int p0] cvI (c + 1) m) := by
  obtain ⟨n, nr, nb, N, cs, h⟩ := h
  have h6 := h.n6
  have h1 := h.n1
  have hb8 := h.b8
  rcases oo_or (nr - 1) (by omega) p0 with hv | ⟨k, hk, rfl⟩
  · exact xo_x (k := 1) (fun ou => XwaterThrough0 hG nr p0 h.xr h.n6 h.n1 hv) (by decide) h.cap List.mem_cons_self (fun ou' => mo_r (k := 1) (w := (0 : Int64)) (MwaterThrough0 hG nr p0 h.mr h.n6 h.n1 hv) (by decide) ⟨0, rfl, rfl⟩ mI_s (fun z => absurd z (by decide)) h.n0)
  · refine xo_r (fun ou => XwaterThrough1 hG nr k h.xr h.n6 (by omega)) (by decide) h.cap ⟨_, rfl, rfl⟩ (fun ou' hw => mo_r (MwaterThrough1 hG nr k h.mr h.n6 (by omega)) (by decide) ⟨_, rfl, rfl⟩ mI_s (fun _ => hw.trans ?_) h.n0)
    rw [(h.1.1.1.2.2.2.2.2.2.2.2 k (by omega)).2.2.2.1]
theorem O_reachOf (hG : az_okS l G) {c : Nat} (hc : c < 512) (h : Nx c ρ x m) (p0 : Int32) : XO l G ρ x m yX3_reachOf cX3_reachOf 2 (some FieldType.int) [.int p0] [("java/lang/IndexOutOfBoundsException", 1)] cvI (MO l G yX4_reachOf cX4_reachOf 2 (some FieldType.int) [.int p0] cvI (c + 1) m) := by
  obtain ⟨n, nr, nb, N, cs, h⟩ := h
  have h6 := h.n6
  have h1 := h.n1
  have hb8 := h.b8
  rcases oo_or nb (by omega) p0 with hv | ⟨k, hk, rfl⟩
  · exact xo_x (k := 1) (fun ou => XreachOf0 hG nb p0 h.xb h.eb h.b8 hv) (by decide) h.cap List.mem_cons_self (fun ou' => mo_r (k := 1) (w := (0 : Int64)) (MreachOf0 hG nb p0 h.mb h.b8 hv) (by decide) ⟨0, rfl, rfl⟩ mI_s (fun z => absurd z (by decide)) h.n0)
  · refine xo_r (fun ou => XreachOf1 hG nb k h.xb h.eb h.b8 hk) (by decide) h.cap ⟨_, rfl, rfl⟩ (fun ou' hw => mo_r (MreachOf1 hG nb k h.mb h.b8 hk) (by decide) ⟨_, rfl, rfl⟩ mI_s (fun _ => hw.trans ?_) h.n0)
    rw [(h.1.2.2.2.1 k hk).1]
theorem O_cargoOf (hG : az_okS l G) {c : Nat} (hc : c < 512) (h : Nx c ρ x m) (p0 : Int32) : XO l G ρ x m yX3_cargoOf cX3_cargoOf 2 (some FieldType.int) [.int p0] [("java/lang/IndexOutOfBoundsException", 1)] cvI (MO l G yX4_cargoOf cX4_cargoOf 2 (some FieldType.int) [.int p0] cvI (c + 1) m) := by
  obtain ⟨n, nr, nb, N, cs, h⟩ := h
  have h6 := h.n6
  have h1 := h.n1
  have hb8 := h.b8
  rcases oo_or nb (by omega) p0 with hv | ⟨k, hk, rfl⟩
  · exact xo_x (k := 1) (fun ou => XcargoOf0 hG nb p0 h.xb h.eb h.b8 hv) (by decide) h.cap List.mem_cons_self (fun ou' => mo_r (k := 1) (w := (0 : Int64)) (McargoOf0 hG nb p0 h.mb h.b8 hv) (by decide) ⟨0, rfl, rfl⟩ mI_s (fun z => absurd z (by decide)) h.n0)
  · refine xo_r (fun ou => XcargoOf1 hG nb k h.xb h.eb h.b8 hk) (by decide) h.cap ⟨_, rfl, rfl⟩ (fun ou' hw => mo_r (McargoOf1 hG nb k h.mb h.b8 hk) (by decide) ⟨_, rfl, rfl⟩ mI_s (fun _ => hw.trans ?_) h.n0)
    rw [(h.1.2.2.1.2 k hk).2.2.2.1]
theorem O_draughtOf (hG : az_okS l G) {c : Nat} (hc : c < 512) (h : Nx c ρ x m) (p0 : Int32) : XO l G ρ x m yX3_draughtOf cX3_draughtOf 2 (some FieldType.int) [.int p0] [("java/lang/IndexOutOfBoundsException", 1)] cvI (MO l G yX4_draughtOf cX4_draughtOf 2 (some FieldType.int) [.int p0] cvI (c + 1) m) := by
  obtain ⟨n, nr, nb, N, cs, h⟩ := h
  have h6 := h.n6
  have h1 := h.n1
  have hb8 := h.b8
  rcases oo_or nb (by omega) p0 with hv | ⟨k, hk, rfl⟩
  · exact xo_x (k := 1) (fun ou => XdraughtOf0 hG nb p0 h.xb h.eb h.b8 hv) (by decide) h.cap List.mem_cons_self (fun ou' => mo_r (k := 1) (w := (0 : Int64)) (MdraughtOf0 hG nb p0 h.mb h.b8 hv) (by decide) ⟨0, rfl, rfl⟩ mI_s (fun z => absurd z (by decide)) h.n0)
  · refine xo_r (fun ou => XdraughtOf1 hG nb k h.xb h.eb h.b8 hk (h.xt hk)) (by decide) h.cap ⟨_, rfl, rfl⟩ (fun ou' hw => mo_r (MdraughtOf1 hG nb k h.mb h.b8 hk (h.mt hk)) (by decide) ⟨_, rfl, rfl⟩ mI_s (fun _ => hw.trans ?_) h.n0)
    rw [deep_eq h.1.2.2.1 hk]
theorem O_volumeBySteps (hG : az_okS l G) {c : Nat} (hc : c < 512) (h : Nx c ρ x m) (p0 : Int32) : XO l G ρ x m yX3_volumeBySteps cX3_volumeBySteps 2 (some FieldType.int) [.int p0] [("java/lang/IndexOutOfBoundsException", 1)] cvI (MO l G yX4_volumeBySteps cX4_volumeBySteps 2 (some FieldType.int) [.int p0] cvI (c + 1) m) := by
  obtain ⟨n, nr, nb, N, cs, h⟩ := h
  have h6 := h.n6
  have h1 := h.n1
  have hb8 := h.b8
  rcases oo_or nr (by omega) p0 with hv | ⟨k, hk, rfl⟩
  · exact xo_x (k := 1) (fun ou => XvolumeBySteps0 hG nr p0 h.xr h.n6 hv) (by decide) h.cap List.mem_cons_self (fun ou' => mo_r (k := 1) (w := (0 : Int64)) (MvolumeBySteps0 hG nr p0 h.mr h.n6 hv) (by decide) ⟨0, rfl, rfl⟩ mI_s (fun z => absurd z (by decide)) h.n0)
  · refine xo_r (fun ou => XvolumeBySteps1 hG nr k h.xr h.n6 hk n h.xn (h.nlt hc).1 (h.nlt hc).2.1 (h.nlt hc).2.2) (by decide) h.cap ⟨_, rfl, rfl⟩ (fun ou' hw => mo_r (MvolumeBySteps1 hG nr k h.mr h.n6 hk n (h.nlt hc).1 h.mn) (by decide) ⟨_, rfl, rfl⟩ mI_s (fun _ => hw.trans ?_) h.n0)
    rw [balX_eq h.1.1]
theorem O_isFull (hG : az_okS l G) {c : Nat} (hc : c < 512) (h : Nx c ρ x m) (p0 : Int32) : XO l G ρ x m yX3_isFull cX3_isFull 2 (some FieldType.boolean) [.int p0] [("java/lang/IndexOutOfBoundsException", 1)] cvZ (MO l G yX4_isFull cX4_isFull 2 (some FieldType.boolean) [.int p0] cvZ (c + 1) m) := by
  obtain ⟨n, nr, nb, N, cs, h⟩ := h
  have h6 := h.n6
  have h1 := h.n1
  rcases oo_or (nr - 1) (by omega) p0 with hv | ⟨k, hk, rfl⟩
  · exact xo_x (k := 1) (fun ou => XisFull0 hG nr p0 h.xr h.n6 h.n1 hv) (by decide) h.cap List.mem_cons_self (fun ou' => mo_r (k := 1) (w := (0 : Int64)) (MisFull0 hG nr p0 h.mr h.n6 h.n1 hv) (by decide) ⟨0, rfl, rfl⟩ mI_s (fun z => absurd z (by decide)) h.n0)
  · refine xo_r (fun ou => XisFull1 hG nr k h.xr h.n6 (by omega)) (by decide) h.cap ⟨_, rfl, rfl⟩ (fun ou' hw => mo_r (MisFull1 hG nr k h.mr h.n6 (by omega)) (by decide) ⟨_, rfl, rfl⟩ mI_s (fun _ => hw.trans ?_) h.n0)
    by_cases z : m.1 11 k = 0
    · rw [if_pos ((ch_le h.1.1 (by omega)).mpr z), if_pos z]
      decide
    · rw [if_neg (fun q => z ((ch_le h.1.1 (by omega)).mp q)), if_neg z]
      decide
theorem O_movementFrom (hG : az_okS l G) {c : Nat} (hc : c < 512) (h : Nx c ρ x m) (p0 : Int32) : XO l G ρ x m yX3_movementFrom cX3_movementFrom 2 (some FieldType.int) [.int p0] [("java/lang/IndexOutOfBoundsException", 1)] cvI (MO l G yX4_movementFrom cX4_movementFrom 2 (some FieldType.int) [.int p0] cvI (c + 1) m) := by
  obtain ⟨n, nr, nb, N, cs, h⟩ := h
  have hl := h.nlt hc
  rcases oo_or n (by omega) p0 with hv | ⟨k, hk, rfl⟩
  · exact xo_x (k := 1) (fun ou => XmovementFrom0 hG n p0 h.xn hl.1 hv) (by decide) h.cap List.mem_cons_self (fun ou' => mo_r (k := 1) (w := (0 : Int64)) (MmovementFrom0 hG n p0 hl.1 h.mn hv) (by decide) ⟨0, rfl, rfl⟩ mI_s (fun z => absurd z (by decide)) h.n0)
  · refine xo_r (fun ou => XmovementFrom1 hG n k h.xn hl.1 hk hl.2.1 hl.2.2) (by decide) h.cap ⟨_, rfl, rfl⟩ (fun ou' hw => mo_r (MmovementFrom1 hG n k hl.1 h.mn hk) (by decide) ⟨_, rfl, rfl⟩ mI_s (fun _ => hw.trans ?_) h.n0)
    rw [(h.1.1.1.2.2.2.2.2.2.2.1.2.2.2 k hk).1]
theorem O_movementTo (hG : az_okS l G) {c : Nat} (hc : c < 512) (h : Nx c ρ x m) (p0 : Int32) : XO l G ρ x m yX3_movementTo cX3_movementTo 2 (some FieldType.int) [.int p0] [("java/lang/IndexOutOfBoundsException", 1)] cvI (MO l G yX4_movementTo cX4_movementTo 2 (some FieldType.int) [.int p0] cvI (c + 1) m) := by
  obtain ⟨n, nr, nb, N, cs, h⟩ := h
  have hl := h.nlt hc
  rcases oo_or n (by omega) p0 with hv | ⟨k, hk, rfl⟩
  · exact xo_x (k := 1) (fun ou => XmovementTo0 hG n p0 h.xn hl.1 hv) (by decide) h.cap List.mem_cons_self (fun ou' => mo_r (k := 1) (w := (0 : Int64)) (MmovementTo0 hG n p0 hl.1 h.mn hv) (by decide) ⟨0, rfl, rfl⟩ mI_s (fun z => absurd z (by decide)) h.n0)
  · refine xo_r (fun ou => XmovementTo1 hG n k h.xn hl.1 hk hl.2.1 hl.2.2) (by decide) h.cap ⟨_, rfl, rfl⟩ (fun ou' hw => mo_r (MmovementTo1 hG n k hl.1 h.mn hk) (by decide) ⟨_, rfl, rfl⟩ mI_s (fun _ => hw.trans ?_) h.n0)
    rw [(h.1.1.1.2.2.2.2.2.2.2.1.2.2.2 k hk).2.1]
theorem O_movementVolume (hG : az_okS l G) {c : Nat} (hc : c < 512) (h : Nx c ρ x m) (p0 : Int32) : XO l G ρ x m yX3_movementVolume cX3_movementVolume 2 (some FieldType.int) [.int p0] [("java/lang/IndexOutOfBoundsException", 1)] cvI (MO l G yX4_movementVolume cX4_movementVolume 2 (some FieldType.int) [.int p0] cvI (c + 1) m) := by
  obtain ⟨n, nr, nb, N, cs, h⟩ := h
  have hl := h.nlt hc
  rcases oo_or n (by omega) p0 with hv | ⟨k, hk, rfl⟩
  · exact xo_x (k := 1) (fun ou => XmovementVolume0 hG n p0 h.xn hl.1 hv) (by decide) h.cap List.mem_cons_self (fun ou' => mo_r (k := 1) (w := (0 : Int64)) (MmovementVolume0 hG n p0 hl.1 h.mn hv) (by decide) ⟨0, rfl, rfl⟩ mI_s (fun z => absurd z (by decide)) h.n0)
  · refine xo_r (fun ou => XmovementVolume1 hG n k h.xn hl.1 hk hl.2.1 hl.2.2) (by decide) h.cap ⟨_, rfl, rfl⟩ (fun ou' hw => mo_r (MmovementVolume1 hG n k hl.1 h.mn hk) (by decide) ⟨_, rfl, rfl⟩ mI_s (fun _ => hw.trans ?_) h.n0)
    rw [(h.1.1.1.2.2.2.2.2.2.2.1.2.2.2 k hk).2.2]
theorem O_refusalReason (hG : az_okS l G) {c : Nat} (hc : c < 512) (h : Nx c ρ x m) : XO l G ρ x m yX3_refusalReason cX3_refusalReason 1 (some FieldType.int) [] [("java/util/NoSuchElementException", 1)] cvI (MO l G yX4_refusalReason cX4_refusalReason 1 (some FieldType.int) [] cvI (c + 1) m) := by
  obtain ⟨n, nr, nb, N, cs, h⟩ := h
  have e0 : x.1 0 12 = m.1 0 30 := h.1.2.2.2.2.2.1.2.2.2.2.1
  by_cases z : m.1 0 30 = 0
  · exact xo_x (k := 1) (fun ou => XrefusalReason0 hG (e0.trans z)) (by decide) h.cap List.mem_cons_self (fun ou' => mo_r (k := 1) (w := (0 : Int64)) (MrefusalReason0 hG z) (by decide) ⟨0, rfl, rfl⟩ mI_s (fun z => absurd z (by decide)) h.n0)
  · refine xo_r (fun ou => XrefusalReason1 hG (fun q => z (e0.symm.trans q))) (by decide) h.cap ⟨_, rfl, rfl⟩ (fun ou' hw => mo_r (MrefusalReason1 hG z) (by decide) ⟨_, rfl, rfl⟩ mI_s (fun _ => hw.trans ?_) h.n0)
    rw [h.1.2.2.2.2.2.1.2.2.2.2.1]
theorem O_refusalLock (hG : az_okS l G) {c : Nat} (hc : c < 512) (h : Nx c ρ x m) : XO l G ρ x m yX3_refusalLock cX3_refusalLock 1 (some FieldType.int) [] [("java/util/NoSuchElementException", 1)] cvI (MO l G yX4_refusalLock cX4_refusalLock 1 (some FieldType.int) [] cvI (c + 1) m) := by
  obtain ⟨n, nr, nb, N, cs, h⟩ := h
  have e0 : x.1 0 12 = m.1 0 30 := h.1.2.2.2.2.2.1.2.2.2.2.1
  by_cases z : m.1 0 30 = 0
  · exact xo_x (k := 1) (fun ou => XrefusalLock0 hG (e0.trans z)) (by decide) h.cap List.mem_cons_self (fun ou' => mo_r (k := 1) (w := (0 : Int64)) (MrefusalLock0 hG z) (by decide) ⟨0, rfl, rfl⟩ mI_s (fun z => absurd z (by decide)) h.n0)
  · refine xo_r (fun ou => XrefusalLock1 hG (fun q => z (e0.symm.trans q))) (by decide) h.cap ⟨_, rfl, rfl⟩ (fun ou' hw => mo_r (MrefusalLock1 hG z) (by decide) ⟨_, rfl, rfl⟩ mI_s (fun _ => hw.trans ?_) h.n0)
    rw [h.1.2.2.2.2.2.1.2.2.2.2.2.1]
end
